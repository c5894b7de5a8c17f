/-! Goal, against a Moment (written by s4.py) -/
set_option maxHeartbeats 4000000 in
set_option maxRecDepth 100000 in
theorem c_X1_isPartMet (l : Launch) (D : va_G) (cI cJ cZ : ClassId) (ag : Nat) (ng : Nat) (a1 : Nat) (a2 : Nat) (a3 : Nat) (am : Nat) (w : Int64) (en : Int32) (lt : Int32) (sh : Int32) (gk : Nat → Int32) (ga : Nat → Int32) (gb : Nat → Int32) (j : Nat) (sco : Int32) (tx : Int32) (hj : j < 4) : Ctr l D cI cJ cZ yX1_isPartMet cX1_isPartMet 6 (some .boolean) ({ frames := 1, cells := 0, slots := 0, locals := 22 } : Room) [.ref ag, .int (nI j), .ref am, .int sco, .int tx] [(ag, .inr (2, [.int (nI ng), .ref a1, .ref a2, .ref a3])), (a1, .inl (cI, 4, .inl gk)), (a2, .inl (cI, 4, .inl ga)), (a3, .inl (cI, 4, .inl gb)), (am, .inr (4, [.long w, .int en, .int lt, .int sh]))] (fun r W => ((r = some (.int 1) ∧ (f_part w en lt sco tx (gk j) (ga j) (gb j) = true)) ∨ (r = some (.int 0) ∧ ¬ (f_part w en lt sco tx (gk j) (ga j) (gb j) = true))) ∧ W = [(ag, .inr (2, [.int (nI ng), .ref a1, .ref a2, .ref a3])), (a1, .inl (cI, 4, .inl gk)), (a2, .inl (cI, 4, .inl ga)), (a3, .inl (cI, 4, .inl gb)), (am, .inr (4, [.long w, .int en, .int lt, .int sh]))]) := by
  refine Ctr.start (by decide +kernel) (Nat.le_of_ble_eq_true rfl) ?_
  intro p e s m below meth c A Q ls H C hQ hA hP hD hS hl
  obtain ⟨hx, hb, hr, hml, hts, hown, hlk, hnm, hK, hN⟩ := id C
  have hl : lv_has ls 6 [(0, .ref ag), (1, .int (nI j)), (2, .ref am), (3, .int sco), (4, .int tx)] := hl
  refine lv_aload_n hx hb dX1_isPartMet_0 rfl (lv_at hl 0 rfl) ?_
  refine r_get (v := .ref a2) C hP okX1 0 2 rfl (by decide) fl_X1_15 rfl rfl dX1_isPartMet_1 ?_
  refine lv_iload_n hx hb dX1_isPartMet_4 rfl (lv_at hl 1 rfl) ?_
  refine r_iald (j := j) C hP 2 rfl (by omega) (by decide) dX1_isPartMet_5 ?_
  refine lv_istore (lv' := [(5, .int (ga j)), (0, .ref ag), (1, .int (nI j)), (2, .ref am), (3, .int sco), (4, .int tx)]) hx hb dX1_isPartMet_6 hl (by decide) rfl (fun ls hl => ?_)
  refine lv_aload_n hx hb dX1_isPartMet_8 rfl (lv_at hl 1 rfl) ?_
  refine r_get (v := .ref a1) C hP okX1 0 1 rfl (by decide) fl_X1_9 rfl rfl dX1_isPartMet_9 ?_
  refine lv_iload_n hx hb dX1_isPartMet_12 rfl (lv_at hl 2 rfl) ?_
  refine r_iald (j := j) C hP 1 rfl (by omega) (by decide) dX1_isPartMet_13 ?_
  by_cases w_14_0 : gk j = 0
  · refine r_top w_14_0 ?_
    refine lv_tableIn (off := 26) (tgt := 40) hx hb dX1_isPartMet_14 (by decide) (by decide) (by decide +kernel) (by decide) ?_
    refine lv_aload_n hx hb dX1_isPartMet_40 rfl (lv_at hl 3 rfl) ?_
    refine r_get (v := .long w) C hP okX3 4 0 rfl (by decide) fl_X1_40 rfl rfl dX1_isPartMet_41 ?_
    refine lv_iload hx hb dX1_isPartMet_44 (lv_at hl 0 rfl) ?_
    refine cl_sn C (c_X9_valueIn l D cI cJ cZ w (ga j)) cd_X9_valueIn (by decide +kernel) st_X9_valueIn in_X9 hd_X9_valueIn ⟨by decide, by decide⟩ hP hD hS hA (WR := [(ag, .inr (2, [.int (nI ng), .ref a1, .ref a2, .ref a3])), (a1, .inl (cI, 4, .inl gk)), (a2, .inl (cI, 4, .inl ga)), (a3, .inl (cI, 4, .inl gb)), (am, .inr (4, [.long w, .int en, .int lt, .int sh]))]) [] [0, 1, 2, 3, 4] rfl rfl rfl rfl (by decide) hl.1 rfl (Nat.le_of_ble_eq_true rfl) dX1_isPartMet_46 ⟨by decide, by decide⟩ (fun r W H locs hp hP hD hS => ?_)
    obtain ⟨rfl, rfl⟩ := hp
    refine W.eq (g2 := F0 m 49 ls [.int (f_valueIn w (ga j))]) rfl ?_
    have hP : va_P D vwCl [(ag, .inr (2, [.int (nI ng), .ref a1, .ref a2, .ref a3])), (a1, .inl (cI, 4, .inl gk)), (a2, .inl (cI, 4, .inl ga)), (a3, .inl (cI, 4, .inl gb)), (am, .inr (4, [.long w, .int en, .int lt, .int sh]))] H := hP
    have hD : va_D A [(ag, .inr (2, [.int (nI ng), .ref a1, .ref a2, .ref a3])), (a1, .inl (cI, 4, .inl gk)), (a2, .inl (cI, 4, .inl ga)), (a3, .inl (cI, 4, .inl gb)), (am, .inr (4, [.long w, .int en, .int lt, .int sh]))] := hD
    refine lv_aload_n hx hb dX1_isPartMet_49 rfl (lv_at hl 1 rfl) ?_
    refine r_get (v := .ref a3) C hP okX1 0 3 rfl (by decide) fl_X1_18 rfl rfl dX1_isPartMet_50 ?_
    refine lv_iload_n hx hb dX1_isPartMet_53 rfl (lv_at hl 2 rfl) ?_
    refine r_iald (j := j) C hP 3 rfl (by omega) (by decide) dX1_isPartMet_54 ?_
    refine lv_icmp_ne (tgt := 62) hx hb dX1_isPartMet_55 (by decide) (fun c_55 => ?_) (fun c_55 => ?_)
    · -- taken 55
      refine lv_iconst (v := 0) hx hb dX1_isPartMet_62 (by decide) ?_
      exact rt_z C hQ (by decide) (hP.sub (ws' := [(ag, .inr (2, [.int (nI ng), .ref a1, .ref a2, .ref a3])), (a1, .inl (cI, 4, .inl gk)), (a2, .inl (cI, 4, .inl ga)), (a3, .inl (cI, 4, .inl gb)), (am, .inr (4, [.long w, .int en, .int lt, .int sh]))]) [0, 1, 2, 3, 4] rfl) (hD.sub [0, 1, 2, 3, 4] (by decide) rfl) hS ⟨Or.inr ⟨rfl, (by simp [f_part, w_14_0, c_55])⟩, rfl⟩ (by decide) (by decide) dX1_isPartMet_63
    · -- not taken 55
      refine lv_iconst (v := 1) hx hb dX1_isPartMet_58 (by decide) ?_
      refine lv_goto (tgt := 63) hx hb dX1_isPartMet_59 (by decide) ?_
      exact rt_z C hQ (by decide) (hP.sub (ws' := [(ag, .inr (2, [.int (nI ng), .ref a1, .ref a2, .ref a3])), (a1, .inl (cI, 4, .inl gk)), (a2, .inl (cI, 4, .inl ga)), (a3, .inl (cI, 4, .inl gb)), (am, .inr (4, [.long w, .int en, .int lt, .int sh]))]) [0, 1, 2, 3, 4] rfl) (hD.sub [0, 1, 2, 3, 4] (by decide) rfl) hS ⟨Or.inl ⟨rfl, (by simp [f_part, w_14_0, c_55])⟩, rfl⟩ (by decide) (by decide) dX1_isPartMet_63
  by_cases w_14_1 : gk j = 1
  · refine r_top w_14_1 ?_
    refine lv_tableIn (off := 50) (tgt := 64) hx hb dX1_isPartMet_14 (by decide) (by decide) (by decide +kernel) (by decide) ?_
    refine lv_iload_n hx hb dX1_isPartMet_64 rfl (lv_at hl 4 rfl) ?_
    refine lv_iload hx hb dX1_isPartMet_65 (lv_at hl 0 rfl) ?_
    refine lv_icmp_lt (tgt := 74) hx hb dX1_isPartMet_67 (by decide) (fun c_67 => ?_) (fun c_67 => ?_)
    · -- taken 67
      refine lv_iconst (v := 0) hx hb dX1_isPartMet_74 (by decide) ?_
      exact rt_z C hQ (by decide) (hP.sub (ws' := [(ag, .inr (2, [.int (nI ng), .ref a1, .ref a2, .ref a3])), (a1, .inl (cI, 4, .inl gk)), (a2, .inl (cI, 4, .inl ga)), (a3, .inl (cI, 4, .inl gb)), (am, .inr (4, [.long w, .int en, .int lt, .int sh]))]) [0, 1, 2, 3, 4] rfl) (hD.sub [0, 1, 2, 3, 4] (by decide) rfl) hS ⟨Or.inr ⟨rfl, (by simp only [f_part, w_14_0, w_14_1]; first | simpa using Int32.not_lt.mp c_67 | simpa using Int32.not_le.mpr c_67 | simpa using c_67)⟩, rfl⟩ (by decide) (by decide) dX1_isPartMet_75
    · -- not taken 67
      refine lv_iconst (v := 1) hx hb dX1_isPartMet_70 (by decide) ?_
      refine lv_goto (tgt := 75) hx hb dX1_isPartMet_71 (by decide) ?_
      exact rt_z C hQ (by decide) (hP.sub (ws' := [(ag, .inr (2, [.int (nI ng), .ref a1, .ref a2, .ref a3])), (a1, .inl (cI, 4, .inl gk)), (a2, .inl (cI, 4, .inl ga)), (a3, .inl (cI, 4, .inl gb)), (am, .inr (4, [.long w, .int en, .int lt, .int sh]))]) [0, 1, 2, 3, 4] rfl) (hD.sub [0, 1, 2, 3, 4] (by decide) rfl) hS ⟨Or.inl ⟨rfl, (by simp only [f_part, w_14_0, w_14_1]; first | simpa using Int32.not_lt.mp c_67 | simpa using Int32.not_le.mpr c_67 | simpa using c_67)⟩, rfl⟩ (by decide) (by decide) dX1_isPartMet_75
  by_cases w_14_2 : gk j = 2
  · refine r_top w_14_2 ?_
    refine lv_tableIn (off := 62) (tgt := 76) hx hb dX1_isPartMet_14 (by decide) (by decide) (by decide +kernel) (by decide) ?_
    refine lv_iload hx hb dX1_isPartMet_76 (lv_at hl 5 rfl) ?_
    refine lv_if_eq (tgt := 90) hx hb dX1_isPartMet_78 (by decide) (fun c_78 => ?_) (fun c_78 => ?_)
    · -- taken 78
      refine lv_iconst (v := 1) hx hb dX1_isPartMet_90 (by decide) ?_
      refine lv_goto (tgt := 95) hx hb dX1_isPartMet_91 (by decide) ?_
      exact rt_z C hQ (by decide) (hP.sub (ws' := [(ag, .inr (2, [.int (nI ng), .ref a1, .ref a2, .ref a3])), (a1, .inl (cI, 4, .inl gk)), (a2, .inl (cI, 4, .inl ga)), (a3, .inl (cI, 4, .inl gb)), (am, .inr (4, [.long w, .int en, .int lt, .int sh]))]) [0, 1, 2, 3, 4] rfl) (hD.sub [0, 1, 2, 3, 4] (by decide) rfl) hS ⟨Or.inl ⟨rfl, (by simp only [f_part, w_14_0, w_14_1, w_14_2]; first | (simp [c_78]; done) | (simp [c_78, c_87]; done))⟩, rfl⟩ (by decide) (by decide) dX1_isPartMet_95
    · -- not taken 78
      refine lv_aload_n hx hb dX1_isPartMet_81 rfl (lv_at hl 3 rfl) ?_
      refine r_get (v := .int lt) C hP okX3 4 2 rfl (by decide) fl_X1_50 rfl rfl dX1_isPartMet_82 ?_
      refine lv_iload hx hb dX1_isPartMet_85 (lv_at hl 0 rfl) ?_
      refine lv_icmp_ne (tgt := 94) hx hb dX1_isPartMet_87 (by decide) (fun c_87 => ?_) (fun c_87 => ?_)
      · -- taken 87
        refine lv_iconst (v := 0) hx hb dX1_isPartMet_94 (by decide) ?_
        exact rt_z C hQ (by decide) (hP.sub (ws' := [(ag, .inr (2, [.int (nI ng), .ref a1, .ref a2, .ref a3])), (a1, .inl (cI, 4, .inl gk)), (a2, .inl (cI, 4, .inl ga)), (a3, .inl (cI, 4, .inl gb)), (am, .inr (4, [.long w, .int en, .int lt, .int sh]))]) [0, 1, 2, 3, 4] rfl) (hD.sub [0, 1, 2, 3, 4] (by decide) rfl) hS ⟨Or.inr ⟨rfl, (by simp only [f_part, w_14_0, w_14_1, w_14_2]; first | (simp [c_78]; done) | (simp [c_78, c_87]; done))⟩, rfl⟩ (by decide) (by decide) dX1_isPartMet_95
      · -- not taken 87
        refine lv_iconst (v := 1) hx hb dX1_isPartMet_90 (by decide) ?_
        refine lv_goto (tgt := 95) hx hb dX1_isPartMet_91 (by decide) ?_
        exact rt_z C hQ (by decide) (hP.sub (ws' := [(ag, .inr (2, [.int (nI ng), .ref a1, .ref a2, .ref a3])), (a1, .inl (cI, 4, .inl gk)), (a2, .inl (cI, 4, .inl ga)), (a3, .inl (cI, 4, .inl gb)), (am, .inr (4, [.long w, .int en, .int lt, .int sh]))]) [0, 1, 2, 3, 4] rfl) (hD.sub [0, 1, 2, 3, 4] (by decide) rfl) hS ⟨Or.inl ⟨rfl, (by simp only [f_part, w_14_0, w_14_1, w_14_2]; first | (simp [c_78]; done) | (simp [c_78, c_87]; done))⟩, rfl⟩ (by decide) (by decide) dX1_isPartMet_95
  refine lv_tableOut (tgt := 96) hx hb dX1_isPartMet_14 (sw_out 2 (by decide) (fun k hk => by match k, hk with | 0, _ => exact w_14_0 | 1, _ => exact w_14_1 | 2, _ => exact w_14_2 | k + 3, hk => exact absurd hk (by omega))) (by decide) ?_
  refine lv_aload_n hx hb dX1_isPartMet_96 rfl (lv_at hl 3 rfl) ?_
  refine r_get (v := .int en) C hP okX3 4 1 rfl (by decide) fl_X1_53 rfl rfl dX1_isPartMet_97 ?_
  refine lv_iload hx hb dX1_isPartMet_100 (lv_at hl 0 rfl) ?_
  refine lv_icmp_ne (tgt := 109) hx hb dX1_isPartMet_102 (by decide) (fun c_102 => ?_) (fun c_102 => ?_)
  · -- taken 102
    refine lv_iconst (v := 0) hx hb dX1_isPartMet_109 (by decide) ?_
    exact rt_z C hQ (by decide) (hP.sub (ws' := [(ag, .inr (2, [.int (nI ng), .ref a1, .ref a2, .ref a3])), (a1, .inl (cI, 4, .inl gk)), (a2, .inl (cI, 4, .inl ga)), (a3, .inl (cI, 4, .inl gb)), (am, .inr (4, [.long w, .int en, .int lt, .int sh]))]) [0, 1, 2, 3, 4] rfl) (hD.sub [0, 1, 2, 3, 4] (by decide) rfl) hS ⟨Or.inr ⟨rfl, (by simp [f_part, w_14_0, w_14_1, w_14_2, c_102])⟩, rfl⟩ (by decide) (by decide) dX1_isPartMet_110
  · -- not taken 102
    refine lv_iconst (v := 1) hx hb dX1_isPartMet_105 (by decide) ?_
    refine lv_goto (tgt := 110) hx hb dX1_isPartMet_106 (by decide) ?_
    exact rt_z C hQ (by decide) (hP.sub (ws' := [(ag, .inr (2, [.int (nI ng), .ref a1, .ref a2, .ref a3])), (a1, .inl (cI, 4, .inl gk)), (a2, .inl (cI, 4, .inl ga)), (a3, .inl (cI, 4, .inl gb)), (am, .inr (4, [.long w, .int en, .int lt, .int sh]))]) [0, 1, 2, 3, 4] rfl) (hD.sub [0, 1, 2, 3, 4] (by decide) rfl) hS ⟨Or.inl ⟨rfl, (by simp [f_part, w_14_0, w_14_1, w_14_2, c_102])⟩, rfl⟩ (by decide) (by decide) dX1_isPartMet_110
set_option maxHeartbeats 4000000 in
set_option maxRecDepth 100000 in
theorem lp_X1_isMet_3 (l : Launch) (D : va_G) (cI cJ cZ : ClassId) (ag : Nat) (ng : Nat) (a1 : Nat) (a2 : Nat) (a3 : Nat) (am : Nat) (w : Int64) (en : Int32) (lt : Int32) (sh : Int32) (gk : Nat → Int32) (ga : Nat → Int32) (gb : Nat → Int32) (sco : Int32) (tx : Int32) (hg : ng ≤ 4)   {p : Program} {e : Env} {s : State} {m : MethodId} {below : List Frame} {meth : Method} {c : Code} {A : Nat → Prop} {Q : State → Prop} (C : Cx D cI cJ cZ p s m ([.ref ag, .ref am, .int sco, .int tx] : List Value).toArray meth c yX1_isMet cX1_isMet 5 (some .boolean)) (hQ : QOK Q below s ([.ref ag, .ref am, .int sco, .int tx] : List Value).toArray D A (fun r W => ((r = some (.int 1) ∧ (f_met w en lt sco tx gk ga gb ng = true)) ∨ (r = some (.int 0) ∧ ¬ (f_met w en lt sco tx gk ga gb ng = true))) ∧ W = [(ag, .inr (2, [.int (nI ng), .ref a1, .ref a2, .ref a3])), (a1, .inl (cI, 4, .inl gk)), (a2, .inl (cI, 4, .inl ga)), (a3, .inl (cI, 4, .inl gb)), (am, .inr (4, [.long w, .int en, .int lt, .int sh]))]) 0 0) (hA : ∀ q, s.heap.size ≤ q → A q) : ∀ (ku : Nat) (i : Nat) (hi : i ≤ ng) (hm : f_met w en lt sco tx gk ga gb i = true), (ng - i) < ku → ∀ (H : Heap) (locs : List Loc) (ls : Array Slot), va_P D vwCl [(ag, .inr (2, [.int (nI ng), .ref a1, .ref a2, .ref a3])), (a1, .inl (cI, 4, .inl gk)), (a2, .inl (cI, 4, .inl ga)), (a3, .inl (cI, 4, .inl gb)), (am, .inr (4, [.long w, .int en, .int lt, .int sh]))] H → va_D A [(ag, .inr (2, [.int (nI ng), .ref a1, .ref a2, .ref a3])), (a1, .inl (cI, 4, .inl gk)), (a2, .inl (cI, 4, .inl ga)), (a3, .inl (cI, 4, .inl gb)), (am, .inr (4, [.long w, .int en, .int lt, .int sh]))] → va_S A s.heap H locs → lv_has ls 5 [(0, .ref ag), (1, .ref am), (2, .int sco), (3, .int tx), (4, .int (nI i))] → W p l e ({ frames := 2, cells := 0, slots := 0, locals := 47 } : Room) s m ([.ref ag, .ref am, .int sco, .int tx] : List Value).toArray below meth c H locs 0 0 Q (F0 m 3 ls []) := by
  obtain ⟨hx, hb, hr, hml, hts, hown, hlk, hnm, hK, hN⟩ := id C
  intro ku
  induction ku with
  | zero =>
    intro i hi hm hku
    exact absurd hku (Nat.not_lt_zero _)
  | succ ku ih =>
    intro i hi hm hku H locs ls hP hD hS hl
    refine lv_iload hx hb dX1_isMet_3 (lv_at hl 4 rfl) ?_
    refine lv_aload_n hx hb dX1_isMet_5 rfl (lv_at hl 0 rfl) ?_
    refine r_get (v := .int (nI ng)) C hP okX1 0 0 rfl (by decide) fl_X1_32 rfl rfl dX1_isMet_6 ?_
    refine lv_icmp_ge (tgt := 32) hx hb dX1_isMet_9 (by decide) (fun c_9 => ?_) (fun c_9 => ?_)
    · -- taken 9
      have c_9 : ng ≤ i := (nI_leI (a := ng) (b := i) (by omega) (by omega)).mp c_9
      refine lv_iconst (v := 1) hx hb dX1_isMet_32 (by decide) ?_
      exact rt_z C hQ (by decide) (hP.sub (ws' := [(ag, .inr (2, [.int (nI ng), .ref a1, .ref a2, .ref a3])), (a1, .inl (cI, 4, .inl gk)), (a2, .inl (cI, 4, .inl ga)), (a3, .inl (cI, 4, .inl gb)), (am, .inr (4, [.long w, .int en, .int lt, .int sh]))]) [0, 1, 2, 3, 4] rfl) (hD.sub [0, 1, 2, 3, 4] (by decide) rfl) hS ⟨Or.inl ⟨rfl, by rw [show ng = i by omega]; exact hm⟩, rfl⟩ (by decide) (by decide) dX1_isMet_33
    · -- not taken 9
      have c_9 : ¬ (ng ≤ i) := fun z => c_9 ((nI_leI (a := ng) (b := i) (by omega) (by omega)).mpr z)
      refine lv_aload_n hx hb dX1_isMet_12 rfl (lv_at hl 0 rfl) ?_
      refine lv_iload hx hb dX1_isMet_13 (lv_at hl 4 rfl) ?_
      refine lv_aload_n hx hb dX1_isMet_15 rfl (lv_at hl 1 rfl) ?_
      refine lv_iload_n hx hb dX1_isMet_16 rfl (lv_at hl 2 rfl) ?_
      refine lv_iload_n hx hb dX1_isMet_17 rfl (lv_at hl 3 rfl) ?_
      refine cl_v C (c_X1_isPartMet l D cI cJ cZ ag ng a1 a2 a3 am w en lt sh gk ga gb i sco tx (by omega)) cd_X1_isPartMet ml_X1_36 im_X1_isPartMet se_X1_isPartMet in_X1 hd_X1_isPartMet ⟨by decide, by decide⟩ hP hD hS hA (WR := []) [0, 1, 2, 3, 4] [] rfl rfl rfl rfl (by decide) (ci := 2) (q0 := 0) rfl rfl hl.1 rfl (Nat.le_of_ble_eq_true rfl) dX1_isMet_18 ⟨by decide, by decide⟩ (fun r W H locs hp hP hD hS => ?_)
      rcases hp with ⟨⟨rfl, hb_18⟩ | ⟨rfl, hb_18⟩, rfl⟩
      · -- yes 18
        refine W.eq (g2 := F0 m 21 ls [.int 1]) rfl ?_
        have hP : va_P D vwCl [(ag, .inr (2, [.int (nI ng), .ref a1, .ref a2, .ref a3])), (a1, .inl (cI, 4, .inl gk)), (a2, .inl (cI, 4, .inl ga)), (a3, .inl (cI, 4, .inl gb)), (am, .inr (4, [.long w, .int en, .int lt, .int sh]))] H := hP
        have hD : va_D A [(ag, .inr (2, [.int (nI ng), .ref a1, .ref a2, .ref a3])), (a1, .inl (cI, 4, .inl gk)), (a2, .inl (cI, 4, .inl ga)), (a3, .inl (cI, 4, .inl gb)), (am, .inr (4, [.long w, .int en, .int lt, .int sh]))] := hD
        refine lv_if_ne (tgt := 26) hx hb dX1_isMet_21 (by decide) (fun c_21 => ?_) (fun c_21 => ?_)
        rotate_left
        · exact absurd c_21 (by decide)
        refine lv_iinc (v := nI (i + 1)) (lv' := [(4, .int (nI (i + 1))), (0, .ref ag), (1, .ref am), (2, .int sco), (3, .int tx)]) hx hb dX1_isMet_26 hl (k := 4) rfl (nI_1 _) (by decide) rfl (fun ls hl => ?_)
        refine lv_goto (tgt := 3) hx hb dX1_isMet_29 (by decide) ?_
        exact ih (i + 1) (by omega) (by simp only [f_met, Bool.and_eq_true]; exact ⟨hm, hb_18⟩) (by omega) _ _ _ (hP.sub [0, 1, 2, 3, 4] rfl) (hD.sub [0, 1, 2, 3, 4] (by decide) rfl) hS (lv_sub hl [1, 2, 3, 4, 0] rfl)
      · -- no 18
        refine W.eq (g2 := F0 m 21 ls [.int 0]) rfl ?_
        have hP : va_P D vwCl [(ag, .inr (2, [.int (nI ng), .ref a1, .ref a2, .ref a3])), (a1, .inl (cI, 4, .inl gk)), (a2, .inl (cI, 4, .inl ga)), (a3, .inl (cI, 4, .inl gb)), (am, .inr (4, [.long w, .int en, .int lt, .int sh]))] H := hP
        have hD : va_D A [(ag, .inr (2, [.int (nI ng), .ref a1, .ref a2, .ref a3])), (a1, .inl (cI, 4, .inl gk)), (a2, .inl (cI, 4, .inl ga)), (a3, .inl (cI, 4, .inl gb)), (am, .inr (4, [.long w, .int en, .int lt, .int sh]))] := hD
        refine lv_if_ne (tgt := 26) hx hb dX1_isMet_21 (by decide) (fun c_21 => ?_) (fun c_21 => ?_)
        · exact absurd c_21 (by decide)
        refine lv_iconst (v := 0) hx hb dX1_isMet_24 (by decide) ?_
        exact rt_z C hQ (by decide) (hP.sub (ws' := [(ag, .inr (2, [.int (nI ng), .ref a1, .ref a2, .ref a3])), (a1, .inl (cI, 4, .inl gk)), (a2, .inl (cI, 4, .inl ga)), (a3, .inl (cI, 4, .inl gb)), (am, .inr (4, [.long w, .int en, .int lt, .int sh]))]) [0, 1, 2, 3, 4] rfl) (hD.sub [0, 1, 2, 3, 4] (by decide) rfl) hS ⟨Or.inr ⟨rfl, f_met_no ng (by omega) hb_18⟩, rfl⟩ (by decide) (by decide) dX1_isMet_25
set_option maxHeartbeats 4000000 in
set_option maxRecDepth 100000 in
theorem c_X1_isMet (l : Launch) (D : va_G) (cI cJ cZ : ClassId) (ag : Nat) (ng : Nat) (a1 : Nat) (a2 : Nat) (a3 : Nat) (am : Nat) (w : Int64) (en : Int32) (lt : Int32) (sh : Int32) (gk : Nat → Int32) (ga : Nat → Int32) (gb : Nat → Int32) (sco : Int32) (tx : Int32) (hg : ng ≤ 4) : Ctr l D cI cJ cZ yX1_isMet cX1_isMet 5 (some .boolean) ({ frames := 2, cells := 0, slots := 0, locals := 47 } : Room) [.ref ag, .ref am, .int sco, .int tx] [(ag, .inr (2, [.int (nI ng), .ref a1, .ref a2, .ref a3])), (a1, .inl (cI, 4, .inl gk)), (a2, .inl (cI, 4, .inl ga)), (a3, .inl (cI, 4, .inl gb)), (am, .inr (4, [.long w, .int en, .int lt, .int sh]))] (fun r W => ((r = some (.int 1) ∧ (f_met w en lt sco tx gk ga gb ng = true)) ∨ (r = some (.int 0) ∧ ¬ (f_met w en lt sco tx gk ga gb ng = true))) ∧ W = [(ag, .inr (2, [.int (nI ng), .ref a1, .ref a2, .ref a3])), (a1, .inl (cI, 4, .inl gk)), (a2, .inl (cI, 4, .inl ga)), (a3, .inl (cI, 4, .inl gb)), (am, .inr (4, [.long w, .int en, .int lt, .int sh]))]) := by
  refine Ctr.start (by decide +kernel) (Nat.le_of_ble_eq_true rfl) ?_
  intro p e s m below meth c A Q ls H C hQ hA hP hD hS hl
  obtain ⟨hx, hb, hr, hml, hts, hown, hlk, hnm, hK, hN⟩ := id C
  have hl : lv_has ls 5 [(0, .ref ag), (1, .ref am), (2, .int sco), (3, .int tx)] := hl
  refine lv_iconst (v := 0) hx hb dX1_isMet_0 (by decide) ?_
  refine lv_istore (lv' := [(4, .int 0), (0, .ref ag), (1, .ref am), (2, .int sco), (3, .int tx)]) hx hb dX1_isMet_1 hl (by decide) rfl (fun ls hl => ?_)
  exact lp_X1_isMet_3 l D cI cJ cZ ag ng a1 a2 a3 am w en lt sh gk ga gb sco tx hg   C hQ hA _ 0 (by omega) rfl (Nat.lt_succ_self _) _ _ _ (hP.sub [0, 1, 2, 3, 4] rfl) (hD.sub [0, 1, 2, 3, 4] (by decide) rfl) hS (lv_sub hl [1, 2, 3, 4, 0] rfl)
