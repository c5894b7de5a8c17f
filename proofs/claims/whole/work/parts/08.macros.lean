/-! Macros, Goal (written by s3.py) -/
/-- how many MOVES a STEP has, and which -/
def f_size (sz : Nat → Int32) (st : Nat) : Int32 := if st < 100 then 1 else sz (st - 100)
def f_mvof (ro : Nat → Int32) (st i : Nat) : Int32 := if st < 100 then nI st else ro ((st - 100) * 6 + i)
def f_isPart (n : Nat) (k a b : Int32) : Bool := if k = 0 then inR a n && rg b 0 9 else if k = 1 then true else if k = 2 then rg a 0 31 else if k = 3 then rg a 1 9 else false
/-- whether one of THE GOAL is so -/
def f_part (w : Int64) (en lt sco : Int32) (tx : Int32) (k a b : Int32) : Bool := if k = 0 then decide (f_valueIn w a = b) else if k = 1 then decide (a ≤ sco) else if k = 2 then (decide (tx = 0) || decide (lt = a)) else decide (en = a)
/-- whether the first n of THE GOAL are so -/
def f_met (w : Int64) (en lt sco tx : Int32) (gk ga gb : Nat → Int32) : Nat → Bool
  | 0 => true
  | j + 1 => f_met w en lt sco tx gk ga gb j && f_part w en lt sco tx (gk j) (ga j) (gb j)
theorem f_met_no {w : Int64} {en lt sco tx : Int32} {gk ga gb : Nat → Int32} {j : Nat} : ∀ n, j < n → ¬ f_part w en lt sco tx (gk j) (ga j) (gb j) = true → ¬ f_met w en lt sco tx gk ga gb n = true
  | 0, h, _ => absurd h (Nat.not_lt_zero _)
  | n + 1, h, hp => fun z => by
    simp only [f_met, Bool.and_eq_true] at z
    rcases Nat.lt_or_ge j n with q | q
    · exact f_met_no n q hp z.1
    · have : j = n := by omega
      subst this
      exact hp z.2
set_option maxHeartbeats 4000000 in
set_option maxRecDepth 100000 in
theorem c_X2_init (l : Launch) (D : va_G) (cI cJ cZ : ClassId) (ak : Nat)  : Ctr l D cI cJ cZ yX2_init cX2_init 1 none ({ frames := 1, cells := 3, slots := 62, locals := 12 } : Room) [.ref ak] [(ak, .inr (3, [.int 0, .int 0, .null, .null, .null]))] (fun r W => ∃ (q1 : Nat) (q2 : Nat) (q3 : Nat), r = none ∧ W = [(ak, .inr (3, [.int 0, .int 0, .ref q1, .ref q2, .ref q3])), (q1, .inl (cI, 6, .inl (fun _ => 0))), (q2, .inl (cI, 8, .inl (fun _ => 0))), (q3, .inl (cI, 48, .inl (fun _ => 0)))]) := by
  refine Ctr.start (by decide +kernel) (Nat.le_of_ble_eq_true rfl) ?_
  intro p e s m below meth c A Q ls H C hQ hA hP hD hS hl
  obtain ⟨hx, hb, hr, hml, hts, hown, hlk, hnm, hK, hN⟩ := id C
  have hl : lv_has ls 1 [(0, .ref ak)] := hl
  refine lv_aload_n hx hb dX2_init_0 rfl (lv_at hl 0 rfl) ?_
  refine W.objInit hx hb hown (hts _ ml_X2_3) (hts _ im_objectInit) (hts _ cd_objectInit) rfl (by rw [hml]; exact hl.1) rfl dX2_init_1 (by decide) (Nat.le_of_ble_eq_true rfl) ?_
  refine W.eq (g2 := F0 m 4 ls []) rfl ?_
  refine lv_aload_n hx hb dX2_init_4 rfl (lv_at hl 0 rfl) ?_
  refine lv_bipush (v := 6) hx hb dX2_init_5 (by decide) ?_
  refine va_newa (atype := .int) (a0 := (6, .inl (fun _ => 0))) (N' := 6) hx hb (hts _ ac_int) rfl hK hP hD hS hA (fun _ => rfl) (by decide) (by decide +kernel) (by decide) (by decide) (by decide) dX2_init_7 (fun q_1 cA H hK' hP hD hS => ?_)
  obtain rfl : cI = cA := (va_sameI hK').symm
  have hP : va_P D vwCl [(ak, .inr (3, [.int 0, .int 0, .null, .null, .null])), (q_1, .inl (cI, 6, .inl (fun _ => 0)))] H := hP
  have hD : va_D A [(ak, .inr (3, [.int 0, .int 0, .null, .null, .null])), (q_1, .inl (cI, 6, .inl (fun _ => 0)))] := hD
  refine W.widen (k := 1) (n := 6) (by decide) (by decide) ?_
  refine r_putF (v := .ref q_1) C hP hD hS okX2 0 2 rfl (by decide) fl_X2_9 rfl rfl rfl rfl rfl rfl (Nat.le_of_ble_eq_true rfl) dX2_init_9 (fun H locs hP hD hS => ?_)
  have hP : va_P D vwCl [(ak, .inr (3, [.int 0, .int 0, .ref q_1, .null, .null])), (q_1, .inl (cI, 6, .inl (fun _ => 0)))] H := hP
  have hD : va_D A [(ak, .inr (3, [.int 0, .int 0, .ref q_1, .null, .null])), (q_1, .inl (cI, 6, .inl (fun _ => 0)))] := hD
  refine lv_aload_n hx hb dX2_init_12 rfl (lv_at hl 0 rfl) ?_
  refine lv_bipush (v := 8) hx hb dX2_init_13 (by decide) ?_
  refine va_newa (atype := .int) (a0 := (8, .inl (fun _ => 0))) (N' := 8) hx hb (hts _ ac_int) rfl hK hP hD hS hA (fun _ => rfl) (by decide) (by decide +kernel) (by decide) (by decide) (by decide) dX2_init_15 (fun q_2 cA H hK' hP hD hS => ?_)
  obtain rfl : cI = cA := (va_sameI hK').symm
  have hP : va_P D vwCl [(ak, .inr (3, [.int 0, .int 0, .ref q_1, .null, .null])), (q_1, .inl (cI, 6, .inl (fun _ => 0))), (q_2, .inl (cI, 8, .inl (fun _ => 0)))] H := hP
  have hD : va_D A [(ak, .inr (3, [.int 0, .int 0, .ref q_1, .null, .null])), (q_1, .inl (cI, 6, .inl (fun _ => 0))), (q_2, .inl (cI, 8, .inl (fun _ => 0)))] := hD
  refine W.widen (k := 2) (n := 14) (by decide) (by decide) ?_
  refine r_putF (v := .ref q_2) C hP hD hS okX2 0 3 rfl (by decide) fl_X2_15 rfl rfl rfl rfl rfl rfl (Nat.le_of_ble_eq_true rfl) dX2_init_17 (fun H locs hP hD hS => ?_)
  have hP : va_P D vwCl [(ak, .inr (3, [.int 0, .int 0, .ref q_1, .ref q_2, .null])), (q_1, .inl (cI, 6, .inl (fun _ => 0))), (q_2, .inl (cI, 8, .inl (fun _ => 0)))] H := hP
  have hD : va_D A [(ak, .inr (3, [.int 0, .int 0, .ref q_1, .ref q_2, .null])), (q_1, .inl (cI, 6, .inl (fun _ => 0))), (q_2, .inl (cI, 8, .inl (fun _ => 0)))] := hD
  refine lv_aload_n hx hb dX2_init_20 rfl (lv_at hl 0 rfl) ?_
  refine lv_bipush (v := 48) hx hb dX2_init_21 (by decide) ?_
  refine va_newa (atype := .int) (a0 := (48, .inl (fun _ => 0))) (N' := 48) hx hb (hts _ ac_int) rfl hK hP hD hS hA (fun _ => rfl) (by decide) (by decide +kernel) (by decide) (by decide) (by decide) dX2_init_23 (fun q_3 cA H hK' hP hD hS => ?_)
  obtain rfl : cI = cA := (va_sameI hK').symm
  have hP : va_P D vwCl [(ak, .inr (3, [.int 0, .int 0, .ref q_1, .ref q_2, .null])), (q_1, .inl (cI, 6, .inl (fun _ => 0))), (q_2, .inl (cI, 8, .inl (fun _ => 0))), (q_3, .inl (cI, 48, .inl (fun _ => 0)))] H := hP
  have hD : va_D A [(ak, .inr (3, [.int 0, .int 0, .ref q_1, .ref q_2, .null])), (q_1, .inl (cI, 6, .inl (fun _ => 0))), (q_2, .inl (cI, 8, .inl (fun _ => 0))), (q_3, .inl (cI, 48, .inl (fun _ => 0)))] := hD
  refine W.widen (k := 3) (n := 62) (by decide) (by decide) ?_
  refine r_putF (v := .ref q_3) C hP hD hS okX2 0 4 rfl (by decide) fl_X2_18 rfl rfl rfl rfl rfl rfl (Nat.le_of_ble_eq_true rfl) dX2_init_25 (fun H locs hP hD hS => ?_)
  have hP : va_P D vwCl [(ak, .inr (3, [.int 0, .int 0, .ref q_1, .ref q_2, .ref q_3])), (q_1, .inl (cI, 6, .inl (fun _ => 0))), (q_2, .inl (cI, 8, .inl (fun _ => 0))), (q_3, .inl (cI, 48, .inl (fun _ => 0)))] H := hP
  have hD : va_D A [(ak, .inr (3, [.int 0, .int 0, .ref q_1, .ref q_2, .ref q_3])), (q_1, .inl (cI, 6, .inl (fun _ => 0))), (q_2, .inl (cI, 8, .inl (fun _ => 0))), (q_3, .inl (cI, 48, .inl (fun _ => 0)))] := hD
  exact rt_v C hQ (hP.sub (ws' := [(ak, .inr (3, [.int 0, .int 0, .ref q_1, .ref q_2, .ref q_3])), (q_1, .inl (cI, 6, .inl (fun _ => 0))), (q_2, .inl (cI, 8, .inl (fun _ => 0))), (q_3, .inl (cI, 48, .inl (fun _ => 0)))]) [0, 1, 2, 3] rfl) (hD.sub [0, 1, 2, 3] (by decide) rfl) hS ⟨q_1, q_2, q_3, rfl, rfl⟩ (by decide) (by decide) dX2_init_28
set_option maxHeartbeats 4000000 in
set_option maxRecDepth 100000 in
theorem c_X2_addToDraft (l : Launch) (D : va_G) (cI cJ cZ : ClassId) (ak : Nat) (nk : Nat) (nd : Nat) (ad : Nat) (as : Nat) (ar : Nat) (dr : Nat → Int32) (mv : Int32) (hd : nd ≤ 6) : Ctr l D cI cJ cZ yX2_addToDraft cX2_addToDraft 2 (some .int) ({ frames := 0, cells := 0, slots := 0, locals := 0 } : Room) [.ref ak, .int mv] [(ak, .inr (3, [.int (nI nk), .int (nI nd), .ref ad, .ref as, .ref ar])), (ad, .inl (cI, 6, .inl dr))] (fun r W => r = some (.int (if nd < 6 then nI (nd + 1) else -1)) ∧ W = [(ak, .inr (3, [.int (nI nk), .int (nI (if nd < 6 then nd + 1 else nd)), .ref ad, .ref as, .ref ar])), (ad, .inl (cI, 6, .inl (if nd < 6 then upd dr nd mv else dr)))]) := by
  refine Ctr.start (by decide +kernel) (Nat.le_of_ble_eq_true rfl) ?_
  intro p e s m below meth c A Q ls H C hQ hA hP hD hS hl
  obtain ⟨hx, hb, hr, hml, hts, hown, hlk, hnm, hK, hN⟩ := id C
  have hl : lv_has ls 2 [(0, .ref ak), (1, .int mv)] := hl
  refine lv_aload_n hx hb dX2_addToDraft_0 rfl (lv_at hl 0 rfl) ?_
  refine r_get (v := .int (nI nd)) C hP okX2 0 1 rfl (by decide) fl_X2_21 rfl rfl dX2_addToDraft_1 ?_
  refine lv_bipush (v := 6) hx hb dX2_addToDraft_4 (by decide) ?_
  refine lv_icmp_lt (tgt := 11) hx hb dX2_addToDraft_6 (by decide) (fun c_6 => ?_) (fun c_6 => ?_)
  · -- taken 6
    have c_6 : nd < 6 := (nI_ltI (a := nd) (b := 6) (by omega) (by omega)).mp c_6
    refine lv_aload_n hx hb dX2_addToDraft_11 rfl (lv_at hl 0 rfl) ?_
    refine r_get (v := .ref ad) C hP okX2 0 2 rfl (by decide) fl_X2_9 rfl rfl dX2_addToDraft_12 ?_
    refine lv_aload_n hx hb dX2_addToDraft_15 rfl (lv_at hl 0 rfl) ?_
    refine lv_dup hx hb dX2_addToDraft_16 rfl ?_
    refine r_get (v := .int (nI nd)) C hP okX2 0 1 rfl (by decide) fl_X2_21 rfl rfl dX2_addToDraft_17 ?_
    refine lv_dup_x1 hx hb dX2_addToDraft_20 rfl rfl ?_
    refine lv_iconst (v := 1) hx hb dX2_addToDraft_21 (by decide) ?_
    refine lv_iadd hx hb dX2_addToDraft_22 ?_
    refine r_top (x' := nI (nd + 1)) (nI_add nd 1) ?_
    refine r_put (v := .int (nI (nd + 1))) C hP hD hS okX2 0 1 rfl (by decide) fl_X2_21 rfl rfl rfl rfl (Nat.le_of_ble_eq_true rfl) dX2_addToDraft_23 (fun H locs hP hD hS => ?_)
    have hP : va_P D vwCl [(ak, .inr (3, [.int (nI nk), .int (nI (nd + 1)), .ref ad, .ref as, .ref ar])), (ad, .inl (cI, 6, .inl dr))] H := hP
    have hD : va_D A [(ak, .inr (3, [.int (nI nk), .int (nI (nd + 1)), .ref ad, .ref as, .ref ar])), (ad, .inl (cI, 6, .inl dr))] := hD
    refine lv_iload_n hx hb dX2_addToDraft_26 rfl (lv_at hl 1 rfl) ?_
    refine r_iast (j := nd) C hP hD hS 1 rfl (by omega) (by decide) dX2_addToDraft_27 (fun H locs hP hD hS => ?_)
    have hP : va_P D vwCl [(ak, .inr (3, [.int (nI nk), .int (nI (nd + 1)), .ref ad, .ref as, .ref ar])), (ad, .inl (cI, 6, .inl (upd dr nd mv)))] H := hP
    have hD : va_D A [(ak, .inr (3, [.int (nI nk), .int (nI (nd + 1)), .ref ad, .ref as, .ref ar])), (ad, .inl (cI, 6, .inl (upd dr nd mv)))] := hD
    refine lv_aload_n hx hb dX2_addToDraft_28 rfl (lv_at hl 0 rfl) ?_
    refine r_get (v := .int (nI (nd + 1))) C hP okX2 0 1 rfl (by decide) fl_X2_21 rfl rfl dX2_addToDraft_29 ?_
    exact rt_i C hQ (hP.sub (ws' := [(ak, .inr (3, [.int (nI nk), .int (nI (nd + 1)), .ref ad, .ref as, .ref ar])), (ad, .inl (cI, 6, .inl (upd dr nd mv)))]) [0, 1] rfl) (hD.sub [0, 1] (by decide) rfl) hS ⟨by simp only [c_6, if_true, if_false, if_pos, if_neg, not_false_eq_true], by simp only [c_6, if_true, if_false, if_pos, if_neg, not_false_eq_true]⟩ (by decide) (by decide) dX2_addToDraft_32
  · -- not taken 6
    have c_6 : ¬ (nd < 6) := fun z => c_6 ((nI_ltI (a := nd) (b := 6) (by omega) (by omega)).mpr z)
    refine lv_iconst (v := (-1)) hx hb dX2_addToDraft_9 (by decide) ?_
    exact rt_i C hQ (hP.sub (ws' := [(ak, .inr (3, [.int (nI nk), .int (nI nd), .ref ad, .ref as, .ref ar])), (ad, .inl (cI, 6, .inl dr))]) [0, 1] rfl) (hD.sub [0, 1] (by decide) rfl) hS ⟨by simp only [c_6, if_true, if_false, if_pos, if_neg, not_false_eq_true], by simp only [c_6, if_true, if_false, if_pos, if_neg, not_false_eq_true]⟩ (by decide) (by decide) dX2_addToDraft_10
set_option maxHeartbeats 4000000 in
set_option maxRecDepth 100000 in
theorem c_X2_addDraft (l : Launch) (D : va_G) (cI cJ cZ : ClassId) (ak : Nat) (nk : Nat) (nd : Nat) (ad : Nat) (as : Nat) (ar : Nat) (dr : Nat → Int32) (sz : Nat → Int32) (ro : Nat → Int32) (hd : nd ≤ 6) (hk : nk ≤ 8) : Ctr l D cI cJ cZ yX2_addDraft cX2_addDraft 1 (some .int) ({ frames := 1, cells := 0, slots := 0, locals := 80 } : Room) [.ref ak] [(ak, .inr (3, [.int (nI nk), .int (nI nd), .ref ad, .ref as, .ref ar])), (ad, .inl (cI, 6, .inl dr)), (as, .inl (cI, 8, .inl sz)), (ar, .inl (cI, 48, .inl ro))] (fun r W => r = some (.int (if 2 ≤ nd ∧ nk < 8 then nI nk else -1)) ∧ W = [(ak, .inr (3, [.int (nI (if 2 ≤ nd ∧ nk < 8 then nk + 1 else nk)), .int (nI (if 2 ≤ nd ∧ nk < 8 then 0 else nd)), .ref ad, .ref as, .ref ar])), (ad, .inl (cI, 6, .inl dr)), (as, .inl (cI, 8, .inl (if 2 ≤ nd ∧ nk < 8 then upd sz nk (nI nd) else sz))), (ar, .inl (cI, 48, .inl (if 2 ≤ nd ∧ nk < 8 then va_cpy dr ro 0 (nk * 6) nd else ro)))]) := by
  refine Ctr.start (by decide +kernel) (Nat.le_of_ble_eq_true rfl) ?_
  intro p e s m below meth c A Q ls H C hQ hA hP hD hS hl
  obtain ⟨hx, hb, hr, hml, hts, hown, hlk, hnm, hK, hN⟩ := id C
  have hl : lv_has ls 1 [(0, .ref ak)] := hl
  refine lv_aload_n hx hb dX2_addDraft_0 rfl (lv_at hl 0 rfl) ?_
  refine r_get (v := .int (nI nd)) C hP okX2 0 1 rfl (by decide) fl_X2_21 rfl rfl dX2_addDraft_1 ?_
  refine lv_iconst (v := 2) hx hb dX2_addDraft_4 (by decide) ?_
  refine lv_icmp_lt (tgt := 17) hx hb dX2_addDraft_5 (by decide) (fun c_5 => ?_) (fun c_5 => ?_)
  · -- taken 5
    have c_5 : nd < 2 := (nI_ltI (a := nd) (b := 2) (by omega) (by omega)).mp c_5
    have hP_ : ¬ (2 ≤ nd ∧ nk < 8) := by omega
    refine lv_iconst (v := (-1)) hx hb dX2_addDraft_17 (by decide) ?_
    exact rt_i C hQ (hP.sub (ws' := [(ak, .inr (3, [.int (nI nk), .int (nI nd), .ref ad, .ref as, .ref ar])), (ad, .inl (cI, 6, .inl dr)), (as, .inl (cI, 8, .inl sz)), (ar, .inl (cI, 48, .inl ro))]) [0, 1, 2, 3] rfl) (hD.sub [0, 1, 2, 3] (by decide) rfl) hS ⟨by rw [if_neg hP_], by simp only [if_neg hP_]⟩ (by decide) (by decide) dX2_addDraft_18
  · -- not taken 5
    have c_5 : ¬ (nd < 2) := fun z => c_5 ((nI_ltI (a := nd) (b := 2) (by omega) (by omega)).mpr z)
    refine lv_aload_n hx hb dX2_addDraft_8 rfl (lv_at hl 0 rfl) ?_
    refine r_get (v := .int (nI nk)) C hP okX2 0 0 rfl (by decide) fl_X2_25 rfl rfl dX2_addDraft_9 ?_
    refine lv_bipush (v := 8) hx hb dX2_addDraft_12 (by decide) ?_
    refine lv_icmp_lt (tgt := 19) hx hb dX2_addDraft_14 (by decide) (fun c_14 => ?_) (fun c_14 => ?_)
    · -- taken 14
      have c_14 : nk < 8 := (nI_ltI (a := nk) (b := 8) (by omega) (by omega)).mp c_14
      have hP_ : 2 ≤ nd ∧ nk < 8 := by omega
      refine lv_aload_n hx hb dX2_addDraft_19 rfl (lv_at hl 0 rfl) ?_
      refine r_get (v := .ref ad) C hP okX2 0 2 rfl (by decide) fl_X2_9 rfl rfl dX2_addDraft_20 ?_
      refine lv_iconst (v := 0) hx hb dX2_addDraft_23 (by decide) ?_
      refine lv_aload_n hx hb dX2_addDraft_24 rfl (lv_at hl 0 rfl) ?_
      refine r_get (v := .ref ar) C hP okX2 0 4 rfl (by decide) fl_X2_18 rfl rfl dX2_addDraft_25 ?_
      refine lv_aload_n hx hb dX2_addDraft_28 rfl (lv_at hl 0 rfl) ?_
      refine r_get (v := .int (nI nk)) C hP okX2 0 0 rfl (by decide) fl_X2_25 rfl rfl dX2_addDraft_29 ?_
      refine lv_bipush (v := 6) hx hb dX2_addDraft_32 (by decide) ?_
      refine lv_imul hx hb dX2_addDraft_34 ?_
      refine r_top (x' := nI (nk * 6)) (pk_mul nk 6) ?_
      refine lv_aload_n hx hb dX2_addDraft_35 rfl (lv_at hl 0 rfl) ?_
      refine r_get (v := .int (nI nd)) C hP okX2 0 1 rfl (by decide) fl_X2_21 rfl rfl dX2_addDraft_36 ?_
      refine r_copy (sp := 0) (dp := nk * 6) (n := nd) C hP hD hS 1 3 rfl rfl ⟨by omega, by decide⟩ ⟨by omega, by decide⟩ ml_X2_28 (by decide) (by decide) hl.1 dX2_addDraft_39 (fun H locs hP hD hS => ?_)
      have hP : va_P D vwCl [(ak, .inr (3, [.int (nI nk), .int (nI nd), .ref ad, .ref as, .ref ar])), (ad, .inl (cI, 6, .inl dr)), (as, .inl (cI, 8, .inl sz)), (ar, .inl (cI, 48, .inl (va_cpy dr ro 0 (nk * 6) nd)))] H := hP
      have hD : va_D A [(ak, .inr (3, [.int (nI nk), .int (nI nd), .ref ad, .ref as, .ref ar])), (ad, .inl (cI, 6, .inl dr)), (as, .inl (cI, 8, .inl sz)), (ar, .inl (cI, 48, .inl (va_cpy dr ro 0 (nk * 6) nd)))] := hD
      refine lv_aload_n hx hb dX2_addDraft_42 rfl (lv_at hl 0 rfl) ?_
      refine r_get (v := .ref as) C hP okX2 0 3 rfl (by decide) fl_X2_15 rfl rfl dX2_addDraft_43 ?_
      refine lv_aload_n hx hb dX2_addDraft_46 rfl (lv_at hl 0 rfl) ?_
      refine r_get (v := .int (nI nk)) C hP okX2 0 0 rfl (by decide) fl_X2_25 rfl rfl dX2_addDraft_47 ?_
      refine lv_aload_n hx hb dX2_addDraft_50 rfl (lv_at hl 0 rfl) ?_
      refine r_get (v := .int (nI nd)) C hP okX2 0 1 rfl (by decide) fl_X2_21 rfl rfl dX2_addDraft_51 ?_
      refine r_iast (j := nk) C hP hD hS 2 rfl (by omega) (by decide) dX2_addDraft_54 (fun H locs hP hD hS => ?_)
      have hP : va_P D vwCl [(ak, .inr (3, [.int (nI nk), .int (nI nd), .ref ad, .ref as, .ref ar])), (ad, .inl (cI, 6, .inl dr)), (as, .inl (cI, 8, .inl (upd sz nk (nI nd)))), (ar, .inl (cI, 48, .inl (va_cpy dr ro 0 (nk * 6) nd)))] H := hP
      have hD : va_D A [(ak, .inr (3, [.int (nI nk), .int (nI nd), .ref ad, .ref as, .ref ar])), (ad, .inl (cI, 6, .inl dr)), (as, .inl (cI, 8, .inl (upd sz nk (nI nd)))), (ar, .inl (cI, 48, .inl (va_cpy dr ro 0 (nk * 6) nd)))] := hD
      refine lv_aload_n hx hb dX2_addDraft_55 rfl (lv_at hl 0 rfl) ?_
      refine lv_iconst (v := 0) hx hb dX2_addDraft_56 (by decide) ?_
      refine r_put (v := .int 0) C hP hD hS okX2 0 1 rfl (by decide) fl_X2_21 rfl rfl rfl rfl (Nat.le_of_ble_eq_true rfl) dX2_addDraft_57 (fun H locs hP hD hS => ?_)
      have hP : va_P D vwCl [(ak, .inr (3, [.int (nI nk), .int 0, .ref ad, .ref as, .ref ar])), (ad, .inl (cI, 6, .inl dr)), (as, .inl (cI, 8, .inl (upd sz nk (nI nd)))), (ar, .inl (cI, 48, .inl (va_cpy dr ro 0 (nk * 6) nd)))] H := hP
      have hD : va_D A [(ak, .inr (3, [.int (nI nk), .int 0, .ref ad, .ref as, .ref ar])), (ad, .inl (cI, 6, .inl dr)), (as, .inl (cI, 8, .inl (upd sz nk (nI nd)))), (ar, .inl (cI, 48, .inl (va_cpy dr ro 0 (nk * 6) nd)))] := hD
      refine lv_aload_n hx hb dX2_addDraft_60 rfl (lv_at hl 0 rfl) ?_
      refine lv_dup hx hb dX2_addDraft_61 rfl ?_
      refine r_get (v := .int (nI nk)) C hP okX2 0 0 rfl (by decide) fl_X2_25 rfl rfl dX2_addDraft_62 ?_
      refine lv_dup_x1 hx hb dX2_addDraft_65 rfl rfl ?_
      refine lv_iconst (v := 1) hx hb dX2_addDraft_66 (by decide) ?_
      refine lv_iadd hx hb dX2_addDraft_67 ?_
      refine r_top (x' := nI (nk + 1)) (nI_add nk 1) ?_
      refine r_put (v := .int (nI (nk + 1))) C hP hD hS okX2 0 0 rfl (by decide) fl_X2_25 rfl rfl rfl rfl (Nat.le_of_ble_eq_true rfl) dX2_addDraft_68 (fun H locs hP hD hS => ?_)
      have hP : va_P D vwCl [(ak, .inr (3, [.int (nI (nk + 1)), .int 0, .ref ad, .ref as, .ref ar])), (ad, .inl (cI, 6, .inl dr)), (as, .inl (cI, 8, .inl (upd sz nk (nI nd)))), (ar, .inl (cI, 48, .inl (va_cpy dr ro 0 (nk * 6) nd)))] H := hP
      have hD : va_D A [(ak, .inr (3, [.int (nI (nk + 1)), .int 0, .ref ad, .ref as, .ref ar])), (ad, .inl (cI, 6, .inl dr)), (as, .inl (cI, 8, .inl (upd sz nk (nI nd)))), (ar, .inl (cI, 48, .inl (va_cpy dr ro 0 (nk * 6) nd)))] := hD
      exact rt_i C hQ (hP.sub (ws' := [(ak, .inr (3, [.int (nI (nk + 1)), .int 0, .ref ad, .ref as, .ref ar])), (ad, .inl (cI, 6, .inl dr)), (as, .inl (cI, 8, .inl (upd sz nk (nI nd)))), (ar, .inl (cI, 48, .inl (va_cpy dr ro 0 (nk * 6) nd)))]) [0, 1, 2, 3] rfl) (hD.sub [0, 1, 2, 3] (by decide) rfl) hS ⟨by rw [if_pos hP_], by simp only [if_pos hP_]; rfl⟩ (by decide) (by decide) dX2_addDraft_71
    · -- not taken 14
      have c_14 : ¬ (nk < 8) := fun z => c_14 ((nI_ltI (a := nk) (b := 8) (by omega) (by omega)).mpr z)
      have hP_ : ¬ (2 ≤ nd ∧ nk < 8) := by omega
      refine lv_iconst (v := (-1)) hx hb dX2_addDraft_17 (by decide) ?_
      exact rt_i C hQ (hP.sub (ws' := [(ak, .inr (3, [.int (nI nk), .int (nI nd), .ref ad, .ref as, .ref ar])), (ad, .inl (cI, 6, .inl dr)), (as, .inl (cI, 8, .inl sz)), (ar, .inl (cI, 48, .inl ro))]) [0, 1, 2, 3] rfl) (hD.sub [0, 1, 2, 3] (by decide) rfl) hS ⟨by rw [if_neg hP_], by simp only [if_neg hP_]⟩ (by decide) (by decide) dX2_addDraft_18
set_option maxHeartbeats 4000000 in
set_option maxRecDepth 100000 in
theorem c_X2_sizeOf (l : Launch) (D : va_G) (cI cJ cZ : ClassId) (ak : Nat) (nk : Nat) (nd : Nat) (ad : Nat) (as : Nat) (ar : Nat) (sz : Nat → Int32) (st : Nat) (hst : st < 108) : Ctr l D cI cJ cZ yX2_sizeOf cX2_sizeOf 2 (some .int) ({ frames := 0, cells := 0, slots := 0, locals := 0 } : Room) [.ref ak, .int (nI st)] [(ak, .inr (3, [.int (nI nk), .int (nI nd), .ref ad, .ref as, .ref ar])), (as, .inl (cI, 8, .inl sz))] (fun r W => r = some (.int (f_size sz st)) ∧ W = [(ak, .inr (3, [.int (nI nk), .int (nI nd), .ref ad, .ref as, .ref ar])), (as, .inl (cI, 8, .inl sz))]) := by
  refine Ctr.start (by decide +kernel) (Nat.le_of_ble_eq_true rfl) ?_
  intro p e s m below meth c A Q ls H C hQ hA hP hD hS hl
  obtain ⟨hx, hb, hr, hml, hts, hown, hlk, hnm, hK, hN⟩ := id C
  have hl : lv_has ls 2 [(0, .ref ak), (1, .int (nI st))] := hl
  refine lv_iload_n hx hb dX2_sizeOf_0 rfl (lv_at hl 1 rfl) ?_
  refine lv_bipush (v := 100) hx hb dX2_sizeOf_1 (by decide) ?_
  refine lv_icmp_ge (tgt := 10) hx hb dX2_sizeOf_3 (by decide) (fun c_3 => ?_) (fun c_3 => ?_)
  · -- taken 3
    have c_3 : 100 ≤ st := (nI_leI (a := 100) (b := st) (by omega) (by omega)).mp c_3
    refine lv_aload_n hx hb dX2_sizeOf_10 rfl (lv_at hl 0 rfl) ?_
    refine r_get (v := .ref as) C hP okX2 0 3 rfl (by decide) fl_X2_15 rfl rfl dX2_sizeOf_11 ?_
    refine lv_iload_n hx hb dX2_sizeOf_14 rfl (lv_at hl 1 rfl) ?_
    refine lv_bipush (v := 100) hx hb dX2_sizeOf_15 (by decide) ?_
    refine lv_isub hx hb dX2_sizeOf_17 ?_
    refine r_top (x' := nI (st - 100)) (pk_sub (b := 100) (by omega)) ?_
    refine r_iald (j := st - 100) C hP 1 rfl (by omega) (by decide) dX2_sizeOf_18 ?_
    exact rt_i C hQ (hP.sub (ws' := [(ak, .inr (3, [.int (nI nk), .int (nI nd), .ref ad, .ref as, .ref ar])), (as, .inl (cI, 8, .inl sz))]) [0, 1] rfl) (hD.sub [0, 1] (by decide) rfl) hS ⟨by simp only [f_size, c_3, if_true, if_false, if_pos, if_neg]; first | rfl | (rw [if_pos (by omega)]) | (rw [if_neg (by omega)]), rfl⟩ (by decide) (by decide) dX2_sizeOf_19
  · -- not taken 3
    have c_3 : ¬ (100 ≤ st) := fun z => c_3 ((nI_leI (a := 100) (b := st) (by omega) (by omega)).mpr z)
    refine lv_iconst (v := 1) hx hb dX2_sizeOf_6 (by decide) ?_
    refine lv_goto (tgt := 19) hx hb dX2_sizeOf_7 (by decide) ?_
    exact rt_i C hQ (hP.sub (ws' := [(ak, .inr (3, [.int (nI nk), .int (nI nd), .ref ad, .ref as, .ref ar])), (as, .inl (cI, 8, .inl sz))]) [0, 1] rfl) (hD.sub [0, 1] (by decide) rfl) hS ⟨by simp only [f_size, c_3, if_true, if_false, if_pos, if_neg]; first | rfl | (rw [if_pos (by omega)]) | (rw [if_neg (by omega)]), rfl⟩ (by decide) (by decide) dX2_sizeOf_19
set_option maxHeartbeats 4000000 in
set_option maxRecDepth 100000 in
theorem c_X2_moveOf (l : Launch) (D : va_G) (cI cJ cZ : ClassId) (ak : Nat) (nk : Nat) (nd : Nat) (ad : Nat) (as : Nat) (ar : Nat) (ro : Nat → Int32) (st : Nat) (i : Nat) (hst : st < 108) (hi : i < 6) : Ctr l D cI cJ cZ yX2_moveOf cX2_moveOf 3 (some .int) ({ frames := 0, cells := 0, slots := 0, locals := 0 } : Room) [.ref ak, .int (nI st), .int (nI i)] [(ak, .inr (3, [.int (nI nk), .int (nI nd), .ref ad, .ref as, .ref ar])), (ar, .inl (cI, 48, .inl ro))] (fun r W => r = some (.int (f_mvof ro st i)) ∧ W = [(ak, .inr (3, [.int (nI nk), .int (nI nd), .ref ad, .ref as, .ref ar])), (ar, .inl (cI, 48, .inl ro))]) := by
  refine Ctr.start (by decide +kernel) (Nat.le_of_ble_eq_true rfl) ?_
  intro p e s m below meth c A Q ls H C hQ hA hP hD hS hl
  obtain ⟨hx, hb, hr, hml, hts, hown, hlk, hnm, hK, hN⟩ := id C
  have hl : lv_has ls 3 [(0, .ref ak), (1, .int (nI st)), (2, .int (nI i))] := hl
  refine lv_iload_n hx hb dX2_moveOf_0 rfl (lv_at hl 1 rfl) ?_
  refine lv_bipush (v := 100) hx hb dX2_moveOf_1 (by decide) ?_
  refine lv_icmp_ge (tgt := 10) hx hb dX2_moveOf_3 (by decide) (fun c_3 => ?_) (fun c_3 => ?_)
  · -- taken 3
    have c_3 : 100 ≤ st := (nI_leI (a := 100) (b := st) (by omega) (by omega)).mp c_3
    refine lv_aload_n hx hb dX2_moveOf_10 rfl (lv_at hl 0 rfl) ?_
    refine r_get (v := .ref ar) C hP okX2 0 4 rfl (by decide) fl_X2_18 rfl rfl dX2_moveOf_11 ?_
    refine lv_iload_n hx hb dX2_moveOf_14 rfl (lv_at hl 1 rfl) ?_
    refine lv_bipush (v := 100) hx hb dX2_moveOf_15 (by decide) ?_
    refine lv_isub hx hb dX2_moveOf_17 ?_
    refine r_top (x' := nI (st - 100)) (pk_sub (b := 100) (by omega)) ?_
    refine lv_bipush (v := 6) hx hb dX2_moveOf_18 (by decide) ?_
    refine lv_imul hx hb dX2_moveOf_20 ?_
    refine r_top (x' := nI ((st - 100) * 6)) (pk_mul (st - 100) 6) ?_
    refine lv_iload_n hx hb dX2_moveOf_21 rfl (lv_at hl 2 rfl) ?_
    refine lv_iadd hx hb dX2_moveOf_22 ?_
    refine r_top (x' := nI (((st - 100) * 6) + i)) (nI_add ((st - 100) * 6) i) ?_
    refine r_iald (j := ((st - 100) * 6) + i) C hP 1 rfl (by omega) (by decide) dX2_moveOf_23 ?_
    exact rt_i C hQ (hP.sub (ws' := [(ak, .inr (3, [.int (nI nk), .int (nI nd), .ref ad, .ref as, .ref ar])), (ar, .inl (cI, 48, .inl ro))]) [0, 1] rfl) (hD.sub [0, 1] (by decide) rfl) hS ⟨by simp only [f_mvof]; first | (rw [if_pos (by omega)]) | (rw [if_neg (by omega)]), rfl⟩ (by decide) (by decide) dX2_moveOf_24
  · -- not taken 3
    have c_3 : ¬ (100 ≤ st) := fun z => c_3 ((nI_leI (a := 100) (b := st) (by omega) (by omega)).mpr z)
    refine lv_iload_n hx hb dX2_moveOf_6 rfl (lv_at hl 1 rfl) ?_
    refine lv_goto (tgt := 24) hx hb dX2_moveOf_7 (by decide) ?_
    exact rt_i C hQ (hP.sub (ws' := [(ak, .inr (3, [.int (nI nk), .int (nI nd), .ref ad, .ref as, .ref ar])), (ar, .inl (cI, 48, .inl ro))]) [0, 1] rfl) (hD.sub [0, 1] (by decide) rfl) hS ⟨by simp only [f_mvof]; first | (rw [if_pos (by omega)]) | (rw [if_neg (by omega)]), rfl⟩ (by decide) (by decide) dX2_moveOf_24
