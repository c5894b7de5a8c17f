/-! Moves.behindEffects, carryOut; Arrays.fill; Story (written by s6.py) -/
abbrev MV : Type := (Nat → Int32) × (Nat → Int32) × (Nat → Nat) × (Nat → Nat) × (Nat → Int32) × (Nat → Int32) × (Nat → Nat) × (Nat → Int32) × (Nat → Nat) × (Nat → Int32)
abbrev Mt : Type := Int64 × Int32 × Int32 × Int32
/-- a MOVE can be done at a moment -/
def f_can (M : MV) (t : Mt) (m : Nat) : Bool := decide (t.2.1 = 0) && f_conds (dgs t.1) M.2.2.2.1 M.2.2.2.2.1 M.2.2.2.2.2.1 (m * 6) (M.2.2.1 m)
/-- what comes of it -/
def f_doM (M : MV) (n m : Nat) (t : Mt) : Mt := (f_beh t.1 n m M.2.2.2.2.2.2.2.1 M.2.2.2.2.2.2.2.2.1 M.2.2.2.2.2.2.2.2.2 (m * 6) (M.2.2.2.2.2.2.1 m), M.2.1 m, M.1 m, f_hear t.2.2.2 (M.1 m))
/-- the MOVES mv 0, mv 1, .. one behind the other: what has come of k of them, and whether all could be done -/
def f_run (M : MV) (n : Nat) (mv : Nat → Nat) (t : Mt) : Nat → Mt × Bool
  | 0 => (t, true)
  | k + 1 => if (f_run M n mv t k).2 = true ∧ f_can M (f_run M n mv t k).1 (mv k) = true then (f_doM M n (mv k) (f_run M n mv t k).1, true) else ((f_run M n mv t k).1, false)
theorem f_run_stay {M : MV} {n : Nat} {mv : Nat → Nat} {t : Mt} {i : Nat} (h : (f_run M n mv t i).2 = false) : ∀ d, f_run M n mv t (i + d) = f_run M n mv t i
  | 0 => rfl
  | d + 1 => by
    have ih := f_run_stay h d
    show f_run M n mv t ((i + d) + 1) = _
    simp only [f_run]
    rw [ih, h]
    simp
    exact Prod.ext rfl h.symm
theorem f_run_no {M : MV} {n : Nat} {mv : Nat → Nat} {t : Mt} {i k : Nat} (hi : i < k) (hc : ¬ f_can M (f_run M n mv t i).1 (mv i) = true) : f_run M n mv t k = ((f_run M n mv t i).1, false) := by
  have h1 : f_run M n mv t (i + 1) = ((f_run M n mv t i).1, false) := by
    simp only [f_run]
    rw [if_neg (fun z => hc z.2)]
  have h2 := f_run_stay (M := M) (n := n) (mv := mv) (t := t) (i := i + 1) (by rw [h1]) (k - (i + 1))
  rw [show i + 1 + (k - (i + 1)) = k by omega] at h2
  rw [h2, h1]
theorem f_run_ok {M : MV} {n : Nat} {mv : Nat → Nat} {t : Mt} {i : Nat} (h : (f_run M n mv t i).2 = true) (hc : f_can M (f_run M n mv t i).1 (mv i) = true) : f_run M n mv t (i + 1) = (f_doM M n (mv i) (f_run M n mv t i).1, true) := by
  simp only [f_run]
  rw [if_pos ⟨h, hc⟩]
/-- a STEP's MOVES -/
def n_size (sz : Nat → Nat) (st : Nat) : Nat := if st < 100 then 1 else sz (st - 100)
def n_mv (ro : Nat → Nat) (st : Nat) : Nat → Nat := fun i => if st < 100 then st else ro ((st - 100) * 6 + i)
theorem f_size_n (sz : Nat → Nat) (st : Nat) : f_size (nF sz) st = nI (n_size sz st) := by
  simp only [f_size, n_size, nF]
  split <;> rfl
theorem f_mvof_n (ro : Nat → Nat) (st i : Nat) : f_mvof (nF ro) st i = nI (n_mv ro st i) := by
  simp only [f_mvof, n_mv, nF]
  split <;> rfl
def stOK (st : Nat) : Prop := st < 24 ∨ (100 ≤ st ∧ st < 108)
theorem n_size_le {sz : Nat → Nat} (h : ∀ k, sz k ≤ 6) (st : Nat) : n_size sz st ≤ 6 := by
  simp only [n_size]
  split
  · omega
  · exact h _
theorem n_mv_lt {ro : Nat → Nat} (h : ∀ k, ro k < 24) {st : Nat} (hs : stOK st) (i : Nat) : n_mv ro st i < 24 := by
  simp only [n_mv]
  split
  · rcases hs with h1 | h1 <;> omega
  · exact h _
def f_try (M : MV) (n : Nat) (sz ro : Nat → Nat) (st : Nat) (t : Mt) : Mt × Bool := f_run M n (n_mv ro st) t (n_size sz st)
/-- the STEP at a place -/
def n_by (nm p : Nat) : Nat := if p < nm then p else 100 + p - nm
def f_count (M : MV) (n nm : Nat) (sz ro : Nat → Nat) (t : Mt) : Nat → Nat
  | 0 => 0
  | p + 1 => if (f_try M n sz ro (n_by nm p) t).2 = true then f_count M n nm sz ro t p + 1 else f_count M n nm sz ro t p
set_option maxHeartbeats 4000000 in
set_option maxRecDepth 100000 in
theorem lp_X4_behindEffects_13 (l : Launch) (D : va_G) (cI cJ cZ : ClassId) (av : Nat) (nm : Nat) (v0 : Nat) (v1 : Nat) (v2 : Nat) (v3 : Nat) (v4 : Nat) (v5 : Nat) (v6 : Nat) (v7 : Nat) (v8 : Nat) (v9 : Nat) (mec : Nat → Nat) (mek : Nat → Int32) (mel : Nat → Nat) (mev : Nat → Int32) (j : Nat) (w : Int64) (n : Nat) (hj : j < 24) (hc : mec j ≤ 6) (hn : n ≤ 10)   {p : Program} {e : Env} {s : State} {m : MethodId} {below : List Frame} {meth : Method} {c : Code} {A : Nat → Prop} {Q : State → Prop} (C : Cx D cI cJ cZ p s m ([.ref av, .int (nI j), .long w, .int (nI n)] : List Value).toArray meth c yX4_behindEffects cX4_behindEffects 12 (some .long)) (hQ : QOK Q below s ([.ref av, .int (nI j), .long w, .int (nI n)] : List Value).toArray D A (fun r W => r = some (.long (f_beh w n j mek mel mev (j * 6) (mec j))) ∧ W = [(av, .inr (5, [.ref v0, .ref v1, .int (nI nm), .ref v2, .ref v3, .ref v4, .ref v5, .ref v6, .ref v7, .ref v8, .ref v9])), (v6, .inl (cI, 24, .inl (nF mec))), (v7, .inl (cI, 144, .inl mek)), (v8, .inl (cI, 144, .inl (nF mel))), (v9, .inl (cI, 144, .inl mev))]) 0 0) (hA : ∀ q, s.heap.size ≤ q → A q) : ∀ (ku : Nat) (i : Nat) (wd : Int64) (hi : i ≤ mec j) (hw : wd = f_beh w n j mek mel mev (j * 6) i), (mec j - i) < ku → ∀ (H : Heap) (locs : List Loc) (ls : Array Slot), va_P D vwCl [(av, .inr (5, [.ref v0, .ref v1, .int (nI nm), .ref v2, .ref v3, .ref v4, .ref v5, .ref v6, .ref v7, .ref v8, .ref v9])), (v6, .inl (cI, 24, .inl (nF mec))), (v7, .inl (cI, 144, .inl mek)), (v8, .inl (cI, 144, .inl (nF mel))), (v9, .inl (cI, 144, .inl mev))] H → va_D A [(av, .inr (5, [.ref v0, .ref v1, .int (nI nm), .ref v2, .ref v3, .ref v4, .ref v5, .ref v6, .ref v7, .ref v8, .ref v9])), (v6, .inl (cI, 24, .inl (nF mec))), (v7, .inl (cI, 144, .inl mek)), (v8, .inl (cI, 144, .inl (nF mel))), (v9, .inl (cI, 144, .inl mev))] → va_S A s.heap H locs → lv_has ls 12 [(0, .ref av), (1, .int (nI j)), (2, .long w), (4, .int (nI n)), (5, .long wd), (7, .int (nI (j * 6))), (8, .int (nI (j * 6 + i)))] → W p l e ({ frames := 2, cells := 0, slots := 0, locals := 48 } : Room) s m ([.ref av, .int (nI j), .long w, .int (nI n)] : List Value).toArray below meth c H locs 0 0 Q (F0 m 13 ls []) := by
  obtain ⟨hx, hb, hr, hml, hts, hown, hlk, hnm, hK, hN⟩ := id C
  intro ku
  induction ku with
  | zero =>
    intro i wd hi hw hku
    exact absurd hku (Nat.not_lt_zero _)
  | succ ku ih =>
    intro i wd hi hw hku H locs ls hP hD hS hl
    refine lv_iload hx hb dX4_behindEffects_13 (lv_at hl 6 rfl) ?_
    refine lv_iload hx hb dX4_behindEffects_15 (lv_at hl 5 rfl) ?_
    refine lv_aload_n hx hb dX4_behindEffects_17 rfl (lv_at hl 0 rfl) ?_
    refine r_get (v := .ref v6) C hP okX4 0 7 rfl (by decide) fl_X4_30 rfl rfl dX4_behindEffects_18 ?_
    refine lv_iload_n hx hb dX4_behindEffects_21 rfl (lv_at hl 1 rfl) ?_
    refine r_iald (j := j) C hP 1 rfl (by omega) (by decide) dX4_behindEffects_22 ?_
    refine r_top (x' := nI (mec j)) rfl ?_
    refine lv_iadd hx hb dX4_behindEffects_23 ?_
    refine r_top (x' := nI ((j * 6) + (mec j))) (nI_add (j * 6) (mec j)) ?_
    refine lv_icmp_ge (tgt := 157) hx hb dX4_behindEffects_24 (by decide) (fun c_24 => ?_) (fun c_24 => ?_)
    · -- taken 24
      have c_24 : (j * 6) + (mec j) ≤ j * 6 + i := (nI_leI (a := (j * 6) + (mec j)) (b := j * 6 + i) (by omega) (by omega)).mp c_24
      refine lv_lload hx hb dX4_behindEffects_157 (lv_at hl 4 rfl) ?_
      exact rt_l C hQ (hP.sub (ws' := [(av, .inr (5, [.ref v0, .ref v1, .int (nI nm), .ref v2, .ref v3, .ref v4, .ref v5, .ref v6, .ref v7, .ref v8, .ref v9])), (v6, .inl (cI, 24, .inl (nF mec))), (v7, .inl (cI, 144, .inl mek)), (v8, .inl (cI, 144, .inl (nF mel))), (v9, .inl (cI, 144, .inl mev))]) [0, 1, 2, 3, 4] rfl) (hD.sub [0, 1, 2, 3, 4] (by decide) rfl) hS ⟨by rw [hw, show mec j = i by omega], rfl⟩ (by decide) (by decide) dX4_behindEffects_159
    · -- not taken 24
      have c_24 : ¬ ((j * 6) + (mec j) ≤ j * 6 + i) := fun z => c_24 ((nI_leI (a := (j * 6) + (mec j)) (b := j * 6 + i) (by omega) (by omega)).mpr z)
      refine lv_aload_n hx hb dX4_behindEffects_27 rfl (lv_at hl 0 rfl) ?_
      refine r_get (v := .ref v8) C hP okX4 0 9 rfl (by decide) fl_X4_36 rfl rfl dX4_behindEffects_28 ?_
      refine lv_iload hx hb dX4_behindEffects_31 (lv_at hl 6 rfl) ?_
      refine r_iald (j := j * 6 + i) C hP 3 rfl (by omega) (by decide) dX4_behindEffects_33 ?_
      refine r_top (x' := nI (mel (j * 6 + i))) rfl ?_
      refine lv_istore (lv' := [(9, .int (nI (mel (j * 6 + i)))), (0, .ref av), (1, .int (nI j)), (2, .long w), (4, .int (nI n)), (5, .long wd), (7, .int (nI (j * 6))), (8, .int (nI (j * 6 + i)))]) hx hb dX4_behindEffects_34 hl (by decide) rfl (fun ls hl => ?_)
      refine lv_aload_n hx hb dX4_behindEffects_36 rfl (lv_at hl 1 rfl) ?_
      refine r_get (v := .ref v9) C hP okX4 0 10 rfl (by decide) fl_X4_39 rfl rfl dX4_behindEffects_37 ?_
      refine lv_iload hx hb dX4_behindEffects_40 (lv_at hl 7 rfl) ?_
      refine r_iald (j := j * 6 + i) C hP 4 rfl (by omega) (by decide) dX4_behindEffects_42 ?_
      refine lv_istore (lv' := [(10, .int (mev (j * 6 + i))), (9, .int (nI (mel (j * 6 + i)))), (0, .ref av), (1, .int (nI j)), (2, .long w), (4, .int (nI n)), (5, .long wd), (7, .int (nI (j * 6))), (8, .int (nI (j * 6 + i)))]) hx hb dX4_behindEffects_43 hl (by decide) rfl (fun ls hl => ?_)
      refine lv_aload_n hx hb dX4_behindEffects_45 rfl (lv_at hl 2 rfl) ?_
      refine r_get (v := .ref v7) C hP okX4 0 8 rfl (by decide) fl_X4_33 rfl rfl dX4_behindEffects_46 ?_
      refine lv_iload hx hb dX4_behindEffects_49 (lv_at hl 8 rfl) ?_
      refine r_iald (j := j * 6 + i) C hP 2 rfl (by omega) (by decide) dX4_behindEffects_51 ?_
      by_cases w_52_0 : mek (j * 6 + i) = 0
      · refine r_top w_52_0 ?_
        refine lv_tableIn (off := 28) (tgt := 80) hx hb dX4_behindEffects_52 (by decide) (by decide) (by decide +kernel) (by decide) ?_
        refine lv_iload hx hb dX4_behindEffects_80 (lv_at hl 0 rfl) ?_
        refine lv_istore (lv' := [(11, .int (mev (j * 6 + i))), (10, .int (mev (j * 6 + i))), (9, .int (nI (mel (j * 6 + i)))), (0, .ref av), (1, .int (nI j)), (2, .long w), (4, .int (nI n)), (5, .long wd), (7, .int (nI (j * 6))), (8, .int (nI (j * 6 + i)))]) hx hb dX4_behindEffects_82 hl (by decide) rfl (fun ls hl => ?_)
        refine lv_goto (tgt := 140) hx hb dX4_behindEffects_84 (by decide) ?_
        refine lv_lload hx hb dX4_behindEffects_140 (lv_at hl 7 rfl) ?_
        refine lv_iload hx hb dX4_behindEffects_142 (lv_at hl 2 rfl) ?_
        refine lv_iload hx hb dX4_behindEffects_144 (lv_at hl 0 rfl) ?_
        refine cl_sn C (c_X9_withValue l D cI cJ cZ wd (nI (mel (j * 6 + i))) (mev (j * 6 + i))) cd_X9_withValue (by decide +kernel) st_X9_withValue in_X9 hd_X9_withValue ⟨by decide, by decide⟩ hP hD hS hA (WR := [(av, .inr (5, [.ref v0, .ref v1, .int (nI nm), .ref v2, .ref v3, .ref v4, .ref v5, .ref v6, .ref v7, .ref v8, .ref v9])), (v6, .inl (cI, 24, .inl (nF mec))), (v7, .inl (cI, 144, .inl mek)), (v8, .inl (cI, 144, .inl (nF mel))), (v9, .inl (cI, 144, .inl mev))]) [] [0, 1, 2, 3, 4] rfl rfl rfl rfl (by decide) hl.1 rfl (Nat.le_of_ble_eq_true rfl) dX4_behindEffects_146 ⟨by decide, by decide⟩ (fun r W H locs hp hP hD hS => ?_)
        obtain ⟨rfl, rfl⟩ := hp
        refine W.eq (g2 := F0 m 149 ls [.long (f_withValue wd (nI (mel (j * 6 + i))) (mev (j * 6 + i)))]) rfl ?_
        have hP : va_P D vwCl [(av, .inr (5, [.ref v0, .ref v1, .int (nI nm), .ref v2, .ref v3, .ref v4, .ref v5, .ref v6, .ref v7, .ref v8, .ref v9])), (v6, .inl (cI, 24, .inl (nF mec))), (v7, .inl (cI, 144, .inl mek)), (v8, .inl (cI, 144, .inl (nF mel))), (v9, .inl (cI, 144, .inl mev))] H := hP
        have hD : va_D A [(av, .inr (5, [.ref v0, .ref v1, .int (nI nm), .ref v2, .ref v3, .ref v4, .ref v5, .ref v6, .ref v7, .ref v8, .ref v9])), (v6, .inl (cI, 24, .inl (nF mec))), (v7, .inl (cI, 144, .inl mek)), (v8, .inl (cI, 144, .inl (nF mel))), (v9, .inl (cI, 144, .inl mev))] := hD
        refine lv_lstore (lv' := [(5, .long (f_withValue wd (nI (mel (j * 6 + i))) (mev (j * 6 + i)))), (11, .int (mev (j * 6 + i))), (10, .int (mev (j * 6 + i))), (9, .int (nI (mel (j * 6 + i)))), (0, .ref av), (1, .int (nI j)), (2, .long w), (4, .int (nI n)), (7, .int (nI (j * 6))), (8, .int (nI (j * 6 + i)))]) hx hb dX4_behindEffects_149 hl (by decide) rfl (fun ls hl => ?_)
        refine lv_iinc (v := nI (j * 6 + i + 1)) (lv' := [(8, .int (nI (j * 6 + i + 1))), (5, .long (f_withValue wd (nI (mel (j * 6 + i))) (mev (j * 6 + i)))), (11, .int (mev (j * 6 + i))), (10, .int (mev (j * 6 + i))), (9, .int (nI (mel (j * 6 + i)))), (0, .ref av), (1, .int (nI j)), (2, .long w), (4, .int (nI n)), (7, .int (nI (j * 6)))]) hx hb dX4_behindEffects_151 hl (k := 9) rfl (nI_1 _) (by decide) rfl (fun ls hl => ?_)
        refine lv_goto (tgt := 13) hx hb dX4_behindEffects_154 (by decide) ?_
        exact ih (i + 1) (f_withValue wd (nI (mel (j * 6 + i))) (mev (j * 6 + i))) (by omega) (by rw [hw]; simp only [f_beh, f_effv]; rw [if_pos w_52_0]) (by omega) _ _ _ (hP.sub [0, 1, 2, 3, 4] rfl) (hD.sub [0, 1, 2, 3, 4] (by decide) rfl) hS (lv_sub hl [5, 6, 7, 8, 1, 9, 0] rfl)
      by_cases w_52_1 : mek (j * 6 + i) = 1
      · refine r_top w_52_1 ?_
        refine lv_tableIn (off := 35) (tgt := 87) hx hb dX4_behindEffects_52 (by decide) (by decide) (by decide +kernel) (by decide) ?_
        refine lv_lload hx hb dX4_behindEffects_87 (lv_at hl 6 rfl) ?_
        refine lv_iload hx hb dX4_behindEffects_89 (lv_at hl 1 rfl) ?_
        refine cl_sn C (c_X9_valueIn l D cI cJ cZ wd (nI (mel (j * 6 + i)))) cd_X9_valueIn (by decide +kernel) st_X9_valueIn in_X9 hd_X9_valueIn ⟨by decide, by decide⟩ hP hD hS hA (WR := [(av, .inr (5, [.ref v0, .ref v1, .int (nI nm), .ref v2, .ref v3, .ref v4, .ref v5, .ref v6, .ref v7, .ref v8, .ref v9])), (v6, .inl (cI, 24, .inl (nF mec))), (v7, .inl (cI, 144, .inl mek)), (v8, .inl (cI, 144, .inl (nF mel))), (v9, .inl (cI, 144, .inl mev))]) [] [0, 1, 2, 3, 4] rfl rfl rfl rfl (by decide) hl.1 rfl (Nat.le_of_ble_eq_true rfl) dX4_behindEffects_91 ⟨by decide, by decide⟩ (fun r W H locs hp hP hD hS => ?_)
        obtain ⟨rfl, rfl⟩ := hp
        refine W.eq (g2 := F0 m 94 ls [.int (f_valueIn wd (nI (mel (j * 6 + i))))]) rfl ?_
        have hP : va_P D vwCl [(av, .inr (5, [.ref v0, .ref v1, .int (nI nm), .ref v2, .ref v3, .ref v4, .ref v5, .ref v6, .ref v7, .ref v8, .ref v9])), (v6, .inl (cI, 24, .inl (nF mec))), (v7, .inl (cI, 144, .inl mek)), (v8, .inl (cI, 144, .inl (nF mel))), (v9, .inl (cI, 144, .inl mev))] H := hP
        have hD : va_D A [(av, .inr (5, [.ref v0, .ref v1, .int (nI nm), .ref v2, .ref v3, .ref v4, .ref v5, .ref v6, .ref v7, .ref v8, .ref v9])), (v6, .inl (cI, 24, .inl (nF mec))), (v7, .inl (cI, 144, .inl mek)), (v8, .inl (cI, 144, .inl (nF mel))), (v9, .inl (cI, 144, .inl mev))] := hD
        refine lv_iload hx hb dX4_behindEffects_94 (lv_at hl 0 rfl) ?_
        refine lv_iadd hx hb dX4_behindEffects_96 ?_
        refine lv_bipush (v := 10) hx hb dX4_behindEffects_97 (by decide) ?_
        refine cl_s C (c_J9_floorMod_7cf53 l D cI cJ cZ ((f_valueIn wd (nI (mel (j * 6 + i)))) + (mev (j * 6 + i))) 10 (by decide)) cd_J9_floorMod_7cf53 ml_X4_82 st_J9_floorMod_7cf53 in_J9 hd_J9_floorMod_7cf53 ⟨by decide, by decide⟩ hP hD hS hA (WR := [(av, .inr (5, [.ref v0, .ref v1, .int (nI nm), .ref v2, .ref v3, .ref v4, .ref v5, .ref v6, .ref v7, .ref v8, .ref v9])), (v6, .inl (cI, 24, .inl (nF mec))), (v7, .inl (cI, 144, .inl mek)), (v8, .inl (cI, 144, .inl (nF mel))), (v9, .inl (cI, 144, .inl mev))]) [] [0, 1, 2, 3, 4] rfl rfl rfl rfl (by decide) hl.1 rfl (Nat.le_of_ble_eq_true rfl) dX4_behindEffects_99 ⟨by decide, by decide⟩ (fun r W H locs hp hP hD hS => ?_)
        obtain ⟨rfl, rfl⟩ := hp
        refine W.eq (g2 := F0 m 102 ls [.int (f_floorMod ((f_valueIn wd (nI (mel (j * 6 + i)))) + (mev (j * 6 + i))) 10)]) rfl ?_
        have hP : va_P D vwCl [(av, .inr (5, [.ref v0, .ref v1, .int (nI nm), .ref v2, .ref v3, .ref v4, .ref v5, .ref v6, .ref v7, .ref v8, .ref v9])), (v6, .inl (cI, 24, .inl (nF mec))), (v7, .inl (cI, 144, .inl mek)), (v8, .inl (cI, 144, .inl (nF mel))), (v9, .inl (cI, 144, .inl mev))] H := hP
        have hD : va_D A [(av, .inr (5, [.ref v0, .ref v1, .int (nI nm), .ref v2, .ref v3, .ref v4, .ref v5, .ref v6, .ref v7, .ref v8, .ref v9])), (v6, .inl (cI, 24, .inl (nF mec))), (v7, .inl (cI, 144, .inl mek)), (v8, .inl (cI, 144, .inl (nF mel))), (v9, .inl (cI, 144, .inl mev))] := hD
        refine lv_istore (lv' := [(11, .int (f_floorMod ((f_valueIn wd (nI (mel (j * 6 + i)))) + (mev (j * 6 + i))) 10)), (10, .int (mev (j * 6 + i))), (9, .int (nI (mel (j * 6 + i)))), (0, .ref av), (1, .int (nI j)), (2, .long w), (4, .int (nI n)), (5, .long wd), (7, .int (nI (j * 6))), (8, .int (nI (j * 6 + i)))]) hx hb dX4_behindEffects_102 hl (by decide) rfl (fun ls hl => ?_)
        refine lv_goto (tgt := 140) hx hb dX4_behindEffects_104 (by decide) ?_
        refine lv_lload hx hb dX4_behindEffects_140 (lv_at hl 7 rfl) ?_
        refine lv_iload hx hb dX4_behindEffects_142 (lv_at hl 2 rfl) ?_
        refine lv_iload hx hb dX4_behindEffects_144 (lv_at hl 0 rfl) ?_
        refine cl_sn C (c_X9_withValue l D cI cJ cZ wd (nI (mel (j * 6 + i))) (f_floorMod ((f_valueIn wd (nI (mel (j * 6 + i)))) + (mev (j * 6 + i))) 10)) cd_X9_withValue (by decide +kernel) st_X9_withValue in_X9 hd_X9_withValue ⟨by decide, by decide⟩ hP hD hS hA (WR := [(av, .inr (5, [.ref v0, .ref v1, .int (nI nm), .ref v2, .ref v3, .ref v4, .ref v5, .ref v6, .ref v7, .ref v8, .ref v9])), (v6, .inl (cI, 24, .inl (nF mec))), (v7, .inl (cI, 144, .inl mek)), (v8, .inl (cI, 144, .inl (nF mel))), (v9, .inl (cI, 144, .inl mev))]) [] [0, 1, 2, 3, 4] rfl rfl rfl rfl (by decide) hl.1 rfl (Nat.le_of_ble_eq_true rfl) dX4_behindEffects_146 ⟨by decide, by decide⟩ (fun r W H locs hp hP hD hS => ?_)
        obtain ⟨rfl, rfl⟩ := hp
        refine W.eq (g2 := F0 m 149 ls [.long (f_withValue wd (nI (mel (j * 6 + i))) (f_floorMod ((f_valueIn wd (nI (mel (j * 6 + i)))) + (mev (j * 6 + i))) 10))]) rfl ?_
        have hP : va_P D vwCl [(av, .inr (5, [.ref v0, .ref v1, .int (nI nm), .ref v2, .ref v3, .ref v4, .ref v5, .ref v6, .ref v7, .ref v8, .ref v9])), (v6, .inl (cI, 24, .inl (nF mec))), (v7, .inl (cI, 144, .inl mek)), (v8, .inl (cI, 144, .inl (nF mel))), (v9, .inl (cI, 144, .inl mev))] H := hP
        have hD : va_D A [(av, .inr (5, [.ref v0, .ref v1, .int (nI nm), .ref v2, .ref v3, .ref v4, .ref v5, .ref v6, .ref v7, .ref v8, .ref v9])), (v6, .inl (cI, 24, .inl (nF mec))), (v7, .inl (cI, 144, .inl mek)), (v8, .inl (cI, 144, .inl (nF mel))), (v9, .inl (cI, 144, .inl mev))] := hD
        refine lv_lstore (lv' := [(5, .long (f_withValue wd (nI (mel (j * 6 + i))) (f_floorMod ((f_valueIn wd (nI (mel (j * 6 + i)))) + (mev (j * 6 + i))) 10))), (11, .int (f_floorMod ((f_valueIn wd (nI (mel (j * 6 + i)))) + (mev (j * 6 + i))) 10)), (10, .int (mev (j * 6 + i))), (9, .int (nI (mel (j * 6 + i)))), (0, .ref av), (1, .int (nI j)), (2, .long w), (4, .int (nI n)), (7, .int (nI (j * 6))), (8, .int (nI (j * 6 + i)))]) hx hb dX4_behindEffects_149 hl (by decide) rfl (fun ls hl => ?_)
        refine lv_iinc (v := nI (j * 6 + i + 1)) (lv' := [(8, .int (nI (j * 6 + i + 1))), (5, .long (f_withValue wd (nI (mel (j * 6 + i))) (f_floorMod ((f_valueIn wd (nI (mel (j * 6 + i)))) + (mev (j * 6 + i))) 10))), (11, .int (f_floorMod ((f_valueIn wd (nI (mel (j * 6 + i)))) + (mev (j * 6 + i))) 10)), (10, .int (mev (j * 6 + i))), (9, .int (nI (mel (j * 6 + i)))), (0, .ref av), (1, .int (nI j)), (2, .long w), (4, .int (nI n)), (7, .int (nI (j * 6)))]) hx hb dX4_behindEffects_151 hl (k := 9) rfl (nI_1 _) (by decide) rfl (fun ls hl => ?_)
        refine lv_goto (tgt := 13) hx hb dX4_behindEffects_154 (by decide) ?_
        exact ih (i + 1) (f_withValue wd (nI (mel (j * 6 + i))) (f_floorMod ((f_valueIn wd (nI (mel (j * 6 + i)))) + (mev (j * 6 + i))) 10)) (by omega) (by rw [hw]; simp only [f_beh, f_effv]; rw [if_neg w_52_0, if_pos w_52_1]) (by omega) _ _ _ (hP.sub [0, 1, 2, 3, 4] rfl) (hD.sub [0, 1, 2, 3, 4] (by decide) rfl) hS (lv_sub hl [5, 6, 7, 8, 1, 9, 0] rfl)
      by_cases w_52_2 : mek (j * 6 + i) = 2
      · refine r_top w_52_2 ?_
        refine lv_tableIn (off := 55) (tgt := 107) hx hb dX4_behindEffects_52 (by decide) (by decide) (by decide +kernel) (by decide) ?_
        refine lv_lload hx hb dX4_behindEffects_107 (lv_at hl 6 rfl) ?_
        refine lv_iload hx hb dX4_behindEffects_109 (lv_at hl 0 rfl) ?_
        refine cl_sn C (c_X9_valueIn l D cI cJ cZ wd (mev (j * 6 + i))) cd_X9_valueIn (by decide +kernel) st_X9_valueIn in_X9 hd_X9_valueIn ⟨by decide, by decide⟩ hP hD hS hA (WR := [(av, .inr (5, [.ref v0, .ref v1, .int (nI nm), .ref v2, .ref v3, .ref v4, .ref v5, .ref v6, .ref v7, .ref v8, .ref v9])), (v6, .inl (cI, 24, .inl (nF mec))), (v7, .inl (cI, 144, .inl mek)), (v8, .inl (cI, 144, .inl (nF mel))), (v9, .inl (cI, 144, .inl mev))]) [] [0, 1, 2, 3, 4] rfl rfl rfl rfl (by decide) hl.1 rfl (Nat.le_of_ble_eq_true rfl) dX4_behindEffects_111 ⟨by decide, by decide⟩ (fun r W H locs hp hP hD hS => ?_)
        obtain ⟨rfl, rfl⟩ := hp
        refine W.eq (g2 := F0 m 114 ls [.int (f_valueIn wd (mev (j * 6 + i)))]) rfl ?_
        have hP : va_P D vwCl [(av, .inr (5, [.ref v0, .ref v1, .int (nI nm), .ref v2, .ref v3, .ref v4, .ref v5, .ref v6, .ref v7, .ref v8, .ref v9])), (v6, .inl (cI, 24, .inl (nF mec))), (v7, .inl (cI, 144, .inl mek)), (v8, .inl (cI, 144, .inl (nF mel))), (v9, .inl (cI, 144, .inl mev))] H := hP
        have hD : va_D A [(av, .inr (5, [.ref v0, .ref v1, .int (nI nm), .ref v2, .ref v3, .ref v4, .ref v5, .ref v6, .ref v7, .ref v8, .ref v9])), (v6, .inl (cI, 24, .inl (nF mec))), (v7, .inl (cI, 144, .inl mek)), (v8, .inl (cI, 144, .inl (nF mel))), (v9, .inl (cI, 144, .inl mev))] := hD
        refine lv_istore (lv' := [(11, .int (f_valueIn wd (mev (j * 6 + i)))), (10, .int (mev (j * 6 + i))), (9, .int (nI (mel (j * 6 + i)))), (0, .ref av), (1, .int (nI j)), (2, .long w), (4, .int (nI n)), (5, .long wd), (7, .int (nI (j * 6))), (8, .int (nI (j * 6 + i)))]) hx hb dX4_behindEffects_114 hl (by decide) rfl (fun ls hl => ?_)
        refine lv_goto (tgt := 140) hx hb dX4_behindEffects_116 (by decide) ?_
        refine lv_lload hx hb dX4_behindEffects_140 (lv_at hl 7 rfl) ?_
        refine lv_iload hx hb dX4_behindEffects_142 (lv_at hl 2 rfl) ?_
        refine lv_iload hx hb dX4_behindEffects_144 (lv_at hl 0 rfl) ?_
        refine cl_sn C (c_X9_withValue l D cI cJ cZ wd (nI (mel (j * 6 + i))) (f_valueIn wd (mev (j * 6 + i)))) cd_X9_withValue (by decide +kernel) st_X9_withValue in_X9 hd_X9_withValue ⟨by decide, by decide⟩ hP hD hS hA (WR := [(av, .inr (5, [.ref v0, .ref v1, .int (nI nm), .ref v2, .ref v3, .ref v4, .ref v5, .ref v6, .ref v7, .ref v8, .ref v9])), (v6, .inl (cI, 24, .inl (nF mec))), (v7, .inl (cI, 144, .inl mek)), (v8, .inl (cI, 144, .inl (nF mel))), (v9, .inl (cI, 144, .inl mev))]) [] [0, 1, 2, 3, 4] rfl rfl rfl rfl (by decide) hl.1 rfl (Nat.le_of_ble_eq_true rfl) dX4_behindEffects_146 ⟨by decide, by decide⟩ (fun r W H locs hp hP hD hS => ?_)
        obtain ⟨rfl, rfl⟩ := hp
        refine W.eq (g2 := F0 m 149 ls [.long (f_withValue wd (nI (mel (j * 6 + i))) (f_valueIn wd (mev (j * 6 + i))))]) rfl ?_
        have hP : va_P D vwCl [(av, .inr (5, [.ref v0, .ref v1, .int (nI nm), .ref v2, .ref v3, .ref v4, .ref v5, .ref v6, .ref v7, .ref v8, .ref v9])), (v6, .inl (cI, 24, .inl (nF mec))), (v7, .inl (cI, 144, .inl mek)), (v8, .inl (cI, 144, .inl (nF mel))), (v9, .inl (cI, 144, .inl mev))] H := hP
        have hD : va_D A [(av, .inr (5, [.ref v0, .ref v1, .int (nI nm), .ref v2, .ref v3, .ref v4, .ref v5, .ref v6, .ref v7, .ref v8, .ref v9])), (v6, .inl (cI, 24, .inl (nF mec))), (v7, .inl (cI, 144, .inl mek)), (v8, .inl (cI, 144, .inl (nF mel))), (v9, .inl (cI, 144, .inl mev))] := hD
        refine lv_lstore (lv' := [(5, .long (f_withValue wd (nI (mel (j * 6 + i))) (f_valueIn wd (mev (j * 6 + i))))), (11, .int (f_valueIn wd (mev (j * 6 + i)))), (10, .int (mev (j * 6 + i))), (9, .int (nI (mel (j * 6 + i)))), (0, .ref av), (1, .int (nI j)), (2, .long w), (4, .int (nI n)), (7, .int (nI (j * 6))), (8, .int (nI (j * 6 + i)))]) hx hb dX4_behindEffects_149 hl (by decide) rfl (fun ls hl => ?_)
        refine lv_iinc (v := nI (j * 6 + i + 1)) (lv' := [(8, .int (nI (j * 6 + i + 1))), (5, .long (f_withValue wd (nI (mel (j * 6 + i))) (f_valueIn wd (mev (j * 6 + i))))), (11, .int (f_valueIn wd (mev (j * 6 + i)))), (10, .int (mev (j * 6 + i))), (9, .int (nI (mel (j * 6 + i)))), (0, .ref av), (1, .int (nI j)), (2, .long w), (4, .int (nI n)), (7, .int (nI (j * 6)))]) hx hb dX4_behindEffects_151 hl (k := 9) rfl (nI_1 _) (by decide) rfl (fun ls hl => ?_)
        refine lv_goto (tgt := 13) hx hb dX4_behindEffects_154 (by decide) ?_
        exact ih (i + 1) (f_withValue wd (nI (mel (j * 6 + i))) (f_valueIn wd (mev (j * 6 + i)))) (by omega) (by rw [hw]; simp only [f_beh, f_effv]; rw [if_neg w_52_0, if_neg w_52_1, if_pos w_52_2]) (by omega) _ _ _ (hP.sub [0, 1, 2, 3, 4] rfl) (hD.sub [0, 1, 2, 3, 4] (by decide) rfl) hS (lv_sub hl [5, 6, 7, 8, 1, 9, 0] rfl)
      refine lv_tableOut (tgt := 119) hx hb dX4_behindEffects_52 (sw_out 2 (by decide) (fun k hk => by match k, hk with | 0, _ => exact w_52_0 | 1, _ => exact w_52_1 | 2, _ => exact w_52_2 | k + 3, hk => exact absurd hk (by omega))) (by decide) ?_
      refine lv_iload hx hb dX4_behindEffects_119 (lv_at hl 0 rfl) ?_
      refine lv_if_le (tgt := 137) hx hb dX4_behindEffects_121 (by decide) (fun c_121 => ?_) (fun c_121 => ?_)
      · -- taken 121
        refine lv_iconst (v := 0) hx hb dX4_behindEffects_137 (by decide) ?_
        refine lv_istore (lv' := [(11, .int 0), (10, .int (mev (j * 6 + i))), (9, .int (nI (mel (j * 6 + i)))), (0, .ref av), (1, .int (nI j)), (2, .long w), (4, .int (nI n)), (5, .long wd), (7, .int (nI (j * 6))), (8, .int (nI (j * 6 + i)))]) hx hb dX4_behindEffects_138 hl (by decide) rfl (fun ls hl => ?_)
        refine lv_lload hx hb dX4_behindEffects_140 (lv_at hl 7 rfl) ?_
        refine lv_iload hx hb dX4_behindEffects_142 (lv_at hl 2 rfl) ?_
        refine lv_iload hx hb dX4_behindEffects_144 (lv_at hl 0 rfl) ?_
        refine cl_sn C (c_X9_withValue l D cI cJ cZ wd (nI (mel (j * 6 + i))) 0) cd_X9_withValue (by decide +kernel) st_X9_withValue in_X9 hd_X9_withValue ⟨by decide, by decide⟩ hP hD hS hA (WR := [(av, .inr (5, [.ref v0, .ref v1, .int (nI nm), .ref v2, .ref v3, .ref v4, .ref v5, .ref v6, .ref v7, .ref v8, .ref v9])), (v6, .inl (cI, 24, .inl (nF mec))), (v7, .inl (cI, 144, .inl mek)), (v8, .inl (cI, 144, .inl (nF mel))), (v9, .inl (cI, 144, .inl mev))]) [] [0, 1, 2, 3, 4] rfl rfl rfl rfl (by decide) hl.1 rfl (Nat.le_of_ble_eq_true rfl) dX4_behindEffects_146 ⟨by decide, by decide⟩ (fun r W H locs hp hP hD hS => ?_)
        obtain ⟨rfl, rfl⟩ := hp
        refine W.eq (g2 := F0 m 149 ls [.long (f_withValue wd (nI (mel (j * 6 + i))) 0)]) rfl ?_
        have hP : va_P D vwCl [(av, .inr (5, [.ref v0, .ref v1, .int (nI nm), .ref v2, .ref v3, .ref v4, .ref v5, .ref v6, .ref v7, .ref v8, .ref v9])), (v6, .inl (cI, 24, .inl (nF mec))), (v7, .inl (cI, 144, .inl mek)), (v8, .inl (cI, 144, .inl (nF mel))), (v9, .inl (cI, 144, .inl mev))] H := hP
        have hD : va_D A [(av, .inr (5, [.ref v0, .ref v1, .int (nI nm), .ref v2, .ref v3, .ref v4, .ref v5, .ref v6, .ref v7, .ref v8, .ref v9])), (v6, .inl (cI, 24, .inl (nF mec))), (v7, .inl (cI, 144, .inl mek)), (v8, .inl (cI, 144, .inl (nF mel))), (v9, .inl (cI, 144, .inl mev))] := hD
        refine lv_lstore (lv' := [(5, .long (f_withValue wd (nI (mel (j * 6 + i))) 0)), (11, .int 0), (10, .int (mev (j * 6 + i))), (9, .int (nI (mel (j * 6 + i)))), (0, .ref av), (1, .int (nI j)), (2, .long w), (4, .int (nI n)), (7, .int (nI (j * 6))), (8, .int (nI (j * 6 + i)))]) hx hb dX4_behindEffects_149 hl (by decide) rfl (fun ls hl => ?_)
        refine lv_iinc (v := nI (j * 6 + i + 1)) (lv' := [(8, .int (nI (j * 6 + i + 1))), (5, .long (f_withValue wd (nI (mel (j * 6 + i))) 0)), (11, .int 0), (10, .int (mev (j * 6 + i))), (9, .int (nI (mel (j * 6 + i)))), (0, .ref av), (1, .int (nI j)), (2, .long w), (4, .int (nI n)), (7, .int (nI (j * 6)))]) hx hb dX4_behindEffects_151 hl (k := 9) rfl (nI_1 _) (by decide) rfl (fun ls hl => ?_)
        refine lv_goto (tgt := 13) hx hb dX4_behindEffects_154 (by decide) ?_
        exact ih (i + 1) (f_withValue wd (nI (mel (j * 6 + i))) 0) (by omega) (by rw [hw]; simp only [f_beh, f_effv]; rw [if_neg w_52_0, if_neg w_52_1, if_neg w_52_2, if_neg (fun z => absurd c_121 (Int32.not_le.mpr z))]; try rfl) (by omega) _ _ _ (hP.sub [0, 1, 2, 3, 4] rfl) (hD.sub [0, 1, 2, 3, 4] (by decide) rfl) hS (lv_sub hl [5, 6, 7, 8, 1, 9, 0] rfl)
      · -- not taken 121
        refine lv_iload_n hx hb dX4_behindEffects_124 rfl (lv_at hl 3 rfl) ?_
        refine lv_lload_n hx hb dX4_behindEffects_125 rfl (lv_at hl 4 rfl) ?_
        refine lv_iload hx hb dX4_behindEffects_126 (lv_at hl 5 rfl) ?_
        refine cl_s C (c_X4_chance l D cI cJ cZ j w n (by omega) (by omega)) cd_X4_chance ml_X4_88 st_X4_chance in_X4 hd_X4_chance ⟨by decide, by decide⟩ hP hD hS hA (WR := [(av, .inr (5, [.ref v0, .ref v1, .int (nI nm), .ref v2, .ref v3, .ref v4, .ref v5, .ref v6, .ref v7, .ref v8, .ref v9])), (v6, .inl (cI, 24, .inl (nF mec))), (v7, .inl (cI, 144, .inl mek)), (v8, .inl (cI, 144, .inl (nF mel))), (v9, .inl (cI, 144, .inl mev))]) [] [0, 1, 2, 3, 4] rfl rfl rfl rfl (by decide) hl.1 rfl (Nat.le_of_ble_eq_true rfl) dX4_behindEffects_128 ⟨by decide, by decide⟩ (fun r W H locs hp hP hD hS => ?_)
        obtain ⟨rfl, rfl⟩ := hp
        refine W.eq (g2 := F0 m 131 ls [.int (f_chance (dgs w) n j)]) rfl ?_
        have hP : va_P D vwCl [(av, .inr (5, [.ref v0, .ref v1, .int (nI nm), .ref v2, .ref v3, .ref v4, .ref v5, .ref v6, .ref v7, .ref v8, .ref v9])), (v6, .inl (cI, 24, .inl (nF mec))), (v7, .inl (cI, 144, .inl mek)), (v8, .inl (cI, 144, .inl (nF mel))), (v9, .inl (cI, 144, .inl mev))] H := hP
        have hD : va_D A [(av, .inr (5, [.ref v0, .ref v1, .int (nI nm), .ref v2, .ref v3, .ref v4, .ref v5, .ref v6, .ref v7, .ref v8, .ref v9])), (v6, .inl (cI, 24, .inl (nF mec))), (v7, .inl (cI, 144, .inl mek)), (v8, .inl (cI, 144, .inl (nF mel))), (v9, .inl (cI, 144, .inl mev))] := hD
        refine lv_iload hx hb dX4_behindEffects_131 (lv_at hl 0 rfl) ?_
        refine lv_irem hx hb dX4_behindEffects_133 (fun z => c_121 (by rw [z]; decide)) ?_
        refine lv_goto (tgt := 138) hx hb dX4_behindEffects_134 (by decide) ?_
        refine lv_istore (lv' := [(11, .int ((f_chance (dgs w) n j) - (f_chance (dgs w) n j) / (mev (j * 6 + i)) * (mev (j * 6 + i)))), (10, .int (mev (j * 6 + i))), (9, .int (nI (mel (j * 6 + i)))), (0, .ref av), (1, .int (nI j)), (2, .long w), (4, .int (nI n)), (5, .long wd), (7, .int (nI (j * 6))), (8, .int (nI (j * 6 + i)))]) hx hb dX4_behindEffects_138 hl (by decide) rfl (fun ls hl => ?_)
        refine lv_lload hx hb dX4_behindEffects_140 (lv_at hl 7 rfl) ?_
        refine lv_iload hx hb dX4_behindEffects_142 (lv_at hl 2 rfl) ?_
        refine lv_iload hx hb dX4_behindEffects_144 (lv_at hl 0 rfl) ?_
        refine cl_sn C (c_X9_withValue l D cI cJ cZ wd (nI (mel (j * 6 + i))) ((f_chance (dgs w) n j) - (f_chance (dgs w) n j) / (mev (j * 6 + i)) * (mev (j * 6 + i)))) cd_X9_withValue (by decide +kernel) st_X9_withValue in_X9 hd_X9_withValue ⟨by decide, by decide⟩ hP hD hS hA (WR := [(av, .inr (5, [.ref v0, .ref v1, .int (nI nm), .ref v2, .ref v3, .ref v4, .ref v5, .ref v6, .ref v7, .ref v8, .ref v9])), (v6, .inl (cI, 24, .inl (nF mec))), (v7, .inl (cI, 144, .inl mek)), (v8, .inl (cI, 144, .inl (nF mel))), (v9, .inl (cI, 144, .inl mev))]) [] [0, 1, 2, 3, 4] rfl rfl rfl rfl (by decide) hl.1 rfl (Nat.le_of_ble_eq_true rfl) dX4_behindEffects_146 ⟨by decide, by decide⟩ (fun r W H locs hp hP hD hS => ?_)
        obtain ⟨rfl, rfl⟩ := hp
        refine W.eq (g2 := F0 m 149 ls [.long (f_withValue wd (nI (mel (j * 6 + i))) ((f_chance (dgs w) n j) - (f_chance (dgs w) n j) / (mev (j * 6 + i)) * (mev (j * 6 + i))))]) rfl ?_
        have hP : va_P D vwCl [(av, .inr (5, [.ref v0, .ref v1, .int (nI nm), .ref v2, .ref v3, .ref v4, .ref v5, .ref v6, .ref v7, .ref v8, .ref v9])), (v6, .inl (cI, 24, .inl (nF mec))), (v7, .inl (cI, 144, .inl mek)), (v8, .inl (cI, 144, .inl (nF mel))), (v9, .inl (cI, 144, .inl mev))] H := hP
        have hD : va_D A [(av, .inr (5, [.ref v0, .ref v1, .int (nI nm), .ref v2, .ref v3, .ref v4, .ref v5, .ref v6, .ref v7, .ref v8, .ref v9])), (v6, .inl (cI, 24, .inl (nF mec))), (v7, .inl (cI, 144, .inl mek)), (v8, .inl (cI, 144, .inl (nF mel))), (v9, .inl (cI, 144, .inl mev))] := hD
        refine lv_lstore (lv' := [(5, .long (f_withValue wd (nI (mel (j * 6 + i))) ((f_chance (dgs w) n j) - (f_chance (dgs w) n j) / (mev (j * 6 + i)) * (mev (j * 6 + i))))), (11, .int ((f_chance (dgs w) n j) - (f_chance (dgs w) n j) / (mev (j * 6 + i)) * (mev (j * 6 + i)))), (10, .int (mev (j * 6 + i))), (9, .int (nI (mel (j * 6 + i)))), (0, .ref av), (1, .int (nI j)), (2, .long w), (4, .int (nI n)), (7, .int (nI (j * 6))), (8, .int (nI (j * 6 + i)))]) hx hb dX4_behindEffects_149 hl (by decide) rfl (fun ls hl => ?_)
        refine lv_iinc (v := nI (j * 6 + i + 1)) (lv' := [(8, .int (nI (j * 6 + i + 1))), (5, .long (f_withValue wd (nI (mel (j * 6 + i))) ((f_chance (dgs w) n j) - (f_chance (dgs w) n j) / (mev (j * 6 + i)) * (mev (j * 6 + i))))), (11, .int ((f_chance (dgs w) n j) - (f_chance (dgs w) n j) / (mev (j * 6 + i)) * (mev (j * 6 + i)))), (10, .int (mev (j * 6 + i))), (9, .int (nI (mel (j * 6 + i)))), (0, .ref av), (1, .int (nI j)), (2, .long w), (4, .int (nI n)), (7, .int (nI (j * 6)))]) hx hb dX4_behindEffects_151 hl (k := 9) rfl (nI_1 _) (by decide) rfl (fun ls hl => ?_)
        refine lv_goto (tgt := 13) hx hb dX4_behindEffects_154 (by decide) ?_
        exact ih (i + 1) (f_withValue wd (nI (mel (j * 6 + i))) ((f_chance (dgs w) n j) - (f_chance (dgs w) n j) / (mev (j * 6 + i)) * (mev (j * 6 + i)))) (by omega) (by rw [hw]; simp only [f_beh, f_effv]; rw [if_neg w_52_0, if_neg w_52_1, if_neg w_52_2, if_pos (Int32.not_le.mp c_121)]; try rfl) (by omega) _ _ _ (hP.sub [0, 1, 2, 3, 4] rfl) (hD.sub [0, 1, 2, 3, 4] (by decide) rfl) hS (lv_sub hl [5, 6, 7, 8, 1, 9, 0] rfl)
set_option maxHeartbeats 4000000 in
set_option maxRecDepth 100000 in
theorem c_X4_behindEffects (l : Launch) (D : va_G) (cI cJ cZ : ClassId) (av : Nat) (nm : Nat) (v0 : Nat) (v1 : Nat) (v2 : Nat) (v3 : Nat) (v4 : Nat) (v5 : Nat) (v6 : Nat) (v7 : Nat) (v8 : Nat) (v9 : Nat) (mec : Nat → Nat) (mek : Nat → Int32) (mel : Nat → Nat) (mev : Nat → Int32) (j : Nat) (w : Int64) (n : Nat) (hj : j < 24) (hc : mec j ≤ 6) (hn : n ≤ 10) : Ctr l D cI cJ cZ yX4_behindEffects cX4_behindEffects 12 (some .long) ({ frames := 2, cells := 0, slots := 0, locals := 48 } : Room) [.ref av, .int (nI j), .long w, .int (nI n)] [(av, .inr (5, [.ref v0, .ref v1, .int (nI nm), .ref v2, .ref v3, .ref v4, .ref v5, .ref v6, .ref v7, .ref v8, .ref v9])), (v6, .inl (cI, 24, .inl (nF mec))), (v7, .inl (cI, 144, .inl mek)), (v8, .inl (cI, 144, .inl (nF mel))), (v9, .inl (cI, 144, .inl mev))] (fun r W => r = some (.long (f_beh w n j mek mel mev (j * 6) (mec j))) ∧ W = [(av, .inr (5, [.ref v0, .ref v1, .int (nI nm), .ref v2, .ref v3, .ref v4, .ref v5, .ref v6, .ref v7, .ref v8, .ref v9])), (v6, .inl (cI, 24, .inl (nF mec))), (v7, .inl (cI, 144, .inl mek)), (v8, .inl (cI, 144, .inl (nF mel))), (v9, .inl (cI, 144, .inl mev))]) := by
  refine Ctr.start (by decide +kernel) (Nat.le_of_ble_eq_true rfl) ?_
  intro p e s m below meth c A Q ls H C hQ hA hP hD hS hl
  obtain ⟨hx, hb, hr, hml, hts, hown, hlk, hnm, hK, hN⟩ := id C
  have hl : lv_has ls 12 [(0, .ref av), (1, .int (nI j)), (2, .long w), (4, .int (nI n))] := hl
  refine lv_lload_n hx hb dX4_behindEffects_0 rfl (lv_at hl 2 rfl) ?_
  refine lv_lstore (lv' := [(5, .long w), (0, .ref av), (1, .int (nI j)), (2, .long w), (4, .int (nI n))]) hx hb dX4_behindEffects_1 hl (by decide) rfl (fun ls hl => ?_)
  refine lv_iload_n hx hb dX4_behindEffects_3 rfl (lv_at hl 2 rfl) ?_
  refine lv_bipush (v := 6) hx hb dX4_behindEffects_4 (by decide) ?_
  refine lv_imul hx hb dX4_behindEffects_6 ?_
  refine r_top (x' := nI (j * 6)) (pk_mul j 6) ?_
  refine lv_istore (lv' := [(7, .int (nI (j * 6))), (5, .long w), (0, .ref av), (1, .int (nI j)), (2, .long w), (4, .int (nI n))]) hx hb dX4_behindEffects_7 hl (by decide) rfl (fun ls hl => ?_)
  refine lv_iload hx hb dX4_behindEffects_9 (lv_at hl 0 rfl) ?_
  refine lv_istore (lv' := [(8, .int (nI (j * 6))), (7, .int (nI (j * 6))), (5, .long w), (0, .ref av), (1, .int (nI j)), (2, .long w), (4, .int (nI n))]) hx hb dX4_behindEffects_11 hl (by decide) rfl (fun ls hl => ?_)
  exact lp_X4_behindEffects_13 l D cI cJ cZ av nm v0 v1 v2 v3 v4 v5 v6 v7 v8 v9 mec mek mel mev j w n hj hc hn   C hQ hA _ 0 w (by omega) rfl (Nat.lt_succ_self _) _ _ _ (hP.sub [0, 1, 2, 3, 4] rfl) (hD.sub [0, 1, 2, 3, 4] (by decide) rfl) hS (lv_sub hl [3, 4, 5, 6, 2, 1, 0] rfl)
set_option maxHeartbeats 4000000 in
set_option maxRecDepth 100000 in
theorem c_X4_carryOut (l : Launch) (D : va_G) (cI cJ cZ : ClassId) (av : Nat) (nm : Nat) (v0 : Nat) (v1 : Nat) (v2 : Nat) (v3 : Nat) (v4 : Nat) (v5 : Nat) (v6 : Nat) (v7 : Nat) (v8 : Nat) (v9 : Nat) (mtx : Nat → Int32) (men : Nat → Int32) (mcn : Nat → Nat) (mcl : Nat → Nat) (mcr : Nat → Int32) (mcv : Nat → Int32) (mec : Nat → Nat) (mek : Nat → Int32) (mel : Nat → Nat) (mev : Nat → Int32) (j : Nat) (n : Nat) (am : Nat) (w : Int64) (en : Int32) (lt : Int32) (sh : Int32) (hj : j < 24) (hc : mcn j ≤ 6) (hc2 : mec j ≤ 6) (hn : n ≤ 10) : Ctr l D cI cJ cZ yX4_carryOut cX4_carryOut 4 (some .boolean) ({ frames := 3, cells := 0, slots := 0, locals := 79 } : Room) [.ref av, .int (nI j), .ref am, .int (nI n)] [(av, .inr (5, [.ref v0, .ref v1, .int (nI nm), .ref v2, .ref v3, .ref v4, .ref v5, .ref v6, .ref v7, .ref v8, .ref v9])), (v0, .inl (cI, 24, .inl mtx)), (v1, .inl (cI, 24, .inl men)), (v2, .inl (cI, 24, .inl (nF mcn))), (v3, .inl (cI, 144, .inl (nF mcl))), (v4, .inl (cI, 144, .inl mcr)), (v5, .inl (cI, 144, .inl mcv)), (v6, .inl (cI, 24, .inl (nF mec))), (v7, .inl (cI, 144, .inl mek)), (v8, .inl (cI, 144, .inl (nF mel))), (v9, .inl (cI, 144, .inl mev)), (am, .inr (4, [.long w, .int en, .int lt, .int sh]))] (fun r W => ((r = some (.int 1) ∧ (f_can (mtx, men, mcn, mcl, mcr, mcv, mec, mek, mel, mev) (w, en, lt, sh) j = true)) ∨ (r = some (.int 0) ∧ ¬ (f_can (mtx, men, mcn, mcl, mcr, mcv, mec, mek, mel, mev) (w, en, lt, sh) j = true))) ∧ W = [(av, .inr (5, [.ref v0, .ref v1, .int (nI nm), .ref v2, .ref v3, .ref v4, .ref v5, .ref v6, .ref v7, .ref v8, .ref v9])), (v0, .inl (cI, 24, .inl mtx)), (v1, .inl (cI, 24, .inl men)), (v2, .inl (cI, 24, .inl (nF mcn))), (v3, .inl (cI, 144, .inl (nF mcl))), (v4, .inl (cI, 144, .inl mcr)), (v5, .inl (cI, 144, .inl mcv)), (v6, .inl (cI, 24, .inl (nF mec))), (v7, .inl (cI, 144, .inl mek)), (v8, .inl (cI, 144, .inl (nF mel))), (v9, .inl (cI, 144, .inl mev)), (am, .inr (4, [.long ((if f_can (mtx, men, mcn, mcl, mcr, mcv, mec, mek, mel, mev) (w, en, lt, sh) j = true then f_doM (mtx, men, mcn, mcl, mcr, mcv, mec, mek, mel, mev) n j (w, en, lt, sh) else (w, en, lt, sh)).1), .int ((if f_can (mtx, men, mcn, mcl, mcr, mcv, mec, mek, mel, mev) (w, en, lt, sh) j = true then f_doM (mtx, men, mcn, mcl, mcr, mcv, mec, mek, mel, mev) n j (w, en, lt, sh) else (w, en, lt, sh)).2.1), .int ((if f_can (mtx, men, mcn, mcl, mcr, mcv, mec, mek, mel, mev) (w, en, lt, sh) j = true then f_doM (mtx, men, mcn, mcl, mcr, mcv, mec, mek, mel, mev) n j (w, en, lt, sh) else (w, en, lt, sh)).2.2.1), .int ((if f_can (mtx, men, mcn, mcl, mcr, mcv, mec, mek, mel, mev) (w, en, lt, sh) j = true then f_doM (mtx, men, mcn, mcl, mcr, mcv, mec, mek, mel, mev) n j (w, en, lt, sh) else (w, en, lt, sh)).2.2.2)]))]) := by
  refine Ctr.start (by decide +kernel) (Nat.le_of_ble_eq_true rfl) ?_
  intro p e s m below meth c A Q ls H C hQ hA hP hD hS hl
  obtain ⟨hx, hb, hr, hml, hts, hown, hlk, hnm, hK, hN⟩ := id C
  have hl : lv_has ls 4 [(0, .ref av), (1, .int (nI j)), (2, .ref am), (3, .int (nI n))] := hl
  refine lv_aload_n hx hb dX4_carryOut_0 rfl (lv_at hl 2 rfl) ?_
  refine r_get (v := .int en) C hP okX3 11 1 rfl (by decide) fl_X4_54 rfl rfl dX4_carryOut_1 ?_
  refine lv_if_ne (tgt := 19) hx hb dX4_carryOut_4 (by decide) (fun c_4 => ?_) (fun c_4 => ?_)
  · -- taken 4
    have hcan : ¬ f_can (mtx, men, mcn, mcl, mcr, mcv, mec, mek, mel, mev) (w, en, lt, sh) j = true := by simp only [f_can, Bool.and_eq_true, decide_eq_true_eq]; first | exact fun z => c_4 z.1 | exact fun z => hb_13 z.2
    refine lv_iconst (v := 0) hx hb dX4_carryOut_19 (by decide) ?_
    exact rt_z C hQ (by decide) (hP.sub (ws' := [(av, .inr (5, [.ref v0, .ref v1, .int (nI nm), .ref v2, .ref v3, .ref v4, .ref v5, .ref v6, .ref v7, .ref v8, .ref v9])), (v0, .inl (cI, 24, .inl mtx)), (v1, .inl (cI, 24, .inl men)), (v2, .inl (cI, 24, .inl (nF mcn))), (v3, .inl (cI, 144, .inl (nF mcl))), (v4, .inl (cI, 144, .inl mcr)), (v5, .inl (cI, 144, .inl mcv)), (v6, .inl (cI, 24, .inl (nF mec))), (v7, .inl (cI, 144, .inl mek)), (v8, .inl (cI, 144, .inl (nF mel))), (v9, .inl (cI, 144, .inl mev)), (am, .inr (4, [.long w, .int en, .int lt, .int sh]))]) [0, 1, 2, 3, 4, 5, 6, 7, 8, 9, 10, 11] rfl) (hD.sub [0, 1, 2, 3, 4, 5, 6, 7, 8, 9, 10, 11] (by decide) rfl) hS ⟨Or.inr ⟨rfl, hcan⟩, by simp only [if_neg hcan]⟩ (by decide) (by decide) dX4_carryOut_20
  · -- not taken 4
    refine lv_aload_n hx hb dX4_carryOut_7 rfl (lv_at hl 0 rfl) ?_
    refine lv_iload_n hx hb dX4_carryOut_8 rfl (lv_at hl 1 rfl) ?_
    refine lv_aload_n hx hb dX4_carryOut_9 rfl (lv_at hl 2 rfl) ?_
    refine r_get (v := .long w) C hP okX3 11 0 rfl (by decide) fl_X4_59 rfl rfl dX4_carryOut_10 ?_
    refine cl_v C (c_X4_conditionsHold l D cI cJ cZ av nm v0 v1 v2 v3 v4 v5 v6 v7 v8 v9 mcn mcl mcr mcv j w (by omega) (by omega)) cd_X4_conditionsHold ml_X4_63 im_X4_conditionsHold se_X4_conditionsHold in_X4 hd_X4_conditionsHold ⟨by decide, by decide⟩ hP hD hS hA (WR := [(v0, .inl (cI, 24, .inl mtx)), (v1, .inl (cI, 24, .inl men)), (v6, .inl (cI, 24, .inl (nF mec))), (v7, .inl (cI, 144, .inl mek)), (v8, .inl (cI, 144, .inl (nF mel))), (v9, .inl (cI, 144, .inl mev)), (am, .inr (4, [.long w, .int en, .int lt, .int sh]))]) [0, 3, 4, 5, 6] [1, 2, 7, 8, 9, 10, 11] rfl rfl rfl rfl (by decide) (ci := 5) (q0 := 0) rfl rfl hl.1 rfl (Nat.le_of_ble_eq_true rfl) dX4_carryOut_13 ⟨by decide, by decide⟩ (fun r W H locs hp hP hD hS => ?_)
    rcases hp with ⟨⟨rfl, hb_13⟩ | ⟨rfl, hb_13⟩, rfl⟩
    · -- yes 13
      refine W.eq (g2 := F0 m 16 ls [.int 1]) rfl ?_
      have hP : va_P D vwCl [(v0, .inl (cI, 24, .inl mtx)), (v1, .inl (cI, 24, .inl men)), (v6, .inl (cI, 24, .inl (nF mec))), (v7, .inl (cI, 144, .inl mek)), (v8, .inl (cI, 144, .inl (nF mel))), (v9, .inl (cI, 144, .inl mev)), (am, .inr (4, [.long w, .int en, .int lt, .int sh])), (av, .inr (5, [.ref v0, .ref v1, .int (nI nm), .ref v2, .ref v3, .ref v4, .ref v5, .ref v6, .ref v7, .ref v8, .ref v9])), (v2, .inl (cI, 24, .inl (nF mcn))), (v3, .inl (cI, 144, .inl (nF mcl))), (v4, .inl (cI, 144, .inl mcr)), (v5, .inl (cI, 144, .inl mcv))] H := hP
      have hD : va_D A [(v0, .inl (cI, 24, .inl mtx)), (v1, .inl (cI, 24, .inl men)), (v6, .inl (cI, 24, .inl (nF mec))), (v7, .inl (cI, 144, .inl mek)), (v8, .inl (cI, 144, .inl (nF mel))), (v9, .inl (cI, 144, .inl mev)), (am, .inr (4, [.long w, .int en, .int lt, .int sh])), (av, .inr (5, [.ref v0, .ref v1, .int (nI nm), .ref v2, .ref v3, .ref v4, .ref v5, .ref v6, .ref v7, .ref v8, .ref v9])), (v2, .inl (cI, 24, .inl (nF mcn))), (v3, .inl (cI, 144, .inl (nF mcl))), (v4, .inl (cI, 144, .inl mcr)), (v5, .inl (cI, 144, .inl mcv))] := hD
      refine lv_if_ne (tgt := 21) hx hb dX4_carryOut_16 (by decide) (fun c_16 => ?_) (fun c_16 => ?_)
      rotate_left
      · exact absurd c_16 (by decide)
      have hcan : f_can (mtx, men, mcn, mcl, mcr, mcv, mec, mek, mel, mev) (w, en, lt, sh) j = true := by simp only [f_can, Bool.and_eq_true, decide_eq_true_eq]; exact ⟨c_4, hb_13⟩
      refine lv_aload_n hx hb dX4_carryOut_21 rfl (lv_at hl 2 rfl) ?_
      refine lv_aload_n hx hb dX4_carryOut_22 rfl (lv_at hl 0 rfl) ?_
      refine lv_iload_n hx hb dX4_carryOut_23 rfl (lv_at hl 1 rfl) ?_
      refine lv_aload_n hx hb dX4_carryOut_24 rfl (lv_at hl 2 rfl) ?_
      refine r_get (v := .long w) C hP okX3 6 0 rfl (by decide) fl_X4_59 rfl rfl dX4_carryOut_25 ?_
      refine lv_iload_n hx hb dX4_carryOut_28 rfl (lv_at hl 3 rfl) ?_
      refine cl_v C (c_X4_behindEffects l D cI cJ cZ av nm v0 v1 v2 v3 v4 v5 v6 v7 v8 v9 mec mek mel mev j w n (by omega) (by omega) (by omega)) cd_X4_behindEffects ml_X4_67 im_X4_behindEffects se_X4_behindEffects in_X4 hd_X4_behindEffects ⟨by decide, by decide⟩ hP hD hS hA (WR := [(v0, .inl (cI, 24, .inl mtx)), (v1, .inl (cI, 24, .inl men)), (am, .inr (4, [.long w, .int en, .int lt, .int sh])), (v2, .inl (cI, 24, .inl (nF mcn))), (v3, .inl (cI, 144, .inl (nF mcl))), (v4, .inl (cI, 144, .inl mcr)), (v5, .inl (cI, 144, .inl mcv))]) [7, 2, 3, 4, 5] [0, 1, 6, 8, 9, 10, 11] rfl rfl rfl rfl (by decide) (ci := 5) (q0 := 7) rfl rfl hl.1 rfl (Nat.le_of_ble_eq_true rfl) dX4_carryOut_29 ⟨by decide, by decide⟩ (fun r W H locs hp hP hD hS => ?_)
      obtain ⟨rfl, rfl⟩ := hp
      refine W.eq (g2 := F0 m 32 ls [.long (f_beh w n j mek mel mev (j * 6) (mec j)), .ref am]) rfl ?_
      have hP : va_P D vwCl [(v0, .inl (cI, 24, .inl mtx)), (v1, .inl (cI, 24, .inl men)), (am, .inr (4, [.long w, .int en, .int lt, .int sh])), (v2, .inl (cI, 24, .inl (nF mcn))), (v3, .inl (cI, 144, .inl (nF mcl))), (v4, .inl (cI, 144, .inl mcr)), (v5, .inl (cI, 144, .inl mcv)), (av, .inr (5, [.ref v0, .ref v1, .int (nI nm), .ref v2, .ref v3, .ref v4, .ref v5, .ref v6, .ref v7, .ref v8, .ref v9])), (v6, .inl (cI, 24, .inl (nF mec))), (v7, .inl (cI, 144, .inl mek)), (v8, .inl (cI, 144, .inl (nF mel))), (v9, .inl (cI, 144, .inl mev))] H := hP
      have hD : va_D A [(v0, .inl (cI, 24, .inl mtx)), (v1, .inl (cI, 24, .inl men)), (am, .inr (4, [.long w, .int en, .int lt, .int sh])), (v2, .inl (cI, 24, .inl (nF mcn))), (v3, .inl (cI, 144, .inl (nF mcl))), (v4, .inl (cI, 144, .inl mcr)), (v5, .inl (cI, 144, .inl mcv)), (av, .inr (5, [.ref v0, .ref v1, .int (nI nm), .ref v2, .ref v3, .ref v4, .ref v5, .ref v6, .ref v7, .ref v8, .ref v9])), (v6, .inl (cI, 24, .inl (nF mec))), (v7, .inl (cI, 144, .inl mek)), (v8, .inl (cI, 144, .inl (nF mel))), (v9, .inl (cI, 144, .inl mev))] := hD
      refine r_put (v := .long (f_beh w n j mek mel mev (j * 6) (mec j))) C hP hD hS okX3 2 0 rfl (by decide) fl_X4_59 rfl rfl rfl rfl (Nat.le_of_ble_eq_true rfl) dX4_carryOut_32 (fun H locs hP hD hS => ?_)
      have hP : va_P D vwCl [(v0, .inl (cI, 24, .inl mtx)), (v1, .inl (cI, 24, .inl men)), (am, .inr (4, [.long (f_beh w n j mek mel mev (j * 6) (mec j)), .int en, .int lt, .int sh])), (v2, .inl (cI, 24, .inl (nF mcn))), (v3, .inl (cI, 144, .inl (nF mcl))), (v4, .inl (cI, 144, .inl mcr)), (v5, .inl (cI, 144, .inl mcv)), (av, .inr (5, [.ref v0, .ref v1, .int (nI nm), .ref v2, .ref v3, .ref v4, .ref v5, .ref v6, .ref v7, .ref v8, .ref v9])), (v6, .inl (cI, 24, .inl (nF mec))), (v7, .inl (cI, 144, .inl mek)), (v8, .inl (cI, 144, .inl (nF mel))), (v9, .inl (cI, 144, .inl mev))] H := hP
      have hD : va_D A [(v0, .inl (cI, 24, .inl mtx)), (v1, .inl (cI, 24, .inl men)), (am, .inr (4, [.long (f_beh w n j mek mel mev (j * 6) (mec j)), .int en, .int lt, .int sh])), (v2, .inl (cI, 24, .inl (nF mcn))), (v3, .inl (cI, 144, .inl (nF mcl))), (v4, .inl (cI, 144, .inl mcr)), (v5, .inl (cI, 144, .inl mcv)), (av, .inr (5, [.ref v0, .ref v1, .int (nI nm), .ref v2, .ref v3, .ref v4, .ref v5, .ref v6, .ref v7, .ref v8, .ref v9])), (v6, .inl (cI, 24, .inl (nF mec))), (v7, .inl (cI, 144, .inl mek)), (v8, .inl (cI, 144, .inl (nF mel))), (v9, .inl (cI, 144, .inl mev))] := hD
      refine lv_aload_n hx hb dX4_carryOut_35 rfl (lv_at hl 2 rfl) ?_
      refine lv_aload_n hx hb dX4_carryOut_36 rfl (lv_at hl 0 rfl) ?_
      refine r_get (v := .ref v1) C hP okX4 7 1 rfl (by decide) fl_X4_15 rfl rfl dX4_carryOut_37 ?_
      refine lv_iload_n hx hb dX4_carryOut_40 rfl (lv_at hl 1 rfl) ?_
      refine r_iald (j := j) C hP 1 rfl (by omega) (by decide) dX4_carryOut_41 ?_
      refine r_put (v := .int (men j)) C hP hD hS okX3 2 1 rfl (by decide) fl_X4_54 rfl rfl rfl rfl (Nat.le_of_ble_eq_true rfl) dX4_carryOut_42 (fun H locs hP hD hS => ?_)
      have hP : va_P D vwCl [(v0, .inl (cI, 24, .inl mtx)), (v1, .inl (cI, 24, .inl men)), (am, .inr (4, [.long (f_beh w n j mek mel mev (j * 6) (mec j)), .int (men j), .int lt, .int sh])), (v2, .inl (cI, 24, .inl (nF mcn))), (v3, .inl (cI, 144, .inl (nF mcl))), (v4, .inl (cI, 144, .inl mcr)), (v5, .inl (cI, 144, .inl mcv)), (av, .inr (5, [.ref v0, .ref v1, .int (nI nm), .ref v2, .ref v3, .ref v4, .ref v5, .ref v6, .ref v7, .ref v8, .ref v9])), (v6, .inl (cI, 24, .inl (nF mec))), (v7, .inl (cI, 144, .inl mek)), (v8, .inl (cI, 144, .inl (nF mel))), (v9, .inl (cI, 144, .inl mev))] H := hP
      have hD : va_D A [(v0, .inl (cI, 24, .inl mtx)), (v1, .inl (cI, 24, .inl men)), (am, .inr (4, [.long (f_beh w n j mek mel mev (j * 6) (mec j)), .int (men j), .int lt, .int sh])), (v2, .inl (cI, 24, .inl (nF mcn))), (v3, .inl (cI, 144, .inl (nF mcl))), (v4, .inl (cI, 144, .inl mcr)), (v5, .inl (cI, 144, .inl mcv)), (av, .inr (5, [.ref v0, .ref v1, .int (nI nm), .ref v2, .ref v3, .ref v4, .ref v5, .ref v6, .ref v7, .ref v8, .ref v9])), (v6, .inl (cI, 24, .inl (nF mec))), (v7, .inl (cI, 144, .inl mek)), (v8, .inl (cI, 144, .inl (nF mel))), (v9, .inl (cI, 144, .inl mev))] := hD
      refine lv_aload_n hx hb dX4_carryOut_45 rfl (lv_at hl 2 rfl) ?_
      refine lv_aload_n hx hb dX4_carryOut_46 rfl (lv_at hl 0 rfl) ?_
      refine r_get (v := .ref v0) C hP okX4 7 0 rfl (by decide) fl_X4_9 rfl rfl dX4_carryOut_47 ?_
      refine lv_iload_n hx hb dX4_carryOut_50 rfl (lv_at hl 1 rfl) ?_
      refine r_iald (j := j) C hP 0 rfl (by omega) (by decide) dX4_carryOut_51 ?_
      refine cl_v C (c_X3_hear l D cI cJ cZ am (f_beh w n j mek mel mev (j * 6) (mec j)) (men j) lt sh (mtx j)) cd_X3_hear ml_X4_71 im_X3_hear se_X3_hear in_X3 hd_X3_hear ⟨by decide, by decide⟩ hP hD hS hA (WR := [(v0, .inl (cI, 24, .inl mtx)), (v1, .inl (cI, 24, .inl men)), (v2, .inl (cI, 24, .inl (nF mcn))), (v3, .inl (cI, 144, .inl (nF mcl))), (v4, .inl (cI, 144, .inl mcr)), (v5, .inl (cI, 144, .inl mcv)), (av, .inr (5, [.ref v0, .ref v1, .int (nI nm), .ref v2, .ref v3, .ref v4, .ref v5, .ref v6, .ref v7, .ref v8, .ref v9])), (v6, .inl (cI, 24, .inl (nF mec))), (v7, .inl (cI, 144, .inl mek)), (v8, .inl (cI, 144, .inl (nF mel))), (v9, .inl (cI, 144, .inl mev))]) [2] [0, 1, 3, 4, 5, 6, 7, 8, 9, 10, 11] rfl rfl rfl rfl (by decide) (ci := 4) (q0 := 2) rfl rfl hl.1 rfl (Nat.le_of_ble_eq_true rfl) dX4_carryOut_52 ⟨by decide, by decide⟩ (fun r W H locs hp hP hD hS => ?_)
      obtain ⟨rfl, rfl⟩ := hp
      refine W.eq (g2 := F0 m 55 ls []) rfl ?_
      have hP : va_P D vwCl [(v0, .inl (cI, 24, .inl mtx)), (v1, .inl (cI, 24, .inl men)), (v2, .inl (cI, 24, .inl (nF mcn))), (v3, .inl (cI, 144, .inl (nF mcl))), (v4, .inl (cI, 144, .inl mcr)), (v5, .inl (cI, 144, .inl mcv)), (av, .inr (5, [.ref v0, .ref v1, .int (nI nm), .ref v2, .ref v3, .ref v4, .ref v5, .ref v6, .ref v7, .ref v8, .ref v9])), (v6, .inl (cI, 24, .inl (nF mec))), (v7, .inl (cI, 144, .inl mek)), (v8, .inl (cI, 144, .inl (nF mel))), (v9, .inl (cI, 144, .inl mev)), (am, .inr (4, [.long (f_beh w n j mek mel mev (j * 6) (mec j)), .int (men j), .int (mtx j), .int (f_hear sh (mtx j))]))] H := hP
      have hD : va_D A [(v0, .inl (cI, 24, .inl mtx)), (v1, .inl (cI, 24, .inl men)), (v2, .inl (cI, 24, .inl (nF mcn))), (v3, .inl (cI, 144, .inl (nF mcl))), (v4, .inl (cI, 144, .inl mcr)), (v5, .inl (cI, 144, .inl mcv)), (av, .inr (5, [.ref v0, .ref v1, .int (nI nm), .ref v2, .ref v3, .ref v4, .ref v5, .ref v6, .ref v7, .ref v8, .ref v9])), (v6, .inl (cI, 24, .inl (nF mec))), (v7, .inl (cI, 144, .inl mek)), (v8, .inl (cI, 144, .inl (nF mel))), (v9, .inl (cI, 144, .inl mev)), (am, .inr (4, [.long (f_beh w n j mek mel mev (j * 6) (mec j)), .int (men j), .int (mtx j), .int (f_hear sh (mtx j))]))] := hD
      refine lv_iconst (v := 1) hx hb dX4_carryOut_55 (by decide) ?_
      exact rt_z C hQ (by decide) (hP.sub (ws' := [(av, .inr (5, [.ref v0, .ref v1, .int (nI nm), .ref v2, .ref v3, .ref v4, .ref v5, .ref v6, .ref v7, .ref v8, .ref v9])), (v0, .inl (cI, 24, .inl mtx)), (v1, .inl (cI, 24, .inl men)), (v2, .inl (cI, 24, .inl (nF mcn))), (v3, .inl (cI, 144, .inl (nF mcl))), (v4, .inl (cI, 144, .inl mcr)), (v5, .inl (cI, 144, .inl mcv)), (v6, .inl (cI, 24, .inl (nF mec))), (v7, .inl (cI, 144, .inl mek)), (v8, .inl (cI, 144, .inl (nF mel))), (v9, .inl (cI, 144, .inl mev)), (am, .inr (4, [.long (f_beh w n j mek mel mev (j * 6) (mec j)), .int (men j), .int (mtx j), .int (f_hear sh (mtx j))]))]) [6, 0, 1, 2, 3, 4, 5, 7, 8, 9, 10, 11] rfl) (hD.sub [6, 0, 1, 2, 3, 4, 5, 7, 8, 9, 10, 11] (by decide) rfl) hS ⟨Or.inl ⟨rfl, hcan⟩, by simp only [if_pos hcan]; rfl⟩ (by decide) (by decide) dX4_carryOut_56
    · -- no 13
      refine W.eq (g2 := F0 m 16 ls [.int 0]) rfl ?_
      have hP : va_P D vwCl [(v0, .inl (cI, 24, .inl mtx)), (v1, .inl (cI, 24, .inl men)), (v6, .inl (cI, 24, .inl (nF mec))), (v7, .inl (cI, 144, .inl mek)), (v8, .inl (cI, 144, .inl (nF mel))), (v9, .inl (cI, 144, .inl mev)), (am, .inr (4, [.long w, .int en, .int lt, .int sh])), (av, .inr (5, [.ref v0, .ref v1, .int (nI nm), .ref v2, .ref v3, .ref v4, .ref v5, .ref v6, .ref v7, .ref v8, .ref v9])), (v2, .inl (cI, 24, .inl (nF mcn))), (v3, .inl (cI, 144, .inl (nF mcl))), (v4, .inl (cI, 144, .inl mcr)), (v5, .inl (cI, 144, .inl mcv))] H := hP
      have hD : va_D A [(v0, .inl (cI, 24, .inl mtx)), (v1, .inl (cI, 24, .inl men)), (v6, .inl (cI, 24, .inl (nF mec))), (v7, .inl (cI, 144, .inl mek)), (v8, .inl (cI, 144, .inl (nF mel))), (v9, .inl (cI, 144, .inl mev)), (am, .inr (4, [.long w, .int en, .int lt, .int sh])), (av, .inr (5, [.ref v0, .ref v1, .int (nI nm), .ref v2, .ref v3, .ref v4, .ref v5, .ref v6, .ref v7, .ref v8, .ref v9])), (v2, .inl (cI, 24, .inl (nF mcn))), (v3, .inl (cI, 144, .inl (nF mcl))), (v4, .inl (cI, 144, .inl mcr)), (v5, .inl (cI, 144, .inl mcv))] := hD
      refine lv_if_ne (tgt := 21) hx hb dX4_carryOut_16 (by decide) (fun c_16 => ?_) (fun c_16 => ?_)
      · exact absurd c_16 (by decide)
      have hcan : ¬ f_can (mtx, men, mcn, mcl, mcr, mcv, mec, mek, mel, mev) (w, en, lt, sh) j = true := by simp only [f_can, Bool.and_eq_true, decide_eq_true_eq]; first | exact fun z => c_4 z.1 | exact fun z => hb_13 z.2
      refine lv_iconst (v := 0) hx hb dX4_carryOut_19 (by decide) ?_
      exact rt_z C hQ (by decide) (hP.sub (ws' := [(av, .inr (5, [.ref v0, .ref v1, .int (nI nm), .ref v2, .ref v3, .ref v4, .ref v5, .ref v6, .ref v7, .ref v8, .ref v9])), (v0, .inl (cI, 24, .inl mtx)), (v1, .inl (cI, 24, .inl men)), (v2, .inl (cI, 24, .inl (nF mcn))), (v3, .inl (cI, 144, .inl (nF mcl))), (v4, .inl (cI, 144, .inl mcr)), (v5, .inl (cI, 144, .inl mcv)), (v6, .inl (cI, 24, .inl (nF mec))), (v7, .inl (cI, 144, .inl mek)), (v8, .inl (cI, 144, .inl (nF mel))), (v9, .inl (cI, 144, .inl mev)), (am, .inr (4, [.long w, .int en, .int lt, .int sh]))]) [7, 0, 1, 8, 9, 10, 11, 2, 3, 4, 5, 6] rfl) (hD.sub [7, 0, 1, 8, 9, 10, 11, 2, 3, 4, 5, 6] (by decide) rfl) hS ⟨Or.inr ⟨rfl, hcan⟩, by simp only [if_neg hcan]⟩ (by decide) (by decide) dX4_carryOut_20
