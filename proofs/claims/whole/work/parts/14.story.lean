/-! Story (written by s6.py) -/
set_option maxHeartbeats 4000000 in
set_option maxRecDepth 100000 in
theorem c_X8_stepCount (l : Launch) (D : va_G) (cI cJ cZ : ClassId) (at : Nat) (ac : Nat) (av : Nat) (nm : Nat) (v0 : Nat) (v1 : Nat) (v2 : Nat) (v3 : Nat) (v4 : Nat) (v5 : Nat) (v6 : Nat) (v7 : Nat) (v8 : Nat) (v9 : Nat) (ak : Nat) (nk : Nat) (nd : Nat) (ad : Nat) (as : Nat) (ar : Nat) (ag : Nat) (ao : Nat)  : Ctr l D cI cJ cZ yX8_stepCount cX8_stepCount 1 (some .int) ({ frames := 0, cells := 0, slots := 0, locals := 0 } : Room) [.ref at] [(at, .inr (9, [.ref ac, .ref av, .ref ak, .ref ag, .ref ao])), (av, .inr (5, [.ref v0, .ref v1, .int (nI nm), .ref v2, .ref v3, .ref v4, .ref v5, .ref v6, .ref v7, .ref v8, .ref v9])), (ak, .inr (3, [.int (nI nk), .int (nI nd), .ref ad, .ref as, .ref ar]))] (fun r W => r = some (.int (nI (nm + nk))) ∧ W = [(at, .inr (9, [.ref ac, .ref av, .ref ak, .ref ag, .ref ao])), (av, .inr (5, [.ref v0, .ref v1, .int (nI nm), .ref v2, .ref v3, .ref v4, .ref v5, .ref v6, .ref v7, .ref v8, .ref v9])), (ak, .inr (3, [.int (nI nk), .int (nI nd), .ref ad, .ref as, .ref ar]))]) := by
  refine Ctr.start (by decide +kernel) (Nat.le_of_ble_eq_true rfl) ?_
  intro p e s m below meth c A Q ls H C hQ hA hP hD hS hl
  obtain ⟨hx, hb, hr, hml, hts, hown, hlk, hnm, hK, hN⟩ := id C
  have hl : lv_has ls 1 [(0, .ref at)] := hl
  refine lv_aload_n hx hb dX8_stepCount_0 rfl (lv_at hl 0 rfl) ?_
  refine r_get (v := .ref av) C hP okX8 0 1 rfl (by decide) fl_X8_21 rfl rfl dX8_stepCount_1 ?_
  refine r_get (v := .int (nI nm)) C hP okX4 1 2 rfl (by decide) fl_X8_46 rfl rfl dX8_stepCount_4 ?_
  refine lv_aload_n hx hb dX8_stepCount_7 rfl (lv_at hl 0 rfl) ?_
  refine r_get (v := .ref ak) C hP okX8 0 2 rfl (by decide) fl_X8_28 rfl rfl dX8_stepCount_8 ?_
  refine r_get (v := .int (nI nk)) C hP okX2 2 0 rfl (by decide) fl_X8_50 rfl rfl dX8_stepCount_11 ?_
  refine lv_iadd hx hb dX8_stepCount_14 ?_
  refine r_top (x' := nI (nm + nk)) (nI_add nm nk) ?_
  exact rt_i C hQ (hP.sub (ws' := [(at, .inr (9, [.ref ac, .ref av, .ref ak, .ref ag, .ref ao])), (av, .inr (5, [.ref v0, .ref v1, .int (nI nm), .ref v2, .ref v3, .ref v4, .ref v5, .ref v6, .ref v7, .ref v8, .ref v9])), (ak, .inr (3, [.int (nI nk), .int (nI nd), .ref ad, .ref as, .ref ar]))]) [0, 1, 2] rfl) (hD.sub [0, 1, 2] (by decide) rfl) hS ⟨rfl, rfl⟩ (by decide) (by decide) dX8_stepCount_15
set_option maxHeartbeats 4000000 in
set_option maxRecDepth 100000 in
theorem c_X8_stepBy (l : Launch) (D : va_G) (cI cJ cZ : ClassId) (at : Nat) (ac : Nat) (ak : Nat) (av : Nat) (nm : Nat) (v0 : Nat) (v1 : Nat) (v2 : Nat) (v3 : Nat) (v4 : Nat) (v5 : Nat) (v6 : Nat) (v7 : Nat) (v8 : Nat) (v9 : Nat) (ag : Nat) (ao : Nat) (k : Nat) (hk : k < 32) (hm : nm ≤ 24) : Ctr l D cI cJ cZ yX8_stepBy cX8_stepBy 2 (some .int) ({ frames := 0, cells := 0, slots := 0, locals := 0 } : Room) [.ref at, .int (nI k)] [(at, .inr (9, [.ref ac, .ref av, .ref ak, .ref ag, .ref ao])), (av, .inr (5, [.ref v0, .ref v1, .int (nI nm), .ref v2, .ref v3, .ref v4, .ref v5, .ref v6, .ref v7, .ref v8, .ref v9]))] (fun r W => r = some (.int (nI (n_by nm k))) ∧ W = [(at, .inr (9, [.ref ac, .ref av, .ref ak, .ref ag, .ref ao])), (av, .inr (5, [.ref v0, .ref v1, .int (nI nm), .ref v2, .ref v3, .ref v4, .ref v5, .ref v6, .ref v7, .ref v8, .ref v9]))]) := by
  refine Ctr.start (by decide +kernel) (Nat.le_of_ble_eq_true rfl) ?_
  intro p e s m below meth c A Q ls H C hQ hA hP hD hS hl
  obtain ⟨hx, hb, hr, hml, hts, hown, hlk, hnm, hK, hN⟩ := id C
  have hl : lv_has ls 2 [(0, .ref at), (1, .int (nI k))] := hl
  refine lv_iload_n hx hb dX8_stepBy_0 rfl (lv_at hl 1 rfl) ?_
  refine lv_aload_n hx hb dX8_stepBy_1 rfl (lv_at hl 0 rfl) ?_
  refine r_get (v := .ref av) C hP okX8 0 1 rfl (by decide) fl_X8_21 rfl rfl dX8_stepBy_2 ?_
  refine r_get (v := .int (nI nm)) C hP okX4 1 2 rfl (by decide) fl_X8_46 rfl rfl dX8_stepBy_5 ?_
  refine lv_icmp_ge (tgt := 15) hx hb dX8_stepBy_8 (by decide) (fun c_8 => ?_) (fun c_8 => ?_)
  · -- taken 8
    have c_8 : nm ≤ k := (nI_leI (a := nm) (b := k) (by omega) (by omega)).mp c_8
    refine lv_bipush (v := 100) hx hb dX8_stepBy_15 (by decide) ?_
    refine lv_iload_n hx hb dX8_stepBy_17 rfl (lv_at hl 1 rfl) ?_
    refine lv_iadd hx hb dX8_stepBy_18 ?_
    refine r_top (x' := nI (100 + k)) (nI_add 100 k) ?_
    refine lv_aload_n hx hb dX8_stepBy_19 rfl (lv_at hl 0 rfl) ?_
    refine r_get (v := .ref av) C hP okX8 0 1 rfl (by decide) fl_X8_21 rfl rfl dX8_stepBy_20 ?_
    refine r_get (v := .int (nI nm)) C hP okX4 1 2 rfl (by decide) fl_X8_46 rfl rfl dX8_stepBy_23 ?_
    refine lv_isub hx hb dX8_stepBy_26 ?_
    refine r_top (x' := nI (100 + k - nm)) (pk_sub (by omega)) ?_
    exact rt_i C hQ (hP.sub (ws' := [(at, .inr (9, [.ref ac, .ref av, .ref ak, .ref ag, .ref ao])), (av, .inr (5, [.ref v0, .ref v1, .int (nI nm), .ref v2, .ref v3, .ref v4, .ref v5, .ref v6, .ref v7, .ref v8, .ref v9]))]) [0, 1] rfl) (hD.sub [0, 1] (by decide) rfl) hS ⟨by simp only [n_by]; first | (rw [if_pos (by omega)]) | (rw [if_neg (by omega)]), rfl⟩ (by decide) (by decide) dX8_stepBy_27
  · -- not taken 8
    have c_8 : ¬ (nm ≤ k) := fun z => c_8 ((nI_leI (a := nm) (b := k) (by omega) (by omega)).mpr z)
    refine lv_iload_n hx hb dX8_stepBy_11 rfl (lv_at hl 1 rfl) ?_
    refine lv_goto (tgt := 27) hx hb dX8_stepBy_12 (by decide) ?_
    exact rt_i C hQ (hP.sub (ws' := [(at, .inr (9, [.ref ac, .ref av, .ref ak, .ref ag, .ref ao])), (av, .inr (5, [.ref v0, .ref v1, .int (nI nm), .ref v2, .ref v3, .ref v4, .ref v5, .ref v6, .ref v7, .ref v8, .ref v9]))]) [0, 1] rfl) (hD.sub [0, 1] (by decide) rfl) hS ⟨by simp only [n_by]; first | (rw [if_pos (by omega)]) | (rw [if_neg (by omega)]), rfl⟩ (by decide) (by decide) dX8_stepBy_27
