/-! Moves (written by s5.py) -/
set_option maxHeartbeats 4000000 in
set_option maxRecDepth 100000 in
theorem c_X4_isRelation (l : Launch) (D : va_G) (cI cJ cZ : ClassId) (r0 : Int32)  : Ctr l D cI cJ cZ yX4_isRelation cX4_isRelation 1 (some .boolean) ({ frames := 1, cells := 0, slots := 0, locals := 22 } : Room) [.int r0] [] (fun r W => ((r = some (.int 1) ∧ (rg r0 0 3 = true)) ∨ (r = some (.int 0) ∧ ¬ (rg r0 0 3 = true))) ∧ W = []) := by
  refine Ctr.start (by decide +kernel) (Nat.le_of_ble_eq_true rfl) ?_
  intro p e s m below meth c A Q ls H C hQ hA hP hD hS hl
  obtain ⟨hx, hb, hr, hml, hts, hown, hlk, hnm, hK, hN⟩ := id C
  have hl : lv_has ls 1 [(0, .int r0)] := hl
  refine lv_iload_n hx hb dX4_isRelation_0 rfl (lv_at hl 0 rfl) ?_
  refine lv_iconst (v := 0) hx hb dX4_isRelation_1 (by decide) ?_
  refine lv_iconst (v := 3) hx hb dX4_isRelation_2 (by decide) ?_
  refine cl_sn C (c_X9_isWithin l D cI cJ cZ r0 0 3) cd_X9_isWithin (by decide +kernel) st_X9_isWithin in_X9 hd_X9_isWithin ⟨by decide, by decide⟩ hP hD hS hA (WR := []) [] [] rfl rfl rfl rfl (by decide) hl.1 rfl (Nat.le_of_ble_eq_true rfl) dX4_isRelation_3 ⟨by decide, by decide⟩ (fun r W H locs hp hP hD hS => ?_)
  rcases hp with ⟨⟨rfl, hb_3⟩ | ⟨rfl, hb_3⟩, rfl⟩
  · -- yes 3
    refine W.eq (g2 := F0 m 6 ls [.int 1]) rfl ?_
    have hP : va_P D vwCl [] H := hP
    have hD : va_D A [] := hD
    exact rt_z C hQ (by decide) (hP.sub (ws' := []) [] rfl) (hD.sub [] (by decide) rfl) hS ⟨Or.inl ⟨rfl, (by first | exact rg_iff.mpr hb_3 | exact fun z => hb_3 (rg_iff.mp z))⟩, rfl⟩ (by decide) (by decide) dX4_isRelation_6
  · -- no 3
    refine W.eq (g2 := F0 m 6 ls [.int 0]) rfl ?_
    have hP : va_P D vwCl [] H := hP
    have hD : va_D A [] := hD
    exact rt_z C hQ (by decide) (hP.sub (ws' := []) [] rfl) (hD.sub [] (by decide) rfl) hS ⟨Or.inr ⟨rfl, (by first | exact rg_iff.mpr hb_3 | exact fun z => hb_3 (rg_iff.mp z))⟩, rfl⟩ (by decide) (by decide) dX4_isRelation_6
set_option maxHeartbeats 4000000 in
set_option maxRecDepth 100000 in
theorem c_X4_isEffect (l : Launch) (D : va_G) (cI cJ cZ : ClassId) (k : Int32) (v : Int32) (n : Nat) (hn : n ≤ 10) : Ctr l D cI cJ cZ yX4_isEffect cX4_isEffect 3 (some .boolean) ({ frames := 2, cells := 0, slots := 0, locals := 42 } : Room) [.int k, .int v, .int (nI n)] [] (fun r W => ((r = some (.int 1) ∧ (f_isEffect n k v = true)) ∨ (r = some (.int 0) ∧ ¬ (f_isEffect n k v = true))) ∧ W = []) := by
  refine Ctr.start (by decide +kernel) (Nat.le_of_ble_eq_true rfl) ?_
  intro p e s m below meth c A Q ls H C hQ hA hP hD hS hl
  obtain ⟨hx, hb, hr, hml, hts, hown, hlk, hnm, hK, hN⟩ := id C
  have hl : lv_has ls 3 [(0, .int k), (1, .int v), (2, .int (nI n))] := hl
  refine lv_iload_n hx hb dX4_isEffect_0 rfl (lv_at hl 0 rfl) ?_
  by_cases w_1_0 : k = 0
  · refine r_top w_1_0 ?_
    refine lv_tableIn (off := 31) (tgt := 32) hx hb dX4_isEffect_1 (by decide) (by decide) (by decide +kernel) (by decide) ?_
    refine lv_iload_n hx hb dX4_isEffect_32 rfl (lv_at hl 1 rfl) ?_
    refine cl_sn C (c_X9_isValue l D cI cJ cZ v) cd_X9_isValue (by decide +kernel) st_X9_isValue in_X9 hd_X9_isValue ⟨by decide, by decide⟩ hP hD hS hA (WR := []) [] [] rfl rfl rfl rfl (by decide) hl.1 rfl (Nat.le_of_ble_eq_true rfl) dX4_isEffect_33 ⟨by decide, by decide⟩ (fun r W H locs hp hP hD hS => ?_)
    rcases hp with ⟨⟨rfl, hb_33⟩ | ⟨rfl, hb_33⟩, rfl⟩
    · -- yes 33
      refine W.eq (g2 := F0 m 36 ls [.int 1]) rfl ?_
      have hP : va_P D vwCl [] H := hP
      have hD : va_D A [] := hD
      exact rt_z C hQ (by decide) (hP.sub (ws' := []) [] rfl) (hD.sub [] (by decide) rfl) hS ⟨Or.inl ⟨rfl, (by simp [f_isEffect, w_1_0, hb_33])⟩, rfl⟩ (by decide) (by decide) dX4_isEffect_36
    · -- no 33
      refine W.eq (g2 := F0 m 36 ls [.int 0]) rfl ?_
      have hP : va_P D vwCl [] H := hP
      have hD : va_D A [] := hD
      exact rt_z C hQ (by decide) (hP.sub (ws' := []) [] rfl) (hD.sub [] (by decide) rfl) hS ⟨Or.inr ⟨rfl, (by simp [f_isEffect, w_1_0, hb_33])⟩, rfl⟩ (by decide) (by decide) dX4_isEffect_36
  by_cases w_1_1 : k = 1
  · refine r_top w_1_1 ?_
    refine lv_tableIn (off := 36) (tgt := 37) hx hb dX4_isEffect_1 (by decide) (by decide) (by decide +kernel) (by decide) ?_
    refine lv_iload_n hx hb dX4_isEffect_37 rfl (lv_at hl 1 rfl) ?_
    refine lv_bipush (v := (-9)) hx hb dX4_isEffect_38 (by decide) ?_
    refine lv_bipush (v := 9) hx hb dX4_isEffect_40 (by decide) ?_
    refine cl_sn C (c_X9_isWithin l D cI cJ cZ v (-9) 9) cd_X9_isWithin (by decide +kernel) st_X9_isWithin in_X9 hd_X9_isWithin ⟨by decide, by decide⟩ hP hD hS hA (WR := []) [] [] rfl rfl rfl rfl (by decide) hl.1 rfl (Nat.le_of_ble_eq_true rfl) dX4_isEffect_42 ⟨by decide, by decide⟩ (fun r W H locs hp hP hD hS => ?_)
    rcases hp with ⟨⟨rfl, hb_42⟩ | ⟨rfl, hb_42⟩, rfl⟩
    · -- yes 42
      refine W.eq (g2 := F0 m 45 ls [.int 1]) rfl ?_
      have hP : va_P D vwCl [] H := hP
      have hD : va_D A [] := hD
      exact rt_z C hQ (by decide) (hP.sub (ws' := []) [] rfl) (hD.sub [] (by decide) rfl) hS ⟨Or.inl ⟨rfl, (by simp only [f_isEffect, w_1_0, w_1_1, if_true, if_false]; first | exact rg_iff.mpr hb_42 | exact fun z => hb_42 (rg_iff.mp z))⟩, rfl⟩ (by decide) (by decide) dX4_isEffect_45
    · -- no 42
      refine W.eq (g2 := F0 m 45 ls [.int 0]) rfl ?_
      have hP : va_P D vwCl [] H := hP
      have hD : va_D A [] := hD
      exact rt_z C hQ (by decide) (hP.sub (ws' := []) [] rfl) (hD.sub [] (by decide) rfl) hS ⟨Or.inr ⟨rfl, (by simp only [f_isEffect, w_1_0, w_1_1, if_true, if_false]; first | exact rg_iff.mpr hb_42 | exact fun z => hb_42 (rg_iff.mp z))⟩, rfl⟩ (by decide) (by decide) dX4_isEffect_45
  by_cases w_1_2 : k = 2
  · refine r_top w_1_2 ?_
    refine lv_tableIn (off := 45) (tgt := 46) hx hb dX4_isEffect_1 (by decide) (by decide) (by decide +kernel) (by decide) ?_
    refine lv_iload_n hx hb dX4_isEffect_46 rfl (lv_at hl 1 rfl) ?_
    refine lv_iconst (v := 0) hx hb dX4_isEffect_47 (by decide) ?_
    refine lv_iload_n hx hb dX4_isEffect_48 rfl (lv_at hl 2 rfl) ?_
    refine lv_iconst (v := 1) hx hb dX4_isEffect_49 (by decide) ?_
    refine lv_isub hx hb dX4_isEffect_50 ?_
    refine cl_sn C (c_X9_isWithin l D cI cJ cZ v 0 ((nI n) - 1)) cd_X9_isWithin (by decide +kernel) st_X9_isWithin in_X9 hd_X9_isWithin ⟨by decide, by decide⟩ hP hD hS hA (WR := []) [] [] rfl rfl rfl rfl (by decide) hl.1 rfl (Nat.le_of_ble_eq_true rfl) dX4_isEffect_51 ⟨by decide, by decide⟩ (fun r W H locs hp hP hD hS => ?_)
    rcases hp with ⟨⟨rfl, hb_51⟩ | ⟨rfl, hb_51⟩, rfl⟩
    · -- yes 51
      refine W.eq (g2 := F0 m 54 ls [.int 1]) rfl ?_
      have hP : va_P D vwCl [] H := hP
      have hD : va_D A [] := hD
      exact rt_z C hQ (by decide) (hP.sub (ws' := []) [] rfl) (hD.sub [] (by decide) rfl) hS ⟨Or.inl ⟨rfl, (by simp only [f_isEffect, w_1_0, w_1_1, w_1_2, if_true, if_false]; first | exact q_inR (by omega) hb_51 | exact q_ninR (by omega) hb_51)⟩, rfl⟩ (by decide) (by decide) dX4_isEffect_54
    · -- no 51
      refine W.eq (g2 := F0 m 54 ls [.int 0]) rfl ?_
      have hP : va_P D vwCl [] H := hP
      have hD : va_D A [] := hD
      exact rt_z C hQ (by decide) (hP.sub (ws' := []) [] rfl) (hD.sub [] (by decide) rfl) hS ⟨Or.inr ⟨rfl, (by simp only [f_isEffect, w_1_0, w_1_1, w_1_2, if_true, if_false]; first | exact q_inR (by omega) hb_51 | exact q_ninR (by omega) hb_51)⟩, rfl⟩ (by decide) (by decide) dX4_isEffect_54
  by_cases w_1_3 : k = 3
  · refine r_top w_1_3 ?_
    refine lv_tableIn (off := 54) (tgt := 55) hx hb dX4_isEffect_1 (by decide) (by decide) (by decide +kernel) (by decide) ?_
    refine lv_iload_n hx hb dX4_isEffect_55 rfl (lv_at hl 1 rfl) ?_
    refine lv_iconst (v := 1) hx hb dX4_isEffect_56 (by decide) ?_
    refine lv_bipush (v := 10) hx hb dX4_isEffect_57 (by decide) ?_
    refine cl_sn C (c_X9_isWithin l D cI cJ cZ v 1 10) cd_X9_isWithin (by decide +kernel) st_X9_isWithin in_X9 hd_X9_isWithin ⟨by decide, by decide⟩ hP hD hS hA (WR := []) [] [] rfl rfl rfl rfl (by decide) hl.1 rfl (Nat.le_of_ble_eq_true rfl) dX4_isEffect_59 ⟨by decide, by decide⟩ (fun r W H locs hp hP hD hS => ?_)
    rcases hp with ⟨⟨rfl, hb_59⟩ | ⟨rfl, hb_59⟩, rfl⟩
    · -- yes 59
      refine W.eq (g2 := F0 m 62 ls [.int 1]) rfl ?_
      have hP : va_P D vwCl [] H := hP
      have hD : va_D A [] := hD
      exact rt_z C hQ (by decide) (hP.sub (ws' := []) [] rfl) (hD.sub [] (by decide) rfl) hS ⟨Or.inl ⟨rfl, (by simp only [f_isEffect, w_1_0, w_1_1, w_1_2, w_1_3, if_true, if_false]; first | exact rg_iff.mpr hb_59 | exact fun z => hb_59 (rg_iff.mp z))⟩, rfl⟩ (by decide) (by decide) dX4_isEffect_62
    · -- no 59
      refine W.eq (g2 := F0 m 62 ls [.int 0]) rfl ?_
      have hP : va_P D vwCl [] H := hP
      have hD : va_D A [] := hD
      exact rt_z C hQ (by decide) (hP.sub (ws' := []) [] rfl) (hD.sub [] (by decide) rfl) hS ⟨Or.inr ⟨rfl, (by simp only [f_isEffect, w_1_0, w_1_1, w_1_2, w_1_3, if_true, if_false]; first | exact rg_iff.mpr hb_59 | exact fun z => hb_59 (rg_iff.mp z))⟩, rfl⟩ (by decide) (by decide) dX4_isEffect_62
  refine lv_tableOut (tgt := 63) hx hb dX4_isEffect_1 (sw_out 3 (by decide) (fun k hk => by match k, hk with | 0, _ => exact w_1_0 | 1, _ => exact w_1_1 | 2, _ => exact w_1_2 | 3, _ => exact w_1_3 | k + 4, hk => exact absurd hk (by omega))) (by decide) ?_
  refine lv_iconst (v := 0) hx hb dX4_isEffect_63 (by decide) ?_
  exact rt_z C hQ (by decide) (hP.sub (ws' := []) [] rfl) (hD.sub [] (by decide) rfl) hS ⟨Or.inr ⟨rfl, (by simp [f_isEffect, w_1_0, w_1_1, w_1_2, w_1_3])⟩, rfl⟩ (by decide) (by decide) dX4_isEffect_64
set_option maxHeartbeats 4000000 in
set_option maxRecDepth 100000 in
theorem c_X4_has (l : Launch) (D : va_G) (cI cJ cZ : ClassId) (av : Nat) (nm : Nat) (v0 : Nat) (v1 : Nat) (v2 : Nat) (v3 : Nat) (v4 : Nat) (v5 : Nat) (v6 : Nat) (v7 : Nat) (v8 : Nat) (v9 : Nat) (k : Int32) (hm : nm ≤ 24) : Ctr l D cI cJ cZ yX4_has cX4_has 2 (some .boolean) ({ frames := 1, cells := 0, slots := 0, locals := 22 } : Room) [.ref av, .int k] [(av, .inr (5, [.ref v0, .ref v1, .int (nI nm), .ref v2, .ref v3, .ref v4, .ref v5, .ref v6, .ref v7, .ref v8, .ref v9]))] (fun r W => ((r = some (.int 1) ∧ (inR k nm = true)) ∨ (r = some (.int 0) ∧ ¬ (inR k nm = true))) ∧ W = [(av, .inr (5, [.ref v0, .ref v1, .int (nI nm), .ref v2, .ref v3, .ref v4, .ref v5, .ref v6, .ref v7, .ref v8, .ref v9]))]) := by
  refine Ctr.start (by decide +kernel) (Nat.le_of_ble_eq_true rfl) ?_
  intro p e s m below meth c A Q ls H C hQ hA hP hD hS hl
  obtain ⟨hx, hb, hr, hml, hts, hown, hlk, hnm, hK, hN⟩ := id C
  have hl : lv_has ls 2 [(0, .ref av), (1, .int k)] := hl
  refine lv_iload_n hx hb dX4_has_0 rfl (lv_at hl 1 rfl) ?_
  refine lv_iconst (v := 0) hx hb dX4_has_1 (by decide) ?_
  refine lv_aload_n hx hb dX4_has_2 rfl (lv_at hl 0 rfl) ?_
  refine r_get (v := .int (nI nm)) C hP okX4 0 2 rfl (by decide) fl_X4_50 rfl rfl dX4_has_3 ?_
  refine lv_iconst (v := 1) hx hb dX4_has_6 (by decide) ?_
  refine lv_isub hx hb dX4_has_7 ?_
  refine cl_sn C (c_X9_isWithin l D cI cJ cZ k 0 ((nI nm) - 1)) cd_X9_isWithin (by decide +kernel) st_X9_isWithin in_X9 hd_X9_isWithin ⟨by decide, by decide⟩ hP hD hS hA (WR := [(av, .inr (5, [.ref v0, .ref v1, .int (nI nm), .ref v2, .ref v3, .ref v4, .ref v5, .ref v6, .ref v7, .ref v8, .ref v9]))]) [] [0] rfl rfl rfl rfl (by decide) hl.1 rfl (Nat.le_of_ble_eq_true rfl) dX4_has_8 ⟨by decide, by decide⟩ (fun r W H locs hp hP hD hS => ?_)
  rcases hp with ⟨⟨rfl, hb_8⟩ | ⟨rfl, hb_8⟩, rfl⟩
  · -- yes 8
    refine W.eq (g2 := F0 m 11 ls [.int 1]) rfl ?_
    have hP : va_P D vwCl [(av, .inr (5, [.ref v0, .ref v1, .int (nI nm), .ref v2, .ref v3, .ref v4, .ref v5, .ref v6, .ref v7, .ref v8, .ref v9]))] H := hP
    have hD : va_D A [(av, .inr (5, [.ref v0, .ref v1, .int (nI nm), .ref v2, .ref v3, .ref v4, .ref v5, .ref v6, .ref v7, .ref v8, .ref v9]))] := hD
    exact rt_z C hQ (by decide) (hP.sub (ws' := [(av, .inr (5, [.ref v0, .ref v1, .int (nI nm), .ref v2, .ref v3, .ref v4, .ref v5, .ref v6, .ref v7, .ref v8, .ref v9]))]) [0] rfl) (hD.sub [0] (by decide) rfl) hS ⟨Or.inl ⟨rfl, (by first | exact q_inR (by omega) hb_8 | exact q_ninR (by omega) hb_8)⟩, rfl⟩ (by decide) (by decide) dX4_has_11
  · -- no 8
    refine W.eq (g2 := F0 m 11 ls [.int 0]) rfl ?_
    have hP : va_P D vwCl [(av, .inr (5, [.ref v0, .ref v1, .int (nI nm), .ref v2, .ref v3, .ref v4, .ref v5, .ref v6, .ref v7, .ref v8, .ref v9]))] H := hP
    have hD : va_D A [(av, .inr (5, [.ref v0, .ref v1, .int (nI nm), .ref v2, .ref v3, .ref v4, .ref v5, .ref v6, .ref v7, .ref v8, .ref v9]))] := hD
    exact rt_z C hQ (by decide) (hP.sub (ws' := [(av, .inr (5, [.ref v0, .ref v1, .int (nI nm), .ref v2, .ref v3, .ref v4, .ref v5, .ref v6, .ref v7, .ref v8, .ref v9]))]) [0] rfl) (hD.sub [0] (by decide) rfl) hS ⟨Or.inr ⟨rfl, (by first | exact q_inR (by omega) hb_8 | exact q_ninR (by omega) hb_8)⟩, rfl⟩ (by decide) (by decide) dX4_has_11
set_option maxHeartbeats 4000000 in
set_option maxRecDepth 100000 in
theorem c_X4_add (l : Launch) (D : va_G) (cI cJ cZ : ClassId) (av : Nat) (nm : Nat) (v0 : Nat) (v1 : Nat) (v2 : Nat) (v3 : Nat) (v4 : Nat) (v5 : Nat) (v6 : Nat) (v7 : Nat) (v8 : Nat) (v9 : Nat) (mtx : Nat → Int32) (hm : nm < 24) : Ctr l D cI cJ cZ yX4_add cX4_add 1 (some .int) ({ frames := 0, cells := 0, slots := 0, locals := 0 } : Room) [.ref av] [(av, .inr (5, [.ref v0, .ref v1, .int (nI nm), .ref v2, .ref v3, .ref v4, .ref v5, .ref v6, .ref v7, .ref v8, .ref v9])), (v0, .inl (cI, 24, .inl mtx))] (fun r W => r = some (.int (nI nm)) ∧ W = [(av, .inr (5, [.ref v0, .ref v1, .int (nI (nm + 1)), .ref v2, .ref v3, .ref v4, .ref v5, .ref v6, .ref v7, .ref v8, .ref v9])), (v0, .inl (cI, 24, .inl (upd mtx nm (-1))))]) := by
  refine Ctr.start (by decide +kernel) (Nat.le_of_ble_eq_true rfl) ?_
  intro p e s m below meth c A Q ls H C hQ hA hP hD hS hl
  obtain ⟨hx, hb, hr, hml, hts, hown, hlk, hnm, hK, hN⟩ := id C
  have hl : lv_has ls 1 [(0, .ref av)] := hl
  refine lv_aload_n hx hb dX4_add_0 rfl (lv_at hl 0 rfl) ?_
  refine r_get (v := .ref v0) C hP okX4 0 0 rfl (by decide) fl_X4_9 rfl rfl dX4_add_1 ?_
  refine lv_aload_n hx hb dX4_add_4 rfl (lv_at hl 0 rfl) ?_
  refine r_get (v := .int (nI nm)) C hP okX4 0 2 rfl (by decide) fl_X4_50 rfl rfl dX4_add_5 ?_
  refine lv_iconst (v := (-1)) hx hb dX4_add_8 (by decide) ?_
  refine r_iast (j := nm) C hP hD hS 1 rfl (by omega) (by decide) dX4_add_9 (fun H locs hP hD hS => ?_)
  have hP : va_P D vwCl [(av, .inr (5, [.ref v0, .ref v1, .int (nI nm), .ref v2, .ref v3, .ref v4, .ref v5, .ref v6, .ref v7, .ref v8, .ref v9])), (v0, .inl (cI, 24, .inl (upd mtx nm (-1))))] H := hP
  have hD : va_D A [(av, .inr (5, [.ref v0, .ref v1, .int (nI nm), .ref v2, .ref v3, .ref v4, .ref v5, .ref v6, .ref v7, .ref v8, .ref v9])), (v0, .inl (cI, 24, .inl (upd mtx nm (-1))))] := hD
  refine lv_aload_n hx hb dX4_add_10 rfl (lv_at hl 0 rfl) ?_
  refine lv_dup hx hb dX4_add_11 rfl ?_
  refine r_get (v := .int (nI nm)) C hP okX4 0 2 rfl (by decide) fl_X4_50 rfl rfl dX4_add_12 ?_
  refine lv_dup_x1 hx hb dX4_add_15 rfl rfl ?_
  refine lv_iconst (v := 1) hx hb dX4_add_16 (by decide) ?_
  refine lv_iadd hx hb dX4_add_17 ?_
  refine r_top (x' := nI (nm + 1)) (nI_add nm 1) ?_
  refine r_put (v := .int (nI (nm + 1))) C hP hD hS okX4 0 2 rfl (by decide) fl_X4_50 rfl rfl rfl rfl (Nat.le_of_ble_eq_true rfl) dX4_add_18 (fun H locs hP hD hS => ?_)
  have hP : va_P D vwCl [(av, .inr (5, [.ref v0, .ref v1, .int (nI (nm + 1)), .ref v2, .ref v3, .ref v4, .ref v5, .ref v6, .ref v7, .ref v8, .ref v9])), (v0, .inl (cI, 24, .inl (upd mtx nm (-1))))] H := hP
  have hD : va_D A [(av, .inr (5, [.ref v0, .ref v1, .int (nI (nm + 1)), .ref v2, .ref v3, .ref v4, .ref v5, .ref v6, .ref v7, .ref v8, .ref v9])), (v0, .inl (cI, 24, .inl (upd mtx nm (-1))))] := hD
  exact rt_i C hQ (hP.sub (ws' := [(av, .inr (5, [.ref v0, .ref v1, .int (nI (nm + 1)), .ref v2, .ref v3, .ref v4, .ref v5, .ref v6, .ref v7, .ref v8, .ref v9])), (v0, .inl (cI, 24, .inl (upd mtx nm (-1))))]) [0, 1] rfl) (hD.sub [0, 1] (by decide) rfl) hS ⟨rfl, rfl⟩ (by decide) (by decide) dX4_add_21
set_option maxHeartbeats 4000000 in
set_option maxRecDepth 100000 in
theorem c_X4_addCondition (l : Launch) (D : va_G) (cI cJ cZ : ClassId) (av : Nat) (nm : Nat) (v0 : Nat) (v1 : Nat) (v2 : Nat) (v3 : Nat) (v4 : Nat) (v5 : Nat) (v6 : Nat) (v7 : Nat) (v8 : Nat) (v9 : Nat) (mcn : Nat → Nat) (mcl : Nat → Nat) (mcr : Nat → Int32) (mcv : Nat → Int32) (j : Nat) (cl : Nat) (rr : Int32) (vv : Int32) (hj : j < 24) (hc : mcn j ≤ 6) : Ctr l D cI cJ cZ yX4_addCondition cX4_addCondition 6 (some .boolean) ({ frames := 0, cells := 0, slots := 0, locals := 0 } : Room) [.ref av, .int (nI j), .int (nI cl), .int rr, .int vv] [(av, .inr (5, [.ref v0, .ref v1, .int (nI nm), .ref v2, .ref v3, .ref v4, .ref v5, .ref v6, .ref v7, .ref v8, .ref v9])), (v2, .inl (cI, 24, .inl (nF mcn))), (v3, .inl (cI, 144, .inl (nF mcl))), (v4, .inl (cI, 144, .inl mcr)), (v5, .inl (cI, 144, .inl mcv))] (fun r W => ((r = some (.int 1) ∧ (mcn j < 6)) ∨ (r = some (.int 0) ∧ ¬ (mcn j < 6))) ∧ W = [(av, .inr (5, [.ref v0, .ref v1, .int (nI nm), .ref v2, .ref v3, .ref v4, .ref v5, .ref v6, .ref v7, .ref v8, .ref v9])), (v2, .inl (cI, 24, .inl (nF (if mcn j < 6 then updN mcn j (mcn j + 1) else mcn)))), (v3, .inl (cI, 144, .inl (nF (if mcn j < 6 then updN mcl (j * 6 + mcn j) cl else mcl)))), (v4, .inl (cI, 144, .inl (if mcn j < 6 then upd mcr (j * 6 + mcn j) rr else mcr))), (v5, .inl (cI, 144, .inl (if mcn j < 6 then upd mcv (j * 6 + mcn j) vv else mcv)))]) := by
  refine Ctr.start (by decide +kernel) (Nat.le_of_ble_eq_true rfl) ?_
  intro p e s m below meth c A Q ls H C hQ hA hP hD hS hl
  obtain ⟨hx, hb, hr, hml, hts, hown, hlk, hnm, hK, hN⟩ := id C
  have hl : lv_has ls 6 [(0, .ref av), (1, .int (nI j)), (2, .int (nI cl)), (3, .int rr), (4, .int vv)] := hl
  refine lv_aload_n hx hb dX4_addCondition_0 rfl (lv_at hl 0 rfl) ?_
  refine r_get (v := .ref v2) C hP okX4 0 3 rfl (by decide) fl_X4_18 rfl rfl dX4_addCondition_1 ?_
  refine lv_iload_n hx hb dX4_addCondition_4 rfl (lv_at hl 1 rfl) ?_
  refine r_iald (j := j) C hP 1 rfl (by omega) (by decide) dX4_addCondition_5 ?_
  refine r_top (x' := nI (mcn j)) rfl ?_
  refine lv_bipush (v := 6) hx hb dX4_addCondition_6 (by decide) ?_
  refine lv_icmp_lt (tgt := 13) hx hb dX4_addCondition_8 (by decide) (fun c_8 => ?_) (fun c_8 => ?_)
  · -- taken 8
    have c_8 : mcn j < 6 := (nI_ltI (a := mcn j) (b := 6) (by omega) (by omega)).mp c_8
    refine lv_iload_n hx hb dX4_addCondition_13 rfl (lv_at hl 1 rfl) ?_
    refine lv_bipush (v := 6) hx hb dX4_addCondition_14 (by decide) ?_
    refine lv_imul hx hb dX4_addCondition_16 ?_
    refine r_top (x' := nI (j * 6)) (pk_mul j 6) ?_
    refine lv_aload_n hx hb dX4_addCondition_17 rfl (lv_at hl 0 rfl) ?_
    refine r_get (v := .ref v2) C hP okX4 0 3 rfl (by decide) fl_X4_18 rfl rfl dX4_addCondition_18 ?_
    refine lv_iload_n hx hb dX4_addCondition_21 rfl (lv_at hl 1 rfl) ?_
    refine r_iald (j := j) C hP 1 rfl (by omega) (by decide) dX4_addCondition_22 ?_
    refine r_top (x' := nI (mcn j)) rfl ?_
    refine lv_iadd hx hb dX4_addCondition_23 ?_
    refine r_top (x' := nI ((j * 6) + (mcn j))) (nI_add (j * 6) (mcn j)) ?_
    refine lv_istore (lv' := [(5, .int (nI ((j * 6) + (mcn j)))), (0, .ref av), (1, .int (nI j)), (2, .int (nI cl)), (3, .int rr), (4, .int vv)]) hx hb dX4_addCondition_24 hl (by decide) rfl (fun ls hl => ?_)
    refine lv_aload_n hx hb dX4_addCondition_26 rfl (lv_at hl 1 rfl) ?_
    refine r_get (v := .ref v3) C hP okX4 0 4 rfl (by decide) fl_X4_21 rfl rfl dX4_addCondition_27 ?_
    refine lv_iload hx hb dX4_addCondition_30 (lv_at hl 0 rfl) ?_
    refine lv_iload_n hx hb dX4_addCondition_32 rfl (lv_at hl 3 rfl) ?_
    refine r_iast (j := (j * 6) + (mcn j)) C hP hD hS 2 rfl (by omega) (by decide) dX4_addCondition_33 (fun H locs hP hD hS => ?_)
    rw [nF_upd] at hP hD
    have hP : va_P D vwCl [(av, .inr (5, [.ref v0, .ref v1, .int (nI nm), .ref v2, .ref v3, .ref v4, .ref v5, .ref v6, .ref v7, .ref v8, .ref v9])), (v2, .inl (cI, 24, .inl (nF mcn))), (v3, .inl (cI, 144, .inl (nF (updN mcl ((j * 6) + (mcn j)) cl)))), (v4, .inl (cI, 144, .inl mcr)), (v5, .inl (cI, 144, .inl mcv))] H := hP
    have hD : va_D A [(av, .inr (5, [.ref v0, .ref v1, .int (nI nm), .ref v2, .ref v3, .ref v4, .ref v5, .ref v6, .ref v7, .ref v8, .ref v9])), (v2, .inl (cI, 24, .inl (nF mcn))), (v3, .inl (cI, 144, .inl (nF (updN mcl ((j * 6) + (mcn j)) cl)))), (v4, .inl (cI, 144, .inl mcr)), (v5, .inl (cI, 144, .inl mcv))] := hD
    refine lv_aload_n hx hb dX4_addCondition_34 rfl (lv_at hl 1 rfl) ?_
    refine r_get (v := .ref v4) C hP okX4 0 5 rfl (by decide) fl_X4_24 rfl rfl dX4_addCondition_35 ?_
    refine lv_iload hx hb dX4_addCondition_38 (lv_at hl 0 rfl) ?_
    refine lv_iload_n hx hb dX4_addCondition_40 rfl (lv_at hl 4 rfl) ?_
    refine r_iast (j := (j * 6) + (mcn j)) C hP hD hS 3 rfl (by omega) (by decide) dX4_addCondition_41 (fun H locs hP hD hS => ?_)
    have hP : va_P D vwCl [(av, .inr (5, [.ref v0, .ref v1, .int (nI nm), .ref v2, .ref v3, .ref v4, .ref v5, .ref v6, .ref v7, .ref v8, .ref v9])), (v2, .inl (cI, 24, .inl (nF mcn))), (v3, .inl (cI, 144, .inl (nF (updN mcl ((j * 6) + (mcn j)) cl)))), (v4, .inl (cI, 144, .inl (upd mcr ((j * 6) + (mcn j)) rr))), (v5, .inl (cI, 144, .inl mcv))] H := hP
    have hD : va_D A [(av, .inr (5, [.ref v0, .ref v1, .int (nI nm), .ref v2, .ref v3, .ref v4, .ref v5, .ref v6, .ref v7, .ref v8, .ref v9])), (v2, .inl (cI, 24, .inl (nF mcn))), (v3, .inl (cI, 144, .inl (nF (updN mcl ((j * 6) + (mcn j)) cl)))), (v4, .inl (cI, 144, .inl (upd mcr ((j * 6) + (mcn j)) rr))), (v5, .inl (cI, 144, .inl mcv))] := hD
    refine lv_aload_n hx hb dX4_addCondition_42 rfl (lv_at hl 1 rfl) ?_
    refine r_get (v := .ref v5) C hP okX4 0 6 rfl (by decide) fl_X4_27 rfl rfl dX4_addCondition_43 ?_
    refine lv_iload hx hb dX4_addCondition_46 (lv_at hl 0 rfl) ?_
    refine lv_iload hx hb dX4_addCondition_48 (lv_at hl 5 rfl) ?_
    refine r_iast (j := (j * 6) + (mcn j)) C hP hD hS 4 rfl (by omega) (by decide) dX4_addCondition_50 (fun H locs hP hD hS => ?_)
    have hP : va_P D vwCl [(av, .inr (5, [.ref v0, .ref v1, .int (nI nm), .ref v2, .ref v3, .ref v4, .ref v5, .ref v6, .ref v7, .ref v8, .ref v9])), (v2, .inl (cI, 24, .inl (nF mcn))), (v3, .inl (cI, 144, .inl (nF (updN mcl ((j * 6) + (mcn j)) cl)))), (v4, .inl (cI, 144, .inl (upd mcr ((j * 6) + (mcn j)) rr))), (v5, .inl (cI, 144, .inl (upd mcv ((j * 6) + (mcn j)) vv)))] H := hP
    have hD : va_D A [(av, .inr (5, [.ref v0, .ref v1, .int (nI nm), .ref v2, .ref v3, .ref v4, .ref v5, .ref v6, .ref v7, .ref v8, .ref v9])), (v2, .inl (cI, 24, .inl (nF mcn))), (v3, .inl (cI, 144, .inl (nF (updN mcl ((j * 6) + (mcn j)) cl)))), (v4, .inl (cI, 144, .inl (upd mcr ((j * 6) + (mcn j)) rr))), (v5, .inl (cI, 144, .inl (upd mcv ((j * 6) + (mcn j)) vv)))] := hD
    refine lv_aload_n hx hb dX4_addCondition_51 rfl (lv_at hl 1 rfl) ?_
    refine r_get (v := .ref v2) C hP okX4 0 3 rfl (by decide) fl_X4_18 rfl rfl dX4_addCondition_52 ?_
    refine lv_iload_n hx hb dX4_addCondition_55 rfl (lv_at hl 2 rfl) ?_
    refine lv_dup2_11 hx hb dX4_addCondition_56 rfl rfl ?_
    refine r_iald (j := j) C hP 1 rfl (by omega) (by decide) dX4_addCondition_57 ?_
    refine r_top (x' := nI (mcn j)) rfl ?_
    refine lv_iconst (v := 1) hx hb dX4_addCondition_58 (by decide) ?_
    refine lv_iadd hx hb dX4_addCondition_59 ?_
    refine r_top (x' := nI ((mcn j) + 1)) (nI_add (mcn j) 1) ?_
    refine r_iast (j := j) C hP hD hS 1 rfl (by omega) (by decide) dX4_addCondition_60 (fun H locs hP hD hS => ?_)
    rw [nF_upd] at hP hD
    have hP : va_P D vwCl [(av, .inr (5, [.ref v0, .ref v1, .int (nI nm), .ref v2, .ref v3, .ref v4, .ref v5, .ref v6, .ref v7, .ref v8, .ref v9])), (v2, .inl (cI, 24, .inl (nF (updN mcn j ((mcn j) + 1))))), (v3, .inl (cI, 144, .inl (nF (updN mcl ((j * 6) + (mcn j)) cl)))), (v4, .inl (cI, 144, .inl (upd mcr ((j * 6) + (mcn j)) rr))), (v5, .inl (cI, 144, .inl (upd mcv ((j * 6) + (mcn j)) vv)))] H := hP
    have hD : va_D A [(av, .inr (5, [.ref v0, .ref v1, .int (nI nm), .ref v2, .ref v3, .ref v4, .ref v5, .ref v6, .ref v7, .ref v8, .ref v9])), (v2, .inl (cI, 24, .inl (nF (updN mcn j ((mcn j) + 1))))), (v3, .inl (cI, 144, .inl (nF (updN mcl ((j * 6) + (mcn j)) cl)))), (v4, .inl (cI, 144, .inl (upd mcr ((j * 6) + (mcn j)) rr))), (v5, .inl (cI, 144, .inl (upd mcv ((j * 6) + (mcn j)) vv)))] := hD
    refine lv_iconst (v := 1) hx hb dX4_addCondition_61 (by decide) ?_
    exact rt_z C hQ (by decide) (hP.sub (ws' := [(av, .inr (5, [.ref v0, .ref v1, .int (nI nm), .ref v2, .ref v3, .ref v4, .ref v5, .ref v6, .ref v7, .ref v8, .ref v9])), (v2, .inl (cI, 24, .inl (nF (updN mcn j ((mcn j) + 1))))), (v3, .inl (cI, 144, .inl (nF (updN mcl ((j * 6) + (mcn j)) cl)))), (v4, .inl (cI, 144, .inl (upd mcr ((j * 6) + (mcn j)) rr))), (v5, .inl (cI, 144, .inl (upd mcv ((j * 6) + (mcn j)) vv)))]) [0, 1, 2, 3, 4] rfl) (hD.sub [0, 1, 2, 3, 4] (by decide) rfl) hS ⟨Or.inl ⟨rfl, c_8⟩, by simp only [if_pos c_8]⟩ (by decide) (by decide) dX4_addCondition_62
  · -- not taken 8
    have c_8 : ¬ (mcn j < 6) := fun z => c_8 ((nI_ltI (a := mcn j) (b := 6) (by omega) (by omega)).mpr z)
    refine lv_iconst (v := 0) hx hb dX4_addCondition_11 (by decide) ?_
    exact rt_z C hQ (by decide) (hP.sub (ws' := [(av, .inr (5, [.ref v0, .ref v1, .int (nI nm), .ref v2, .ref v3, .ref v4, .ref v5, .ref v6, .ref v7, .ref v8, .ref v9])), (v2, .inl (cI, 24, .inl (nF mcn))), (v3, .inl (cI, 144, .inl (nF mcl))), (v4, .inl (cI, 144, .inl mcr)), (v5, .inl (cI, 144, .inl mcv))]) [0, 1, 2, 3, 4] rfl) (hD.sub [0, 1, 2, 3, 4] (by decide) rfl) hS ⟨Or.inr ⟨rfl, c_8⟩, by simp only [if_neg c_8]⟩ (by decide) (by decide) dX4_addCondition_12
set_option maxHeartbeats 4000000 in
set_option maxRecDepth 100000 in
theorem c_X4_addEffect (l : Launch) (D : va_G) (cI cJ cZ : ClassId) (av : Nat) (nm : Nat) (v0 : Nat) (v1 : Nat) (v2 : Nat) (v3 : Nat) (v4 : Nat) (v5 : Nat) (v6 : Nat) (v7 : Nat) (v8 : Nat) (v9 : Nat) (mec : Nat → Nat) (mek : Nat → Int32) (mel : Nat → Nat) (mev : Nat → Int32) (j : Nat) (kk : Int32) (cl : Nat) (vv : Int32) (hj : j < 24) (hc : mec j ≤ 6) : Ctr l D cI cJ cZ yX4_addEffect cX4_addEffect 6 (some .boolean) ({ frames := 0, cells := 0, slots := 0, locals := 0 } : Room) [.ref av, .int (nI j), .int kk, .int (nI cl), .int vv] [(av, .inr (5, [.ref v0, .ref v1, .int (nI nm), .ref v2, .ref v3, .ref v4, .ref v5, .ref v6, .ref v7, .ref v8, .ref v9])), (v6, .inl (cI, 24, .inl (nF mec))), (v7, .inl (cI, 144, .inl mek)), (v8, .inl (cI, 144, .inl (nF mel))), (v9, .inl (cI, 144, .inl mev))] (fun r W => ((r = some (.int 1) ∧ (mec j < 6)) ∨ (r = some (.int 0) ∧ ¬ (mec j < 6))) ∧ W = [(av, .inr (5, [.ref v0, .ref v1, .int (nI nm), .ref v2, .ref v3, .ref v4, .ref v5, .ref v6, .ref v7, .ref v8, .ref v9])), (v6, .inl (cI, 24, .inl (nF (if mec j < 6 then updN mec j (mec j + 1) else mec)))), (v7, .inl (cI, 144, .inl (if mec j < 6 then upd mek (j * 6 + mec j) kk else mek))), (v8, .inl (cI, 144, .inl (nF (if mec j < 6 then updN mel (j * 6 + mec j) cl else mel)))), (v9, .inl (cI, 144, .inl (if mec j < 6 then upd mev (j * 6 + mec j) vv else mev)))]) := by
  refine Ctr.start (by decide +kernel) (Nat.le_of_ble_eq_true rfl) ?_
  intro p e s m below meth c A Q ls H C hQ hA hP hD hS hl
  obtain ⟨hx, hb, hr, hml, hts, hown, hlk, hnm, hK, hN⟩ := id C
  have hl : lv_has ls 6 [(0, .ref av), (1, .int (nI j)), (2, .int kk), (3, .int (nI cl)), (4, .int vv)] := hl
  refine lv_aload_n hx hb dX4_addEffect_0 rfl (lv_at hl 0 rfl) ?_
  refine r_get (v := .ref v6) C hP okX4 0 7 rfl (by decide) fl_X4_30 rfl rfl dX4_addEffect_1 ?_
  refine lv_iload_n hx hb dX4_addEffect_4 rfl (lv_at hl 1 rfl) ?_
  refine r_iald (j := j) C hP 1 rfl (by omega) (by decide) dX4_addEffect_5 ?_
  refine r_top (x' := nI (mec j)) rfl ?_
  refine lv_bipush (v := 6) hx hb dX4_addEffect_6 (by decide) ?_
  refine lv_icmp_lt (tgt := 13) hx hb dX4_addEffect_8 (by decide) (fun c_8 => ?_) (fun c_8 => ?_)
  · -- taken 8
    have c_8 : mec j < 6 := (nI_ltI (a := mec j) (b := 6) (by omega) (by omega)).mp c_8
    refine lv_iload_n hx hb dX4_addEffect_13 rfl (lv_at hl 1 rfl) ?_
    refine lv_bipush (v := 6) hx hb dX4_addEffect_14 (by decide) ?_
    refine lv_imul hx hb dX4_addEffect_16 ?_
    refine r_top (x' := nI (j * 6)) (pk_mul j 6) ?_
    refine lv_aload_n hx hb dX4_addEffect_17 rfl (lv_at hl 0 rfl) ?_
    refine r_get (v := .ref v6) C hP okX4 0 7 rfl (by decide) fl_X4_30 rfl rfl dX4_addEffect_18 ?_
    refine lv_iload_n hx hb dX4_addEffect_21 rfl (lv_at hl 1 rfl) ?_
    refine r_iald (j := j) C hP 1 rfl (by omega) (by decide) dX4_addEffect_22 ?_
    refine r_top (x' := nI (mec j)) rfl ?_
    refine lv_iadd hx hb dX4_addEffect_23 ?_
    refine r_top (x' := nI ((j * 6) + (mec j))) (nI_add (j * 6) (mec j)) ?_
    refine lv_istore (lv' := [(5, .int (nI ((j * 6) + (mec j)))), (0, .ref av), (1, .int (nI j)), (2, .int kk), (3, .int (nI cl)), (4, .int vv)]) hx hb dX4_addEffect_24 hl (by decide) rfl (fun ls hl => ?_)
    refine lv_aload_n hx hb dX4_addEffect_26 rfl (lv_at hl 1 rfl) ?_
    refine r_get (v := .ref v7) C hP okX4 0 8 rfl (by decide) fl_X4_33 rfl rfl dX4_addEffect_27 ?_
    refine lv_iload hx hb dX4_addEffect_30 (lv_at hl 0 rfl) ?_
    refine lv_iload_n hx hb dX4_addEffect_32 rfl (lv_at hl 3 rfl) ?_
    refine r_iast (j := (j * 6) + (mec j)) C hP hD hS 2 rfl (by omega) (by decide) dX4_addEffect_33 (fun H locs hP hD hS => ?_)
    have hP : va_P D vwCl [(av, .inr (5, [.ref v0, .ref v1, .int (nI nm), .ref v2, .ref v3, .ref v4, .ref v5, .ref v6, .ref v7, .ref v8, .ref v9])), (v6, .inl (cI, 24, .inl (nF mec))), (v7, .inl (cI, 144, .inl (upd mek ((j * 6) + (mec j)) kk))), (v8, .inl (cI, 144, .inl (nF mel))), (v9, .inl (cI, 144, .inl mev))] H := hP
    have hD : va_D A [(av, .inr (5, [.ref v0, .ref v1, .int (nI nm), .ref v2, .ref v3, .ref v4, .ref v5, .ref v6, .ref v7, .ref v8, .ref v9])), (v6, .inl (cI, 24, .inl (nF mec))), (v7, .inl (cI, 144, .inl (upd mek ((j * 6) + (mec j)) kk))), (v8, .inl (cI, 144, .inl (nF mel))), (v9, .inl (cI, 144, .inl mev))] := hD
    refine lv_aload_n hx hb dX4_addEffect_34 rfl (lv_at hl 1 rfl) ?_
    refine r_get (v := .ref v8) C hP okX4 0 9 rfl (by decide) fl_X4_36 rfl rfl dX4_addEffect_35 ?_
    refine lv_iload hx hb dX4_addEffect_38 (lv_at hl 0 rfl) ?_
    refine lv_iload_n hx hb dX4_addEffect_40 rfl (lv_at hl 4 rfl) ?_
    refine r_iast (j := (j * 6) + (mec j)) C hP hD hS 3 rfl (by omega) (by decide) dX4_addEffect_41 (fun H locs hP hD hS => ?_)
    rw [nF_upd] at hP hD
    have hP : va_P D vwCl [(av, .inr (5, [.ref v0, .ref v1, .int (nI nm), .ref v2, .ref v3, .ref v4, .ref v5, .ref v6, .ref v7, .ref v8, .ref v9])), (v6, .inl (cI, 24, .inl (nF mec))), (v7, .inl (cI, 144, .inl (upd mek ((j * 6) + (mec j)) kk))), (v8, .inl (cI, 144, .inl (nF (updN mel ((j * 6) + (mec j)) cl)))), (v9, .inl (cI, 144, .inl mev))] H := hP
    have hD : va_D A [(av, .inr (5, [.ref v0, .ref v1, .int (nI nm), .ref v2, .ref v3, .ref v4, .ref v5, .ref v6, .ref v7, .ref v8, .ref v9])), (v6, .inl (cI, 24, .inl (nF mec))), (v7, .inl (cI, 144, .inl (upd mek ((j * 6) + (mec j)) kk))), (v8, .inl (cI, 144, .inl (nF (updN mel ((j * 6) + (mec j)) cl)))), (v9, .inl (cI, 144, .inl mev))] := hD
    refine lv_aload_n hx hb dX4_addEffect_42 rfl (lv_at hl 1 rfl) ?_
    refine r_get (v := .ref v9) C hP okX4 0 10 rfl (by decide) fl_X4_39 rfl rfl dX4_addEffect_43 ?_
    refine lv_iload hx hb dX4_addEffect_46 (lv_at hl 0 rfl) ?_
    refine lv_iload hx hb dX4_addEffect_48 (lv_at hl 5 rfl) ?_
    refine r_iast (j := (j * 6) + (mec j)) C hP hD hS 4 rfl (by omega) (by decide) dX4_addEffect_50 (fun H locs hP hD hS => ?_)
    have hP : va_P D vwCl [(av, .inr (5, [.ref v0, .ref v1, .int (nI nm), .ref v2, .ref v3, .ref v4, .ref v5, .ref v6, .ref v7, .ref v8, .ref v9])), (v6, .inl (cI, 24, .inl (nF mec))), (v7, .inl (cI, 144, .inl (upd mek ((j * 6) + (mec j)) kk))), (v8, .inl (cI, 144, .inl (nF (updN mel ((j * 6) + (mec j)) cl)))), (v9, .inl (cI, 144, .inl (upd mev ((j * 6) + (mec j)) vv)))] H := hP
    have hD : va_D A [(av, .inr (5, [.ref v0, .ref v1, .int (nI nm), .ref v2, .ref v3, .ref v4, .ref v5, .ref v6, .ref v7, .ref v8, .ref v9])), (v6, .inl (cI, 24, .inl (nF mec))), (v7, .inl (cI, 144, .inl (upd mek ((j * 6) + (mec j)) kk))), (v8, .inl (cI, 144, .inl (nF (updN mel ((j * 6) + (mec j)) cl)))), (v9, .inl (cI, 144, .inl (upd mev ((j * 6) + (mec j)) vv)))] := hD
    refine lv_aload_n hx hb dX4_addEffect_51 rfl (lv_at hl 1 rfl) ?_
    refine r_get (v := .ref v6) C hP okX4 0 7 rfl (by decide) fl_X4_30 rfl rfl dX4_addEffect_52 ?_
    refine lv_iload_n hx hb dX4_addEffect_55 rfl (lv_at hl 2 rfl) ?_
    refine lv_dup2_11 hx hb dX4_addEffect_56 rfl rfl ?_
    refine r_iald (j := j) C hP 1 rfl (by omega) (by decide) dX4_addEffect_57 ?_
    refine r_top (x' := nI (mec j)) rfl ?_
    refine lv_iconst (v := 1) hx hb dX4_addEffect_58 (by decide) ?_
    refine lv_iadd hx hb dX4_addEffect_59 ?_
    refine r_top (x' := nI ((mec j) + 1)) (nI_add (mec j) 1) ?_
    refine r_iast (j := j) C hP hD hS 1 rfl (by omega) (by decide) dX4_addEffect_60 (fun H locs hP hD hS => ?_)
    rw [nF_upd] at hP hD
    have hP : va_P D vwCl [(av, .inr (5, [.ref v0, .ref v1, .int (nI nm), .ref v2, .ref v3, .ref v4, .ref v5, .ref v6, .ref v7, .ref v8, .ref v9])), (v6, .inl (cI, 24, .inl (nF (updN mec j ((mec j) + 1))))), (v7, .inl (cI, 144, .inl (upd mek ((j * 6) + (mec j)) kk))), (v8, .inl (cI, 144, .inl (nF (updN mel ((j * 6) + (mec j)) cl)))), (v9, .inl (cI, 144, .inl (upd mev ((j * 6) + (mec j)) vv)))] H := hP
    have hD : va_D A [(av, .inr (5, [.ref v0, .ref v1, .int (nI nm), .ref v2, .ref v3, .ref v4, .ref v5, .ref v6, .ref v7, .ref v8, .ref v9])), (v6, .inl (cI, 24, .inl (nF (updN mec j ((mec j) + 1))))), (v7, .inl (cI, 144, .inl (upd mek ((j * 6) + (mec j)) kk))), (v8, .inl (cI, 144, .inl (nF (updN mel ((j * 6) + (mec j)) cl)))), (v9, .inl (cI, 144, .inl (upd mev ((j * 6) + (mec j)) vv)))] := hD
    refine lv_iconst (v := 1) hx hb dX4_addEffect_61 (by decide) ?_
    exact rt_z C hQ (by decide) (hP.sub (ws' := [(av, .inr (5, [.ref v0, .ref v1, .int (nI nm), .ref v2, .ref v3, .ref v4, .ref v5, .ref v6, .ref v7, .ref v8, .ref v9])), (v6, .inl (cI, 24, .inl (nF (updN mec j ((mec j) + 1))))), (v7, .inl (cI, 144, .inl (upd mek ((j * 6) + (mec j)) kk))), (v8, .inl (cI, 144, .inl (nF (updN mel ((j * 6) + (mec j)) cl)))), (v9, .inl (cI, 144, .inl (upd mev ((j * 6) + (mec j)) vv)))]) [0, 1, 2, 3, 4] rfl) (hD.sub [0, 1, 2, 3, 4] (by decide) rfl) hS ⟨Or.inl ⟨rfl, c_8⟩, by simp only [if_pos c_8]⟩ (by decide) (by decide) dX4_addEffect_62
  · -- not taken 8
    have c_8 : ¬ (mec j < 6) := fun z => c_8 ((nI_ltI (a := mec j) (b := 6) (by omega) (by omega)).mpr z)
    refine lv_iconst (v := 0) hx hb dX4_addEffect_11 (by decide) ?_
    exact rt_z C hQ (by decide) (hP.sub (ws' := [(av, .inr (5, [.ref v0, .ref v1, .int (nI nm), .ref v2, .ref v3, .ref v4, .ref v5, .ref v6, .ref v7, .ref v8, .ref v9])), (v6, .inl (cI, 24, .inl (nF mec))), (v7, .inl (cI, 144, .inl mek)), (v8, .inl (cI, 144, .inl (nF mel))), (v9, .inl (cI, 144, .inl mev))]) [0, 1, 2, 3, 4] rfl) (hD.sub [0, 1, 2, 3, 4] (by decide) rfl) hS ⟨Or.inr ⟨rfl, c_8⟩, by simp only [if_neg c_8]⟩ (by decide) (by decide) dX4_addEffect_12
set_option maxHeartbeats 4000000 in
set_option maxRecDepth 100000 in
theorem lp_X4_textsOfAll_4 (l : Launch) (D : va_G) (cI cJ cZ : ClassId) (av : Nat) (nm : Nat) (v0 : Nat) (v1 : Nat) (v2 : Nat) (v3 : Nat) (v4 : Nat) (v5 : Nat) (v6 : Nat) (v7 : Nat) (v8 : Nat) (v9 : Nat) (mtx : Nat → Int32) (hm : nm ≤ 24)   {p : Program} {e : Env} {s : State} {m : MethodId} {below : List Frame} {meth : Method} {c : Code} {A : Nat → Prop} {Q : State → Prop} (C : Cx D cI cJ cZ p s m ([.ref av] : List Value).toArray meth c yX4_textsOfAll cX4_textsOfAll 3 (some .int)) (hQ : QOK Q below s ([.ref av] : List Value).toArray D A (fun r W => r = some (.int (f_texts mtx nm)) ∧ W = [(av, .inr (5, [.ref v0, .ref v1, .int (nI nm), .ref v2, .ref v3, .ref v4, .ref v5, .ref v6, .ref v7, .ref v8, .ref v9])), (v0, .inl (cI, 24, .inl mtx))]) 0 0) (hA : ∀ q, s.heap.size ≤ q → A q) : ∀ (ku : Nat) (i : Nat) (acc : Int32) (hi : i ≤ nm) (ha : acc = f_texts mtx i), (nm - i) < ku → ∀ (H : Heap) (locs : List Loc) (ls : Array Slot), va_P D vwCl [(av, .inr (5, [.ref v0, .ref v1, .int (nI nm), .ref v2, .ref v3, .ref v4, .ref v5, .ref v6, .ref v7, .ref v8, .ref v9])), (v0, .inl (cI, 24, .inl mtx))] H → va_D A [(av, .inr (5, [.ref v0, .ref v1, .int (nI nm), .ref v2, .ref v3, .ref v4, .ref v5, .ref v6, .ref v7, .ref v8, .ref v9])), (v0, .inl (cI, 24, .inl mtx))] → va_S A s.heap H locs → lv_has ls 3 [(0, .ref av), (1, .int acc), (2, .int (nI i))] → W p l e ({ frames := 0, cells := 0, slots := 0, locals := 0 } : Room) s m ([.ref av] : List Value).toArray below meth c H locs 0 0 Q (F0 m 4 ls []) := by
  obtain ⟨hx, hb, hr, hml, hts, hown, hlk, hnm, hK, hN⟩ := id C
  intro ku
  induction ku with
  | zero =>
    intro i acc hi ha hku
    exact absurd hku (Nat.not_lt_zero _)
  | succ ku ih =>
    intro i acc hi ha hku H locs ls hP hD hS hl
    refine lv_iload_n hx hb dX4_textsOfAll_4 rfl (lv_at hl 2 rfl) ?_
    refine lv_aload_n hx hb dX4_textsOfAll_5 rfl (lv_at hl 0 rfl) ?_
    refine r_get (v := .int (nI nm)) C hP okX4 0 2 rfl (by decide) fl_X4_50 rfl rfl dX4_textsOfAll_6 ?_
    refine lv_icmp_ge (tgt := 39) hx hb dX4_textsOfAll_9 (by decide) (fun c_9 => ?_) (fun c_9 => ?_)
    · -- taken 9
      have c_9 : nm ≤ i := (nI_leI (a := nm) (b := i) (by omega) (by omega)).mp c_9
      refine lv_iload_n hx hb dX4_textsOfAll_39 rfl (lv_at hl 1 rfl) ?_
      exact rt_i C hQ (hP.sub (ws' := [(av, .inr (5, [.ref v0, .ref v1, .int (nI nm), .ref v2, .ref v3, .ref v4, .ref v5, .ref v6, .ref v7, .ref v8, .ref v9])), (v0, .inl (cI, 24, .inl mtx))]) [0, 1] rfl) (hD.sub [0, 1] (by decide) rfl) hS ⟨by rw [ha, show i = nm by omega], rfl⟩ (by decide) (by decide) dX4_textsOfAll_40
    · -- not taken 9
      have c_9 : ¬ (nm ≤ i) := fun z => c_9 ((nI_leI (a := nm) (b := i) (by omega) (by omega)).mpr z)
      refine lv_aload_n hx hb dX4_textsOfAll_12 rfl (lv_at hl 0 rfl) ?_
      refine r_get (v := .ref v0) C hP okX4 0 0 rfl (by decide) fl_X4_9 rfl rfl dX4_textsOfAll_13 ?_
      refine lv_iload_n hx hb dX4_textsOfAll_16 rfl (lv_at hl 2 rfl) ?_
      refine r_iald (j := i) C hP 1 rfl (by omega) (by decide) dX4_textsOfAll_17 ?_
      refine lv_iconst (v := (-1)) hx hb dX4_textsOfAll_18 (by decide) ?_
      refine lv_icmp_eq (tgt := 33) hx hb dX4_textsOfAll_19 (by decide) (fun c_19 => ?_) (fun c_19 => ?_)
      · -- taken 19
        refine lv_iinc (v := nI (i + 1)) (lv' := [(2, .int (nI (i + 1))), (0, .ref av), (1, .int acc)]) hx hb dX4_textsOfAll_33 hl (k := 2) rfl (nI_1 _) (by decide) rfl (fun ls hl => ?_)
        refine lv_goto (tgt := 4) hx hb dX4_textsOfAll_36 (by decide) ?_
        exact ih (i + 1) acc (by omega) (by simp only [f_texts, ha, c_19, if_true, if_false, if_pos, if_neg]) (by omega) _ _ _ (hP.sub [0, 1] rfl) (hD.sub [0, 1] (by decide) rfl) hS (lv_sub hl [1, 2, 0] rfl)
      · -- not taken 19
        refine lv_iload_n hx hb dX4_textsOfAll_22 rfl (lv_at hl 1 rfl) ?_
        refine lv_iconst (v := 1) hx hb dX4_textsOfAll_23 (by decide) ?_
        refine lv_aload_n hx hb dX4_textsOfAll_24 rfl (lv_at hl 0 rfl) ?_
        refine r_get (v := .ref v0) C hP okX4 0 0 rfl (by decide) fl_X4_9 rfl rfl dX4_textsOfAll_25 ?_
        refine lv_iload_n hx hb dX4_textsOfAll_28 rfl (lv_at hl 2 rfl) ?_
        refine r_iald (j := i) C hP 1 rfl (by omega) (by decide) dX4_textsOfAll_29 ?_
        refine lv_ishl hx hb dX4_textsOfAll_30 ?_
        refine lv_ior hx hb dX4_textsOfAll_31 ?_
        refine lv_istore_n (lv' := [(1, .int (acc ||| (1 <<< ((mtx i) &&& 31)))), (0, .ref av), (2, .int (nI i))]) hx hb dX4_textsOfAll_32 rfl hl (by decide) rfl (fun ls hl => ?_)
        refine lv_iinc (v := nI (i + 1)) (lv' := [(2, .int (nI (i + 1))), (1, .int (acc ||| (1 <<< ((mtx i) &&& 31)))), (0, .ref av)]) hx hb dX4_textsOfAll_33 hl (k := 2) rfl (nI_1 _) (by decide) rfl (fun ls hl => ?_)
        refine lv_goto (tgt := 4) hx hb dX4_textsOfAll_36 (by decide) ?_
        exact ih (i + 1) (acc ||| (1 <<< ((mtx i) &&& 31))) (by omega) (by simp only [f_texts, ha, c_19, if_true, if_false, if_pos, if_neg]) (by omega) _ _ _ (hP.sub [0, 1] rfl) (hD.sub [0, 1] (by decide) rfl) hS (lv_sub hl [2, 1, 0] rfl)
set_option maxHeartbeats 4000000 in
set_option maxRecDepth 100000 in
theorem c_X4_textsOfAll (l : Launch) (D : va_G) (cI cJ cZ : ClassId) (av : Nat) (nm : Nat) (v0 : Nat) (v1 : Nat) (v2 : Nat) (v3 : Nat) (v4 : Nat) (v5 : Nat) (v6 : Nat) (v7 : Nat) (v8 : Nat) (v9 : Nat) (mtx : Nat → Int32) (hm : nm ≤ 24) : Ctr l D cI cJ cZ yX4_textsOfAll cX4_textsOfAll 3 (some .int) ({ frames := 0, cells := 0, slots := 0, locals := 0 } : Room) [.ref av] [(av, .inr (5, [.ref v0, .ref v1, .int (nI nm), .ref v2, .ref v3, .ref v4, .ref v5, .ref v6, .ref v7, .ref v8, .ref v9])), (v0, .inl (cI, 24, .inl mtx))] (fun r W => r = some (.int (f_texts mtx nm)) ∧ W = [(av, .inr (5, [.ref v0, .ref v1, .int (nI nm), .ref v2, .ref v3, .ref v4, .ref v5, .ref v6, .ref v7, .ref v8, .ref v9])), (v0, .inl (cI, 24, .inl mtx))]) := by
  refine Ctr.start (by decide +kernel) (Nat.le_of_ble_eq_true rfl) ?_
  intro p e s m below meth c A Q ls H C hQ hA hP hD hS hl
  obtain ⟨hx, hb, hr, hml, hts, hown, hlk, hnm, hK, hN⟩ := id C
  have hl : lv_has ls 3 [(0, .ref av)] := hl
  refine lv_iconst (v := 0) hx hb dX4_textsOfAll_0 (by decide) ?_
  refine lv_istore_n (lv' := [(1, .int 0), (0, .ref av)]) hx hb dX4_textsOfAll_1 rfl hl (by decide) rfl (fun ls hl => ?_)
  refine lv_iconst (v := 0) hx hb dX4_textsOfAll_2 (by decide) ?_
  refine lv_istore_n (lv' := [(2, .int 0), (1, .int 0), (0, .ref av)]) hx hb dX4_textsOfAll_3 rfl hl (by decide) rfl (fun ls hl => ?_)
  exact lp_X4_textsOfAll_4 l D cI cJ cZ av nm v0 v1 v2 v3 v4 v5 v6 v7 v8 v9 mtx hm   C hQ hA _ 0 0 (by omega) rfl (Nat.lt_succ_self _) _ _ _ (hP.sub [0, 1] rfl) (hD.sub [0, 1] (by decide) rfl) hS (lv_sub hl [2, 1, 0] rfl)
set_option maxHeartbeats 4000000 in
set_option maxRecDepth 100000 in
theorem c_X4_holds (l : Launch) (D : va_G) (cI cJ cZ : ClassId) (xx : Int32) (r0 : Int32) (v : Int32)  : Ctr l D cI cJ cZ yX4_holds cX4_holds 3 (some .boolean) ({ frames := 0, cells := 0, slots := 0, locals := 0 } : Room) [.int xx, .int r0, .int v] [] (fun r W => ((r = some (.int 1) ∧ (f_holds xx r0 v = true)) ∨ (r = some (.int 0) ∧ ¬ (f_holds xx r0 v = true))) ∧ W = []) := by
  refine Ctr.start (by decide +kernel) (Nat.le_of_ble_eq_true rfl) ?_
  intro p e s m below meth c A Q ls H C hQ hA hP hD hS hl
  obtain ⟨hx, hb, hr, hml, hts, hown, hlk, hnm, hK, hN⟩ := id C
  have hl : lv_has ls 3 [(0, .int xx), (1, .int r0), (2, .int v)] := hl
  refine lv_iload_n hx hb dX4_holds_0 rfl (lv_at hl 1 rfl) ?_
  by_cases w_1_0 : r0 = 0
  · refine r_top w_1_0 ?_
    refine lv_tableIn (off := 27) (tgt := 28) hx hb dX4_holds_1 (by decide) (by decide) (by decide +kernel) (by decide) ?_
    refine lv_iload_n hx hb dX4_holds_28 rfl (lv_at hl 0 rfl) ?_
    refine lv_iload_n hx hb dX4_holds_29 rfl (lv_at hl 2 rfl) ?_
    refine lv_icmp_ne (tgt := 37) hx hb dX4_holds_30 (by decide) (fun c_30 => ?_) (fun c_30 => ?_)
    · -- taken 30
      refine lv_iconst (v := 0) hx hb dX4_holds_37 (by decide) ?_
      exact rt_z C hQ (by decide) (hP.sub (ws' := []) [] rfl) (hD.sub [] (by decide) rfl) hS ⟨Or.inr ⟨rfl, (by simp [f_holds, w_1_0, c_30])⟩, rfl⟩ (by decide) (by decide) dX4_holds_38
    · -- not taken 30
      refine lv_iconst (v := 1) hx hb dX4_holds_33 (by decide) ?_
      refine lv_goto (tgt := 38) hx hb dX4_holds_34 (by decide) ?_
      exact rt_z C hQ (by decide) (hP.sub (ws' := []) [] rfl) (hD.sub [] (by decide) rfl) hS ⟨Or.inl ⟨rfl, (by simp [f_holds, w_1_0, c_30])⟩, rfl⟩ (by decide) (by decide) dX4_holds_38
  by_cases w_1_1 : r0 = 1
  · refine r_top w_1_1 ?_
    refine lv_tableIn (off := 38) (tgt := 39) hx hb dX4_holds_1 (by decide) (by decide) (by decide +kernel) (by decide) ?_
    refine lv_iload_n hx hb dX4_holds_39 rfl (lv_at hl 0 rfl) ?_
    refine lv_iload_n hx hb dX4_holds_40 rfl (lv_at hl 2 rfl) ?_
    refine lv_icmp_eq (tgt := 48) hx hb dX4_holds_41 (by decide) (fun c_41 => ?_) (fun c_41 => ?_)
    · -- taken 41
      refine lv_iconst (v := 0) hx hb dX4_holds_48 (by decide) ?_
      exact rt_z C hQ (by decide) (hP.sub (ws' := []) [] rfl) (hD.sub [] (by decide) rfl) hS ⟨Or.inr ⟨rfl, (by simp [f_holds, w_1_0, w_1_1, c_41])⟩, rfl⟩ (by decide) (by decide) dX4_holds_49
    · -- not taken 41
      refine lv_iconst (v := 1) hx hb dX4_holds_44 (by decide) ?_
      refine lv_goto (tgt := 49) hx hb dX4_holds_45 (by decide) ?_
      exact rt_z C hQ (by decide) (hP.sub (ws' := []) [] rfl) (hD.sub [] (by decide) rfl) hS ⟨Or.inl ⟨rfl, (by simp [f_holds, w_1_0, w_1_1, c_41])⟩, rfl⟩ (by decide) (by decide) dX4_holds_49
  by_cases w_1_2 : r0 = 2
  · refine r_top w_1_2 ?_
    refine lv_tableIn (off := 49) (tgt := 50) hx hb dX4_holds_1 (by decide) (by decide) (by decide +kernel) (by decide) ?_
    refine lv_iload_n hx hb dX4_holds_50 rfl (lv_at hl 0 rfl) ?_
    refine lv_iload_n hx hb dX4_holds_51 rfl (lv_at hl 2 rfl) ?_
    refine lv_icmp_ge (tgt := 59) hx hb dX4_holds_52 (by decide) (fun c_52 => ?_) (fun c_52 => ?_)
    · -- taken 52
      refine lv_iconst (v := 0) hx hb dX4_holds_59 (by decide) ?_
      exact rt_z C hQ (by decide) (hP.sub (ws' := []) [] rfl) (hD.sub [] (by decide) rfl) hS ⟨Or.inr ⟨rfl, (by simp only [f_holds, w_1_0, w_1_1, w_1_2, if_true, if_false]; first | simpa using Int32.not_le.mp c_52 | simpa using Int32.not_lt.mpr c_52 | simpa using c_52)⟩, rfl⟩ (by decide) (by decide) dX4_holds_60
    · -- not taken 52
      refine lv_iconst (v := 1) hx hb dX4_holds_55 (by decide) ?_
      refine lv_goto (tgt := 60) hx hb dX4_holds_56 (by decide) ?_
      exact rt_z C hQ (by decide) (hP.sub (ws' := []) [] rfl) (hD.sub [] (by decide) rfl) hS ⟨Or.inl ⟨rfl, (by simp only [f_holds, w_1_0, w_1_1, w_1_2, if_true, if_false]; first | simpa using Int32.not_le.mp c_52 | simpa using Int32.not_lt.mpr c_52 | simpa using c_52)⟩, rfl⟩ (by decide) (by decide) dX4_holds_60
  refine lv_tableOut (tgt := 61) hx hb dX4_holds_1 (sw_out 2 (by decide) (fun k hk => by match k, hk with | 0, _ => exact w_1_0 | 1, _ => exact w_1_1 | 2, _ => exact w_1_2 | k + 3, hk => exact absurd hk (by omega))) (by decide) ?_
  refine lv_iload_n hx hb dX4_holds_61 rfl (lv_at hl 0 rfl) ?_
  refine lv_iload_n hx hb dX4_holds_62 rfl (lv_at hl 2 rfl) ?_
  refine lv_icmp_le (tgt := 70) hx hb dX4_holds_63 (by decide) (fun c_63 => ?_) (fun c_63 => ?_)
  · -- taken 63
    refine lv_iconst (v := 0) hx hb dX4_holds_70 (by decide) ?_
    exact rt_z C hQ (by decide) (hP.sub (ws' := []) [] rfl) (hD.sub [] (by decide) rfl) hS ⟨Or.inr ⟨rfl, (by simp only [f_holds, w_1_0, w_1_1, w_1_2, if_true, if_false]; first | simpa using Int32.not_le.mp c_63 | simpa using Int32.not_lt.mpr c_63 | simpa using c_63)⟩, rfl⟩ (by decide) (by decide) dX4_holds_71
  · -- not taken 63
    refine lv_iconst (v := 1) hx hb dX4_holds_66 (by decide) ?_
    refine lv_goto (tgt := 71) hx hb dX4_holds_67 (by decide) ?_
    exact rt_z C hQ (by decide) (hP.sub (ws' := []) [] rfl) (hD.sub [] (by decide) rfl) hS ⟨Or.inl ⟨rfl, (by simp only [f_holds, w_1_0, w_1_1, w_1_2, if_true, if_false]; first | simpa using Int32.not_le.mp c_63 | simpa using Int32.not_lt.mpr c_63 | simpa using c_63)⟩, rfl⟩ (by decide) (by decide) dX4_holds_71
set_option maxHeartbeats 4000000 in
set_option maxRecDepth 100000 in
theorem lp_X4_conditionsHold_10 (l : Launch) (D : va_G) (cI cJ cZ : ClassId) (av : Nat) (nm : Nat) (v0 : Nat) (v1 : Nat) (v2 : Nat) (v3 : Nat) (v4 : Nat) (v5 : Nat) (v6 : Nat) (v7 : Nat) (v8 : Nat) (v9 : Nat) (mcn : Nat → Nat) (mcl : Nat → Nat) (mcr : Nat → Int32) (mcv : Nat → Int32) (j : Nat) (w : Int64) (hj : j < 24) (hc : mcn j ≤ 6)   {p : Program} {e : Env} {s : State} {m : MethodId} {below : List Frame} {meth : Method} {c : Code} {A : Nat → Prop} {Q : State → Prop} (C : Cx D cI cJ cZ p s m ([.ref av, .int (nI j), .long w] : List Value).toArray meth c yX4_conditionsHold cX4_conditionsHold 7 (some .boolean)) (hQ : QOK Q below s ([.ref av, .int (nI j), .long w] : List Value).toArray D A (fun r W => ((r = some (.int 1) ∧ (f_conds (dgs w) mcl mcr mcv (j * 6) (mcn j) = true)) ∨ (r = some (.int 0) ∧ ¬ (f_conds (dgs w) mcl mcr mcv (j * 6) (mcn j) = true))) ∧ W = [(av, .inr (5, [.ref v0, .ref v1, .int (nI nm), .ref v2, .ref v3, .ref v4, .ref v5, .ref v6, .ref v7, .ref v8, .ref v9])), (v2, .inl (cI, 24, .inl (nF mcn))), (v3, .inl (cI, 144, .inl (nF mcl))), (v4, .inl (cI, 144, .inl mcr)), (v5, .inl (cI, 144, .inl mcv))]) 0 0) (hA : ∀ q, s.heap.size ≤ q → A q) : ∀ (ku : Nat) (i : Nat) (hi : i ≤ mcn j) (hh : f_conds (dgs w) mcl mcr mcv (j * 6) i = true), (mcn j - i) < ku → ∀ (H : Heap) (locs : List Loc) (ls : Array Slot), va_P D vwCl [(av, .inr (5, [.ref v0, .ref v1, .int (nI nm), .ref v2, .ref v3, .ref v4, .ref v5, .ref v6, .ref v7, .ref v8, .ref v9])), (v2, .inl (cI, 24, .inl (nF mcn))), (v3, .inl (cI, 144, .inl (nF mcl))), (v4, .inl (cI, 144, .inl mcr)), (v5, .inl (cI, 144, .inl mcv))] H → va_D A [(av, .inr (5, [.ref v0, .ref v1, .int (nI nm), .ref v2, .ref v3, .ref v4, .ref v5, .ref v6, .ref v7, .ref v8, .ref v9])), (v2, .inl (cI, 24, .inl (nF mcn))), (v3, .inl (cI, 144, .inl (nF mcl))), (v4, .inl (cI, 144, .inl mcr)), (v5, .inl (cI, 144, .inl mcv))] → va_S A s.heap H locs → lv_has ls 7 [(0, .ref av), (1, .int (nI j)), (2, .long w), (4, .int (nI (j * 6))), (5, .int (nI (j * 6 + i)))] → W p l e ({ frames := 1, cells := 0, slots := 0, locals := 22 } : Room) s m ([.ref av, .int (nI j), .long w] : List Value).toArray below meth c H locs 0 0 Q (F0 m 10 ls []) := by
  obtain ⟨hx, hb, hr, hml, hts, hown, hlk, hnm, hK, hN⟩ := id C
  intro ku
  induction ku with
  | zero =>
    intro i hi hh hku
    exact absurd hku (Nat.not_lt_zero _)
  | succ ku ih =>
    intro i hi hh hku H locs ls hP hD hS hl
    refine lv_iload hx hb dX4_conditionsHold_10 (lv_at hl 4 rfl) ?_
    refine lv_iload hx hb dX4_conditionsHold_12 (lv_at hl 3 rfl) ?_
    refine lv_aload_n hx hb dX4_conditionsHold_14 rfl (lv_at hl 0 rfl) ?_
    refine r_get (v := .ref v2) C hP okX4 0 3 rfl (by decide) fl_X4_18 rfl rfl dX4_conditionsHold_15 ?_
    refine lv_iload_n hx hb dX4_conditionsHold_18 rfl (lv_at hl 1 rfl) ?_
    refine r_iald (j := j) C hP 1 rfl (by omega) (by decide) dX4_conditionsHold_19 ?_
    refine r_top (x' := nI (mcn j)) rfl ?_
    refine lv_iadd hx hb dX4_conditionsHold_20 ?_
    refine r_top (x' := nI ((j * 6) + (mcn j))) (nI_add (j * 6) (mcn j)) ?_
    refine lv_icmp_ge (tgt := 67) hx hb dX4_conditionsHold_21 (by decide) (fun c_21 => ?_) (fun c_21 => ?_)
    · -- taken 21
      have c_21 : (j * 6) + (mcn j) ≤ j * 6 + i := (nI_leI (a := (j * 6) + (mcn j)) (b := j * 6 + i) (by omega) (by omega)).mp c_21
      refine lv_iconst (v := 1) hx hb dX4_conditionsHold_67 (by decide) ?_
      exact rt_z C hQ (by decide) (hP.sub (ws' := [(av, .inr (5, [.ref v0, .ref v1, .int (nI nm), .ref v2, .ref v3, .ref v4, .ref v5, .ref v6, .ref v7, .ref v8, .ref v9])), (v2, .inl (cI, 24, .inl (nF mcn))), (v3, .inl (cI, 144, .inl (nF mcl))), (v4, .inl (cI, 144, .inl mcr)), (v5, .inl (cI, 144, .inl mcv))]) [0, 1, 2, 3, 4] rfl) (hD.sub [0, 1, 2, 3, 4] (by decide) rfl) hS ⟨Or.inl ⟨rfl, by rw [show mcn j = i by omega]; exact hh⟩, rfl⟩ (by decide) (by decide) dX4_conditionsHold_68
    · -- not taken 21
      have c_21 : ¬ ((j * 6) + (mcn j) ≤ j * 6 + i) := fun z => c_21 ((nI_leI (a := (j * 6) + (mcn j)) (b := j * 6 + i) (by omega) (by omega)).mpr z)
      refine lv_lload_n hx hb dX4_conditionsHold_24 rfl (lv_at hl 2 rfl) ?_
      refine lv_aload_n hx hb dX4_conditionsHold_25 rfl (lv_at hl 0 rfl) ?_
      refine r_get (v := .ref v3) C hP okX4 0 4 rfl (by decide) fl_X4_21 rfl rfl dX4_conditionsHold_26 ?_
      refine lv_iload hx hb dX4_conditionsHold_29 (lv_at hl 4 rfl) ?_
      refine r_iald (j := j * 6 + i) C hP 2 rfl (by omega) (by decide) dX4_conditionsHold_31 ?_
      refine r_top (x' := nI (mcl (j * 6 + i))) rfl ?_
      refine cl_sn C (c_X9_valueIn l D cI cJ cZ w (nI (mcl (j * 6 + i)))) cd_X9_valueIn (by decide +kernel) st_X9_valueIn in_X9 hd_X9_valueIn ⟨by decide, by decide⟩ hP hD hS hA (WR := [(av, .inr (5, [.ref v0, .ref v1, .int (nI nm), .ref v2, .ref v3, .ref v4, .ref v5, .ref v6, .ref v7, .ref v8, .ref v9])), (v2, .inl (cI, 24, .inl (nF mcn))), (v3, .inl (cI, 144, .inl (nF mcl))), (v4, .inl (cI, 144, .inl mcr)), (v5, .inl (cI, 144, .inl mcv))]) [] [0, 1, 2, 3, 4] rfl rfl rfl rfl (by decide) hl.1 rfl (Nat.le_of_ble_eq_true rfl) dX4_conditionsHold_32 ⟨by decide, by decide⟩ (fun r W H locs hp hP hD hS => ?_)
      obtain ⟨rfl, rfl⟩ := hp
      refine W.eq (g2 := F0 m 35 ls [.int (f_valueIn w (nI (mcl (j * 6 + i))))]) rfl ?_
      have hP : va_P D vwCl [(av, .inr (5, [.ref v0, .ref v1, .int (nI nm), .ref v2, .ref v3, .ref v4, .ref v5, .ref v6, .ref v7, .ref v8, .ref v9])), (v2, .inl (cI, 24, .inl (nF mcn))), (v3, .inl (cI, 144, .inl (nF mcl))), (v4, .inl (cI, 144, .inl mcr)), (v5, .inl (cI, 144, .inl mcv))] H := hP
      have hD : va_D A [(av, .inr (5, [.ref v0, .ref v1, .int (nI nm), .ref v2, .ref v3, .ref v4, .ref v5, .ref v6, .ref v7, .ref v8, .ref v9])), (v2, .inl (cI, 24, .inl (nF mcn))), (v3, .inl (cI, 144, .inl (nF mcl))), (v4, .inl (cI, 144, .inl mcr)), (v5, .inl (cI, 144, .inl mcv))] := hD
      refine lv_istore (lv' := [(6, .int (f_valueIn w (nI (mcl (j * 6 + i))))), (0, .ref av), (1, .int (nI j)), (2, .long w), (4, .int (nI (j * 6))), (5, .int (nI (j * 6 + i)))]) hx hb dX4_conditionsHold_35 hl (by decide) rfl (fun ls hl => ?_)
      refine lv_iload hx hb dX4_conditionsHold_37 (lv_at hl 0 rfl) ?_
      refine lv_aload_n hx hb dX4_conditionsHold_39 rfl (lv_at hl 1 rfl) ?_
      refine r_get (v := .ref v4) C hP okX4 0 5 rfl (by decide) fl_X4_24 rfl rfl dX4_conditionsHold_40 ?_
      refine lv_iload hx hb dX4_conditionsHold_43 (lv_at hl 5 rfl) ?_
      refine r_iald (j := j * 6 + i) C hP 3 rfl (by omega) (by decide) dX4_conditionsHold_45 ?_
      refine lv_aload_n hx hb dX4_conditionsHold_46 rfl (lv_at hl 1 rfl) ?_
      refine r_get (v := .ref v5) C hP okX4 0 6 rfl (by decide) fl_X4_27 rfl rfl dX4_conditionsHold_47 ?_
      refine lv_iload hx hb dX4_conditionsHold_50 (lv_at hl 5 rfl) ?_
      refine r_iald (j := j * 6 + i) C hP 4 rfl (by omega) (by decide) dX4_conditionsHold_52 ?_
      refine cl_s C (c_X4_holds l D cI cJ cZ (f_valueIn w (nI (mcl (j * 6 + i)))) (mcr (j * 6 + i)) (mcv (j * 6 + i))) cd_X4_holds ml_X4_79 st_X4_holds in_X4 hd_X4_holds ⟨by decide, by decide⟩ hP hD hS hA (WR := [(av, .inr (5, [.ref v0, .ref v1, .int (nI nm), .ref v2, .ref v3, .ref v4, .ref v5, .ref v6, .ref v7, .ref v8, .ref v9])), (v2, .inl (cI, 24, .inl (nF mcn))), (v3, .inl (cI, 144, .inl (nF mcl))), (v4, .inl (cI, 144, .inl mcr)), (v5, .inl (cI, 144, .inl mcv))]) [] [0, 1, 2, 3, 4] rfl rfl rfl rfl (by decide) hl.1 rfl (Nat.le_of_ble_eq_true rfl) dX4_conditionsHold_53 ⟨by decide, by decide⟩ (fun r W H locs hp hP hD hS => ?_)
      rcases hp with ⟨⟨rfl, hb_53⟩ | ⟨rfl, hb_53⟩, rfl⟩
      · -- yes 53
        refine W.eq (g2 := F0 m 56 ls [.int 1]) rfl ?_
        have hP : va_P D vwCl [(av, .inr (5, [.ref v0, .ref v1, .int (nI nm), .ref v2, .ref v3, .ref v4, .ref v5, .ref v6, .ref v7, .ref v8, .ref v9])), (v2, .inl (cI, 24, .inl (nF mcn))), (v3, .inl (cI, 144, .inl (nF mcl))), (v4, .inl (cI, 144, .inl mcr)), (v5, .inl (cI, 144, .inl mcv))] H := hP
        have hD : va_D A [(av, .inr (5, [.ref v0, .ref v1, .int (nI nm), .ref v2, .ref v3, .ref v4, .ref v5, .ref v6, .ref v7, .ref v8, .ref v9])), (v2, .inl (cI, 24, .inl (nF mcn))), (v3, .inl (cI, 144, .inl (nF mcl))), (v4, .inl (cI, 144, .inl mcr)), (v5, .inl (cI, 144, .inl mcv))] := hD
        refine lv_if_ne (tgt := 61) hx hb dX4_conditionsHold_56 (by decide) (fun c_56 => ?_) (fun c_56 => ?_)
        rotate_left
        · exact absurd c_56 (by decide)
        refine lv_iinc (v := nI (j * 6 + i + 1)) (lv' := [(5, .int (nI (j * 6 + i + 1))), (6, .int (f_valueIn w (nI (mcl (j * 6 + i))))), (0, .ref av), (1, .int (nI j)), (2, .long w), (4, .int (nI (j * 6)))]) hx hb dX4_conditionsHold_61 hl (k := 5) rfl (nI_1 _) (by decide) rfl (fun ls hl => ?_)
        refine lv_goto (tgt := 10) hx hb dX4_conditionsHold_64 (by decide) ?_
        exact ih (i + 1) (by omega) (by simp only [f_conds, Bool.and_eq_true]; exact ⟨hh, hb_53⟩) (by omega) _ _ _ (hP.sub [0, 1, 2, 3, 4] rfl) (hD.sub [0, 1, 2, 3, 4] (by decide) rfl) hS (lv_sub hl [2, 3, 4, 5, 0] rfl)
      · -- no 53
        refine W.eq (g2 := F0 m 56 ls [.int 0]) rfl ?_
        have hP : va_P D vwCl [(av, .inr (5, [.ref v0, .ref v1, .int (nI nm), .ref v2, .ref v3, .ref v4, .ref v5, .ref v6, .ref v7, .ref v8, .ref v9])), (v2, .inl (cI, 24, .inl (nF mcn))), (v3, .inl (cI, 144, .inl (nF mcl))), (v4, .inl (cI, 144, .inl mcr)), (v5, .inl (cI, 144, .inl mcv))] H := hP
        have hD : va_D A [(av, .inr (5, [.ref v0, .ref v1, .int (nI nm), .ref v2, .ref v3, .ref v4, .ref v5, .ref v6, .ref v7, .ref v8, .ref v9])), (v2, .inl (cI, 24, .inl (nF mcn))), (v3, .inl (cI, 144, .inl (nF mcl))), (v4, .inl (cI, 144, .inl mcr)), (v5, .inl (cI, 144, .inl mcv))] := hD
        refine lv_if_ne (tgt := 61) hx hb dX4_conditionsHold_56 (by decide) (fun c_56 => ?_) (fun c_56 => ?_)
        · exact absurd c_56 (by decide)
        refine lv_iconst (v := 0) hx hb dX4_conditionsHold_59 (by decide) ?_
        exact rt_z C hQ (by decide) (hP.sub (ws' := [(av, .inr (5, [.ref v0, .ref v1, .int (nI nm), .ref v2, .ref v3, .ref v4, .ref v5, .ref v6, .ref v7, .ref v8, .ref v9])), (v2, .inl (cI, 24, .inl (nF mcn))), (v3, .inl (cI, 144, .inl (nF mcl))), (v4, .inl (cI, 144, .inl mcr)), (v5, .inl (cI, 144, .inl mcv))]) [0, 1, 2, 3, 4] rfl) (hD.sub [0, 1, 2, 3, 4] (by decide) rfl) hS ⟨Or.inr ⟨rfl, f_conds_no (mcn j) (by omega) hb_53⟩, rfl⟩ (by decide) (by decide) dX4_conditionsHold_60
set_option maxHeartbeats 4000000 in
set_option maxRecDepth 100000 in
theorem c_X4_conditionsHold (l : Launch) (D : va_G) (cI cJ cZ : ClassId) (av : Nat) (nm : Nat) (v0 : Nat) (v1 : Nat) (v2 : Nat) (v3 : Nat) (v4 : Nat) (v5 : Nat) (v6 : Nat) (v7 : Nat) (v8 : Nat) (v9 : Nat) (mcn : Nat → Nat) (mcl : Nat → Nat) (mcr : Nat → Int32) (mcv : Nat → Int32) (j : Nat) (w : Int64) (hj : j < 24) (hc : mcn j ≤ 6) : Ctr l D cI cJ cZ yX4_conditionsHold cX4_conditionsHold 7 (some .boolean) ({ frames := 1, cells := 0, slots := 0, locals := 22 } : Room) [.ref av, .int (nI j), .long w] [(av, .inr (5, [.ref v0, .ref v1, .int (nI nm), .ref v2, .ref v3, .ref v4, .ref v5, .ref v6, .ref v7, .ref v8, .ref v9])), (v2, .inl (cI, 24, .inl (nF mcn))), (v3, .inl (cI, 144, .inl (nF mcl))), (v4, .inl (cI, 144, .inl mcr)), (v5, .inl (cI, 144, .inl mcv))] (fun r W => ((r = some (.int 1) ∧ (f_conds (dgs w) mcl mcr mcv (j * 6) (mcn j) = true)) ∨ (r = some (.int 0) ∧ ¬ (f_conds (dgs w) mcl mcr mcv (j * 6) (mcn j) = true))) ∧ W = [(av, .inr (5, [.ref v0, .ref v1, .int (nI nm), .ref v2, .ref v3, .ref v4, .ref v5, .ref v6, .ref v7, .ref v8, .ref v9])), (v2, .inl (cI, 24, .inl (nF mcn))), (v3, .inl (cI, 144, .inl (nF mcl))), (v4, .inl (cI, 144, .inl mcr)), (v5, .inl (cI, 144, .inl mcv))]) := by
  refine Ctr.start (by decide +kernel) (Nat.le_of_ble_eq_true rfl) ?_
  intro p e s m below meth c A Q ls H C hQ hA hP hD hS hl
  obtain ⟨hx, hb, hr, hml, hts, hown, hlk, hnm, hK, hN⟩ := id C
  have hl : lv_has ls 7 [(0, .ref av), (1, .int (nI j)), (2, .long w)] := hl
  refine lv_iload_n hx hb dX4_conditionsHold_0 rfl (lv_at hl 1 rfl) ?_
  refine lv_bipush (v := 6) hx hb dX4_conditionsHold_1 (by decide) ?_
  refine lv_imul hx hb dX4_conditionsHold_3 ?_
  refine r_top (x' := nI (j * 6)) (pk_mul j 6) ?_
  refine lv_istore (lv' := [(4, .int (nI (j * 6))), (0, .ref av), (1, .int (nI j)), (2, .long w)]) hx hb dX4_conditionsHold_4 hl (by decide) rfl (fun ls hl => ?_)
  refine lv_iload hx hb dX4_conditionsHold_6 (lv_at hl 0 rfl) ?_
  refine lv_istore (lv' := [(5, .int (nI (j * 6))), (4, .int (nI (j * 6))), (0, .ref av), (1, .int (nI j)), (2, .long w)]) hx hb dX4_conditionsHold_8 hl (by decide) rfl (fun ls hl => ?_)
  exact lp_X4_conditionsHold_10 l D cI cJ cZ av nm v0 v1 v2 v3 v4 v5 v6 v7 v8 v9 mcn mcl mcr mcv j w hj hc   C hQ hA _ 0 (by omega) rfl (Nat.lt_succ_self _) _ _ _ (hP.sub [0, 1, 2, 3, 4] rfl) (hD.sub [0, 1, 2, 3, 4] (by decide) rfl) hS (lv_sub hl [2, 3, 4, 1, 0] rfl)
set_option maxHeartbeats 4000000 in
set_option maxRecDepth 100000 in
theorem lp_X4_chance_6 (l : Launch) (D : va_G) (cI cJ cZ : ClassId) (m0 : Nat) (w : Int64) (n : Nat) (hn : n ≤ 10) (hm : m0 < 2 ^ 31)   {p : Program} {e : Env} {s : State} {m : MethodId} {below : List Frame} {meth : Method} {c : Code} {A : Nat → Prop} {Q : State → Prop} (C : Cx D cI cJ cZ p s m ([.int (nI m0), .long w, .int (nI n)] : List Value).toArray meth c yX4_chance cX4_chance 7 (some .int)) (hQ : QOK Q below s ([.int (nI m0), .long w, .int (nI n)] : List Value).toArray D A (fun r W => r = some (.int (f_chance (dgs w) n m0)) ∧ W = []) 0 0) (hA : ∀ q, s.heap.size ≤ q → A q) : ∀ (ku : Nat) (i : Nat) (h : Int64) (hi : i ≤ n) (hh : h = f_ch (dgs w) i), (n - i) < ku → ∀ (H : Heap) (locs : List Loc) (ls : Array Slot), va_P D vwCl [] H → va_D A [] → va_S A s.heap H locs → lv_has ls 7 [(0, .int (nI m0)), (1, .long w), (3, .int (nI n)), (4, .long h), (6, .int (nI i))] → W p l e ({ frames := 1, cells := 0, slots := 0, locals := 22 } : Room) s m ([.int (nI m0), .long w, .int (nI n)] : List Value).toArray below meth c H locs 0 0 Q (F0 m 6 ls []) := by
  obtain ⟨hx, hb, hr, hml, hts, hown, hlk, hnm, hK, hN⟩ := id C
  intro ku
  induction ku with
  | zero =>
    intro i h hi hh hku
    exact absurd hku (Nat.not_lt_zero _)
  | succ ku ih =>
    intro i h hi hh hku H locs ls hP hD hS hl
    refine lv_iload hx hb dX4_chance_6 (lv_at hl 4 rfl) ?_
    refine lv_iload_n hx hb dX4_chance_8 rfl (lv_at hl 2 rfl) ?_
    refine lv_icmp_ge (tgt := 40) hx hb dX4_chance_9 (by decide) (fun c_9 => ?_) (fun c_9 => ?_)
    · -- taken 9
      have c_9 : n ≤ i := (nI_leI (a := n) (b := i) (by omega) (by omega)).mp c_9
      refine lv_ldc2 (v := (131)) hx hb hown (hts _ cn_X4_96) dX4_chance_40 ?_
      refine lv_lload hx hb dX4_chance_43 (lv_at hl 3 rfl) ?_
      refine lv_lmul hx hb dX4_chance_45 ?_
      refine lv_iload_n hx hb dX4_chance_46 rfl (lv_at hl 0 rfl) ?_
      refine lv_i2l (v := (nI m0).toInt64) hx hb dX4_chance_47 rfl ?_
      refine lv_ladd hx hb dX4_chance_48 ?_
      refine lv_lconst (v := 1) hx hb dX4_chance_49 (by decide) ?_
      refine lv_ladd hx hb dX4_chance_50 ?_
      refine lv_ldc2 (v := (2147483647)) hx hb hown (hts _ cn_X4_98) dX4_chance_51 ?_
      refine lv_lrem hx hb dX4_chance_54 (by decide) ?_
      refine lv_l2i (v := ((((131 * h) + ((nI m0).toInt64)) + 1) - (((131 * h) + ((nI m0).toInt64)) + 1) / 2147483647 * 2147483647).toInt32) hx hb dX4_chance_55 rfl ?_
      exact rt_i C hQ (hP.sub (ws' := []) [] rfl) (hD.sub [] (by decide) rfl) hS ⟨by rw [hh, show i = n by omega]; rfl, rfl⟩ (by decide) (by decide) dX4_chance_56
    · -- not taken 9
      have c_9 : ¬ (n ≤ i) := fun z => c_9 ((nI_leI (a := n) (b := i) (by omega) (by omega)).mpr z)
      refine lv_ldc2 (v := (131)) hx hb hown (hts _ cn_X4_96) dX4_chance_12 ?_
      refine lv_lload hx hb dX4_chance_15 (lv_at hl 3 rfl) ?_
      refine lv_lmul hx hb dX4_chance_17 ?_
      refine lv_lload_n hx hb dX4_chance_18 rfl (lv_at hl 1 rfl) ?_
      refine lv_iload hx hb dX4_chance_19 (lv_at hl 4 rfl) ?_
      refine cl_sn C (c_X9_valueIn l D cI cJ cZ w (nI i)) cd_X9_valueIn (by decide +kernel) st_X9_valueIn in_X9 hd_X9_valueIn ⟨by decide, by decide⟩ hP hD hS hA (WR := []) [] [] rfl rfl rfl rfl (by decide) hl.1 rfl (Nat.le_of_ble_eq_true rfl) dX4_chance_21 ⟨by decide, by decide⟩ (fun r W H locs hp hP hD hS => ?_)
      obtain ⟨rfl, rfl⟩ := hp
      refine W.eq (g2 := F0 m 24 ls [.int (f_valueIn w (nI i)), .long (131 * h)]) rfl ?_
      have hP : va_P D vwCl [] H := hP
      have hD : va_D A [] := hD
      refine lv_i2l (v := (f_valueIn w (nI i)).toInt64) hx hb dX4_chance_24 rfl ?_
      refine lv_ladd hx hb dX4_chance_25 ?_
      refine lv_lconst (v := 1) hx hb dX4_chance_26 (by decide) ?_
      refine lv_ladd hx hb dX4_chance_27 ?_
      refine lv_ldc2 (v := (2147483647)) hx hb hown (hts _ cn_X4_98) dX4_chance_28 ?_
      refine lv_lrem hx hb dX4_chance_31 (by decide) ?_
      refine lv_lstore (lv' := [(4, .long ((((131 * h) + ((f_valueIn w (nI i)).toInt64)) + 1) - (((131 * h) + ((f_valueIn w (nI i)).toInt64)) + 1) / 2147483647 * 2147483647)), (0, .int (nI m0)), (1, .long w), (3, .int (nI n)), (6, .int (nI i))]) hx hb dX4_chance_32 hl (by decide) rfl (fun ls hl => ?_)
      refine lv_iinc (v := nI (i + 1)) (lv' := [(6, .int (nI (i + 1))), (4, .long ((((131 * h) + ((f_valueIn w (nI i)).toInt64)) + 1) - (((131 * h) + ((f_valueIn w (nI i)).toInt64)) + 1) / 2147483647 * 2147483647)), (0, .int (nI m0)), (1, .long w), (3, .int (nI n))]) hx hb dX4_chance_34 hl (k := 4) rfl (nI_1 _) (by decide) rfl (fun ls hl => ?_)
      refine lv_goto (tgt := 6) hx hb dX4_chance_37 (by decide) ?_
      exact ih (i + 1) ((((131 * h) + ((f_valueIn w (nI i)).toInt64)) + 1) - (((131 * h) + ((f_valueIn w (nI i)).toInt64)) + 1) / 2147483647 * 2147483647) (by omega) (by rw [hh]; rfl) (by omega) _ _ _ (hP.sub [] rfl) (hD.sub [] (by decide) rfl) hS (lv_sub hl [2, 3, 4, 1, 0] rfl)
set_option maxHeartbeats 4000000 in
set_option maxRecDepth 100000 in
theorem c_X4_chance (l : Launch) (D : va_G) (cI cJ cZ : ClassId) (m0 : Nat) (w : Int64) (n : Nat) (hn : n ≤ 10) (hm : m0 < 2 ^ 31) : Ctr l D cI cJ cZ yX4_chance cX4_chance 7 (some .int) ({ frames := 1, cells := 0, slots := 0, locals := 22 } : Room) [.int (nI m0), .long w, .int (nI n)] [] (fun r W => r = some (.int (f_chance (dgs w) n m0)) ∧ W = []) := by
  refine Ctr.start (by decide +kernel) (Nat.le_of_ble_eq_true rfl) ?_
  intro p e s m below meth c A Q ls H C hQ hA hP hD hS hl
  obtain ⟨hx, hb, hr, hml, hts, hown, hlk, hnm, hK, hN⟩ := id C
  have hl : lv_has ls 7 [(0, .int (nI m0)), (1, .long w), (3, .int (nI n))] := hl
  refine lv_lconst (v := 0) hx hb dX4_chance_0 (by decide) ?_
  refine lv_lstore (lv' := [(4, .long 0), (0, .int (nI m0)), (1, .long w), (3, .int (nI n))]) hx hb dX4_chance_1 hl (by decide) rfl (fun ls hl => ?_)
  refine lv_iconst (v := 0) hx hb dX4_chance_3 (by decide) ?_
  refine lv_istore (lv' := [(6, .int 0), (4, .long 0), (0, .int (nI m0)), (1, .long w), (3, .int (nI n))]) hx hb dX4_chance_4 hl (by decide) rfl (fun ls hl => ?_)
  exact lp_X4_chance_6 l D cI cJ cZ m0 w n hn hm   C hQ hA _ 0 0 (by omega) rfl (Nat.lt_succ_self _) _ _ _ (hP.sub [] rfl) (hD.sub [] (by decide) rfl) hS (lv_sub hl [2, 3, 4, 1, 0] rfl)
set_option maxHeartbeats 4000000 in
set_option maxRecDepth 100000 in
theorem c_J9_floorMod_7cf53 (l : Launch) (D : va_G) (cI cJ cZ : ClassId) (aa : Int32) (bb : Int32) (hne : ¬ bb = 0) : Ctr l D cI cJ cZ yJ9_floorMod_7cf53 cJ9_floorMod_7cf53 3 (some .int) ({ frames := 0, cells := 0, slots := 0, locals := 0 } : Room) [.int aa, .int bb] [] (fun r W => r = some (.int (f_floorMod aa bb)) ∧ W = []) := by
  refine Ctr.startF (by decide +kernel) (Nat.le_of_ble_eq_true rfl) ?_
  intro p e s m below meth c A Q ls H C hQ hA hP hD hS hl
  obtain ⟨hx, hb, hr, hml, hts, hown, hlk, hnm, hK, hN⟩ := id C
  have hl : lv_has ls 3 [(0, .int aa), (1, .int bb)] := hl
  refine lv_iload_n hx hb dJ9_floorMod_7cf53_0 rfl (lv_at hl 0 rfl) ?_
  refine lv_iload_n hx hb dJ9_floorMod_7cf53_1 rfl (lv_at hl 1 rfl) ?_
  refine lv_irem hx hb dJ9_floorMod_7cf53_2 hne ?_
  refine lv_istore_n (lv' := [(2, .int (aa - aa / bb * bb)), (0, .int aa), (1, .int bb)]) hx hb dJ9_floorMod_7cf53_3 rfl hl (by decide) rfl (fun ls hl => ?_)
  refine lv_iload_n hx hb dJ9_floorMod_7cf53_4 rfl (lv_at hl 1 rfl) ?_
  refine lv_iload_n hx hb dJ9_floorMod_7cf53_5 rfl (lv_at hl 2 rfl) ?_
  refine lv_ixor hx hb dJ9_floorMod_7cf53_6 ?_
  refine lv_if_ge (tgt := 18) hx hb dJ9_floorMod_7cf53_7 (by decide) (fun c_7 => ?_) (fun c_7 => ?_)
  · -- taken 7
    refine lv_iload_n hx hb dJ9_floorMod_7cf53_18 rfl (lv_at hl 0 rfl) ?_
    exact rt_i C hQ (hP.sub (ws' := []) [] rfl) (hD.sub [] (by decide) rfl) hS ⟨by simp only [f_floorMod]; rw [if_neg (fun z => by first | exact z.1 c_7 | exact z.2 c_11)]; rfl, rfl⟩ (by decide) (by decide) dJ9_floorMod_7cf53_19
  · -- not taken 7
    refine lv_iload_n hx hb dJ9_floorMod_7cf53_10 rfl (lv_at hl 0 rfl) ?_
    refine lv_if_eq (tgt := 18) hx hb dJ9_floorMod_7cf53_11 (by decide) (fun c_11 => ?_) (fun c_11 => ?_)
    · -- taken 11
      refine lv_iload_n hx hb dJ9_floorMod_7cf53_18 rfl (lv_at hl 0 rfl) ?_
      exact rt_i C hQ (hP.sub (ws' := []) [] rfl) (hD.sub [] (by decide) rfl) hS ⟨by simp only [f_floorMod]; rw [if_neg (fun z => by first | exact z.1 c_7 | exact z.2 c_11)]; rfl, rfl⟩ (by decide) (by decide) dJ9_floorMod_7cf53_19
    · -- not taken 11
      refine lv_iload_n hx hb dJ9_floorMod_7cf53_14 rfl (lv_at hl 0 rfl) ?_
      refine lv_iload_n hx hb dJ9_floorMod_7cf53_15 rfl (lv_at hl 2 rfl) ?_
      refine lv_iadd hx hb dJ9_floorMod_7cf53_16 ?_
      exact rt_i C hQ (hP.sub (ws' := []) [] rfl) (hD.sub [] (by decide) rfl) hS ⟨by simp only [f_floorMod]; rw [if_pos ⟨c_7, c_11⟩]; rfl, rfl⟩ (by decide) (by decide) dJ9_floorMod_7cf53_17
