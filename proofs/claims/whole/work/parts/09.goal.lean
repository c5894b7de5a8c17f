/-! Goal (written by s3.py) -/
set_option maxHeartbeats 4000000 in
set_option maxRecDepth 100000 in
theorem c_X1_init (l : Launch) (D : va_G) (cI cJ cZ : ClassId) (ag : Nat)  : Ctr l D cI cJ cZ yX1_init cX1_init 1 none ({ frames := 1, cells := 3, slots := 12, locals := 12 } : Room) [.ref ag] [(ag, .inr (2, [.int 0, .null, .null, .null]))] (fun r W => ∃ (q1 : Nat) (q2 : Nat) (q3 : Nat), r = none ∧ W = [(ag, .inr (2, [.int 0, .ref q1, .ref q2, .ref q3])), (q1, .inl (cI, 4, .inl (fun _ => 0))), (q2, .inl (cI, 4, .inl (fun _ => 0))), (q3, .inl (cI, 4, .inl (fun _ => 0)))]) := by
  refine Ctr.start (by decide +kernel) (Nat.le_of_ble_eq_true rfl) ?_
  intro p e s m below meth c A Q ls H C hQ hA hP hD hS hl
  obtain ⟨hx, hb, hr, hml, hts, hown, hlk, hnm, hK, hN⟩ := id C
  have hl : lv_has ls 1 [(0, .ref ag)] := hl
  refine lv_aload_n hx hb dX1_init_0 rfl (lv_at hl 0 rfl) ?_
  refine W.objInit hx hb hown (hts _ ml_X1_3) (hts _ im_objectInit) (hts _ cd_objectInit) rfl (by rw [hml]; exact hl.1) rfl dX1_init_1 (by decide) (Nat.le_of_ble_eq_true rfl) ?_
  refine W.eq (g2 := F0 m 4 ls []) rfl ?_
  refine lv_aload_n hx hb dX1_init_4 rfl (lv_at hl 0 rfl) ?_
  refine lv_iconst (v := 4) hx hb dX1_init_5 (by decide) ?_
  refine va_newa (atype := .int) (a0 := (4, .inl (fun _ => 0))) (N' := 4) hx hb (hts _ ac_int) rfl hK hP hD hS hA (fun _ => rfl) (by decide) (by decide +kernel) (by decide) (by decide) (by decide) dX1_init_6 (fun q_1 cA H hK' hP hD hS => ?_)
  obtain rfl : cI = cA := (va_sameI hK').symm
  have hP : va_P D vwCl [(ag, .inr (2, [.int 0, .null, .null, .null])), (q_1, .inl (cI, 4, .inl (fun _ => 0)))] H := hP
  have hD : va_D A [(ag, .inr (2, [.int 0, .null, .null, .null])), (q_1, .inl (cI, 4, .inl (fun _ => 0)))] := hD
  refine W.widen (k := 1) (n := 4) (by decide) (by decide) ?_
  refine r_putF (v := .ref q_1) C hP hD hS okX1 0 1 rfl (by decide) fl_X1_9 rfl rfl rfl rfl rfl rfl (Nat.le_of_ble_eq_true rfl) dX1_init_8 (fun H locs hP hD hS => ?_)
  have hP : va_P D vwCl [(ag, .inr (2, [.int 0, .ref q_1, .null, .null])), (q_1, .inl (cI, 4, .inl (fun _ => 0)))] H := hP
  have hD : va_D A [(ag, .inr (2, [.int 0, .ref q_1, .null, .null])), (q_1, .inl (cI, 4, .inl (fun _ => 0)))] := hD
  refine lv_aload_n hx hb dX1_init_11 rfl (lv_at hl 0 rfl) ?_
  refine lv_iconst (v := 4) hx hb dX1_init_12 (by decide) ?_
  refine va_newa (atype := .int) (a0 := (4, .inl (fun _ => 0))) (N' := 4) hx hb (hts _ ac_int) rfl hK hP hD hS hA (fun _ => rfl) (by decide) (by decide +kernel) (by decide) (by decide) (by decide) dX1_init_13 (fun q_2 cA H hK' hP hD hS => ?_)
  obtain rfl : cI = cA := (va_sameI hK').symm
  have hP : va_P D vwCl [(ag, .inr (2, [.int 0, .ref q_1, .null, .null])), (q_1, .inl (cI, 4, .inl (fun _ => 0))), (q_2, .inl (cI, 4, .inl (fun _ => 0)))] H := hP
  have hD : va_D A [(ag, .inr (2, [.int 0, .ref q_1, .null, .null])), (q_1, .inl (cI, 4, .inl (fun _ => 0))), (q_2, .inl (cI, 4, .inl (fun _ => 0)))] := hD
  refine W.widen (k := 2) (n := 8) (by decide) (by decide) ?_
  refine r_putF (v := .ref q_2) C hP hD hS okX1 0 2 rfl (by decide) fl_X1_15 rfl rfl rfl rfl rfl rfl (Nat.le_of_ble_eq_true rfl) dX1_init_15 (fun H locs hP hD hS => ?_)
  have hP : va_P D vwCl [(ag, .inr (2, [.int 0, .ref q_1, .ref q_2, .null])), (q_1, .inl (cI, 4, .inl (fun _ => 0))), (q_2, .inl (cI, 4, .inl (fun _ => 0)))] H := hP
  have hD : va_D A [(ag, .inr (2, [.int 0, .ref q_1, .ref q_2, .null])), (q_1, .inl (cI, 4, .inl (fun _ => 0))), (q_2, .inl (cI, 4, .inl (fun _ => 0)))] := hD
  refine lv_aload_n hx hb dX1_init_18 rfl (lv_at hl 0 rfl) ?_
  refine lv_iconst (v := 4) hx hb dX1_init_19 (by decide) ?_
  refine va_newa (atype := .int) (a0 := (4, .inl (fun _ => 0))) (N' := 4) hx hb (hts _ ac_int) rfl hK hP hD hS hA (fun _ => rfl) (by decide) (by decide +kernel) (by decide) (by decide) (by decide) dX1_init_20 (fun q_3 cA H hK' hP hD hS => ?_)
  obtain rfl : cI = cA := (va_sameI hK').symm
  have hP : va_P D vwCl [(ag, .inr (2, [.int 0, .ref q_1, .ref q_2, .null])), (q_1, .inl (cI, 4, .inl (fun _ => 0))), (q_2, .inl (cI, 4, .inl (fun _ => 0))), (q_3, .inl (cI, 4, .inl (fun _ => 0)))] H := hP
  have hD : va_D A [(ag, .inr (2, [.int 0, .ref q_1, .ref q_2, .null])), (q_1, .inl (cI, 4, .inl (fun _ => 0))), (q_2, .inl (cI, 4, .inl (fun _ => 0))), (q_3, .inl (cI, 4, .inl (fun _ => 0)))] := hD
  refine W.widen (k := 3) (n := 12) (by decide) (by decide) ?_
  refine r_putF (v := .ref q_3) C hP hD hS okX1 0 3 rfl (by decide) fl_X1_18 rfl rfl rfl rfl rfl rfl (Nat.le_of_ble_eq_true rfl) dX1_init_22 (fun H locs hP hD hS => ?_)
  have hP : va_P D vwCl [(ag, .inr (2, [.int 0, .ref q_1, .ref q_2, .ref q_3])), (q_1, .inl (cI, 4, .inl (fun _ => 0))), (q_2, .inl (cI, 4, .inl (fun _ => 0))), (q_3, .inl (cI, 4, .inl (fun _ => 0)))] H := hP
  have hD : va_D A [(ag, .inr (2, [.int 0, .ref q_1, .ref q_2, .ref q_3])), (q_1, .inl (cI, 4, .inl (fun _ => 0))), (q_2, .inl (cI, 4, .inl (fun _ => 0))), (q_3, .inl (cI, 4, .inl (fun _ => 0)))] := hD
  exact rt_v C hQ (hP.sub (ws' := [(ag, .inr (2, [.int 0, .ref q_1, .ref q_2, .ref q_3])), (q_1, .inl (cI, 4, .inl (fun _ => 0))), (q_2, .inl (cI, 4, .inl (fun _ => 0))), (q_3, .inl (cI, 4, .inl (fun _ => 0)))]) [0, 1, 2, 3] rfl) (hD.sub [0, 1, 2, 3] (by decide) rfl) hS ⟨q_1, q_2, q_3, rfl, rfl⟩ (by decide) (by decide) dX1_init_25
set_option maxHeartbeats 4000000 in
set_option maxRecDepth 100000 in
theorem c_X1_isPart (l : Launch) (D : va_G) (cI cJ cZ : ClassId) (k : Int32) (a : Int32) (b : Int32) (n : Nat) (hn : n ≤ 10) : Ctr l D cI cJ cZ yX1_isPart cX1_isPart 4 (some .boolean) ({ frames := 2, cells := 0, slots := 0, locals := 42 } : Room) [.int k, .int a, .int b, .int (nI n)] [] (fun r W => ((r = some (.int 1) ∧ (f_isPart n k a b = true)) ∨ (r = some (.int 0) ∧ ¬ (f_isPart n k a b = true))) ∧ W = []) := by
  refine Ctr.start (by decide +kernel) (Nat.le_of_ble_eq_true rfl) ?_
  intro p e s m below meth c A Q ls H C hQ hA hP hD hS hl
  obtain ⟨hx, hb, hr, hml, hts, hown, hlk, hnm, hK, hN⟩ := id C
  have hl : lv_has ls 4 [(0, .int k), (1, .int a), (2, .int b), (3, .int (nI n))] := hl
  refine lv_iload_n hx hb dX1_isPart_0 rfl (lv_at hl 0 rfl) ?_
  by_cases w_1_0 : k = 0
  · refine r_top w_1_0 ?_
    refine lv_tableIn (off := 31) (tgt := 32) hx hb dX1_isPart_1 (by decide) (by decide) (by decide +kernel) (by decide) ?_
    refine lv_iload_n hx hb dX1_isPart_32 rfl (lv_at hl 1 rfl) ?_
    refine lv_iconst (v := 0) hx hb dX1_isPart_33 (by decide) ?_
    refine lv_iload_n hx hb dX1_isPart_34 rfl (lv_at hl 3 rfl) ?_
    refine lv_iconst (v := 1) hx hb dX1_isPart_35 (by decide) ?_
    refine lv_isub hx hb dX1_isPart_36 ?_
    refine cl_sn C (c_X9_isWithin l D cI cJ cZ a 0 ((nI n) - 1)) cd_X9_isWithin (by decide +kernel) st_X9_isWithin in_X9 hd_X9_isWithin ⟨by decide, by decide⟩ hP hD hS hA (WR := []) [] [] rfl rfl rfl rfl (by decide) hl.1 rfl (Nat.le_of_ble_eq_true rfl) dX1_isPart_37 ⟨by decide, by decide⟩ (fun r W H locs hp hP hD hS => ?_)
    rcases hp with ⟨⟨rfl, hb_37⟩ | ⟨rfl, hb_37⟩, rfl⟩
    · -- yes 37
      refine W.eq (g2 := F0 m 40 ls [.int 1]) rfl ?_
      have hP : va_P D vwCl [] H := hP
      have hD : va_D A [] := hD
      refine lv_if_eq (tgt := 54) hx hb dX1_isPart_40 (by decide) (fun c_40 => ?_) (fun c_40 => ?_)
      · exact absurd c_40 (by decide)
      refine lv_iload_n hx hb dX1_isPart_43 rfl (lv_at hl 2 rfl) ?_
      refine cl_sn C (c_X9_isValue l D cI cJ cZ b) cd_X9_isValue (by decide +kernel) st_X9_isValue in_X9 hd_X9_isValue ⟨by decide, by decide⟩ hP hD hS hA (WR := []) [] [] rfl rfl rfl rfl (by decide) hl.1 rfl (Nat.le_of_ble_eq_true rfl) dX1_isPart_44 ⟨by decide, by decide⟩ (fun r W H locs hp hP hD hS => ?_)
      rcases hp with ⟨⟨rfl, hb_44⟩ | ⟨rfl, hb_44⟩, rfl⟩
      · -- yes 44
        refine W.eq (g2 := F0 m 47 ls [.int 1]) rfl ?_
        have hP : va_P D vwCl [] H := hP
        have hD : va_D A [] := hD
        refine lv_if_eq (tgt := 54) hx hb dX1_isPart_47 (by decide) (fun c_47 => ?_) (fun c_47 => ?_)
        · exact absurd c_47 (by decide)
        refine lv_iconst (v := 1) hx hb dX1_isPart_50 (by decide) ?_
        refine lv_goto (tgt := 55) hx hb dX1_isPart_51 (by decide) ?_
        exact rt_z C hQ (by decide) (hP.sub (ws' := []) [] rfl) (hD.sub [] (by decide) rfl) hS ⟨Or.inl ⟨rfl, (by simp only [f_isPart, w_1_0, if_true]; simp [q_inR (by omega) hb_37, hb_44])⟩, rfl⟩ (by decide) (by decide) dX1_isPart_55
      · -- no 44
        refine W.eq (g2 := F0 m 47 ls [.int 0]) rfl ?_
        have hP : va_P D vwCl [] H := hP
        have hD : va_D A [] := hD
        refine lv_if_eq (tgt := 54) hx hb dX1_isPart_47 (by decide) (fun c_47 => ?_) (fun c_47 => ?_)
        rotate_left
        · exact absurd c_47 (by decide)
        refine lv_iconst (v := 0) hx hb dX1_isPart_54 (by decide) ?_
        exact rt_z C hQ (by decide) (hP.sub (ws' := []) [] rfl) (hD.sub [] (by decide) rfl) hS ⟨Or.inr ⟨rfl, (by simp only [f_isPart, w_1_0, if_true]; first | (simp [hb_44]; done) | (have := q_ninR (n := n) (by omega) hb_37; simp [this]))⟩, rfl⟩ (by decide) (by decide) dX1_isPart_55
    · -- no 37
      refine W.eq (g2 := F0 m 40 ls [.int 0]) rfl ?_
      have hP : va_P D vwCl [] H := hP
      have hD : va_D A [] := hD
      refine lv_if_eq (tgt := 54) hx hb dX1_isPart_40 (by decide) (fun c_40 => ?_) (fun c_40 => ?_)
      rotate_left
      · exact absurd c_40 (by decide)
      refine lv_iconst (v := 0) hx hb dX1_isPart_54 (by decide) ?_
      exact rt_z C hQ (by decide) (hP.sub (ws' := []) [] rfl) (hD.sub [] (by decide) rfl) hS ⟨Or.inr ⟨rfl, (by simp only [f_isPart, w_1_0, if_true]; first | (simp [hb_44]; done) | (have := q_ninR (n := n) (by omega) hb_37; simp [this]))⟩, rfl⟩ (by decide) (by decide) dX1_isPart_55
  by_cases w_1_1 : k = 1
  · refine r_top w_1_1 ?_
    refine lv_tableIn (off := 55) (tgt := 56) hx hb dX1_isPart_1 (by decide) (by decide) (by decide +kernel) (by decide) ?_
    refine lv_iconst (v := 1) hx hb dX1_isPart_56 (by decide) ?_
    exact rt_z C hQ (by decide) (hP.sub (ws' := []) [] rfl) (hD.sub [] (by decide) rfl) hS ⟨Or.inl ⟨rfl, (by simp [f_isPart, w_1_0, w_1_1])⟩, rfl⟩ (by decide) (by decide) dX1_isPart_57
  by_cases w_1_2 : k = 2
  · refine r_top w_1_2 ?_
    refine lv_tableIn (off := 57) (tgt := 58) hx hb dX1_isPart_1 (by decide) (by decide) (by decide +kernel) (by decide) ?_
    refine lv_iload_n hx hb dX1_isPart_58 rfl (lv_at hl 1 rfl) ?_
    refine cl_sn C (c_X9_isText l D cI cJ cZ a) cd_X9_isText (by decide +kernel) st_X9_isText in_X9 hd_X9_isText ⟨by decide, by decide⟩ hP hD hS hA (WR := []) [] [] rfl rfl rfl rfl (by decide) hl.1 rfl (Nat.le_of_ble_eq_true rfl) dX1_isPart_59 ⟨by decide, by decide⟩ (fun r W H locs hp hP hD hS => ?_)
    rcases hp with ⟨⟨rfl, hb_59⟩ | ⟨rfl, hb_59⟩, rfl⟩
    · -- yes 59
      refine W.eq (g2 := F0 m 62 ls [.int 1]) rfl ?_
      have hP : va_P D vwCl [] H := hP
      have hD : va_D A [] := hD
      exact rt_z C hQ (by decide) (hP.sub (ws' := []) [] rfl) (hD.sub [] (by decide) rfl) hS ⟨Or.inl ⟨rfl, (by simp [f_isPart, w_1_0, w_1_1, w_1_2, hb_59])⟩, rfl⟩ (by decide) (by decide) dX1_isPart_62
    · -- no 59
      refine W.eq (g2 := F0 m 62 ls [.int 0]) rfl ?_
      have hP : va_P D vwCl [] H := hP
      have hD : va_D A [] := hD
      exact rt_z C hQ (by decide) (hP.sub (ws' := []) [] rfl) (hD.sub [] (by decide) rfl) hS ⟨Or.inr ⟨rfl, (by simp [f_isPart, w_1_0, w_1_1, w_1_2, hb_59])⟩, rfl⟩ (by decide) (by decide) dX1_isPart_62
  by_cases w_1_3 : k = 3
  · refine r_top w_1_3 ?_
    refine lv_tableIn (off := 62) (tgt := 63) hx hb dX1_isPart_1 (by decide) (by decide) (by decide +kernel) (by decide) ?_
    refine lv_iload_n hx hb dX1_isPart_63 rfl (lv_at hl 1 rfl) ?_
    refine lv_iconst (v := 1) hx hb dX1_isPart_64 (by decide) ?_
    refine lv_bipush (v := 9) hx hb dX1_isPart_65 (by decide) ?_
    refine cl_sn C (c_X9_isWithin l D cI cJ cZ a 1 9) cd_X9_isWithin (by decide +kernel) st_X9_isWithin in_X9 hd_X9_isWithin ⟨by decide, by decide⟩ hP hD hS hA (WR := []) [] [] rfl rfl rfl rfl (by decide) hl.1 rfl (Nat.le_of_ble_eq_true rfl) dX1_isPart_67 ⟨by decide, by decide⟩ (fun r W H locs hp hP hD hS => ?_)
    rcases hp with ⟨⟨rfl, hb_67⟩ | ⟨rfl, hb_67⟩, rfl⟩
    · -- yes 67
      refine W.eq (g2 := F0 m 70 ls [.int 1]) rfl ?_
      have hP : va_P D vwCl [] H := hP
      have hD : va_D A [] := hD
      exact rt_z C hQ (by decide) (hP.sub (ws' := []) [] rfl) (hD.sub [] (by decide) rfl) hS ⟨Or.inl ⟨rfl, (by simp only [f_isPart, w_1_0, w_1_1, w_1_2, w_1_3, if_true, if_false]; first | exact rg_iff.mpr hb_67 | exact fun z => hb_67 (rg_iff.mp z))⟩, rfl⟩ (by decide) (by decide) dX1_isPart_70
    · -- no 67
      refine W.eq (g2 := F0 m 70 ls [.int 0]) rfl ?_
      have hP : va_P D vwCl [] H := hP
      have hD : va_D A [] := hD
      exact rt_z C hQ (by decide) (hP.sub (ws' := []) [] rfl) (hD.sub [] (by decide) rfl) hS ⟨Or.inr ⟨rfl, (by simp only [f_isPart, w_1_0, w_1_1, w_1_2, w_1_3, if_true, if_false]; first | exact rg_iff.mpr hb_67 | exact fun z => hb_67 (rg_iff.mp z))⟩, rfl⟩ (by decide) (by decide) dX1_isPart_70
  refine lv_tableOut (tgt := 71) hx hb dX1_isPart_1 (sw_out 3 (by decide) (fun k hk => by match k, hk with | 0, _ => exact w_1_0 | 1, _ => exact w_1_1 | 2, _ => exact w_1_2 | 3, _ => exact w_1_3 | k + 4, hk => exact absurd hk (by omega))) (by decide) ?_
  refine lv_iconst (v := 0) hx hb dX1_isPart_71 (by decide) ?_
  exact rt_z C hQ (by decide) (hP.sub (ws' := []) [] rfl) (hD.sub [] (by decide) rfl) hS ⟨Or.inr ⟨rfl, (by simp [f_isPart, w_1_0, w_1_1, w_1_2, w_1_3])⟩, rfl⟩ (by decide) (by decide) dX1_isPart_72
set_option maxHeartbeats 4000000 in
set_option maxRecDepth 100000 in
theorem c_X1_add (l : Launch) (D : va_G) (cI cJ cZ : ClassId) (ag : Nat) (ng : Nat) (a1 : Nat) (a2 : Nat) (a3 : Nat) (gk : Nat → Int32) (ga : Nat → Int32) (gb : Nat → Int32) (k : Int32) (a : Int32) (b : Int32) (hg : ng ≤ 4) : Ctr l D cI cJ cZ yX1_add cX1_add 4 (some .int) ({ frames := 0, cells := 0, slots := 0, locals := 0 } : Room) [.ref ag, .int k, .int a, .int b] [(ag, .inr (2, [.int (nI ng), .ref a1, .ref a2, .ref a3])), (a1, .inl (cI, 4, .inl gk)), (a2, .inl (cI, 4, .inl ga)), (a3, .inl (cI, 4, .inl gb))] (fun r W => r = some (.int (if ng < 4 then nI (ng + 1) else -1)) ∧ W = [(ag, .inr (2, [.int (nI (if ng < 4 then ng + 1 else ng)), .ref a1, .ref a2, .ref a3])), (a1, .inl (cI, 4, .inl (if ng < 4 then upd gk ng k else gk))), (a2, .inl (cI, 4, .inl (if ng < 4 then upd ga ng a else ga))), (a3, .inl (cI, 4, .inl (if ng < 4 then upd gb ng b else gb)))]) := by
  refine Ctr.start (by decide +kernel) (Nat.le_of_ble_eq_true rfl) ?_
  intro p e s m below meth c A Q ls H C hQ hA hP hD hS hl
  obtain ⟨hx, hb, hr, hml, hts, hown, hlk, hnm, hK, hN⟩ := id C
  have hl : lv_has ls 4 [(0, .ref ag), (1, .int k), (2, .int a), (3, .int b)] := hl
  refine lv_aload_n hx hb dX1_add_0 rfl (lv_at hl 0 rfl) ?_
  refine r_get (v := .int (nI ng)) C hP okX1 0 0 rfl (by decide) fl_X1_32 rfl rfl dX1_add_1 ?_
  refine lv_iconst (v := 4) hx hb dX1_add_4 (by decide) ?_
  refine lv_icmp_lt (tgt := 10) hx hb dX1_add_5 (by decide) (fun c_5 => ?_) (fun c_5 => ?_)
  · -- taken 5
    have c_5 : ng < 4 := (nI_ltI (a := ng) (b := 4) (by omega) (by omega)).mp c_5
    refine lv_aload_n hx hb dX1_add_10 rfl (lv_at hl 0 rfl) ?_
    refine r_get (v := .ref a1) C hP okX1 0 1 rfl (by decide) fl_X1_9 rfl rfl dX1_add_11 ?_
    refine lv_aload_n hx hb dX1_add_14 rfl (lv_at hl 0 rfl) ?_
    refine r_get (v := .int (nI ng)) C hP okX1 0 0 rfl (by decide) fl_X1_32 rfl rfl dX1_add_15 ?_
    refine lv_iload_n hx hb dX1_add_18 rfl (lv_at hl 1 rfl) ?_
    refine r_iast (j := ng) C hP hD hS 1 rfl (by omega) (by decide) dX1_add_19 (fun H locs hP hD hS => ?_)
    have hP : va_P D vwCl [(ag, .inr (2, [.int (nI ng), .ref a1, .ref a2, .ref a3])), (a1, .inl (cI, 4, .inl (upd gk ng k))), (a2, .inl (cI, 4, .inl ga)), (a3, .inl (cI, 4, .inl gb))] H := hP
    have hD : va_D A [(ag, .inr (2, [.int (nI ng), .ref a1, .ref a2, .ref a3])), (a1, .inl (cI, 4, .inl (upd gk ng k))), (a2, .inl (cI, 4, .inl ga)), (a3, .inl (cI, 4, .inl gb))] := hD
    refine lv_aload_n hx hb dX1_add_20 rfl (lv_at hl 0 rfl) ?_
    refine r_get (v := .ref a2) C hP okX1 0 2 rfl (by decide) fl_X1_15 rfl rfl dX1_add_21 ?_
    refine lv_aload_n hx hb dX1_add_24 rfl (lv_at hl 0 rfl) ?_
    refine r_get (v := .int (nI ng)) C hP okX1 0 0 rfl (by decide) fl_X1_32 rfl rfl dX1_add_25 ?_
    refine lv_iload_n hx hb dX1_add_28 rfl (lv_at hl 2 rfl) ?_
    refine r_iast (j := ng) C hP hD hS 2 rfl (by omega) (by decide) dX1_add_29 (fun H locs hP hD hS => ?_)
    have hP : va_P D vwCl [(ag, .inr (2, [.int (nI ng), .ref a1, .ref a2, .ref a3])), (a1, .inl (cI, 4, .inl (upd gk ng k))), (a2, .inl (cI, 4, .inl (upd ga ng a))), (a3, .inl (cI, 4, .inl gb))] H := hP
    have hD : va_D A [(ag, .inr (2, [.int (nI ng), .ref a1, .ref a2, .ref a3])), (a1, .inl (cI, 4, .inl (upd gk ng k))), (a2, .inl (cI, 4, .inl (upd ga ng a))), (a3, .inl (cI, 4, .inl gb))] := hD
    refine lv_aload_n hx hb dX1_add_30 rfl (lv_at hl 0 rfl) ?_
    refine r_get (v := .ref a3) C hP okX1 0 3 rfl (by decide) fl_X1_18 rfl rfl dX1_add_31 ?_
    refine lv_aload_n hx hb dX1_add_34 rfl (lv_at hl 0 rfl) ?_
    refine r_get (v := .int (nI ng)) C hP okX1 0 0 rfl (by decide) fl_X1_32 rfl rfl dX1_add_35 ?_
    refine lv_iload_n hx hb dX1_add_38 rfl (lv_at hl 3 rfl) ?_
    refine r_iast (j := ng) C hP hD hS 3 rfl (by omega) (by decide) dX1_add_39 (fun H locs hP hD hS => ?_)
    have hP : va_P D vwCl [(ag, .inr (2, [.int (nI ng), .ref a1, .ref a2, .ref a3])), (a1, .inl (cI, 4, .inl (upd gk ng k))), (a2, .inl (cI, 4, .inl (upd ga ng a))), (a3, .inl (cI, 4, .inl (upd gb ng b)))] H := hP
    have hD : va_D A [(ag, .inr (2, [.int (nI ng), .ref a1, .ref a2, .ref a3])), (a1, .inl (cI, 4, .inl (upd gk ng k))), (a2, .inl (cI, 4, .inl (upd ga ng a))), (a3, .inl (cI, 4, .inl (upd gb ng b)))] := hD
    refine lv_aload_n hx hb dX1_add_40 rfl (lv_at hl 0 rfl) ?_
    refine lv_dup hx hb dX1_add_41 rfl ?_
    refine r_get (v := .int (nI ng)) C hP okX1 0 0 rfl (by decide) fl_X1_32 rfl rfl dX1_add_42 ?_
    refine lv_iconst (v := 1) hx hb dX1_add_45 (by decide) ?_
    refine lv_iadd hx hb dX1_add_46 ?_
    refine r_top (x' := nI (ng + 1)) (nI_add ng 1) ?_
    refine lv_dup_x1 hx hb dX1_add_47 rfl rfl ?_
    refine r_put (v := .int (nI (ng + 1))) C hP hD hS okX1 0 0 rfl (by decide) fl_X1_32 rfl rfl rfl rfl (Nat.le_of_ble_eq_true rfl) dX1_add_48 (fun H locs hP hD hS => ?_)
    have hP : va_P D vwCl [(ag, .inr (2, [.int (nI (ng + 1)), .ref a1, .ref a2, .ref a3])), (a1, .inl (cI, 4, .inl (upd gk ng k))), (a2, .inl (cI, 4, .inl (upd ga ng a))), (a3, .inl (cI, 4, .inl (upd gb ng b)))] H := hP
    have hD : va_D A [(ag, .inr (2, [.int (nI (ng + 1)), .ref a1, .ref a2, .ref a3])), (a1, .inl (cI, 4, .inl (upd gk ng k))), (a2, .inl (cI, 4, .inl (upd ga ng a))), (a3, .inl (cI, 4, .inl (upd gb ng b)))] := hD
    exact rt_i C hQ (hP.sub (ws' := [(ag, .inr (2, [.int (nI (ng + 1)), .ref a1, .ref a2, .ref a3])), (a1, .inl (cI, 4, .inl (upd gk ng k))), (a2, .inl (cI, 4, .inl (upd ga ng a))), (a3, .inl (cI, 4, .inl (upd gb ng b)))]) [0, 1, 2, 3] rfl) (hD.sub [0, 1, 2, 3] (by decide) rfl) hS ⟨by simp only [c_5, if_true, if_false, if_pos, if_neg, not_false_eq_true], by simp only [c_5, if_true, if_false, if_pos, if_neg, not_false_eq_true]⟩ (by decide) (by decide) dX1_add_51
  · -- not taken 5
    have c_5 : ¬ (ng < 4) := fun z => c_5 ((nI_ltI (a := ng) (b := 4) (by omega) (by omega)).mpr z)
    refine lv_iconst (v := (-1)) hx hb dX1_add_8 (by decide) ?_
    exact rt_i C hQ (hP.sub (ws' := [(ag, .inr (2, [.int (nI ng), .ref a1, .ref a2, .ref a3])), (a1, .inl (cI, 4, .inl gk)), (a2, .inl (cI, 4, .inl ga)), (a3, .inl (cI, 4, .inl gb))]) [0, 1, 2, 3] rfl) (hD.sub [0, 1, 2, 3] (by decide) rfl) hS ⟨by simp only [c_5, if_true, if_false, if_pos, if_neg, not_false_eq_true], by simp only [c_5, if_true, if_false, if_pos, if_neg, not_false_eq_true]⟩ (by decide) (by decide) dX1_add_9
