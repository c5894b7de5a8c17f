/-! PlaySearch (written by s13.py) -/
set_option maxHeartbeats 4000000 in
set_option maxRecDepth 100000 in
theorem c_X9_of (l : Launch) (D : va_G) (cI cJ cZ : ClassId) (ax : Nat) (ay : Nat) (az : Nat) (ae : Nat) (ai : Nat) (ac : Nat) (av : Nat) (ak : Nat) (ag : Nat) (ao : Nat) (nm : Nat) (v0 : Nat) (v1 : Nat) (v2 : Nat) (v3 : Nat) (v4 : Nat) (v5 : Nat) (v6 : Nat) (v7 : Nat) (v8 : Nat) (v9 : Nat) (nk : Nat) (nd : Nat) (ad : Nat) (as : Nat) (ar : Nat) (dr : Nat → Nat) (m0 : Int32) (hm : nm ≤ 24) (hd : nd ≤ 6) : Ctr l D cI cJ cZ yX9_of cX9_of 2 (some .int) ({ frames := 2, cells := 0, slots := 0, locals := 43 } : Room) [.ref ax, .int m0] [(ax, .inr (10, [.ref ay, .ref az, .ref ae, .ref ai])), (ay, .inr (9, [.ref ac, .ref av, .ref ak, .ref ag, .ref ao])), (av, .inr (5, [.ref v0, .ref v1, .int (nI nm), .ref v2, .ref v3, .ref v4, .ref v5, .ref v6, .ref v7, .ref v8, .ref v9])), (ak, .inr (3, [.int (nI nk), .int (nI nd), .ref ad, .ref as, .ref ar])), (ad, .inl (cI, 6, .inl (nF dr)))] (fun r W => r = some (.int (if inR m0 nm = true ∧ nd < 6 then nI (nd + 1) else -1)) ∧ W = [(ax, .inr (10, [.ref ay, .ref az, .ref ae, .ref ai])), (ay, .inr (9, [.ref ac, .ref av, .ref ak, .ref ag, .ref ao])), (av, .inr (5, [.ref v0, .ref v1, .int (nI nm), .ref v2, .ref v3, .ref v4, .ref v5, .ref v6, .ref v7, .ref v8, .ref v9])), (ak, .inr (3, [.int (nI nk), .int (nI (if inR m0 nm = true ∧ nd < 6 then nd + 1 else nd)), .ref ad, .ref as, .ref ar])), (ad, .inl (cI, 6, .inl (nF (if inR m0 nm = true ∧ nd < 6 then updN dr nd m0.toNatClampNeg else dr))))]) := by
  refine Ctr.start (by decide +kernel) (Nat.le_of_ble_eq_true rfl) ?_
  intro p e s m below meth c A Q ls H C hQ hA hP hD hS hl
  obtain ⟨hx, hb, hr, hml, hts, hown, hlk, hnm, hK, hN⟩ := id C
  have hl : lv_has ls 2 [(0, .ref ax), (1, .int m0)] := hl
  refine lv_aload_n hx hb dX9_of_0 rfl (lv_at hl 0 rfl) ?_
  refine r_get (v := .ref ay) C hP okX9 0 0 rfl (by decide) fl_X9_10 rfl rfl dX9_of_1 ?_
  refine r_get (v := .ref av) C hP okX8 1 1 rfl (by decide) fl_X9_70 rfl rfl dX9_of_4 ?_
  refine lv_iload_n hx hb dX9_of_7 rfl (lv_at hl 1 rfl) ?_
  refine cl_v C (c_X4_has l D cI cJ cZ av nm v0 v1 v2 v3 v4 v5 v6 v7 v8 v9 m0 (by omega)) cd_X4_has ml_X9_80 im_X4_has se_X4_has in_X4 hd_X4_has ⟨by decide, by decide⟩ hP hD hS hA (WR := [(ax, .inr (10, [.ref ay, .ref az, .ref ae, .ref ai])), (ay, .inr (9, [.ref ac, .ref av, .ref ak, .ref ag, .ref ao])), (ak, .inr (3, [.int (nI nk), .int (nI nd), .ref ad, .ref as, .ref ar])), (ad, .inl (cI, 6, .inl (nF dr)))]) [2] [0, 1, 3, 4] rfl rfl rfl rfl (by decide) (ci := 5) (q0 := 2) rfl rfl hl.1 rfl (Nat.le_of_ble_eq_true rfl) dX9_of_8 ⟨by decide, by decide⟩ (fun r W H locs hp hP hD hS => ?_)
  rcases hp with ⟨⟨rfl, hb_8⟩ | ⟨rfl, hb_8⟩, rfl⟩
  · -- yes 8
    refine W.eq (g2 := F0 m 11 ls [.int 1]) rfl ?_
    have hP : va_P D vwCl [(ax, .inr (10, [.ref ay, .ref az, .ref ae, .ref ai])), (ay, .inr (9, [.ref ac, .ref av, .ref ak, .ref ag, .ref ao])), (ak, .inr (3, [.int (nI nk), .int (nI nd), .ref ad, .ref as, .ref ar])), (ad, .inl (cI, 6, .inl (nF dr))), (av, .inr (5, [.ref v0, .ref v1, .int (nI nm), .ref v2, .ref v3, .ref v4, .ref v5, .ref v6, .ref v7, .ref v8, .ref v9]))] H := hP
    have hD : va_D A [(ax, .inr (10, [.ref ay, .ref az, .ref ae, .ref ai])), (ay, .inr (9, [.ref ac, .ref av, .ref ak, .ref ag, .ref ao])), (ak, .inr (3, [.int (nI nk), .int (nI nd), .ref ad, .ref as, .ref ar])), (ad, .inl (cI, 6, .inl (nF dr))), (av, .inr (5, [.ref v0, .ref v1, .int (nI nm), .ref v2, .ref v3, .ref v4, .ref v5, .ref v6, .ref v7, .ref v8, .ref v9]))] := hD
    obtain ⟨j, hj, rfl⟩ := (inR_iff (by omega)).mp hb_8
    refine lv_if_ne (tgt := 16) hx hb dX9_of_11 (by decide) (fun c_11 => ?_) (fun c_11 => ?_)
    rotate_left
    · exact absurd c_11 (by decide)
    refine lv_aload_n hx hb dX9_of_16 rfl (lv_at hl 0 rfl) ?_
    refine r_get (v := .ref ay) C hP okX9 0 0 rfl (by decide) fl_X9_10 rfl rfl dX9_of_17 ?_
    refine r_get (v := .ref ak) C hP okX8 1 2 rfl (by decide) fl_X9_103 rfl rfl dX9_of_20 ?_
    refine lv_iload_n hx hb dX9_of_23 rfl (lv_at hl 1 rfl) ?_
    refine cl_v C (c_X2_addToDraft l D cI cJ cZ ak nk nd ad as ar (nF dr) (nI j) (by omega)) cd_X2_addToDraft ml_X9_107 im_X2_addToDraft se_X2_addToDraft in_X2 hd_X2_addToDraft ⟨by decide, by decide⟩ hP hD hS hA (WR := [(ax, .inr (10, [.ref ay, .ref az, .ref ae, .ref ai])), (ay, .inr (9, [.ref ac, .ref av, .ref ak, .ref ag, .ref ao])), (av, .inr (5, [.ref v0, .ref v1, .int (nI nm), .ref v2, .ref v3, .ref v4, .ref v5, .ref v6, .ref v7, .ref v8, .ref v9]))]) [2, 3] [0, 1, 4] rfl rfl rfl rfl (by decide) (ci := 3) (q0 := 2) rfl rfl hl.1 rfl (Nat.le_of_ble_eq_true rfl) dX9_of_24 ⟨by decide, by decide⟩ (fun r W H locs hp hP hD hS => ?_)
    obtain ⟨rfl, rfl⟩ := hp
    refine W.eq (g2 := F0 m 27 ls [.int (if nd < 6 then nI (nd + 1) else -1)]) rfl ?_
    have hP : va_P D vwCl [(ax, .inr (10, [.ref ay, .ref az, .ref ae, .ref ai])), (ay, .inr (9, [.ref ac, .ref av, .ref ak, .ref ag, .ref ao])), (av, .inr (5, [.ref v0, .ref v1, .int (nI nm), .ref v2, .ref v3, .ref v4, .ref v5, .ref v6, .ref v7, .ref v8, .ref v9])), (ak, .inr (3, [.int (nI nk), .int (nI (if nd < 6 then nd + 1 else nd)), .ref ad, .ref as, .ref ar])), (ad, .inl (cI, 6, .inl (if nd < 6 then upd (nF dr) nd (nI j) else (nF dr))))] H := hP
    have hD : va_D A [(ax, .inr (10, [.ref ay, .ref az, .ref ae, .ref ai])), (ay, .inr (9, [.ref ac, .ref av, .ref ak, .ref ag, .ref ao])), (av, .inr (5, [.ref v0, .ref v1, .int (nI nm), .ref v2, .ref v3, .ref v4, .ref v5, .ref v6, .ref v7, .ref v8, .ref v9])), (ak, .inr (3, [.int (nI nk), .int (nI (if nd < 6 then nd + 1 else nd)), .ref ad, .ref as, .ref ar])), (ad, .inl (cI, 6, .inl (if nd < 6 then upd (nF dr) nd (nI j) else (nF dr))))] := hD
    exact rt_i C hQ (hP.sub (ws' := [(ax, .inr (10, [.ref ay, .ref az, .ref ae, .ref ai])), (ay, .inr (9, [.ref ac, .ref av, .ref ak, .ref ag, .ref ao])), (av, .inr (5, [.ref v0, .ref v1, .int (nI nm), .ref v2, .ref v3, .ref v4, .ref v5, .ref v6, .ref v7, .ref v8, .ref v9])), (ak, .inr (3, [.int (nI nk), .int (nI (if nd < 6 then nd + 1 else nd)), .ref ad, .ref as, .ref ar])), (ad, .inl (cI, 6, .inl (if nd < 6 then upd (nF dr) nd (nI j) else (nF dr))))]) [0, 1, 2, 3, 4] rfl) (hD.sub [0, 1, 2, 3, 4] (by decide) rfl) hS (by by_cases h6 : nd < 6; (have hP_ : inR (nI j) nm = true ∧ nd < 6 := ⟨hb_8, h6⟩; exact ⟨by rw [if_pos hP_, if_pos h6], by simp only [if_pos hP_, if_pos h6, nF_upd, nI_clamp (show j < 2 ^ 31 by omega)]⟩); (have hP_ : ¬ (inR (nI j) nm = true ∧ nd < 6) := fun z => h6 z.2; exact ⟨by rw [if_neg hP_, if_neg h6], by simp only [if_neg hP_, if_neg h6]⟩)) (by decide) (by decide) dX9_of_27
  · -- no 8
    refine W.eq (g2 := F0 m 11 ls [.int 0]) rfl ?_
    have hP : va_P D vwCl [(ax, .inr (10, [.ref ay, .ref az, .ref ae, .ref ai])), (ay, .inr (9, [.ref ac, .ref av, .ref ak, .ref ag, .ref ao])), (ak, .inr (3, [.int (nI nk), .int (nI nd), .ref ad, .ref as, .ref ar])), (ad, .inl (cI, 6, .inl (nF dr))), (av, .inr (5, [.ref v0, .ref v1, .int (nI nm), .ref v2, .ref v3, .ref v4, .ref v5, .ref v6, .ref v7, .ref v8, .ref v9]))] H := hP
    have hD : va_D A [(ax, .inr (10, [.ref ay, .ref az, .ref ae, .ref ai])), (ay, .inr (9, [.ref ac, .ref av, .ref ak, .ref ag, .ref ao])), (ak, .inr (3, [.int (nI nk), .int (nI nd), .ref ad, .ref as, .ref ar])), (ad, .inl (cI, 6, .inl (nF dr))), (av, .inr (5, [.ref v0, .ref v1, .int (nI nm), .ref v2, .ref v3, .ref v4, .ref v5, .ref v6, .ref v7, .ref v8, .ref v9]))] := hD
    refine lv_if_ne (tgt := 16) hx hb dX9_of_11 (by decide) (fun c_11 => ?_) (fun c_11 => ?_)
    · exact absurd c_11 (by decide)
    refine lv_iconst (v := (-1)) hx hb dX9_of_14 (by decide) ?_
    exact rt_i C hQ (hP.sub (ws' := [(ax, .inr (10, [.ref ay, .ref az, .ref ae, .ref ai])), (ay, .inr (9, [.ref ac, .ref av, .ref ak, .ref ag, .ref ao])), (av, .inr (5, [.ref v0, .ref v1, .int (nI nm), .ref v2, .ref v3, .ref v4, .ref v5, .ref v6, .ref v7, .ref v8, .ref v9])), (ak, .inr (3, [.int (nI nk), .int (nI nd), .ref ad, .ref as, .ref ar])), (ad, .inl (cI, 6, .inl (nF dr)))]) [0, 1, 4, 2, 3] rfl) (hD.sub [0, 1, 4, 2, 3] (by decide) rfl) hS (by have hP_ : ¬ (inR m0 nm = true ∧ nd < 6) := (fun z => hb_8 z.1); exact ⟨by rw [if_neg hP_], by simp only [if_neg hP_]⟩) (by decide) (by decide) dX9_of_15
set_option maxHeartbeats 4000000 in
set_option maxRecDepth 100000 in
theorem c_X9_macro (l : Launch) (D : va_G) (cI cJ cZ : ClassId) (ax : Nat) (ay : Nat) (az : Nat) (ae : Nat) (ai : Nat) (ac : Nat) (av : Nat) (ak : Nat) (ag : Nat) (ao : Nat) (nk : Nat) (nd : Nat) (ad : Nat) (as : Nat) (ar : Nat) (dr : Nat → Nat) (sz : Nat → Nat) (ro : Nat → Nat) (hd : nd ≤ 6) (hk : nk ≤ 8) : Ctr l D cI cJ cZ yX9_macro cX9_macro 1 (some .int) ({ frames := 2, cells := 0, slots := 0, locals := 100 } : Room) [.ref ax] [(ax, .inr (10, [.ref ay, .ref az, .ref ae, .ref ai])), (ay, .inr (9, [.ref ac, .ref av, .ref ak, .ref ag, .ref ao])), (ak, .inr (3, [.int (nI nk), .int (nI nd), .ref ad, .ref as, .ref ar])), (ad, .inl (cI, 6, .inl (nF dr))), (as, .inl (cI, 8, .inl (nF sz))), (ar, .inl (cI, 48, .inl (nF ro)))] (fun r W => r = some (.int (if 2 ≤ nd ∧ nk < 8 then nI nk else -1)) ∧ W = [(ax, .inr (10, [.ref ay, .ref az, .ref ae, .ref ai])), (ay, .inr (9, [.ref ac, .ref av, .ref ak, .ref ag, .ref ao])), (ak, .inr (3, [.int (nI (if 2 ≤ nd ∧ nk < 8 then nk + 1 else nk)), .int (nI (if 2 ≤ nd ∧ nk < 8 then 0 else nd)), .ref ad, .ref as, .ref ar])), (ad, .inl (cI, 6, .inl (nF dr))), (as, .inl (cI, 8, .inl (nF (if 2 ≤ nd ∧ nk < 8 then updN sz nk nd else sz)))), (ar, .inl (cI, 48, .inl (nF (if 2 ≤ nd ∧ nk < 8 then cpyN dr ro (nk * 6) nd else ro))))]) := by
  refine Ctr.start (by decide +kernel) (Nat.le_of_ble_eq_true rfl) ?_
  intro p e s m below meth c A Q ls H C hQ hA hP hD hS hl
  obtain ⟨hx, hb, hr, hml, hts, hown, hlk, hnm, hK, hN⟩ := id C
  have hl : lv_has ls 1 [(0, .ref ax)] := hl
  refine lv_aload_n hx hb dX9_macro_0 rfl (lv_at hl 0 rfl) ?_
  refine r_get (v := .ref ay) C hP okX9 0 0 rfl (by decide) fl_X9_10 rfl rfl dX9_macro_1 ?_
  refine r_get (v := .ref ak) C hP okX8 1 2 rfl (by decide) fl_X9_103 rfl rfl dX9_macro_4 ?_
  refine cl_v C (c_X2_addDraft l D cI cJ cZ ak nk nd ad as ar (nF dr) (nF sz) (nF ro) (by omega) (by omega)) cd_X2_addDraft ml_X9_113 im_X2_addDraft se_X2_addDraft in_X2 hd_X2_addDraft ⟨by decide, by decide⟩ hP hD hS hA (WR := [(ax, .inr (10, [.ref ay, .ref az, .ref ae, .ref ai])), (ay, .inr (9, [.ref ac, .ref av, .ref ak, .ref ag, .ref ao]))]) [2, 3, 4, 5] [0, 1] rfl rfl rfl rfl (by decide) (ci := 3) (q0 := 2) rfl rfl hl.1 rfl (Nat.le_of_ble_eq_true rfl) dX9_macro_7 ⟨by decide, by decide⟩ (fun r W H locs hp hP hD hS => ?_)
  obtain ⟨rfl, rfl⟩ := hp
  refine W.eq (g2 := F0 m 10 ls [.int (if 2 ≤ nd ∧ nk < 8 then nI nk else -1)]) rfl ?_
  have hP : va_P D vwCl [(ax, .inr (10, [.ref ay, .ref az, .ref ae, .ref ai])), (ay, .inr (9, [.ref ac, .ref av, .ref ak, .ref ag, .ref ao])), (ak, .inr (3, [.int (nI (if 2 ≤ nd ∧ nk < 8 then nk + 1 else nk)), .int (nI (if 2 ≤ nd ∧ nk < 8 then 0 else nd)), .ref ad, .ref as, .ref ar])), (ad, .inl (cI, 6, .inl (nF dr))), (as, .inl (cI, 8, .inl (if 2 ≤ nd ∧ nk < 8 then upd (nF sz) nk (nI nd) else (nF sz)))), (ar, .inl (cI, 48, .inl (if 2 ≤ nd ∧ nk < 8 then va_cpy (nF dr) (nF ro) 0 (nk * 6) nd else (nF ro))))] H := hP
  have hD : va_D A [(ax, .inr (10, [.ref ay, .ref az, .ref ae, .ref ai])), (ay, .inr (9, [.ref ac, .ref av, .ref ak, .ref ag, .ref ao])), (ak, .inr (3, [.int (nI (if 2 ≤ nd ∧ nk < 8 then nk + 1 else nk)), .int (nI (if 2 ≤ nd ∧ nk < 8 then 0 else nd)), .ref ad, .ref as, .ref ar])), (ad, .inl (cI, 6, .inl (nF dr))), (as, .inl (cI, 8, .inl (if 2 ≤ nd ∧ nk < 8 then upd (nF sz) nk (nI nd) else (nF sz)))), (ar, .inl (cI, 48, .inl (if 2 ≤ nd ∧ nk < 8 then va_cpy (nF dr) (nF ro) 0 (nk * 6) nd else (nF ro))))] := hD
  exact rt_i C hQ (hP.sub (ws' := [(ax, .inr (10, [.ref ay, .ref az, .ref ae, .ref ai])), (ay, .inr (9, [.ref ac, .ref av, .ref ak, .ref ag, .ref ao])), (ak, .inr (3, [.int (nI (if 2 ≤ nd ∧ nk < 8 then nk + 1 else nk)), .int (nI (if 2 ≤ nd ∧ nk < 8 then 0 else nd)), .ref ad, .ref as, .ref ar])), (ad, .inl (cI, 6, .inl (nF dr))), (as, .inl (cI, 8, .inl (if 2 ≤ nd ∧ nk < 8 then upd (nF sz) nk (nI nd) else (nF sz)))), (ar, .inl (cI, 48, .inl (if 2 ≤ nd ∧ nk < 8 then va_cpy (nF dr) (nF ro) 0 (nk * 6) nd else (nF ro))))]) [0, 1, 2, 3, 4, 5] rfl) (hD.sub [0, 1, 2, 3, 4, 5] (by decide) rfl) hS ⟨rfl, by simp only [nF_upd, nF_cpy, nF_if]⟩ (by decide) (by decide) dX9_macro_10
set_option maxHeartbeats 4000000 in
set_option maxRecDepth 100000 in
theorem c_X9_goal (l : Launch) (D : va_G) (cI cJ cZ : ClassId) (ax : Nat) (ay : Nat) (az : Nat) (ae : Nat) (ai : Nat) (ac : Nat) (av : Nat) (ak : Nat) (ag : Nat) (ao : Nat) (aw : Nat) (n : Nat) (fw : Int64) (nc : Int64) (hc : Int32) (ng : Nat) (a1 : Nat) (a2 : Nat) (a3 : Nat) (gk : Nat → Int32) (ga : Nat → Int32) (gb : Nat → Int32) (k0 : Int32) (a0_ : Int32) (b0_ : Int32) (hn : n ≤ 10) (hg : ng ≤ 4) : Ctr l D cI cJ cZ yX9_goal cX9_goal 4 (some .int) ({ frames := 3, cells := 0, slots := 0, locals := 65 } : Room) [.ref ax, .int k0, .int a0_, .int b0_] [(ax, .inr (10, [.ref ay, .ref az, .ref ae, .ref ai])), (ay, .inr (9, [.ref ac, .ref av, .ref ak, .ref ag, .ref ao])), (ac, .inr (1, [.ref aw, .int (nI n), .long fw, .long nc, .int hc])), (ag, .inr (2, [.int (nI ng), .ref a1, .ref a2, .ref a3])), (a1, .inl (cI, 4, .inl gk)), (a2, .inl (cI, 4, .inl ga)), (a3, .inl (cI, 4, .inl gb))] (fun r W => r = some (.int (if f_isPart n k0 a0_ b0_ = true ∧ ng < 4 then nI (ng + 1) else -1)) ∧ W = [(ax, .inr (10, [.ref ay, .ref az, .ref ae, .ref ai])), (ay, .inr (9, [.ref ac, .ref av, .ref ak, .ref ag, .ref ao])), (ac, .inr (1, [.ref aw, .int (nI n), .long fw, .long nc, .int hc])), (ag, .inr (2, [.int (nI (if f_isPart n k0 a0_ b0_ = true ∧ ng < 4 then ng + 1 else ng)), .ref a1, .ref a2, .ref a3])), (a1, .inl (cI, 4, .inl (if f_isPart n k0 a0_ b0_ = true ∧ ng < 4 then upd gk ng k0 else gk))), (a2, .inl (cI, 4, .inl (if f_isPart n k0 a0_ b0_ = true ∧ ng < 4 then upd ga ng a0_ else ga))), (a3, .inl (cI, 4, .inl (if f_isPart n k0 a0_ b0_ = true ∧ ng < 4 then upd gb ng b0_ else gb)))]) := by
  refine Ctr.start (by decide +kernel) (Nat.le_of_ble_eq_true rfl) ?_
  intro p e s m below meth c A Q ls H C hQ hA hP hD hS hl
  obtain ⟨hx, hb, hr, hml, hts, hown, hlk, hnm, hK, hN⟩ := id C
  have hl : lv_has ls 4 [(0, .ref ax), (1, .int k0), (2, .int a0_), (3, .int b0_)] := hl
  refine lv_iload_n hx hb dX9_goal_0 rfl (lv_at hl 1 rfl) ?_
  refine lv_iload_n hx hb dX9_goal_1 rfl (lv_at hl 2 rfl) ?_
  refine lv_iload_n hx hb dX9_goal_2 rfl (lv_at hl 3 rfl) ?_
  refine lv_aload_n hx hb dX9_goal_3 rfl (lv_at hl 0 rfl) ?_
  refine r_get (v := .ref ay) C hP okX9 0 0 rfl (by decide) fl_X9_10 rfl rfl dX9_goal_4 ?_
  refine r_get (v := .ref ac) C hP okX8 1 0 rfl (by decide) fl_X9_33 rfl rfl dX9_goal_7 ?_
  refine r_get (v := .int (nI n)) C hP okX0 2 1 rfl (by decide) fl_X9_37 rfl rfl dX9_goal_10 ?_
  refine cl_s C (c_X1_isPart l D cI cJ cZ k0 a0_ b0_ n (by omega)) cd_X1_isPart ml_X9_116 st_X1_isPart in_X1 hd_X1_isPart ⟨by decide, by decide⟩ hP hD hS hA (WR := [(ax, .inr (10, [.ref ay, .ref az, .ref ae, .ref ai])), (ay, .inr (9, [.ref ac, .ref av, .ref ak, .ref ag, .ref ao])), (ac, .inr (1, [.ref aw, .int (nI n), .long fw, .long nc, .int hc])), (ag, .inr (2, [.int (nI ng), .ref a1, .ref a2, .ref a3])), (a1, .inl (cI, 4, .inl gk)), (a2, .inl (cI, 4, .inl ga)), (a3, .inl (cI, 4, .inl gb))]) [] [0, 1, 2, 3, 4, 5, 6] rfl rfl rfl rfl (by decide) hl.1 rfl (Nat.le_of_ble_eq_true rfl) dX9_goal_13 ⟨by decide, by decide⟩ (fun r W H locs hp hP hD hS => ?_)
  rcases hp with ⟨⟨rfl, hb_13⟩ | ⟨rfl, hb_13⟩, rfl⟩
  · -- yes 13
    refine W.eq (g2 := F0 m 16 ls [.int 1]) rfl ?_
    have hP : va_P D vwCl [(ax, .inr (10, [.ref ay, .ref az, .ref ae, .ref ai])), (ay, .inr (9, [.ref ac, .ref av, .ref ak, .ref ag, .ref ao])), (ac, .inr (1, [.ref aw, .int (nI n), .long fw, .long nc, .int hc])), (ag, .inr (2, [.int (nI ng), .ref a1, .ref a2, .ref a3])), (a1, .inl (cI, 4, .inl gk)), (a2, .inl (cI, 4, .inl ga)), (a3, .inl (cI, 4, .inl gb))] H := hP
    have hD : va_D A [(ax, .inr (10, [.ref ay, .ref az, .ref ae, .ref ai])), (ay, .inr (9, [.ref ac, .ref av, .ref ak, .ref ag, .ref ao])), (ac, .inr (1, [.ref aw, .int (nI n), .long fw, .long nc, .int hc])), (ag, .inr (2, [.int (nI ng), .ref a1, .ref a2, .ref a3])), (a1, .inl (cI, 4, .inl gk)), (a2, .inl (cI, 4, .inl ga)), (a3, .inl (cI, 4, .inl gb))] := hD
    refine lv_if_ne (tgt := 21) hx hb dX9_goal_16 (by decide) (fun c_16 => ?_) (fun c_16 => ?_)
    rotate_left
    · exact absurd c_16 (by decide)
    refine lv_aload_n hx hb dX9_goal_21 rfl (lv_at hl 0 rfl) ?_
    refine r_get (v := .ref ay) C hP okX9 0 0 rfl (by decide) fl_X9_10 rfl rfl dX9_goal_22 ?_
    refine r_get (v := .ref ag) C hP okX8 1 3 rfl (by decide) fl_X9_121 rfl rfl dX9_goal_25 ?_
    refine lv_iload_n hx hb dX9_goal_28 rfl (lv_at hl 1 rfl) ?_
    refine lv_iload_n hx hb dX9_goal_29 rfl (lv_at hl 2 rfl) ?_
    refine lv_iload_n hx hb dX9_goal_30 rfl (lv_at hl 3 rfl) ?_
    refine cl_v C (c_X1_add l D cI cJ cZ ag ng a1 a2 a3 gk ga gb k0 a0_ b0_ (by omega)) cd_X1_add ml_X9_125 im_X1_add se_X1_add in_X1 hd_X1_add ⟨by decide, by decide⟩ hP hD hS hA (WR := [(ax, .inr (10, [.ref ay, .ref az, .ref ae, .ref ai])), (ay, .inr (9, [.ref ac, .ref av, .ref ak, .ref ag, .ref ao])), (ac, .inr (1, [.ref aw, .int (nI n), .long fw, .long nc, .int hc]))]) [3, 4, 5, 6] [0, 1, 2] rfl rfl rfl rfl (by decide) (ci := 2) (q0 := 3) rfl rfl hl.1 rfl (Nat.le_of_ble_eq_true rfl) dX9_goal_31 ⟨by decide, by decide⟩ (fun r W H locs hp hP hD hS => ?_)
    obtain ⟨rfl, rfl⟩ := hp
    refine W.eq (g2 := F0 m 34 ls [.int (if ng < 4 then nI (ng + 1) else -1)]) rfl ?_
    have hP : va_P D vwCl [(ax, .inr (10, [.ref ay, .ref az, .ref ae, .ref ai])), (ay, .inr (9, [.ref ac, .ref av, .ref ak, .ref ag, .ref ao])), (ac, .inr (1, [.ref aw, .int (nI n), .long fw, .long nc, .int hc])), (ag, .inr (2, [.int (nI (if ng < 4 then ng + 1 else ng)), .ref a1, .ref a2, .ref a3])), (a1, .inl (cI, 4, .inl (if ng < 4 then upd gk ng k0 else gk))), (a2, .inl (cI, 4, .inl (if ng < 4 then upd ga ng a0_ else ga))), (a3, .inl (cI, 4, .inl (if ng < 4 then upd gb ng b0_ else gb)))] H := hP
    have hD : va_D A [(ax, .inr (10, [.ref ay, .ref az, .ref ae, .ref ai])), (ay, .inr (9, [.ref ac, .ref av, .ref ak, .ref ag, .ref ao])), (ac, .inr (1, [.ref aw, .int (nI n), .long fw, .long nc, .int hc])), (ag, .inr (2, [.int (nI (if ng < 4 then ng + 1 else ng)), .ref a1, .ref a2, .ref a3])), (a1, .inl (cI, 4, .inl (if ng < 4 then upd gk ng k0 else gk))), (a2, .inl (cI, 4, .inl (if ng < 4 then upd ga ng a0_ else ga))), (a3, .inl (cI, 4, .inl (if ng < 4 then upd gb ng b0_ else gb)))] := hD
    exact rt_i C hQ (hP.sub (ws' := [(ax, .inr (10, [.ref ay, .ref az, .ref ae, .ref ai])), (ay, .inr (9, [.ref ac, .ref av, .ref ak, .ref ag, .ref ao])), (ac, .inr (1, [.ref aw, .int (nI n), .long fw, .long nc, .int hc])), (ag, .inr (2, [.int (nI (if ng < 4 then ng + 1 else ng)), .ref a1, .ref a2, .ref a3])), (a1, .inl (cI, 4, .inl (if ng < 4 then upd gk ng k0 else gk))), (a2, .inl (cI, 4, .inl (if ng < 4 then upd ga ng a0_ else ga))), (a3, .inl (cI, 4, .inl (if ng < 4 then upd gb ng b0_ else gb)))]) [0, 1, 2, 3, 4, 5, 6] rfl) (hD.sub [0, 1, 2, 3, 4, 5, 6] (by decide) rfl) hS (by by_cases h4 : ng < 4; (have hP_ : f_isPart n k0 a0_ b0_ = true ∧ ng < 4 := ⟨hb_13, h4⟩; exact ⟨by rw [if_pos hP_, if_pos h4], by simp only [if_pos hP_, if_pos h4]⟩); (have hP_ : ¬ (f_isPart n k0 a0_ b0_ = true ∧ ng < 4) := fun z => h4 z.2; exact ⟨by rw [if_neg hP_, if_neg h4], by simp only [if_neg hP_, if_neg h4]⟩)) (by decide) (by decide) dX9_goal_34
  · -- no 13
    refine W.eq (g2 := F0 m 16 ls [.int 0]) rfl ?_
    have hP : va_P D vwCl [(ax, .inr (10, [.ref ay, .ref az, .ref ae, .ref ai])), (ay, .inr (9, [.ref ac, .ref av, .ref ak, .ref ag, .ref ao])), (ac, .inr (1, [.ref aw, .int (nI n), .long fw, .long nc, .int hc])), (ag, .inr (2, [.int (nI ng), .ref a1, .ref a2, .ref a3])), (a1, .inl (cI, 4, .inl gk)), (a2, .inl (cI, 4, .inl ga)), (a3, .inl (cI, 4, .inl gb))] H := hP
    have hD : va_D A [(ax, .inr (10, [.ref ay, .ref az, .ref ae, .ref ai])), (ay, .inr (9, [.ref ac, .ref av, .ref ak, .ref ag, .ref ao])), (ac, .inr (1, [.ref aw, .int (nI n), .long fw, .long nc, .int hc])), (ag, .inr (2, [.int (nI ng), .ref a1, .ref a2, .ref a3])), (a1, .inl (cI, 4, .inl gk)), (a2, .inl (cI, 4, .inl ga)), (a3, .inl (cI, 4, .inl gb))] := hD
    refine lv_if_ne (tgt := 21) hx hb dX9_goal_16 (by decide) (fun c_16 => ?_) (fun c_16 => ?_)
    · exact absurd c_16 (by decide)
    refine lv_iconst (v := (-1)) hx hb dX9_goal_19 (by decide) ?_
    exact rt_i C hQ (hP.sub (ws' := [(ax, .inr (10, [.ref ay, .ref az, .ref ae, .ref ai])), (ay, .inr (9, [.ref ac, .ref av, .ref ak, .ref ag, .ref ao])), (ac, .inr (1, [.ref aw, .int (nI n), .long fw, .long nc, .int hc])), (ag, .inr (2, [.int (nI ng), .ref a1, .ref a2, .ref a3])), (a1, .inl (cI, 4, .inl gk)), (a2, .inl (cI, 4, .inl ga)), (a3, .inl (cI, 4, .inl gb))]) [0, 1, 2, 3, 4, 5, 6] rfl) (hD.sub [0, 1, 2, 3, 4, 5, 6] (by decide) rfl) hS (by have hP_ : ¬ (f_isPart n k0 a0_ b0_ = true ∧ ng < 4) := (fun z => hb_13 z.1); exact ⟨by rw [if_neg hP_], by simp only [if_neg hP_]⟩) (by decide) (by decide) dX9_goal_20
set_option maxHeartbeats 4000000 in
set_option maxRecDepth 100000 in
theorem c_X9_clear (l : Launch) (D : va_G) (cI cJ cZ : ClassId) (ax : Nat) (ay : Nat) (az : Nat) (ae : Nat) (ai : Nat) (ac : Nat) (av : Nat) (ak : Nat) (ag : Nat) (ao : Nat) (ng : Nat) (a1 : Nat) (a2 : Nat) (a3 : Nat)  : Ctr l D cI cJ cZ yX9_clear cX9_clear 2 (some .int) ({ frames := 0, cells := 0, slots := 0, locals := 0 } : Room) [.ref ax] [(ax, .inr (10, [.ref ay, .ref az, .ref ae, .ref ai])), (ay, .inr (9, [.ref ac, .ref av, .ref ak, .ref ag, .ref ao])), (ag, .inr (2, [.int (nI ng), .ref a1, .ref a2, .ref a3]))] (fun r W => r = some (.int (nI ng)) ∧ W = [(ax, .inr (10, [.ref ay, .ref az, .ref ae, .ref ai])), (ay, .inr (9, [.ref ac, .ref av, .ref ak, .ref ag, .ref ao])), (ag, .inr (2, [.int (nI 0), .ref a1, .ref a2, .ref a3]))]) := by
  refine Ctr.start (by decide +kernel) (Nat.le_of_ble_eq_true rfl) ?_
  intro p e s m below meth c A Q ls H C hQ hA hP hD hS hl
  obtain ⟨hx, hb, hr, hml, hts, hown, hlk, hnm, hK, hN⟩ := id C
  have hl : lv_has ls 2 [(0, .ref ax)] := hl
  refine lv_aload_n hx hb dX9_clear_0 rfl (lv_at hl 0 rfl) ?_
  refine r_get (v := .ref ay) C hP okX9 0 0 rfl (by decide) fl_X9_10 rfl rfl dX9_clear_1 ?_
  refine r_get (v := .ref ag) C hP okX8 1 3 rfl (by decide) fl_X9_121 rfl rfl dX9_clear_4 ?_
  refine r_get (v := .int (nI ng)) C hP okX1 2 0 rfl (by decide) fl_X9_128 rfl rfl dX9_clear_7 ?_
  refine lv_istore_n (lv' := [(1, .int (nI ng)), (0, .ref ax)]) hx hb dX9_clear_10 rfl hl (by decide) rfl (fun ls hl => ?_)
  refine lv_aload_n hx hb dX9_clear_11 rfl (lv_at hl 1 rfl) ?_
  refine r_get (v := .ref ay) C hP okX9 0 0 rfl (by decide) fl_X9_10 rfl rfl dX9_clear_12 ?_
  refine r_get (v := .ref ag) C hP okX8 1 3 rfl (by decide) fl_X9_121 rfl rfl dX9_clear_15 ?_
  refine lv_iconst (v := 0) hx hb dX9_clear_18 (by decide) ?_
  refine r_put (v := .int 0) C hP hD hS okX1 2 0 rfl (by decide) fl_X9_128 rfl rfl rfl rfl (Nat.le_of_ble_eq_true rfl) dX9_clear_19 (fun H locs hP hD hS => ?_)
  have hP : va_P D vwCl [(ax, .inr (10, [.ref ay, .ref az, .ref ae, .ref ai])), (ay, .inr (9, [.ref ac, .ref av, .ref ak, .ref ag, .ref ao])), (ag, .inr (2, [.int 0, .ref a1, .ref a2, .ref a3]))] H := hP
  have hD : va_D A [(ax, .inr (10, [.ref ay, .ref az, .ref ae, .ref ai])), (ay, .inr (9, [.ref ac, .ref av, .ref ak, .ref ag, .ref ao])), (ag, .inr (2, [.int 0, .ref a1, .ref a2, .ref a3]))] := hD
  refine lv_iload_n hx hb dX9_clear_22 rfl (lv_at hl 0 rfl) ?_
  exact rt_i C hQ (hP.sub (ws' := [(ax, .inr (10, [.ref ay, .ref az, .ref ae, .ref ai])), (ay, .inr (9, [.ref ac, .ref av, .ref ak, .ref ag, .ref ao])), (ag, .inr (2, [.int 0, .ref a1, .ref a2, .ref a3]))]) [0, 1, 2] rfl) (hD.sub [0, 1, 2] (by decide) rfl) hS ⟨rfl, rfl⟩ (by decide) (by decide) dX9_clear_23
set_option maxHeartbeats 4000000 in
set_option maxRecDepth 100000 in
theorem c_X9_length (l : Launch) (D : va_G) (cI cJ cZ : ClassId) (ax : Nat) (ay : Nat) (az : Nat) (ae : Nat) (ai : Nat) (ac : Nat) (av : Nat) (ak : Nat) (ag : Nat) (ao : Nat) (ap : Nat) (aq : Nat) (tc : Nat) (sn : Int32) (kt : Int32) (ish : Int32) (ah : Nat) (an : Nat) (lo : Option Nat) (pm : Nat) (p0 : Nat)  : Ctr l D cI cJ cZ yX9_length cX9_length 1 (some .int) ({ frames := 0, cells := 0, slots := 0, locals := 0 } : Room) [.ref ax] [(ax, .inr (10, [.ref ay, .ref az, .ref ae, .ref ai])), (az, .inr (8, [.ref an, .ref ap, .ref aq, .int (nI tc), .int sn, .int kt, .int ish, .ref ah])), (ap, .inr (7, [.int (oI lo), .ref pm, .int (nI p0)]))] (fun r W => r = some (.int (oI lo)) ∧ W = [(ax, .inr (10, [.ref ay, .ref az, .ref ae, .ref ai])), (az, .inr (8, [.ref an, .ref ap, .ref aq, .int (nI tc), .int sn, .int kt, .int ish, .ref ah])), (ap, .inr (7, [.int (oI lo), .ref pm, .int (nI p0)]))]) := by
  refine Ctr.start (by decide +kernel) (Nat.le_of_ble_eq_true rfl) ?_
  intro p e s m below meth c A Q ls H C hQ hA hP hD hS hl
  obtain ⟨hx, hb, hr, hml, hts, hown, hlk, hnm, hK, hN⟩ := id C
  have hl : lv_has ls 1 [(0, .ref ax)] := hl
  refine lv_aload_n hx hb dX9_length_0 rfl (lv_at hl 0 rfl) ?_
  refine r_get (v := .ref az) C hP okX9 0 1 rfl (by decide) fl_X9_19 rfl rfl dX9_length_1 ?_
  refine r_get (v := .ref ap) C hP okX7 1 1 rfl (by decide) fl_X9_133 rfl rfl dX9_length_4 ?_
  refine r_get (v := .int (oI lo)) C hP okX6 2 0 rfl (by decide) fl_X9_137 rfl rfl dX9_length_7 ?_
  exact rt_i C hQ (hP.sub (ws' := [(ax, .inr (10, [.ref ay, .ref az, .ref ae, .ref ai])), (az, .inr (8, [.ref an, .ref ap, .ref aq, .int (nI tc), .int sn, .int kt, .int ish, .ref ah])), (ap, .inr (7, [.int (oI lo), .ref pm, .int (nI p0)]))]) [0, 1, 2] rfl) (hD.sub [0, 1, 2] (by decide) rfl) hS ⟨rfl, rfl⟩ (by decide) (by decide) dX9_length_10
set_option maxHeartbeats 4000000 in
set_option maxRecDepth 100000 in
theorem c_X9_at (l : Launch) (D : va_G) (cI cJ cZ : ClassId) (ax : Nat) (ay : Nat) (az : Nat) (ae : Nat) (ai : Nat) (ac : Nat) (av : Nat) (ak : Nat) (ag : Nat) (ao : Nat) (ap : Nat) (aq : Nat) (tc : Nat) (sn : Int32) (kt : Int32) (ish : Int32) (ah : Nat) (an : Nat) (lo : Option Nat) (pm : Nat) (p0 : Nat) (pv : Nat → Int32) (i : Int32) (hlo : ∀ L, lo = some L → p0 + L ≤ 9000) : Ctr l D cI cJ cZ yX9_at cX9_at 2 (some .int) ({ frames := 2, cells := 0, slots := 0, locals := 43 } : Room) [.ref ax, .int i] [(ax, .inr (10, [.ref ay, .ref az, .ref ae, .ref ai])), (az, .inr (8, [.ref an, .ref ap, .ref aq, .int (nI tc), .int sn, .int kt, .int ish, .ref ah])), (ap, .inr (7, [.int (oI lo), .ref pm, .int (nI p0)])), (pm, .inl (cI, 9000, .inl pv))] (fun r W => r = some (.int (f_at lo pv p0 i)) ∧ W = [(ax, .inr (10, [.ref ay, .ref az, .ref ae, .ref ai])), (az, .inr (8, [.ref an, .ref ap, .ref aq, .int (nI tc), .int sn, .int kt, .int ish, .ref ah])), (ap, .inr (7, [.int (oI lo), .ref pm, .int (nI p0)])), (pm, .inl (cI, 9000, .inl pv))]) := by
  refine Ctr.start (by decide +kernel) (Nat.le_of_ble_eq_true rfl) ?_
  intro p e s m below meth c A Q ls H C hQ hA hP hD hS hl
  obtain ⟨hx, hb, hr, hml, hts, hown, hlk, hnm, hK, hN⟩ := id C
  have hl : lv_has ls 2 [(0, .ref ax), (1, .int i)] := hl
  refine lv_aload_n hx hb dX9_at_0 rfl (lv_at hl 0 rfl) ?_
  refine r_get (v := .ref az) C hP okX9 0 1 rfl (by decide) fl_X9_19 rfl rfl dX9_at_1 ?_
  refine r_get (v := .ref ap) C hP okX7 1 1 rfl (by decide) fl_X9_133 rfl rfl dX9_at_4 ?_
  refine lv_iload_n hx hb dX9_at_7 rfl (lv_at hl 1 rfl) ?_
  refine cl_v C (c_X6_moveAt l D cI cJ cZ ap lo pm p0 pv i hlo) cd_X6_moveAt ml_X9_142 im_X6_moveAt se_X6_moveAt in_X6 hd_X6_moveAt ⟨by decide, by decide⟩ hP hD hS hA (WR := [(ax, .inr (10, [.ref ay, .ref az, .ref ae, .ref ai])), (az, .inr (8, [.ref an, .ref ap, .ref aq, .int (nI tc), .int sn, .int kt, .int ish, .ref ah]))]) [2, 3] [0, 1] rfl rfl rfl rfl (by decide) (ci := 7) (q0 := 2) rfl rfl hl.1 rfl (Nat.le_of_ble_eq_true rfl) dX9_at_8 ⟨by decide, by decide⟩ (fun r W H locs hp hP hD hS => ?_)
  obtain ⟨rfl, rfl⟩ := hp
  refine W.eq (g2 := F0 m 11 ls [.int (f_at lo pv p0 i)]) rfl ?_
  have hP : va_P D vwCl [(ax, .inr (10, [.ref ay, .ref az, .ref ae, .ref ai])), (az, .inr (8, [.ref an, .ref ap, .ref aq, .int (nI tc), .int sn, .int kt, .int ish, .ref ah])), (ap, .inr (7, [.int (oI lo), .ref pm, .int (nI p0)])), (pm, .inl (cI, 9000, .inl pv))] H := hP
  have hD : va_D A [(ax, .inr (10, [.ref ay, .ref az, .ref ae, .ref ai])), (az, .inr (8, [.ref an, .ref ap, .ref aq, .int (nI tc), .int sn, .int kt, .int ish, .ref ah])), (ap, .inr (7, [.int (oI lo), .ref pm, .int (nI p0)])), (pm, .inl (cI, 9000, .inl pv))] := hD
  exact rt_i C hQ (hP.sub (ws' := [(ax, .inr (10, [.ref ay, .ref az, .ref ae, .ref ai])), (az, .inr (8, [.ref an, .ref ap, .ref aq, .int (nI tc), .int sn, .int kt, .int ish, .ref ah])), (ap, .inr (7, [.int (oI lo), .ref pm, .int (nI p0)])), (pm, .inl (cI, 9000, .inl pv))]) [0, 1, 2, 3] rfl) (hD.sub [0, 1, 2, 3] (by decide) rfl) hS ⟨rfl, rfl⟩ (by decide) (by decide) dX9_at_11
