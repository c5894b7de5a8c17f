/-! PlaySearch's own methods (written by s13.py) -/
theorem rg_show {t : Int32} : rg t (-1) 31 = true ↔ t = -1 ∨ rg t 0 31 = true := by
  rw [rg_iff, rg_iff]
  simp only [Int32.le_iff_toInt_le]
  have e1 : (-1 : Int32).toInt = -1 := by decide
  have e2 : (31 : Int32).toInt = 31 := by decide
  have e3 : (0 : Int32).toInt = 0 := by decide
  rw [e1, e2, e3]
  constructor
  · rintro ⟨h1, h2⟩
    by_cases h : t.toInt = -1
    · exact Or.inl (Int32.toInt_inj.mp (by rw [h, e1]))
    · exact Or.inr ⟨by omega, h2⟩
  · rintro (rfl | ⟨h1, h2⟩)
    · rw [e1]; omega
    · omega
def cpyN (dr ro : Nat → Nat) (a k : Nat) : Nat → Nat := fun j => if a ≤ j ∧ j < a + k then dr (j - a) else ro j
theorem nF_cpy (dr ro : Nat → Nat) (a k : Nat) : va_cpy (nF dr) (nF ro) 0 a k = nF (cpyN dr ro a k) := by
  funext j
  simp only [va_cpy, nF, cpyN]
  split
  · rw [Nat.zero_add]
  · rfl
theorem nF_if {p : Prop} {_ : Decidable p} {a b : Nat → Nat} : (if p then nF a else nF b) = nF (if p then a else b) := by split <;> rfl
set_option maxHeartbeats 4000000 in
set_option maxRecDepth 100000 in
theorem c_X9_cell (l : Launch) (D : va_G) (cI cJ cZ : ClassId) (ax : Nat) (ay : Nat) (az : Nat) (ae : Nat) (ai : Nat) (ac : Nat) (av : Nat) (ak : Nat) (ag : Nat) (ao : Nat) (aw : Nat) (n : Nat) (fw : Int64) (nc : Int64) (hc : Int32) (pw : Int64) (pe : Int32) (plt : Int32) (psh : Int32) (v : Int32) (b : Int32) (hn : n ≤ 10) : Ctr l D cI cJ cZ yX9_cell cX9_cell 4 (some .int) ({ frames := 2, cells := 0, slots := 0, locals := 47 } : Room) [.ref ax, .int v, .int b] [(ax, .inr (10, [.ref ay, .ref az, .ref ae, .ref ai])), (ay, .inr (9, [.ref ac, .ref av, .ref ak, .ref ag, .ref ao])), (ac, .inr (1, [.ref aw, .int (nI n), .long fw, .long nc, .int hc])), (ae, .inr (4, [.long pw, .int pe, .int plt, .int psh]))] (fun r W => r = some (.int (if n < 10 ∧ rg v 0 9 = true then nI n else -1)) ∧ W = [(ax, .inr (10, [.ref ay, .ref az, .ref ae, .ref ai])), (ay, .inr (9, [.ref ac, .ref av, .ref ak, .ref ag, .ref ao])), (ac, .inr (1, [.ref aw, .int (nI (if n < 10 ∧ rg v 0 9 = true then n + 1 else n)), .long (if n < 10 ∧ rg v 0 9 = true then f_withValue fw (nI n) v else fw), .long (if n < 10 ∧ rg v 0 9 = true then f_nc nc b n else nc), .int (if n < 10 ∧ rg v 0 9 = true then f_hc hc b else hc)])), (ae, .inr (4, [.long (if n < 10 ∧ rg v 0 9 = true then f_withValue pw (nI n) v else pw), .int pe, .int plt, .int psh]))]) := by
  refine Ctr.start (by decide +kernel) (Nat.le_of_ble_eq_true rfl) ?_
  intro p e s m below meth c A Q ls H C hQ hA hP hD hS hl
  obtain ⟨hx, hb, hr, hml, hts, hown, hlk, hnm, hK, hN⟩ := id C
  have hl : lv_has ls 4 [(0, .ref ax), (1, .int v), (2, .int b)] := hl
  refine lv_aload_n hx hb dX9_cell_0 rfl (lv_at hl 0 rfl) ?_
  refine r_get (v := .ref ay) C hP okX9 0 0 rfl (by decide) fl_X9_10 rfl rfl dX9_cell_1 ?_
  refine r_get (v := .ref ac) C hP okX8 1 0 rfl (by decide) fl_X9_33 rfl rfl dX9_cell_4 ?_
  refine r_get (v := .int (nI n)) C hP okX0 2 1 rfl (by decide) fl_X9_37 rfl rfl dX9_cell_7 ?_
  refine lv_bipush (v := 10) hx hb dX9_cell_10 (by decide) ?_
  refine lv_icmp_ge (tgt := 22) hx hb dX9_cell_12 (by decide) (fun c_12 => ?_) (fun c_12 => ?_)
  · -- taken 12
    have c_12 : 10 ≤ n := (nI_leI (a := 10) (b := n) (by omega) (by omega)).mp c_12
    refine lv_iconst (v := (-1)) hx hb dX9_cell_22 (by decide) ?_
    exact rt_i C hQ (hP.sub (ws' := [(ax, .inr (10, [.ref ay, .ref az, .ref ae, .ref ai])), (ay, .inr (9, [.ref ac, .ref av, .ref ak, .ref ag, .ref ao])), (ac, .inr (1, [.ref aw, .int (nI n), .long fw, .long nc, .int hc])), (ae, .inr (4, [.long pw, .int pe, .int plt, .int psh]))]) [0, 1, 2, 3] rfl) (hD.sub [0, 1, 2, 3] (by decide) rfl) hS (by have hP_ : ¬ (n < 10 ∧ rg v 0 9 = true) := (fun z => by first | exact absurd z.1 (by omega) | exact hb_16 z.2); exact ⟨by rw [if_neg hP_], by simp only [if_neg hP_]⟩) (by decide) (by decide) dX9_cell_23
  · -- not taken 12
    have c_12 : ¬ (10 ≤ n) := fun z => c_12 ((nI_leI (a := 10) (b := n) (by omega) (by omega)).mpr z)
    refine lv_iload_n hx hb dX9_cell_15 rfl (lv_at hl 1 rfl) ?_
    refine cl_s C (c_X9_isValue l D cI cJ cZ v) cd_X9_isValue ml_X9_43 st_X9_isValue in_X9 hd_X9_isValue ⟨by decide, by decide⟩ hP hD hS hA (WR := [(ax, .inr (10, [.ref ay, .ref az, .ref ae, .ref ai])), (ay, .inr (9, [.ref ac, .ref av, .ref ak, .ref ag, .ref ao])), (ac, .inr (1, [.ref aw, .int (nI n), .long fw, .long nc, .int hc])), (ae, .inr (4, [.long pw, .int pe, .int plt, .int psh]))]) [] [0, 1, 2, 3] rfl rfl rfl rfl (by decide) hl.1 rfl (Nat.le_of_ble_eq_true rfl) dX9_cell_16 ⟨by decide, by decide⟩ (fun r W H locs hp hP hD hS => ?_)
    rcases hp with ⟨⟨rfl, hb_16⟩ | ⟨rfl, hb_16⟩, rfl⟩
    · -- yes 16
      refine W.eq (g2 := F0 m 19 ls [.int 1]) rfl ?_
      have hP : va_P D vwCl [(ax, .inr (10, [.ref ay, .ref az, .ref ae, .ref ai])), (ay, .inr (9, [.ref ac, .ref av, .ref ak, .ref ag, .ref ao])), (ac, .inr (1, [.ref aw, .int (nI n), .long fw, .long nc, .int hc])), (ae, .inr (4, [.long pw, .int pe, .int plt, .int psh]))] H := hP
      have hD : va_D A [(ax, .inr (10, [.ref ay, .ref az, .ref ae, .ref ai])), (ay, .inr (9, [.ref ac, .ref av, .ref ak, .ref ag, .ref ao])), (ac, .inr (1, [.ref aw, .int (nI n), .long fw, .long nc, .int hc])), (ae, .inr (4, [.long pw, .int pe, .int plt, .int psh]))] := hD
      refine lv_if_ne (tgt := 24) hx hb dX9_cell_19 (by decide) (fun c_19 => ?_) (fun c_19 => ?_)
      rotate_left
      · exact absurd c_19 (by decide)
      refine lv_aload_n hx hb dX9_cell_24 rfl (lv_at hl 0 rfl) ?_
      refine r_get (v := .ref ay) C hP okX9 0 0 rfl (by decide) fl_X9_10 rfl rfl dX9_cell_25 ?_
      refine r_get (v := .ref ac) C hP okX8 1 0 rfl (by decide) fl_X9_33 rfl rfl dX9_cell_28 ?_
      refine lv_iload_n hx hb dX9_cell_31 rfl (lv_at hl 1 rfl) ?_
      refine lv_iload_n hx hb dX9_cell_32 rfl (lv_at hl 2 rfl) ?_
      refine cl_v C (c_X0_add l D cI cJ cZ ac aw n fw nc hc v b) cd_X0_add ml_X9_47 im_X0_add se_X0_add in_X0 hd_X0_add ⟨by decide, by decide⟩ hP hD hS hA (WR := [(ax, .inr (10, [.ref ay, .ref az, .ref ae, .ref ai])), (ay, .inr (9, [.ref ac, .ref av, .ref ak, .ref ag, .ref ao])), (ae, .inr (4, [.long pw, .int pe, .int plt, .int psh]))]) [2] [0, 1, 3] rfl rfl rfl rfl (by decide) (ci := 1) (q0 := 2) rfl rfl hl.1 rfl (Nat.le_of_ble_eq_true rfl) dX9_cell_33 ⟨by decide, by decide⟩ (fun r W H locs hp hP hD hS => ?_)
      obtain ⟨rfl, rfl⟩ := hp
      refine W.eq (g2 := F0 m 36 ls [.int (nI n)]) rfl ?_
      have hP : va_P D vwCl [(ax, .inr (10, [.ref ay, .ref az, .ref ae, .ref ai])), (ay, .inr (9, [.ref ac, .ref av, .ref ak, .ref ag, .ref ao])), (ae, .inr (4, [.long pw, .int pe, .int plt, .int psh])), (ac, .inr (1, [.ref aw, .int (nI (n + 1)), .long (f_withValue fw (nI n) v), .long (f_nc nc b n), .int (f_hc hc b)]))] H := hP
      have hD : va_D A [(ax, .inr (10, [.ref ay, .ref az, .ref ae, .ref ai])), (ay, .inr (9, [.ref ac, .ref av, .ref ak, .ref ag, .ref ao])), (ae, .inr (4, [.long pw, .int pe, .int plt, .int psh])), (ac, .inr (1, [.ref aw, .int (nI (n + 1)), .long (f_withValue fw (nI n) v), .long (f_nc nc b n), .int (f_hc hc b)]))] := hD
      refine lv_istore_n (lv' := [(3, .int (nI n)), (0, .ref ax), (1, .int v), (2, .int b)]) hx hb dX9_cell_36 rfl hl (by decide) rfl (fun ls hl => ?_)
      refine lv_aload_n hx hb dX9_cell_37 rfl (lv_at hl 1 rfl) ?_
      refine r_get (v := .ref ae) C hP okX9 0 2 rfl (by decide) fl_X9_26 rfl rfl dX9_cell_38 ?_
      refine lv_aload_n hx hb dX9_cell_41 rfl (lv_at hl 1 rfl) ?_
      refine r_get (v := .ref ae) C hP okX9 0 2 rfl (by decide) fl_X9_26 rfl rfl dX9_cell_42 ?_
      refine r_get (v := .long pw) C hP okX3 2 0 rfl (by decide) fl_X9_51 rfl rfl dX9_cell_45 ?_
      refine lv_iload_n hx hb dX9_cell_48 rfl (lv_at hl 0 rfl) ?_
      refine lv_iload_n hx hb dX9_cell_49 rfl (lv_at hl 2 rfl) ?_
      refine cl_s C (c_X9_withValue l D cI cJ cZ pw (nI n) v) cd_X9_withValue ml_X9_55 st_X9_withValue in_X9 hd_X9_withValue ⟨by decide, by decide⟩ hP hD hS hA (WR := [(ax, .inr (10, [.ref ay, .ref az, .ref ae, .ref ai])), (ay, .inr (9, [.ref ac, .ref av, .ref ak, .ref ag, .ref ao])), (ae, .inr (4, [.long pw, .int pe, .int plt, .int psh])), (ac, .inr (1, [.ref aw, .int (nI (n + 1)), .long (f_withValue fw (nI n) v), .long (f_nc nc b n), .int (f_hc hc b)]))]) [] [0, 1, 2, 3] rfl rfl rfl rfl (by decide) hl.1 rfl (Nat.le_of_ble_eq_true rfl) dX9_cell_50 ⟨by decide, by decide⟩ (fun r W H locs hp hP hD hS => ?_)
      obtain ⟨rfl, rfl⟩ := hp
      refine W.eq (g2 := F0 m 53 ls [.long (f_withValue pw (nI n) v), .ref ae]) rfl ?_
      have hP : va_P D vwCl [(ax, .inr (10, [.ref ay, .ref az, .ref ae, .ref ai])), (ay, .inr (9, [.ref ac, .ref av, .ref ak, .ref ag, .ref ao])), (ae, .inr (4, [.long pw, .int pe, .int plt, .int psh])), (ac, .inr (1, [.ref aw, .int (nI (n + 1)), .long (f_withValue fw (nI n) v), .long (f_nc nc b n), .int (f_hc hc b)]))] H := hP
      have hD : va_D A [(ax, .inr (10, [.ref ay, .ref az, .ref ae, .ref ai])), (ay, .inr (9, [.ref ac, .ref av, .ref ak, .ref ag, .ref ao])), (ae, .inr (4, [.long pw, .int pe, .int plt, .int psh])), (ac, .inr (1, [.ref aw, .int (nI (n + 1)), .long (f_withValue fw (nI n) v), .long (f_nc nc b n), .int (f_hc hc b)]))] := hD
      refine r_put (v := .long (f_withValue pw (nI n) v)) C hP hD hS okX3 2 0 rfl (by decide) fl_X9_51 rfl rfl rfl rfl (Nat.le_of_ble_eq_true rfl) dX9_cell_53 (fun H locs hP hD hS => ?_)
      have hP : va_P D vwCl [(ax, .inr (10, [.ref ay, .ref az, .ref ae, .ref ai])), (ay, .inr (9, [.ref ac, .ref av, .ref ak, .ref ag, .ref ao])), (ae, .inr (4, [.long (f_withValue pw (nI n) v), .int pe, .int plt, .int psh])), (ac, .inr (1, [.ref aw, .int (nI (n + 1)), .long (f_withValue fw (nI n) v), .long (f_nc nc b n), .int (f_hc hc b)]))] H := hP
      have hD : va_D A [(ax, .inr (10, [.ref ay, .ref az, .ref ae, .ref ai])), (ay, .inr (9, [.ref ac, .ref av, .ref ak, .ref ag, .ref ao])), (ae, .inr (4, [.long (f_withValue pw (nI n) v), .int pe, .int plt, .int psh])), (ac, .inr (1, [.ref aw, .int (nI (n + 1)), .long (f_withValue fw (nI n) v), .long (f_nc nc b n), .int (f_hc hc b)]))] := hD
      refine lv_iload_n hx hb dX9_cell_56 rfl (lv_at hl 0 rfl) ?_
      exact rt_i C hQ (hP.sub (ws' := [(ax, .inr (10, [.ref ay, .ref az, .ref ae, .ref ai])), (ay, .inr (9, [.ref ac, .ref av, .ref ak, .ref ag, .ref ao])), (ac, .inr (1, [.ref aw, .int (nI (n + 1)), .long (f_withValue fw (nI n) v), .long (f_nc nc b n), .int (f_hc hc b)])), (ae, .inr (4, [.long (f_withValue pw (nI n) v), .int pe, .int plt, .int psh]))]) [0, 1, 3, 2] rfl) (hD.sub [0, 1, 3, 2] (by decide) rfl) hS (by have hP_ : n < 10 ∧ rg v 0 9 = true := ⟨by omega, hb_16⟩; exact ⟨by rw [if_pos hP_], by simp only [if_pos hP_]⟩) (by decide) (by decide) dX9_cell_57
    · -- no 16
      refine W.eq (g2 := F0 m 19 ls [.int 0]) rfl ?_
      have hP : va_P D vwCl [(ax, .inr (10, [.ref ay, .ref az, .ref ae, .ref ai])), (ay, .inr (9, [.ref ac, .ref av, .ref ak, .ref ag, .ref ao])), (ac, .inr (1, [.ref aw, .int (nI n), .long fw, .long nc, .int hc])), (ae, .inr (4, [.long pw, .int pe, .int plt, .int psh]))] H := hP
      have hD : va_D A [(ax, .inr (10, [.ref ay, .ref az, .ref ae, .ref ai])), (ay, .inr (9, [.ref ac, .ref av, .ref ak, .ref ag, .ref ao])), (ac, .inr (1, [.ref aw, .int (nI n), .long fw, .long nc, .int hc])), (ae, .inr (4, [.long pw, .int pe, .int plt, .int psh]))] := hD
      refine lv_if_ne (tgt := 24) hx hb dX9_cell_19 (by decide) (fun c_19 => ?_) (fun c_19 => ?_)
      · exact absurd c_19 (by decide)
      refine lv_iconst (v := (-1)) hx hb dX9_cell_22 (by decide) ?_
      exact rt_i C hQ (hP.sub (ws' := [(ax, .inr (10, [.ref ay, .ref az, .ref ae, .ref ai])), (ay, .inr (9, [.ref ac, .ref av, .ref ak, .ref ag, .ref ao])), (ac, .inr (1, [.ref aw, .int (nI n), .long fw, .long nc, .int hc])), (ae, .inr (4, [.long pw, .int pe, .int plt, .int psh]))]) [0, 1, 2, 3] rfl) (hD.sub [0, 1, 2, 3] (by decide) rfl) hS (by have hP_ : ¬ (n < 10 ∧ rg v 0 9 = true) := (fun z => by first | exact absurd z.1 (by omega) | exact hb_16 z.2); exact ⟨by rw [if_neg hP_], by simp only [if_neg hP_]⟩) (by decide) (by decide) dX9_cell_23
set_option maxHeartbeats 4000000 in
set_option maxRecDepth 100000 in
theorem c_X9_weigh (l : Launch) (D : va_G) (cI cJ cZ : ClassId) (ax : Nat) (ay : Nat) (az : Nat) (ae : Nat) (ai : Nat) (ac : Nat) (av : Nat) (ak : Nat) (ag : Nat) (ao : Nat) (aw : Nat) (n : Nat) (fw : Int64) (nc : Int64) (hc : Int32) (wt : Nat → Int32) (cl : Int32) (wg : Int32) (hn : n ≤ 10) : Ctr l D cI cJ cZ yX9_weigh cX9_weigh 3 (some .boolean) ({ frames := 2, cells := 0, slots := 0, locals := 43 } : Room) [.ref ax, .int cl, .int wg] [(ax, .inr (10, [.ref ay, .ref az, .ref ae, .ref ai])), (ay, .inr (9, [.ref ac, .ref av, .ref ak, .ref ag, .ref ao])), (ac, .inr (1, [.ref aw, .int (nI n), .long fw, .long nc, .int hc])), (aw, .inl (cI, 10, .inl wt))] (fun r W => ((r = some (.int 1) ∧ (inR cl n = true ∧ rg wg (-100) 100 = true)) ∨ (r = some (.int 0) ∧ ¬ (inR cl n = true ∧ rg wg (-100) 100 = true))) ∧ W = [(ax, .inr (10, [.ref ay, .ref az, .ref ae, .ref ai])), (ay, .inr (9, [.ref ac, .ref av, .ref ak, .ref ag, .ref ao])), (ac, .inr (1, [.ref aw, .int (nI n), .long fw, .long nc, .int hc])), (aw, .inl (cI, 10, .inl (if inR cl n = true ∧ rg wg (-100) 100 = true then upd wt cl.toNatClampNeg wg else wt)))]) := by
  refine Ctr.start (by decide +kernel) (Nat.le_of_ble_eq_true rfl) ?_
  intro p e s m below meth c A Q ls H C hQ hA hP hD hS hl
  obtain ⟨hx, hb, hr, hml, hts, hown, hlk, hnm, hK, hN⟩ := id C
  have hl : lv_has ls 3 [(0, .ref ax), (1, .int cl), (2, .int wg)] := hl
  refine lv_aload_n hx hb dX9_weigh_0 rfl (lv_at hl 0 rfl) ?_
  refine r_get (v := .ref ay) C hP okX9 0 0 rfl (by decide) fl_X9_10 rfl rfl dX9_weigh_1 ?_
  refine r_get (v := .ref ac) C hP okX8 1 0 rfl (by decide) fl_X9_33 rfl rfl dX9_weigh_4 ?_
  refine lv_iload_n hx hb dX9_weigh_7 rfl (lv_at hl 1 rfl) ?_
  refine cl_v C (c_X0_has l D cI cJ cZ ac aw n fw nc hc cl (by omega)) cd_X0_has ml_X9_59 im_X0_has se_X0_has in_X0 hd_X0_has ⟨by decide, by decide⟩ hP hD hS hA (WR := [(ax, .inr (10, [.ref ay, .ref az, .ref ae, .ref ai])), (ay, .inr (9, [.ref ac, .ref av, .ref ak, .ref ag, .ref ao])), (aw, .inl (cI, 10, .inl wt))]) [2] [0, 1, 3] rfl rfl rfl rfl (by decide) (ci := 1) (q0 := 2) rfl rfl hl.1 rfl (Nat.le_of_ble_eq_true rfl) dX9_weigh_8 ⟨by decide, by decide⟩ (fun r W H locs hp hP hD hS => ?_)
  rcases hp with ⟨⟨rfl, hb_8⟩ | ⟨rfl, hb_8⟩, rfl⟩
  · -- yes 8
    refine W.eq (g2 := F0 m 11 ls [.int 1]) rfl ?_
    have hP : va_P D vwCl [(ax, .inr (10, [.ref ay, .ref az, .ref ae, .ref ai])), (ay, .inr (9, [.ref ac, .ref av, .ref ak, .ref ag, .ref ao])), (aw, .inl (cI, 10, .inl wt)), (ac, .inr (1, [.ref aw, .int (nI n), .long fw, .long nc, .int hc]))] H := hP
    have hD : va_D A [(ax, .inr (10, [.ref ay, .ref az, .ref ae, .ref ai])), (ay, .inr (9, [.ref ac, .ref av, .ref ak, .ref ag, .ref ao])), (aw, .inl (cI, 10, .inl wt)), (ac, .inr (1, [.ref aw, .int (nI n), .long fw, .long nc, .int hc]))] := hD
    obtain ⟨j, hj, rfl⟩ := (inR_iff (by omega)).mp hb_8
    refine lv_if_eq (tgt := 25) hx hb dX9_weigh_11 (by decide) (fun c_11 => ?_) (fun c_11 => ?_)
    · exact absurd c_11 (by decide)
    refine lv_iload_n hx hb dX9_weigh_14 rfl (lv_at hl 2 rfl) ?_
    refine lv_bipush (v := (-100)) hx hb dX9_weigh_15 (by decide) ?_
    refine lv_bipush (v := 100) hx hb dX9_weigh_17 (by decide) ?_
    refine cl_s C (c_X9_isWithin l D cI cJ cZ wg (-100) 100) cd_X9_isWithin ml_X9_62 st_X9_isWithin in_X9 hd_X9_isWithin ⟨by decide, by decide⟩ hP hD hS hA (WR := [(ax, .inr (10, [.ref ay, .ref az, .ref ae, .ref ai])), (ay, .inr (9, [.ref ac, .ref av, .ref ak, .ref ag, .ref ao])), (aw, .inl (cI, 10, .inl wt)), (ac, .inr (1, [.ref aw, .int (nI n), .long fw, .long nc, .int hc]))]) [] [0, 1, 2, 3] rfl rfl rfl rfl (by decide) hl.1 rfl (Nat.le_of_ble_eq_true rfl) dX9_weigh_19 ⟨by decide, by decide⟩ (fun r W H locs hp hP hD hS => ?_)
    rcases hp with ⟨⟨rfl, hb_19⟩ | ⟨rfl, hb_19⟩, rfl⟩
    · -- yes 19
      refine W.eq (g2 := F0 m 22 ls [.int 1]) rfl ?_
      have hP : va_P D vwCl [(ax, .inr (10, [.ref ay, .ref az, .ref ae, .ref ai])), (ay, .inr (9, [.ref ac, .ref av, .ref ak, .ref ag, .ref ao])), (aw, .inl (cI, 10, .inl wt)), (ac, .inr (1, [.ref aw, .int (nI n), .long fw, .long nc, .int hc]))] H := hP
      have hD : va_D A [(ax, .inr (10, [.ref ay, .ref az, .ref ae, .ref ai])), (ay, .inr (9, [.ref ac, .ref av, .ref ak, .ref ag, .ref ao])), (aw, .inl (cI, 10, .inl wt)), (ac, .inr (1, [.ref aw, .int (nI n), .long fw, .long nc, .int hc]))] := hD
      refine lv_if_ne (tgt := 27) hx hb dX9_weigh_22 (by decide) (fun c_22 => ?_) (fun c_22 => ?_)
      rotate_left
      · exact absurd c_22 (by decide)
      refine lv_aload_n hx hb dX9_weigh_27 rfl (lv_at hl 0 rfl) ?_
      refine r_get (v := .ref ay) C hP okX9 0 0 rfl (by decide) fl_X9_10 rfl rfl dX9_weigh_28 ?_
      refine r_get (v := .ref ac) C hP okX8 1 0 rfl (by decide) fl_X9_33 rfl rfl dX9_weigh_31 ?_
      refine r_get (v := .ref aw) C hP okX0 3 0 rfl (by decide) fl_X9_66 rfl rfl dX9_weigh_34 ?_
      refine lv_iload_n hx hb dX9_weigh_37 rfl (lv_at hl 1 rfl) ?_
      refine lv_iload_n hx hb dX9_weigh_38 rfl (lv_at hl 2 rfl) ?_
      refine r_iast (j := j) C hP hD hS 2 rfl (by omega) (by decide) dX9_weigh_39 (fun H locs hP hD hS => ?_)
      have hP : va_P D vwCl [(ax, .inr (10, [.ref ay, .ref az, .ref ae, .ref ai])), (ay, .inr (9, [.ref ac, .ref av, .ref ak, .ref ag, .ref ao])), (aw, .inl (cI, 10, .inl (upd wt j wg))), (ac, .inr (1, [.ref aw, .int (nI n), .long fw, .long nc, .int hc]))] H := hP
      have hD : va_D A [(ax, .inr (10, [.ref ay, .ref az, .ref ae, .ref ai])), (ay, .inr (9, [.ref ac, .ref av, .ref ak, .ref ag, .ref ao])), (aw, .inl (cI, 10, .inl (upd wt j wg))), (ac, .inr (1, [.ref aw, .int (nI n), .long fw, .long nc, .int hc]))] := hD
      refine lv_iconst (v := 1) hx hb dX9_weigh_40 (by decide) ?_
      exact rt_z C hQ (by decide) (hP.sub (ws' := [(ax, .inr (10, [.ref ay, .ref az, .ref ae, .ref ai])), (ay, .inr (9, [.ref ac, .ref av, .ref ak, .ref ag, .ref ao])), (ac, .inr (1, [.ref aw, .int (nI n), .long fw, .long nc, .int hc])), (aw, .inl (cI, 10, .inl (upd wt j wg)))]) [0, 1, 3, 2] rfl) (hD.sub [0, 1, 3, 2] (by decide) rfl) hS (by have hP_ : inR (nI j) n = true ∧ rg wg (-100) 100 = true := ⟨hb_8, rg_iff.mpr hb_19⟩; exact ⟨Or.inl ⟨rfl, hP_⟩, by simp only [if_pos hP_, nI_clamp (show j < 2 ^ 31 by omega)]⟩) (by decide) (by decide) dX9_weigh_41
    · -- no 19
      refine W.eq (g2 := F0 m 22 ls [.int 0]) rfl ?_
      have hP : va_P D vwCl [(ax, .inr (10, [.ref ay, .ref az, .ref ae, .ref ai])), (ay, .inr (9, [.ref ac, .ref av, .ref ak, .ref ag, .ref ao])), (aw, .inl (cI, 10, .inl wt)), (ac, .inr (1, [.ref aw, .int (nI n), .long fw, .long nc, .int hc]))] H := hP
      have hD : va_D A [(ax, .inr (10, [.ref ay, .ref az, .ref ae, .ref ai])), (ay, .inr (9, [.ref ac, .ref av, .ref ak, .ref ag, .ref ao])), (aw, .inl (cI, 10, .inl wt)), (ac, .inr (1, [.ref aw, .int (nI n), .long fw, .long nc, .int hc]))] := hD
      refine lv_if_ne (tgt := 27) hx hb dX9_weigh_22 (by decide) (fun c_22 => ?_) (fun c_22 => ?_)
      · exact absurd c_22 (by decide)
      refine lv_iconst (v := 0) hx hb dX9_weigh_25 (by decide) ?_
      exact rt_z C hQ (by decide) (hP.sub (ws' := [(ax, .inr (10, [.ref ay, .ref az, .ref ae, .ref ai])), (ay, .inr (9, [.ref ac, .ref av, .ref ak, .ref ag, .ref ao])), (ac, .inr (1, [.ref aw, .int (nI n), .long fw, .long nc, .int hc])), (aw, .inl (cI, 10, .inl wt))]) [0, 1, 3, 2] rfl) (hD.sub [0, 1, 3, 2] (by decide) rfl) hS (by have hP_ : ¬ (inR (nI j) n = true ∧ rg wg (-100) 100 = true) := (fun z => by first | exact hb_8 z.1 | exact hb_19 (rg_iff.mp z.2)); exact ⟨Or.inr ⟨rfl, hP_⟩, by simp only [if_neg hP_]⟩) (by decide) (by decide) dX9_weigh_26
  · -- no 8
    refine W.eq (g2 := F0 m 11 ls [.int 0]) rfl ?_
    have hP : va_P D vwCl [(ax, .inr (10, [.ref ay, .ref az, .ref ae, .ref ai])), (ay, .inr (9, [.ref ac, .ref av, .ref ak, .ref ag, .ref ao])), (aw, .inl (cI, 10, .inl wt)), (ac, .inr (1, [.ref aw, .int (nI n), .long fw, .long nc, .int hc]))] H := hP
    have hD : va_D A [(ax, .inr (10, [.ref ay, .ref az, .ref ae, .ref ai])), (ay, .inr (9, [.ref ac, .ref av, .ref ak, .ref ag, .ref ao])), (aw, .inl (cI, 10, .inl wt)), (ac, .inr (1, [.ref aw, .int (nI n), .long fw, .long nc, .int hc]))] := hD
    refine lv_if_eq (tgt := 25) hx hb dX9_weigh_11 (by decide) (fun c_11 => ?_) (fun c_11 => ?_)
    rotate_left
    · exact absurd c_11 (by decide)
    refine lv_iconst (v := 0) hx hb dX9_weigh_25 (by decide) ?_
    exact rt_z C hQ (by decide) (hP.sub (ws' := [(ax, .inr (10, [.ref ay, .ref az, .ref ae, .ref ai])), (ay, .inr (9, [.ref ac, .ref av, .ref ak, .ref ag, .ref ao])), (ac, .inr (1, [.ref aw, .int (nI n), .long fw, .long nc, .int hc])), (aw, .inl (cI, 10, .inl wt))]) [0, 1, 3, 2] rfl) (hD.sub [0, 1, 3, 2] (by decide) rfl) hS (by have hP_ : ¬ (inR cl n = true ∧ rg wg (-100) 100 = true) := (fun z => by first | exact hb_8 z.1 | exact hb_19 (rg_iff.mp z.2)); exact ⟨Or.inr ⟨rfl, hP_⟩, by simp only [if_neg hP_]⟩) (by decide) (by decide) dX9_weigh_26
set_option maxHeartbeats 4000000 in
set_option maxRecDepth 100000 in
theorem c_X9_move (l : Launch) (D : va_G) (cI cJ cZ : ClassId) (ax : Nat) (ay : Nat) (az : Nat) (ae : Nat) (ai : Nat) (ac : Nat) (av : Nat) (ak : Nat) (ag : Nat) (ao : Nat) (nm : Nat) (v0 : Nat) (v1 : Nat) (v2 : Nat) (v3 : Nat) (v4 : Nat) (v5 : Nat) (v6 : Nat) (v7 : Nat) (v8 : Nat) (v9 : Nat) (mtx : Nat → Int32) (hm : nm ≤ 24) : Ctr l D cI cJ cZ yX9_move cX9_move 1 (some .int) ({ frames := 1, cells := 0, slots := 0, locals := 20 } : Room) [.ref ax] [(ax, .inr (10, [.ref ay, .ref az, .ref ae, .ref ai])), (ay, .inr (9, [.ref ac, .ref av, .ref ak, .ref ag, .ref ao])), (av, .inr (5, [.ref v0, .ref v1, .int (nI nm), .ref v2, .ref v3, .ref v4, .ref v5, .ref v6, .ref v7, .ref v8, .ref v9])), (v0, .inl (cI, 24, .inl mtx))] (fun r W => r = some (.int (if nm < 24 then nI nm else -1)) ∧ W = [(ax, .inr (10, [.ref ay, .ref az, .ref ae, .ref ai])), (ay, .inr (9, [.ref ac, .ref av, .ref ak, .ref ag, .ref ao])), (av, .inr (5, [.ref v0, .ref v1, .int (nI (if nm < 24 then nm + 1 else nm)), .ref v2, .ref v3, .ref v4, .ref v5, .ref v6, .ref v7, .ref v8, .ref v9])), (v0, .inl (cI, 24, .inl (if nm < 24 then upd mtx nm (-1) else mtx)))]) := by
  refine Ctr.start (by decide +kernel) (Nat.le_of_ble_eq_true rfl) ?_
  intro p e s m below meth c A Q ls H C hQ hA hP hD hS hl
  obtain ⟨hx, hb, hr, hml, hts, hown, hlk, hnm, hK, hN⟩ := id C
  have hl : lv_has ls 1 [(0, .ref ax)] := hl
  refine lv_aload_n hx hb dX9_move_0 rfl (lv_at hl 0 rfl) ?_
  refine r_get (v := .ref ay) C hP okX9 0 0 rfl (by decide) fl_X9_10 rfl rfl dX9_move_1 ?_
  refine r_get (v := .ref av) C hP okX8 1 1 rfl (by decide) fl_X9_70 rfl rfl dX9_move_4 ?_
  refine r_get (v := .int (nI nm)) C hP okX4 2 2 rfl (by decide) fl_X9_74 rfl rfl dX9_move_7 ?_
  refine lv_bipush (v := 24) hx hb dX9_move_10 (by decide) ?_
  refine lv_icmp_ge (tgt := 28) hx hb dX9_move_12 (by decide) (fun c_12 => ?_) (fun c_12 => ?_)
  · -- taken 12
    have c_12 : 24 ≤ nm := (nI_leI (a := 24) (b := nm) (by omega) (by omega)).mp c_12
    refine lv_iconst (v := (-1)) hx hb dX9_move_28 (by decide) ?_
    exact rt_i C hQ (hP.sub (ws' := [(ax, .inr (10, [.ref ay, .ref az, .ref ae, .ref ai])), (ay, .inr (9, [.ref ac, .ref av, .ref ak, .ref ag, .ref ao])), (av, .inr (5, [.ref v0, .ref v1, .int (nI nm), .ref v2, .ref v3, .ref v4, .ref v5, .ref v6, .ref v7, .ref v8, .ref v9])), (v0, .inl (cI, 24, .inl mtx))]) [0, 1, 2, 3] rfl) (hD.sub [0, 1, 2, 3] (by decide) rfl) hS (by have hP_ : ¬ (nm < 24) := (by omega); exact ⟨by rw [if_neg hP_], by simp only [if_neg hP_]⟩) (by decide) (by decide) dX9_move_29
  · -- not taken 12
    have c_12 : ¬ (24 ≤ nm) := fun z => c_12 ((nI_leI (a := 24) (b := nm) (by omega) (by omega)).mpr z)
    refine lv_aload_n hx hb dX9_move_15 rfl (lv_at hl 0 rfl) ?_
    refine r_get (v := .ref ay) C hP okX9 0 0 rfl (by decide) fl_X9_10 rfl rfl dX9_move_16 ?_
    refine r_get (v := .ref av) C hP okX8 1 1 rfl (by decide) fl_X9_70 rfl rfl dX9_move_19 ?_
    refine cl_v C (c_X4_add l D cI cJ cZ av nm v0 v1 v2 v3 v4 v5 v6 v7 v8 v9 mtx (by omega)) cd_X4_add ml_X9_77 im_X4_add se_X4_add in_X4 hd_X4_add ⟨by decide, by decide⟩ hP hD hS hA (WR := [(ax, .inr (10, [.ref ay, .ref az, .ref ae, .ref ai])), (ay, .inr (9, [.ref ac, .ref av, .ref ak, .ref ag, .ref ao]))]) [2, 3] [0, 1] rfl rfl rfl rfl (by decide) (ci := 5) (q0 := 2) rfl rfl hl.1 rfl (Nat.le_of_ble_eq_true rfl) dX9_move_22 ⟨by decide, by decide⟩ (fun r W H locs hp hP hD hS => ?_)
    obtain ⟨rfl, rfl⟩ := hp
    refine W.eq (g2 := F0 m 25 ls [.int (nI nm)]) rfl ?_
    have hP : va_P D vwCl [(ax, .inr (10, [.ref ay, .ref az, .ref ae, .ref ai])), (ay, .inr (9, [.ref ac, .ref av, .ref ak, .ref ag, .ref ao])), (av, .inr (5, [.ref v0, .ref v1, .int (nI (nm + 1)), .ref v2, .ref v3, .ref v4, .ref v5, .ref v6, .ref v7, .ref v8, .ref v9])), (v0, .inl (cI, 24, .inl (upd mtx nm (-1))))] H := hP
    have hD : va_D A [(ax, .inr (10, [.ref ay, .ref az, .ref ae, .ref ai])), (ay, .inr (9, [.ref ac, .ref av, .ref ak, .ref ag, .ref ao])), (av, .inr (5, [.ref v0, .ref v1, .int (nI (nm + 1)), .ref v2, .ref v3, .ref v4, .ref v5, .ref v6, .ref v7, .ref v8, .ref v9])), (v0, .inl (cI, 24, .inl (upd mtx nm (-1))))] := hD
    refine lv_goto (tgt := 29) hx hb dX9_move_25 (by decide) ?_
    exact rt_i C hQ (hP.sub (ws' := [(ax, .inr (10, [.ref ay, .ref az, .ref ae, .ref ai])), (ay, .inr (9, [.ref ac, .ref av, .ref ak, .ref ag, .ref ao])), (av, .inr (5, [.ref v0, .ref v1, .int (nI (nm + 1)), .ref v2, .ref v3, .ref v4, .ref v5, .ref v6, .ref v7, .ref v8, .ref v9])), (v0, .inl (cI, 24, .inl (upd mtx nm (-1))))]) [0, 1, 2, 3] rfl) (hD.sub [0, 1, 2, 3] (by decide) rfl) hS (by have hP_ : nm < 24 := (by omega); exact ⟨by rw [if_pos hP_], by simp only [if_pos hP_]⟩) (by decide) (by decide) dX9_move_29
set_option maxHeartbeats 4000000 in
set_option maxRecDepth 100000 in
theorem c_X9_when (l : Launch) (D : va_G) (cI cJ cZ : ClassId) (ax : Nat) (ay : Nat) (az : Nat) (ae : Nat) (ai : Nat) (ac : Nat) (av : Nat) (ak : Nat) (ag : Nat) (ao : Nat) (aw : Nat) (n : Nat) (fw : Int64) (nc : Int64) (hc : Int32) (nm : Nat) (v0 : Nat) (v1 : Nat) (v2 : Nat) (v3 : Nat) (v4 : Nat) (v5 : Nat) (v6 : Nat) (v7 : Nat) (v8 : Nat) (v9 : Nat) (mcn : Nat → Nat) (mcl : Nat → Nat) (mcr : Nat → Int32) (mcv : Nat → Int32) (m0 : Int32) (c0 : Int32) (r0 : Int32) (v0_ : Int32) (hn : n ≤ 10) (hm : nm ≤ 24) (hc6 : ∀ k, mcn k ≤ 6) : Ctr l D cI cJ cZ yX9_when cX9_when 5 (some .boolean) ({ frames := 2, cells := 0, slots := 0, locals := 43 } : Room) [.ref ax, .int m0, .int c0, .int r0, .int v0_] [(ax, .inr (10, [.ref ay, .ref az, .ref ae, .ref ai])), (ay, .inr (9, [.ref ac, .ref av, .ref ak, .ref ag, .ref ao])), (ac, .inr (1, [.ref aw, .int (nI n), .long fw, .long nc, .int hc])), (av, .inr (5, [.ref v0, .ref v1, .int (nI nm), .ref v2, .ref v3, .ref v4, .ref v5, .ref v6, .ref v7, .ref v8, .ref v9])), (v2, .inl (cI, 24, .inl (nF mcn))), (v3, .inl (cI, 144, .inl (nF mcl))), (v4, .inl (cI, 144, .inl mcr)), (v5, .inl (cI, 144, .inl mcv))] (fun r W => ((r = some (.int 1) ∧ (inR m0 nm = true ∧ inR c0 n = true ∧ rg r0 0 3 = true ∧ rg v0_ 0 9 = true ∧ mcn m0.toNatClampNeg < 6)) ∨ (r = some (.int 0) ∧ ¬ (inR m0 nm = true ∧ inR c0 n = true ∧ rg r0 0 3 = true ∧ rg v0_ 0 9 = true ∧ mcn m0.toNatClampNeg < 6))) ∧ W = [(ax, .inr (10, [.ref ay, .ref az, .ref ae, .ref ai])), (ay, .inr (9, [.ref ac, .ref av, .ref ak, .ref ag, .ref ao])), (ac, .inr (1, [.ref aw, .int (nI n), .long fw, .long nc, .int hc])), (av, .inr (5, [.ref v0, .ref v1, .int (nI nm), .ref v2, .ref v3, .ref v4, .ref v5, .ref v6, .ref v7, .ref v8, .ref v9])), (v2, .inl (cI, 24, .inl (nF (if inR m0 nm = true ∧ inR c0 n = true ∧ rg r0 0 3 = true ∧ rg v0_ 0 9 = true ∧ mcn m0.toNatClampNeg < 6 then updN mcn m0.toNatClampNeg (mcn m0.toNatClampNeg + 1) else mcn)))), (v3, .inl (cI, 144, .inl (nF (if inR m0 nm = true ∧ inR c0 n = true ∧ rg r0 0 3 = true ∧ rg v0_ 0 9 = true ∧ mcn m0.toNatClampNeg < 6 then updN mcl (m0.toNatClampNeg * 6 + mcn m0.toNatClampNeg) c0.toNatClampNeg else mcl)))), (v4, .inl (cI, 144, .inl (if inR m0 nm = true ∧ inR c0 n = true ∧ rg r0 0 3 = true ∧ rg v0_ 0 9 = true ∧ mcn m0.toNatClampNeg < 6 then upd mcr (m0.toNatClampNeg * 6 + mcn m0.toNatClampNeg) r0 else mcr))), (v5, .inl (cI, 144, .inl (if inR m0 nm = true ∧ inR c0 n = true ∧ rg r0 0 3 = true ∧ rg v0_ 0 9 = true ∧ mcn m0.toNatClampNeg < 6 then upd mcv (m0.toNatClampNeg * 6 + mcn m0.toNatClampNeg) v0_ else mcv)))]) := by
  refine Ctr.start (by decide +kernel) (Nat.le_of_ble_eq_true rfl) ?_
  intro p e s m below meth c A Q ls H C hQ hA hP hD hS hl
  obtain ⟨hx, hb, hr, hml, hts, hown, hlk, hnm, hK, hN⟩ := id C
  have hl : lv_has ls 5 [(0, .ref ax), (1, .int m0), (2, .int c0), (3, .int r0), (4, .int v0_)] := hl
  refine lv_aload_n hx hb dX9_when_0 rfl (lv_at hl 0 rfl) ?_
  refine r_get (v := .ref ay) C hP okX9 0 0 rfl (by decide) fl_X9_10 rfl rfl dX9_when_1 ?_
  refine r_get (v := .ref av) C hP okX8 1 1 rfl (by decide) fl_X9_70 rfl rfl dX9_when_4 ?_
  refine lv_iload_n hx hb dX9_when_7 rfl (lv_at hl 1 rfl) ?_
  refine cl_v C (c_X4_has l D cI cJ cZ av nm v0 v1 v2 v3 v4 v5 v6 v7 v8 v9 m0 (by omega)) cd_X4_has ml_X9_80 im_X4_has se_X4_has in_X4 hd_X4_has ⟨by decide, by decide⟩ hP hD hS hA (WR := [(ax, .inr (10, [.ref ay, .ref az, .ref ae, .ref ai])), (ay, .inr (9, [.ref ac, .ref av, .ref ak, .ref ag, .ref ao])), (ac, .inr (1, [.ref aw, .int (nI n), .long fw, .long nc, .int hc])), (v2, .inl (cI, 24, .inl (nF mcn))), (v3, .inl (cI, 144, .inl (nF mcl))), (v4, .inl (cI, 144, .inl mcr)), (v5, .inl (cI, 144, .inl mcv))]) [3] [0, 1, 2, 4, 5, 6, 7] rfl rfl rfl rfl (by decide) (ci := 5) (q0 := 3) rfl rfl hl.1 rfl (Nat.le_of_ble_eq_true rfl) dX9_when_8 ⟨by decide, by decide⟩ (fun r W H locs hp hP hD hS => ?_)
  rcases hp with ⟨⟨rfl, hb_8⟩ | ⟨rfl, hb_8⟩, rfl⟩
  · -- yes 8
    refine W.eq (g2 := F0 m 11 ls [.int 1]) rfl ?_
    have hP : va_P D vwCl [(ax, .inr (10, [.ref ay, .ref az, .ref ae, .ref ai])), (ay, .inr (9, [.ref ac, .ref av, .ref ak, .ref ag, .ref ao])), (ac, .inr (1, [.ref aw, .int (nI n), .long fw, .long nc, .int hc])), (v2, .inl (cI, 24, .inl (nF mcn))), (v3, .inl (cI, 144, .inl (nF mcl))), (v4, .inl (cI, 144, .inl mcr)), (v5, .inl (cI, 144, .inl mcv)), (av, .inr (5, [.ref v0, .ref v1, .int (nI nm), .ref v2, .ref v3, .ref v4, .ref v5, .ref v6, .ref v7, .ref v8, .ref v9]))] H := hP
    have hD : va_D A [(ax, .inr (10, [.ref ay, .ref az, .ref ae, .ref ai])), (ay, .inr (9, [.ref ac, .ref av, .ref ak, .ref ag, .ref ao])), (ac, .inr (1, [.ref aw, .int (nI n), .long fw, .long nc, .int hc])), (v2, .inl (cI, 24, .inl (nF mcn))), (v3, .inl (cI, 144, .inl (nF mcl))), (v4, .inl (cI, 144, .inl mcr)), (v5, .inl (cI, 144, .inl mcv)), (av, .inr (5, [.ref v0, .ref v1, .int (nI nm), .ref v2, .ref v3, .ref v4, .ref v5, .ref v6, .ref v7, .ref v8, .ref v9]))] := hD
    obtain ⟨j, hj, rfl⟩ := (inR_iff (by omega)).mp hb_8
    refine lv_if_eq (tgt := 43) hx hb dX9_when_11 (by decide) (fun c_11 => ?_) (fun c_11 => ?_)
    · exact absurd c_11 (by decide)
    refine lv_aload_n hx hb dX9_when_14 rfl (lv_at hl 0 rfl) ?_
    refine r_get (v := .ref ay) C hP okX9 0 0 rfl (by decide) fl_X9_10 rfl rfl dX9_when_15 ?_
    refine r_get (v := .ref ac) C hP okX8 1 0 rfl (by decide) fl_X9_33 rfl rfl dX9_when_18 ?_
    refine lv_iload_n hx hb dX9_when_21 rfl (lv_at hl 2 rfl) ?_
    refine cl_v C (c_X0_has l D cI cJ cZ ac aw n fw nc hc c0 (by omega)) cd_X0_has ml_X9_59 im_X0_has se_X0_has in_X0 hd_X0_has ⟨by decide, by decide⟩ hP hD hS hA (WR := [(ax, .inr (10, [.ref ay, .ref az, .ref ae, .ref ai])), (ay, .inr (9, [.ref ac, .ref av, .ref ak, .ref ag, .ref ao])), (v2, .inl (cI, 24, .inl (nF mcn))), (v3, .inl (cI, 144, .inl (nF mcl))), (v4, .inl (cI, 144, .inl mcr)), (v5, .inl (cI, 144, .inl mcv)), (av, .inr (5, [.ref v0, .ref v1, .int (nI nm), .ref v2, .ref v3, .ref v4, .ref v5, .ref v6, .ref v7, .ref v8, .ref v9]))]) [2] [0, 1, 3, 4, 5, 6, 7] rfl rfl rfl rfl (by decide) (ci := 1) (q0 := 2) rfl rfl hl.1 rfl (Nat.le_of_ble_eq_true rfl) dX9_when_22 ⟨by decide, by decide⟩ (fun r W H locs hp hP hD hS => ?_)
    rcases hp with ⟨⟨rfl, hb_22⟩ | ⟨rfl, hb_22⟩, rfl⟩
    · -- yes 22
      refine W.eq (g2 := F0 m 25 ls [.int 1]) rfl ?_
      have hP : va_P D vwCl [(ax, .inr (10, [.ref ay, .ref az, .ref ae, .ref ai])), (ay, .inr (9, [.ref ac, .ref av, .ref ak, .ref ag, .ref ao])), (v2, .inl (cI, 24, .inl (nF mcn))), (v3, .inl (cI, 144, .inl (nF mcl))), (v4, .inl (cI, 144, .inl mcr)), (v5, .inl (cI, 144, .inl mcv)), (av, .inr (5, [.ref v0, .ref v1, .int (nI nm), .ref v2, .ref v3, .ref v4, .ref v5, .ref v6, .ref v7, .ref v8, .ref v9])), (ac, .inr (1, [.ref aw, .int (nI n), .long fw, .long nc, .int hc]))] H := hP
      have hD : va_D A [(ax, .inr (10, [.ref ay, .ref az, .ref ae, .ref ai])), (ay, .inr (9, [.ref ac, .ref av, .ref ak, .ref ag, .ref ao])), (v2, .inl (cI, 24, .inl (nF mcn))), (v3, .inl (cI, 144, .inl (nF mcl))), (v4, .inl (cI, 144, .inl mcr)), (v5, .inl (cI, 144, .inl mcv)), (av, .inr (5, [.ref v0, .ref v1, .int (nI nm), .ref v2, .ref v3, .ref v4, .ref v5, .ref v6, .ref v7, .ref v8, .ref v9])), (ac, .inr (1, [.ref aw, .int (nI n), .long fw, .long nc, .int hc]))] := hD
      obtain ⟨jc, hjc, rfl⟩ := (inR_iff (by omega)).mp hb_22
      refine lv_if_eq (tgt := 43) hx hb dX9_when_25 (by decide) (fun c_25 => ?_) (fun c_25 => ?_)
      · exact absurd c_25 (by decide)
      refine lv_iload_n hx hb dX9_when_28 rfl (lv_at hl 3 rfl) ?_
      refine cl_s C (c_X4_isRelation l D cI cJ cZ r0) cd_X4_isRelation ml_X9_81 st_X4_isRelation in_X4 hd_X4_isRelation ⟨by decide, by decide⟩ hP hD hS hA (WR := [(ax, .inr (10, [.ref ay, .ref az, .ref ae, .ref ai])), (ay, .inr (9, [.ref ac, .ref av, .ref ak, .ref ag, .ref ao])), (v2, .inl (cI, 24, .inl (nF mcn))), (v3, .inl (cI, 144, .inl (nF mcl))), (v4, .inl (cI, 144, .inl mcr)), (v5, .inl (cI, 144, .inl mcv)), (av, .inr (5, [.ref v0, .ref v1, .int (nI nm), .ref v2, .ref v3, .ref v4, .ref v5, .ref v6, .ref v7, .ref v8, .ref v9])), (ac, .inr (1, [.ref aw, .int (nI n), .long fw, .long nc, .int hc]))]) [] [0, 1, 2, 3, 4, 5, 6, 7] rfl rfl rfl rfl (by decide) hl.1 rfl (Nat.le_of_ble_eq_true rfl) dX9_when_29 ⟨by decide, by decide⟩ (fun r W H locs hp hP hD hS => ?_)
      rcases hp with ⟨⟨rfl, hb_29⟩ | ⟨rfl, hb_29⟩, rfl⟩
      · -- yes 29
        refine W.eq (g2 := F0 m 32 ls [.int 1]) rfl ?_
        have hP : va_P D vwCl [(ax, .inr (10, [.ref ay, .ref az, .ref ae, .ref ai])), (ay, .inr (9, [.ref ac, .ref av, .ref ak, .ref ag, .ref ao])), (v2, .inl (cI, 24, .inl (nF mcn))), (v3, .inl (cI, 144, .inl (nF mcl))), (v4, .inl (cI, 144, .inl mcr)), (v5, .inl (cI, 144, .inl mcv)), (av, .inr (5, [.ref v0, .ref v1, .int (nI nm), .ref v2, .ref v3, .ref v4, .ref v5, .ref v6, .ref v7, .ref v8, .ref v9])), (ac, .inr (1, [.ref aw, .int (nI n), .long fw, .long nc, .int hc]))] H := hP
        have hD : va_D A [(ax, .inr (10, [.ref ay, .ref az, .ref ae, .ref ai])), (ay, .inr (9, [.ref ac, .ref av, .ref ak, .ref ag, .ref ao])), (v2, .inl (cI, 24, .inl (nF mcn))), (v3, .inl (cI, 144, .inl (nF mcl))), (v4, .inl (cI, 144, .inl mcr)), (v5, .inl (cI, 144, .inl mcv)), (av, .inr (5, [.ref v0, .ref v1, .int (nI nm), .ref v2, .ref v3, .ref v4, .ref v5, .ref v6, .ref v7, .ref v8, .ref v9])), (ac, .inr (1, [.ref aw, .int (nI n), .long fw, .long nc, .int hc]))] := hD
        refine lv_if_eq (tgt := 43) hx hb dX9_when_32 (by decide) (fun c_32 => ?_) (fun c_32 => ?_)
        · exact absurd c_32 (by decide)
        refine lv_iload hx hb dX9_when_35 (lv_at hl 4 rfl) ?_
        refine cl_s C (c_X9_isValue l D cI cJ cZ v0_) cd_X9_isValue ml_X9_43 st_X9_isValue in_X9 hd_X9_isValue ⟨by decide, by decide⟩ hP hD hS hA (WR := [(ax, .inr (10, [.ref ay, .ref az, .ref ae, .ref ai])), (ay, .inr (9, [.ref ac, .ref av, .ref ak, .ref ag, .ref ao])), (v2, .inl (cI, 24, .inl (nF mcn))), (v3, .inl (cI, 144, .inl (nF mcl))), (v4, .inl (cI, 144, .inl mcr)), (v5, .inl (cI, 144, .inl mcv)), (av, .inr (5, [.ref v0, .ref v1, .int (nI nm), .ref v2, .ref v3, .ref v4, .ref v5, .ref v6, .ref v7, .ref v8, .ref v9])), (ac, .inr (1, [.ref aw, .int (nI n), .long fw, .long nc, .int hc]))]) [] [0, 1, 2, 3, 4, 5, 6, 7] rfl rfl rfl rfl (by decide) hl.1 rfl (Nat.le_of_ble_eq_true rfl) dX9_when_37 ⟨by decide, by decide⟩ (fun r W H locs hp hP hD hS => ?_)
        rcases hp with ⟨⟨rfl, hb_37⟩ | ⟨rfl, hb_37⟩, rfl⟩
        · -- yes 37
          refine W.eq (g2 := F0 m 40 ls [.int 1]) rfl ?_
          have hP : va_P D vwCl [(ax, .inr (10, [.ref ay, .ref az, .ref ae, .ref ai])), (ay, .inr (9, [.ref ac, .ref av, .ref ak, .ref ag, .ref ao])), (v2, .inl (cI, 24, .inl (nF mcn))), (v3, .inl (cI, 144, .inl (nF mcl))), (v4, .inl (cI, 144, .inl mcr)), (v5, .inl (cI, 144, .inl mcv)), (av, .inr (5, [.ref v0, .ref v1, .int (nI nm), .ref v2, .ref v3, .ref v4, .ref v5, .ref v6, .ref v7, .ref v8, .ref v9])), (ac, .inr (1, [.ref aw, .int (nI n), .long fw, .long nc, .int hc]))] H := hP
          have hD : va_D A [(ax, .inr (10, [.ref ay, .ref az, .ref ae, .ref ai])), (ay, .inr (9, [.ref ac, .ref av, .ref ak, .ref ag, .ref ao])), (v2, .inl (cI, 24, .inl (nF mcn))), (v3, .inl (cI, 144, .inl (nF mcl))), (v4, .inl (cI, 144, .inl mcr)), (v5, .inl (cI, 144, .inl mcv)), (av, .inr (5, [.ref v0, .ref v1, .int (nI nm), .ref v2, .ref v3, .ref v4, .ref v5, .ref v6, .ref v7, .ref v8, .ref v9])), (ac, .inr (1, [.ref aw, .int (nI n), .long fw, .long nc, .int hc]))] := hD
          refine lv_if_ne (tgt := 45) hx hb dX9_when_40 (by decide) (fun c_40 => ?_) (fun c_40 => ?_)
          rotate_left
          · exact absurd c_40 (by decide)
          refine lv_aload_n hx hb dX9_when_45 rfl (lv_at hl 0 rfl) ?_
          refine r_get (v := .ref ay) C hP okX9 0 0 rfl (by decide) fl_X9_10 rfl rfl dX9_when_46 ?_
          refine r_get (v := .ref av) C hP okX8 1 1 rfl (by decide) fl_X9_70 rfl rfl dX9_when_49 ?_
          refine lv_iload_n hx hb dX9_when_52 rfl (lv_at hl 1 rfl) ?_
          refine lv_iload_n hx hb dX9_when_53 rfl (lv_at hl 2 rfl) ?_
          refine lv_iload_n hx hb dX9_when_54 rfl (lv_at hl 3 rfl) ?_
          refine lv_iload hx hb dX9_when_55 (lv_at hl 4 rfl) ?_
          refine cl_v C (c_X4_addCondition l D cI cJ cZ av nm v0 v1 v2 v3 v4 v5 v6 v7 v8 v9 mcn mcl mcr mcv j jc r0 v0_ (by omega) (hc6 _)) cd_X4_addCondition ml_X9_84 im_X4_addCondition se_X4_addCondition in_X4 hd_X4_addCondition ⟨by decide, by decide⟩ hP hD hS hA (WR := [(ax, .inr (10, [.ref ay, .ref az, .ref ae, .ref ai])), (ay, .inr (9, [.ref ac, .ref av, .ref ak, .ref ag, .ref ao])), (ac, .inr (1, [.ref aw, .int (nI n), .long fw, .long nc, .int hc]))]) [6, 2, 3, 4, 5] [0, 1, 7] rfl rfl rfl rfl (by decide) (ci := 5) (q0 := 6) rfl rfl hl.1 rfl (Nat.le_of_ble_eq_true rfl) dX9_when_57 ⟨by decide, by decide⟩ (fun r W H locs hp hP hD hS => ?_)
          rcases hp with ⟨⟨rfl, hb_57⟩ | ⟨rfl, hb_57⟩, rfl⟩
          · -- yes 57
            refine W.eq (g2 := F0 m 60 ls [.int 1]) rfl ?_
            have hP : va_P D vwCl [(ax, .inr (10, [.ref ay, .ref az, .ref ae, .ref ai])), (ay, .inr (9, [.ref ac, .ref av, .ref ak, .ref ag, .ref ao])), (ac, .inr (1, [.ref aw, .int (nI n), .long fw, .long nc, .int hc])), (av, .inr (5, [.ref v0, .ref v1, .int (nI nm), .ref v2, .ref v3, .ref v4, .ref v5, .ref v6, .ref v7, .ref v8, .ref v9])), (v2, .inl (cI, 24, .inl (nF (if mcn j < 6 then updN mcn j (mcn j + 1) else mcn)))), (v3, .inl (cI, 144, .inl (nF (if mcn j < 6 then updN mcl (j * 6 + mcn j) jc else mcl)))), (v4, .inl (cI, 144, .inl (if mcn j < 6 then upd mcr (j * 6 + mcn j) r0 else mcr))), (v5, .inl (cI, 144, .inl (if mcn j < 6 then upd mcv (j * 6 + mcn j) v0_ else mcv)))] H := hP
            have hD : va_D A [(ax, .inr (10, [.ref ay, .ref az, .ref ae, .ref ai])), (ay, .inr (9, [.ref ac, .ref av, .ref ak, .ref ag, .ref ao])), (ac, .inr (1, [.ref aw, .int (nI n), .long fw, .long nc, .int hc])), (av, .inr (5, [.ref v0, .ref v1, .int (nI nm), .ref v2, .ref v3, .ref v4, .ref v5, .ref v6, .ref v7, .ref v8, .ref v9])), (v2, .inl (cI, 24, .inl (nF (if mcn j < 6 then updN mcn j (mcn j + 1) else mcn)))), (v3, .inl (cI, 144, .inl (nF (if mcn j < 6 then updN mcl (j * 6 + mcn j) jc else mcl)))), (v4, .inl (cI, 144, .inl (if mcn j < 6 then upd mcr (j * 6 + mcn j) r0 else mcr))), (v5, .inl (cI, 144, .inl (if mcn j < 6 then upd mcv (j * 6 + mcn j) v0_ else mcv)))] := hD
            exact rt_z C hQ (by decide) (hP.sub (ws' := [(ax, .inr (10, [.ref ay, .ref az, .ref ae, .ref ai])), (ay, .inr (9, [.ref ac, .ref av, .ref ak, .ref ag, .ref ao])), (ac, .inr (1, [.ref aw, .int (nI n), .long fw, .long nc, .int hc])), (av, .inr (5, [.ref v0, .ref v1, .int (nI nm), .ref v2, .ref v3, .ref v4, .ref v5, .ref v6, .ref v7, .ref v8, .ref v9])), (v2, .inl (cI, 24, .inl (nF (if mcn j < 6 then updN mcn j (mcn j + 1) else mcn)))), (v3, .inl (cI, 144, .inl (nF (if mcn j < 6 then updN mcl (j * 6 + mcn j) jc else mcl)))), (v4, .inl (cI, 144, .inl (if mcn j < 6 then upd mcr (j * 6 + mcn j) r0 else mcr))), (v5, .inl (cI, 144, .inl (if mcn j < 6 then upd mcv (j * 6 + mcn j) v0_ else mcv)))]) [0, 1, 2, 3, 4, 5, 6, 7] rfl) (hD.sub [0, 1, 2, 3, 4, 5, 6, 7] (by decide) rfl) hS (by have hP_ : inR (nI j) nm = true ∧ inR (nI jc) n = true ∧ rg r0 0 3 = true ∧ rg v0_ 0 9 = true ∧ mcn (nI j).toNatClampNeg < 6 := ⟨hb_8, hb_22, hb_29, hb_37, by rw [nI_clamp (show j < 2 ^ 31 by omega)]; exact hb_57⟩; exact ⟨Or.inl ⟨rfl, hP_⟩, by simp only [if_pos hP_]; simp only [if_pos hb_57, nI_clamp (show j < 2 ^ 31 by omega), nI_clamp (show jc < 2 ^ 31 by omega)]⟩) (by decide) (by decide) dX9_when_60
          · -- no 57
            refine W.eq (g2 := F0 m 60 ls [.int 0]) rfl ?_
            have hP : va_P D vwCl [(ax, .inr (10, [.ref ay, .ref az, .ref ae, .ref ai])), (ay, .inr (9, [.ref ac, .ref av, .ref ak, .ref ag, .ref ao])), (ac, .inr (1, [.ref aw, .int (nI n), .long fw, .long nc, .int hc])), (av, .inr (5, [.ref v0, .ref v1, .int (nI nm), .ref v2, .ref v3, .ref v4, .ref v5, .ref v6, .ref v7, .ref v8, .ref v9])), (v2, .inl (cI, 24, .inl (nF (if mcn j < 6 then updN mcn j (mcn j + 1) else mcn)))), (v3, .inl (cI, 144, .inl (nF (if mcn j < 6 then updN mcl (j * 6 + mcn j) jc else mcl)))), (v4, .inl (cI, 144, .inl (if mcn j < 6 then upd mcr (j * 6 + mcn j) r0 else mcr))), (v5, .inl (cI, 144, .inl (if mcn j < 6 then upd mcv (j * 6 + mcn j) v0_ else mcv)))] H := hP
            have hD : va_D A [(ax, .inr (10, [.ref ay, .ref az, .ref ae, .ref ai])), (ay, .inr (9, [.ref ac, .ref av, .ref ak, .ref ag, .ref ao])), (ac, .inr (1, [.ref aw, .int (nI n), .long fw, .long nc, .int hc])), (av, .inr (5, [.ref v0, .ref v1, .int (nI nm), .ref v2, .ref v3, .ref v4, .ref v5, .ref v6, .ref v7, .ref v8, .ref v9])), (v2, .inl (cI, 24, .inl (nF (if mcn j < 6 then updN mcn j (mcn j + 1) else mcn)))), (v3, .inl (cI, 144, .inl (nF (if mcn j < 6 then updN mcl (j * 6 + mcn j) jc else mcl)))), (v4, .inl (cI, 144, .inl (if mcn j < 6 then upd mcr (j * 6 + mcn j) r0 else mcr))), (v5, .inl (cI, 144, .inl (if mcn j < 6 then upd mcv (j * 6 + mcn j) v0_ else mcv)))] := hD
            exact rt_z C hQ (by decide) (hP.sub (ws' := [(ax, .inr (10, [.ref ay, .ref az, .ref ae, .ref ai])), (ay, .inr (9, [.ref ac, .ref av, .ref ak, .ref ag, .ref ao])), (ac, .inr (1, [.ref aw, .int (nI n), .long fw, .long nc, .int hc])), (av, .inr (5, [.ref v0, .ref v1, .int (nI nm), .ref v2, .ref v3, .ref v4, .ref v5, .ref v6, .ref v7, .ref v8, .ref v9])), (v2, .inl (cI, 24, .inl (nF (if mcn j < 6 then updN mcn j (mcn j + 1) else mcn)))), (v3, .inl (cI, 144, .inl (nF (if mcn j < 6 then updN mcl (j * 6 + mcn j) jc else mcl)))), (v4, .inl (cI, 144, .inl (if mcn j < 6 then upd mcr (j * 6 + mcn j) r0 else mcr))), (v5, .inl (cI, 144, .inl (if mcn j < 6 then upd mcv (j * 6 + mcn j) v0_ else mcv)))]) [0, 1, 2, 3, 4, 5, 6, 7] rfl) (hD.sub [0, 1, 2, 3, 4, 5, 6, 7] (by decide) rfl) hS (by have hP_ : ¬ (inR (nI j) nm = true ∧ inR (nI jc) n = true ∧ rg r0 0 3 = true ∧ rg v0_ 0 9 = true ∧ mcn (nI j).toNatClampNeg < 6) := (fun z => hb_57 (by have := z.2.2.2.2; rw [nI_clamp (show j < 2 ^ 31 by omega)] at this; exact this)); exact ⟨Or.inr ⟨rfl, hP_⟩, by simp only [if_neg hP_, if_neg hb_57]⟩) (by decide) (by decide) dX9_when_60
        · -- no 37
          refine W.eq (g2 := F0 m 40 ls [.int 0]) rfl ?_
          have hP : va_P D vwCl [(ax, .inr (10, [.ref ay, .ref az, .ref ae, .ref ai])), (ay, .inr (9, [.ref ac, .ref av, .ref ak, .ref ag, .ref ao])), (v2, .inl (cI, 24, .inl (nF mcn))), (v3, .inl (cI, 144, .inl (nF mcl))), (v4, .inl (cI, 144, .inl mcr)), (v5, .inl (cI, 144, .inl mcv)), (av, .inr (5, [.ref v0, .ref v1, .int (nI nm), .ref v2, .ref v3, .ref v4, .ref v5, .ref v6, .ref v7, .ref v8, .ref v9])), (ac, .inr (1, [.ref aw, .int (nI n), .long fw, .long nc, .int hc]))] H := hP
          have hD : va_D A [(ax, .inr (10, [.ref ay, .ref az, .ref ae, .ref ai])), (ay, .inr (9, [.ref ac, .ref av, .ref ak, .ref ag, .ref ao])), (v2, .inl (cI, 24, .inl (nF mcn))), (v3, .inl (cI, 144, .inl (nF mcl))), (v4, .inl (cI, 144, .inl mcr)), (v5, .inl (cI, 144, .inl mcv)), (av, .inr (5, [.ref v0, .ref v1, .int (nI nm), .ref v2, .ref v3, .ref v4, .ref v5, .ref v6, .ref v7, .ref v8, .ref v9])), (ac, .inr (1, [.ref aw, .int (nI n), .long fw, .long nc, .int hc]))] := hD
          refine lv_if_ne (tgt := 45) hx hb dX9_when_40 (by decide) (fun c_40 => ?_) (fun c_40 => ?_)
          · exact absurd c_40 (by decide)
          refine lv_iconst (v := 0) hx hb dX9_when_43 (by decide) ?_
          exact rt_z C hQ (by decide) (hP.sub (ws' := [(ax, .inr (10, [.ref ay, .ref az, .ref ae, .ref ai])), (ay, .inr (9, [.ref ac, .ref av, .ref ak, .ref ag, .ref ao])), (ac, .inr (1, [.ref aw, .int (nI n), .long fw, .long nc, .int hc])), (av, .inr (5, [.ref v0, .ref v1, .int (nI nm), .ref v2, .ref v3, .ref v4, .ref v5, .ref v6, .ref v7, .ref v8, .ref v9])), (v2, .inl (cI, 24, .inl (nF mcn))), (v3, .inl (cI, 144, .inl (nF mcl))), (v4, .inl (cI, 144, .inl mcr)), (v5, .inl (cI, 144, .inl mcv))]) [0, 1, 7, 6, 2, 3, 4, 5] rfl) (hD.sub [0, 1, 7, 6, 2, 3, 4, 5] (by decide) rfl) hS (by have hP_ : ¬ (inR (nI j) nm = true ∧ inR (nI jc) n = true ∧ rg r0 0 3 = true ∧ rg v0_ 0 9 = true ∧ mcn (nI j).toNatClampNeg < 6) := (fun z => by first | exact hb_8 z.1 | exact hb_22 z.2.1 | exact hb_29 z.2.2.1 | exact hb_37 z.2.2.2.1); exact ⟨Or.inr ⟨rfl, hP_⟩, by simp only [if_neg hP_]⟩) (by decide) (by decide) dX9_when_44
      · -- no 29
        refine W.eq (g2 := F0 m 32 ls [.int 0]) rfl ?_
        have hP : va_P D vwCl [(ax, .inr (10, [.ref ay, .ref az, .ref ae, .ref ai])), (ay, .inr (9, [.ref ac, .ref av, .ref ak, .ref ag, .ref ao])), (v2, .inl (cI, 24, .inl (nF mcn))), (v3, .inl (cI, 144, .inl (nF mcl))), (v4, .inl (cI, 144, .inl mcr)), (v5, .inl (cI, 144, .inl mcv)), (av, .inr (5, [.ref v0, .ref v1, .int (nI nm), .ref v2, .ref v3, .ref v4, .ref v5, .ref v6, .ref v7, .ref v8, .ref v9])), (ac, .inr (1, [.ref aw, .int (nI n), .long fw, .long nc, .int hc]))] H := hP
        have hD : va_D A [(ax, .inr (10, [.ref ay, .ref az, .ref ae, .ref ai])), (ay, .inr (9, [.ref ac, .ref av, .ref ak, .ref ag, .ref ao])), (v2, .inl (cI, 24, .inl (nF mcn))), (v3, .inl (cI, 144, .inl (nF mcl))), (v4, .inl (cI, 144, .inl mcr)), (v5, .inl (cI, 144, .inl mcv)), (av, .inr (5, [.ref v0, .ref v1, .int (nI nm), .ref v2, .ref v3, .ref v4, .ref v5, .ref v6, .ref v7, .ref v8, .ref v9])), (ac, .inr (1, [.ref aw, .int (nI n), .long fw, .long nc, .int hc]))] := hD
        refine lv_if_eq (tgt := 43) hx hb dX9_when_32 (by decide) (fun c_32 => ?_) (fun c_32 => ?_)
        rotate_left
        · exact absurd c_32 (by decide)
        refine lv_iconst (v := 0) hx hb dX9_when_43 (by decide) ?_
        exact rt_z C hQ (by decide) (hP.sub (ws' := [(ax, .inr (10, [.ref ay, .ref az, .ref ae, .ref ai])), (ay, .inr (9, [.ref ac, .ref av, .ref ak, .ref ag, .ref ao])), (ac, .inr (1, [.ref aw, .int (nI n), .long fw, .long nc, .int hc])), (av, .inr (5, [.ref v0, .ref v1, .int (nI nm), .ref v2, .ref v3, .ref v4, .ref v5, .ref v6, .ref v7, .ref v8, .ref v9])), (v2, .inl (cI, 24, .inl (nF mcn))), (v3, .inl (cI, 144, .inl (nF mcl))), (v4, .inl (cI, 144, .inl mcr)), (v5, .inl (cI, 144, .inl mcv))]) [0, 1, 7, 6, 2, 3, 4, 5] rfl) (hD.sub [0, 1, 7, 6, 2, 3, 4, 5] (by decide) rfl) hS (by have hP_ : ¬ (inR (nI j) nm = true ∧ inR (nI jc) n = true ∧ rg r0 0 3 = true ∧ rg v0_ 0 9 = true ∧ mcn (nI j).toNatClampNeg < 6) := (fun z => by first | exact hb_8 z.1 | exact hb_22 z.2.1 | exact hb_29 z.2.2.1 | exact hb_37 z.2.2.2.1); exact ⟨Or.inr ⟨rfl, hP_⟩, by simp only [if_neg hP_]⟩) (by decide) (by decide) dX9_when_44
    · -- no 22
      refine W.eq (g2 := F0 m 25 ls [.int 0]) rfl ?_
      have hP : va_P D vwCl [(ax, .inr (10, [.ref ay, .ref az, .ref ae, .ref ai])), (ay, .inr (9, [.ref ac, .ref av, .ref ak, .ref ag, .ref ao])), (v2, .inl (cI, 24, .inl (nF mcn))), (v3, .inl (cI, 144, .inl (nF mcl))), (v4, .inl (cI, 144, .inl mcr)), (v5, .inl (cI, 144, .inl mcv)), (av, .inr (5, [.ref v0, .ref v1, .int (nI nm), .ref v2, .ref v3, .ref v4, .ref v5, .ref v6, .ref v7, .ref v8, .ref v9])), (ac, .inr (1, [.ref aw, .int (nI n), .long fw, .long nc, .int hc]))] H := hP
      have hD : va_D A [(ax, .inr (10, [.ref ay, .ref az, .ref ae, .ref ai])), (ay, .inr (9, [.ref ac, .ref av, .ref ak, .ref ag, .ref ao])), (v2, .inl (cI, 24, .inl (nF mcn))), (v3, .inl (cI, 144, .inl (nF mcl))), (v4, .inl (cI, 144, .inl mcr)), (v5, .inl (cI, 144, .inl mcv)), (av, .inr (5, [.ref v0, .ref v1, .int (nI nm), .ref v2, .ref v3, .ref v4, .ref v5, .ref v6, .ref v7, .ref v8, .ref v9])), (ac, .inr (1, [.ref aw, .int (nI n), .long fw, .long nc, .int hc]))] := hD
      refine lv_if_eq (tgt := 43) hx hb dX9_when_25 (by decide) (fun c_25 => ?_) (fun c_25 => ?_)
      rotate_left
      · exact absurd c_25 (by decide)
      refine lv_iconst (v := 0) hx hb dX9_when_43 (by decide) ?_
      exact rt_z C hQ (by decide) (hP.sub (ws' := [(ax, .inr (10, [.ref ay, .ref az, .ref ae, .ref ai])), (ay, .inr (9, [.ref ac, .ref av, .ref ak, .ref ag, .ref ao])), (ac, .inr (1, [.ref aw, .int (nI n), .long fw, .long nc, .int hc])), (av, .inr (5, [.ref v0, .ref v1, .int (nI nm), .ref v2, .ref v3, .ref v4, .ref v5, .ref v6, .ref v7, .ref v8, .ref v9])), (v2, .inl (cI, 24, .inl (nF mcn))), (v3, .inl (cI, 144, .inl (nF mcl))), (v4, .inl (cI, 144, .inl mcr)), (v5, .inl (cI, 144, .inl mcv))]) [0, 1, 7, 6, 2, 3, 4, 5] rfl) (hD.sub [0, 1, 7, 6, 2, 3, 4, 5] (by decide) rfl) hS (by have hP_ : ¬ (inR (nI j) nm = true ∧ inR c0 n = true ∧ rg r0 0 3 = true ∧ rg v0_ 0 9 = true ∧ mcn (nI j).toNatClampNeg < 6) := (fun z => by first | exact hb_8 z.1 | exact hb_22 z.2.1 | exact hb_29 z.2.2.1 | exact hb_37 z.2.2.2.1); exact ⟨Or.inr ⟨rfl, hP_⟩, by simp only [if_neg hP_]⟩) (by decide) (by decide) dX9_when_44
  · -- no 8
    refine W.eq (g2 := F0 m 11 ls [.int 0]) rfl ?_
    have hP : va_P D vwCl [(ax, .inr (10, [.ref ay, .ref az, .ref ae, .ref ai])), (ay, .inr (9, [.ref ac, .ref av, .ref ak, .ref ag, .ref ao])), (ac, .inr (1, [.ref aw, .int (nI n), .long fw, .long nc, .int hc])), (v2, .inl (cI, 24, .inl (nF mcn))), (v3, .inl (cI, 144, .inl (nF mcl))), (v4, .inl (cI, 144, .inl mcr)), (v5, .inl (cI, 144, .inl mcv)), (av, .inr (5, [.ref v0, .ref v1, .int (nI nm), .ref v2, .ref v3, .ref v4, .ref v5, .ref v6, .ref v7, .ref v8, .ref v9]))] H := hP
    have hD : va_D A [(ax, .inr (10, [.ref ay, .ref az, .ref ae, .ref ai])), (ay, .inr (9, [.ref ac, .ref av, .ref ak, .ref ag, .ref ao])), (ac, .inr (1, [.ref aw, .int (nI n), .long fw, .long nc, .int hc])), (v2, .inl (cI, 24, .inl (nF mcn))), (v3, .inl (cI, 144, .inl (nF mcl))), (v4, .inl (cI, 144, .inl mcr)), (v5, .inl (cI, 144, .inl mcv)), (av, .inr (5, [.ref v0, .ref v1, .int (nI nm), .ref v2, .ref v3, .ref v4, .ref v5, .ref v6, .ref v7, .ref v8, .ref v9]))] := hD
    refine lv_if_eq (tgt := 43) hx hb dX9_when_11 (by decide) (fun c_11 => ?_) (fun c_11 => ?_)
    rotate_left
    · exact absurd c_11 (by decide)
    refine lv_iconst (v := 0) hx hb dX9_when_43 (by decide) ?_
    exact rt_z C hQ (by decide) (hP.sub (ws' := [(ax, .inr (10, [.ref ay, .ref az, .ref ae, .ref ai])), (ay, .inr (9, [.ref ac, .ref av, .ref ak, .ref ag, .ref ao])), (ac, .inr (1, [.ref aw, .int (nI n), .long fw, .long nc, .int hc])), (av, .inr (5, [.ref v0, .ref v1, .int (nI nm), .ref v2, .ref v3, .ref v4, .ref v5, .ref v6, .ref v7, .ref v8, .ref v9])), (v2, .inl (cI, 24, .inl (nF mcn))), (v3, .inl (cI, 144, .inl (nF mcl))), (v4, .inl (cI, 144, .inl mcr)), (v5, .inl (cI, 144, .inl mcv))]) [0, 1, 2, 7, 3, 4, 5, 6] rfl) (hD.sub [0, 1, 2, 7, 3, 4, 5, 6] (by decide) rfl) hS (by have hP_ : ¬ (inR m0 nm = true ∧ inR c0 n = true ∧ rg r0 0 3 = true ∧ rg v0_ 0 9 = true ∧ mcn m0.toNatClampNeg < 6) := (fun z => by first | exact hb_8 z.1 | exact hb_22 z.2.1 | exact hb_29 z.2.2.1 | exact hb_37 z.2.2.2.1); exact ⟨Or.inr ⟨rfl, hP_⟩, by simp only [if_neg hP_]⟩) (by decide) (by decide) dX9_when_44
set_option maxHeartbeats 4000000 in
set_option maxRecDepth 100000 in
theorem c_X9_then (l : Launch) (D : va_G) (cI cJ cZ : ClassId) (ax : Nat) (ay : Nat) (az : Nat) (ae : Nat) (ai : Nat) (ac : Nat) (av : Nat) (ak : Nat) (ag : Nat) (ao : Nat) (aw : Nat) (n : Nat) (fw : Int64) (nc : Int64) (hc : Int32) (nm : Nat) (v0 : Nat) (v1 : Nat) (v2 : Nat) (v3 : Nat) (v4 : Nat) (v5 : Nat) (v6 : Nat) (v7 : Nat) (v8 : Nat) (v9 : Nat) (mec : Nat → Nat) (mek : Nat → Int32) (mel : Nat → Nat) (mev : Nat → Int32) (m0 : Int32) (k0 : Int32) (c0 : Int32) (v0_ : Int32) (hn : n ≤ 10) (hm : nm ≤ 24) (hc6 : ∀ k, mec k ≤ 6) : Ctr l D cI cJ cZ yX9_then cX9_then 5 (some .boolean) ({ frames := 3, cells := 0, slots := 0, locals := 64 } : Room) [.ref ax, .int m0, .int k0, .int c0, .int v0_] [(ax, .inr (10, [.ref ay, .ref az, .ref ae, .ref ai])), (ay, .inr (9, [.ref ac, .ref av, .ref ak, .ref ag, .ref ao])), (ac, .inr (1, [.ref aw, .int (nI n), .long fw, .long nc, .int hc])), (av, .inr (5, [.ref v0, .ref v1, .int (nI nm), .ref v2, .ref v3, .ref v4, .ref v5, .ref v6, .ref v7, .ref v8, .ref v9])), (v6, .inl (cI, 24, .inl (nF mec))), (v7, .inl (cI, 144, .inl mek)), (v8, .inl (cI, 144, .inl (nF mel))), (v9, .inl (cI, 144, .inl mev))] (fun r W => ((r = some (.int 1) ∧ (inR m0 nm = true ∧ inR c0 n = true ∧ f_isEffect n k0 v0_ = true ∧ mec m0.toNatClampNeg < 6)) ∨ (r = some (.int 0) ∧ ¬ (inR m0 nm = true ∧ inR c0 n = true ∧ f_isEffect n k0 v0_ = true ∧ mec m0.toNatClampNeg < 6))) ∧ W = [(ax, .inr (10, [.ref ay, .ref az, .ref ae, .ref ai])), (ay, .inr (9, [.ref ac, .ref av, .ref ak, .ref ag, .ref ao])), (ac, .inr (1, [.ref aw, .int (nI n), .long fw, .long nc, .int hc])), (av, .inr (5, [.ref v0, .ref v1, .int (nI nm), .ref v2, .ref v3, .ref v4, .ref v5, .ref v6, .ref v7, .ref v8, .ref v9])), (v6, .inl (cI, 24, .inl (nF (if inR m0 nm = true ∧ inR c0 n = true ∧ f_isEffect n k0 v0_ = true ∧ mec m0.toNatClampNeg < 6 then updN mec m0.toNatClampNeg (mec m0.toNatClampNeg + 1) else mec)))), (v7, .inl (cI, 144, .inl (if inR m0 nm = true ∧ inR c0 n = true ∧ f_isEffect n k0 v0_ = true ∧ mec m0.toNatClampNeg < 6 then upd mek (m0.toNatClampNeg * 6 + mec m0.toNatClampNeg) k0 else mek))), (v8, .inl (cI, 144, .inl (nF (if inR m0 nm = true ∧ inR c0 n = true ∧ f_isEffect n k0 v0_ = true ∧ mec m0.toNatClampNeg < 6 then updN mel (m0.toNatClampNeg * 6 + mec m0.toNatClampNeg) c0.toNatClampNeg else mel)))), (v9, .inl (cI, 144, .inl (if inR m0 nm = true ∧ inR c0 n = true ∧ f_isEffect n k0 v0_ = true ∧ mec m0.toNatClampNeg < 6 then upd mev (m0.toNatClampNeg * 6 + mec m0.toNatClampNeg) v0_ else mev)))]) := by
  refine Ctr.start (by decide +kernel) (Nat.le_of_ble_eq_true rfl) ?_
  intro p e s m below meth c A Q ls H C hQ hA hP hD hS hl
  obtain ⟨hx, hb, hr, hml, hts, hown, hlk, hnm, hK, hN⟩ := id C
  have hl : lv_has ls 5 [(0, .ref ax), (1, .int m0), (2, .int k0), (3, .int c0), (4, .int v0_)] := hl
  refine lv_aload_n hx hb dX9_then_0 rfl (lv_at hl 0 rfl) ?_
  refine r_get (v := .ref ay) C hP okX9 0 0 rfl (by decide) fl_X9_10 rfl rfl dX9_then_1 ?_
  refine r_get (v := .ref av) C hP okX8 1 1 rfl (by decide) fl_X9_70 rfl rfl dX9_then_4 ?_
  refine lv_iload_n hx hb dX9_then_7 rfl (lv_at hl 1 rfl) ?_
  refine cl_v C (c_X4_has l D cI cJ cZ av nm v0 v1 v2 v3 v4 v5 v6 v7 v8 v9 m0 (by omega)) cd_X4_has ml_X9_80 im_X4_has se_X4_has in_X4 hd_X4_has ⟨by decide, by decide⟩ hP hD hS hA (WR := [(ax, .inr (10, [.ref ay, .ref az, .ref ae, .ref ai])), (ay, .inr (9, [.ref ac, .ref av, .ref ak, .ref ag, .ref ao])), (ac, .inr (1, [.ref aw, .int (nI n), .long fw, .long nc, .int hc])), (v6, .inl (cI, 24, .inl (nF mec))), (v7, .inl (cI, 144, .inl mek)), (v8, .inl (cI, 144, .inl (nF mel))), (v9, .inl (cI, 144, .inl mev))]) [3] [0, 1, 2, 4, 5, 6, 7] rfl rfl rfl rfl (by decide) (ci := 5) (q0 := 3) rfl rfl hl.1 rfl (Nat.le_of_ble_eq_true rfl) dX9_then_8 ⟨by decide, by decide⟩ (fun r W H locs hp hP hD hS => ?_)
  rcases hp with ⟨⟨rfl, hb_8⟩ | ⟨rfl, hb_8⟩, rfl⟩
  · -- yes 8
    refine W.eq (g2 := F0 m 11 ls [.int 1]) rfl ?_
    have hP : va_P D vwCl [(ax, .inr (10, [.ref ay, .ref az, .ref ae, .ref ai])), (ay, .inr (9, [.ref ac, .ref av, .ref ak, .ref ag, .ref ao])), (ac, .inr (1, [.ref aw, .int (nI n), .long fw, .long nc, .int hc])), (v6, .inl (cI, 24, .inl (nF mec))), (v7, .inl (cI, 144, .inl mek)), (v8, .inl (cI, 144, .inl (nF mel))), (v9, .inl (cI, 144, .inl mev)), (av, .inr (5, [.ref v0, .ref v1, .int (nI nm), .ref v2, .ref v3, .ref v4, .ref v5, .ref v6, .ref v7, .ref v8, .ref v9]))] H := hP
    have hD : va_D A [(ax, .inr (10, [.ref ay, .ref az, .ref ae, .ref ai])), (ay, .inr (9, [.ref ac, .ref av, .ref ak, .ref ag, .ref ao])), (ac, .inr (1, [.ref aw, .int (nI n), .long fw, .long nc, .int hc])), (v6, .inl (cI, 24, .inl (nF mec))), (v7, .inl (cI, 144, .inl mek)), (v8, .inl (cI, 144, .inl (nF mel))), (v9, .inl (cI, 144, .inl mev)), (av, .inr (5, [.ref v0, .ref v1, .int (nI nm), .ref v2, .ref v3, .ref v4, .ref v5, .ref v6, .ref v7, .ref v8, .ref v9]))] := hD
    obtain ⟨j, hj, rfl⟩ := (inR_iff (by omega)).mp hb_8
    refine lv_if_eq (tgt := 47) hx hb dX9_then_11 (by decide) (fun c_11 => ?_) (fun c_11 => ?_)
    · exact absurd c_11 (by decide)
    refine lv_aload_n hx hb dX9_then_14 rfl (lv_at hl 0 rfl) ?_
    refine r_get (v := .ref ay) C hP okX9 0 0 rfl (by decide) fl_X9_10 rfl rfl dX9_then_15 ?_
    refine r_get (v := .ref ac) C hP okX8 1 0 rfl (by decide) fl_X9_33 rfl rfl dX9_then_18 ?_
    refine lv_iload_n hx hb dX9_then_21 rfl (lv_at hl 3 rfl) ?_
    refine cl_v C (c_X0_has l D cI cJ cZ ac aw n fw nc hc c0 (by omega)) cd_X0_has ml_X9_59 im_X0_has se_X0_has in_X0 hd_X0_has ⟨by decide, by decide⟩ hP hD hS hA (WR := [(ax, .inr (10, [.ref ay, .ref az, .ref ae, .ref ai])), (ay, .inr (9, [.ref ac, .ref av, .ref ak, .ref ag, .ref ao])), (v6, .inl (cI, 24, .inl (nF mec))), (v7, .inl (cI, 144, .inl mek)), (v8, .inl (cI, 144, .inl (nF mel))), (v9, .inl (cI, 144, .inl mev)), (av, .inr (5, [.ref v0, .ref v1, .int (nI nm), .ref v2, .ref v3, .ref v4, .ref v5, .ref v6, .ref v7, .ref v8, .ref v9]))]) [2] [0, 1, 3, 4, 5, 6, 7] rfl rfl rfl rfl (by decide) (ci := 1) (q0 := 2) rfl rfl hl.1 rfl (Nat.le_of_ble_eq_true rfl) dX9_then_22 ⟨by decide, by decide⟩ (fun r W H locs hp hP hD hS => ?_)
    rcases hp with ⟨⟨rfl, hb_22⟩ | ⟨rfl, hb_22⟩, rfl⟩
    · -- yes 22
      refine W.eq (g2 := F0 m 25 ls [.int 1]) rfl ?_
      have hP : va_P D vwCl [(ax, .inr (10, [.ref ay, .ref az, .ref ae, .ref ai])), (ay, .inr (9, [.ref ac, .ref av, .ref ak, .ref ag, .ref ao])), (v6, .inl (cI, 24, .inl (nF mec))), (v7, .inl (cI, 144, .inl mek)), (v8, .inl (cI, 144, .inl (nF mel))), (v9, .inl (cI, 144, .inl mev)), (av, .inr (5, [.ref v0, .ref v1, .int (nI nm), .ref v2, .ref v3, .ref v4, .ref v5, .ref v6, .ref v7, .ref v8, .ref v9])), (ac, .inr (1, [.ref aw, .int (nI n), .long fw, .long nc, .int hc]))] H := hP
      have hD : va_D A [(ax, .inr (10, [.ref ay, .ref az, .ref ae, .ref ai])), (ay, .inr (9, [.ref ac, .ref av, .ref ak, .ref ag, .ref ao])), (v6, .inl (cI, 24, .inl (nF mec))), (v7, .inl (cI, 144, .inl mek)), (v8, .inl (cI, 144, .inl (nF mel))), (v9, .inl (cI, 144, .inl mev)), (av, .inr (5, [.ref v0, .ref v1, .int (nI nm), .ref v2, .ref v3, .ref v4, .ref v5, .ref v6, .ref v7, .ref v8, .ref v9])), (ac, .inr (1, [.ref aw, .int (nI n), .long fw, .long nc, .int hc]))] := hD
      obtain ⟨jc, hjc, rfl⟩ := (inR_iff (by omega)).mp hb_22
      refine lv_if_eq (tgt := 47) hx hb dX9_then_25 (by decide) (fun c_25 => ?_) (fun c_25 => ?_)
      · exact absurd c_25 (by decide)
      refine lv_iload_n hx hb dX9_then_28 rfl (lv_at hl 2 rfl) ?_
      refine lv_iload hx hb dX9_then_29 (lv_at hl 4 rfl) ?_
      refine lv_aload_n hx hb dX9_then_31 rfl (lv_at hl 0 rfl) ?_
      refine r_get (v := .ref ay) C hP okX9 0 0 rfl (by decide) fl_X9_10 rfl rfl dX9_then_32 ?_
      refine r_get (v := .ref ac) C hP okX8 1 0 rfl (by decide) fl_X9_33 rfl rfl dX9_then_35 ?_
      refine r_get (v := .int (nI n)) C hP okX0 7 1 rfl (by decide) fl_X9_37 rfl rfl dX9_then_38 ?_
      refine cl_s C (c_X4_isEffect l D cI cJ cZ k0 v0_ n (by omega)) cd_X4_isEffect ml_X9_88 st_X4_isEffect in_X4 hd_X4_isEffect ⟨by decide, by decide⟩ hP hD hS hA (WR := [(ax, .inr (10, [.ref ay, .ref az, .ref ae, .ref ai])), (ay, .inr (9, [.ref ac, .ref av, .ref ak, .ref ag, .ref ao])), (v6, .inl (cI, 24, .inl (nF mec))), (v7, .inl (cI, 144, .inl mek)), (v8, .inl (cI, 144, .inl (nF mel))), (v9, .inl (cI, 144, .inl mev)), (av, .inr (5, [.ref v0, .ref v1, .int (nI nm), .ref v2, .ref v3, .ref v4, .ref v5, .ref v6, .ref v7, .ref v8, .ref v9])), (ac, .inr (1, [.ref aw, .int (nI n), .long fw, .long nc, .int hc]))]) [] [0, 1, 2, 3, 4, 5, 6, 7] rfl rfl rfl rfl (by decide) hl.1 rfl (Nat.le_of_ble_eq_true rfl) dX9_then_41 ⟨by decide, by decide⟩ (fun r W H locs hp hP hD hS => ?_)
      rcases hp with ⟨⟨rfl, hb_41⟩ | ⟨rfl, hb_41⟩, rfl⟩
      · -- yes 41
        refine W.eq (g2 := F0 m 44 ls [.int 1]) rfl ?_
        have hP : va_P D vwCl [(ax, .inr (10, [.ref ay, .ref az, .ref ae, .ref ai])), (ay, .inr (9, [.ref ac, .ref av, .ref ak, .ref ag, .ref ao])), (v6, .inl (cI, 24, .inl (nF mec))), (v7, .inl (cI, 144, .inl mek)), (v8, .inl (cI, 144, .inl (nF mel))), (v9, .inl (cI, 144, .inl mev)), (av, .inr (5, [.ref v0, .ref v1, .int (nI nm), .ref v2, .ref v3, .ref v4, .ref v5, .ref v6, .ref v7, .ref v8, .ref v9])), (ac, .inr (1, [.ref aw, .int (nI n), .long fw, .long nc, .int hc]))] H := hP
        have hD : va_D A [(ax, .inr (10, [.ref ay, .ref az, .ref ae, .ref ai])), (ay, .inr (9, [.ref ac, .ref av, .ref ak, .ref ag, .ref ao])), (v6, .inl (cI, 24, .inl (nF mec))), (v7, .inl (cI, 144, .inl mek)), (v8, .inl (cI, 144, .inl (nF mel))), (v9, .inl (cI, 144, .inl mev)), (av, .inr (5, [.ref v0, .ref v1, .int (nI nm), .ref v2, .ref v3, .ref v4, .ref v5, .ref v6, .ref v7, .ref v8, .ref v9])), (ac, .inr (1, [.ref aw, .int (nI n), .long fw, .long nc, .int hc]))] := hD
        refine lv_if_ne (tgt := 49) hx hb dX9_then_44 (by decide) (fun c_44 => ?_) (fun c_44 => ?_)
        rotate_left
        · exact absurd c_44 (by decide)
        refine lv_aload_n hx hb dX9_then_49 rfl (lv_at hl 0 rfl) ?_
        refine r_get (v := .ref ay) C hP okX9 0 0 rfl (by decide) fl_X9_10 rfl rfl dX9_then_50 ?_
        refine r_get (v := .ref av) C hP okX8 1 1 rfl (by decide) fl_X9_70 rfl rfl dX9_then_53 ?_
        refine lv_iload_n hx hb dX9_then_56 rfl (lv_at hl 1 rfl) ?_
        refine lv_iload_n hx hb dX9_then_57 rfl (lv_at hl 2 rfl) ?_
        refine lv_iload_n hx hb dX9_then_58 rfl (lv_at hl 3 rfl) ?_
        refine lv_iload hx hb dX9_then_59 (lv_at hl 4 rfl) ?_
        refine cl_v C (c_X4_addEffect l D cI cJ cZ av nm v0 v1 v2 v3 v4 v5 v6 v7 v8 v9 mec mek mel mev j k0 jc v0_ (by omega) (hc6 _)) cd_X4_addEffect ml_X9_91 im_X4_addEffect se_X4_addEffect in_X4 hd_X4_addEffect ⟨by decide, by decide⟩ hP hD hS hA (WR := [(ax, .inr (10, [.ref ay, .ref az, .ref ae, .ref ai])), (ay, .inr (9, [.ref ac, .ref av, .ref ak, .ref ag, .ref ao])), (ac, .inr (1, [.ref aw, .int (nI n), .long fw, .long nc, .int hc]))]) [6, 2, 3, 4, 5] [0, 1, 7] rfl rfl rfl rfl (by decide) (ci := 5) (q0 := 6) rfl rfl hl.1 rfl (Nat.le_of_ble_eq_true rfl) dX9_then_61 ⟨by decide, by decide⟩ (fun r W H locs hp hP hD hS => ?_)
        rcases hp with ⟨⟨rfl, hb_61⟩ | ⟨rfl, hb_61⟩, rfl⟩
        · -- yes 61
          refine W.eq (g2 := F0 m 64 ls [.int 1]) rfl ?_
          have hP : va_P D vwCl [(ax, .inr (10, [.ref ay, .ref az, .ref ae, .ref ai])), (ay, .inr (9, [.ref ac, .ref av, .ref ak, .ref ag, .ref ao])), (ac, .inr (1, [.ref aw, .int (nI n), .long fw, .long nc, .int hc])), (av, .inr (5, [.ref v0, .ref v1, .int (nI nm), .ref v2, .ref v3, .ref v4, .ref v5, .ref v6, .ref v7, .ref v8, .ref v9])), (v6, .inl (cI, 24, .inl (nF (if mec j < 6 then updN mec j (mec j + 1) else mec)))), (v7, .inl (cI, 144, .inl (if mec j < 6 then upd mek (j * 6 + mec j) k0 else mek))), (v8, .inl (cI, 144, .inl (nF (if mec j < 6 then updN mel (j * 6 + mec j) jc else mel)))), (v9, .inl (cI, 144, .inl (if mec j < 6 then upd mev (j * 6 + mec j) v0_ else mev)))] H := hP
          have hD : va_D A [(ax, .inr (10, [.ref ay, .ref az, .ref ae, .ref ai])), (ay, .inr (9, [.ref ac, .ref av, .ref ak, .ref ag, .ref ao])), (ac, .inr (1, [.ref aw, .int (nI n), .long fw, .long nc, .int hc])), (av, .inr (5, [.ref v0, .ref v1, .int (nI nm), .ref v2, .ref v3, .ref v4, .ref v5, .ref v6, .ref v7, .ref v8, .ref v9])), (v6, .inl (cI, 24, .inl (nF (if mec j < 6 then updN mec j (mec j + 1) else mec)))), (v7, .inl (cI, 144, .inl (if mec j < 6 then upd mek (j * 6 + mec j) k0 else mek))), (v8, .inl (cI, 144, .inl (nF (if mec j < 6 then updN mel (j * 6 + mec j) jc else mel)))), (v9, .inl (cI, 144, .inl (if mec j < 6 then upd mev (j * 6 + mec j) v0_ else mev)))] := hD
          exact rt_z C hQ (by decide) (hP.sub (ws' := [(ax, .inr (10, [.ref ay, .ref az, .ref ae, .ref ai])), (ay, .inr (9, [.ref ac, .ref av, .ref ak, .ref ag, .ref ao])), (ac, .inr (1, [.ref aw, .int (nI n), .long fw, .long nc, .int hc])), (av, .inr (5, [.ref v0, .ref v1, .int (nI nm), .ref v2, .ref v3, .ref v4, .ref v5, .ref v6, .ref v7, .ref v8, .ref v9])), (v6, .inl (cI, 24, .inl (nF (if mec j < 6 then updN mec j (mec j + 1) else mec)))), (v7, .inl (cI, 144, .inl (if mec j < 6 then upd mek (j * 6 + mec j) k0 else mek))), (v8, .inl (cI, 144, .inl (nF (if mec j < 6 then updN mel (j * 6 + mec j) jc else mel)))), (v9, .inl (cI, 144, .inl (if mec j < 6 then upd mev (j * 6 + mec j) v0_ else mev)))]) [0, 1, 2, 3, 4, 5, 6, 7] rfl) (hD.sub [0, 1, 2, 3, 4, 5, 6, 7] (by decide) rfl) hS (by have hP_ : inR (nI j) nm = true ∧ inR (nI jc) n = true ∧ f_isEffect n k0 v0_ = true ∧ mec (nI j).toNatClampNeg < 6 := ⟨hb_8, hb_22, hb_41, by rw [nI_clamp (show j < 2 ^ 31 by omega)]; exact hb_61⟩; exact ⟨Or.inl ⟨rfl, hP_⟩, by simp only [if_pos hP_]; simp only [if_pos hb_61, nI_clamp (show j < 2 ^ 31 by omega), nI_clamp (show jc < 2 ^ 31 by omega)]⟩) (by decide) (by decide) dX9_then_64
        · -- no 61
          refine W.eq (g2 := F0 m 64 ls [.int 0]) rfl ?_
          have hP : va_P D vwCl [(ax, .inr (10, [.ref ay, .ref az, .ref ae, .ref ai])), (ay, .inr (9, [.ref ac, .ref av, .ref ak, .ref ag, .ref ao])), (ac, .inr (1, [.ref aw, .int (nI n), .long fw, .long nc, .int hc])), (av, .inr (5, [.ref v0, .ref v1, .int (nI nm), .ref v2, .ref v3, .ref v4, .ref v5, .ref v6, .ref v7, .ref v8, .ref v9])), (v6, .inl (cI, 24, .inl (nF (if mec j < 6 then updN mec j (mec j + 1) else mec)))), (v7, .inl (cI, 144, .inl (if mec j < 6 then upd mek (j * 6 + mec j) k0 else mek))), (v8, .inl (cI, 144, .inl (nF (if mec j < 6 then updN mel (j * 6 + mec j) jc else mel)))), (v9, .inl (cI, 144, .inl (if mec j < 6 then upd mev (j * 6 + mec j) v0_ else mev)))] H := hP
          have hD : va_D A [(ax, .inr (10, [.ref ay, .ref az, .ref ae, .ref ai])), (ay, .inr (9, [.ref ac, .ref av, .ref ak, .ref ag, .ref ao])), (ac, .inr (1, [.ref aw, .int (nI n), .long fw, .long nc, .int hc])), (av, .inr (5, [.ref v0, .ref v1, .int (nI nm), .ref v2, .ref v3, .ref v4, .ref v5, .ref v6, .ref v7, .ref v8, .ref v9])), (v6, .inl (cI, 24, .inl (nF (if mec j < 6 then updN mec j (mec j + 1) else mec)))), (v7, .inl (cI, 144, .inl (if mec j < 6 then upd mek (j * 6 + mec j) k0 else mek))), (v8, .inl (cI, 144, .inl (nF (if mec j < 6 then updN mel (j * 6 + mec j) jc else mel)))), (v9, .inl (cI, 144, .inl (if mec j < 6 then upd mev (j * 6 + mec j) v0_ else mev)))] := hD
          exact rt_z C hQ (by decide) (hP.sub (ws' := [(ax, .inr (10, [.ref ay, .ref az, .ref ae, .ref ai])), (ay, .inr (9, [.ref ac, .ref av, .ref ak, .ref ag, .ref ao])), (ac, .inr (1, [.ref aw, .int (nI n), .long fw, .long nc, .int hc])), (av, .inr (5, [.ref v0, .ref v1, .int (nI nm), .ref v2, .ref v3, .ref v4, .ref v5, .ref v6, .ref v7, .ref v8, .ref v9])), (v6, .inl (cI, 24, .inl (nF (if mec j < 6 then updN mec j (mec j + 1) else mec)))), (v7, .inl (cI, 144, .inl (if mec j < 6 then upd mek (j * 6 + mec j) k0 else mek))), (v8, .inl (cI, 144, .inl (nF (if mec j < 6 then updN mel (j * 6 + mec j) jc else mel)))), (v9, .inl (cI, 144, .inl (if mec j < 6 then upd mev (j * 6 + mec j) v0_ else mev)))]) [0, 1, 2, 3, 4, 5, 6, 7] rfl) (hD.sub [0, 1, 2, 3, 4, 5, 6, 7] (by decide) rfl) hS (by have hP_ : ¬ (inR (nI j) nm = true ∧ inR (nI jc) n = true ∧ f_isEffect n k0 v0_ = true ∧ mec (nI j).toNatClampNeg < 6) := (fun z => hb_61 (by have := z.2.2.2; rw [nI_clamp (show j < 2 ^ 31 by omega)] at this; exact this)); exact ⟨Or.inr ⟨rfl, hP_⟩, by simp only [if_neg hP_, if_neg hb_61]⟩) (by decide) (by decide) dX9_then_64
      · -- no 41
        refine W.eq (g2 := F0 m 44 ls [.int 0]) rfl ?_
        have hP : va_P D vwCl [(ax, .inr (10, [.ref ay, .ref az, .ref ae, .ref ai])), (ay, .inr (9, [.ref ac, .ref av, .ref ak, .ref ag, .ref ao])), (v6, .inl (cI, 24, .inl (nF mec))), (v7, .inl (cI, 144, .inl mek)), (v8, .inl (cI, 144, .inl (nF mel))), (v9, .inl (cI, 144, .inl mev)), (av, .inr (5, [.ref v0, .ref v1, .int (nI nm), .ref v2, .ref v3, .ref v4, .ref v5, .ref v6, .ref v7, .ref v8, .ref v9])), (ac, .inr (1, [.ref aw, .int (nI n), .long fw, .long nc, .int hc]))] H := hP
        have hD : va_D A [(ax, .inr (10, [.ref ay, .ref az, .ref ae, .ref ai])), (ay, .inr (9, [.ref ac, .ref av, .ref ak, .ref ag, .ref ao])), (v6, .inl (cI, 24, .inl (nF mec))), (v7, .inl (cI, 144, .inl mek)), (v8, .inl (cI, 144, .inl (nF mel))), (v9, .inl (cI, 144, .inl mev)), (av, .inr (5, [.ref v0, .ref v1, .int (nI nm), .ref v2, .ref v3, .ref v4, .ref v5, .ref v6, .ref v7, .ref v8, .ref v9])), (ac, .inr (1, [.ref aw, .int (nI n), .long fw, .long nc, .int hc]))] := hD
        refine lv_if_ne (tgt := 49) hx hb dX9_then_44 (by decide) (fun c_44 => ?_) (fun c_44 => ?_)
        · exact absurd c_44 (by decide)
        refine lv_iconst (v := 0) hx hb dX9_then_47 (by decide) ?_
        exact rt_z C hQ (by decide) (hP.sub (ws' := [(ax, .inr (10, [.ref ay, .ref az, .ref ae, .ref ai])), (ay, .inr (9, [.ref ac, .ref av, .ref ak, .ref ag, .ref ao])), (ac, .inr (1, [.ref aw, .int (nI n), .long fw, .long nc, .int hc])), (av, .inr (5, [.ref v0, .ref v1, .int (nI nm), .ref v2, .ref v3, .ref v4, .ref v5, .ref v6, .ref v7, .ref v8, .ref v9])), (v6, .inl (cI, 24, .inl (nF mec))), (v7, .inl (cI, 144, .inl mek)), (v8, .inl (cI, 144, .inl (nF mel))), (v9, .inl (cI, 144, .inl mev))]) [0, 1, 7, 6, 2, 3, 4, 5] rfl) (hD.sub [0, 1, 7, 6, 2, 3, 4, 5] (by decide) rfl) hS (by have hP_ : ¬ (inR (nI j) nm = true ∧ inR (nI jc) n = true ∧ f_isEffect n k0 v0_ = true ∧ mec (nI j).toNatClampNeg < 6) := (fun z => by first | exact hb_8 z.1 | exact hb_22 z.2.1 | exact hb_41 z.2.2.1); exact ⟨Or.inr ⟨rfl, hP_⟩, by simp only [if_neg hP_]⟩) (by decide) (by decide) dX9_then_48
    · -- no 22
      refine W.eq (g2 := F0 m 25 ls [.int 0]) rfl ?_
      have hP : va_P D vwCl [(ax, .inr (10, [.ref ay, .ref az, .ref ae, .ref ai])), (ay, .inr (9, [.ref ac, .ref av, .ref ak, .ref ag, .ref ao])), (v6, .inl (cI, 24, .inl (nF mec))), (v7, .inl (cI, 144, .inl mek)), (v8, .inl (cI, 144, .inl (nF mel))), (v9, .inl (cI, 144, .inl mev)), (av, .inr (5, [.ref v0, .ref v1, .int (nI nm), .ref v2, .ref v3, .ref v4, .ref v5, .ref v6, .ref v7, .ref v8, .ref v9])), (ac, .inr (1, [.ref aw, .int (nI n), .long fw, .long nc, .int hc]))] H := hP
      have hD : va_D A [(ax, .inr (10, [.ref ay, .ref az, .ref ae, .ref ai])), (ay, .inr (9, [.ref ac, .ref av, .ref ak, .ref ag, .ref ao])), (v6, .inl (cI, 24, .inl (nF mec))), (v7, .inl (cI, 144, .inl mek)), (v8, .inl (cI, 144, .inl (nF mel))), (v9, .inl (cI, 144, .inl mev)), (av, .inr (5, [.ref v0, .ref v1, .int (nI nm), .ref v2, .ref v3, .ref v4, .ref v5, .ref v6, .ref v7, .ref v8, .ref v9])), (ac, .inr (1, [.ref aw, .int (nI n), .long fw, .long nc, .int hc]))] := hD
      refine lv_if_eq (tgt := 47) hx hb dX9_then_25 (by decide) (fun c_25 => ?_) (fun c_25 => ?_)
      rotate_left
      · exact absurd c_25 (by decide)
      refine lv_iconst (v := 0) hx hb dX9_then_47 (by decide) ?_
      exact rt_z C hQ (by decide) (hP.sub (ws' := [(ax, .inr (10, [.ref ay, .ref az, .ref ae, .ref ai])), (ay, .inr (9, [.ref ac, .ref av, .ref ak, .ref ag, .ref ao])), (ac, .inr (1, [.ref aw, .int (nI n), .long fw, .long nc, .int hc])), (av, .inr (5, [.ref v0, .ref v1, .int (nI nm), .ref v2, .ref v3, .ref v4, .ref v5, .ref v6, .ref v7, .ref v8, .ref v9])), (v6, .inl (cI, 24, .inl (nF mec))), (v7, .inl (cI, 144, .inl mek)), (v8, .inl (cI, 144, .inl (nF mel))), (v9, .inl (cI, 144, .inl mev))]) [0, 1, 7, 6, 2, 3, 4, 5] rfl) (hD.sub [0, 1, 7, 6, 2, 3, 4, 5] (by decide) rfl) hS (by have hP_ : ¬ (inR (nI j) nm = true ∧ inR c0 n = true ∧ f_isEffect n k0 v0_ = true ∧ mec (nI j).toNatClampNeg < 6) := (fun z => by first | exact hb_8 z.1 | exact hb_22 z.2.1 | exact hb_41 z.2.2.1); exact ⟨Or.inr ⟨rfl, hP_⟩, by simp only [if_neg hP_]⟩) (by decide) (by decide) dX9_then_48
  · -- no 8
    refine W.eq (g2 := F0 m 11 ls [.int 0]) rfl ?_
    have hP : va_P D vwCl [(ax, .inr (10, [.ref ay, .ref az, .ref ae, .ref ai])), (ay, .inr (9, [.ref ac, .ref av, .ref ak, .ref ag, .ref ao])), (ac, .inr (1, [.ref aw, .int (nI n), .long fw, .long nc, .int hc])), (v6, .inl (cI, 24, .inl (nF mec))), (v7, .inl (cI, 144, .inl mek)), (v8, .inl (cI, 144, .inl (nF mel))), (v9, .inl (cI, 144, .inl mev)), (av, .inr (5, [.ref v0, .ref v1, .int (nI nm), .ref v2, .ref v3, .ref v4, .ref v5, .ref v6, .ref v7, .ref v8, .ref v9]))] H := hP
    have hD : va_D A [(ax, .inr (10, [.ref ay, .ref az, .ref ae, .ref ai])), (ay, .inr (9, [.ref ac, .ref av, .ref ak, .ref ag, .ref ao])), (ac, .inr (1, [.ref aw, .int (nI n), .long fw, .long nc, .int hc])), (v6, .inl (cI, 24, .inl (nF mec))), (v7, .inl (cI, 144, .inl mek)), (v8, .inl (cI, 144, .inl (nF mel))), (v9, .inl (cI, 144, .inl mev)), (av, .inr (5, [.ref v0, .ref v1, .int (nI nm), .ref v2, .ref v3, .ref v4, .ref v5, .ref v6, .ref v7, .ref v8, .ref v9]))] := hD
    refine lv_if_eq (tgt := 47) hx hb dX9_then_11 (by decide) (fun c_11 => ?_) (fun c_11 => ?_)
    rotate_left
    · exact absurd c_11 (by decide)
    refine lv_iconst (v := 0) hx hb dX9_then_47 (by decide) ?_
    exact rt_z C hQ (by decide) (hP.sub (ws' := [(ax, .inr (10, [.ref ay, .ref az, .ref ae, .ref ai])), (ay, .inr (9, [.ref ac, .ref av, .ref ak, .ref ag, .ref ao])), (ac, .inr (1, [.ref aw, .int (nI n), .long fw, .long nc, .int hc])), (av, .inr (5, [.ref v0, .ref v1, .int (nI nm), .ref v2, .ref v3, .ref v4, .ref v5, .ref v6, .ref v7, .ref v8, .ref v9])), (v6, .inl (cI, 24, .inl (nF mec))), (v7, .inl (cI, 144, .inl mek)), (v8, .inl (cI, 144, .inl (nF mel))), (v9, .inl (cI, 144, .inl mev))]) [0, 1, 2, 7, 3, 4, 5, 6] rfl) (hD.sub [0, 1, 2, 7, 3, 4, 5, 6] (by decide) rfl) hS (by have hP_ : ¬ (inR m0 nm = true ∧ inR c0 n = true ∧ f_isEffect n k0 v0_ = true ∧ mec m0.toNatClampNeg < 6) := (fun z => by first | exact hb_8 z.1 | exact hb_22 z.2.1 | exact hb_41 z.2.2.1); exact ⟨Or.inr ⟨rfl, hP_⟩, by simp only [if_neg hP_]⟩) (by decide) (by decide) dX9_then_48
set_option maxHeartbeats 4000000 in
set_option maxRecDepth 100000 in
theorem c_X9_show (l : Launch) (D : va_G) (cI cJ cZ : ClassId) (ax : Nat) (ay : Nat) (az : Nat) (ae : Nat) (ai : Nat) (ac : Nat) (av : Nat) (ak : Nat) (ag : Nat) (ao : Nat) (nm : Nat) (v0 : Nat) (v1 : Nat) (v2 : Nat) (v3 : Nat) (v4 : Nat) (v5 : Nat) (v6 : Nat) (v7 : Nat) (v8 : Nat) (v9 : Nat) (mtx : Nat → Int32) (m0 : Int32) (t0_ : Int32) (hm : nm ≤ 24) : Ctr l D cI cJ cZ yX9_show cX9_show 3 (some .boolean) ({ frames := 2, cells := 0, slots := 0, locals := 43 } : Room) [.ref ax, .int m0, .int t0_] [(ax, .inr (10, [.ref ay, .ref az, .ref ae, .ref ai])), (ay, .inr (9, [.ref ac, .ref av, .ref ak, .ref ag, .ref ao])), (av, .inr (5, [.ref v0, .ref v1, .int (nI nm), .ref v2, .ref v3, .ref v4, .ref v5, .ref v6, .ref v7, .ref v8, .ref v9])), (v0, .inl (cI, 24, .inl mtx))] (fun r W => ((r = some (.int 1) ∧ (inR m0 nm = true ∧ rg t0_ (-1) 31 = true)) ∨ (r = some (.int 0) ∧ ¬ (inR m0 nm = true ∧ rg t0_ (-1) 31 = true))) ∧ W = [(ax, .inr (10, [.ref ay, .ref az, .ref ae, .ref ai])), (ay, .inr (9, [.ref ac, .ref av, .ref ak, .ref ag, .ref ao])), (av, .inr (5, [.ref v0, .ref v1, .int (nI nm), .ref v2, .ref v3, .ref v4, .ref v5, .ref v6, .ref v7, .ref v8, .ref v9])), (v0, .inl (cI, 24, .inl (if inR m0 nm = true ∧ rg t0_ (-1) 31 = true then upd mtx m0.toNatClampNeg t0_ else mtx)))]) := by
  refine Ctr.start (by decide +kernel) (Nat.le_of_ble_eq_true rfl) ?_
  intro p e s m below meth c A Q ls H C hQ hA hP hD hS hl
  obtain ⟨hx, hb, hr, hml, hts, hown, hlk, hnm, hK, hN⟩ := id C
  have hl : lv_has ls 3 [(0, .ref ax), (1, .int m0), (2, .int t0_)] := hl
  refine lv_aload_n hx hb dX9_show_0 rfl (lv_at hl 0 rfl) ?_
  refine r_get (v := .ref ay) C hP okX9 0 0 rfl (by decide) fl_X9_10 rfl rfl dX9_show_1 ?_
  refine r_get (v := .ref av) C hP okX8 1 1 rfl (by decide) fl_X9_70 rfl rfl dX9_show_4 ?_
  refine lv_iload_n hx hb dX9_show_7 rfl (lv_at hl 1 rfl) ?_
  refine cl_v C (c_X4_has l D cI cJ cZ av nm v0 v1 v2 v3 v4 v5 v6 v7 v8 v9 m0 (by omega)) cd_X4_has ml_X9_80 im_X4_has se_X4_has in_X4 hd_X4_has ⟨by decide, by decide⟩ hP hD hS hA (WR := [(ax, .inr (10, [.ref ay, .ref az, .ref ae, .ref ai])), (ay, .inr (9, [.ref ac, .ref av, .ref ak, .ref ag, .ref ao])), (v0, .inl (cI, 24, .inl mtx))]) [2] [0, 1, 3] rfl rfl rfl rfl (by decide) (ci := 5) (q0 := 2) rfl rfl hl.1 rfl (Nat.le_of_ble_eq_true rfl) dX9_show_8 ⟨by decide, by decide⟩ (fun r W H locs hp hP hD hS => ?_)
  rcases hp with ⟨⟨rfl, hb_8⟩ | ⟨rfl, hb_8⟩, rfl⟩
  · -- yes 8
    refine W.eq (g2 := F0 m 11 ls [.int 1]) rfl ?_
    have hP : va_P D vwCl [(ax, .inr (10, [.ref ay, .ref az, .ref ae, .ref ai])), (ay, .inr (9, [.ref ac, .ref av, .ref ak, .ref ag, .ref ao])), (v0, .inl (cI, 24, .inl mtx)), (av, .inr (5, [.ref v0, .ref v1, .int (nI nm), .ref v2, .ref v3, .ref v4, .ref v5, .ref v6, .ref v7, .ref v8, .ref v9]))] H := hP
    have hD : va_D A [(ax, .inr (10, [.ref ay, .ref az, .ref ae, .ref ai])), (ay, .inr (9, [.ref ac, .ref av, .ref ak, .ref ag, .ref ao])), (v0, .inl (cI, 24, .inl mtx)), (av, .inr (5, [.ref v0, .ref v1, .int (nI nm), .ref v2, .ref v3, .ref v4, .ref v5, .ref v6, .ref v7, .ref v8, .ref v9]))] := hD
    obtain ⟨j, hj, rfl⟩ := (inR_iff (by omega)).mp hb_8
    refine lv_if_eq (tgt := 26) hx hb dX9_show_11 (by decide) (fun c_11 => ?_) (fun c_11 => ?_)
    · exact absurd c_11 (by decide)
    refine lv_iload_n hx hb dX9_show_14 rfl (lv_at hl 2 rfl) ?_
    refine lv_iconst (v := (-1)) hx hb dX9_show_15 (by decide) ?_
    refine lv_icmp_eq (tgt := 28) hx hb dX9_show_16 (by decide) (fun c_16 => ?_) (fun c_16 => ?_)
    · -- taken 16
      refine lv_aload_n hx hb dX9_show_28 rfl (lv_at hl 0 rfl) ?_
      refine r_get (v := .ref ay) C hP okX9 0 0 rfl (by decide) fl_X9_10 rfl rfl dX9_show_29 ?_
      refine r_get (v := .ref av) C hP okX8 1 1 rfl (by decide) fl_X9_70 rfl rfl dX9_show_32 ?_
      refine r_get (v := .ref v0) C hP okX4 3 0 rfl (by decide) fl_X9_97 rfl rfl dX9_show_35 ?_
      refine lv_iload_n hx hb dX9_show_38 rfl (lv_at hl 1 rfl) ?_
      refine lv_iload_n hx hb dX9_show_39 rfl (lv_at hl 2 rfl) ?_
      refine r_iast (j := j) C hP hD hS 2 rfl (by omega) (by decide) dX9_show_40 (fun H locs hP hD hS => ?_)
      have hP : va_P D vwCl [(ax, .inr (10, [.ref ay, .ref az, .ref ae, .ref ai])), (ay, .inr (9, [.ref ac, .ref av, .ref ak, .ref ag, .ref ao])), (v0, .inl (cI, 24, .inl (upd mtx j t0_))), (av, .inr (5, [.ref v0, .ref v1, .int (nI nm), .ref v2, .ref v3, .ref v4, .ref v5, .ref v6, .ref v7, .ref v8, .ref v9]))] H := hP
      have hD : va_D A [(ax, .inr (10, [.ref ay, .ref az, .ref ae, .ref ai])), (ay, .inr (9, [.ref ac, .ref av, .ref ak, .ref ag, .ref ao])), (v0, .inl (cI, 24, .inl (upd mtx j t0_))), (av, .inr (5, [.ref v0, .ref v1, .int (nI nm), .ref v2, .ref v3, .ref v4, .ref v5, .ref v6, .ref v7, .ref v8, .ref v9]))] := hD
      refine lv_iconst (v := 1) hx hb dX9_show_41 (by decide) ?_
      exact rt_z C hQ (by decide) (hP.sub (ws' := [(ax, .inr (10, [.ref ay, .ref az, .ref ae, .ref ai])), (ay, .inr (9, [.ref ac, .ref av, .ref ak, .ref ag, .ref ao])), (av, .inr (5, [.ref v0, .ref v1, .int (nI nm), .ref v2, .ref v3, .ref v4, .ref v5, .ref v6, .ref v7, .ref v8, .ref v9])), (v0, .inl (cI, 24, .inl (upd mtx j t0_)))]) [0, 1, 3, 2] rfl) (hD.sub [0, 1, 3, 2] (by decide) rfl) hS (by have hP_ : inR (nI j) nm = true ∧ rg t0_ (-1) 31 = true := ⟨hb_8, rg_show.mpr (by first | exact Or.inl c_16 | exact Or.inr hb_20)⟩; exact ⟨Or.inl ⟨rfl, hP_⟩, by simp only [if_pos hP_, nI_clamp (show j < 2 ^ 31 by omega)]⟩) (by decide) (by decide) dX9_show_42
    · -- not taken 16
      refine lv_iload_n hx hb dX9_show_19 rfl (lv_at hl 2 rfl) ?_
      refine cl_s C (c_X9_isText l D cI cJ cZ t0_) cd_X9_isText ml_X9_94 st_X9_isText in_X9 hd_X9_isText ⟨by decide, by decide⟩ hP hD hS hA (WR := [(ax, .inr (10, [.ref ay, .ref az, .ref ae, .ref ai])), (ay, .inr (9, [.ref ac, .ref av, .ref ak, .ref ag, .ref ao])), (v0, .inl (cI, 24, .inl mtx)), (av, .inr (5, [.ref v0, .ref v1, .int (nI nm), .ref v2, .ref v3, .ref v4, .ref v5, .ref v6, .ref v7, .ref v8, .ref v9]))]) [] [0, 1, 2, 3] rfl rfl rfl rfl (by decide) hl.1 rfl (Nat.le_of_ble_eq_true rfl) dX9_show_20 ⟨by decide, by decide⟩ (fun r W H locs hp hP hD hS => ?_)
      rcases hp with ⟨⟨rfl, hb_20⟩ | ⟨rfl, hb_20⟩, rfl⟩
      · -- yes 20
        refine W.eq (g2 := F0 m 23 ls [.int 1]) rfl ?_
        have hP : va_P D vwCl [(ax, .inr (10, [.ref ay, .ref az, .ref ae, .ref ai])), (ay, .inr (9, [.ref ac, .ref av, .ref ak, .ref ag, .ref ao])), (v0, .inl (cI, 24, .inl mtx)), (av, .inr (5, [.ref v0, .ref v1, .int (nI nm), .ref v2, .ref v3, .ref v4, .ref v5, .ref v6, .ref v7, .ref v8, .ref v9]))] H := hP
        have hD : va_D A [(ax, .inr (10, [.ref ay, .ref az, .ref ae, .ref ai])), (ay, .inr (9, [.ref ac, .ref av, .ref ak, .ref ag, .ref ao])), (v0, .inl (cI, 24, .inl mtx)), (av, .inr (5, [.ref v0, .ref v1, .int (nI nm), .ref v2, .ref v3, .ref v4, .ref v5, .ref v6, .ref v7, .ref v8, .ref v9]))] := hD
        refine lv_if_ne (tgt := 28) hx hb dX9_show_23 (by decide) (fun c_23 => ?_) (fun c_23 => ?_)
        rotate_left
        · exact absurd c_23 (by decide)
        refine lv_aload_n hx hb dX9_show_28 rfl (lv_at hl 0 rfl) ?_
        refine r_get (v := .ref ay) C hP okX9 0 0 rfl (by decide) fl_X9_10 rfl rfl dX9_show_29 ?_
        refine r_get (v := .ref av) C hP okX8 1 1 rfl (by decide) fl_X9_70 rfl rfl dX9_show_32 ?_
        refine r_get (v := .ref v0) C hP okX4 3 0 rfl (by decide) fl_X9_97 rfl rfl dX9_show_35 ?_
        refine lv_iload_n hx hb dX9_show_38 rfl (lv_at hl 1 rfl) ?_
        refine lv_iload_n hx hb dX9_show_39 rfl (lv_at hl 2 rfl) ?_
        refine r_iast (j := j) C hP hD hS 2 rfl (by omega) (by decide) dX9_show_40 (fun H locs hP hD hS => ?_)
        have hP : va_P D vwCl [(ax, .inr (10, [.ref ay, .ref az, .ref ae, .ref ai])), (ay, .inr (9, [.ref ac, .ref av, .ref ak, .ref ag, .ref ao])), (v0, .inl (cI, 24, .inl (upd mtx j t0_))), (av, .inr (5, [.ref v0, .ref v1, .int (nI nm), .ref v2, .ref v3, .ref v4, .ref v5, .ref v6, .ref v7, .ref v8, .ref v9]))] H := hP
        have hD : va_D A [(ax, .inr (10, [.ref ay, .ref az, .ref ae, .ref ai])), (ay, .inr (9, [.ref ac, .ref av, .ref ak, .ref ag, .ref ao])), (v0, .inl (cI, 24, .inl (upd mtx j t0_))), (av, .inr (5, [.ref v0, .ref v1, .int (nI nm), .ref v2, .ref v3, .ref v4, .ref v5, .ref v6, .ref v7, .ref v8, .ref v9]))] := hD
        refine lv_iconst (v := 1) hx hb dX9_show_41 (by decide) ?_
        exact rt_z C hQ (by decide) (hP.sub (ws' := [(ax, .inr (10, [.ref ay, .ref az, .ref ae, .ref ai])), (ay, .inr (9, [.ref ac, .ref av, .ref ak, .ref ag, .ref ao])), (av, .inr (5, [.ref v0, .ref v1, .int (nI nm), .ref v2, .ref v3, .ref v4, .ref v5, .ref v6, .ref v7, .ref v8, .ref v9])), (v0, .inl (cI, 24, .inl (upd mtx j t0_)))]) [0, 1, 3, 2] rfl) (hD.sub [0, 1, 3, 2] (by decide) rfl) hS (by have hP_ : inR (nI j) nm = true ∧ rg t0_ (-1) 31 = true := ⟨hb_8, rg_show.mpr (by first | exact Or.inl c_16 | exact Or.inr hb_20)⟩; exact ⟨Or.inl ⟨rfl, hP_⟩, by simp only [if_pos hP_, nI_clamp (show j < 2 ^ 31 by omega)]⟩) (by decide) (by decide) dX9_show_42
      · -- no 20
        refine W.eq (g2 := F0 m 23 ls [.int 0]) rfl ?_
        have hP : va_P D vwCl [(ax, .inr (10, [.ref ay, .ref az, .ref ae, .ref ai])), (ay, .inr (9, [.ref ac, .ref av, .ref ak, .ref ag, .ref ao])), (v0, .inl (cI, 24, .inl mtx)), (av, .inr (5, [.ref v0, .ref v1, .int (nI nm), .ref v2, .ref v3, .ref v4, .ref v5, .ref v6, .ref v7, .ref v8, .ref v9]))] H := hP
        have hD : va_D A [(ax, .inr (10, [.ref ay, .ref az, .ref ae, .ref ai])), (ay, .inr (9, [.ref ac, .ref av, .ref ak, .ref ag, .ref ao])), (v0, .inl (cI, 24, .inl mtx)), (av, .inr (5, [.ref v0, .ref v1, .int (nI nm), .ref v2, .ref v3, .ref v4, .ref v5, .ref v6, .ref v7, .ref v8, .ref v9]))] := hD
        refine lv_if_ne (tgt := 28) hx hb dX9_show_23 (by decide) (fun c_23 => ?_) (fun c_23 => ?_)
        · exact absurd c_23 (by decide)
        refine lv_iconst (v := 0) hx hb dX9_show_26 (by decide) ?_
        exact rt_z C hQ (by decide) (hP.sub (ws' := [(ax, .inr (10, [.ref ay, .ref az, .ref ae, .ref ai])), (ay, .inr (9, [.ref ac, .ref av, .ref ak, .ref ag, .ref ao])), (av, .inr (5, [.ref v0, .ref v1, .int (nI nm), .ref v2, .ref v3, .ref v4, .ref v5, .ref v6, .ref v7, .ref v8, .ref v9])), (v0, .inl (cI, 24, .inl mtx))]) [0, 1, 3, 2] rfl) (hD.sub [0, 1, 3, 2] (by decide) rfl) hS (by have hP_ : ¬ (inR (nI j) nm = true ∧ rg t0_ (-1) 31 = true) := (fun z => by first | exact hb_8 z.1 | exact (rg_show.mp z.2).elim c_16 hb_20); exact ⟨Or.inr ⟨rfl, hP_⟩, by simp only [if_neg hP_]⟩) (by decide) (by decide) dX9_show_27
  · -- no 8
    refine W.eq (g2 := F0 m 11 ls [.int 0]) rfl ?_
    have hP : va_P D vwCl [(ax, .inr (10, [.ref ay, .ref az, .ref ae, .ref ai])), (ay, .inr (9, [.ref ac, .ref av, .ref ak, .ref ag, .ref ao])), (v0, .inl (cI, 24, .inl mtx)), (av, .inr (5, [.ref v0, .ref v1, .int (nI nm), .ref v2, .ref v3, .ref v4, .ref v5, .ref v6, .ref v7, .ref v8, .ref v9]))] H := hP
    have hD : va_D A [(ax, .inr (10, [.ref ay, .ref az, .ref ae, .ref ai])), (ay, .inr (9, [.ref ac, .ref av, .ref ak, .ref ag, .ref ao])), (v0, .inl (cI, 24, .inl mtx)), (av, .inr (5, [.ref v0, .ref v1, .int (nI nm), .ref v2, .ref v3, .ref v4, .ref v5, .ref v6, .ref v7, .ref v8, .ref v9]))] := hD
    refine lv_if_eq (tgt := 26) hx hb dX9_show_11 (by decide) (fun c_11 => ?_) (fun c_11 => ?_)
    rotate_left
    · exact absurd c_11 (by decide)
    refine lv_iconst (v := 0) hx hb dX9_show_26 (by decide) ?_
    exact rt_z C hQ (by decide) (hP.sub (ws' := [(ax, .inr (10, [.ref ay, .ref az, .ref ae, .ref ai])), (ay, .inr (9, [.ref ac, .ref av, .ref ak, .ref ag, .ref ao])), (av, .inr (5, [.ref v0, .ref v1, .int (nI nm), .ref v2, .ref v3, .ref v4, .ref v5, .ref v6, .ref v7, .ref v8, .ref v9])), (v0, .inl (cI, 24, .inl mtx))]) [0, 1, 3, 2] rfl) (hD.sub [0, 1, 3, 2] (by decide) rfl) hS (by have hP_ : ¬ (inR m0 nm = true ∧ rg t0_ (-1) 31 = true) := (fun z => by first | exact hb_8 z.1 | exact (rg_show.mp z.2).elim c_16 hb_20); exact ⟨Or.inr ⟨rfl, hP_⟩, by simp only [if_neg hP_]⟩) (by decide) (by decide) dX9_show_27
set_option maxHeartbeats 4000000 in
set_option maxRecDepth 100000 in
theorem c_X9_ends (l : Launch) (D : va_G) (cI cJ cZ : ClassId) (ax : Nat) (ay : Nat) (az : Nat) (ae : Nat) (ai : Nat) (ac : Nat) (av : Nat) (ak : Nat) (ag : Nat) (ao : Nat) (nm : Nat) (v0 : Nat) (v1 : Nat) (v2 : Nat) (v3 : Nat) (v4 : Nat) (v5 : Nat) (v6 : Nat) (v7 : Nat) (v8 : Nat) (v9 : Nat) (men : Nat → Int32) (m0 : Int32) (e0_ : Int32) (hm : nm ≤ 24) : Ctr l D cI cJ cZ yX9_ends cX9_ends 3 (some .boolean) ({ frames := 2, cells := 0, slots := 0, locals := 43 } : Room) [.ref ax, .int m0, .int e0_] [(ax, .inr (10, [.ref ay, .ref az, .ref ae, .ref ai])), (ay, .inr (9, [.ref ac, .ref av, .ref ak, .ref ag, .ref ao])), (av, .inr (5, [.ref v0, .ref v1, .int (nI nm), .ref v2, .ref v3, .ref v4, .ref v5, .ref v6, .ref v7, .ref v8, .ref v9])), (v1, .inl (cI, 24, .inl men))] (fun r W => ((r = some (.int 1) ∧ (inR m0 nm = true ∧ rg e0_ 0 9 = true)) ∨ (r = some (.int 0) ∧ ¬ (inR m0 nm = true ∧ rg e0_ 0 9 = true))) ∧ W = [(ax, .inr (10, [.ref ay, .ref az, .ref ae, .ref ai])), (ay, .inr (9, [.ref ac, .ref av, .ref ak, .ref ag, .ref ao])), (av, .inr (5, [.ref v0, .ref v1, .int (nI nm), .ref v2, .ref v3, .ref v4, .ref v5, .ref v6, .ref v7, .ref v8, .ref v9])), (v1, .inl (cI, 24, .inl (if inR m0 nm = true ∧ rg e0_ 0 9 = true then upd men m0.toNatClampNeg e0_ else men)))]) := by
  refine Ctr.start (by decide +kernel) (Nat.le_of_ble_eq_true rfl) ?_
  intro p e s m below meth c A Q ls H C hQ hA hP hD hS hl
  obtain ⟨hx, hb, hr, hml, hts, hown, hlk, hnm, hK, hN⟩ := id C
  have hl : lv_has ls 3 [(0, .ref ax), (1, .int m0), (2, .int e0_)] := hl
  refine lv_aload_n hx hb dX9_ends_0 rfl (lv_at hl 0 rfl) ?_
  refine r_get (v := .ref ay) C hP okX9 0 0 rfl (by decide) fl_X9_10 rfl rfl dX9_ends_1 ?_
  refine r_get (v := .ref av) C hP okX8 1 1 rfl (by decide) fl_X9_70 rfl rfl dX9_ends_4 ?_
  refine lv_iload_n hx hb dX9_ends_7 rfl (lv_at hl 1 rfl) ?_
  refine cl_v C (c_X4_has l D cI cJ cZ av nm v0 v1 v2 v3 v4 v5 v6 v7 v8 v9 m0 (by omega)) cd_X4_has ml_X9_80 im_X4_has se_X4_has in_X4 hd_X4_has ⟨by decide, by decide⟩ hP hD hS hA (WR := [(ax, .inr (10, [.ref ay, .ref az, .ref ae, .ref ai])), (ay, .inr (9, [.ref ac, .ref av, .ref ak, .ref ag, .ref ao])), (v1, .inl (cI, 24, .inl men))]) [2] [0, 1, 3] rfl rfl rfl rfl (by decide) (ci := 5) (q0 := 2) rfl rfl hl.1 rfl (Nat.le_of_ble_eq_true rfl) dX9_ends_8 ⟨by decide, by decide⟩ (fun r W H locs hp hP hD hS => ?_)
  rcases hp with ⟨⟨rfl, hb_8⟩ | ⟨rfl, hb_8⟩, rfl⟩
  · -- yes 8
    refine W.eq (g2 := F0 m 11 ls [.int 1]) rfl ?_
    have hP : va_P D vwCl [(ax, .inr (10, [.ref ay, .ref az, .ref ae, .ref ai])), (ay, .inr (9, [.ref ac, .ref av, .ref ak, .ref ag, .ref ao])), (v1, .inl (cI, 24, .inl men)), (av, .inr (5, [.ref v0, .ref v1, .int (nI nm), .ref v2, .ref v3, .ref v4, .ref v5, .ref v6, .ref v7, .ref v8, .ref v9]))] H := hP
    have hD : va_D A [(ax, .inr (10, [.ref ay, .ref az, .ref ae, .ref ai])), (ay, .inr (9, [.ref ac, .ref av, .ref ak, .ref ag, .ref ao])), (v1, .inl (cI, 24, .inl men)), (av, .inr (5, [.ref v0, .ref v1, .int (nI nm), .ref v2, .ref v3, .ref v4, .ref v5, .ref v6, .ref v7, .ref v8, .ref v9]))] := hD
    obtain ⟨j, hj, rfl⟩ := (inR_iff (by omega)).mp hb_8
    refine lv_if_eq (tgt := 24) hx hb dX9_ends_11 (by decide) (fun c_11 => ?_) (fun c_11 => ?_)
    · exact absurd c_11 (by decide)
    refine lv_iload_n hx hb dX9_ends_14 rfl (lv_at hl 2 rfl) ?_
    refine lv_iconst (v := 0) hx hb dX9_ends_15 (by decide) ?_
    refine lv_bipush (v := 9) hx hb dX9_ends_16 (by decide) ?_
    refine cl_s C (c_X9_isWithin l D cI cJ cZ e0_ 0 9) cd_X9_isWithin ml_X9_62 st_X9_isWithin in_X9 hd_X9_isWithin ⟨by decide, by decide⟩ hP hD hS hA (WR := [(ax, .inr (10, [.ref ay, .ref az, .ref ae, .ref ai])), (ay, .inr (9, [.ref ac, .ref av, .ref ak, .ref ag, .ref ao])), (v1, .inl (cI, 24, .inl men)), (av, .inr (5, [.ref v0, .ref v1, .int (nI nm), .ref v2, .ref v3, .ref v4, .ref v5, .ref v6, .ref v7, .ref v8, .ref v9]))]) [] [0, 1, 2, 3] rfl rfl rfl rfl (by decide) hl.1 rfl (Nat.le_of_ble_eq_true rfl) dX9_ends_18 ⟨by decide, by decide⟩ (fun r W H locs hp hP hD hS => ?_)
    rcases hp with ⟨⟨rfl, hb_18⟩ | ⟨rfl, hb_18⟩, rfl⟩
    · -- yes 18
      refine W.eq (g2 := F0 m 21 ls [.int 1]) rfl ?_
      have hP : va_P D vwCl [(ax, .inr (10, [.ref ay, .ref az, .ref ae, .ref ai])), (ay, .inr (9, [.ref ac, .ref av, .ref ak, .ref ag, .ref ao])), (v1, .inl (cI, 24, .inl men)), (av, .inr (5, [.ref v0, .ref v1, .int (nI nm), .ref v2, .ref v3, .ref v4, .ref v5, .ref v6, .ref v7, .ref v8, .ref v9]))] H := hP
      have hD : va_D A [(ax, .inr (10, [.ref ay, .ref az, .ref ae, .ref ai])), (ay, .inr (9, [.ref ac, .ref av, .ref ak, .ref ag, .ref ao])), (v1, .inl (cI, 24, .inl men)), (av, .inr (5, [.ref v0, .ref v1, .int (nI nm), .ref v2, .ref v3, .ref v4, .ref v5, .ref v6, .ref v7, .ref v8, .ref v9]))] := hD
      refine lv_if_ne (tgt := 26) hx hb dX9_ends_21 (by decide) (fun c_21 => ?_) (fun c_21 => ?_)
      rotate_left
      · exact absurd c_21 (by decide)
      refine lv_aload_n hx hb dX9_ends_26 rfl (lv_at hl 0 rfl) ?_
      refine r_get (v := .ref ay) C hP okX9 0 0 rfl (by decide) fl_X9_10 rfl rfl dX9_ends_27 ?_
      refine r_get (v := .ref av) C hP okX8 1 1 rfl (by decide) fl_X9_70 rfl rfl dX9_ends_30 ?_
      refine r_get (v := .ref v1) C hP okX4 3 1 rfl (by decide) fl_X9_100 rfl rfl dX9_ends_33 ?_
      refine lv_iload_n hx hb dX9_ends_36 rfl (lv_at hl 1 rfl) ?_
      refine lv_iload_n hx hb dX9_ends_37 rfl (lv_at hl 2 rfl) ?_
      refine r_iast (j := j) C hP hD hS 2 rfl (by omega) (by decide) dX9_ends_38 (fun H locs hP hD hS => ?_)
      have hP : va_P D vwCl [(ax, .inr (10, [.ref ay, .ref az, .ref ae, .ref ai])), (ay, .inr (9, [.ref ac, .ref av, .ref ak, .ref ag, .ref ao])), (v1, .inl (cI, 24, .inl (upd men j e0_))), (av, .inr (5, [.ref v0, .ref v1, .int (nI nm), .ref v2, .ref v3, .ref v4, .ref v5, .ref v6, .ref v7, .ref v8, .ref v9]))] H := hP
      have hD : va_D A [(ax, .inr (10, [.ref ay, .ref az, .ref ae, .ref ai])), (ay, .inr (9, [.ref ac, .ref av, .ref ak, .ref ag, .ref ao])), (v1, .inl (cI, 24, .inl (upd men j e0_))), (av, .inr (5, [.ref v0, .ref v1, .int (nI nm), .ref v2, .ref v3, .ref v4, .ref v5, .ref v6, .ref v7, .ref v8, .ref v9]))] := hD
      refine lv_iconst (v := 1) hx hb dX9_ends_39 (by decide) ?_
      exact rt_z C hQ (by decide) (hP.sub (ws' := [(ax, .inr (10, [.ref ay, .ref az, .ref ae, .ref ai])), (ay, .inr (9, [.ref ac, .ref av, .ref ak, .ref ag, .ref ao])), (av, .inr (5, [.ref v0, .ref v1, .int (nI nm), .ref v2, .ref v3, .ref v4, .ref v5, .ref v6, .ref v7, .ref v8, .ref v9])), (v1, .inl (cI, 24, .inl (upd men j e0_)))]) [0, 1, 3, 2] rfl) (hD.sub [0, 1, 3, 2] (by decide) rfl) hS (by have hP_ : inR (nI j) nm = true ∧ rg e0_ 0 9 = true := ⟨hb_8, rg_iff.mpr hb_18⟩; exact ⟨Or.inl ⟨rfl, hP_⟩, by simp only [if_pos hP_, nI_clamp (show j < 2 ^ 31 by omega)]⟩) (by decide) (by decide) dX9_ends_40
    · -- no 18
      refine W.eq (g2 := F0 m 21 ls [.int 0]) rfl ?_
      have hP : va_P D vwCl [(ax, .inr (10, [.ref ay, .ref az, .ref ae, .ref ai])), (ay, .inr (9, [.ref ac, .ref av, .ref ak, .ref ag, .ref ao])), (v1, .inl (cI, 24, .inl men)), (av, .inr (5, [.ref v0, .ref v1, .int (nI nm), .ref v2, .ref v3, .ref v4, .ref v5, .ref v6, .ref v7, .ref v8, .ref v9]))] H := hP
      have hD : va_D A [(ax, .inr (10, [.ref ay, .ref az, .ref ae, .ref ai])), (ay, .inr (9, [.ref ac, .ref av, .ref ak, .ref ag, .ref ao])), (v1, .inl (cI, 24, .inl men)), (av, .inr (5, [.ref v0, .ref v1, .int (nI nm), .ref v2, .ref v3, .ref v4, .ref v5, .ref v6, .ref v7, .ref v8, .ref v9]))] := hD
      refine lv_if_ne (tgt := 26) hx hb dX9_ends_21 (by decide) (fun c_21 => ?_) (fun c_21 => ?_)
      · exact absurd c_21 (by decide)
      refine lv_iconst (v := 0) hx hb dX9_ends_24 (by decide) ?_
      exact rt_z C hQ (by decide) (hP.sub (ws' := [(ax, .inr (10, [.ref ay, .ref az, .ref ae, .ref ai])), (ay, .inr (9, [.ref ac, .ref av, .ref ak, .ref ag, .ref ao])), (av, .inr (5, [.ref v0, .ref v1, .int (nI nm), .ref v2, .ref v3, .ref v4, .ref v5, .ref v6, .ref v7, .ref v8, .ref v9])), (v1, .inl (cI, 24, .inl men))]) [0, 1, 3, 2] rfl) (hD.sub [0, 1, 3, 2] (by decide) rfl) hS (by have hP_ : ¬ (inR (nI j) nm = true ∧ rg e0_ 0 9 = true) := (fun z => by first | exact hb_8 z.1 | exact hb_18 (rg_iff.mp z.2)); exact ⟨Or.inr ⟨rfl, hP_⟩, by simp only [if_neg hP_]⟩) (by decide) (by decide) dX9_ends_25
  · -- no 8
    refine W.eq (g2 := F0 m 11 ls [.int 0]) rfl ?_
    have hP : va_P D vwCl [(ax, .inr (10, [.ref ay, .ref az, .ref ae, .ref ai])), (ay, .inr (9, [.ref ac, .ref av, .ref ak, .ref ag, .ref ao])), (v1, .inl (cI, 24, .inl men)), (av, .inr (5, [.ref v0, .ref v1, .int (nI nm), .ref v2, .ref v3, .ref v4, .ref v5, .ref v6, .ref v7, .ref v8, .ref v9]))] H := hP
    have hD : va_D A [(ax, .inr (10, [.ref ay, .ref az, .ref ae, .ref ai])), (ay, .inr (9, [.ref ac, .ref av, .ref ak, .ref ag, .ref ao])), (v1, .inl (cI, 24, .inl men)), (av, .inr (5, [.ref v0, .ref v1, .int (nI nm), .ref v2, .ref v3, .ref v4, .ref v5, .ref v6, .ref v7, .ref v8, .ref v9]))] := hD
    refine lv_if_eq (tgt := 24) hx hb dX9_ends_11 (by decide) (fun c_11 => ?_) (fun c_11 => ?_)
    rotate_left
    · exact absurd c_11 (by decide)
    refine lv_iconst (v := 0) hx hb dX9_ends_24 (by decide) ?_
    exact rt_z C hQ (by decide) (hP.sub (ws' := [(ax, .inr (10, [.ref ay, .ref az, .ref ae, .ref ai])), (ay, .inr (9, [.ref ac, .ref av, .ref ak, .ref ag, .ref ao])), (av, .inr (5, [.ref v0, .ref v1, .int (nI nm), .ref v2, .ref v3, .ref v4, .ref v5, .ref v6, .ref v7, .ref v8, .ref v9])), (v1, .inl (cI, 24, .inl men))]) [0, 1, 3, 2] rfl) (hD.sub [0, 1, 3, 2] (by decide) rfl) hS (by have hP_ : ¬ (inR m0 nm = true ∧ rg e0_ 0 9 = true) := (fun z => by first | exact hb_8 z.1 | exact hb_18 (rg_iff.mp z.2)); exact ⟨Or.inr ⟨rfl, hP_⟩, by simp only [if_neg hP_]⟩) (by decide) (by decide) dX9_ends_25
