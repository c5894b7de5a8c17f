/-! Play.take (written by s11.py) -/
def stMoves (sz ro : Nat → Nat) (st : Nat) : List Nat := (List.range (n_size sz st)).map (n_mv ro st)
/-- the MOVES of the STEPS that lead to NODE k, d of them -/
def f_path (nb ns : Nat → Int32) (sz ro : Nat → Nat) : Nat → Nat → List Nat
  | 0, _ => []
  | d + 1, k => f_path nb ns sz ro d (nb k).toNatClampNeg ++ stMoves sz ro (ns k).toNatClampNeg
theorem depth_le {Z : ZN} (h : treeOK Z) : ∀ (n k : Nat), k ≤ n → k < Z.1 → z_d Z k ≤ k
  | 0, k, hk, hz => by
    have e : k = 0 := by omega
    subst e
    rw [h.1]
    exact Nat.le_refl _
  | n + 1, k, hk, hz => by
    rcases Nat.eq_zero_or_pos k with e | hp
    · subst e; rw [h.1]; exact Nat.le_refl _
    · obtain ⟨b, st, -, hb, -, -, e⟩ := h.2 k hp hz
      have := depth_le h n b (by omega) (by omega)
      omega
theorem stMoves_len (sz ro : Nat → Nat) (st : Nat) : (stMoves sz ro st).length = n_size sz st := by simp [stMoves]
theorem stMoves_get {sz ro : Nat → Nat} {st i : Nat} (h : i < n_size sz st) : (stMoves sz ro st).getD i 0 = n_mv ro st i := by
  simp [stMoves, List.getD, h]
/-- the contents g hold the list l from s on -/
def heldAt (g : Nat → Int32) (s : Nat) (l : List Nat) : Prop := ∀ i, i < l.length → g (s + i) = nI (l.getD i 0)
theorem heldAt_app {g : Nat → Int32} {s : Nat} {a b : List Nat} (ha : heldAt g s a) (hb : heldAt g (s + a.length) b) : heldAt g s (a ++ b) := fun i hi => by
  rw [List.length_append] at hi
  rcases Nat.lt_or_ge i a.length with h | h
  · rw [ha i h]
    simp only [List.getD]
    rw [List.getElem?_append_left h]
  · have := hb (i - a.length) (by omega)
    rw [show s + a.length + (i - a.length) = s + i by omega] at this
    rw [this]
    simp only [List.getD]
    rw [List.getElem?_append_right h]
theorem heldAt_of {g pv : Nat → Int32} {sz ro : Nat → Nat} {st s1 : Nat} (h : ∀ k, g k = if s1 ≤ k ∧ k < s1 + n_size sz st then nI (n_mv ro st (k - s1)) else pv k) : heldAt g s1 (stMoves sz ro st) := fun i hi => by
  rw [stMoves_len] at hi
  rw [h, if_pos ⟨by omega, by omega⟩, stMoves_get hi, show s1 + i - s1 = i by omega]
theorem heldAt_keep {g pv : Nat → Int32} {sz ro : Nat → Nat} {st s1 : Nat} {l : List Nat} (h : ∀ k, g k = if s1 ≤ k ∧ k < s1 + n_size sz st then nI (n_mv ro st (k - s1)) else pv k) (hl : heldAt pv (s1 + n_size sz st) l) : heldAt g (s1 + n_size sz st) l := fun i hi => by
  rw [h, if_neg (by omega)]
  exact hl i hi
set_option maxHeartbeats 4000000 in
set_option maxRecDepth 100000 in
theorem lp_X6_take_56 (l : Launch) (D : va_G) (cI cJ cZ : ClassId) (ap : Nat) (lo : Option Nat) (pm : Nat) (p0 : Nat) (pv : Nat → Int32) (an : Nat) (u0 : Nat) (u1 : Nat) (u2 : Nat) (u3 : Nat) (u4 : Nat) (u5 : Nat) (u6 : Nat) (u7 : Nat) (u8 : Nat) (ndd : Nat) (ncc : Nat) (ncl : Int64) (Z : ZN) (ak : Nat) (nk : Nat) (nd : Nat) (ad : Nat) (as : Nat) (ar : Nat) (sz : Nat → Nat) (ro : Nat → Nat) (la : Nat) (hT : treeOK Z) (hz : Z.1 ≤ 1500) (hla : la < Z.1) (hsz : ∀ k, sz k ≤ 6) (nod : Nat) (d1 : Nat) (stp : Nat) (s0 : Nat) (pv0 : Nat → Int32) (hs8 : stp < 108) (h6 : n_size sz stp ≤ 6) (hs0 : n_size sz stp ≤ s0) (hs9 : s0 ≤ 9000) {p : Program} {e : Env} {s : State} {m : MethodId} {below : List Frame} {meth : Method} {c : Code} {A : Nat → Prop} {Q : State → Prop} (C : Cx D cI cJ cZ p s m ([.ref ap, .ref an, .int (nI la), .ref ak] : List Value).toArray meth c yX6_take cX6_take 9 none) (hQ : QOK Q below s ([.ref ap, .ref an, .int (nI la), .ref ak] : List Value).toArray D A (fun r W => ∃ (pv2 : Nat → Int32), r = none ∧ W = [(ap, .inr (7, [.int (oI (some (f_path (z_b Z) (z_s Z) sz ro (z_d Z la) la).length)), .ref pm, .int (nI (9000 - (f_path (z_b Z) (z_s Z) sz ro (z_d Z la) la).length))])), (pm, .inl (cI, 9000, .inl pv2)), (an, .inr (6, [.ref u0, .ref u1, .ref u2, .ref u3, .int (nI Z.1), .int (nI ndd), .ref u4, .ref u5, .ref u6, .ref u7, .ref u8, .int (nI ncc), .long ncl])), (u1, .inl (cI, 1500, .inl (z_b Z))), (u2, .inl (cI, 1500, .inl (z_s Z))), (u3, .inl (cI, 1500, .inl (nF (z_d Z)))), (ak, .inr (3, [.int (nI nk), .int (nI nd), .ref ad, .ref as, .ref ar])), (as, .inl (cI, 8, .inl (nF sz))), (ar, .inl (cI, 48, .inl (nF ro)))] ∧ heldAt pv2 (9000 - (f_path (z_b Z) (z_s Z) sz ro (z_d Z la) la).length) (f_path (z_b Z) (z_s Z) sz ro (z_d Z la) la) ∧ (f_path (z_b Z) (z_s Z) sz ro (z_d Z la) la).length ≤ 9000) 0 0) (hA : ∀ q, s.heap.size ≤ q → A q) (hex : ∀ (i : Nat) (g : Nat → Int32) (H : Heap) (locs : List Loc) (ls : Array Slot) (hgx : ∀ k, g k = if (s0 - n_size sz stp) ≤ k ∧ k < (s0 - n_size sz stp) + n_size sz stp then nI (n_mv ro stp (k - (s0 - n_size sz stp))) else pv0 k), va_P D vwCl [(ap, .inr (7, [.int (oI lo), .ref pm, .int (nI (s0 - n_size sz stp))])), (pm, .inl (cI, 9000, .inl g)), (an, .inr (6, [.ref u0, .ref u1, .ref u2, .ref u3, .int (nI Z.1), .int (nI ndd), .ref u4, .ref u5, .ref u6, .ref u7, .ref u8, .int (nI ncc), .long ncl])), (u1, .inl (cI, 1500, .inl (z_b Z))), (u2, .inl (cI, 1500, .inl (z_s Z))), (u3, .inl (cI, 1500, .inl (nF (z_d Z)))), (ak, .inr (3, [.int (nI nk), .int (nI nd), .ref ad, .ref as, .ref ar])), (as, .inl (cI, 8, .inl (nF sz))), (ar, .inl (cI, 48, .inl (nF ro)))] H → va_D A [(ap, .inr (7, [.int (oI lo), .ref pm, .int (nI (s0 - n_size sz stp))])), (pm, .inl (cI, 9000, .inl g)), (an, .inr (6, [.ref u0, .ref u1, .ref u2, .ref u3, .int (nI Z.1), .int (nI ndd), .ref u4, .ref u5, .ref u6, .ref u7, .ref u8, .int (nI ncc), .long ncl])), (u1, .inl (cI, 1500, .inl (z_b Z))), (u2, .inl (cI, 1500, .inl (z_s Z))), (u3, .inl (cI, 1500, .inl (nF (z_d Z)))), (ak, .inr (3, [.int (nI nk), .int (nI nd), .ref ad, .ref as, .ref ar])), (as, .inl (cI, 8, .inl (nF sz))), (ar, .inl (cI, 48, .inl (nF ro)))] → va_S A s.heap H locs → lv_has ls 9 [(0, .ref ap), (1, .ref an), (3, .ref ak), (4, .int (nI nod)), (5, .int (nI (d1 + 1)))] → W p l e ({ frames := 1, cells := 0, slots := 0, locals := 22 } : Room) s m ([.ref ap, .ref an, .int (nI la), .ref ak] : List Value).toArray below meth c H locs 0 0 Q (F0 m 89 ls [])) : ∀ (ku : Nat) (i : Nat) (g : Nat → Int32) (hi : i ≤ n_size sz stp) (hgk : ∀ k, g k = if (s0 - n_size sz stp) ≤ k ∧ k < (s0 - n_size sz stp) + i then nI (n_mv ro stp (k - (s0 - n_size sz stp))) else pv0 k), (n_size sz stp - i) < ku → ∀ (H : Heap) (locs : List Loc) (ls : Array Slot), va_P D vwCl [(ap, .inr (7, [.int (oI lo), .ref pm, .int (nI (s0 - n_size sz stp))])), (pm, .inl (cI, 9000, .inl g)), (an, .inr (6, [.ref u0, .ref u1, .ref u2, .ref u3, .int (nI Z.1), .int (nI ndd), .ref u4, .ref u5, .ref u6, .ref u7, .ref u8, .int (nI ncc), .long ncl])), (u1, .inl (cI, 1500, .inl (z_b Z))), (u2, .inl (cI, 1500, .inl (z_s Z))), (u3, .inl (cI, 1500, .inl (nF (z_d Z)))), (ak, .inr (3, [.int (nI nk), .int (nI nd), .ref ad, .ref as, .ref ar])), (as, .inl (cI, 8, .inl (nF sz))), (ar, .inl (cI, 48, .inl (nF ro)))] H → va_D A [(ap, .inr (7, [.int (oI lo), .ref pm, .int (nI (s0 - n_size sz stp))])), (pm, .inl (cI, 9000, .inl g)), (an, .inr (6, [.ref u0, .ref u1, .ref u2, .ref u3, .int (nI Z.1), .int (nI ndd), .ref u4, .ref u5, .ref u6, .ref u7, .ref u8, .int (nI ncc), .long ncl])), (u1, .inl (cI, 1500, .inl (z_b Z))), (u2, .inl (cI, 1500, .inl (z_s Z))), (u3, .inl (cI, 1500, .inl (nF (z_d Z)))), (ak, .inr (3, [.int (nI nk), .int (nI nd), .ref ad, .ref as, .ref ar])), (as, .inl (cI, 8, .inl (nF sz))), (ar, .inl (cI, 48, .inl (nF ro)))] → va_S A s.heap H locs → lv_has ls 9 [(0, .ref ap), (1, .ref an), (3, .ref ak), (4, .int (nI nod)), (5, .int (nI (d1 + 1))), (6, .int (nI stp)), (7, .int (nI (n_size sz stp))), (8, .int (nI i))] → W p l e ({ frames := 1, cells := 0, slots := 0, locals := 22 } : Room) s m ([.ref ap, .ref an, .int (nI la), .ref ak] : List Value).toArray below meth c H locs 0 0 Q (F0 m 56 ls []) := by
  obtain ⟨hx, hb, hr, hml, hts, hown, hlk, hnm, hK, hN⟩ := id C
  intro ku
  induction ku with
  | zero =>
    intro i g hi hgk hku
    exact absurd hku (Nat.not_lt_zero _)
  | succ ku ih =>
    intro i g hi hgk hku H locs ls hP hD hS hl
    refine lv_iload hx hb dX6_take_56 (lv_at hl 7 rfl) ?_
    refine lv_iload hx hb dX6_take_58 (lv_at hl 6 rfl) ?_
    refine lv_icmp_ge (tgt := 89) hx hb dX6_take_60 (by decide) (fun c_60 => ?_) (fun c_60 => ?_)
    · -- taken 60
      have c_60 : n_size sz stp ≤ i := (nI_leI (a := n_size sz stp) (b := i) (by omega) (by omega)).mp c_60
      exact hex i g _ _ _ (by have e : i = n_size sz stp := (by omega); rw [e] at hgk; exact hgk) (hP.sub [0, 1, 2, 3, 4, 5, 6, 7, 8] rfl) (hD.sub [0, 1, 2, 3, 4, 5, 6, 7, 8] (by decide) rfl) hS (lv_sub hl [0, 1, 2, 3, 4] rfl)
    · -- not taken 60
      have c_60 : ¬ (n_size sz stp ≤ i) := fun z => c_60 ((nI_leI (a := n_size sz stp) (b := i) (by omega) (by omega)).mpr z)
      refine lv_aload_n hx hb dX6_take_63 rfl (lv_at hl 0 rfl) ?_
      refine r_get (v := .ref pm) C hP okX6 0 1 rfl (by decide) fl_X6_15 rfl rfl dX6_take_64 ?_
      refine lv_aload_n hx hb dX6_take_67 rfl (lv_at hl 0 rfl) ?_
      refine r_get (v := .int (nI (s0 - n_size sz stp))) C hP okX6 0 2 rfl (by decide) fl_X6_19 rfl rfl dX6_take_68 ?_
      refine lv_iload hx hb dX6_take_71 (lv_at hl 7 rfl) ?_
      refine lv_iadd hx hb dX6_take_73 ?_
      refine r_top (x' := nI ((s0 - n_size sz stp) + i)) (nI_add (s0 - n_size sz stp) i) ?_
      refine lv_aload_n hx hb dX6_take_74 rfl (lv_at hl 2 rfl) ?_
      refine lv_iload hx hb dX6_take_75 (lv_at hl 5 rfl) ?_
      refine lv_iload hx hb dX6_take_77 (lv_at hl 7 rfl) ?_
      refine cl_v C (c_X2_moveOf l D cI cJ cZ ak nk nd ad as ar (nF ro) stp i hs8 (by omega)) cd_X2_moveOf ml_X6_36 im_X2_moveOf se_X2_moveOf in_X2 hd_X2_moveOf ⟨by decide, by decide⟩ hP hD hS hA (WR := [(ap, .inr (7, [.int (oI lo), .ref pm, .int (nI (s0 - n_size sz stp))])), (pm, .inl (cI, 9000, .inl g)), (an, .inr (6, [.ref u0, .ref u1, .ref u2, .ref u3, .int (nI Z.1), .int (nI ndd), .ref u4, .ref u5, .ref u6, .ref u7, .ref u8, .int (nI ncc), .long ncl])), (u1, .inl (cI, 1500, .inl (z_b Z))), (u2, .inl (cI, 1500, .inl (z_s Z))), (u3, .inl (cI, 1500, .inl (nF (z_d Z)))), (as, .inl (cI, 8, .inl (nF sz)))]) [6, 8] [0, 1, 2, 3, 4, 5, 7] rfl rfl rfl rfl (by decide) (ci := 3) (q0 := 6) rfl rfl hl.1 rfl (Nat.le_of_ble_eq_true rfl) dX6_take_79 ⟨by decide, by decide⟩ (fun r W H locs hp hP hD hS => ?_)
      obtain ⟨rfl, rfl⟩ := hp
      refine W.eq (g2 := F0 m 82 ls [.int (f_mvof (nF ro) stp i), .int (nI ((s0 - n_size sz stp) + i)), .ref pm]) rfl ?_
      have hP : va_P D vwCl [(ap, .inr (7, [.int (oI lo), .ref pm, .int (nI (s0 - n_size sz stp))])), (pm, .inl (cI, 9000, .inl g)), (an, .inr (6, [.ref u0, .ref u1, .ref u2, .ref u3, .int (nI Z.1), .int (nI ndd), .ref u4, .ref u5, .ref u6, .ref u7, .ref u8, .int (nI ncc), .long ncl])), (u1, .inl (cI, 1500, .inl (z_b Z))), (u2, .inl (cI, 1500, .inl (z_s Z))), (u3, .inl (cI, 1500, .inl (nF (z_d Z)))), (as, .inl (cI, 8, .inl (nF sz))), (ak, .inr (3, [.int (nI nk), .int (nI nd), .ref ad, .ref as, .ref ar])), (ar, .inl (cI, 48, .inl (nF ro)))] H := hP
      have hD : va_D A [(ap, .inr (7, [.int (oI lo), .ref pm, .int (nI (s0 - n_size sz stp))])), (pm, .inl (cI, 9000, .inl g)), (an, .inr (6, [.ref u0, .ref u1, .ref u2, .ref u3, .int (nI Z.1), .int (nI ndd), .ref u4, .ref u5, .ref u6, .ref u7, .ref u8, .int (nI ncc), .long ncl])), (u1, .inl (cI, 1500, .inl (z_b Z))), (u2, .inl (cI, 1500, .inl (z_s Z))), (u3, .inl (cI, 1500, .inl (nF (z_d Z)))), (as, .inl (cI, 8, .inl (nF sz))), (ak, .inr (3, [.int (nI nk), .int (nI nd), .ref ad, .ref as, .ref ar])), (ar, .inl (cI, 48, .inl (nF ro)))] := hD
      refine r_top (x' := nI (n_mv ro stp i)) (f_mvof_n ro stp i) ?_
      refine r_iast (j := (s0 - n_size sz stp) + i) C hP hD hS 1 rfl (by omega) (by decide) dX6_take_82 (fun H locs hP hD hS => ?_)
      have hP : va_P D vwCl [(ap, .inr (7, [.int (oI lo), .ref pm, .int (nI (s0 - n_size sz stp))])), (pm, .inl (cI, 9000, .inl (upd g ((s0 - n_size sz stp) + i) (nI (n_mv ro stp i))))), (an, .inr (6, [.ref u0, .ref u1, .ref u2, .ref u3, .int (nI Z.1), .int (nI ndd), .ref u4, .ref u5, .ref u6, .ref u7, .ref u8, .int (nI ncc), .long ncl])), (u1, .inl (cI, 1500, .inl (z_b Z))), (u2, .inl (cI, 1500, .inl (z_s Z))), (u3, .inl (cI, 1500, .inl (nF (z_d Z)))), (as, .inl (cI, 8, .inl (nF sz))), (ak, .inr (3, [.int (nI nk), .int (nI nd), .ref ad, .ref as, .ref ar])), (ar, .inl (cI, 48, .inl (nF ro)))] H := hP
      have hD : va_D A [(ap, .inr (7, [.int (oI lo), .ref pm, .int (nI (s0 - n_size sz stp))])), (pm, .inl (cI, 9000, .inl (upd g ((s0 - n_size sz stp) + i) (nI (n_mv ro stp i))))), (an, .inr (6, [.ref u0, .ref u1, .ref u2, .ref u3, .int (nI Z.1), .int (nI ndd), .ref u4, .ref u5, .ref u6, .ref u7, .ref u8, .int (nI ncc), .long ncl])), (u1, .inl (cI, 1500, .inl (z_b Z))), (u2, .inl (cI, 1500, .inl (z_s Z))), (u3, .inl (cI, 1500, .inl (nF (z_d Z)))), (as, .inl (cI, 8, .inl (nF sz))), (ak, .inr (3, [.int (nI nk), .int (nI nd), .ref ad, .ref as, .ref ar])), (ar, .inl (cI, 48, .inl (nF ro)))] := hD
      refine lv_iinc (v := nI (i + 1)) (lv' := [(8, .int (nI (i + 1))), (0, .ref ap), (1, .ref an), (3, .ref ak), (4, .int (nI nod)), (5, .int (nI (d1 + 1))), (6, .int (nI stp)), (7, .int (nI (n_size sz stp)))]) hx hb dX6_take_83 hl (k := 7) rfl (nI_1 _) (by decide) rfl (fun ls hl => ?_)
      refine lv_goto (tgt := 56) hx hb dX6_take_86 (by decide) ?_
      exact ih (i + 1) (upd g ((s0 - n_size sz stp) + i) (nI (n_mv ro stp i))) (by omega) (fun k => by simp only [upd]; by_cases hk : k = (s0 - n_size sz stp) + i; (rw [if_pos hk, if_pos ⟨by omega, by omega⟩, show k - (s0 - n_size sz stp) = i by omega]); (rw [if_neg hk, hgk]; by_cases hk2 : (s0 - n_size sz stp) ≤ k ∧ k < (s0 - n_size sz stp) + i; (rw [if_pos hk2, if_pos ⟨hk2.1, by omega⟩]); (rw [if_neg hk2, if_neg (by omega)]))) (by omega) _ _ _ (hP.sub [0, 1, 2, 3, 4, 5, 7, 6, 8] rfl) (hD.sub [0, 1, 2, 3, 4, 5, 7, 6, 8] (by decide) rfl) hS (lv_sub hl [1, 2, 3, 4, 5, 6, 7, 0] rfl)
set_option maxHeartbeats 4000000 in
set_option maxRecDepth 100000 in
theorem lp_X6_take_20 (l : Launch) (D : va_G) (cI cJ cZ : ClassId) (ap : Nat) (lo : Option Nat) (pm : Nat) (p0 : Nat) (pv : Nat → Int32) (an : Nat) (u0 : Nat) (u1 : Nat) (u2 : Nat) (u3 : Nat) (u4 : Nat) (u5 : Nat) (u6 : Nat) (u7 : Nat) (u8 : Nat) (ndd : Nat) (ncc : Nat) (ncl : Int64) (Z : ZN) (ak : Nat) (nk : Nat) (nd : Nat) (ad : Nat) (as : Nat) (ar : Nat) (sz : Nat → Nat) (ro : Nat → Nat) (la : Nat) (hT : treeOK Z) (hz : Z.1 ≤ 1500) (hla : la < Z.1) (hsz : ∀ k, sz k ≤ 6)   {p : Program} {e : Env} {s : State} {m : MethodId} {below : List Frame} {meth : Method} {c : Code} {A : Nat → Prop} {Q : State → Prop} (C : Cx D cI cJ cZ p s m ([.ref ap, .ref an, .int (nI la), .ref ak] : List Value).toArray meth c yX6_take cX6_take 9 none) (hQ : QOK Q below s ([.ref ap, .ref an, .int (nI la), .ref ak] : List Value).toArray D A (fun r W => ∃ (pv2 : Nat → Int32), r = none ∧ W = [(ap, .inr (7, [.int (oI (some (f_path (z_b Z) (z_s Z) sz ro (z_d Z la) la).length)), .ref pm, .int (nI (9000 - (f_path (z_b Z) (z_s Z) sz ro (z_d Z la) la).length))])), (pm, .inl (cI, 9000, .inl pv2)), (an, .inr (6, [.ref u0, .ref u1, .ref u2, .ref u3, .int (nI Z.1), .int (nI ndd), .ref u4, .ref u5, .ref u6, .ref u7, .ref u8, .int (nI ncc), .long ncl])), (u1, .inl (cI, 1500, .inl (z_b Z))), (u2, .inl (cI, 1500, .inl (z_s Z))), (u3, .inl (cI, 1500, .inl (nF (z_d Z)))), (ak, .inr (3, [.int (nI nk), .int (nI nd), .ref ad, .ref as, .ref ar])), (as, .inl (cI, 8, .inl (nF sz))), (ar, .inl (cI, 48, .inl (nF ro)))] ∧ heldAt pv2 (9000 - (f_path (z_b Z) (z_s Z) sz ro (z_d Z la) la).length) (f_path (z_b Z) (z_s Z) sz ro (z_d Z la) la) ∧ (f_path (z_b Z) (z_s Z) sz ro (z_d Z la) la).length ≤ 9000) 0 0) (hA : ∀ q, s.heap.size ≤ q → A q) : ∀ (ku : Nat) (d : Nat) (nod : Nat) (s0 : Nat) (pvc : Nat → Int32) (sfx : List Nat) (hno : nod < Z.1) (hdn : z_d Z nod = d) (hP_ : f_path (z_b Z) (z_s Z) sz ro d nod ++ sfx = (f_path (z_b Z) (z_s Z) sz ro (z_d Z la) la)) (hs0 : s0 + sfx.length = 9000) (hsl : sfx.length + 6 * d ≤ 6 * z_d Z la) (hh : heldAt pvc s0 sfx), (d) < ku → ∀ (H : Heap) (locs : List Loc) (ls : Array Slot), va_P D vwCl [(ap, .inr (7, [.int (oI lo), .ref pm, .int (nI s0)])), (pm, .inl (cI, 9000, .inl pvc)), (an, .inr (6, [.ref u0, .ref u1, .ref u2, .ref u3, .int (nI Z.1), .int (nI ndd), .ref u4, .ref u5, .ref u6, .ref u7, .ref u8, .int (nI ncc), .long ncl])), (u1, .inl (cI, 1500, .inl (z_b Z))), (u2, .inl (cI, 1500, .inl (z_s Z))), (u3, .inl (cI, 1500, .inl (nF (z_d Z)))), (ak, .inr (3, [.int (nI nk), .int (nI nd), .ref ad, .ref as, .ref ar])), (as, .inl (cI, 8, .inl (nF sz))), (ar, .inl (cI, 48, .inl (nF ro)))] H → va_D A [(ap, .inr (7, [.int (oI lo), .ref pm, .int (nI s0)])), (pm, .inl (cI, 9000, .inl pvc)), (an, .inr (6, [.ref u0, .ref u1, .ref u2, .ref u3, .int (nI Z.1), .int (nI ndd), .ref u4, .ref u5, .ref u6, .ref u7, .ref u8, .int (nI ncc), .long ncl])), (u1, .inl (cI, 1500, .inl (z_b Z))), (u2, .inl (cI, 1500, .inl (z_s Z))), (u3, .inl (cI, 1500, .inl (nF (z_d Z)))), (ak, .inr (3, [.int (nI nk), .int (nI nd), .ref ad, .ref as, .ref ar])), (as, .inl (cI, 8, .inl (nF sz))), (ar, .inl (cI, 48, .inl (nF ro)))] → va_S A s.heap H locs → lv_has ls 9 [(0, .ref ap), (1, .ref an), (3, .ref ak), (4, .int (nI nod)), (5, .int (nI d))] → W p l e ({ frames := 1, cells := 0, slots := 0, locals := 22 } : Room) s m ([.ref ap, .ref an, .int (nI la), .ref ak] : List Value).toArray below meth c H locs 0 0 Q (F0 m 20 ls []) := by
  obtain ⟨hx, hb, hr, hml, hts, hown, hlk, hnm, hK, hN⟩ := id C
  intro ku
  induction ku with
  | zero =>
    intro d nod s0 pvc sfx hno hdn hP_ hs0 hsl hh hku
    exact absurd hku (Nat.not_lt_zero _)
  | succ ku ih =>
    intro d nod s0 pvc sfx hno hdn hP_ hs0 hsl hh hku H locs ls hP hD hS hl
    have hdlo := depth_le hT nod nod (Nat.le_refl _) hno
    refine lv_iload hx hb dX6_take_20 (lv_at hl 4 rfl) ?_
    refine lv_if_le (tgt := 104) hx hb dX6_take_22 (by decide) (fun c_22 => ?_) (fun c_22 => ?_)
    · -- taken 22
      have c_22 : d ≤ 0 := (nI_leI (a := d) (b := 0) (by omega) (by omega)).mp c_22
      have hs9 : s0 ≤ 9000 := by omega
      refine lv_aload_n hx hb dX6_take_104 rfl (lv_at hl 0 rfl) ?_
      refine lv_aload_n hx hb dX6_take_105 rfl (lv_at hl 0 rfl) ?_
      refine r_get (v := .ref pm) C hP okX6 0 1 rfl (by decide) fl_X6_15 rfl rfl dX6_take_106 ?_
      refine r_alen C hP 1 rfl dX6_take_109 ?_
      refine lv_aload_n hx hb dX6_take_110 rfl (lv_at hl 0 rfl) ?_
      refine r_get (v := .int (nI s0)) C hP okX6 0 2 rfl (by decide) fl_X6_19 rfl rfl dX6_take_111 ?_
      refine lv_isub hx hb dX6_take_114 ?_
      refine r_top (x' := nI (9000 - s0)) (pk_sub (by omega)) ?_
      refine r_put (v := .int (nI (9000 - s0))) C hP hD hS okX6 0 0 rfl (by decide) fl_X6_9 rfl rfl rfl rfl (Nat.le_of_ble_eq_true rfl) dX6_take_115 (fun H locs hP hD hS => ?_)
      have hP : va_P D vwCl [(ap, .inr (7, [.int (nI (9000 - s0)), .ref pm, .int (nI s0)])), (pm, .inl (cI, 9000, .inl pvc)), (an, .inr (6, [.ref u0, .ref u1, .ref u2, .ref u3, .int (nI Z.1), .int (nI ndd), .ref u4, .ref u5, .ref u6, .ref u7, .ref u8, .int (nI ncc), .long ncl])), (u1, .inl (cI, 1500, .inl (z_b Z))), (u2, .inl (cI, 1500, .inl (z_s Z))), (u3, .inl (cI, 1500, .inl (nF (z_d Z)))), (ak, .inr (3, [.int (nI nk), .int (nI nd), .ref ad, .ref as, .ref ar])), (as, .inl (cI, 8, .inl (nF sz))), (ar, .inl (cI, 48, .inl (nF ro)))] H := hP
      have hD : va_D A [(ap, .inr (7, [.int (nI (9000 - s0)), .ref pm, .int (nI s0)])), (pm, .inl (cI, 9000, .inl pvc)), (an, .inr (6, [.ref u0, .ref u1, .ref u2, .ref u3, .int (nI Z.1), .int (nI ndd), .ref u4, .ref u5, .ref u6, .ref u7, .ref u8, .int (nI ncc), .long ncl])), (u1, .inl (cI, 1500, .inl (z_b Z))), (u2, .inl (cI, 1500, .inl (z_s Z))), (u3, .inl (cI, 1500, .inl (nF (z_d Z)))), (ak, .inr (3, [.int (nI nk), .int (nI nd), .ref ad, .ref as, .ref ar])), (as, .inl (cI, 8, .inl (nF sz))), (ar, .inl (cI, 48, .inl (nF ro)))] := hD
      exact rt_v C hQ (hP.sub (ws' := [(ap, .inr (7, [.int (nI (9000 - s0)), .ref pm, .int (nI s0)])), (pm, .inl (cI, 9000, .inl pvc)), (an, .inr (6, [.ref u0, .ref u1, .ref u2, .ref u3, .int (nI Z.1), .int (nI ndd), .ref u4, .ref u5, .ref u6, .ref u7, .ref u8, .int (nI ncc), .long ncl])), (u1, .inl (cI, 1500, .inl (z_b Z))), (u2, .inl (cI, 1500, .inl (z_s Z))), (u3, .inl (cI, 1500, .inl (nF (z_d Z)))), (ak, .inr (3, [.int (nI nk), .int (nI nd), .ref ad, .ref as, .ref ar])), (as, .inl (cI, 8, .inl (nF sz))), (ar, .inl (cI, 48, .inl (nF ro)))]) [0, 1, 2, 3, 4, 5, 6, 7, 8] rfl) (hD.sub [0, 1, 2, 3, 4, 5, 6, 7, 8] (by decide) rfl) hS (by obtain rfl : d = 0 := (by omega); have hPs : sfx = (f_path (z_b Z) (z_s Z) sz ro (z_d Z la) la) := hP_; have eL : 9000 - s0 = (f_path (z_b Z) (z_s Z) sz ro (z_d Z la) la).length := (by rw [← hPs]; omega); have eS : s0 = 9000 - (f_path (z_b Z) (z_s Z) sz ro (z_d Z la) la).length := (by rw [← hPs]; omega); refine ⟨pvc, rfl, ?_, ?_, ?_⟩; (rw [eL, ← eS]; rfl); (rw [← eS, ← hPs]; exact hh); (rw [← hPs]; omega)) (by decide) (by decide) dX6_take_118
    · -- not taken 22
      have c_22 : ¬ (d ≤ 0) := fun z => c_22 ((nI_leI (a := d) (b := 0) (by omega) (by omega)).mpr z)
      obtain ⟨d1, rfl⟩ : ∃ d1, d = d1 + 1 := ⟨d - 1, by omega⟩
      have hpos : 0 < nod := by rcases Nat.eq_zero_or_pos nod with z | z; (rw [z, hT.1] at hdn; omega); exact z
      obtain ⟨b, stp, e1, hbn, e3, hso, e5⟩ := hT.2 nod hpos hno
      have hs8 : stp < 108 := by rcases hso with z | z <;> omega
      have h6 := n_size_le hsz stp
      have hdl := depth_le hT nod nod (Nat.le_refl _) hno
      have hdL := depth_le hT la la (Nat.le_refl _) hla
      refine lv_aload_n hx hb dX6_take_25 rfl (lv_at hl 1 rfl) ?_
      refine r_get (v := .ref u2) C hP okX5 2 2 rfl (by decide) fl_X6_27 rfl rfl dX6_take_26 ?_
      refine lv_iload hx hb dX6_take_29 (lv_at hl 3 rfl) ?_
      refine r_iald (j := nod) C hP 4 rfl (by omega) (by decide) dX6_take_31 ?_
      refine r_top (x' := nI stp) e3 ?_
      refine lv_istore (lv' := [(6, .int (nI stp)), (0, .ref ap), (1, .ref an), (3, .ref ak), (4, .int (nI nod)), (5, .int (nI (d1 + 1)))]) hx hb dX6_take_32 hl (by decide) rfl (fun ls hl => ?_)
      refine lv_aload_n hx hb dX6_take_34 rfl (lv_at hl 3 rfl) ?_
      refine lv_iload hx hb dX6_take_35 (lv_at hl 0 rfl) ?_
      refine cl_v C (c_X2_sizeOf l D cI cJ cZ ak nk nd ad as ar (nF sz) stp hs8) cd_X2_sizeOf ml_X6_30 im_X2_sizeOf se_X2_sizeOf in_X2 hd_X2_sizeOf ⟨by decide, by decide⟩ hP hD hS hA (WR := [(ap, .inr (7, [.int (oI lo), .ref pm, .int (nI s0)])), (pm, .inl (cI, 9000, .inl pvc)), (an, .inr (6, [.ref u0, .ref u1, .ref u2, .ref u3, .int (nI Z.1), .int (nI ndd), .ref u4, .ref u5, .ref u6, .ref u7, .ref u8, .int (nI ncc), .long ncl])), (u1, .inl (cI, 1500, .inl (z_b Z))), (u2, .inl (cI, 1500, .inl (z_s Z))), (u3, .inl (cI, 1500, .inl (nF (z_d Z)))), (ar, .inl (cI, 48, .inl (nF ro)))]) [6, 7] [0, 1, 2, 3, 4, 5, 8] rfl rfl rfl rfl (by decide) (ci := 3) (q0 := 6) rfl rfl hl.1 rfl (Nat.le_of_ble_eq_true rfl) dX6_take_37 ⟨by decide, by decide⟩ (fun r W H locs hp hP hD hS => ?_)
      obtain ⟨rfl, rfl⟩ := hp
      refine W.eq (g2 := F0 m 40 ls [.int (f_size (nF sz) stp)]) rfl ?_
      have hP : va_P D vwCl [(ap, .inr (7, [.int (oI lo), .ref pm, .int (nI s0)])), (pm, .inl (cI, 9000, .inl pvc)), (an, .inr (6, [.ref u0, .ref u1, .ref u2, .ref u3, .int (nI Z.1), .int (nI ndd), .ref u4, .ref u5, .ref u6, .ref u7, .ref u8, .int (nI ncc), .long ncl])), (u1, .inl (cI, 1500, .inl (z_b Z))), (u2, .inl (cI, 1500, .inl (z_s Z))), (u3, .inl (cI, 1500, .inl (nF (z_d Z)))), (ar, .inl (cI, 48, .inl (nF ro))), (ak, .inr (3, [.int (nI nk), .int (nI nd), .ref ad, .ref as, .ref ar])), (as, .inl (cI, 8, .inl (nF sz)))] H := hP
      have hD : va_D A [(ap, .inr (7, [.int (oI lo), .ref pm, .int (nI s0)])), (pm, .inl (cI, 9000, .inl pvc)), (an, .inr (6, [.ref u0, .ref u1, .ref u2, .ref u3, .int (nI Z.1), .int (nI ndd), .ref u4, .ref u5, .ref u6, .ref u7, .ref u8, .int (nI ncc), .long ncl])), (u1, .inl (cI, 1500, .inl (z_b Z))), (u2, .inl (cI, 1500, .inl (z_s Z))), (u3, .inl (cI, 1500, .inl (nF (z_d Z)))), (ar, .inl (cI, 48, .inl (nF ro))), (ak, .inr (3, [.int (nI nk), .int (nI nd), .ref ad, .ref as, .ref ar])), (as, .inl (cI, 8, .inl (nF sz)))] := hD
      refine r_top (x' := nI (n_size sz stp)) (f_size_n sz stp) ?_
      refine lv_istore (lv' := [(7, .int (nI (n_size sz stp))), (6, .int (nI stp)), (0, .ref ap), (1, .ref an), (3, .ref ak), (4, .int (nI nod)), (5, .int (nI (d1 + 1)))]) hx hb dX6_take_40 hl (by decide) rfl (fun ls hl => ?_)
      refine lv_aload_n hx hb dX6_take_42 rfl (lv_at hl 2 rfl) ?_
      refine lv_dup hx hb dX6_take_43 rfl ?_
      refine r_get (v := .int (nI s0)) C hP okX6 0 2 rfl (by decide) fl_X6_19 rfl rfl dX6_take_44 ?_
      refine lv_iload hx hb dX6_take_47 (lv_at hl 0 rfl) ?_
      refine lv_isub hx hb dX6_take_49 ?_
      refine r_top (x' := nI (s0 - n_size sz stp)) (pk_sub (by omega)) ?_
      refine r_put (v := .int (nI (s0 - n_size sz stp))) C hP hD hS okX6 0 2 rfl (by decide) fl_X6_19 rfl rfl rfl rfl (Nat.le_of_ble_eq_true rfl) dX6_take_50 (fun H locs hP hD hS => ?_)
      have hP : va_P D vwCl [(ap, .inr (7, [.int (oI lo), .ref pm, .int (nI (s0 - n_size sz stp))])), (pm, .inl (cI, 9000, .inl pvc)), (an, .inr (6, [.ref u0, .ref u1, .ref u2, .ref u3, .int (nI Z.1), .int (nI ndd), .ref u4, .ref u5, .ref u6, .ref u7, .ref u8, .int (nI ncc), .long ncl])), (u1, .inl (cI, 1500, .inl (z_b Z))), (u2, .inl (cI, 1500, .inl (z_s Z))), (u3, .inl (cI, 1500, .inl (nF (z_d Z)))), (ar, .inl (cI, 48, .inl (nF ro))), (ak, .inr (3, [.int (nI nk), .int (nI nd), .ref ad, .ref as, .ref ar])), (as, .inl (cI, 8, .inl (nF sz)))] H := hP
      have hD : va_D A [(ap, .inr (7, [.int (oI lo), .ref pm, .int (nI (s0 - n_size sz stp))])), (pm, .inl (cI, 9000, .inl pvc)), (an, .inr (6, [.ref u0, .ref u1, .ref u2, .ref u3, .int (nI Z.1), .int (nI ndd), .ref u4, .ref u5, .ref u6, .ref u7, .ref u8, .int (nI ncc), .long ncl])), (u1, .inl (cI, 1500, .inl (z_b Z))), (u2, .inl (cI, 1500, .inl (z_s Z))), (u3, .inl (cI, 1500, .inl (nF (z_d Z)))), (ar, .inl (cI, 48, .inl (nF ro))), (ak, .inr (3, [.int (nI nk), .int (nI nd), .ref ad, .ref as, .ref ar])), (as, .inl (cI, 8, .inl (nF sz)))] := hD
      refine lv_iconst (v := 0) hx hb dX6_take_53 (by decide) ?_
      refine lv_istore (lv' := [(8, .int 0), (7, .int (nI (n_size sz stp))), (6, .int (nI stp)), (0, .ref ap), (1, .ref an), (3, .ref ak), (4, .int (nI nod)), (5, .int (nI (d1 + 1)))]) hx hb dX6_take_54 hl (by decide) rfl (fun ls hl => ?_)
      refine lp_X6_take_56 l D cI cJ cZ ap lo pm p0 pv an u0 u1 u2 u3 u4 u5 u6 u7 u8 ndd ncc ncl Z ak nk nd ad as ar sz ro la hT hz hla hsz nod d1 stp s0 pvc hs8 h6 (by omega) (by omega) C hQ hA (fun i g H locs ls hgx hP hD hS hl => ?_) _ 0 pvc (by omega) (fun k => by rw [if_neg (by omega)]) (Nat.lt_succ_self _) _ _ _ (hP.sub [0, 1, 2, 3, 4, 5, 7, 8, 6] rfl) (hD.sub [0, 1, 2, 3, 4, 5, 7, 8, 6] (by decide) rfl) hS (lv_sub hl [3, 4, 5, 6, 7, 2, 1, 0] rfl)
      have hP : va_P D vwCl [(ap, .inr (7, [.int (oI lo), .ref pm, .int (nI (s0 - n_size sz stp))])), (pm, .inl (cI, 9000, .inl g)), (an, .inr (6, [.ref u0, .ref u1, .ref u2, .ref u3, .int (nI Z.1), .int (nI ndd), .ref u4, .ref u5, .ref u6, .ref u7, .ref u8, .int (nI ncc), .long ncl])), (u1, .inl (cI, 1500, .inl (z_b Z))), (u2, .inl (cI, 1500, .inl (z_s Z))), (u3, .inl (cI, 1500, .inl (nF (z_d Z)))), (ak, .inr (3, [.int (nI nk), .int (nI nd), .ref ad, .ref as, .ref ar])), (as, .inl (cI, 8, .inl (nF sz))), (ar, .inl (cI, 48, .inl (nF ro)))] H := hP
      have hD : va_D A [(ap, .inr (7, [.int (oI lo), .ref pm, .int (nI (s0 - n_size sz stp))])), (pm, .inl (cI, 9000, .inl g)), (an, .inr (6, [.ref u0, .ref u1, .ref u2, .ref u3, .int (nI Z.1), .int (nI ndd), .ref u4, .ref u5, .ref u6, .ref u7, .ref u8, .int (nI ncc), .long ncl])), (u1, .inl (cI, 1500, .inl (z_b Z))), (u2, .inl (cI, 1500, .inl (z_s Z))), (u3, .inl (cI, 1500, .inl (nF (z_d Z)))), (ak, .inr (3, [.int (nI nk), .int (nI nd), .ref ad, .ref as, .ref ar])), (as, .inl (cI, 8, .inl (nF sz))), (ar, .inl (cI, 48, .inl (nF ro)))] := hD
      refine lv_aload_n hx hb dX6_take_89 rfl (lv_at hl 1 rfl) ?_
      refine r_get (v := .ref u1) C hP okX5 2 1 rfl (by decide) fl_X6_40 rfl rfl dX6_take_90 ?_
      refine lv_iload hx hb dX6_take_93 (lv_at hl 3 rfl) ?_
      refine r_iald (j := nod) C hP 3 rfl (by omega) (by decide) dX6_take_95 ?_
      refine r_top (x' := nI b) e1 ?_
      refine lv_istore (lv' := [(4, .int (nI b)), (0, .ref ap), (1, .ref an), (3, .ref ak), (5, .int (nI (d1 + 1)))]) hx hb dX6_take_96 hl (by decide) rfl (fun ls hl => ?_)
      refine lv_iinc (v := nI d1) (lv' := [(5, .int (nI d1)), (4, .int (nI b)), (0, .ref ap), (1, .ref an), (3, .ref ak)]) hx hb dX6_take_98 hl (k := 4) rfl (pk_m1 _) (by decide) rfl (fun ls hl => ?_)
      refine lv_goto (tgt := 20) hx hb dX6_take_101 (by decide) ?_
      exact ih d1 b (s0 - n_size sz stp) g (stMoves sz ro stp ++ sfx) (by omega) (by omega) (by rw [← hP_]; show _ = (f_path (z_b Z) (z_s Z) sz ro d1 (z_b Z nod).toNatClampNeg ++ stMoves sz ro (z_s Z nod).toNatClampNeg) ++ sfx; rw [e1, e3, nI_clamp (by omega), nI_clamp (by omega), List.append_assoc]) (by rw [List.length_append, stMoves_len]; omega) (by rw [List.length_append, stMoves_len]; omega) (heldAt_app (heldAt_of hgx) (by rw [stMoves_len]; exact heldAt_keep hgx (by rw [show s0 - n_size sz stp + n_size sz stp = s0 by omega]; exact hh))) (by omega) _ _ _ (hP.sub [0, 1, 2, 3, 4, 5, 6, 7, 8] rfl) (hD.sub [0, 1, 2, 3, 4, 5, 6, 7, 8] (by decide) rfl) hS (lv_sub hl [2, 3, 4, 1, 0] rfl)
set_option maxHeartbeats 4000000 in
set_option maxRecDepth 100000 in
theorem c_X6_take (l : Launch) (D : va_G) (cI cJ cZ : ClassId) (ap : Nat) (lo : Option Nat) (pm : Nat) (p0 : Nat) (pv : Nat → Int32) (an : Nat) (u0 : Nat) (u1 : Nat) (u2 : Nat) (u3 : Nat) (u4 : Nat) (u5 : Nat) (u6 : Nat) (u7 : Nat) (u8 : Nat) (ndd : Nat) (ncc : Nat) (ncl : Int64) (Z : ZN) (ak : Nat) (nk : Nat) (nd : Nat) (ad : Nat) (as : Nat) (ar : Nat) (sz : Nat → Nat) (ro : Nat → Nat) (la : Nat) (hT : treeOK Z) (hz : Z.1 ≤ 1500) (hla : la < Z.1) (hsz : ∀ k, sz k ≤ 6) : Ctr l D cI cJ cZ yX6_take cX6_take 9 none ({ frames := 1, cells := 0, slots := 0, locals := 22 } : Room) [.ref ap, .ref an, .int (nI la), .ref ak] [(ap, .inr (7, [.int (oI lo), .ref pm, .int (nI p0)])), (pm, .inl (cI, 9000, .inl pv)), (an, .inr (6, [.ref u0, .ref u1, .ref u2, .ref u3, .int (nI Z.1), .int (nI ndd), .ref u4, .ref u5, .ref u6, .ref u7, .ref u8, .int (nI ncc), .long ncl])), (u1, .inl (cI, 1500, .inl (z_b Z))), (u2, .inl (cI, 1500, .inl (z_s Z))), (u3, .inl (cI, 1500, .inl (nF (z_d Z)))), (ak, .inr (3, [.int (nI nk), .int (nI nd), .ref ad, .ref as, .ref ar])), (as, .inl (cI, 8, .inl (nF sz))), (ar, .inl (cI, 48, .inl (nF ro)))] (fun r W => ∃ (pv2 : Nat → Int32), r = none ∧ W = [(ap, .inr (7, [.int (oI (some (f_path (z_b Z) (z_s Z) sz ro (z_d Z la) la).length)), .ref pm, .int (nI (9000 - (f_path (z_b Z) (z_s Z) sz ro (z_d Z la) la).length))])), (pm, .inl (cI, 9000, .inl pv2)), (an, .inr (6, [.ref u0, .ref u1, .ref u2, .ref u3, .int (nI Z.1), .int (nI ndd), .ref u4, .ref u5, .ref u6, .ref u7, .ref u8, .int (nI ncc), .long ncl])), (u1, .inl (cI, 1500, .inl (z_b Z))), (u2, .inl (cI, 1500, .inl (z_s Z))), (u3, .inl (cI, 1500, .inl (nF (z_d Z)))), (ak, .inr (3, [.int (nI nk), .int (nI nd), .ref ad, .ref as, .ref ar])), (as, .inl (cI, 8, .inl (nF sz))), (ar, .inl (cI, 48, .inl (nF ro)))] ∧ heldAt pv2 (9000 - (f_path (z_b Z) (z_s Z) sz ro (z_d Z la) la).length) (f_path (z_b Z) (z_s Z) sz ro (z_d Z la) la) ∧ (f_path (z_b Z) (z_s Z) sz ro (z_d Z la) la).length ≤ 9000) := by
  refine Ctr.start (by decide +kernel) (Nat.le_of_ble_eq_true rfl) ?_
  intro p e s m below meth c A Q ls H C hQ hA hP hD hS hl
  obtain ⟨hx, hb, hr, hml, hts, hown, hlk, hnm, hK, hN⟩ := id C
  have hl : lv_has ls 9 [(0, .ref ap), (1, .ref an), (2, .int (nI la)), (3, .ref ak)] := hl
  refine lv_aload_n hx hb dX6_take_0 rfl (lv_at hl 0 rfl) ?_
  refine lv_aload_n hx hb dX6_take_1 rfl (lv_at hl 0 rfl) ?_
  refine r_get (v := .ref pm) C hP okX6 0 1 rfl (by decide) fl_X6_15 rfl rfl dX6_take_2 ?_
  refine r_alen C hP 1 rfl dX6_take_5 ?_
  refine r_put (v := .int (nI 9000)) C hP hD hS okX6 0 2 rfl (by decide) fl_X6_19 rfl rfl rfl rfl (Nat.le_of_ble_eq_true rfl) dX6_take_6 (fun H locs hP hD hS => ?_)
  have hP : va_P D vwCl [(ap, .inr (7, [.int (oI lo), .ref pm, .int (nI 9000)])), (pm, .inl (cI, 9000, .inl pv)), (an, .inr (6, [.ref u0, .ref u1, .ref u2, .ref u3, .int (nI Z.1), .int (nI ndd), .ref u4, .ref u5, .ref u6, .ref u7, .ref u8, .int (nI ncc), .long ncl])), (u1, .inl (cI, 1500, .inl (z_b Z))), (u2, .inl (cI, 1500, .inl (z_s Z))), (u3, .inl (cI, 1500, .inl (nF (z_d Z)))), (ak, .inr (3, [.int (nI nk), .int (nI nd), .ref ad, .ref as, .ref ar])), (as, .inl (cI, 8, .inl (nF sz))), (ar, .inl (cI, 48, .inl (nF ro)))] H := hP
  have hD : va_D A [(ap, .inr (7, [.int (oI lo), .ref pm, .int (nI 9000)])), (pm, .inl (cI, 9000, .inl pv)), (an, .inr (6, [.ref u0, .ref u1, .ref u2, .ref u3, .int (nI Z.1), .int (nI ndd), .ref u4, .ref u5, .ref u6, .ref u7, .ref u8, .int (nI ncc), .long ncl])), (u1, .inl (cI, 1500, .inl (z_b Z))), (u2, .inl (cI, 1500, .inl (z_s Z))), (u3, .inl (cI, 1500, .inl (nF (z_d Z)))), (ak, .inr (3, [.int (nI nk), .int (nI nd), .ref ad, .ref as, .ref ar])), (as, .inl (cI, 8, .inl (nF sz))), (ar, .inl (cI, 48, .inl (nF ro)))] := hD
  refine lv_iload_n hx hb dX6_take_9 rfl (lv_at hl 2 rfl) ?_
  refine lv_istore (lv' := [(4, .int (nI la)), (0, .ref ap), (1, .ref an), (2, .int (nI la)), (3, .ref ak)]) hx hb dX6_take_10 hl (by decide) rfl (fun ls hl => ?_)
  refine lv_aload_n hx hb dX6_take_12 rfl (lv_at hl 2 rfl) ?_
  refine r_get (v := .ref u3) C hP okX5 2 3 rfl (by decide) fl_X6_22 rfl rfl dX6_take_13 ?_
  refine lv_iload_n hx hb dX6_take_16 rfl (lv_at hl 3 rfl) ?_
  refine r_iald (j := la) C hP 5 rfl (by omega) (by decide) dX6_take_17 ?_
  refine r_top (x' := nI ((z_d Z) la)) rfl ?_
  refine lv_istore (lv' := [(5, .int (nI ((z_d Z) la))), (4, .int (nI la)), (0, .ref ap), (1, .ref an), (2, .int (nI la)), (3, .ref ak)]) hx hb dX6_take_18 hl (by decide) rfl (fun ls hl => ?_)
  exact lp_X6_take_20 l D cI cJ cZ ap lo pm p0 pv an u0 u1 u2 u3 u4 u5 u6 u7 u8 ndd ncc ncl Z ak nk nd ad as ar sz ro la hT hz hla hsz   C hQ hA _ ((z_d Z) la) la 9000 pv ([]) hla rfl (List.append_nil _) rfl (by simp) (fun i hi => absurd hi (Nat.not_lt_zero _)) (Nat.lt_succ_self _) _ _ _ (hP.sub [0, 1, 2, 3, 4, 5, 6, 7, 8] rfl) (hD.sub [0, 1, 2, 3, 4, 5, 6, 7, 8] (by decide) rfl) hS (lv_sub hl [2, 3, 5, 1, 0] rfl)
