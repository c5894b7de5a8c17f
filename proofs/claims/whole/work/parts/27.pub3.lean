/-! PlaySearch (written by s14.py) -/
def f_never (u : Int32) : Nat → Nat → Int32 → Int32
  | 0, _, _ => -1
  | f + 1, t, left => if f_bit u (nI t) = 1 then (if left = 0 then nI t else f_never u f (t + 1) (left + (-1))) else f_never u f (t + 1) left
theorem f_never_1 {u : Int32} {f t : Nat} {left : Int32} (hf : 0 < f) (h : f_bit u (nI t) = 1) (h0 : left = 0) : f_never u f t left = nI t := by
  match f, hf with
  | f + 1, _ => simp only [f_never]; rw [if_pos h, if_pos h0]
theorem f_never_2 {u : Int32} {f t : Nat} {left : Int32} (hf : 0 < f) (h : f_bit u (nI t) = 1) (h0 : ¬ left = 0) : f_never u f t left = f_never u (f - 1) (t + 1) (left + (-1)) := by
  match f, hf with
  | f + 1, _ => simp only [f_never]; rw [if_pos h, if_neg h0]; rfl
theorem f_never_3 {u : Int32} {f t : Nat} {left : Int32} (hf : 0 < f) (h : ¬ f_bit u (nI t) = 1) : f_never u f t left = f_never u (f - 1) (t + 1) left := by
  match f, hf with
  | f + 1, _ => simp only [f_never]; rw [if_neg h]; rfl
def f_told (n nm nk ng nd nn tc ndd : Nat) (what : Int32) : Int32 := if what = 0 then nI n else if what = 1 then nI nm else if what = 2 then nI nk else if what = 3 then nI ng else if what = 4 then nI nd else if what = 5 then nI nn else if what = 6 then nI tc else if what = 7 then nI ndd else -1
theorem f_hasStep_ok {nm nk : Nat} {k : Int32} (hm : nm ≤ 24) (hk : nk ≤ 8) (h : f_hasStep nm nk k = true) : ∃ j, stOK j ∧ k = nI j := by
  simp only [f_hasStep, Bool.or_eq_true, Bool.and_eq_true, decide_eq_true_eq] at h
  rcases h with h | ⟨h1, h2⟩
  · obtain ⟨j, hj, rfl⟩ := (inR_iff (by omega)).mp h
    exact ⟨j, Or.inl (by omega), rfl⟩
  · have h0 : ¬ k < 0 := by
      rw [Int32.lt_iff_toInt_lt]
      rw [Int32.le_iff_toInt_le] at h1
      have e1 : (100 : Int32).toInt = 100 := by decide
      have e2 : (0 : Int32).toInt = 0 := by decide
      omega
    obtain ⟨j, hj, rfl⟩ := nI_of h0
    have a1 : 100 ≤ j := (nI_leI (a := 100) (b := j) (by decide) hj).mp h1
    have a2 : j < 100 + nk := (nI_ltI hj (by omega)).mp h2
    exact ⟨j, Or.inr ⟨a1, by omega⟩, rfl⟩
def f_now (M : MV) (n nm nk : Nat) (sz ro : Nat → Nat) (wt : Nat → Int32) (ng : Nat) (gk ga gb : Nat → Int32) (t : Mt) (what : Int32) : Int32 := if what = 0 then f_score wt t.1 n else if what = 1 then t.2.1 else if what = 2 then nI (f_count M n nm sz ro t (nm + nk)) else if what = 3 then (if 0 < ng ∧ f_met t.1 t.2.1 t.2.2.1 (f_score wt t.1 n) 0 gk ga gb ng = true then 1 else 0) else f_asked t.1 what n
set_option maxHeartbeats 4000000 in
set_option maxRecDepth 100000 in
theorem c_X9_shortest (l : Launch) (D : va_G) (cI cJ cZ : ClassId) (ax : Nat) (ay : Nat) (az : Nat) (ae : Nat) (ai : Nat) (ac : Nat) (av : Nat) (ak : Nat) (ag : Nat) (ao : Nat) (ap : Nat) (aq : Nat) (tc : Nat) (sn : Int32) (kt : Int32) (ish : Int32) (ah : Nat) (an : Nat) (hish : ish = 0 ∨ ish = 1) : Ctr l D cI cJ cZ yX9_shortest cX9_shortest 1 (some .boolean) ({ frames := 0, cells := 0, slots := 0, locals := 0 } : Room) [.ref ax] [(ax, .inr (10, [.ref ay, .ref az, .ref ae, .ref ai])), (az, .inr (8, [.ref an, .ref ap, .ref aq, .int (nI tc), .int sn, .int kt, .int ish, .ref ah]))] (fun r W => r = some (.int ish) ∧ W = [(ax, .inr (10, [.ref ay, .ref az, .ref ae, .ref ai])), (az, .inr (8, [.ref an, .ref ap, .ref aq, .int (nI tc), .int sn, .int kt, .int ish, .ref ah]))]) := by
  refine Ctr.start (by decide +kernel) (Nat.le_of_ble_eq_true rfl) ?_
  intro p e s m below meth c A Q ls H C hQ hA hP hD hS hl
  obtain ⟨hx, hb, hr, hml, hts, hown, hlk, hnm, hK, hN⟩ := id C
  have hl : lv_has ls 1 [(0, .ref ax)] := hl
  refine lv_aload_n hx hb dX9_shortest_0 rfl (lv_at hl 0 rfl) ?_
  refine r_get (v := .ref az) C hP okX9 0 1 rfl (by decide) fl_X9_19 rfl rfl dX9_shortest_1 ?_
  refine r_get (v := .int ish) C hP okX7 1 6 rfl (by decide) fl_X9_145 rfl rfl dX9_shortest_4 ?_
  exact rt_z C hQ (by rcases hish with h | h <;> rw [h] <;> rfl) (hP.sub (ws' := [(ax, .inr (10, [.ref ay, .ref az, .ref ae, .ref ai])), (az, .inr (8, [.ref an, .ref ap, .ref aq, .int (nI tc), .int sn, .int kt, .int ish, .ref ah]))]) [0, 1] rfl) (hD.sub [0, 1] (by decide) rfl) hS ⟨rfl, rfl⟩ (by decide) (by decide) dX9_shortest_7
set_option maxHeartbeats 4000000 in
set_option maxRecDepth 100000 in
theorem c_X9_node (l : Launch) (D : va_G) (cI cJ cZ : ClassId) (ax : Nat) (ay : Nat) (az : Nat) (ae : Nat) (ai : Nat) (ac : Nat) (av : Nat) (ak : Nat) (ag : Nat) (ao : Nat) (ap : Nat) (aq : Nat) (tc : Nat) (sn : Int32) (kt : Int32) (ish : Int32) (ah : Nat) (an : Nat) (u0 : Nat) (u1 : Nat) (u2 : Nat) (u3 : Nat) (u4 : Nat) (u5 : Nat) (u6 : Nat) (u7 : Nat) (u8 : Nat) (nn : Nat) (ndd : Nat) (ncc : Nat) (ncl : Int64) (nw : Nat → Int64) (nb : Nat → Int32) (ns : Nat → Int32) (ndp : Nat → Nat) (ne : Nat → Int32) (nsc : Nat → Int32) (ntk : Nat → Int32) (nde : Nat → Int32) (k0 : Int32) (what : Int32) (hnn : nn ≤ 1500) (hcc : ncc ≤ 10) : Ctr l D cI cJ cZ yX9_node cX9_node 3 (some .int) ({ frames := 3, cells := 0, slots := 0, locals := 68 } : Room) [.ref ax, .int k0, .int what] [(ax, .inr (10, [.ref ay, .ref az, .ref ae, .ref ai])), (az, .inr (8, [.ref an, .ref ap, .ref aq, .int (nI tc), .int sn, .int kt, .int ish, .ref ah])), (an, .inr (6, [.ref u0, .ref u1, .ref u2, .ref u3, .int (nI nn), .int (nI ndd), .ref u4, .ref u5, .ref u6, .ref u7, .ref u8, .int (nI ncc), .long ncl])), (u0, .inl (cJ, 1500, .inr (.inl nw))), (u1, .inl (cI, 1500, .inl nb)), (u2, .inl (cI, 1500, .inl ns)), (u3, .inl (cI, 1500, .inl (nF ndp))), (u4, .inl (cI, 1500, .inl ne)), (u5, .inl (cI, 1500, .inl nsc)), (u6, .inl (cZ, 1500, .inl ntk)), (u7, .inl (cZ, 1500, .inl nde))] (fun r W => r = some (.int (if inR k0 nn = true then f_tell nw nb ns ndp ne nsc ntk nde ncc k0.toNatClampNeg what else -1)) ∧ W = [(ax, .inr (10, [.ref ay, .ref az, .ref ae, .ref ai])), (az, .inr (8, [.ref an, .ref ap, .ref aq, .int (nI tc), .int sn, .int kt, .int ish, .ref ah])), (an, .inr (6, [.ref u0, .ref u1, .ref u2, .ref u3, .int (nI nn), .int (nI ndd), .ref u4, .ref u5, .ref u6, .ref u7, .ref u8, .int (nI ncc), .long ncl])), (u0, .inl (cJ, 1500, .inr (.inl nw))), (u1, .inl (cI, 1500, .inl nb)), (u2, .inl (cI, 1500, .inl ns)), (u3, .inl (cI, 1500, .inl (nF ndp))), (u4, .inl (cI, 1500, .inl ne)), (u5, .inl (cI, 1500, .inl nsc)), (u6, .inl (cZ, 1500, .inl ntk)), (u7, .inl (cZ, 1500, .inl nde))]) := by
  refine Ctr.start (by decide +kernel) (Nat.le_of_ble_eq_true rfl) ?_
  intro p e s m below meth c A Q ls H C hQ hA hP hD hS hl
  obtain ⟨hx, hb, hr, hml, hts, hown, hlk, hnm, hK, hN⟩ := id C
  have hl : lv_has ls 3 [(0, .ref ax), (1, .int k0), (2, .int what)] := hl
  refine lv_aload_n hx hb dX9_node_0 rfl (lv_at hl 0 rfl) ?_
  refine r_get (v := .ref az) C hP okX9 0 1 rfl (by decide) fl_X9_19 rfl rfl dX9_node_1 ?_
  refine r_get (v := .ref an) C hP okX7 1 0 rfl (by decide) fl_X9_171 rfl rfl dX9_node_4 ?_
  refine lv_iload_n hx hb dX9_node_7 rfl (lv_at hl 1 rfl) ?_
  refine cl_v C (c_X5_has l D cI cJ cZ an u0 u1 u2 u3 u4 u5 u6 u7 u8 nn ndd ncc ncl k0 (by omega)) cd_X5_has ml_X9_175 im_X5_has se_X5_has in_X5 hd_X5_has ⟨by decide, by decide⟩ hP hD hS hA (WR := [(ax, .inr (10, [.ref ay, .ref az, .ref ae, .ref ai])), (az, .inr (8, [.ref an, .ref ap, .ref aq, .int (nI tc), .int sn, .int kt, .int ish, .ref ah])), (u0, .inl (cJ, 1500, .inr (.inl nw))), (u1, .inl (cI, 1500, .inl nb)), (u2, .inl (cI, 1500, .inl ns)), (u3, .inl (cI, 1500, .inl (nF ndp))), (u4, .inl (cI, 1500, .inl ne)), (u5, .inl (cI, 1500, .inl nsc)), (u6, .inl (cZ, 1500, .inl ntk)), (u7, .inl (cZ, 1500, .inl nde))]) [2] [0, 1, 3, 4, 5, 6, 7, 8, 9, 10] rfl rfl rfl rfl (by decide) (ci := 6) (q0 := 2) rfl rfl hl.1 rfl (Nat.le_of_ble_eq_true rfl) dX9_node_8 ⟨by decide, by decide⟩ (fun r W H locs hp hP hD hS => ?_)
  rcases hp with ⟨⟨rfl, hb_8⟩ | ⟨rfl, hb_8⟩, rfl⟩
  · -- yes 8
    refine W.eq (g2 := F0 m 11 ls [.int 1]) rfl ?_
    have hP : va_P D vwCl [(ax, .inr (10, [.ref ay, .ref az, .ref ae, .ref ai])), (az, .inr (8, [.ref an, .ref ap, .ref aq, .int (nI tc), .int sn, .int kt, .int ish, .ref ah])), (u0, .inl (cJ, 1500, .inr (.inl nw))), (u1, .inl (cI, 1500, .inl nb)), (u2, .inl (cI, 1500, .inl ns)), (u3, .inl (cI, 1500, .inl (nF ndp))), (u4, .inl (cI, 1500, .inl ne)), (u5, .inl (cI, 1500, .inl nsc)), (u6, .inl (cZ, 1500, .inl ntk)), (u7, .inl (cZ, 1500, .inl nde)), (an, .inr (6, [.ref u0, .ref u1, .ref u2, .ref u3, .int (nI nn), .int (nI ndd), .ref u4, .ref u5, .ref u6, .ref u7, .ref u8, .int (nI ncc), .long ncl]))] H := hP
    have hD : va_D A [(ax, .inr (10, [.ref ay, .ref az, .ref ae, .ref ai])), (az, .inr (8, [.ref an, .ref ap, .ref aq, .int (nI tc), .int sn, .int kt, .int ish, .ref ah])), (u0, .inl (cJ, 1500, .inr (.inl nw))), (u1, .inl (cI, 1500, .inl nb)), (u2, .inl (cI, 1500, .inl ns)), (u3, .inl (cI, 1500, .inl (nF ndp))), (u4, .inl (cI, 1500, .inl ne)), (u5, .inl (cI, 1500, .inl nsc)), (u6, .inl (cZ, 1500, .inl ntk)), (u7, .inl (cZ, 1500, .inl nde)), (an, .inr (6, [.ref u0, .ref u1, .ref u2, .ref u3, .int (nI nn), .int (nI ndd), .ref u4, .ref u5, .ref u6, .ref u7, .ref u8, .int (nI ncc), .long ncl]))] := hD
    obtain ⟨j, hj, rfl⟩ := (inR_iff (by omega)).mp hb_8
    refine lv_if_eq (tgt := 29) hx hb dX9_node_11 (by decide) (fun c_11 => ?_) (fun c_11 => ?_)
    · exact absurd c_11 (by decide)
    refine lv_aload_n hx hb dX9_node_14 rfl (lv_at hl 0 rfl) ?_
    refine r_get (v := .ref az) C hP okX9 0 1 rfl (by decide) fl_X9_19 rfl rfl dX9_node_15 ?_
    refine r_get (v := .ref an) C hP okX7 1 0 rfl (by decide) fl_X9_171 rfl rfl dX9_node_18 ?_
    refine lv_iload_n hx hb dX9_node_21 rfl (lv_at hl 1 rfl) ?_
    refine lv_iload_n hx hb dX9_node_22 rfl (lv_at hl 2 rfl) ?_
    refine cl_v C (c_X5_tell l D cI cJ cZ an u0 u1 u2 u3 u4 u5 u6 u7 u8 nn ndd ncc ncl nw nb ns ndp ne nsc ntk nde j what (by omega) hcc) cd_X5_tell ml_X9_178 im_X5_tell se_X5_tell in_X5 hd_X5_tell ⟨by decide, by decide⟩ hP hD hS hA (WR := [(ax, .inr (10, [.ref ay, .ref az, .ref ae, .ref ai])), (az, .inr (8, [.ref an, .ref ap, .ref aq, .int (nI tc), .int sn, .int kt, .int ish, .ref ah]))]) [10, 2, 3, 4, 5, 6, 7, 8, 9] [0, 1] rfl rfl rfl rfl (by decide) (ci := 6) (q0 := 10) rfl rfl hl.1 rfl (Nat.le_of_ble_eq_true rfl) dX9_node_23 ⟨by decide, by decide⟩ (fun r W H locs hp hP hD hS => ?_)
    obtain ⟨rfl, rfl⟩ := hp
    refine W.eq (g2 := F0 m 26 ls [.int (f_tell nw nb ns ndp ne nsc ntk nde ncc j what)]) rfl ?_
    have hP : va_P D vwCl [(ax, .inr (10, [.ref ay, .ref az, .ref ae, .ref ai])), (az, .inr (8, [.ref an, .ref ap, .ref aq, .int (nI tc), .int sn, .int kt, .int ish, .ref ah])), (an, .inr (6, [.ref u0, .ref u1, .ref u2, .ref u3, .int (nI nn), .int (nI ndd), .ref u4, .ref u5, .ref u6, .ref u7, .ref u8, .int (nI ncc), .long ncl])), (u0, .inl (cJ, 1500, .inr (.inl nw))), (u1, .inl (cI, 1500, .inl nb)), (u2, .inl (cI, 1500, .inl ns)), (u3, .inl (cI, 1500, .inl (nF ndp))), (u4, .inl (cI, 1500, .inl ne)), (u5, .inl (cI, 1500, .inl nsc)), (u6, .inl (cZ, 1500, .inl ntk)), (u7, .inl (cZ, 1500, .inl nde))] H := hP
    have hD : va_D A [(ax, .inr (10, [.ref ay, .ref az, .ref ae, .ref ai])), (az, .inr (8, [.ref an, .ref ap, .ref aq, .int (nI tc), .int sn, .int kt, .int ish, .ref ah])), (an, .inr (6, [.ref u0, .ref u1, .ref u2, .ref u3, .int (nI nn), .int (nI ndd), .ref u4, .ref u5, .ref u6, .ref u7, .ref u8, .int (nI ncc), .long ncl])), (u0, .inl (cJ, 1500, .inr (.inl nw))), (u1, .inl (cI, 1500, .inl nb)), (u2, .inl (cI, 1500, .inl ns)), (u3, .inl (cI, 1500, .inl (nF ndp))), (u4, .inl (cI, 1500, .inl ne)), (u5, .inl (cI, 1500, .inl nsc)), (u6, .inl (cZ, 1500, .inl ntk)), (u7, .inl (cZ, 1500, .inl nde))] := hD
    refine lv_goto (tgt := 30) hx hb dX9_node_26 (by decide) ?_
    exact rt_i C hQ (hP.sub (ws' := [(ax, .inr (10, [.ref ay, .ref az, .ref ae, .ref ai])), (az, .inr (8, [.ref an, .ref ap, .ref aq, .int (nI tc), .int sn, .int kt, .int ish, .ref ah])), (an, .inr (6, [.ref u0, .ref u1, .ref u2, .ref u3, .int (nI nn), .int (nI ndd), .ref u4, .ref u5, .ref u6, .ref u7, .ref u8, .int (nI ncc), .long ncl])), (u0, .inl (cJ, 1500, .inr (.inl nw))), (u1, .inl (cI, 1500, .inl nb)), (u2, .inl (cI, 1500, .inl ns)), (u3, .inl (cI, 1500, .inl (nF ndp))), (u4, .inl (cI, 1500, .inl ne)), (u5, .inl (cI, 1500, .inl nsc)), (u6, .inl (cZ, 1500, .inl ntk)), (u7, .inl (cZ, 1500, .inl nde))]) [0, 1, 2, 3, 4, 5, 6, 7, 8, 9, 10] rfl) (hD.sub [0, 1, 2, 3, 4, 5, 6, 7, 8, 9, 10] (by decide) rfl) hS ⟨by rw [if_pos hb_8, nI_clamp (show j < 2 ^ 31 by omega)], rfl⟩ (by decide) (by decide) dX9_node_30
  · -- no 8
    refine W.eq (g2 := F0 m 11 ls [.int 0]) rfl ?_
    have hP : va_P D vwCl [(ax, .inr (10, [.ref ay, .ref az, .ref ae, .ref ai])), (az, .inr (8, [.ref an, .ref ap, .ref aq, .int (nI tc), .int sn, .int kt, .int ish, .ref ah])), (u0, .inl (cJ, 1500, .inr (.inl nw))), (u1, .inl (cI, 1500, .inl nb)), (u2, .inl (cI, 1500, .inl ns)), (u3, .inl (cI, 1500, .inl (nF ndp))), (u4, .inl (cI, 1500, .inl ne)), (u5, .inl (cI, 1500, .inl nsc)), (u6, .inl (cZ, 1500, .inl ntk)), (u7, .inl (cZ, 1500, .inl nde)), (an, .inr (6, [.ref u0, .ref u1, .ref u2, .ref u3, .int (nI nn), .int (nI ndd), .ref u4, .ref u5, .ref u6, .ref u7, .ref u8, .int (nI ncc), .long ncl]))] H := hP
    have hD : va_D A [(ax, .inr (10, [.ref ay, .ref az, .ref ae, .ref ai])), (az, .inr (8, [.ref an, .ref ap, .ref aq, .int (nI tc), .int sn, .int kt, .int ish, .ref ah])), (u0, .inl (cJ, 1500, .inr (.inl nw))), (u1, .inl (cI, 1500, .inl nb)), (u2, .inl (cI, 1500, .inl ns)), (u3, .inl (cI, 1500, .inl (nF ndp))), (u4, .inl (cI, 1500, .inl ne)), (u5, .inl (cI, 1500, .inl nsc)), (u6, .inl (cZ, 1500, .inl ntk)), (u7, .inl (cZ, 1500, .inl nde)), (an, .inr (6, [.ref u0, .ref u1, .ref u2, .ref u3, .int (nI nn), .int (nI ndd), .ref u4, .ref u5, .ref u6, .ref u7, .ref u8, .int (nI ncc), .long ncl]))] := hD
    refine lv_if_eq (tgt := 29) hx hb dX9_node_11 (by decide) (fun c_11 => ?_) (fun c_11 => ?_)
    rotate_left
    · exact absurd c_11 (by decide)
    refine lv_iconst (v := (-1)) hx hb dX9_node_29 (by decide) ?_
    exact rt_i C hQ (hP.sub (ws' := [(ax, .inr (10, [.ref ay, .ref az, .ref ae, .ref ai])), (az, .inr (8, [.ref an, .ref ap, .ref aq, .int (nI tc), .int sn, .int kt, .int ish, .ref ah])), (an, .inr (6, [.ref u0, .ref u1, .ref u2, .ref u3, .int (nI nn), .int (nI ndd), .ref u4, .ref u5, .ref u6, .ref u7, .ref u8, .int (nI ncc), .long ncl])), (u0, .inl (cJ, 1500, .inr (.inl nw))), (u1, .inl (cI, 1500, .inl nb)), (u2, .inl (cI, 1500, .inl ns)), (u3, .inl (cI, 1500, .inl (nF ndp))), (u4, .inl (cI, 1500, .inl ne)), (u5, .inl (cI, 1500, .inl nsc)), (u6, .inl (cZ, 1500, .inl ntk)), (u7, .inl (cZ, 1500, .inl nde))]) [0, 1, 10, 2, 3, 4, 5, 6, 7, 8, 9] rfl) (hD.sub [0, 1, 10, 2, 3, 4, 5, 6, 7, 8, 9] (by decide) rfl) hS ⟨by rw [if_neg hb_8], rfl⟩ (by decide) (by decide) dX9_node_30
set_option maxHeartbeats 4000000 in
set_option maxRecDepth 100000 in
theorem c_X9_meet (l : Launch) (D : va_G) (cI cJ cZ : ClassId) (ax : Nat) (ay : Nat) (az : Nat) (ae : Nat) (ai : Nat) (ac : Nat) (av : Nat) (ak : Nat) (ag : Nat) (ao : Nat) (ap : Nat) (aq : Nat) (tc : Nat) (sn : Int32) (kt : Int32) (ish : Int32) (ah : Nat) (an : Nat) (u0 : Nat) (u1 : Nat) (u2 : Nat) (u3 : Nat) (u4 : Nat) (u5 : Nat) (u6 : Nat) (u7 : Nat) (u8 : Nat) (nn : Nat) (ndd : Nat) (ncc : Nat) (ncl : Int64) (nw : Nat → Int64) (a0_ : Int32) (b0_ : Int32) (hnn : nn ≤ 1500) : Ctr l D cI cJ cZ yX9_meet cX9_meet 4 (some .int) ({ frames := 2, cells := 0, slots := 0, locals := 43 } : Room) [.ref ax, .int a0_, .int b0_] [(ax, .inr (10, [.ref ay, .ref az, .ref ae, .ref ai])), (az, .inr (8, [.ref an, .ref ap, .ref aq, .int (nI tc), .int sn, .int kt, .int ish, .ref ah])), (an, .inr (6, [.ref u0, .ref u1, .ref u2, .ref u3, .int (nI nn), .int (nI ndd), .ref u4, .ref u5, .ref u6, .ref u7, .ref u8, .int (nI ncc), .long ncl])), (u0, .inl (cJ, 1500, .inr (.inl nw)))] (fun r W => r = some (.int (if inR a0_ nn = true ∧ inR b0_ nn = true then (if nw a0_.toNatClampNeg = nw b0_.toNatClampNeg then 1 else 0) else -1)) ∧ W = [(ax, .inr (10, [.ref ay, .ref az, .ref ae, .ref ai])), (az, .inr (8, [.ref an, .ref ap, .ref aq, .int (nI tc), .int sn, .int kt, .int ish, .ref ah])), (an, .inr (6, [.ref u0, .ref u1, .ref u2, .ref u3, .int (nI nn), .int (nI ndd), .ref u4, .ref u5, .ref u6, .ref u7, .ref u8, .int (nI ncc), .long ncl])), (u0, .inl (cJ, 1500, .inr (.inl nw)))]) := by
  refine Ctr.start (by decide +kernel) (Nat.le_of_ble_eq_true rfl) ?_
  intro p e s m below meth c A Q ls H C hQ hA hP hD hS hl
  obtain ⟨hx, hb, hr, hml, hts, hown, hlk, hnm, hK, hN⟩ := id C
  have hl : lv_has ls 4 [(0, .ref ax), (1, .int a0_), (2, .int b0_)] := hl
  refine lv_aload_n hx hb dX9_meet_0 rfl (lv_at hl 0 rfl) ?_
  refine r_get (v := .ref az) C hP okX9 0 1 rfl (by decide) fl_X9_19 rfl rfl dX9_meet_1 ?_
  refine r_get (v := .ref an) C hP okX7 1 0 rfl (by decide) fl_X9_171 rfl rfl dX9_meet_4 ?_
  refine lv_astore_n (lv' := [(3, .ref an), (0, .ref ax), (1, .int a0_), (2, .int b0_)]) hx hb dX9_meet_7 rfl hl (by decide) rfl (fun ls hl => ?_)
  refine lv_aload_n hx hb dX9_meet_8 rfl (lv_at hl 0 rfl) ?_
  refine lv_iload_n hx hb dX9_meet_9 rfl (lv_at hl 2 rfl) ?_
  refine cl_v C (c_X5_has l D cI cJ cZ an u0 u1 u2 u3 u4 u5 u6 u7 u8 nn ndd ncc ncl a0_ (by omega)) cd_X5_has ml_X9_175 im_X5_has se_X5_has in_X5 hd_X5_has ⟨by decide, by decide⟩ hP hD hS hA (WR := [(ax, .inr (10, [.ref ay, .ref az, .ref ae, .ref ai])), (az, .inr (8, [.ref an, .ref ap, .ref aq, .int (nI tc), .int sn, .int kt, .int ish, .ref ah])), (u0, .inl (cJ, 1500, .inr (.inl nw)))]) [2] [0, 1, 3] rfl rfl rfl rfl (by decide) (ci := 6) (q0 := 2) rfl rfl hl.1 rfl (Nat.le_of_ble_eq_true rfl) dX9_meet_10 ⟨by decide, by decide⟩ (fun r W H locs hp hP hD hS => ?_)
  rcases hp with ⟨⟨rfl, hb_10⟩ | ⟨rfl, hb_10⟩, rfl⟩
  · -- yes 10
    refine W.eq (g2 := F0 m 13 ls [.int 1]) rfl ?_
    have hP : va_P D vwCl [(ax, .inr (10, [.ref ay, .ref az, .ref ae, .ref ai])), (az, .inr (8, [.ref an, .ref ap, .ref aq, .int (nI tc), .int sn, .int kt, .int ish, .ref ah])), (u0, .inl (cJ, 1500, .inr (.inl nw))), (an, .inr (6, [.ref u0, .ref u1, .ref u2, .ref u3, .int (nI nn), .int (nI ndd), .ref u4, .ref u5, .ref u6, .ref u7, .ref u8, .int (nI ncc), .long ncl]))] H := hP
    have hD : va_D A [(ax, .inr (10, [.ref ay, .ref az, .ref ae, .ref ai])), (az, .inr (8, [.ref an, .ref ap, .ref aq, .int (nI tc), .int sn, .int kt, .int ish, .ref ah])), (u0, .inl (cJ, 1500, .inr (.inl nw))), (an, .inr (6, [.ref u0, .ref u1, .ref u2, .ref u3, .int (nI nn), .int (nI ndd), .ref u4, .ref u5, .ref u6, .ref u7, .ref u8, .int (nI ncc), .long ncl]))] := hD
    obtain ⟨j, hj, rfl⟩ := (inR_iff (by omega)).mp hb_10
    refine lv_if_eq (tgt := 24) hx hb dX9_meet_13 (by decide) (fun c_13 => ?_) (fun c_13 => ?_)
    · exact absurd c_13 (by decide)
    refine lv_aload_n hx hb dX9_meet_16 rfl (lv_at hl 0 rfl) ?_
    refine lv_iload_n hx hb dX9_meet_17 rfl (lv_at hl 3 rfl) ?_
    refine cl_v C (c_X5_has l D cI cJ cZ an u0 u1 u2 u3 u4 u5 u6 u7 u8 nn ndd ncc ncl b0_ (by omega)) cd_X5_has ml_X9_175 im_X5_has se_X5_has in_X5 hd_X5_has ⟨by decide, by decide⟩ hP hD hS hA (WR := [(ax, .inr (10, [.ref ay, .ref az, .ref ae, .ref ai])), (az, .inr (8, [.ref an, .ref ap, .ref aq, .int (nI tc), .int sn, .int kt, .int ish, .ref ah])), (u0, .inl (cJ, 1500, .inr (.inl nw)))]) [3] [0, 1, 2] rfl rfl rfl rfl (by decide) (ci := 6) (q0 := 3) rfl rfl hl.1 rfl (Nat.le_of_ble_eq_true rfl) dX9_meet_18 ⟨by decide, by decide⟩ (fun r W H locs hp hP hD hS => ?_)
    rcases hp with ⟨⟨rfl, hb_18⟩ | ⟨rfl, hb_18⟩, rfl⟩
    · -- yes 18
      refine W.eq (g2 := F0 m 21 ls [.int 1]) rfl ?_
      have hP : va_P D vwCl [(ax, .inr (10, [.ref ay, .ref az, .ref ae, .ref ai])), (az, .inr (8, [.ref an, .ref ap, .ref aq, .int (nI tc), .int sn, .int kt, .int ish, .ref ah])), (u0, .inl (cJ, 1500, .inr (.inl nw))), (an, .inr (6, [.ref u0, .ref u1, .ref u2, .ref u3, .int (nI nn), .int (nI ndd), .ref u4, .ref u5, .ref u6, .ref u7, .ref u8, .int (nI ncc), .long ncl]))] H := hP
      have hD : va_D A [(ax, .inr (10, [.ref ay, .ref az, .ref ae, .ref ai])), (az, .inr (8, [.ref an, .ref ap, .ref aq, .int (nI tc), .int sn, .int kt, .int ish, .ref ah])), (u0, .inl (cJ, 1500, .inr (.inl nw))), (an, .inr (6, [.ref u0, .ref u1, .ref u2, .ref u3, .int (nI nn), .int (nI ndd), .ref u4, .ref u5, .ref u6, .ref u7, .ref u8, .int (nI ncc), .long ncl]))] := hD
      obtain ⟨jb, hjb, rfl⟩ := (inR_iff (by omega)).mp hb_18
      refine lv_if_ne (tgt := 26) hx hb dX9_meet_21 (by decide) (fun c_21 => ?_) (fun c_21 => ?_)
      rotate_left
      · exact absurd c_21 (by decide)
      refine lv_aload_n hx hb dX9_meet_26 rfl (lv_at hl 0 rfl) ?_
      refine r_get (v := .ref u0) C hP okX5 3 0 rfl (by decide) fl_X9_182 rfl rfl dX9_meet_27 ?_
      refine lv_iload_n hx hb dX9_meet_30 rfl (lv_at hl 2 rfl) ?_
      refine r_lald (j := j) C hP 2 rfl (by omega) (by decide) dX9_meet_31 ?_
      refine lv_aload_n hx hb dX9_meet_32 rfl (lv_at hl 0 rfl) ?_
      refine r_get (v := .ref u0) C hP okX5 3 0 rfl (by decide) fl_X9_182 rfl rfl dX9_meet_33 ?_
      refine lv_iload_n hx hb dX9_meet_36 rfl (lv_at hl 3 rfl) ?_
      refine r_lald (j := jb) C hP 2 rfl (by omega) (by decide) dX9_meet_37 ?_
      refine W.lcmp hx hb dX9_meet_38 ?_
      refine lv_if_ne (tgt := 46) hx hb dX9_meet_39 (by decide) (fun c_39 => ?_) (fun c_39 => ?_)
      · -- taken 39
        have c_39 : ¬ (nw j = nw jb) := fun z => c_39 ((lg_cmp_eq _ _).mpr z)
        refine lv_iconst (v := 0) hx hb dX9_meet_46 (by decide) ?_
        exact rt_i C hQ (hP.sub (ws' := [(ax, .inr (10, [.ref ay, .ref az, .ref ae, .ref ai])), (az, .inr (8, [.ref an, .ref ap, .ref aq, .int (nI tc), .int sn, .int kt, .int ish, .ref ah])), (an, .inr (6, [.ref u0, .ref u1, .ref u2, .ref u3, .int (nI nn), .int (nI ndd), .ref u4, .ref u5, .ref u6, .ref u7, .ref u8, .int (nI ncc), .long ncl])), (u0, .inl (cJ, 1500, .inr (.inl nw)))]) [0, 1, 3, 2] rfl) (hD.sub [0, 1, 3, 2] (by decide) rfl) hS ⟨by rw [if_pos ⟨hb_10, hb_18⟩, nI_clamp (show j < 2 ^ 31 by omega), nI_clamp (show jb < 2 ^ 31 by omega), if_neg c_39], rfl⟩ (by decide) (by decide) dX9_meet_47
      · -- not taken 39
        have c_39 : nw j = nw jb := (lg_cmp_eq _ _).mp c_39
        refine lv_iconst (v := 1) hx hb dX9_meet_42 (by decide) ?_
        refine lv_goto (tgt := 47) hx hb dX9_meet_43 (by decide) ?_
        exact rt_i C hQ (hP.sub (ws' := [(ax, .inr (10, [.ref ay, .ref az, .ref ae, .ref ai])), (az, .inr (8, [.ref an, .ref ap, .ref aq, .int (nI tc), .int sn, .int kt, .int ish, .ref ah])), (an, .inr (6, [.ref u0, .ref u1, .ref u2, .ref u3, .int (nI nn), .int (nI ndd), .ref u4, .ref u5, .ref u6, .ref u7, .ref u8, .int (nI ncc), .long ncl])), (u0, .inl (cJ, 1500, .inr (.inl nw)))]) [0, 1, 3, 2] rfl) (hD.sub [0, 1, 3, 2] (by decide) rfl) hS ⟨by rw [if_pos ⟨hb_10, hb_18⟩, nI_clamp (show j < 2 ^ 31 by omega), nI_clamp (show jb < 2 ^ 31 by omega), if_pos c_39], rfl⟩ (by decide) (by decide) dX9_meet_47
    · -- no 18
      refine W.eq (g2 := F0 m 21 ls [.int 0]) rfl ?_
      have hP : va_P D vwCl [(ax, .inr (10, [.ref ay, .ref az, .ref ae, .ref ai])), (az, .inr (8, [.ref an, .ref ap, .ref aq, .int (nI tc), .int sn, .int kt, .int ish, .ref ah])), (u0, .inl (cJ, 1500, .inr (.inl nw))), (an, .inr (6, [.ref u0, .ref u1, .ref u2, .ref u3, .int (nI nn), .int (nI ndd), .ref u4, .ref u5, .ref u6, .ref u7, .ref u8, .int (nI ncc), .long ncl]))] H := hP
      have hD : va_D A [(ax, .inr (10, [.ref ay, .ref az, .ref ae, .ref ai])), (az, .inr (8, [.ref an, .ref ap, .ref aq, .int (nI tc), .int sn, .int kt, .int ish, .ref ah])), (u0, .inl (cJ, 1500, .inr (.inl nw))), (an, .inr (6, [.ref u0, .ref u1, .ref u2, .ref u3, .int (nI nn), .int (nI ndd), .ref u4, .ref u5, .ref u6, .ref u7, .ref u8, .int (nI ncc), .long ncl]))] := hD
      refine lv_if_ne (tgt := 26) hx hb dX9_meet_21 (by decide) (fun c_21 => ?_) (fun c_21 => ?_)
      · exact absurd c_21 (by decide)
      refine lv_iconst (v := (-1)) hx hb dX9_meet_24 (by decide) ?_
      exact rt_i C hQ (hP.sub (ws' := [(ax, .inr (10, [.ref ay, .ref az, .ref ae, .ref ai])), (az, .inr (8, [.ref an, .ref ap, .ref aq, .int (nI tc), .int sn, .int kt, .int ish, .ref ah])), (an, .inr (6, [.ref u0, .ref u1, .ref u2, .ref u3, .int (nI nn), .int (nI ndd), .ref u4, .ref u5, .ref u6, .ref u7, .ref u8, .int (nI ncc), .long ncl])), (u0, .inl (cJ, 1500, .inr (.inl nw)))]) [0, 1, 3, 2] rfl) (hD.sub [0, 1, 3, 2] (by decide) rfl) hS ⟨by rw [if_neg (fun z => by first | exact hb_10 z.1 | exact hb_18 z.2)], rfl⟩ (by decide) (by decide) dX9_meet_25
  · -- no 10
    refine W.eq (g2 := F0 m 13 ls [.int 0]) rfl ?_
    have hP : va_P D vwCl [(ax, .inr (10, [.ref ay, .ref az, .ref ae, .ref ai])), (az, .inr (8, [.ref an, .ref ap, .ref aq, .int (nI tc), .int sn, .int kt, .int ish, .ref ah])), (u0, .inl (cJ, 1500, .inr (.inl nw))), (an, .inr (6, [.ref u0, .ref u1, .ref u2, .ref u3, .int (nI nn), .int (nI ndd), .ref u4, .ref u5, .ref u6, .ref u7, .ref u8, .int (nI ncc), .long ncl]))] H := hP
    have hD : va_D A [(ax, .inr (10, [.ref ay, .ref az, .ref ae, .ref ai])), (az, .inr (8, [.ref an, .ref ap, .ref aq, .int (nI tc), .int sn, .int kt, .int ish, .ref ah])), (u0, .inl (cJ, 1500, .inr (.inl nw))), (an, .inr (6, [.ref u0, .ref u1, .ref u2, .ref u3, .int (nI nn), .int (nI ndd), .ref u4, .ref u5, .ref u6, .ref u7, .ref u8, .int (nI ncc), .long ncl]))] := hD
    refine lv_if_eq (tgt := 24) hx hb dX9_meet_13 (by decide) (fun c_13 => ?_) (fun c_13 => ?_)
    rotate_left
    · exact absurd c_13 (by decide)
    refine lv_iconst (v := (-1)) hx hb dX9_meet_24 (by decide) ?_
    exact rt_i C hQ (hP.sub (ws' := [(ax, .inr (10, [.ref ay, .ref az, .ref ae, .ref ai])), (az, .inr (8, [.ref an, .ref ap, .ref aq, .int (nI tc), .int sn, .int kt, .int ish, .ref ah])), (an, .inr (6, [.ref u0, .ref u1, .ref u2, .ref u3, .int (nI nn), .int (nI ndd), .ref u4, .ref u5, .ref u6, .ref u7, .ref u8, .int (nI ncc), .long ncl])), (u0, .inl (cJ, 1500, .inr (.inl nw)))]) [0, 1, 3, 2] rfl) (hD.sub [0, 1, 3, 2] (by decide) rfl) hS ⟨by rw [if_neg (fun z => by first | exact hb_10 z.1 | exact hb_18 z.2)], rfl⟩ (by decide) (by decide) dX9_meet_25
set_option maxHeartbeats 4000000 in
set_option maxRecDepth 100000 in
theorem c_X9_seen (l : Launch) (D : va_G) (cI cJ cZ : ClassId) (ax : Nat) (ay : Nat) (az : Nat) (ae : Nat) (ai : Nat) (ac : Nat) (av : Nat) (ak : Nat) (ag : Nat) (ao : Nat) (ap : Nat) (aq : Nat) (tc : Nat) (sn : Int32) (kt : Int32) (ish : Int32) (ah : Nat) (an : Nat) (t0_ : Int32)  : Ctr l D cI cJ cZ yX9_seen cX9_seen 2 (some .boolean) ({ frames := 2, cells := 0, slots := 0, locals := 42 } : Room) [.ref ax, .int t0_] [(ax, .inr (10, [.ref ay, .ref az, .ref ae, .ref ai])), (az, .inr (8, [.ref an, .ref ap, .ref aq, .int (nI tc), .int sn, .int kt, .int ish, .ref ah]))] (fun r W => ((r = some (.int 1) ∧ (rg t0_ 0 31 = true ∧ f_bit sn t0_ = 1)) ∨ (r = some (.int 0) ∧ ¬ (rg t0_ 0 31 = true ∧ f_bit sn t0_ = 1))) ∧ W = [(ax, .inr (10, [.ref ay, .ref az, .ref ae, .ref ai])), (az, .inr (8, [.ref an, .ref ap, .ref aq, .int (nI tc), .int sn, .int kt, .int ish, .ref ah]))]) := by
  refine Ctr.start (by decide +kernel) (Nat.le_of_ble_eq_true rfl) ?_
  intro p e s m below meth c A Q ls H C hQ hA hP hD hS hl
  obtain ⟨hx, hb, hr, hml, hts, hown, hlk, hnm, hK, hN⟩ := id C
  have hl : lv_has ls 2 [(0, .ref ax), (1, .int t0_)] := hl
  refine lv_iload_n hx hb dX9_seen_0 rfl (lv_at hl 1 rfl) ?_
  refine cl_s C (c_X9_isText l D cI cJ cZ t0_) cd_X9_isText ml_X9_94 st_X9_isText in_X9 hd_X9_isText ⟨by decide, by decide⟩ hP hD hS hA (WR := [(ax, .inr (10, [.ref ay, .ref az, .ref ae, .ref ai])), (az, .inr (8, [.ref an, .ref ap, .ref aq, .int (nI tc), .int sn, .int kt, .int ish, .ref ah]))]) [] [0, 1] rfl rfl rfl rfl (by decide) hl.1 rfl (Nat.le_of_ble_eq_true rfl) dX9_seen_1 ⟨by decide, by decide⟩ (fun r W H locs hp hP hD hS => ?_)
  rcases hp with ⟨⟨rfl, hb_1⟩ | ⟨rfl, hb_1⟩, rfl⟩
  · -- yes 1
    refine W.eq (g2 := F0 m 4 ls [.int 1]) rfl ?_
    have hP : va_P D vwCl [(ax, .inr (10, [.ref ay, .ref az, .ref ae, .ref ai])), (az, .inr (8, [.ref an, .ref ap, .ref aq, .int (nI tc), .int sn, .int kt, .int ish, .ref ah]))] H := hP
    have hD : va_D A [(ax, .inr (10, [.ref ay, .ref az, .ref ae, .ref ai])), (az, .inr (8, [.ref an, .ref ap, .ref aq, .int (nI tc), .int sn, .int kt, .int ish, .ref ah]))] := hD
    refine lv_if_eq (tgt := 25) hx hb dX9_seen_4 (by decide) (fun c_4 => ?_) (fun c_4 => ?_)
    · exact absurd c_4 (by decide)
    refine lv_aload_n hx hb dX9_seen_7 rfl (lv_at hl 0 rfl) ?_
    refine r_get (v := .ref az) C hP okX9 0 1 rfl (by decide) fl_X9_19 rfl rfl dX9_seen_8 ?_
    refine r_get (v := .int sn) C hP okX7 1 4 rfl (by decide) fl_X9_186 rfl rfl dX9_seen_11 ?_
    refine lv_iload_n hx hb dX9_seen_14 rfl (lv_at hl 1 rfl) ?_
    refine cl_s C (c_X9_hasBit l D cI cJ cZ sn t0_) cd_X9_hasBit ml_X9_189 st_X9_hasBit in_X9 hd_X9_hasBit ⟨by decide, by decide⟩ hP hD hS hA (WR := [(ax, .inr (10, [.ref ay, .ref az, .ref ae, .ref ai])), (az, .inr (8, [.ref an, .ref ap, .ref aq, .int (nI tc), .int sn, .int kt, .int ish, .ref ah]))]) [] [0, 1] rfl rfl rfl rfl (by decide) hl.1 rfl (Nat.le_of_ble_eq_true rfl) dX9_seen_15 ⟨by decide, by decide⟩ (fun r W H locs hp hP hD hS => ?_)
    rcases hp with ⟨⟨rfl, hb_15⟩ | ⟨rfl, hb_15⟩, rfl⟩
    · -- yes 15
      refine W.eq (g2 := F0 m 18 ls [.int 1]) rfl ?_
      have hP : va_P D vwCl [(ax, .inr (10, [.ref ay, .ref az, .ref ae, .ref ai])), (az, .inr (8, [.ref an, .ref ap, .ref aq, .int (nI tc), .int sn, .int kt, .int ish, .ref ah]))] H := hP
      have hD : va_D A [(ax, .inr (10, [.ref ay, .ref az, .ref ae, .ref ai])), (az, .inr (8, [.ref an, .ref ap, .ref aq, .int (nI tc), .int sn, .int kt, .int ish, .ref ah]))] := hD
      refine lv_if_eq (tgt := 25) hx hb dX9_seen_18 (by decide) (fun c_18 => ?_) (fun c_18 => ?_)
      · exact absurd c_18 (by decide)
      refine lv_iconst (v := 1) hx hb dX9_seen_21 (by decide) ?_
      refine lv_goto (tgt := 26) hx hb dX9_seen_22 (by decide) ?_
      exact rt_z C hQ (by decide) (hP.sub (ws' := [(ax, .inr (10, [.ref ay, .ref az, .ref ae, .ref ai])), (az, .inr (8, [.ref an, .ref ap, .ref aq, .int (nI tc), .int sn, .int kt, .int ish, .ref ah]))]) [0, 1] rfl) (hD.sub [0, 1] (by decide) rfl) hS ⟨Or.inl ⟨rfl, (by first | exact ⟨hb_1, hb_15⟩ | exact fun z => hb_1 z.1 | exact fun z => hb_15 z.2)⟩, rfl⟩ (by decide) (by decide) dX9_seen_26
    · -- no 15
      refine W.eq (g2 := F0 m 18 ls [.int 0]) rfl ?_
      have hP : va_P D vwCl [(ax, .inr (10, [.ref ay, .ref az, .ref ae, .ref ai])), (az, .inr (8, [.ref an, .ref ap, .ref aq, .int (nI tc), .int sn, .int kt, .int ish, .ref ah]))] H := hP
      have hD : va_D A [(ax, .inr (10, [.ref ay, .ref az, .ref ae, .ref ai])), (az, .inr (8, [.ref an, .ref ap, .ref aq, .int (nI tc), .int sn, .int kt, .int ish, .ref ah]))] := hD
      refine lv_if_eq (tgt := 25) hx hb dX9_seen_18 (by decide) (fun c_18 => ?_) (fun c_18 => ?_)
      rotate_left
      · exact absurd c_18 (by decide)
      refine lv_iconst (v := 0) hx hb dX9_seen_25 (by decide) ?_
      exact rt_z C hQ (by decide) (hP.sub (ws' := [(ax, .inr (10, [.ref ay, .ref az, .ref ae, .ref ai])), (az, .inr (8, [.ref an, .ref ap, .ref aq, .int (nI tc), .int sn, .int kt, .int ish, .ref ah]))]) [0, 1] rfl) (hD.sub [0, 1] (by decide) rfl) hS ⟨Or.inr ⟨rfl, (by first | exact ⟨hb_1, hb_15⟩ | exact fun z => hb_1 z.1 | exact fun z => hb_15 z.2)⟩, rfl⟩ (by decide) (by decide) dX9_seen_26
  · -- no 1
    refine W.eq (g2 := F0 m 4 ls [.int 0]) rfl ?_
    have hP : va_P D vwCl [(ax, .inr (10, [.ref ay, .ref az, .ref ae, .ref ai])), (az, .inr (8, [.ref an, .ref ap, .ref aq, .int (nI tc), .int sn, .int kt, .int ish, .ref ah]))] H := hP
    have hD : va_D A [(ax, .inr (10, [.ref ay, .ref az, .ref ae, .ref ai])), (az, .inr (8, [.ref an, .ref ap, .ref aq, .int (nI tc), .int sn, .int kt, .int ish, .ref ah]))] := hD
    refine lv_if_eq (tgt := 25) hx hb dX9_seen_4 (by decide) (fun c_4 => ?_) (fun c_4 => ?_)
    rotate_left
    · exact absurd c_4 (by decide)
    refine lv_iconst (v := 0) hx hb dX9_seen_25 (by decide) ?_
    exact rt_z C hQ (by decide) (hP.sub (ws' := [(ax, .inr (10, [.ref ay, .ref az, .ref ae, .ref ai])), (az, .inr (8, [.ref an, .ref ap, .ref aq, .int (nI tc), .int sn, .int kt, .int ish, .ref ah]))]) [0, 1] rfl) (hD.sub [0, 1] (by decide) rfl) hS ⟨Or.inr ⟨rfl, (by first | exact ⟨hb_1, hb_15⟩ | exact fun z => hb_1 z.1 | exact fun z => hb_15 z.2)⟩, rfl⟩ (by decide) (by decide) dX9_seen_26
set_option maxHeartbeats 4000000 in
set_option maxRecDepth 100000 in
theorem lp_X9_never_23 (l : Launch) (D : va_G) (cI cJ cZ : ClassId) (ax : Nat) (ay : Nat) (az : Nat) (ae : Nat) (ai : Nat) (ac : Nat) (av : Nat) (ak : Nat) (ag : Nat) (ao : Nat) (ap : Nat) (aq : Nat) (tc : Nat) (sn : Int32) (kt : Int32) (ish : Int32) (ah : Nat) (an : Nat) (k0 : Int32)    {p : Program} {e : Env} {s : State} {m : MethodId} {below : List Frame} {meth : Method} {c : Code} {A : Nat → Prop} {Q : State → Prop} (C : Cx D cI cJ cZ p s m ([.ref ax, .int k0] : List Value).toArray meth c yX9_never cX9_never 5 (some .int)) (hQ : QOK Q below s ([.ref ax, .int k0] : List Value).toArray D A (fun r W => r = some (.int (f_never (kt &&& (sn ^^^ (-1))) 32 0 k0)) ∧ W = [(ax, .inr (10, [.ref ay, .ref az, .ref ae, .ref ai])), (az, .inr (8, [.ref an, .ref ap, .ref aq, .int (nI tc), .int sn, .int kt, .int ish, .ref ah]))]) 0 0) (hA : ∀ q, s.heap.size ≤ q → A q) : ∀ (ku : Nat) (i : Nat) (left : Int32) (hi : i ≤ 32) (hp : f_never (kt &&& (sn ^^^ (-1))) (32 - i) i left = f_never (kt &&& (sn ^^^ (-1))) 32 0 k0), (32 - i) < ku → ∀ (H : Heap) (locs : List Loc) (ls : Array Slot), va_P D vwCl [(ax, .inr (10, [.ref ay, .ref az, .ref ae, .ref ai])), (az, .inr (8, [.ref an, .ref ap, .ref aq, .int (nI tc), .int sn, .int kt, .int ish, .ref ah]))] H → va_D A [(ax, .inr (10, [.ref ay, .ref az, .ref ae, .ref ai])), (az, .inr (8, [.ref an, .ref ap, .ref aq, .int (nI tc), .int sn, .int kt, .int ish, .ref ah]))] → va_S A s.heap H locs → lv_has ls 5 [(0, .ref ax), (2, .int (kt &&& (sn ^^^ (-1)))), (3, .int left), (4, .int (nI i))] → W p l e ({ frames := 1, cells := 0, slots := 0, locals := 21 } : Room) s m ([.ref ax, .int k0] : List Value).toArray below meth c H locs 0 0 Q (F0 m 23 ls []) := by
  obtain ⟨hx, hb, hr, hml, hts, hown, hlk, hnm, hK, hN⟩ := id C
  intro ku
  induction ku with
  | zero =>
    intro i left hi hp hku
    exact absurd hku (Nat.not_lt_zero _)
  | succ ku ih =>
    intro i left hi hp hku H locs ls hP hD hS hl
    refine lv_iload hx hb dX9_never_23 (lv_at hl 3 rfl) ?_
    refine lv_bipush (v := 32) hx hb dX9_never_25 (by decide) ?_
    refine lv_icmp_ge (tgt := 55) hx hb dX9_never_27 (by decide) (fun c_27 => ?_) (fun c_27 => ?_)
    · -- taken 27
      have c_27 : 32 ≤ i := (nI_leI (a := 32) (b := i) (by omega) (by omega)).mp c_27
      refine lv_iconst (v := (-1)) hx hb dX9_never_55 (by decide) ?_
      exact rt_i C hQ (hP.sub (ws' := [(ax, .inr (10, [.ref ay, .ref az, .ref ae, .ref ai])), (az, .inr (8, [.ref an, .ref ap, .ref aq, .int (nI tc), .int sn, .int kt, .int ish, .ref ah]))]) [0, 1] rfl) (hD.sub [0, 1] (by decide) rfl) hS ⟨by rw [← hp, show 32 - i = 0 by omega]; rfl, rfl⟩ (by decide) (by decide) dX9_never_56
    · -- not taken 27
      have c_27 : ¬ (32 ≤ i) := fun z => c_27 ((nI_leI (a := 32) (b := i) (by omega) (by omega)).mpr z)
      refine lv_iload_n hx hb dX9_never_30 rfl (lv_at hl 1 rfl) ?_
      refine lv_iload hx hb dX9_never_31 (lv_at hl 3 rfl) ?_
      refine cl_s C (c_X9_hasBit l D cI cJ cZ (kt &&& (sn ^^^ (-1))) (nI i)) cd_X9_hasBit ml_X9_189 st_X9_hasBit in_X9 hd_X9_hasBit ⟨by decide, by decide⟩ hP hD hS hA (WR := [(ax, .inr (10, [.ref ay, .ref az, .ref ae, .ref ai])), (az, .inr (8, [.ref an, .ref ap, .ref aq, .int (nI tc), .int sn, .int kt, .int ish, .ref ah]))]) [] [0, 1] rfl rfl rfl rfl (by decide) hl.1 rfl (Nat.le_of_ble_eq_true rfl) dX9_never_33 ⟨by decide, by decide⟩ (fun r W H locs hp hP hD hS => ?_)
      rcases hp with ⟨⟨rfl, hb_33⟩ | ⟨rfl, hb_33⟩, rfl⟩
      · -- yes 33
        refine W.eq (g2 := F0 m 36 ls [.int 1]) rfl ?_
        have hP : va_P D vwCl [(ax, .inr (10, [.ref ay, .ref az, .ref ae, .ref ai])), (az, .inr (8, [.ref an, .ref ap, .ref aq, .int (nI tc), .int sn, .int kt, .int ish, .ref ah]))] H := hP
        have hD : va_D A [(ax, .inr (10, [.ref ay, .ref az, .ref ae, .ref ai])), (az, .inr (8, [.ref an, .ref ap, .ref aq, .int (nI tc), .int sn, .int kt, .int ish, .ref ah]))] := hD
        refine lv_if_eq (tgt := 49) hx hb dX9_never_36 (by decide) (fun c_36 => ?_) (fun c_36 => ?_)
        · exact absurd c_36 (by decide)
        refine lv_iload_n hx hb dX9_never_39 rfl (lv_at hl 2 rfl) ?_
        refine lv_if_ne (tgt := 46) hx hb dX9_never_40 (by decide) (fun c_40 => ?_) (fun c_40 => ?_)
        · -- taken 40
          refine lv_iinc (v := left + (-1)) (lv' := [(3, .int (left + (-1))), (0, .ref ax), (2, .int (kt &&& (sn ^^^ (-1)))), (4, .int (nI i))]) hx hb dX9_never_46 hl (k := 2) rfl rfl (by decide) rfl (fun ls hl => ?_)
          refine lv_iinc (v := nI (i + 1)) (lv' := [(4, .int (nI (i + 1))), (3, .int (left + (-1))), (0, .ref ax), (2, .int (kt &&& (sn ^^^ (-1))))]) hx hb dX9_never_49 hl (k := 3) rfl (nI_1 _) (by decide) rfl (fun ls hl => ?_)
          refine lv_goto (tgt := 23) hx hb dX9_never_52 (by decide) ?_
          exact ih (i + 1) (left + (-1)) (by omega) (by rw [← hp, f_never_2 (f := 32 - i) (by omega) hb_33 c_40, show 32 - (i + 1) = 32 - i - 1 by omega]) (by omega) _ _ _ (hP.sub [0, 1] rfl) (hD.sub [0, 1] (by decide) rfl) hS (lv_sub hl [2, 3, 1, 0] rfl)
        · -- not taken 40
          refine lv_iload hx hb dX9_never_43 (lv_at hl 3 rfl) ?_
          exact rt_i C hQ (hP.sub (ws' := [(ax, .inr (10, [.ref ay, .ref az, .ref ae, .ref ai])), (az, .inr (8, [.ref an, .ref ap, .ref aq, .int (nI tc), .int sn, .int kt, .int ish, .ref ah]))]) [0, 1] rfl) (hD.sub [0, 1] (by decide) rfl) hS ⟨by rw [← hp, f_never_1 (by omega) hb_33 c_40], rfl⟩ (by decide) (by decide) dX9_never_45
      · -- no 33
        refine W.eq (g2 := F0 m 36 ls [.int 0]) rfl ?_
        have hP : va_P D vwCl [(ax, .inr (10, [.ref ay, .ref az, .ref ae, .ref ai])), (az, .inr (8, [.ref an, .ref ap, .ref aq, .int (nI tc), .int sn, .int kt, .int ish, .ref ah]))] H := hP
        have hD : va_D A [(ax, .inr (10, [.ref ay, .ref az, .ref ae, .ref ai])), (az, .inr (8, [.ref an, .ref ap, .ref aq, .int (nI tc), .int sn, .int kt, .int ish, .ref ah]))] := hD
        refine lv_if_eq (tgt := 49) hx hb dX9_never_36 (by decide) (fun c_36 => ?_) (fun c_36 => ?_)
        rotate_left
        · exact absurd c_36 (by decide)
        refine lv_iinc (v := nI (i + 1)) (lv' := [(4, .int (nI (i + 1))), (0, .ref ax), (2, .int (kt &&& (sn ^^^ (-1)))), (3, .int left)]) hx hb dX9_never_49 hl (k := 3) rfl (nI_1 _) (by decide) rfl (fun ls hl => ?_)
        refine lv_goto (tgt := 23) hx hb dX9_never_52 (by decide) ?_
        exact ih (i + 1) left (by omega) (by rw [← hp, f_never_3 (f := 32 - i) (by omega) hb_33, show 32 - (i + 1) = 32 - i - 1 by omega]) (by omega) _ _ _ (hP.sub [0, 1] rfl) (hD.sub [0, 1] (by decide) rfl) hS (lv_sub hl [1, 2, 3, 0] rfl)
set_option maxHeartbeats 4000000 in
set_option maxRecDepth 100000 in
theorem c_X9_never (l : Launch) (D : va_G) (cI cJ cZ : ClassId) (ax : Nat) (ay : Nat) (az : Nat) (ae : Nat) (ai : Nat) (ac : Nat) (av : Nat) (ak : Nat) (ag : Nat) (ao : Nat) (ap : Nat) (aq : Nat) (tc : Nat) (sn : Int32) (kt : Int32) (ish : Int32) (ah : Nat) (an : Nat) (k0 : Int32)  : Ctr l D cI cJ cZ yX9_never cX9_never 5 (some .int) ({ frames := 1, cells := 0, slots := 0, locals := 21 } : Room) [.ref ax, .int k0] [(ax, .inr (10, [.ref ay, .ref az, .ref ae, .ref ai])), (az, .inr (8, [.ref an, .ref ap, .ref aq, .int (nI tc), .int sn, .int kt, .int ish, .ref ah]))] (fun r W => r = some (.int (f_never (kt &&& (sn ^^^ (-1))) 32 0 k0)) ∧ W = [(ax, .inr (10, [.ref ay, .ref az, .ref ae, .ref ai])), (az, .inr (8, [.ref an, .ref ap, .ref aq, .int (nI tc), .int sn, .int kt, .int ish, .ref ah]))]) := by
  refine Ctr.start (by decide +kernel) (Nat.le_of_ble_eq_true rfl) ?_
  intro p e s m below meth c A Q ls H C hQ hA hP hD hS hl
  obtain ⟨hx, hb, hr, hml, hts, hown, hlk, hnm, hK, hN⟩ := id C
  have hl : lv_has ls 5 [(0, .ref ax), (1, .int k0)] := hl
  refine lv_aload_n hx hb dX9_never_0 rfl (lv_at hl 0 rfl) ?_
  refine r_get (v := .ref az) C hP okX9 0 1 rfl (by decide) fl_X9_19 rfl rfl dX9_never_1 ?_
  refine r_get (v := .int kt) C hP okX7 1 5 rfl (by decide) fl_X9_193 rfl rfl dX9_never_4 ?_
  refine lv_aload_n hx hb dX9_never_7 rfl (lv_at hl 0 rfl) ?_
  refine r_get (v := .ref az) C hP okX9 0 1 rfl (by decide) fl_X9_19 rfl rfl dX9_never_8 ?_
  refine r_get (v := .int sn) C hP okX7 1 4 rfl (by decide) fl_X9_186 rfl rfl dX9_never_11 ?_
  refine lv_iconst (v := (-1)) hx hb dX9_never_14 (by decide) ?_
  refine lv_ixor hx hb dX9_never_15 ?_
  refine lv_iand hx hb dX9_never_16 ?_
  refine lv_istore_n (lv' := [(2, .int (kt &&& (sn ^^^ (-1)))), (0, .ref ax), (1, .int k0)]) hx hb dX9_never_17 rfl hl (by decide) rfl (fun ls hl => ?_)
  refine lv_iload_n hx hb dX9_never_18 rfl (lv_at hl 2 rfl) ?_
  refine lv_istore_n (lv' := [(3, .int k0), (2, .int (kt &&& (sn ^^^ (-1)))), (0, .ref ax), (1, .int k0)]) hx hb dX9_never_19 rfl hl (by decide) rfl (fun ls hl => ?_)
  refine lv_iconst (v := 0) hx hb dX9_never_20 (by decide) ?_
  refine lv_istore (lv' := [(4, .int 0), (3, .int k0), (2, .int (kt &&& (sn ^^^ (-1)))), (0, .ref ax), (1, .int k0)]) hx hb dX9_never_21 hl (by decide) rfl (fun ls hl => ?_)
  exact lp_X9_never_23 l D cI cJ cZ ax ay az ae ai ac av ak ag ao ap aq tc sn kt ish ah an k0    C hQ hA _ 0 k0 (by omega) rfl (Nat.lt_succ_self _) _ _ _ (hP.sub [0, 1] rfl) (hD.sub [0, 1] (by decide) rfl) hS (lv_sub hl [3, 2, 1, 0] rfl)
set_option maxHeartbeats 4000000 in
set_option maxRecDepth 100000 in
theorem c_X9_begin (l : Launch) (D : va_G) (cI cJ cZ : ClassId) (ax : Nat) (ay : Nat) (az : Nat) (ae : Nat) (ai : Nat) (ac : Nat) (av : Nat) (ak : Nat) (ag : Nat) (ao : Nat) (aw : Nat) (n : Nat) (fw : Int64) (nc : Int64) (hc : Int32) (pw : Int64) (pe : Int32) (plt : Int32) (psh : Int32)  : Ctr l D cI cJ cZ yX9_begin cX9_begin 1 none ({ frames := 1, cells := 0, slots := 0, locals := 22 } : Room) [.ref ax] [(ax, .inr (10, [.ref ay, .ref az, .ref ae, .ref ai])), (ay, .inr (9, [.ref ac, .ref av, .ref ak, .ref ag, .ref ao])), (ac, .inr (1, [.ref aw, .int (nI n), .long fw, .long nc, .int hc])), (ae, .inr (4, [.long pw, .int pe, .int plt, .int psh]))] (fun r W => r = none ∧ W = [(ax, .inr (10, [.ref ay, .ref az, .ref ae, .ref ai])), (ay, .inr (9, [.ref ac, .ref av, .ref ak, .ref ag, .ref ao])), (ac, .inr (1, [.ref aw, .int (nI n), .long fw, .long nc, .int hc])), (ae, .inr (4, [.long fw, .int 0, .int (-1), .int 0]))]) := by
  refine Ctr.start (by decide +kernel) (Nat.le_of_ble_eq_true rfl) ?_
  intro p e s m below meth c A Q ls H C hQ hA hP hD hS hl
  obtain ⟨hx, hb, hr, hml, hts, hown, hlk, hnm, hK, hN⟩ := id C
  have hl : lv_has ls 1 [(0, .ref ax)] := hl
  refine lv_aload_n hx hb dX9_begin_0 rfl (lv_at hl 0 rfl) ?_
  refine r_get (v := .ref ae) C hP okX9 0 2 rfl (by decide) fl_X9_26 rfl rfl dX9_begin_1 ?_
  refine lv_aload_n hx hb dX9_begin_4 rfl (lv_at hl 0 rfl) ?_
  refine r_get (v := .ref ay) C hP okX9 0 0 rfl (by decide) fl_X9_10 rfl rfl dX9_begin_5 ?_
  refine r_get (v := .ref ac) C hP okX8 1 0 rfl (by decide) fl_X9_33 rfl rfl dX9_begin_8 ?_
  refine r_get (v := .long fw) C hP okX0 2 2 rfl (by decide) fl_X9_149 rfl rfl dX9_begin_11 ?_
  refine cl_v C (c_X3_start l D cI cJ cZ ae pw pe plt psh fw) cd_X3_start ml_X9_152 im_X3_start se_X3_start in_X3 hd_X3_start ⟨by decide, by decide⟩ hP hD hS hA (WR := [(ax, .inr (10, [.ref ay, .ref az, .ref ae, .ref ai])), (ay, .inr (9, [.ref ac, .ref av, .ref ak, .ref ag, .ref ao])), (ac, .inr (1, [.ref aw, .int (nI n), .long fw, .long nc, .int hc]))]) [3] [0, 1, 2] rfl rfl rfl rfl (by decide) (ci := 4) (q0 := 3) rfl rfl hl.1 rfl (Nat.le_of_ble_eq_true rfl) dX9_begin_14 ⟨by decide, by decide⟩ (fun r W H locs hp hP hD hS => ?_)
  obtain ⟨rfl, rfl⟩ := hp
  refine W.eq (g2 := F0 m 17 ls []) rfl ?_
  have hP : va_P D vwCl [(ax, .inr (10, [.ref ay, .ref az, .ref ae, .ref ai])), (ay, .inr (9, [.ref ac, .ref av, .ref ak, .ref ag, .ref ao])), (ac, .inr (1, [.ref aw, .int (nI n), .long fw, .long nc, .int hc])), (ae, .inr (4, [.long fw, .int 0, .int (-1), .int 0]))] H := hP
  have hD : va_D A [(ax, .inr (10, [.ref ay, .ref az, .ref ae, .ref ai])), (ay, .inr (9, [.ref ac, .ref av, .ref ak, .ref ag, .ref ao])), (ac, .inr (1, [.ref aw, .int (nI n), .long fw, .long nc, .int hc])), (ae, .inr (4, [.long fw, .int 0, .int (-1), .int 0]))] := hD
  exact rt_v C hQ (hP.sub (ws' := [(ax, .inr (10, [.ref ay, .ref az, .ref ae, .ref ai])), (ay, .inr (9, [.ref ac, .ref av, .ref ak, .ref ag, .ref ao])), (ac, .inr (1, [.ref aw, .int (nI n), .long fw, .long nc, .int hc])), (ae, .inr (4, [.long fw, .int 0, .int (-1), .int 0]))]) [0, 1, 2, 3] rfl) (hD.sub [0, 1, 2, 3] (by decide) rfl) hS ⟨rfl, rfl⟩ (by decide) (by decide) dX9_begin_17
set_option maxHeartbeats 4000000 in
set_option maxRecDepth 100000 in
theorem c_X9_told (l : Launch) (D : va_G) (cI cJ cZ : ClassId) (ax : Nat) (ay : Nat) (az : Nat) (ae : Nat) (ai : Nat) (ac : Nat) (av : Nat) (ak : Nat) (ag : Nat) (ao : Nat) (aw : Nat) (n : Nat) (fw : Int64) (nc : Int64) (hc : Int32) (nm : Nat) (v0 : Nat) (v1 : Nat) (v2 : Nat) (v3 : Nat) (v4 : Nat) (v5 : Nat) (v6 : Nat) (v7 : Nat) (v8 : Nat) (v9 : Nat) (nk : Nat) (nd : Nat) (ad : Nat) (as : Nat) (ar : Nat) (ng : Nat) (a1 : Nat) (a2 : Nat) (a3 : Nat) (ap : Nat) (aq : Nat) (tc : Nat) (sn : Int32) (kt : Int32) (ish : Int32) (ah : Nat) (an : Nat) (u0 : Nat) (u1 : Nat) (u2 : Nat) (u3 : Nat) (u4 : Nat) (u5 : Nat) (u6 : Nat) (u7 : Nat) (u8 : Nat) (nn : Nat) (ndd : Nat) (ncc : Nat) (ncl : Int64) (what : Int32)  : Ctr l D cI cJ cZ yX9_told cX9_told 2 (some .int) ({ frames := 0, cells := 0, slots := 0, locals := 0 } : Room) [.ref ax, .int what] [(ax, .inr (10, [.ref ay, .ref az, .ref ae, .ref ai])), (ay, .inr (9, [.ref ac, .ref av, .ref ak, .ref ag, .ref ao])), (ac, .inr (1, [.ref aw, .int (nI n), .long fw, .long nc, .int hc])), (av, .inr (5, [.ref v0, .ref v1, .int (nI nm), .ref v2, .ref v3, .ref v4, .ref v5, .ref v6, .ref v7, .ref v8, .ref v9])), (ak, .inr (3, [.int (nI nk), .int (nI nd), .ref ad, .ref as, .ref ar])), (ag, .inr (2, [.int (nI ng), .ref a1, .ref a2, .ref a3])), (az, .inr (8, [.ref an, .ref ap, .ref aq, .int (nI tc), .int sn, .int kt, .int ish, .ref ah])), (an, .inr (6, [.ref u0, .ref u1, .ref u2, .ref u3, .int (nI nn), .int (nI ndd), .ref u4, .ref u5, .ref u6, .ref u7, .ref u8, .int (nI ncc), .long ncl]))] (fun r W => r = some (.int (f_told n nm nk ng nd nn tc ndd what)) ∧ W = [(ax, .inr (10, [.ref ay, .ref az, .ref ae, .ref ai])), (ay, .inr (9, [.ref ac, .ref av, .ref ak, .ref ag, .ref ao])), (ac, .inr (1, [.ref aw, .int (nI n), .long fw, .long nc, .int hc])), (av, .inr (5, [.ref v0, .ref v1, .int (nI nm), .ref v2, .ref v3, .ref v4, .ref v5, .ref v6, .ref v7, .ref v8, .ref v9])), (ak, .inr (3, [.int (nI nk), .int (nI nd), .ref ad, .ref as, .ref ar])), (ag, .inr (2, [.int (nI ng), .ref a1, .ref a2, .ref a3])), (az, .inr (8, [.ref an, .ref ap, .ref aq, .int (nI tc), .int sn, .int kt, .int ish, .ref ah])), (an, .inr (6, [.ref u0, .ref u1, .ref u2, .ref u3, .int (nI nn), .int (nI ndd), .ref u4, .ref u5, .ref u6, .ref u7, .ref u8, .int (nI ncc), .long ncl]))]) := by
  refine Ctr.start (by decide +kernel) (Nat.le_of_ble_eq_true rfl) ?_
  intro p e s m below meth c A Q ls H C hQ hA hP hD hS hl
  obtain ⟨hx, hb, hr, hml, hts, hown, hlk, hnm, hK, hN⟩ := id C
  have hl : lv_has ls 2 [(0, .ref ax), (1, .int what)] := hl
  refine lv_iload_n hx hb dX9_told_0 rfl (lv_at hl 1 rfl) ?_
  by_cases w_1_0 : what = 0
  · refine r_top w_1_0 ?_
    refine lv_tableIn (off := 47) (tgt := 48) hx hb dX9_told_1 (by decide) (by decide) (by decide +kernel) (by decide) ?_
    refine lv_aload_n hx hb dX9_told_48 rfl (lv_at hl 0 rfl) ?_
    refine r_get (v := .ref ay) C hP okX9 0 0 rfl (by decide) fl_X9_10 rfl rfl dX9_told_49 ?_
    refine r_get (v := .ref ac) C hP okX8 1 0 rfl (by decide) fl_X9_33 rfl rfl dX9_told_52 ?_
    refine r_get (v := .int (nI n)) C hP okX0 2 1 rfl (by decide) fl_X9_37 rfl rfl dX9_told_55 ?_
    exact rt_i C hQ (hP.sub (ws' := [(ax, .inr (10, [.ref ay, .ref az, .ref ae, .ref ai])), (ay, .inr (9, [.ref ac, .ref av, .ref ak, .ref ag, .ref ao])), (ac, .inr (1, [.ref aw, .int (nI n), .long fw, .long nc, .int hc])), (av, .inr (5, [.ref v0, .ref v1, .int (nI nm), .ref v2, .ref v3, .ref v4, .ref v5, .ref v6, .ref v7, .ref v8, .ref v9])), (ak, .inr (3, [.int (nI nk), .int (nI nd), .ref ad, .ref as, .ref ar])), (ag, .inr (2, [.int (nI ng), .ref a1, .ref a2, .ref a3])), (az, .inr (8, [.ref an, .ref ap, .ref aq, .int (nI tc), .int sn, .int kt, .int ish, .ref ah])), (an, .inr (6, [.ref u0, .ref u1, .ref u2, .ref u3, .int (nI nn), .int (nI ndd), .ref u4, .ref u5, .ref u6, .ref u7, .ref u8, .int (nI ncc), .long ncl]))]) [0, 1, 2, 3, 4, 5, 6, 7] rfl) (hD.sub [0, 1, 2, 3, 4, 5, 6, 7] (by decide) rfl) hS ⟨by simp only [f_told]; rw [if_pos w_1_0], rfl⟩ (by decide) (by decide) dX9_told_58
  by_cases w_1_1 : what = 1
  · refine r_top w_1_1 ?_
    refine lv_tableIn (off := 58) (tgt := 59) hx hb dX9_told_1 (by decide) (by decide) (by decide +kernel) (by decide) ?_
    refine lv_aload_n hx hb dX9_told_59 rfl (lv_at hl 0 rfl) ?_
    refine r_get (v := .ref ay) C hP okX9 0 0 rfl (by decide) fl_X9_10 rfl rfl dX9_told_60 ?_
    refine r_get (v := .ref av) C hP okX8 1 1 rfl (by decide) fl_X9_70 rfl rfl dX9_told_63 ?_
    refine r_get (v := .int (nI nm)) C hP okX4 3 2 rfl (by decide) fl_X9_74 rfl rfl dX9_told_66 ?_
    exact rt_i C hQ (hP.sub (ws' := [(ax, .inr (10, [.ref ay, .ref az, .ref ae, .ref ai])), (ay, .inr (9, [.ref ac, .ref av, .ref ak, .ref ag, .ref ao])), (ac, .inr (1, [.ref aw, .int (nI n), .long fw, .long nc, .int hc])), (av, .inr (5, [.ref v0, .ref v1, .int (nI nm), .ref v2, .ref v3, .ref v4, .ref v5, .ref v6, .ref v7, .ref v8, .ref v9])), (ak, .inr (3, [.int (nI nk), .int (nI nd), .ref ad, .ref as, .ref ar])), (ag, .inr (2, [.int (nI ng), .ref a1, .ref a2, .ref a3])), (az, .inr (8, [.ref an, .ref ap, .ref aq, .int (nI tc), .int sn, .int kt, .int ish, .ref ah])), (an, .inr (6, [.ref u0, .ref u1, .ref u2, .ref u3, .int (nI nn), .int (nI ndd), .ref u4, .ref u5, .ref u6, .ref u7, .ref u8, .int (nI ncc), .long ncl]))]) [0, 1, 2, 3, 4, 5, 6, 7] rfl) (hD.sub [0, 1, 2, 3, 4, 5, 6, 7] (by decide) rfl) hS ⟨by simp only [f_told]; rw [if_neg w_1_0, if_pos w_1_1], rfl⟩ (by decide) (by decide) dX9_told_69
  by_cases w_1_2 : what = 2
  · refine r_top w_1_2 ?_
    refine lv_tableIn (off := 69) (tgt := 70) hx hb dX9_told_1 (by decide) (by decide) (by decide +kernel) (by decide) ?_
    refine lv_aload_n hx hb dX9_told_70 rfl (lv_at hl 0 rfl) ?_
    refine r_get (v := .ref ay) C hP okX9 0 0 rfl (by decide) fl_X9_10 rfl rfl dX9_told_71 ?_
    refine r_get (v := .ref ak) C hP okX8 1 2 rfl (by decide) fl_X9_103 rfl rfl dX9_told_74 ?_
    refine r_get (v := .int (nI nk)) C hP okX2 4 0 rfl (by decide) fl_X9_227 rfl rfl dX9_told_77 ?_
    exact rt_i C hQ (hP.sub (ws' := [(ax, .inr (10, [.ref ay, .ref az, .ref ae, .ref ai])), (ay, .inr (9, [.ref ac, .ref av, .ref ak, .ref ag, .ref ao])), (ac, .inr (1, [.ref aw, .int (nI n), .long fw, .long nc, .int hc])), (av, .inr (5, [.ref v0, .ref v1, .int (nI nm), .ref v2, .ref v3, .ref v4, .ref v5, .ref v6, .ref v7, .ref v8, .ref v9])), (ak, .inr (3, [.int (nI nk), .int (nI nd), .ref ad, .ref as, .ref ar])), (ag, .inr (2, [.int (nI ng), .ref a1, .ref a2, .ref a3])), (az, .inr (8, [.ref an, .ref ap, .ref aq, .int (nI tc), .int sn, .int kt, .int ish, .ref ah])), (an, .inr (6, [.ref u0, .ref u1, .ref u2, .ref u3, .int (nI nn), .int (nI ndd), .ref u4, .ref u5, .ref u6, .ref u7, .ref u8, .int (nI ncc), .long ncl]))]) [0, 1, 2, 3, 4, 5, 6, 7] rfl) (hD.sub [0, 1, 2, 3, 4, 5, 6, 7] (by decide) rfl) hS ⟨by simp only [f_told]; rw [if_neg w_1_0, if_neg w_1_1, if_pos w_1_2], rfl⟩ (by decide) (by decide) dX9_told_80
  by_cases w_1_3 : what = 3
  · refine r_top w_1_3 ?_
    refine lv_tableIn (off := 80) (tgt := 81) hx hb dX9_told_1 (by decide) (by decide) (by decide +kernel) (by decide) ?_
    refine lv_aload_n hx hb dX9_told_81 rfl (lv_at hl 0 rfl) ?_
    refine r_get (v := .ref ay) C hP okX9 0 0 rfl (by decide) fl_X9_10 rfl rfl dX9_told_82 ?_
    refine r_get (v := .ref ag) C hP okX8 1 3 rfl (by decide) fl_X9_121 rfl rfl dX9_told_85 ?_
    refine r_get (v := .int (nI ng)) C hP okX1 5 0 rfl (by decide) fl_X9_128 rfl rfl dX9_told_88 ?_
    exact rt_i C hQ (hP.sub (ws' := [(ax, .inr (10, [.ref ay, .ref az, .ref ae, .ref ai])), (ay, .inr (9, [.ref ac, .ref av, .ref ak, .ref ag, .ref ao])), (ac, .inr (1, [.ref aw, .int (nI n), .long fw, .long nc, .int hc])), (av, .inr (5, [.ref v0, .ref v1, .int (nI nm), .ref v2, .ref v3, .ref v4, .ref v5, .ref v6, .ref v7, .ref v8, .ref v9])), (ak, .inr (3, [.int (nI nk), .int (nI nd), .ref ad, .ref as, .ref ar])), (ag, .inr (2, [.int (nI ng), .ref a1, .ref a2, .ref a3])), (az, .inr (8, [.ref an, .ref ap, .ref aq, .int (nI tc), .int sn, .int kt, .int ish, .ref ah])), (an, .inr (6, [.ref u0, .ref u1, .ref u2, .ref u3, .int (nI nn), .int (nI ndd), .ref u4, .ref u5, .ref u6, .ref u7, .ref u8, .int (nI ncc), .long ncl]))]) [0, 1, 2, 3, 4, 5, 6, 7] rfl) (hD.sub [0, 1, 2, 3, 4, 5, 6, 7] (by decide) rfl) hS ⟨by simp only [f_told]; rw [if_neg w_1_0, if_neg w_1_1, if_neg w_1_2, if_pos w_1_3], rfl⟩ (by decide) (by decide) dX9_told_91
  by_cases w_1_4 : what = 4
  · refine r_top w_1_4 ?_
    refine lv_tableIn (off := 91) (tgt := 92) hx hb dX9_told_1 (by decide) (by decide) (by decide +kernel) (by decide) ?_
    refine lv_aload_n hx hb dX9_told_92 rfl (lv_at hl 0 rfl) ?_
    refine r_get (v := .ref ay) C hP okX9 0 0 rfl (by decide) fl_X9_10 rfl rfl dX9_told_93 ?_
    refine r_get (v := .ref ak) C hP okX8 1 2 rfl (by decide) fl_X9_103 rfl rfl dX9_told_96 ?_
    refine r_get (v := .int (nI nd)) C hP okX2 4 1 rfl (by decide) fl_X9_228 rfl rfl dX9_told_99 ?_
    exact rt_i C hQ (hP.sub (ws' := [(ax, .inr (10, [.ref ay, .ref az, .ref ae, .ref ai])), (ay, .inr (9, [.ref ac, .ref av, .ref ak, .ref ag, .ref ao])), (ac, .inr (1, [.ref aw, .int (nI n), .long fw, .long nc, .int hc])), (av, .inr (5, [.ref v0, .ref v1, .int (nI nm), .ref v2, .ref v3, .ref v4, .ref v5, .ref v6, .ref v7, .ref v8, .ref v9])), (ak, .inr (3, [.int (nI nk), .int (nI nd), .ref ad, .ref as, .ref ar])), (ag, .inr (2, [.int (nI ng), .ref a1, .ref a2, .ref a3])), (az, .inr (8, [.ref an, .ref ap, .ref aq, .int (nI tc), .int sn, .int kt, .int ish, .ref ah])), (an, .inr (6, [.ref u0, .ref u1, .ref u2, .ref u3, .int (nI nn), .int (nI ndd), .ref u4, .ref u5, .ref u6, .ref u7, .ref u8, .int (nI ncc), .long ncl]))]) [0, 1, 2, 3, 4, 5, 6, 7] rfl) (hD.sub [0, 1, 2, 3, 4, 5, 6, 7] (by decide) rfl) hS ⟨by simp only [f_told]; rw [if_neg w_1_0, if_neg w_1_1, if_neg w_1_2, if_neg w_1_3, if_pos w_1_4], rfl⟩ (by decide) (by decide) dX9_told_102
  by_cases w_1_5 : what = 5
  · refine r_top w_1_5 ?_
    refine lv_tableIn (off := 102) (tgt := 103) hx hb dX9_told_1 (by decide) (by decide) (by decide +kernel) (by decide) ?_
    refine lv_aload_n hx hb dX9_told_103 rfl (lv_at hl 0 rfl) ?_
    refine r_get (v := .ref az) C hP okX9 0 1 rfl (by decide) fl_X9_19 rfl rfl dX9_told_104 ?_
    refine r_get (v := .ref an) C hP okX7 6 0 rfl (by decide) fl_X9_171 rfl rfl dX9_told_107 ?_
    refine r_get (v := .int (nI nn)) C hP okX5 7 4 rfl (by decide) fl_X9_231 rfl rfl dX9_told_110 ?_
    exact rt_i C hQ (hP.sub (ws' := [(ax, .inr (10, [.ref ay, .ref az, .ref ae, .ref ai])), (ay, .inr (9, [.ref ac, .ref av, .ref ak, .ref ag, .ref ao])), (ac, .inr (1, [.ref aw, .int (nI n), .long fw, .long nc, .int hc])), (av, .inr (5, [.ref v0, .ref v1, .int (nI nm), .ref v2, .ref v3, .ref v4, .ref v5, .ref v6, .ref v7, .ref v8, .ref v9])), (ak, .inr (3, [.int (nI nk), .int (nI nd), .ref ad, .ref as, .ref ar])), (ag, .inr (2, [.int (nI ng), .ref a1, .ref a2, .ref a3])), (az, .inr (8, [.ref an, .ref ap, .ref aq, .int (nI tc), .int sn, .int kt, .int ish, .ref ah])), (an, .inr (6, [.ref u0, .ref u1, .ref u2, .ref u3, .int (nI nn), .int (nI ndd), .ref u4, .ref u5, .ref u6, .ref u7, .ref u8, .int (nI ncc), .long ncl]))]) [0, 1, 2, 3, 4, 5, 6, 7] rfl) (hD.sub [0, 1, 2, 3, 4, 5, 6, 7] (by decide) rfl) hS ⟨by simp only [f_told]; rw [if_neg w_1_0, if_neg w_1_1, if_neg w_1_2, if_neg w_1_3, if_neg w_1_4, if_pos w_1_5], rfl⟩ (by decide) (by decide) dX9_told_113
  by_cases w_1_6 : what = 6
  · refine r_top w_1_6 ?_
    refine lv_tableIn (off := 113) (tgt := 114) hx hb dX9_told_1 (by decide) (by decide) (by decide +kernel) (by decide) ?_
    refine lv_aload_n hx hb dX9_told_114 rfl (lv_at hl 0 rfl) ?_
    refine r_get (v := .ref az) C hP okX9 0 1 rfl (by decide) fl_X9_19 rfl rfl dX9_told_115 ?_
    refine r_get (v := .int (nI tc)) C hP okX7 6 3 rfl (by decide) fl_X9_196 rfl rfl dX9_told_118 ?_
    exact rt_i C hQ (hP.sub (ws' := [(ax, .inr (10, [.ref ay, .ref az, .ref ae, .ref ai])), (ay, .inr (9, [.ref ac, .ref av, .ref ak, .ref ag, .ref ao])), (ac, .inr (1, [.ref aw, .int (nI n), .long fw, .long nc, .int hc])), (av, .inr (5, [.ref v0, .ref v1, .int (nI nm), .ref v2, .ref v3, .ref v4, .ref v5, .ref v6, .ref v7, .ref v8, .ref v9])), (ak, .inr (3, [.int (nI nk), .int (nI nd), .ref ad, .ref as, .ref ar])), (ag, .inr (2, [.int (nI ng), .ref a1, .ref a2, .ref a3])), (az, .inr (8, [.ref an, .ref ap, .ref aq, .int (nI tc), .int sn, .int kt, .int ish, .ref ah])), (an, .inr (6, [.ref u0, .ref u1, .ref u2, .ref u3, .int (nI nn), .int (nI ndd), .ref u4, .ref u5, .ref u6, .ref u7, .ref u8, .int (nI ncc), .long ncl]))]) [0, 1, 2, 3, 4, 5, 6, 7] rfl) (hD.sub [0, 1, 2, 3, 4, 5, 6, 7] (by decide) rfl) hS ⟨by simp only [f_told]; rw [if_neg w_1_0, if_neg w_1_1, if_neg w_1_2, if_neg w_1_3, if_neg w_1_4, if_neg w_1_5, if_pos w_1_6], rfl⟩ (by decide) (by decide) dX9_told_121
  by_cases w_1_7 : what = 7
  · refine r_top w_1_7 ?_
    refine lv_tableIn (off := 121) (tgt := 122) hx hb dX9_told_1 (by decide) (by decide) (by decide +kernel) (by decide) ?_
    refine lv_aload_n hx hb dX9_told_122 rfl (lv_at hl 0 rfl) ?_
    refine r_get (v := .ref az) C hP okX9 0 1 rfl (by decide) fl_X9_19 rfl rfl dX9_told_123 ?_
    refine r_get (v := .ref an) C hP okX7 6 0 rfl (by decide) fl_X9_171 rfl rfl dX9_told_126 ?_
    refine r_get (v := .int (nI ndd)) C hP okX5 7 5 rfl (by decide) fl_X9_232 rfl rfl dX9_told_129 ?_
    exact rt_i C hQ (hP.sub (ws' := [(ax, .inr (10, [.ref ay, .ref az, .ref ae, .ref ai])), (ay, .inr (9, [.ref ac, .ref av, .ref ak, .ref ag, .ref ao])), (ac, .inr (1, [.ref aw, .int (nI n), .long fw, .long nc, .int hc])), (av, .inr (5, [.ref v0, .ref v1, .int (nI nm), .ref v2, .ref v3, .ref v4, .ref v5, .ref v6, .ref v7, .ref v8, .ref v9])), (ak, .inr (3, [.int (nI nk), .int (nI nd), .ref ad, .ref as, .ref ar])), (ag, .inr (2, [.int (nI ng), .ref a1, .ref a2, .ref a3])), (az, .inr (8, [.ref an, .ref ap, .ref aq, .int (nI tc), .int sn, .int kt, .int ish, .ref ah])), (an, .inr (6, [.ref u0, .ref u1, .ref u2, .ref u3, .int (nI nn), .int (nI ndd), .ref u4, .ref u5, .ref u6, .ref u7, .ref u8, .int (nI ncc), .long ncl]))]) [0, 1, 2, 3, 4, 5, 6, 7] rfl) (hD.sub [0, 1, 2, 3, 4, 5, 6, 7] (by decide) rfl) hS ⟨by simp only [f_told]; rw [if_neg w_1_0, if_neg w_1_1, if_neg w_1_2, if_neg w_1_3, if_neg w_1_4, if_neg w_1_5, if_neg w_1_6, if_pos w_1_7], rfl⟩ (by decide) (by decide) dX9_told_132
  refine lv_tableOut (tgt := 133) hx hb dX9_told_1 (sw_out 7 (by decide) (fun k hk => by match k, hk with | 0, _ => exact w_1_0 | 1, _ => exact w_1_1 | 2, _ => exact w_1_2 | 3, _ => exact w_1_3 | 4, _ => exact w_1_4 | 5, _ => exact w_1_5 | 6, _ => exact w_1_6 | 7, _ => exact w_1_7 | k + 8, hk => exact absurd hk (by omega))) (by decide) ?_
  refine lv_iconst (v := (-1)) hx hb dX9_told_133 (by decide) ?_
  exact rt_i C hQ (hP.sub (ws' := [(ax, .inr (10, [.ref ay, .ref az, .ref ae, .ref ai])), (ay, .inr (9, [.ref ac, .ref av, .ref ak, .ref ag, .ref ao])), (ac, .inr (1, [.ref aw, .int (nI n), .long fw, .long nc, .int hc])), (av, .inr (5, [.ref v0, .ref v1, .int (nI nm), .ref v2, .ref v3, .ref v4, .ref v5, .ref v6, .ref v7, .ref v8, .ref v9])), (ak, .inr (3, [.int (nI nk), .int (nI nd), .ref ad, .ref as, .ref ar])), (ag, .inr (2, [.int (nI ng), .ref a1, .ref a2, .ref a3])), (az, .inr (8, [.ref an, .ref ap, .ref aq, .int (nI tc), .int sn, .int kt, .int ish, .ref ah])), (an, .inr (6, [.ref u0, .ref u1, .ref u2, .ref u3, .int (nI nn), .int (nI ndd), .ref u4, .ref u5, .ref u6, .ref u7, .ref u8, .int (nI ncc), .long ncl]))]) [0, 1, 2, 3, 4, 5, 6, 7] rfl) (hD.sub [0, 1, 2, 3, 4, 5, 6, 7] (by decide) rfl) hS ⟨by simp only [f_told]; rw [if_neg w_1_0, if_neg w_1_1, if_neg w_1_2, if_neg w_1_3, if_neg w_1_4, if_neg w_1_5, if_neg w_1_6, if_neg w_1_7], rfl⟩ (by decide) (by decide) dX9_told_134
