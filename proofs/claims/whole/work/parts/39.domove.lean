/-! the model: moves (written by s20.py) -/
/-- one EFFECT, done to an array that holds the digits -/
theorem eff_ok {n m c : Nat} {w wd : Int64} {k v : Int32} (hn : n ≤ 10) (hm : m < 24) (hw : wfW n w) (hd : wfW n wd) (hc : c < n) (he : f_isEffect n k v = true) : ∃ x, x < 10 ∧ f_effv wd (dgs w) n m k v c = nI x := by
  simp only [f_isEffect] at he
  simp only [f_effv]
  by_cases h0 : k = 0
  · rw [if_pos h0] at he ⊢
    obtain ⟨j, hj, e⟩ := rg_nat (n := 9) (by decide) he
    exact ⟨j, by omega, e⟩
  rw [if_neg h0] at he ⊢
  by_cases h1 : k = 1
  · rw [if_pos h1] at he ⊢
    obtain ⟨a, ha, e, -⟩ := wf_dig hd (show c < 16 by omega)
    have e : f_valueIn wd (nI c) = nI a := e
    rw [e]
    exact (fm_eq ha he).2
  rw [if_neg h1] at he ⊢
  by_cases h2 : k = 2
  · rw [if_pos h2] at he ⊢
    obtain ⟨j, hj, rfl⟩ := (inR_iff (by omega)).mp he
    obtain ⟨a, ha, e, -⟩ := wf_dig hd (show j < 16 by omega)
    exact ⟨a, ha, e⟩
  rw [if_neg h2] at he ⊢
  by_cases h3 : k = 3
  · rw [if_pos h3] at he
    obtain ⟨h4, h5⟩ := rg_iff.mp he
    have hv0 : ¬ v < 0 := by
      rw [Int32.lt_iff_toInt_lt]
      rw [Int32.le_iff_toInt_le] at h4
      have e1 : (1 : Int32).toInt = 1 := by decide
      have e2 : (0 : Int32).toInt = 0 := by decide
      omega
    obtain ⟨j, hj, rfl⟩ := nI_of hv0
    have a1 : 1 ≤ j := (nI_leI (a := 1) (by decide) hj).mp h4
    have a2 : j ≤ 10 := (nI_leI (b := 10) hj (by decide)).mp h5
    rw [if_pos (show (0 : Int32) < nI j from nI_lt (a := 0) a1 hj), f_chance_n (d := dN (uW w)) (fun j hj => by
      obtain ⟨d, hd, e, e2⟩ := wf_dig hw (show j < 16 by omega)
      rw [e2]
      exact ⟨e, hd⟩) (by omega), irem_n (by have := chM_lt (dN (uW w)) n m; omega) (by omega) (by omega)]
    exact ⟨_, Nat.lt_of_lt_of_le (Nat.mod_lt _ (by omega)) a2, rfl⟩
  · rw [if_neg h3] at he
    exact absurd he (by decide)
theorem eff_m {n m : Nat} {w : Int64} {v : Int32} (hn : n ≤ 10) (hm : m < 24) (hw : wfW n w) (he : rg v 1 10 = true) : ∃ j, 0 < j ∧ j ≤ 10 ∧ v = nI j ∧ (lrem (f_chL (dgs w) n m) v.toInt64).toInt32 = irem (f_chance (dgs w) n m) v := by
  obtain ⟨h4, h5⟩ := rg_iff.mp he
  have hv0 : ¬ v < 0 := by
    rw [Int32.lt_iff_toInt_lt]
    rw [Int32.le_iff_toInt_le] at h4
    have e1 : (1 : Int32).toInt = 1 := by decide
    have e2 : (0 : Int32).toInt = 0 := by decide
    omega
  obtain ⟨j, hj, rfl⟩ := nI_of hv0
  have a1 : 1 ≤ j := (nI_leI (a := 1) (by decide) hj).mp h4
  have a2 : j ≤ 10 := (nI_leI (b := 10) hj (by decide)).mp h5
  refine ⟨j, a1, a2, rfl, ?_⟩
  have hv : ∀ i, i < n → dgs w i = nI (dN (uW w) i) ∧ dN (uW w) i < 10 := fun i hi => by
    obtain ⟨d, hd, e, e2⟩ := wf_dig hw (show i < 16 by omega)
    rw [e2]
    exact ⟨e, hd⟩
  have hl := chN_lt (dN (uW w)) n
  have e1 : f_chL (dgs w) n m = lN (chM (dN (uW w)) n m) := by
    simp only [f_chL, chM]
    rw [f_ch_n n hv, nI_l (by omega), show (131 : Int64) = lN 131 from rfl, lN_mul, lN_add, show (1 : Int64) = lN 1 from rfl, lN_add, show (2147483647 : Int64) = lN 2147483647 from rfl, lrem_n (by omega) (by decide) (by decide)]
  have hc := chM_lt (dN (uW w)) n m
  rw [e1, f_chance_n hv (by omega), nI_l (by omega), lrem_n (by omega) (by omega) (by omega), lN_i, irem_n (by omega) (by omega) (by omega)]
theorem upd_dg {n c : Nat} {g : Nat → Int32} {wd : Int64} {x y : Int32} (hg : dgOK n g wd) (hw : wfW n wd) (hc : c < n) (hn : n ≤ 10) (e : x = y) (hy : ∃ d, d < 10 ∧ y = nI d) : dgOK n (upd g c x) (f_withValue wd (nI c) y) ∧ wfW n (f_withValue wd (nI c) y) := by
  obtain ⟨d, hd, rfl⟩ := hy
  rw [e]
  exact ⟨dgOK_set hg hc hn hd, wfW_set hw hc hn hd⟩
set_option maxHeartbeats 4000000 in
set_option maxRecDepth 100000 in
theorem lp_X10_doMove_12 (l : Launch) (D : va_G) (cI cJ cZ : ClassId) (bx : Nat) (b0 : Nat) (b1 : Nat) (b2 : Nat) (b3 : Nat) (b4 : Nat) (b5 : Nat) (b6 : Nat) (b7 : Nat) (b8 : Nat) (b9 : Nat) (b10 : Nat) (b11 : Nat) (b12 : Nat) (b13 : Nat) (b14 : Nat) (b15 : Nat) (b16 : Nat) (b17 : Nat) (b18 : Nat) (b19 : Nat) (b20 : Nat) (b21 : Nat) (b22 : Nat) (b23 : Nat) (b24 : Nat) (b25 : Nat) (b26 : Nat) (b27 : Nat) (b28 : Nat) (b29 : Nat) (b30 : Nat) (b31 : Nat) (b32 : Nat) (th : Int32) (n : Nat) (nm : Nat) (nk : Nat) (nd : Nat) (ng : Nat) (be : Int32) (bl : Int32) (pe : Int32) (nn : Nat) (tc : Nat) (ncc : Nat) (mk : Int64) (fd : Int32) (bs : Int32) (ps : Nat) (sn : Int32) (kt : Int32) (bh : Int32) (mec : Nat → Nat) (mek : Nat → Int32) (mel : Nat → Nat) (mev : Nat → Int32) (mtx : Nat → Int32) (men : Nat → Int32) (bw : Nat → Int32) (w : Int64) (m0 : Nat) (hn : n ≤ 10) (hd_ : dgOK n bw w) (hwf : wfW n w) (hm0 : m0 < 24) (hc6 : mec m0 ≤ 6) (heff : ∀ j, j < mec m0 → mel (6 * m0 + j) < n ∧ f_isEffect n (mek (6 * m0 + j)) (mev (6 * m0 + j)) = true)   {p : Program} {e : Env} {s : State} {m : MethodId} {below : List Frame} {meth : Method} {c : Code} {A : Nat → Prop} {Q : State → Prop} (C : Cx D cI cJ cZ p s m ([.ref bx, .int (nI m0)] : List Value).toArray meth c yX10_doMove cX10_doMove 7 none) (hQ : QOK Q below s ([.ref bx, .int (nI m0)] : List Value).toArray D A (fun r W => ∃ (g2 : Nat → Int32), r = none ∧ W = [(bx, .inr (11, [.int th, .int (nI n), .ref b0, .ref b1, .ref b2, .int (nI nm), .ref b3, .ref b4, .ref b5, .ref b6, .ref b7, .ref b8, .ref b9, .ref b10, .ref b11, .ref b12, .int (nI nk), .ref b13, .ref b14, .ref b15, .int (nI nd), .int (nI ng), .ref b16, .ref b17, .ref b18, .ref b19, .int (men m0), .int (mtx m0), .ref b20, .int pe, .int (nI nn), .ref b21, .ref b22, .ref b23, .ref b24, .ref b25, .ref b26, .ref b27, .ref b28, .ref b29, .int (nI tc), .ref b30, .int (nI ncc), .long mk, .int fd, .int bs, .int (nI ps), .ref b31, .ref b32, .int sn, .int kt, .int bh])), (b7, .inl (cI, 24, .inl (nF mec))), (b8, .inl (cI, 144, .inl mek)), (b9, .inl (cI, 144, .inl (nF mel))), (b10, .inl (cI, 144, .inl mev)), (b11, .inl (cI, 24, .inl mtx)), (b12, .inl (cI, 24, .inl men)), (b19, .inl (cI, 10, .inl g2))] ∧ dgOK n g2 (f_beh w n m0 mek mel mev (m0 * 6) (mec m0)) ∧ wfW n (f_beh w n m0 mek mel mev (m0 * 6) (mec m0))) 0 0) (hA : ∀ q, s.heap.size ≤ q → A q) : ∀ (ku : Nat) (i : Nat) (g : Nat → Int32) (hi : i ≤ mec m0) (hg : dgOK n g (f_beh w n m0 mek mel mev (m0 * 6) i)) (hwd : wfW n (f_beh w n m0 mek mel mev (m0 * 6) i)), (mec m0 - i) < ku → ∀ (H : Heap) (locs : List Loc) (ls : Array Slot), va_P D vwCl [(bx, .inr (11, [.int th, .int (nI n), .ref b0, .ref b1, .ref b2, .int (nI nm), .ref b3, .ref b4, .ref b5, .ref b6, .ref b7, .ref b8, .ref b9, .ref b10, .ref b11, .ref b12, .int (nI nk), .ref b13, .ref b14, .ref b15, .int (nI nd), .int (nI ng), .ref b16, .ref b17, .ref b18, .ref b19, .int be, .int bl, .ref b20, .int pe, .int (nI nn), .ref b21, .ref b22, .ref b23, .ref b24, .ref b25, .ref b26, .ref b27, .ref b28, .ref b29, .int (nI tc), .ref b30, .int (nI ncc), .long mk, .int fd, .int bs, .int (nI ps), .ref b31, .ref b32, .int sn, .int kt, .int bh])), (b7, .inl (cI, 24, .inl (nF mec))), (b8, .inl (cI, 144, .inl mek)), (b9, .inl (cI, 144, .inl (nF mel))), (b10, .inl (cI, 144, .inl mev)), (b11, .inl (cI, 24, .inl mtx)), (b12, .inl (cI, 24, .inl men)), (b19, .inl (cI, 10, .inl g))] H → va_D A [(bx, .inr (11, [.int th, .int (nI n), .ref b0, .ref b1, .ref b2, .int (nI nm), .ref b3, .ref b4, .ref b5, .ref b6, .ref b7, .ref b8, .ref b9, .ref b10, .ref b11, .ref b12, .int (nI nk), .ref b13, .ref b14, .ref b15, .int (nI nd), .int (nI ng), .ref b16, .ref b17, .ref b18, .ref b19, .int be, .int bl, .ref b20, .int pe, .int (nI nn), .ref b21, .ref b22, .ref b23, .ref b24, .ref b25, .ref b26, .ref b27, .ref b28, .ref b29, .int (nI tc), .ref b30, .int (nI ncc), .long mk, .int fd, .int bs, .int (nI ps), .ref b31, .ref b32, .int sn, .int kt, .int bh])), (b7, .inl (cI, 24, .inl (nF mec))), (b8, .inl (cI, 144, .inl mek)), (b9, .inl (cI, 144, .inl (nF mel))), (b10, .inl (cI, 144, .inl mev)), (b11, .inl (cI, 24, .inl mtx)), (b12, .inl (cI, 24, .inl men)), (b19, .inl (cI, 10, .inl g))] → va_S A s.heap H locs → lv_has ls 7 [(0, .ref bx), (1, .int (nI m0)), (2, .long (f_chL (dgs w) n m0)), (4, .int (nI (6 * m0 + i)))] → W p l e ({ frames := 1, cells := 0, slots := 0, locals := 24 } : Room) s m ([.ref bx, .int (nI m0)] : List Value).toArray below meth c H locs 0 0 Q (F0 m 12 ls []) := by
  obtain ⟨hx, hb, hr, hml, hts, hown, hlk, hnm, hK, hN⟩ := id C
  intro ku
  induction ku with
  | zero =>
    intro i g hi hg hwd hku
    exact absurd hku (Nat.not_lt_zero _)
  | succ ku ih =>
    intro i g hi hg hwd hku H locs ls hP hD hS hl
    refine lv_iload hx hb dX10_doMove_12 (lv_at hl 3 rfl) ?_
    refine lv_bipush (v := 6) hx hb dX10_doMove_14 (by decide) ?_
    refine lv_iload_n hx hb dX10_doMove_16 rfl (lv_at hl 1 rfl) ?_
    refine lv_imul hx hb dX10_doMove_17 ?_
    refine r_top (x' := nI (6 * m0)) (pk_mul 6 m0) ?_
    refine lv_aload_n hx hb dX10_doMove_18 rfl (lv_at hl 0 rfl) ?_
    refine r_get (v := .ref b7) C hP okX10 0 10 rfl (by decide) fl_X10_32 rfl rfl dX10_doMove_19 ?_
    refine lv_iload_n hx hb dX10_doMove_22 rfl (lv_at hl 1 rfl) ?_
    refine r_iald (j := m0) C hP 1 rfl (by omega) (by decide) dX10_doMove_23 ?_
    refine r_top (x' := nI (mec m0)) rfl ?_
    refine lv_iadd hx hb dX10_doMove_24 ?_
    refine r_top (x' := nI ((6 * m0) + (mec m0))) (nI_add (6 * m0) (mec m0)) ?_
    refine lv_icmp_ge (tgt := 154) hx hb dX10_doMove_25 (by decide) (fun c_25 => ?_) (fun c_25 => ?_)
    · -- taken 25
      have c_25 : (6 * m0) + (mec m0) ≤ 6 * m0 + i := (nI_leI (a := (6 * m0) + (mec m0)) (b := 6 * m0 + i) (by omega) (by omega)).mp c_25
      refine lv_aload_n hx hb dX10_doMove_154 rfl (lv_at hl 0 rfl) ?_
      refine lv_aload_n hx hb dX10_doMove_155 rfl (lv_at hl 0 rfl) ?_
      refine r_get (v := .ref b12) C hP okX10 0 15 rfl (by decide) fl_X10_47 rfl rfl dX10_doMove_156 ?_
      refine lv_iload_n hx hb dX10_doMove_159 rfl (lv_at hl 1 rfl) ?_
      refine r_iald (j := m0) C hP 6 rfl (by omega) (by decide) dX10_doMove_160 ?_
      refine r_put (v := .int (men m0)) C hP hD hS okX10 0 26 rfl (by decide) fl_X10_141 rfl rfl rfl rfl (Nat.le_of_ble_eq_true rfl) dX10_doMove_161 (fun H locs hP hD hS => ?_)
      have hP : va_P D vwCl [(bx, .inr (11, [.int th, .int (nI n), .ref b0, .ref b1, .ref b2, .int (nI nm), .ref b3, .ref b4, .ref b5, .ref b6, .ref b7, .ref b8, .ref b9, .ref b10, .ref b11, .ref b12, .int (nI nk), .ref b13, .ref b14, .ref b15, .int (nI nd), .int (nI ng), .ref b16, .ref b17, .ref b18, .ref b19, .int (men m0), .int bl, .ref b20, .int pe, .int (nI nn), .ref b21, .ref b22, .ref b23, .ref b24, .ref b25, .ref b26, .ref b27, .ref b28, .ref b29, .int (nI tc), .ref b30, .int (nI ncc), .long mk, .int fd, .int bs, .int (nI ps), .ref b31, .ref b32, .int sn, .int kt, .int bh])), (b7, .inl (cI, 24, .inl (nF mec))), (b8, .inl (cI, 144, .inl mek)), (b9, .inl (cI, 144, .inl (nF mel))), (b10, .inl (cI, 144, .inl mev)), (b11, .inl (cI, 24, .inl mtx)), (b12, .inl (cI, 24, .inl men)), (b19, .inl (cI, 10, .inl g))] H := hP
      have hD : va_D A [(bx, .inr (11, [.int th, .int (nI n), .ref b0, .ref b1, .ref b2, .int (nI nm), .ref b3, .ref b4, .ref b5, .ref b6, .ref b7, .ref b8, .ref b9, .ref b10, .ref b11, .ref b12, .int (nI nk), .ref b13, .ref b14, .ref b15, .int (nI nd), .int (nI ng), .ref b16, .ref b17, .ref b18, .ref b19, .int (men m0), .int bl, .ref b20, .int pe, .int (nI nn), .ref b21, .ref b22, .ref b23, .ref b24, .ref b25, .ref b26, .ref b27, .ref b28, .ref b29, .int (nI tc), .ref b30, .int (nI ncc), .long mk, .int fd, .int bs, .int (nI ps), .ref b31, .ref b32, .int sn, .int kt, .int bh])), (b7, .inl (cI, 24, .inl (nF mec))), (b8, .inl (cI, 144, .inl mek)), (b9, .inl (cI, 144, .inl (nF mel))), (b10, .inl (cI, 144, .inl mev)), (b11, .inl (cI, 24, .inl mtx)), (b12, .inl (cI, 24, .inl men)), (b19, .inl (cI, 10, .inl g))] := hD
      refine lv_aload_n hx hb dX10_doMove_164 rfl (lv_at hl 0 rfl) ?_
      refine lv_aload_n hx hb dX10_doMove_165 rfl (lv_at hl 0 rfl) ?_
      refine r_get (v := .ref b11) C hP okX10 0 14 rfl (by decide) fl_X10_44 rfl rfl dX10_doMove_166 ?_
      refine lv_iload_n hx hb dX10_doMove_169 rfl (lv_at hl 1 rfl) ?_
      refine r_iald (j := m0) C hP 5 rfl (by omega) (by decide) dX10_doMove_170 ?_
      refine r_put (v := .int (mtx m0)) C hP hD hS okX10 0 27 rfl (by decide) fl_X10_152 rfl rfl rfl rfl (Nat.le_of_ble_eq_true rfl) dX10_doMove_171 (fun H locs hP hD hS => ?_)
      have hP : va_P D vwCl [(bx, .inr (11, [.int th, .int (nI n), .ref b0, .ref b1, .ref b2, .int (nI nm), .ref b3, .ref b4, .ref b5, .ref b6, .ref b7, .ref b8, .ref b9, .ref b10, .ref b11, .ref b12, .int (nI nk), .ref b13, .ref b14, .ref b15, .int (nI nd), .int (nI ng), .ref b16, .ref b17, .ref b18, .ref b19, .int (men m0), .int (mtx m0), .ref b20, .int pe, .int (nI nn), .ref b21, .ref b22, .ref b23, .ref b24, .ref b25, .ref b26, .ref b27, .ref b28, .ref b29, .int (nI tc), .ref b30, .int (nI ncc), .long mk, .int fd, .int bs, .int (nI ps), .ref b31, .ref b32, .int sn, .int kt, .int bh])), (b7, .inl (cI, 24, .inl (nF mec))), (b8, .inl (cI, 144, .inl mek)), (b9, .inl (cI, 144, .inl (nF mel))), (b10, .inl (cI, 144, .inl mev)), (b11, .inl (cI, 24, .inl mtx)), (b12, .inl (cI, 24, .inl men)), (b19, .inl (cI, 10, .inl g))] H := hP
      have hD : va_D A [(bx, .inr (11, [.int th, .int (nI n), .ref b0, .ref b1, .ref b2, .int (nI nm), .ref b3, .ref b4, .ref b5, .ref b6, .ref b7, .ref b8, .ref b9, .ref b10, .ref b11, .ref b12, .int (nI nk), .ref b13, .ref b14, .ref b15, .int (nI nd), .int (nI ng), .ref b16, .ref b17, .ref b18, .ref b19, .int (men m0), .int (mtx m0), .ref b20, .int pe, .int (nI nn), .ref b21, .ref b22, .ref b23, .ref b24, .ref b25, .ref b26, .ref b27, .ref b28, .ref b29, .int (nI tc), .ref b30, .int (nI ncc), .long mk, .int fd, .int bs, .int (nI ps), .ref b31, .ref b32, .int sn, .int kt, .int bh])), (b7, .inl (cI, 24, .inl (nF mec))), (b8, .inl (cI, 144, .inl mek)), (b9, .inl (cI, 144, .inl (nF mel))), (b10, .inl (cI, 144, .inl mev)), (b11, .inl (cI, 24, .inl mtx)), (b12, .inl (cI, 24, .inl men)), (b19, .inl (cI, 10, .inl g))] := hD
      exact rt_v C hQ (hP.sub (ws' := [(bx, .inr (11, [.int th, .int (nI n), .ref b0, .ref b1, .ref b2, .int (nI nm), .ref b3, .ref b4, .ref b5, .ref b6, .ref b7, .ref b8, .ref b9, .ref b10, .ref b11, .ref b12, .int (nI nk), .ref b13, .ref b14, .ref b15, .int (nI nd), .int (nI ng), .ref b16, .ref b17, .ref b18, .ref b19, .int (men m0), .int (mtx m0), .ref b20, .int pe, .int (nI nn), .ref b21, .ref b22, .ref b23, .ref b24, .ref b25, .ref b26, .ref b27, .ref b28, .ref b29, .int (nI tc), .ref b30, .int (nI ncc), .long mk, .int fd, .int bs, .int (nI ps), .ref b31, .ref b32, .int sn, .int kt, .int bh])), (b7, .inl (cI, 24, .inl (nF mec))), (b8, .inl (cI, 144, .inl mek)), (b9, .inl (cI, 144, .inl (nF mel))), (b10, .inl (cI, 144, .inl mev)), (b11, .inl (cI, 24, .inl mtx)), (b12, .inl (cI, 24, .inl men)), (b19, .inl (cI, 10, .inl g))]) [0, 1, 2, 3, 4, 5, 6, 7] rfl) (hD.sub [0, 1, 2, 3, 4, 5, 6, 7] (by decide) rfl) hS (by obtain rfl : i = mec m0 := (by omega); exact ⟨g, rfl, rfl, hg, hwd⟩) (by decide) (by decide) dX10_doMove_174
    · -- not taken 25
      have c_25 : ¬ ((6 * m0) + (mec m0) ≤ 6 * m0 + i) := fun z => c_25 ((nI_leI (a := (6 * m0) + (mec m0)) (b := 6 * m0 + i) (by omega) (by omega)).mpr z)
      obtain ⟨hce, hef⟩ := heff i (by omega)
      have hst : f_beh w n m0 mek mel mev (m0 * 6) (i + 1) = f_withValue (f_beh w n m0 mek mel mev (m0 * 6) i) (nI (mel (6 * m0 + i))) (f_effv (f_beh w n m0 mek mel mev (m0 * 6) i) (dgs w) n m0 (mek (6 * m0 + i)) (mev (6 * m0 + i)) (mel (6 * m0 + i))) := by rw [Nat.mul_comm 6 m0]; rfl
      have hex := eff_ok hn hm0 hwf hwd hce hef
      refine lv_aload_n hx hb dX10_doMove_28 rfl (lv_at hl 0 rfl) ?_
      refine r_get (v := .ref b9) C hP okX10 0 12 rfl (by decide) fl_X10_38 rfl rfl dX10_doMove_29 ?_
      refine lv_iload hx hb dX10_doMove_32 (lv_at hl 3 rfl) ?_
      refine r_iald (j := 6 * m0 + i) C hP 3 rfl (by omega) (by decide) dX10_doMove_34 ?_
      refine r_top (x' := nI (mel (6 * m0 + i))) rfl ?_
      refine lv_istore (lv' := [(5, .int (nI (mel (6 * m0 + i)))), (0, .ref bx), (1, .int (nI m0)), (2, .long (f_chL (dgs w) n m0)), (4, .int (nI (6 * m0 + i)))]) hx hb dX10_doMove_35 hl (by decide) rfl (fun ls hl => ?_)
      refine lv_aload_n hx hb dX10_doMove_37 rfl (lv_at hl 1 rfl) ?_
      refine r_get (v := .ref b10) C hP okX10 0 13 rfl (by decide) fl_X10_41 rfl rfl dX10_doMove_38 ?_
      refine lv_iload hx hb dX10_doMove_41 (lv_at hl 4 rfl) ?_
      refine r_iald (j := 6 * m0 + i) C hP 4 rfl (by omega) (by decide) dX10_doMove_43 ?_
      refine lv_istore (lv' := [(6, .int (mev (6 * m0 + i))), (5, .int (nI (mel (6 * m0 + i)))), (0, .ref bx), (1, .int (nI m0)), (2, .long (f_chL (dgs w) n m0)), (4, .int (nI (6 * m0 + i)))]) hx hb dX10_doMove_44 hl (by decide) rfl (fun ls hl => ?_)
      refine lv_aload_n hx hb dX10_doMove_46 rfl (lv_at hl 2 rfl) ?_
      refine r_get (v := .ref b8) C hP okX10 0 11 rfl (by decide) fl_X10_35 rfl rfl dX10_doMove_47 ?_
      refine lv_iload hx hb dX10_doMove_50 (lv_at hl 5 rfl) ?_
      refine r_iald (j := 6 * m0 + i) C hP 2 rfl (by omega) (by decide) dX10_doMove_52 ?_
      by_cases w_53_0 : mek (6 * m0 + i) = 0
      · refine r_top w_53_0 ?_
        refine lv_tableIn (off := 27) (tgt := 80) hx hb dX10_doMove_53 (by decide) (by decide) (by decide +kernel) (by decide) ?_
        refine lv_aload_n hx hb dX10_doMove_80 rfl (lv_at hl 2 rfl) ?_
        refine r_get (v := .ref b19) C hP okX10 0 25 rfl (by decide) fl_X10_68 rfl rfl dX10_doMove_81 ?_
        refine lv_iload hx hb dX10_doMove_84 (lv_at hl 1 rfl) ?_
        refine lv_iload hx hb dX10_doMove_86 (lv_at hl 0 rfl) ?_
        refine r_iast (j := mel (6 * m0 + i)) C hP hD hS 7 rfl (by omega) (by decide) dX10_doMove_88 (fun H locs hP hD hS => ?_)
        have hP : va_P D vwCl [(bx, .inr (11, [.int th, .int (nI n), .ref b0, .ref b1, .ref b2, .int (nI nm), .ref b3, .ref b4, .ref b5, .ref b6, .ref b7, .ref b8, .ref b9, .ref b10, .ref b11, .ref b12, .int (nI nk), .ref b13, .ref b14, .ref b15, .int (nI nd), .int (nI ng), .ref b16, .ref b17, .ref b18, .ref b19, .int be, .int bl, .ref b20, .int pe, .int (nI nn), .ref b21, .ref b22, .ref b23, .ref b24, .ref b25, .ref b26, .ref b27, .ref b28, .ref b29, .int (nI tc), .ref b30, .int (nI ncc), .long mk, .int fd, .int bs, .int (nI ps), .ref b31, .ref b32, .int sn, .int kt, .int bh])), (b7, .inl (cI, 24, .inl (nF mec))), (b8, .inl (cI, 144, .inl mek)), (b9, .inl (cI, 144, .inl (nF mel))), (b10, .inl (cI, 144, .inl mev)), (b11, .inl (cI, 24, .inl mtx)), (b12, .inl (cI, 24, .inl men)), (b19, .inl (cI, 10, .inl (upd g (mel (6 * m0 + i)) (mev (6 * m0 + i)))))] H := hP
        have hD : va_D A [(bx, .inr (11, [.int th, .int (nI n), .ref b0, .ref b1, .ref b2, .int (nI nm), .ref b3, .ref b4, .ref b5, .ref b6, .ref b7, .ref b8, .ref b9, .ref b10, .ref b11, .ref b12, .int (nI nk), .ref b13, .ref b14, .ref b15, .int (nI nd), .int (nI ng), .ref b16, .ref b17, .ref b18, .ref b19, .int be, .int bl, .ref b20, .int pe, .int (nI nn), .ref b21, .ref b22, .ref b23, .ref b24, .ref b25, .ref b26, .ref b27, .ref b28, .ref b29, .int (nI tc), .ref b30, .int (nI ncc), .long mk, .int fd, .int bs, .int (nI ps), .ref b31, .ref b32, .int sn, .int kt, .int bh])), (b7, .inl (cI, 24, .inl (nF mec))), (b8, .inl (cI, 144, .inl mek)), (b9, .inl (cI, 144, .inl (nF mel))), (b10, .inl (cI, 144, .inl mev)), (b11, .inl (cI, 24, .inl mtx)), (b12, .inl (cI, 24, .inl men)), (b19, .inl (cI, 10, .inl (upd g (mel (6 * m0 + i)) (mev (6 * m0 + i)))))] := hD
        refine lv_goto (tgt := 148) hx hb dX10_doMove_89 (by decide) ?_
        have hxv : (mev (6 * m0 + i)) = f_effv (f_beh w n m0 mek mel mev (m0 * 6) i) (dgs w) n m0 (mek (6 * m0 + i)) (mev (6 * m0 + i)) (mel (6 * m0 + i)) := (by simp only [f_effv]; rw [if_pos w_53_0])
        refine lv_iinc (v := nI (6 * m0 + i + 1)) (lv' := [(4, .int (nI (6 * m0 + i + 1))), (6, .int (mev (6 * m0 + i))), (5, .int (nI (mel (6 * m0 + i)))), (0, .ref bx), (1, .int (nI m0)), (2, .long (f_chL (dgs w) n m0))]) hx hb dX10_doMove_148 hl (k := 5) rfl (nI_1 _) (by decide) rfl (fun ls hl => ?_)
        refine lv_goto (tgt := 12) hx hb dX10_doMove_151 (by decide) ?_
        exact ih (i + 1) (upd g (mel (6 * m0 + i)) (mev (6 * m0 + i))) (by omega) (by rw [hst]; exact (upd_dg hg hwd hce hn hxv hex).1) (by rw [hst]; exact (upd_dg hg hwd hce hn hxv hex).2) (by omega) _ _ _ (hP.sub [0, 1, 2, 3, 4, 5, 6, 7] rfl) (hD.sub [0, 1, 2, 3, 4, 5, 6, 7] (by decide) rfl) hS (lv_sub hl [3, 4, 5, 0] rfl)
      by_cases w_53_1 : mek (6 * m0 + i) = 1
      · refine r_top w_53_1 ?_
        refine lv_tableIn (off := 39) (tgt := 92) hx hb dX10_doMove_53 (by decide) (by decide) (by decide +kernel) (by decide) ?_
        refine lv_aload_n hx hb dX10_doMove_92 rfl (lv_at hl 2 rfl) ?_
        refine r_get (v := .ref b19) C hP okX10 0 25 rfl (by decide) fl_X10_68 rfl rfl dX10_doMove_93 ?_
        refine lv_iload hx hb dX10_doMove_96 (lv_at hl 1 rfl) ?_
        refine lv_aload_n hx hb dX10_doMove_98 rfl (lv_at hl 2 rfl) ?_
        refine r_get (v := .ref b19) C hP okX10 0 25 rfl (by decide) fl_X10_68 rfl rfl dX10_doMove_99 ?_
        refine lv_iload hx hb dX10_doMove_102 (lv_at hl 1 rfl) ?_
        refine r_iald (j := mel (6 * m0 + i)) C hP 7 rfl (by omega) (by decide) dX10_doMove_104 ?_
        refine lv_iload hx hb dX10_doMove_105 (lv_at hl 0 rfl) ?_
        refine lv_iadd hx hb dX10_doMove_107 ?_
        refine lv_bipush (v := 10) hx hb dX10_doMove_108 (by decide) ?_
        refine lv_iadd hx hb dX10_doMove_110 ?_
        refine lv_bipush (v := 10) hx hb dX10_doMove_111 (by decide) ?_
        refine lv_irem hx hb dX10_doMove_113 (by decide) ?_
        refine r_iast (j := mel (6 * m0 + i)) C hP hD hS 7 rfl (by omega) (by decide) dX10_doMove_114 (fun H locs hP hD hS => ?_)
        have hP : va_P D vwCl [(bx, .inr (11, [.int th, .int (nI n), .ref b0, .ref b1, .ref b2, .int (nI nm), .ref b3, .ref b4, .ref b5, .ref b6, .ref b7, .ref b8, .ref b9, .ref b10, .ref b11, .ref b12, .int (nI nk), .ref b13, .ref b14, .ref b15, .int (nI nd), .int (nI ng), .ref b16, .ref b17, .ref b18, .ref b19, .int be, .int bl, .ref b20, .int pe, .int (nI nn), .ref b21, .ref b22, .ref b23, .ref b24, .ref b25, .ref b26, .ref b27, .ref b28, .ref b29, .int (nI tc), .ref b30, .int (nI ncc), .long mk, .int fd, .int bs, .int (nI ps), .ref b31, .ref b32, .int sn, .int kt, .int bh])), (b7, .inl (cI, 24, .inl (nF mec))), (b8, .inl (cI, 144, .inl mek)), (b9, .inl (cI, 144, .inl (nF mel))), (b10, .inl (cI, 144, .inl mev)), (b11, .inl (cI, 24, .inl mtx)), (b12, .inl (cI, 24, .inl men)), (b19, .inl (cI, 10, .inl (upd g (mel (6 * m0 + i)) ((((g (mel (6 * m0 + i))) + (mev (6 * m0 + i))) + 10) - (((g (mel (6 * m0 + i))) + (mev (6 * m0 + i))) + 10) / 10 * 10))))] H := hP
        have hD : va_D A [(bx, .inr (11, [.int th, .int (nI n), .ref b0, .ref b1, .ref b2, .int (nI nm), .ref b3, .ref b4, .ref b5, .ref b6, .ref b7, .ref b8, .ref b9, .ref b10, .ref b11, .ref b12, .int (nI nk), .ref b13, .ref b14, .ref b15, .int (nI nd), .int (nI ng), .ref b16, .ref b17, .ref b18, .ref b19, .int be, .int bl, .ref b20, .int pe, .int (nI nn), .ref b21, .ref b22, .ref b23, .ref b24, .ref b25, .ref b26, .ref b27, .ref b28, .ref b29, .int (nI tc), .ref b30, .int (nI ncc), .long mk, .int fd, .int bs, .int (nI ps), .ref b31, .ref b32, .int sn, .int kt, .int bh])), (b7, .inl (cI, 24, .inl (nF mec))), (b8, .inl (cI, 144, .inl mek)), (b9, .inl (cI, 144, .inl (nF mel))), (b10, .inl (cI, 144, .inl mev)), (b11, .inl (cI, 24, .inl mtx)), (b12, .inl (cI, 24, .inl men)), (b19, .inl (cI, 10, .inl (upd g (mel (6 * m0 + i)) ((((g (mel (6 * m0 + i))) + (mev (6 * m0 + i))) + 10) - (((g (mel (6 * m0 + i))) + (mev (6 * m0 + i))) + 10) / 10 * 10))))] := hD
        refine lv_goto (tgt := 148) hx hb dX10_doMove_115 (by decide) ?_
        have hxv : ((((g (mel (6 * m0 + i))) + (mev (6 * m0 + i))) + 10) - (((g (mel (6 * m0 + i))) + (mev (6 * m0 + i))) + 10) / 10 * 10) = f_effv (f_beh w n m0 mek mel mev (m0 * 6) i) (dgs w) n m0 (mek (6 * m0 + i)) (mev (6 * m0 + i)) (mel (6 * m0 + i)) := (by simp only [f_effv]; rw [if_neg w_53_0, if_pos w_53_1]; have hef1 : rg (mev (6 * m0 + i)) (-9) 9 = true := (by simp only [f_isEffect] at hef; rw [if_neg w_53_0, if_pos w_53_1] at hef; exact hef); obtain ⟨da, hda, ea, -⟩ := wf_dig hwd (show mel (6 * m0 + i) < 16 by omega); have z := (fm_eq hda hef1).1; rw [← ea] at z; rw [hg _ hce]; exact z)
        refine lv_iinc (v := nI (6 * m0 + i + 1)) (lv' := [(4, .int (nI (6 * m0 + i + 1))), (6, .int (mev (6 * m0 + i))), (5, .int (nI (mel (6 * m0 + i)))), (0, .ref bx), (1, .int (nI m0)), (2, .long (f_chL (dgs w) n m0))]) hx hb dX10_doMove_148 hl (k := 5) rfl (nI_1 _) (by decide) rfl (fun ls hl => ?_)
        refine lv_goto (tgt := 12) hx hb dX10_doMove_151 (by decide) ?_
        exact ih (i + 1) (upd g (mel (6 * m0 + i)) ((((g (mel (6 * m0 + i))) + (mev (6 * m0 + i))) + 10) - (((g (mel (6 * m0 + i))) + (mev (6 * m0 + i))) + 10) / 10 * 10)) (by omega) (by rw [hst]; exact (upd_dg hg hwd hce hn hxv hex).1) (by rw [hst]; exact (upd_dg hg hwd hce hn hxv hex).2) (by omega) _ _ _ (hP.sub [0, 1, 2, 3, 4, 5, 6, 7] rfl) (hD.sub [0, 1, 2, 3, 4, 5, 6, 7] (by decide) rfl) hS (lv_sub hl [3, 4, 5, 0] rfl)
      by_cases w_53_2 : mek (6 * m0 + i) = 2
      · refine r_top w_53_2 ?_
        refine lv_tableIn (off := 65) (tgt := 118) hx hb dX10_doMove_53 (by decide) (by decide) (by decide +kernel) (by decide) ?_
        refine lv_aload_n hx hb dX10_doMove_118 rfl (lv_at hl 2 rfl) ?_
        refine r_get (v := .ref b19) C hP okX10 0 25 rfl (by decide) fl_X10_68 rfl rfl dX10_doMove_119 ?_
        refine lv_iload hx hb dX10_doMove_122 (lv_at hl 1 rfl) ?_
        refine lv_aload_n hx hb dX10_doMove_124 rfl (lv_at hl 2 rfl) ?_
        refine r_get (v := .ref b19) C hP okX10 0 25 rfl (by decide) fl_X10_68 rfl rfl dX10_doMove_125 ?_
        refine lv_iload hx hb dX10_doMove_128 (lv_at hl 0 rfl) ?_
        have hef2 : inR (mev (6 * m0 + i)) n = true := by simp only [f_isEffect] at hef; rw [if_neg w_53_0, if_neg w_53_1, if_pos w_53_2] at hef; exact hef
        obtain ⟨jv, hjv, ejv⟩ := (inR_iff (by omega)).mp hef2
        refine r_top ejv ?_
        refine r_iald (j := jv) C hP 7 rfl (by omega) (by decide) dX10_doMove_130 ?_
        refine r_iast (j := mel (6 * m0 + i)) C hP hD hS 7 rfl (by omega) (by decide) dX10_doMove_131 (fun H locs hP hD hS => ?_)
        have hP : va_P D vwCl [(bx, .inr (11, [.int th, .int (nI n), .ref b0, .ref b1, .ref b2, .int (nI nm), .ref b3, .ref b4, .ref b5, .ref b6, .ref b7, .ref b8, .ref b9, .ref b10, .ref b11, .ref b12, .int (nI nk), .ref b13, .ref b14, .ref b15, .int (nI nd), .int (nI ng), .ref b16, .ref b17, .ref b18, .ref b19, .int be, .int bl, .ref b20, .int pe, .int (nI nn), .ref b21, .ref b22, .ref b23, .ref b24, .ref b25, .ref b26, .ref b27, .ref b28, .ref b29, .int (nI tc), .ref b30, .int (nI ncc), .long mk, .int fd, .int bs, .int (nI ps), .ref b31, .ref b32, .int sn, .int kt, .int bh])), (b7, .inl (cI, 24, .inl (nF mec))), (b8, .inl (cI, 144, .inl mek)), (b9, .inl (cI, 144, .inl (nF mel))), (b10, .inl (cI, 144, .inl mev)), (b11, .inl (cI, 24, .inl mtx)), (b12, .inl (cI, 24, .inl men)), (b19, .inl (cI, 10, .inl (upd g (mel (6 * m0 + i)) (g jv))))] H := hP
        have hD : va_D A [(bx, .inr (11, [.int th, .int (nI n), .ref b0, .ref b1, .ref b2, .int (nI nm), .ref b3, .ref b4, .ref b5, .ref b6, .ref b7, .ref b8, .ref b9, .ref b10, .ref b11, .ref b12, .int (nI nk), .ref b13, .ref b14, .ref b15, .int (nI nd), .int (nI ng), .ref b16, .ref b17, .ref b18, .ref b19, .int be, .int bl, .ref b20, .int pe, .int (nI nn), .ref b21, .ref b22, .ref b23, .ref b24, .ref b25, .ref b26, .ref b27, .ref b28, .ref b29, .int (nI tc), .ref b30, .int (nI ncc), .long mk, .int fd, .int bs, .int (nI ps), .ref b31, .ref b32, .int sn, .int kt, .int bh])), (b7, .inl (cI, 24, .inl (nF mec))), (b8, .inl (cI, 144, .inl mek)), (b9, .inl (cI, 144, .inl (nF mel))), (b10, .inl (cI, 144, .inl mev)), (b11, .inl (cI, 24, .inl mtx)), (b12, .inl (cI, 24, .inl men)), (b19, .inl (cI, 10, .inl (upd g (mel (6 * m0 + i)) (g jv))))] := hD
        refine lv_goto (tgt := 148) hx hb dX10_doMove_132 (by decide) ?_
        have hxv : (g jv) = f_effv (f_beh w n m0 mek mel mev (m0 * 6) i) (dgs w) n m0 (mek (6 * m0 + i)) (mev (6 * m0 + i)) (mel (6 * m0 + i)) := (by simp only [f_effv]; rw [if_neg w_53_0, if_neg w_53_1, if_pos w_53_2, hg jv hjv, ejv]; rfl)
        refine lv_iinc (v := nI (6 * m0 + i + 1)) (lv' := [(4, .int (nI (6 * m0 + i + 1))), (6, .int (mev (6 * m0 + i))), (5, .int (nI (mel (6 * m0 + i)))), (0, .ref bx), (1, .int (nI m0)), (2, .long (f_chL (dgs w) n m0))]) hx hb dX10_doMove_148 hl (k := 5) rfl (nI_1 _) (by decide) rfl (fun ls hl => ?_)
        refine lv_goto (tgt := 12) hx hb dX10_doMove_151 (by decide) ?_
        exact ih (i + 1) (upd g (mel (6 * m0 + i)) (g jv)) (by omega) (by rw [hst]; exact (upd_dg hg hwd hce hn hxv hex).1) (by rw [hst]; exact (upd_dg hg hwd hce hn hxv hex).2) (by omega) _ _ _ (hP.sub [0, 1, 2, 3, 4, 5, 6, 7] rfl) (hD.sub [0, 1, 2, 3, 4, 5, 6, 7] (by decide) rfl) hS (lv_sub hl [3, 4, 5, 0] rfl)
      refine lv_tableOut (tgt := 135) hx hb dX10_doMove_53 (sw_out 2 (by decide) (fun k hk => by match k, hk with | 0, _ => exact w_53_0 | 1, _ => exact w_53_1 | 2, _ => exact w_53_2 | k + 3, hk => exact absurd hk (by omega))) (by decide) ?_
      refine lv_aload_n hx hb dX10_doMove_135 rfl (lv_at hl 2 rfl) ?_
      refine r_get (v := .ref b19) C hP okX10 0 25 rfl (by decide) fl_X10_68 rfl rfl dX10_doMove_136 ?_
      refine lv_iload hx hb dX10_doMove_139 (lv_at hl 1 rfl) ?_
      have hef3 : rg (mev (6 * m0 + i)) 1 10 = true := by simp only [f_isEffect] at hef; rw [if_neg w_53_0, if_neg w_53_1, if_neg w_53_2] at hef; by_cases z : mek (6 * m0 + i) = 3; (rw [if_pos z] at hef; exact hef); (rw [if_neg z] at hef; exact absurd hef (by decide))
      obtain ⟨jv, hj0, hj1, ejv, eme⟩ := eff_m hn hm0 hwf hef3
      refine lv_lload_n hx hb dX10_doMove_141 rfl (lv_at hl 4 rfl) ?_
      refine lv_iload hx hb dX10_doMove_142 (lv_at hl 0 rfl) ?_
      refine lv_i2l (v := (mev (6 * m0 + i)).toInt64) hx hb dX10_doMove_144 rfl ?_
      refine lv_lrem hx hb dX10_doMove_145 (by rw [ejv, nI_l (by omega)]; exact fun z => absurd ((pk_lEQ (a := jv) (b := 0) (by omega) (by decide)).mp z) (by omega)) ?_
      refine lv_l2i (v := ((f_chL (dgs w) n m0) - (f_chL (dgs w) n m0) / ((mev (6 * m0 + i)).toInt64) * ((mev (6 * m0 + i)).toInt64)).toInt32) hx hb dX10_doMove_146 rfl ?_
      refine r_iast (j := mel (6 * m0 + i)) C hP hD hS 7 rfl (by omega) (by decide) dX10_doMove_147 (fun H locs hP hD hS => ?_)
      have hP : va_P D vwCl [(bx, .inr (11, [.int th, .int (nI n), .ref b0, .ref b1, .ref b2, .int (nI nm), .ref b3, .ref b4, .ref b5, .ref b6, .ref b7, .ref b8, .ref b9, .ref b10, .ref b11, .ref b12, .int (nI nk), .ref b13, .ref b14, .ref b15, .int (nI nd), .int (nI ng), .ref b16, .ref b17, .ref b18, .ref b19, .int be, .int bl, .ref b20, .int pe, .int (nI nn), .ref b21, .ref b22, .ref b23, .ref b24, .ref b25, .ref b26, .ref b27, .ref b28, .ref b29, .int (nI tc), .ref b30, .int (nI ncc), .long mk, .int fd, .int bs, .int (nI ps), .ref b31, .ref b32, .int sn, .int kt, .int bh])), (b7, .inl (cI, 24, .inl (nF mec))), (b8, .inl (cI, 144, .inl mek)), (b9, .inl (cI, 144, .inl (nF mel))), (b10, .inl (cI, 144, .inl mev)), (b11, .inl (cI, 24, .inl mtx)), (b12, .inl (cI, 24, .inl men)), (b19, .inl (cI, 10, .inl (upd g (mel (6 * m0 + i)) (((f_chL (dgs w) n m0) - (f_chL (dgs w) n m0) / ((mev (6 * m0 + i)).toInt64) * ((mev (6 * m0 + i)).toInt64)).toInt32))))] H := hP
      have hD : va_D A [(bx, .inr (11, [.int th, .int (nI n), .ref b0, .ref b1, .ref b2, .int (nI nm), .ref b3, .ref b4, .ref b5, .ref b6, .ref b7, .ref b8, .ref b9, .ref b10, .ref b11, .ref b12, .int (nI nk), .ref b13, .ref b14, .ref b15, .int (nI nd), .int (nI ng), .ref b16, .ref b17, .ref b18, .ref b19, .int be, .int bl, .ref b20, .int pe, .int (nI nn), .ref b21, .ref b22, .ref b23, .ref b24, .ref b25, .ref b26, .ref b27, .ref b28, .ref b29, .int (nI tc), .ref b30, .int (nI ncc), .long mk, .int fd, .int bs, .int (nI ps), .ref b31, .ref b32, .int sn, .int kt, .int bh])), (b7, .inl (cI, 24, .inl (nF mec))), (b8, .inl (cI, 144, .inl mek)), (b9, .inl (cI, 144, .inl (nF mel))), (b10, .inl (cI, 144, .inl mev)), (b11, .inl (cI, 24, .inl mtx)), (b12, .inl (cI, 24, .inl men)), (b19, .inl (cI, 10, .inl (upd g (mel (6 * m0 + i)) (((f_chL (dgs w) n m0) - (f_chL (dgs w) n m0) / ((mev (6 * m0 + i)).toInt64) * ((mev (6 * m0 + i)).toInt64)).toInt32))))] := hD
      have hxv : (((f_chL (dgs w) n m0) - (f_chL (dgs w) n m0) / ((mev (6 * m0 + i)).toInt64) * ((mev (6 * m0 + i)).toInt64)).toInt32) = f_effv (f_beh w n m0 mek mel mev (m0 * 6) i) (dgs w) n m0 (mek (6 * m0 + i)) (mev (6 * m0 + i)) (mel (6 * m0 + i)) := (by simp only [f_effv]; rw [if_neg w_53_0, if_neg w_53_1, if_neg w_53_2, if_pos (by rw [ejv]; exact (show (0 : Int32) < nI jv from nI_lt (a := 0) hj0 (by omega)))]; exact eme)
      refine lv_iinc (v := nI (6 * m0 + i + 1)) (lv' := [(4, .int (nI (6 * m0 + i + 1))), (6, .int (mev (6 * m0 + i))), (5, .int (nI (mel (6 * m0 + i)))), (0, .ref bx), (1, .int (nI m0)), (2, .long (f_chL (dgs w) n m0))]) hx hb dX10_doMove_148 hl (k := 5) rfl (nI_1 _) (by decide) rfl (fun ls hl => ?_)
      refine lv_goto (tgt := 12) hx hb dX10_doMove_151 (by decide) ?_
      exact ih (i + 1) (upd g (mel (6 * m0 + i)) (((f_chL (dgs w) n m0) - (f_chL (dgs w) n m0) / ((mev (6 * m0 + i)).toInt64) * ((mev (6 * m0 + i)).toInt64)).toInt32)) (by omega) (by rw [hst]; exact (upd_dg hg hwd hce hn hxv hex).1) (by rw [hst]; exact (upd_dg hg hwd hce hn hxv hex).2) (by omega) _ _ _ (hP.sub [0, 1, 2, 3, 4, 5, 6, 7] rfl) (hD.sub [0, 1, 2, 3, 4, 5, 6, 7] (by decide) rfl) hS (lv_sub hl [3, 4, 5, 0] rfl)
set_option maxHeartbeats 4000000 in
set_option maxRecDepth 100000 in
theorem c_X10_doMove (l : Launch) (D : va_G) (cI cJ cZ : ClassId) (bx : Nat) (b0 : Nat) (b1 : Nat) (b2 : Nat) (b3 : Nat) (b4 : Nat) (b5 : Nat) (b6 : Nat) (b7 : Nat) (b8 : Nat) (b9 : Nat) (b10 : Nat) (b11 : Nat) (b12 : Nat) (b13 : Nat) (b14 : Nat) (b15 : Nat) (b16 : Nat) (b17 : Nat) (b18 : Nat) (b19 : Nat) (b20 : Nat) (b21 : Nat) (b22 : Nat) (b23 : Nat) (b24 : Nat) (b25 : Nat) (b26 : Nat) (b27 : Nat) (b28 : Nat) (b29 : Nat) (b30 : Nat) (b31 : Nat) (b32 : Nat) (th : Int32) (n : Nat) (nm : Nat) (nk : Nat) (nd : Nat) (ng : Nat) (be : Int32) (bl : Int32) (pe : Int32) (nn : Nat) (tc : Nat) (ncc : Nat) (mk : Int64) (fd : Int32) (bs : Int32) (ps : Nat) (sn : Int32) (kt : Int32) (bh : Int32) (mec : Nat → Nat) (mek : Nat → Int32) (mel : Nat → Nat) (mev : Nat → Int32) (mtx : Nat → Int32) (men : Nat → Int32) (bw : Nat → Int32) (w : Int64) (m0 : Nat) (hn : n ≤ 10) (hd_ : dgOK n bw w) (hwf : wfW n w) (hm0 : m0 < 24) (hc6 : mec m0 ≤ 6) (heff : ∀ j, j < mec m0 → mel (6 * m0 + j) < n ∧ f_isEffect n (mek (6 * m0 + j)) (mev (6 * m0 + j)) = true) : Ctr l D cI cJ cZ yX10_doMove cX10_doMove 7 none ({ frames := 1, cells := 0, slots := 0, locals := 24 } : Room) [.ref bx, .int (nI m0)] [(bx, .inr (11, [.int th, .int (nI n), .ref b0, .ref b1, .ref b2, .int (nI nm), .ref b3, .ref b4, .ref b5, .ref b6, .ref b7, .ref b8, .ref b9, .ref b10, .ref b11, .ref b12, .int (nI nk), .ref b13, .ref b14, .ref b15, .int (nI nd), .int (nI ng), .ref b16, .ref b17, .ref b18, .ref b19, .int be, .int bl, .ref b20, .int pe, .int (nI nn), .ref b21, .ref b22, .ref b23, .ref b24, .ref b25, .ref b26, .ref b27, .ref b28, .ref b29, .int (nI tc), .ref b30, .int (nI ncc), .long mk, .int fd, .int bs, .int (nI ps), .ref b31, .ref b32, .int sn, .int kt, .int bh])), (b7, .inl (cI, 24, .inl (nF mec))), (b8, .inl (cI, 144, .inl mek)), (b9, .inl (cI, 144, .inl (nF mel))), (b10, .inl (cI, 144, .inl mev)), (b11, .inl (cI, 24, .inl mtx)), (b12, .inl (cI, 24, .inl men)), (b19, .inl (cI, 10, .inl bw))] (fun r W => ∃ (g2 : Nat → Int32), r = none ∧ W = [(bx, .inr (11, [.int th, .int (nI n), .ref b0, .ref b1, .ref b2, .int (nI nm), .ref b3, .ref b4, .ref b5, .ref b6, .ref b7, .ref b8, .ref b9, .ref b10, .ref b11, .ref b12, .int (nI nk), .ref b13, .ref b14, .ref b15, .int (nI nd), .int (nI ng), .ref b16, .ref b17, .ref b18, .ref b19, .int (men m0), .int (mtx m0), .ref b20, .int pe, .int (nI nn), .ref b21, .ref b22, .ref b23, .ref b24, .ref b25, .ref b26, .ref b27, .ref b28, .ref b29, .int (nI tc), .ref b30, .int (nI ncc), .long mk, .int fd, .int bs, .int (nI ps), .ref b31, .ref b32, .int sn, .int kt, .int bh])), (b7, .inl (cI, 24, .inl (nF mec))), (b8, .inl (cI, 144, .inl mek)), (b9, .inl (cI, 144, .inl (nF mel))), (b10, .inl (cI, 144, .inl mev)), (b11, .inl (cI, 24, .inl mtx)), (b12, .inl (cI, 24, .inl men)), (b19, .inl (cI, 10, .inl g2))] ∧ dgOK n g2 (f_beh w n m0 mek mel mev (m0 * 6) (mec m0)) ∧ wfW n (f_beh w n m0 mek mel mev (m0 * 6) (mec m0))) := by
  refine Ctr.start (by decide +kernel) (Nat.le_of_ble_eq_true rfl) ?_
  intro p e s m below meth c A Q ls H C hQ hA hP hD hS hl
  obtain ⟨hx, hb, hr, hml, hts, hown, hlk, hnm, hK, hN⟩ := id C
  have hl : lv_has ls 7 [(0, .ref bx), (1, .int (nI m0))] := hl
  refine lv_aload_n hx hb dX10_doMove_0 rfl (lv_at hl 0 rfl) ?_
  refine lv_iload_n hx hb dX10_doMove_1 rfl (lv_at hl 1 rfl) ?_
  refine cl_v C (c_X10_chance l D cI cJ cZ bx b0 b1 b2 b3 b4 b5 b6 b7 b8 b9 b10 b11 b12 b13 b14 b15 b16 b17 b18 b19 b20 b21 b22 b23 b24 b25 b26 b27 b28 b29 b30 b31 b32 th n nm nk nd ng be bl pe nn tc ncc mk fd bs ps sn kt bh bw w m0 (by omega) hd_ hwf (by omega)) cd_X10_chance ml_X10_148 im_X10_chance se_X10_chance in_X10 hd_X10_chance ⟨by decide, by decide⟩ hP hD hS hA (WR := [(b7, .inl (cI, 24, .inl (nF mec))), (b8, .inl (cI, 144, .inl mek)), (b9, .inl (cI, 144, .inl (nF mel))), (b10, .inl (cI, 144, .inl mev)), (b11, .inl (cI, 24, .inl mtx)), (b12, .inl (cI, 24, .inl men))]) [0, 7] [1, 2, 3, 4, 5, 6] rfl rfl rfl rfl (by decide) (ci := 11) (q0 := 0) rfl rfl hl.1 rfl (Nat.le_of_ble_eq_true rfl) dX10_doMove_2 ⟨by decide, by decide⟩ (fun r W H locs hp hP hD hS => ?_)
  obtain ⟨rfl, rfl⟩ := hp
  refine W.eq (g2 := F0 m 5 ls [.long (f_chL (dgs w) n m0)]) rfl ?_
  have hP : va_P D vwCl [(b7, .inl (cI, 24, .inl (nF mec))), (b8, .inl (cI, 144, .inl mek)), (b9, .inl (cI, 144, .inl (nF mel))), (b10, .inl (cI, 144, .inl mev)), (b11, .inl (cI, 24, .inl mtx)), (b12, .inl (cI, 24, .inl men)), (bx, .inr (11, [.int th, .int (nI n), .ref b0, .ref b1, .ref b2, .int (nI nm), .ref b3, .ref b4, .ref b5, .ref b6, .ref b7, .ref b8, .ref b9, .ref b10, .ref b11, .ref b12, .int (nI nk), .ref b13, .ref b14, .ref b15, .int (nI nd), .int (nI ng), .ref b16, .ref b17, .ref b18, .ref b19, .int be, .int bl, .ref b20, .int pe, .int (nI nn), .ref b21, .ref b22, .ref b23, .ref b24, .ref b25, .ref b26, .ref b27, .ref b28, .ref b29, .int (nI tc), .ref b30, .int (nI ncc), .long mk, .int fd, .int bs, .int (nI ps), .ref b31, .ref b32, .int sn, .int kt, .int bh])), (b19, .inl (cI, 10, .inl bw))] H := hP
  have hD : va_D A [(b7, .inl (cI, 24, .inl (nF mec))), (b8, .inl (cI, 144, .inl mek)), (b9, .inl (cI, 144, .inl (nF mel))), (b10, .inl (cI, 144, .inl mev)), (b11, .inl (cI, 24, .inl mtx)), (b12, .inl (cI, 24, .inl men)), (bx, .inr (11, [.int th, .int (nI n), .ref b0, .ref b1, .ref b2, .int (nI nm), .ref b3, .ref b4, .ref b5, .ref b6, .ref b7, .ref b8, .ref b9, .ref b10, .ref b11, .ref b12, .int (nI nk), .ref b13, .ref b14, .ref b15, .int (nI nd), .int (nI ng), .ref b16, .ref b17, .ref b18, .ref b19, .int be, .int bl, .ref b20, .int pe, .int (nI nn), .ref b21, .ref b22, .ref b23, .ref b24, .ref b25, .ref b26, .ref b27, .ref b28, .ref b29, .int (nI tc), .ref b30, .int (nI ncc), .long mk, .int fd, .int bs, .int (nI ps), .ref b31, .ref b32, .int sn, .int kt, .int bh])), (b19, .inl (cI, 10, .inl bw))] := hD
  refine lv_lstore_n (lv' := [(2, .long (f_chL (dgs w) n m0)), (0, .ref bx), (1, .int (nI m0))]) hx hb dX10_doMove_5 rfl hl (by decide) rfl (fun ls hl => ?_)
  refine lv_bipush (v := 6) hx hb dX10_doMove_6 (by decide) ?_
  refine lv_iload_n hx hb dX10_doMove_8 rfl (lv_at hl 2 rfl) ?_
  refine lv_imul hx hb dX10_doMove_9 ?_
  refine r_top (x' := nI (6 * m0)) (pk_mul 6 m0) ?_
  refine lv_istore (lv' := [(4, .int (nI (6 * m0))), (2, .long (f_chL (dgs w) n m0)), (0, .ref bx), (1, .int (nI m0))]) hx hb dX10_doMove_10 hl (by decide) rfl (fun ls hl => ?_)
  exact lp_X10_doMove_12 l D cI cJ cZ bx b0 b1 b2 b3 b4 b5 b6 b7 b8 b9 b10 b11 b12 b13 b14 b15 b16 b17 b18 b19 b20 b21 b22 b23 b24 b25 b26 b27 b28 b29 b30 b31 b32 th n nm nk nd ng be bl pe nn tc ncc mk fd bs ps sn kt bh mec mek mel mev mtx men bw w m0 hn hd_ hwf hm0 hc6 heff   C hQ hA _ 0 bw (by omega) hd_ hwf (Nat.lt_succ_self _) _ _ _ (hP.sub [6, 0, 1, 2, 3, 4, 5, 7] rfl) (hD.sub [6, 0, 1, 2, 3, 4, 5, 7] (by decide) rfl) hS (lv_sub hl [2, 3, 1, 0] rfl)
