/-! the model: worlds (written by s19.py) -/
def f_canW (be : Int32) (v : Nat → Int32) (mcl : Nat → Nat) (mcr mcv : Nat → Int32) (b i : Nat) : Bool := decide (be = 0) && f_conds v mcl mcr mcv b i
theorem f_canW_s {be : Int32} {v : Nat → Int32} {mcl : Nat → Nat} {mcr mcv : Nat → Int32} {b i : Nat} : f_canW be v mcl mcr mcv b (i + 1) = (f_canW be v mcl mcr mcv b i && f_holds (v (mcl (b + i))) (mcr (b + i)) (mcv (b + i))) := by
  simp only [f_canW, f_conds, Bool.and_assoc]
theorem f_canW_no {be : Int32} {v : Nat → Int32} {mcl : Nat → Nat} {mcr mcv : Nat → Int32} {b i : Nat} (h : f_canW be v mcl mcr mcv b i = false) : ∀ d, f_canW be v mcl mcr mcv b (i + d) = false
  | 0 => h
  | d + 1 => by
    show f_canW be v mcl mcr mcv b ((i + d) + 1) = false
    rw [f_canW_s, f_canW_no h d]
    rfl
def f_chL (v : Nat → Int32) (n m : Nat) : Int64 := lrem (131 * f_ch v n + (nI m).toInt64 + 1) 2147483647
theorem dig_l1 {n c : Nat} {w : Int64} (h : wfW n w) (hc : c < 16) : (dgs w c + 1).toInt64 = (dgs w c).toInt64 + 1 := by
  obtain ⟨d, hd, e, -⟩ := wf_dig h hc
  rw [e, nI_1, nI_l (by omega), nI_l (by omega), lN_1]
theorem uW_div {n : Nat} {w : Int64} (h : wfW n w) (hn : n ≤ 16) : uW w / 16 ^ n = 0 := by
  apply Nat.eq_of_testBit_eq
  intro p
  rw [p16, Nat.testBit_div_two_pow, Nat.zero_testBit]
  rcases Nat.lt_or_ge (n + p / 4) 16 with q | q
  · obtain ⟨d, hd, e, e2⟩ := wf_dig h q
    obtain ⟨d', -, e', h0⟩ := h (n + p / 4) q
    have hz : dN (uW w) (n + p / 4) = 0 := by
      rw [dgs_N w q, h0 (by omega)] at e'
      exact nI_inj (by have := dN_lt (uW w) (n + p / 4); omega) (by decide) e'
    have hb : (dN (uW w) (n + p / 4)).testBit (p % 4) = false := by rw [hz]; exact Nat.zero_testBit _
    rw [dN_bit] at hb
    simp only [show p % 4 < 4 by omega, decide_true, Bool.true_and] at hb
    rw [show 4 * (n + p / 4) + p % 4 = p + 4 * n by omega] at hb
    exact hb
  · exact Nat.testBit_lt_two_pow (Nat.lt_of_lt_of_le (uW_lt w) (Nat.pow_le_pow_right (by decide) (by omega)))
theorem dgOK_cp {n : Nat} {f : Nat → Int32} {w : Int64} : dgOK n (cpF (dgs w) f n) w := fun k hk => if_pos hk
theorem dgOK_cp2 {n : Nat} {g f : Nat → Int32} {w : Int64} (h : dgOK n g w) : dgOK n (cpF g f n) w := fun k hk => (if_pos hk).trans (h k hk)
set_option maxHeartbeats 4000000 in
set_option maxRecDepth 100000 in
theorem lp_X10_scoreOf_4 (l : Launch) (D : va_G) (cI cJ cZ : ClassId) (bx : Nat) (b0 : Nat) (b1 : Nat) (b2 : Nat) (b3 : Nat) (b4 : Nat) (b5 : Nat) (b6 : Nat) (b7 : Nat) (b8 : Nat) (b9 : Nat) (b10 : Nat) (b11 : Nat) (b12 : Nat) (b13 : Nat) (b14 : Nat) (b15 : Nat) (b16 : Nat) (b17 : Nat) (b18 : Nat) (b19 : Nat) (b20 : Nat) (b21 : Nat) (b22 : Nat) (b23 : Nat) (b24 : Nat) (b25 : Nat) (b26 : Nat) (b27 : Nat) (b28 : Nat) (b29 : Nat) (b30 : Nat) (b31 : Nat) (b32 : Nat) (th : Int32) (n : Nat) (nm : Nat) (nk : Nat) (nd : Nat) (ng : Nat) (be : Int32) (bl : Int32) (pe : Int32) (nn : Nat) (tc : Nat) (ncc : Nat) (mk : Int64) (fd : Int32) (bs : Int32) (ps : Nat) (sn : Int32) (kt : Int32) (bh : Int32) (wt : Nat → Int32) (bw : Nat → Int32) (w : Int64) (hn : n ≤ 10) (hd_ : dgOK n bw w)   {p : Program} {e : Env} {s : State} {m : MethodId} {below : List Frame} {meth : Method} {c : Code} {A : Nat → Prop} {Q : State → Prop} (C : Cx D cI cJ cZ p s m ([.ref bx] : List Value).toArray meth c yX10_scoreOf cX10_scoreOf 3 (some .int)) (hQ : QOK Q below s ([.ref bx] : List Value).toArray D A (fun r W => r = some (.int (f_score wt w n)) ∧ W = [(bx, .inr (11, [.int th, .int (nI n), .ref b0, .ref b1, .ref b2, .int (nI nm), .ref b3, .ref b4, .ref b5, .ref b6, .ref b7, .ref b8, .ref b9, .ref b10, .ref b11, .ref b12, .int (nI nk), .ref b13, .ref b14, .ref b15, .int (nI nd), .int (nI ng), .ref b16, .ref b17, .ref b18, .ref b19, .int be, .int bl, .ref b20, .int pe, .int (nI nn), .ref b21, .ref b22, .ref b23, .ref b24, .ref b25, .ref b26, .ref b27, .ref b28, .ref b29, .int (nI tc), .ref b30, .int (nI ncc), .long mk, .int fd, .int bs, .int (nI ps), .ref b31, .ref b32, .int sn, .int kt, .int bh])), (b2, .inl (cI, 10, .inl wt)), (b19, .inl (cI, 10, .inl bw))]) 0 0) (hA : ∀ q, s.heap.size ≤ q → A q) : ∀ (ku : Nat) (i : Nat) (acc : Int32) (hi : i ≤ n) (ha : acc = f_score wt w i), (n - i) < ku → ∀ (H : Heap) (locs : List Loc) (ls : Array Slot), va_P D vwCl [(bx, .inr (11, [.int th, .int (nI n), .ref b0, .ref b1, .ref b2, .int (nI nm), .ref b3, .ref b4, .ref b5, .ref b6, .ref b7, .ref b8, .ref b9, .ref b10, .ref b11, .ref b12, .int (nI nk), .ref b13, .ref b14, .ref b15, .int (nI nd), .int (nI ng), .ref b16, .ref b17, .ref b18, .ref b19, .int be, .int bl, .ref b20, .int pe, .int (nI nn), .ref b21, .ref b22, .ref b23, .ref b24, .ref b25, .ref b26, .ref b27, .ref b28, .ref b29, .int (nI tc), .ref b30, .int (nI ncc), .long mk, .int fd, .int bs, .int (nI ps), .ref b31, .ref b32, .int sn, .int kt, .int bh])), (b2, .inl (cI, 10, .inl wt)), (b19, .inl (cI, 10, .inl bw))] H → va_D A [(bx, .inr (11, [.int th, .int (nI n), .ref b0, .ref b1, .ref b2, .int (nI nm), .ref b3, .ref b4, .ref b5, .ref b6, .ref b7, .ref b8, .ref b9, .ref b10, .ref b11, .ref b12, .int (nI nk), .ref b13, .ref b14, .ref b15, .int (nI nd), .int (nI ng), .ref b16, .ref b17, .ref b18, .ref b19, .int be, .int bl, .ref b20, .int pe, .int (nI nn), .ref b21, .ref b22, .ref b23, .ref b24, .ref b25, .ref b26, .ref b27, .ref b28, .ref b29, .int (nI tc), .ref b30, .int (nI ncc), .long mk, .int fd, .int bs, .int (nI ps), .ref b31, .ref b32, .int sn, .int kt, .int bh])), (b2, .inl (cI, 10, .inl wt)), (b19, .inl (cI, 10, .inl bw))] → va_S A s.heap H locs → lv_has ls 3 [(0, .ref bx), (1, .int acc), (2, .int (nI i))] → W p l e ({ frames := 0, cells := 0, slots := 0, locals := 0 } : Room) s m ([.ref bx] : List Value).toArray below meth c H locs 0 0 Q (F0 m 4 ls []) := by
  obtain ⟨hx, hb, hr, hml, hts, hown, hlk, hnm, hK, hN⟩ := id C
  intro ku
  induction ku with
  | zero =>
    intro i acc hi ha hku
    exact absurd hku (Nat.not_lt_zero _)
  | succ ku ih =>
    intro i acc hi ha hku H locs ls hP hD hS hl
    refine lv_iload_n hx hb dX10_scoreOf_4 rfl (lv_at hl 2 rfl) ?_
    refine lv_aload_n hx hb dX10_scoreOf_5 rfl (lv_at hl 0 rfl) ?_
    refine r_get (v := .int (nI n)) C hP okX10 0 1 rfl (by decide) fl_X10_115 rfl rfl dX10_scoreOf_6 ?_
    refine lv_icmp_ge (tgt := 34) hx hb dX10_scoreOf_9 (by decide) (fun c_9 => ?_) (fun c_9 => ?_)
    · -- taken 9
      have c_9 : n ≤ i := (nI_leI (a := n) (b := i) (by omega) (by omega)).mp c_9
      refine lv_iload_n hx hb dX10_scoreOf_34 rfl (lv_at hl 1 rfl) ?_
      exact rt_i C hQ (hP.sub (ws' := [(bx, .inr (11, [.int th, .int (nI n), .ref b0, .ref b1, .ref b2, .int (nI nm), .ref b3, .ref b4, .ref b5, .ref b6, .ref b7, .ref b8, .ref b9, .ref b10, .ref b11, .ref b12, .int (nI nk), .ref b13, .ref b14, .ref b15, .int (nI nd), .int (nI ng), .ref b16, .ref b17, .ref b18, .ref b19, .int be, .int bl, .ref b20, .int pe, .int (nI nn), .ref b21, .ref b22, .ref b23, .ref b24, .ref b25, .ref b26, .ref b27, .ref b28, .ref b29, .int (nI tc), .ref b30, .int (nI ncc), .long mk, .int fd, .int bs, .int (nI ps), .ref b31, .ref b32, .int sn, .int kt, .int bh])), (b2, .inl (cI, 10, .inl wt)), (b19, .inl (cI, 10, .inl bw))]) [0, 1, 2] rfl) (hD.sub [0, 1, 2] (by decide) rfl) hS ⟨by rw [ha, show i = n by omega], rfl⟩ (by decide) (by decide) dX10_scoreOf_35
    · -- not taken 9
      have c_9 : ¬ (n ≤ i) := fun z => c_9 ((nI_leI (a := n) (b := i) (by omega) (by omega)).mpr z)
      refine lv_iload_n hx hb dX10_scoreOf_12 rfl (lv_at hl 1 rfl) ?_
      refine lv_aload_n hx hb dX10_scoreOf_13 rfl (lv_at hl 0 rfl) ?_
      refine r_get (v := .ref b19) C hP okX10 0 25 rfl (by decide) fl_X10_68 rfl rfl dX10_scoreOf_14 ?_
      refine lv_iload_n hx hb dX10_scoreOf_17 rfl (lv_at hl 2 rfl) ?_
      refine r_iald (j := i) C hP 2 rfl (by omega) (by decide) dX10_scoreOf_18 ?_
      refine lv_aload_n hx hb dX10_scoreOf_19 rfl (lv_at hl 0 rfl) ?_
      refine r_get (v := .ref b2) C hP okX10 0 4 rfl (by decide) fl_X10_17 rfl rfl dX10_scoreOf_20 ?_
      refine lv_iload_n hx hb dX10_scoreOf_23 rfl (lv_at hl 2 rfl) ?_
      refine r_iald (j := i) C hP 1 rfl (by omega) (by decide) dX10_scoreOf_24 ?_
      refine lv_imul hx hb dX10_scoreOf_25 ?_
      refine lv_iadd hx hb dX10_scoreOf_26 ?_
      refine lv_istore_n (lv' := [(1, .int (acc + ((bw i) * (wt i)))), (0, .ref bx), (2, .int (nI i))]) hx hb dX10_scoreOf_27 rfl hl (by decide) rfl (fun ls hl => ?_)
      refine lv_iinc (v := nI (i + 1)) (lv' := [(2, .int (nI (i + 1))), (1, .int (acc + ((bw i) * (wt i)))), (0, .ref bx)]) hx hb dX10_scoreOf_28 hl (k := 2) rfl (nI_1 _) (by decide) rfl (fun ls hl => ?_)
      refine lv_goto (tgt := 4) hx hb dX10_scoreOf_31 (by decide) ?_
      exact ih (i + 1) (acc + ((bw i) * (wt i))) (by omega) (by rw [ha, hd_ i (by omega)]; rfl) (by omega) _ _ _ (hP.sub [0, 1, 2] rfl) (hD.sub [0, 1, 2] (by decide) rfl) hS (lv_sub hl [2, 1, 0] rfl)
set_option maxHeartbeats 4000000 in
set_option maxRecDepth 100000 in
theorem c_X10_scoreOf (l : Launch) (D : va_G) (cI cJ cZ : ClassId) (bx : Nat) (b0 : Nat) (b1 : Nat) (b2 : Nat) (b3 : Nat) (b4 : Nat) (b5 : Nat) (b6 : Nat) (b7 : Nat) (b8 : Nat) (b9 : Nat) (b10 : Nat) (b11 : Nat) (b12 : Nat) (b13 : Nat) (b14 : Nat) (b15 : Nat) (b16 : Nat) (b17 : Nat) (b18 : Nat) (b19 : Nat) (b20 : Nat) (b21 : Nat) (b22 : Nat) (b23 : Nat) (b24 : Nat) (b25 : Nat) (b26 : Nat) (b27 : Nat) (b28 : Nat) (b29 : Nat) (b30 : Nat) (b31 : Nat) (b32 : Nat) (th : Int32) (n : Nat) (nm : Nat) (nk : Nat) (nd : Nat) (ng : Nat) (be : Int32) (bl : Int32) (pe : Int32) (nn : Nat) (tc : Nat) (ncc : Nat) (mk : Int64) (fd : Int32) (bs : Int32) (ps : Nat) (sn : Int32) (kt : Int32) (bh : Int32) (wt : Nat → Int32) (bw : Nat → Int32) (w : Int64) (hn : n ≤ 10) (hd_ : dgOK n bw w) : Ctr l D cI cJ cZ yX10_scoreOf cX10_scoreOf 3 (some .int) ({ frames := 0, cells := 0, slots := 0, locals := 0 } : Room) [.ref bx] [(bx, .inr (11, [.int th, .int (nI n), .ref b0, .ref b1, .ref b2, .int (nI nm), .ref b3, .ref b4, .ref b5, .ref b6, .ref b7, .ref b8, .ref b9, .ref b10, .ref b11, .ref b12, .int (nI nk), .ref b13, .ref b14, .ref b15, .int (nI nd), .int (nI ng), .ref b16, .ref b17, .ref b18, .ref b19, .int be, .int bl, .ref b20, .int pe, .int (nI nn), .ref b21, .ref b22, .ref b23, .ref b24, .ref b25, .ref b26, .ref b27, .ref b28, .ref b29, .int (nI tc), .ref b30, .int (nI ncc), .long mk, .int fd, .int bs, .int (nI ps), .ref b31, .ref b32, .int sn, .int kt, .int bh])), (b2, .inl (cI, 10, .inl wt)), (b19, .inl (cI, 10, .inl bw))] (fun r W => r = some (.int (f_score wt w n)) ∧ W = [(bx, .inr (11, [.int th, .int (nI n), .ref b0, .ref b1, .ref b2, .int (nI nm), .ref b3, .ref b4, .ref b5, .ref b6, .ref b7, .ref b8, .ref b9, .ref b10, .ref b11, .ref b12, .int (nI nk), .ref b13, .ref b14, .ref b15, .int (nI nd), .int (nI ng), .ref b16, .ref b17, .ref b18, .ref b19, .int be, .int bl, .ref b20, .int pe, .int (nI nn), .ref b21, .ref b22, .ref b23, .ref b24, .ref b25, .ref b26, .ref b27, .ref b28, .ref b29, .int (nI tc), .ref b30, .int (nI ncc), .long mk, .int fd, .int bs, .int (nI ps), .ref b31, .ref b32, .int sn, .int kt, .int bh])), (b2, .inl (cI, 10, .inl wt)), (b19, .inl (cI, 10, .inl bw))]) := by
  refine Ctr.start (by decide +kernel) (Nat.le_of_ble_eq_true rfl) ?_
  intro p e s m below meth c A Q ls H C hQ hA hP hD hS hl
  obtain ⟨hx, hb, hr, hml, hts, hown, hlk, hnm, hK, hN⟩ := id C
  have hl : lv_has ls 3 [(0, .ref bx)] := hl
  refine lv_iconst (v := 0) hx hb dX10_scoreOf_0 (by decide) ?_
  refine lv_istore_n (lv' := [(1, .int 0), (0, .ref bx)]) hx hb dX10_scoreOf_1 rfl hl (by decide) rfl (fun ls hl => ?_)
  refine lv_iconst (v := 0) hx hb dX10_scoreOf_2 (by decide) ?_
  refine lv_istore_n (lv' := [(2, .int 0), (1, .int 0), (0, .ref bx)]) hx hb dX10_scoreOf_3 rfl hl (by decide) rfl (fun ls hl => ?_)
  exact lp_X10_scoreOf_4 l D cI cJ cZ bx b0 b1 b2 b3 b4 b5 b6 b7 b8 b9 b10 b11 b12 b13 b14 b15 b16 b17 b18 b19 b20 b21 b22 b23 b24 b25 b26 b27 b28 b29 b30 b31 b32 th n nm nk nd ng be bl pe nn tc ncc mk fd bs ps sn kt bh wt bw w hn hd_   C hQ hA _ 0 0 (by omega) rfl (Nat.lt_succ_self _) _ _ _ (hP.sub [0, 1, 2] rfl) (hD.sub [0, 1, 2] (by decide) rfl) hS (lv_sub hl [2, 1, 0] rfl)
set_option maxHeartbeats 4000000 in
set_option maxRecDepth 100000 in
theorem lp_X10_canMove_18 (l : Launch) (D : va_G) (cI cJ cZ : ClassId) (bx : Nat) (b0 : Nat) (b1 : Nat) (b2 : Nat) (b3 : Nat) (b4 : Nat) (b5 : Nat) (b6 : Nat) (b7 : Nat) (b8 : Nat) (b9 : Nat) (b10 : Nat) (b11 : Nat) (b12 : Nat) (b13 : Nat) (b14 : Nat) (b15 : Nat) (b16 : Nat) (b17 : Nat) (b18 : Nat) (b19 : Nat) (b20 : Nat) (b21 : Nat) (b22 : Nat) (b23 : Nat) (b24 : Nat) (b25 : Nat) (b26 : Nat) (b27 : Nat) (b28 : Nat) (b29 : Nat) (b30 : Nat) (b31 : Nat) (b32 : Nat) (th : Int32) (n : Nat) (nm : Nat) (nk : Nat) (nd : Nat) (ng : Nat) (be : Int32) (bl : Int32) (pe : Int32) (nn : Nat) (tc : Nat) (ncc : Nat) (mk : Int64) (fd : Int32) (bs : Int32) (ps : Nat) (sn : Int32) (kt : Int32) (bh : Int32) (mcn : Nat → Nat) (mcl : Nat → Nat) (mcr : Nat → Int32) (mcv : Nat → Int32) (bw : Nat → Int32) (w : Int64) (m0 : Nat) (hn : n ≤ 10) (hd_ : dgOK n bw w) (hm0 : m0 < 24) (hc6 : mcn m0 ≤ 6) (hcl : ∀ j, j < mcn m0 → mcl (6 * m0 + j) < n)   {p : Program} {e : Env} {s : State} {m : MethodId} {below : List Frame} {meth : Method} {c : Code} {A : Nat → Prop} {Q : State → Prop} (C : Cx D cI cJ cZ p s m ([.ref bx, .int (nI m0)] : List Value).toArray meth c yX10_canMove cX10_canMove 6 (some .boolean)) (hQ : QOK Q below s ([.ref bx, .int (nI m0)] : List Value).toArray D A (fun r W => ((r = some (.int 1) ∧ (f_canW be (dgs w) mcl mcr mcv (m0 * 6) (mcn m0) = true)) ∨ (r = some (.int 0) ∧ ¬ (f_canW be (dgs w) mcl mcr mcv (m0 * 6) (mcn m0) = true))) ∧ W = [(bx, .inr (11, [.int th, .int (nI n), .ref b0, .ref b1, .ref b2, .int (nI nm), .ref b3, .ref b4, .ref b5, .ref b6, .ref b7, .ref b8, .ref b9, .ref b10, .ref b11, .ref b12, .int (nI nk), .ref b13, .ref b14, .ref b15, .int (nI nd), .int (nI ng), .ref b16, .ref b17, .ref b18, .ref b19, .int be, .int bl, .ref b20, .int pe, .int (nI nn), .ref b21, .ref b22, .ref b23, .ref b24, .ref b25, .ref b26, .ref b27, .ref b28, .ref b29, .int (nI tc), .ref b30, .int (nI ncc), .long mk, .int fd, .int bs, .int (nI ps), .ref b31, .ref b32, .int sn, .int kt, .int bh])), (b3, .inl (cI, 24, .inl (nF mcn))), (b4, .inl (cI, 144, .inl (nF mcl))), (b5, .inl (cI, 144, .inl mcr)), (b6, .inl (cI, 144, .inl mcv)), (b19, .inl (cI, 10, .inl bw))]) 0 0) (hA : ∀ q, s.heap.size ≤ q → A q) : ∀ (ku : Nat) (i : Nat) (cb : Bool) (hi : i ≤ mcn m0) (hcb : cb = f_canW be (dgs w) mcl mcr mcv (m0 * 6) i), (mcn m0 - i) < ku → ∀ (H : Heap) (locs : List Loc) (ls : Array Slot), va_P D vwCl [(bx, .inr (11, [.int th, .int (nI n), .ref b0, .ref b1, .ref b2, .int (nI nm), .ref b3, .ref b4, .ref b5, .ref b6, .ref b7, .ref b8, .ref b9, .ref b10, .ref b11, .ref b12, .int (nI nk), .ref b13, .ref b14, .ref b15, .int (nI nd), .int (nI ng), .ref b16, .ref b17, .ref b18, .ref b19, .int be, .int bl, .ref b20, .int pe, .int (nI nn), .ref b21, .ref b22, .ref b23, .ref b24, .ref b25, .ref b26, .ref b27, .ref b28, .ref b29, .int (nI tc), .ref b30, .int (nI ncc), .long mk, .int fd, .int bs, .int (nI ps), .ref b31, .ref b32, .int sn, .int kt, .int bh])), (b3, .inl (cI, 24, .inl (nF mcn))), (b4, .inl (cI, 144, .inl (nF mcl))), (b5, .inl (cI, 144, .inl mcr)), (b6, .inl (cI, 144, .inl mcv)), (b19, .inl (cI, 10, .inl bw))] H → va_D A [(bx, .inr (11, [.int th, .int (nI n), .ref b0, .ref b1, .ref b2, .int (nI nm), .ref b3, .ref b4, .ref b5, .ref b6, .ref b7, .ref b8, .ref b9, .ref b10, .ref b11, .ref b12, .int (nI nk), .ref b13, .ref b14, .ref b15, .int (nI nd), .int (nI ng), .ref b16, .ref b17, .ref b18, .ref b19, .int be, .int bl, .ref b20, .int pe, .int (nI nn), .ref b21, .ref b22, .ref b23, .ref b24, .ref b25, .ref b26, .ref b27, .ref b28, .ref b29, .int (nI tc), .ref b30, .int (nI ncc), .long mk, .int fd, .int bs, .int (nI ps), .ref b31, .ref b32, .int sn, .int kt, .int bh])), (b3, .inl (cI, 24, .inl (nF mcn))), (b4, .inl (cI, 144, .inl (nF mcl))), (b5, .inl (cI, 144, .inl mcr)), (b6, .inl (cI, 144, .inl mcv)), (b19, .inl (cI, 10, .inl bw))] → va_S A s.heap H locs → lv_has ls 6 [(0, .ref bx), (1, .int (nI m0)), (2, .int (b2i cb)), (3, .int (nI (6 * m0 + i)))] → W p l e ({ frames := 0, cells := 0, slots := 0, locals := 0 } : Room) s m ([.ref bx, .int (nI m0)] : List Value).toArray below meth c H locs 0 0 Q (F0 m 18 ls []) := by
  obtain ⟨hx, hb, hr, hml, hts, hown, hlk, hnm, hK, hN⟩ := id C
  intro ku
  induction ku with
  | zero =>
    intro i cb hi hcb hku
    exact absurd hku (Nat.not_lt_zero _)
  | succ ku ih =>
    intro i cb hi hcb hku H locs ls hP hD hS hl
    refine lv_iload_n hx hb dX10_canMove_18 rfl (lv_at hl 3 rfl) ?_
    refine lv_bipush (v := 6) hx hb dX10_canMove_19 (by decide) ?_
    refine lv_iload_n hx hb dX10_canMove_21 rfl (lv_at hl 1 rfl) ?_
    refine lv_imul hx hb dX10_canMove_22 ?_
    refine r_top (x' := nI (6 * m0)) (pk_mul 6 m0) ?_
    refine lv_aload_n hx hb dX10_canMove_23 rfl (lv_at hl 0 rfl) ?_
    refine r_get (v := .ref b3) C hP okX10 0 6 rfl (by decide) fl_X10_20 rfl rfl dX10_canMove_24 ?_
    refine lv_iload_n hx hb dX10_canMove_27 rfl (lv_at hl 1 rfl) ?_
    refine r_iald (j := m0) C hP 1 rfl (by omega) (by decide) dX10_canMove_28 ?_
    refine r_top (x' := nI (mcn m0)) rfl ?_
    refine lv_iadd hx hb dX10_canMove_29 ?_
    refine r_top (x' := nI ((6 * m0) + (mcn m0))) (nI_add (6 * m0) (mcn m0)) ?_
    refine lv_icmp_ge (tgt := 151) hx hb dX10_canMove_30 (by decide) (fun c_30 => ?_) (fun c_30 => ?_)
    · -- taken 30
      have c_30 : (6 * m0) + (mcn m0) ≤ 6 * m0 + i := (nI_leI (a := (6 * m0) + (mcn m0)) (b := 6 * m0 + i) (by omega) (by omega)).mp c_30
      cases cb with
      | false =>
        refine lv_iload_n hx hb dX10_canMove_151 rfl (lv_at hl 2 rfl) ?_
        refine r_top (x' := 0) rfl ?_
        exact rt_z C hQ (by decide) (hP.sub (ws' := [(bx, .inr (11, [.int th, .int (nI n), .ref b0, .ref b1, .ref b2, .int (nI nm), .ref b3, .ref b4, .ref b5, .ref b6, .ref b7, .ref b8, .ref b9, .ref b10, .ref b11, .ref b12, .int (nI nk), .ref b13, .ref b14, .ref b15, .int (nI nd), .int (nI ng), .ref b16, .ref b17, .ref b18, .ref b19, .int be, .int bl, .ref b20, .int pe, .int (nI nn), .ref b21, .ref b22, .ref b23, .ref b24, .ref b25, .ref b26, .ref b27, .ref b28, .ref b29, .int (nI tc), .ref b30, .int (nI ncc), .long mk, .int fd, .int bs, .int (nI ps), .ref b31, .ref b32, .int sn, .int kt, .int bh])), (b3, .inl (cI, 24, .inl (nF mcn))), (b4, .inl (cI, 144, .inl (nF mcl))), (b5, .inl (cI, 144, .inl mcr)), (b6, .inl (cI, 144, .inl mcv)), (b19, .inl (cI, 10, .inl bw))]) [0, 1, 2, 3, 4, 5] rfl) (hD.sub [0, 1, 2, 3, 4, 5] (by decide) rfl) hS ⟨Or.inr ⟨rfl, by have z := f_canW_no hcb.symm (mcn m0 - i); rw [show i + (mcn m0 - i) = mcn m0 by omega] at z; rw [z]; decide⟩, rfl⟩ (by decide) (by decide) dX10_canMove_152
      | true =>
        refine lv_iload_n hx hb dX10_canMove_151 rfl (lv_at hl 2 rfl) ?_
        refine r_top (x' := 1) rfl ?_
        exact rt_z C hQ (by decide) (hP.sub (ws' := [(bx, .inr (11, [.int th, .int (nI n), .ref b0, .ref b1, .ref b2, .int (nI nm), .ref b3, .ref b4, .ref b5, .ref b6, .ref b7, .ref b8, .ref b9, .ref b10, .ref b11, .ref b12, .int (nI nk), .ref b13, .ref b14, .ref b15, .int (nI nd), .int (nI ng), .ref b16, .ref b17, .ref b18, .ref b19, .int be, .int bl, .ref b20, .int pe, .int (nI nn), .ref b21, .ref b22, .ref b23, .ref b24, .ref b25, .ref b26, .ref b27, .ref b28, .ref b29, .int (nI tc), .ref b30, .int (nI ncc), .long mk, .int fd, .int bs, .int (nI ps), .ref b31, .ref b32, .int sn, .int kt, .int bh])), (b3, .inl (cI, 24, .inl (nF mcn))), (b4, .inl (cI, 144, .inl (nF mcl))), (b5, .inl (cI, 144, .inl mcr)), (b6, .inl (cI, 144, .inl mcv)), (b19, .inl (cI, 10, .inl bw))]) [0, 1, 2, 3, 4, 5] rfl) (hD.sub [0, 1, 2, 3, 4, 5] (by decide) rfl) hS ⟨Or.inl ⟨rfl, by rw [show mcn m0 = i by omega]; exact hcb.symm⟩, rfl⟩ (by decide) (by decide) dX10_canMove_152
    · -- not taken 30
      have c_30 : ¬ ((6 * m0) + (mcn m0) ≤ 6 * m0 + i) := fun z => c_30 ((nI_leI (a := (6 * m0) + (mcn m0)) (b := 6 * m0 + i) (by omega) (by omega)).mpr z)
      refine lv_iload_n hx hb dX10_canMove_33 rfl (lv_at hl 2 rfl) ?_
      refine lv_if_eq (tgt := 151) hx hb dX10_canMove_34 (by decide) (fun c_34 => ?_) (fun c_34 => ?_)
      · -- taken 34
        obtain rfl : cb = false := by cases cb with | false => rfl | true => exact absurd c_34 (by decide)
        refine lv_iload_n hx hb dX10_canMove_151 rfl (lv_at hl 2 rfl) ?_
        refine r_top (x' := 0) rfl ?_
        exact rt_z C hQ (by decide) (hP.sub (ws' := [(bx, .inr (11, [.int th, .int (nI n), .ref b0, .ref b1, .ref b2, .int (nI nm), .ref b3, .ref b4, .ref b5, .ref b6, .ref b7, .ref b8, .ref b9, .ref b10, .ref b11, .ref b12, .int (nI nk), .ref b13, .ref b14, .ref b15, .int (nI nd), .int (nI ng), .ref b16, .ref b17, .ref b18, .ref b19, .int be, .int bl, .ref b20, .int pe, .int (nI nn), .ref b21, .ref b22, .ref b23, .ref b24, .ref b25, .ref b26, .ref b27, .ref b28, .ref b29, .int (nI tc), .ref b30, .int (nI ncc), .long mk, .int fd, .int bs, .int (nI ps), .ref b31, .ref b32, .int sn, .int kt, .int bh])), (b3, .inl (cI, 24, .inl (nF mcn))), (b4, .inl (cI, 144, .inl (nF mcl))), (b5, .inl (cI, 144, .inl mcr)), (b6, .inl (cI, 144, .inl mcv)), (b19, .inl (cI, 10, .inl bw))]) [0, 1, 2, 3, 4, 5] rfl) (hD.sub [0, 1, 2, 3, 4, 5] (by decide) rfl) hS ⟨Or.inr ⟨rfl, by have z := f_canW_no hcb.symm (mcn m0 - i); rw [show i + (mcn m0 - i) = mcn m0 by omega] at z; rw [z]; decide⟩, rfl⟩ (by decide) (by decide) dX10_canMove_152
      · -- not taken 34
        obtain rfl : cb = true := by cases cb with | false => exact absurd rfl c_34 | true => rfl
        have hc9 := hcl i (by omega)
        refine lv_aload_n hx hb dX10_canMove_37 rfl (lv_at hl 0 rfl) ?_
        refine r_get (v := .ref b19) C hP okX10 0 25 rfl (by decide) fl_X10_68 rfl rfl dX10_canMove_38 ?_
        refine lv_aload_n hx hb dX10_canMove_41 rfl (lv_at hl 0 rfl) ?_
        refine r_get (v := .ref b4) C hP okX10 0 7 rfl (by decide) fl_X10_23 rfl rfl dX10_canMove_42 ?_
        refine lv_iload_n hx hb dX10_canMove_45 rfl (lv_at hl 3 rfl) ?_
        refine r_iald (j := 6 * m0 + i) C hP 2 rfl (by omega) (by decide) dX10_canMove_46 ?_
        refine r_top (x' := nI (mcl (6 * m0 + i))) rfl ?_
        refine r_iald (j := mcl (6 * m0 + i)) C hP 5 rfl (by omega) (by decide) dX10_canMove_47 ?_
        refine lv_istore (lv' := [(4, .int (bw (mcl (6 * m0 + i)))), (0, .ref bx), (1, .int (nI m0)), (2, .int (b2i true)), (3, .int (nI (6 * m0 + i)))]) hx hb dX10_canMove_48 hl (by decide) rfl (fun ls hl => ?_)
        refine lv_aload_n hx hb dX10_canMove_50 rfl (lv_at hl 1 rfl) ?_
        refine r_get (v := .ref b6) C hP okX10 0 9 rfl (by decide) fl_X10_29 rfl rfl dX10_canMove_51 ?_
        refine lv_iload_n hx hb dX10_canMove_54 rfl (lv_at hl 4 rfl) ?_
        refine r_iald (j := 6 * m0 + i) C hP 4 rfl (by omega) (by decide) dX10_canMove_55 ?_
        refine lv_istore (lv' := [(5, .int (mcv (6 * m0 + i))), (4, .int (bw (mcl (6 * m0 + i)))), (0, .ref bx), (1, .int (nI m0)), (2, .int (b2i true)), (3, .int (nI (6 * m0 + i)))]) hx hb dX10_canMove_56 hl (by decide) rfl (fun ls hl => ?_)
        refine lv_aload_n hx hb dX10_canMove_58 rfl (lv_at hl 2 rfl) ?_
        refine r_get (v := .ref b5) C hP okX10 0 8 rfl (by decide) fl_X10_26 rfl rfl dX10_canMove_59 ?_
        refine lv_iload_n hx hb dX10_canMove_62 rfl (lv_at hl 5 rfl) ?_
        refine r_iald (j := 6 * m0 + i) C hP 3 rfl (by omega) (by decide) dX10_canMove_63 ?_
        refine lv_if_ne (tgt := 82) hx hb dX10_canMove_64 (by decide) (fun c_64 => ?_) (fun c_64 => ?_)
        · -- taken 64
          refine lv_aload_n hx hb dX10_canMove_82 rfl (lv_at hl 2 rfl) ?_
          refine r_get (v := .ref b5) C hP okX10 0 8 rfl (by decide) fl_X10_26 rfl rfl dX10_canMove_83 ?_
          refine lv_iload_n hx hb dX10_canMove_86 rfl (lv_at hl 5 rfl) ?_
          refine r_iald (j := 6 * m0 + i) C hP 3 rfl (by omega) (by decide) dX10_canMove_87 ?_
          refine lv_iconst (v := 1) hx hb dX10_canMove_88 (by decide) ?_
          refine lv_icmp_ne (tgt := 107) hx hb dX10_canMove_89 (by decide) (fun c_89 => ?_) (fun c_89 => ?_)
          · -- taken 89
            refine lv_aload_n hx hb dX10_canMove_107 rfl (lv_at hl 2 rfl) ?_
            refine r_get (v := .ref b5) C hP okX10 0 8 rfl (by decide) fl_X10_26 rfl rfl dX10_canMove_108 ?_
            refine lv_iload_n hx hb dX10_canMove_111 rfl (lv_at hl 5 rfl) ?_
            refine r_iald (j := 6 * m0 + i) C hP 3 rfl (by omega) (by decide) dX10_canMove_112 ?_
            refine lv_iconst (v := 2) hx hb dX10_canMove_113 (by decide) ?_
            refine lv_icmp_ne (tgt := 132) hx hb dX10_canMove_114 (by decide) (fun c_114 => ?_) (fun c_114 => ?_)
            · -- taken 114
              refine lv_iload hx hb dX10_canMove_132 (lv_at hl 1 rfl) ?_
              refine lv_iload hx hb dX10_canMove_134 (lv_at hl 0 rfl) ?_
              refine lv_icmp_le (tgt := 143) hx hb dX10_canMove_136 (by decide) (fun c_136 => ?_) (fun c_136 => ?_)
              · -- taken 136
                refine lv_iconst (v := 0) hx hb dX10_canMove_143 (by decide) ?_
                refine lv_istore_n (lv' := [(2, .int 0), (5, .int (mcv (6 * m0 + i))), (4, .int (bw (mcl (6 * m0 + i)))), (0, .ref bx), (1, .int (nI m0)), (3, .int (nI (6 * m0 + i)))]) hx hb dX10_canMove_144 rfl hl (by decide) rfl (fun ls hl => ?_)
                have hh : f_holds (bw (mcl (6 * m0 + i))) (mcr (6 * m0 + i)) (mcv (6 * m0 + i)) = false := by simp only [f_holds]; rw [if_neg c_64, if_neg c_89, if_neg c_114]; simpa using c_136
                refine lv_iinc (v := nI (6 * m0 + i + 1)) (lv' := [(3, .int (nI (6 * m0 + i + 1))), (2, .int 0), (5, .int (mcv (6 * m0 + i))), (4, .int (bw (mcl (6 * m0 + i)))), (0, .ref bx), (1, .int (nI m0))]) hx hb dX10_canMove_145 hl (k := 5) rfl (nI_1 _) (by decide) rfl (fun ls hl => ?_)
                refine lv_goto (tgt := 18) hx hb dX10_canMove_148 (by decide) ?_
                exact ih (i + 1) false (by omega) (by rw [f_canW_s, ← hcb, Nat.mul_comm m0 6, ← hd_ _ (hcl i (by omega)), hh]; rfl) (by omega) _ _ _ (hP.sub [0, 1, 2, 3, 4, 5] rfl) (hD.sub [0, 1, 2, 3, 4, 5] (by decide) rfl) hS (lv_sub hl [4, 5, 1, 0] rfl)
              · -- not taken 136
                refine lv_iconst (v := 1) hx hb dX10_canMove_139 (by decide) ?_
                refine lv_goto (tgt := 144) hx hb dX10_canMove_140 (by decide) ?_
                refine lv_istore_n (lv' := [(2, .int 1), (5, .int (mcv (6 * m0 + i))), (4, .int (bw (mcl (6 * m0 + i)))), (0, .ref bx), (1, .int (nI m0)), (3, .int (nI (6 * m0 + i)))]) hx hb dX10_canMove_144 rfl hl (by decide) rfl (fun ls hl => ?_)
                have hh : f_holds (bw (mcl (6 * m0 + i))) (mcr (6 * m0 + i)) (mcv (6 * m0 + i)) = true := by simp only [f_holds]; rw [if_neg c_64, if_neg c_89, if_neg c_114]; simpa using Int32.not_le.mp c_136
                refine lv_iinc (v := nI (6 * m0 + i + 1)) (lv' := [(3, .int (nI (6 * m0 + i + 1))), (2, .int 1), (5, .int (mcv (6 * m0 + i))), (4, .int (bw (mcl (6 * m0 + i)))), (0, .ref bx), (1, .int (nI m0))]) hx hb dX10_canMove_145 hl (k := 5) rfl (nI_1 _) (by decide) rfl (fun ls hl => ?_)
                refine lv_goto (tgt := 18) hx hb dX10_canMove_148 (by decide) ?_
                exact ih (i + 1) true (by omega) (by rw [f_canW_s, ← hcb, Nat.mul_comm m0 6, ← hd_ _ (hcl i (by omega)), hh]; rfl) (by omega) _ _ _ (hP.sub [0, 1, 2, 3, 4, 5] rfl) (hD.sub [0, 1, 2, 3, 4, 5] (by decide) rfl) hS (lv_sub hl [4, 5, 1, 0] rfl)
            · -- not taken 114
              refine lv_iload hx hb dX10_canMove_117 (lv_at hl 1 rfl) ?_
              refine lv_iload hx hb dX10_canMove_119 (lv_at hl 0 rfl) ?_
              refine lv_icmp_ge (tgt := 128) hx hb dX10_canMove_121 (by decide) (fun c_121 => ?_) (fun c_121 => ?_)
              · -- taken 121
                refine lv_iconst (v := 0) hx hb dX10_canMove_128 (by decide) ?_
                refine lv_goto (tgt := 144) hx hb dX10_canMove_129 (by decide) ?_
                refine lv_istore_n (lv' := [(2, .int 0), (5, .int (mcv (6 * m0 + i))), (4, .int (bw (mcl (6 * m0 + i)))), (0, .ref bx), (1, .int (nI m0)), (3, .int (nI (6 * m0 + i)))]) hx hb dX10_canMove_144 rfl hl (by decide) rfl (fun ls hl => ?_)
                have hh : f_holds (bw (mcl (6 * m0 + i))) (mcr (6 * m0 + i)) (mcv (6 * m0 + i)) = false := by simp only [f_holds]; rw [if_neg c_64, if_neg c_89, if_pos c_114]; simpa using c_121
                refine lv_iinc (v := nI (6 * m0 + i + 1)) (lv' := [(3, .int (nI (6 * m0 + i + 1))), (2, .int 0), (5, .int (mcv (6 * m0 + i))), (4, .int (bw (mcl (6 * m0 + i)))), (0, .ref bx), (1, .int (nI m0))]) hx hb dX10_canMove_145 hl (k := 5) rfl (nI_1 _) (by decide) rfl (fun ls hl => ?_)
                refine lv_goto (tgt := 18) hx hb dX10_canMove_148 (by decide) ?_
                exact ih (i + 1) false (by omega) (by rw [f_canW_s, ← hcb, Nat.mul_comm m0 6, ← hd_ _ (hcl i (by omega)), hh]; rfl) (by omega) _ _ _ (hP.sub [0, 1, 2, 3, 4, 5] rfl) (hD.sub [0, 1, 2, 3, 4, 5] (by decide) rfl) hS (lv_sub hl [4, 5, 1, 0] rfl)
              · -- not taken 121
                refine lv_iconst (v := 1) hx hb dX10_canMove_124 (by decide) ?_
                refine lv_goto (tgt := 144) hx hb dX10_canMove_125 (by decide) ?_
                refine lv_istore_n (lv' := [(2, .int 1), (5, .int (mcv (6 * m0 + i))), (4, .int (bw (mcl (6 * m0 + i)))), (0, .ref bx), (1, .int (nI m0)), (3, .int (nI (6 * m0 + i)))]) hx hb dX10_canMove_144 rfl hl (by decide) rfl (fun ls hl => ?_)
                have hh : f_holds (bw (mcl (6 * m0 + i))) (mcr (6 * m0 + i)) (mcv (6 * m0 + i)) = true := by simp only [f_holds]; rw [if_neg c_64, if_neg c_89, if_pos c_114]; simpa using Int32.not_le.mp c_121
                refine lv_iinc (v := nI (6 * m0 + i + 1)) (lv' := [(3, .int (nI (6 * m0 + i + 1))), (2, .int 1), (5, .int (mcv (6 * m0 + i))), (4, .int (bw (mcl (6 * m0 + i)))), (0, .ref bx), (1, .int (nI m0))]) hx hb dX10_canMove_145 hl (k := 5) rfl (nI_1 _) (by decide) rfl (fun ls hl => ?_)
                refine lv_goto (tgt := 18) hx hb dX10_canMove_148 (by decide) ?_
                exact ih (i + 1) true (by omega) (by rw [f_canW_s, ← hcb, Nat.mul_comm m0 6, ← hd_ _ (hcl i (by omega)), hh]; rfl) (by omega) _ _ _ (hP.sub [0, 1, 2, 3, 4, 5] rfl) (hD.sub [0, 1, 2, 3, 4, 5] (by decide) rfl) hS (lv_sub hl [4, 5, 1, 0] rfl)
          · -- not taken 89
            refine lv_iload hx hb dX10_canMove_92 (lv_at hl 1 rfl) ?_
            refine lv_iload hx hb dX10_canMove_94 (lv_at hl 0 rfl) ?_
            refine lv_icmp_eq (tgt := 103) hx hb dX10_canMove_96 (by decide) (fun c_96 => ?_) (fun c_96 => ?_)
            · -- taken 96
              refine lv_iconst (v := 0) hx hb dX10_canMove_103 (by decide) ?_
              refine lv_goto (tgt := 144) hx hb dX10_canMove_104 (by decide) ?_
              refine lv_istore_n (lv' := [(2, .int 0), (5, .int (mcv (6 * m0 + i))), (4, .int (bw (mcl (6 * m0 + i)))), (0, .ref bx), (1, .int (nI m0)), (3, .int (nI (6 * m0 + i)))]) hx hb dX10_canMove_144 rfl hl (by decide) rfl (fun ls hl => ?_)
              have hh : f_holds (bw (mcl (6 * m0 + i))) (mcr (6 * m0 + i)) (mcv (6 * m0 + i)) = false := by simp only [f_holds]; rw [if_neg c_64, if_pos c_89]; simpa using c_96
              refine lv_iinc (v := nI (6 * m0 + i + 1)) (lv' := [(3, .int (nI (6 * m0 + i + 1))), (2, .int 0), (5, .int (mcv (6 * m0 + i))), (4, .int (bw (mcl (6 * m0 + i)))), (0, .ref bx), (1, .int (nI m0))]) hx hb dX10_canMove_145 hl (k := 5) rfl (nI_1 _) (by decide) rfl (fun ls hl => ?_)
              refine lv_goto (tgt := 18) hx hb dX10_canMove_148 (by decide) ?_
              exact ih (i + 1) false (by omega) (by rw [f_canW_s, ← hcb, Nat.mul_comm m0 6, ← hd_ _ (hcl i (by omega)), hh]; rfl) (by omega) _ _ _ (hP.sub [0, 1, 2, 3, 4, 5] rfl) (hD.sub [0, 1, 2, 3, 4, 5] (by decide) rfl) hS (lv_sub hl [4, 5, 1, 0] rfl)
            · -- not taken 96
              refine lv_iconst (v := 1) hx hb dX10_canMove_99 (by decide) ?_
              refine lv_goto (tgt := 144) hx hb dX10_canMove_100 (by decide) ?_
              refine lv_istore_n (lv' := [(2, .int 1), (5, .int (mcv (6 * m0 + i))), (4, .int (bw (mcl (6 * m0 + i)))), (0, .ref bx), (1, .int (nI m0)), (3, .int (nI (6 * m0 + i)))]) hx hb dX10_canMove_144 rfl hl (by decide) rfl (fun ls hl => ?_)
              have hh : f_holds (bw (mcl (6 * m0 + i))) (mcr (6 * m0 + i)) (mcv (6 * m0 + i)) = true := by simp only [f_holds]; rw [if_neg c_64, if_pos c_89]; simpa using c_96
              refine lv_iinc (v := nI (6 * m0 + i + 1)) (lv' := [(3, .int (nI (6 * m0 + i + 1))), (2, .int 1), (5, .int (mcv (6 * m0 + i))), (4, .int (bw (mcl (6 * m0 + i)))), (0, .ref bx), (1, .int (nI m0))]) hx hb dX10_canMove_145 hl (k := 5) rfl (nI_1 _) (by decide) rfl (fun ls hl => ?_)
              refine lv_goto (tgt := 18) hx hb dX10_canMove_148 (by decide) ?_
              exact ih (i + 1) true (by omega) (by rw [f_canW_s, ← hcb, Nat.mul_comm m0 6, ← hd_ _ (hcl i (by omega)), hh]; rfl) (by omega) _ _ _ (hP.sub [0, 1, 2, 3, 4, 5] rfl) (hD.sub [0, 1, 2, 3, 4, 5] (by decide) rfl) hS (lv_sub hl [4, 5, 1, 0] rfl)
        · -- not taken 64
          refine lv_iload hx hb dX10_canMove_67 (lv_at hl 1 rfl) ?_
          refine lv_iload hx hb dX10_canMove_69 (lv_at hl 0 rfl) ?_
          refine lv_icmp_ne (tgt := 78) hx hb dX10_canMove_71 (by decide) (fun c_71 => ?_) (fun c_71 => ?_)
          · -- taken 71
            refine lv_iconst (v := 0) hx hb dX10_canMove_78 (by decide) ?_
            refine lv_goto (tgt := 144) hx hb dX10_canMove_79 (by decide) ?_
            refine lv_istore_n (lv' := [(2, .int 0), (5, .int (mcv (6 * m0 + i))), (4, .int (bw (mcl (6 * m0 + i)))), (0, .ref bx), (1, .int (nI m0)), (3, .int (nI (6 * m0 + i)))]) hx hb dX10_canMove_144 rfl hl (by decide) rfl (fun ls hl => ?_)
            have hh : f_holds (bw (mcl (6 * m0 + i))) (mcr (6 * m0 + i)) (mcv (6 * m0 + i)) = false := by simp only [f_holds]; rw [if_pos c_64]; simpa using c_71
            refine lv_iinc (v := nI (6 * m0 + i + 1)) (lv' := [(3, .int (nI (6 * m0 + i + 1))), (2, .int 0), (5, .int (mcv (6 * m0 + i))), (4, .int (bw (mcl (6 * m0 + i)))), (0, .ref bx), (1, .int (nI m0))]) hx hb dX10_canMove_145 hl (k := 5) rfl (nI_1 _) (by decide) rfl (fun ls hl => ?_)
            refine lv_goto (tgt := 18) hx hb dX10_canMove_148 (by decide) ?_
            exact ih (i + 1) false (by omega) (by rw [f_canW_s, ← hcb, Nat.mul_comm m0 6, ← hd_ _ (hcl i (by omega)), hh]; rfl) (by omega) _ _ _ (hP.sub [0, 1, 2, 3, 4, 5] rfl) (hD.sub [0, 1, 2, 3, 4, 5] (by decide) rfl) hS (lv_sub hl [4, 5, 1, 0] rfl)
          · -- not taken 71
            refine lv_iconst (v := 1) hx hb dX10_canMove_74 (by decide) ?_
            refine lv_goto (tgt := 144) hx hb dX10_canMove_75 (by decide) ?_
            refine lv_istore_n (lv' := [(2, .int 1), (5, .int (mcv (6 * m0 + i))), (4, .int (bw (mcl (6 * m0 + i)))), (0, .ref bx), (1, .int (nI m0)), (3, .int (nI (6 * m0 + i)))]) hx hb dX10_canMove_144 rfl hl (by decide) rfl (fun ls hl => ?_)
            have hh : f_holds (bw (mcl (6 * m0 + i))) (mcr (6 * m0 + i)) (mcv (6 * m0 + i)) = true := by simp only [f_holds]; rw [if_pos c_64]; simpa using c_71
            refine lv_iinc (v := nI (6 * m0 + i + 1)) (lv' := [(3, .int (nI (6 * m0 + i + 1))), (2, .int 1), (5, .int (mcv (6 * m0 + i))), (4, .int (bw (mcl (6 * m0 + i)))), (0, .ref bx), (1, .int (nI m0))]) hx hb dX10_canMove_145 hl (k := 5) rfl (nI_1 _) (by decide) rfl (fun ls hl => ?_)
            refine lv_goto (tgt := 18) hx hb dX10_canMove_148 (by decide) ?_
            exact ih (i + 1) true (by omega) (by rw [f_canW_s, ← hcb, Nat.mul_comm m0 6, ← hd_ _ (hcl i (by omega)), hh]; rfl) (by omega) _ _ _ (hP.sub [0, 1, 2, 3, 4, 5] rfl) (hD.sub [0, 1, 2, 3, 4, 5] (by decide) rfl) hS (lv_sub hl [4, 5, 1, 0] rfl)
set_option maxHeartbeats 4000000 in
set_option maxRecDepth 100000 in
theorem c_X10_canMove (l : Launch) (D : va_G) (cI cJ cZ : ClassId) (bx : Nat) (b0 : Nat) (b1 : Nat) (b2 : Nat) (b3 : Nat) (b4 : Nat) (b5 : Nat) (b6 : Nat) (b7 : Nat) (b8 : Nat) (b9 : Nat) (b10 : Nat) (b11 : Nat) (b12 : Nat) (b13 : Nat) (b14 : Nat) (b15 : Nat) (b16 : Nat) (b17 : Nat) (b18 : Nat) (b19 : Nat) (b20 : Nat) (b21 : Nat) (b22 : Nat) (b23 : Nat) (b24 : Nat) (b25 : Nat) (b26 : Nat) (b27 : Nat) (b28 : Nat) (b29 : Nat) (b30 : Nat) (b31 : Nat) (b32 : Nat) (th : Int32) (n : Nat) (nm : Nat) (nk : Nat) (nd : Nat) (ng : Nat) (be : Int32) (bl : Int32) (pe : Int32) (nn : Nat) (tc : Nat) (ncc : Nat) (mk : Int64) (fd : Int32) (bs : Int32) (ps : Nat) (sn : Int32) (kt : Int32) (bh : Int32) (mcn : Nat → Nat) (mcl : Nat → Nat) (mcr : Nat → Int32) (mcv : Nat → Int32) (bw : Nat → Int32) (w : Int64) (m0 : Nat) (hn : n ≤ 10) (hd_ : dgOK n bw w) (hm0 : m0 < 24) (hc6 : mcn m0 ≤ 6) (hcl : ∀ j, j < mcn m0 → mcl (6 * m0 + j) < n) : Ctr l D cI cJ cZ yX10_canMove cX10_canMove 6 (some .boolean) ({ frames := 0, cells := 0, slots := 0, locals := 0 } : Room) [.ref bx, .int (nI m0)] [(bx, .inr (11, [.int th, .int (nI n), .ref b0, .ref b1, .ref b2, .int (nI nm), .ref b3, .ref b4, .ref b5, .ref b6, .ref b7, .ref b8, .ref b9, .ref b10, .ref b11, .ref b12, .int (nI nk), .ref b13, .ref b14, .ref b15, .int (nI nd), .int (nI ng), .ref b16, .ref b17, .ref b18, .ref b19, .int be, .int bl, .ref b20, .int pe, .int (nI nn), .ref b21, .ref b22, .ref b23, .ref b24, .ref b25, .ref b26, .ref b27, .ref b28, .ref b29, .int (nI tc), .ref b30, .int (nI ncc), .long mk, .int fd, .int bs, .int (nI ps), .ref b31, .ref b32, .int sn, .int kt, .int bh])), (b3, .inl (cI, 24, .inl (nF mcn))), (b4, .inl (cI, 144, .inl (nF mcl))), (b5, .inl (cI, 144, .inl mcr)), (b6, .inl (cI, 144, .inl mcv)), (b19, .inl (cI, 10, .inl bw))] (fun r W => ((r = some (.int 1) ∧ (f_canW be (dgs w) mcl mcr mcv (m0 * 6) (mcn m0) = true)) ∨ (r = some (.int 0) ∧ ¬ (f_canW be (dgs w) mcl mcr mcv (m0 * 6) (mcn m0) = true))) ∧ W = [(bx, .inr (11, [.int th, .int (nI n), .ref b0, .ref b1, .ref b2, .int (nI nm), .ref b3, .ref b4, .ref b5, .ref b6, .ref b7, .ref b8, .ref b9, .ref b10, .ref b11, .ref b12, .int (nI nk), .ref b13, .ref b14, .ref b15, .int (nI nd), .int (nI ng), .ref b16, .ref b17, .ref b18, .ref b19, .int be, .int bl, .ref b20, .int pe, .int (nI nn), .ref b21, .ref b22, .ref b23, .ref b24, .ref b25, .ref b26, .ref b27, .ref b28, .ref b29, .int (nI tc), .ref b30, .int (nI ncc), .long mk, .int fd, .int bs, .int (nI ps), .ref b31, .ref b32, .int sn, .int kt, .int bh])), (b3, .inl (cI, 24, .inl (nF mcn))), (b4, .inl (cI, 144, .inl (nF mcl))), (b5, .inl (cI, 144, .inl mcr)), (b6, .inl (cI, 144, .inl mcv)), (b19, .inl (cI, 10, .inl bw))]) := by
  refine Ctr.start (by decide +kernel) (Nat.le_of_ble_eq_true rfl) ?_
  intro p e s m below meth c A Q ls H C hQ hA hP hD hS hl
  obtain ⟨hx, hb, hr, hml, hts, hown, hlk, hnm, hK, hN⟩ := id C
  have hl : lv_has ls 6 [(0, .ref bx), (1, .int (nI m0))] := hl
  refine lv_aload_n hx hb dX10_canMove_0 rfl (lv_at hl 0 rfl) ?_
  refine r_get (v := .int be) C hP okX10 0 26 rfl (by decide) fl_X10_141 rfl rfl dX10_canMove_1 ?_
  refine lv_if_ne (tgt := 11) hx hb dX10_canMove_4 (by decide) (fun c_4 => ?_) (fun c_4 => ?_)
  · -- taken 4
    refine lv_iconst (v := 0) hx hb dX10_canMove_11 (by decide) ?_
    refine lv_istore_n (lv' := [(2, .int 0), (0, .ref bx), (1, .int (nI m0))]) hx hb dX10_canMove_12 rfl hl (by decide) rfl (fun ls hl => ?_)
    refine lv_bipush (v := 6) hx hb dX10_canMove_13 (by decide) ?_
    refine lv_iload_n hx hb dX10_canMove_15 rfl (lv_at hl 2 rfl) ?_
    refine lv_imul hx hb dX10_canMove_16 ?_
    refine r_top (x' := nI (6 * m0)) (pk_mul 6 m0) ?_
    refine lv_istore_n (lv' := [(3, .int (nI (6 * m0))), (2, .int 0), (0, .ref bx), (1, .int (nI m0))]) hx hb dX10_canMove_17 rfl hl (by decide) rfl (fun ls hl => ?_)
    exact lp_X10_canMove_18 l D cI cJ cZ bx b0 b1 b2 b3 b4 b5 b6 b7 b8 b9 b10 b11 b12 b13 b14 b15 b16 b17 b18 b19 b20 b21 b22 b23 b24 b25 b26 b27 b28 b29 b30 b31 b32 th n nm nk nd ng be bl pe nn tc ncc mk fd bs ps sn kt bh mcn mcl mcr mcv bw w m0 hn hd_ hm0 hc6 hcl   C hQ hA _ 0 false (by omega) (by simp [f_canW, f_conds, c_4]) (Nat.lt_succ_self _) _ _ _ (hP.sub [0, 1, 2, 3, 4, 5] rfl) (hD.sub [0, 1, 2, 3, 4, 5] (by decide) rfl) hS (lv_sub hl [2, 3, 1, 0] rfl)
  · -- not taken 4
    refine lv_iconst (v := 1) hx hb dX10_canMove_7 (by decide) ?_
    refine lv_goto (tgt := 12) hx hb dX10_canMove_8 (by decide) ?_
    refine lv_istore_n (lv' := [(2, .int 1), (0, .ref bx), (1, .int (nI m0))]) hx hb dX10_canMove_12 rfl hl (by decide) rfl (fun ls hl => ?_)
    refine lv_bipush (v := 6) hx hb dX10_canMove_13 (by decide) ?_
    refine lv_iload_n hx hb dX10_canMove_15 rfl (lv_at hl 2 rfl) ?_
    refine lv_imul hx hb dX10_canMove_16 ?_
    refine r_top (x' := nI (6 * m0)) (pk_mul 6 m0) ?_
    refine lv_istore_n (lv' := [(3, .int (nI (6 * m0))), (2, .int 1), (0, .ref bx), (1, .int (nI m0))]) hx hb dX10_canMove_17 rfl hl (by decide) rfl (fun ls hl => ?_)
    exact lp_X10_canMove_18 l D cI cJ cZ bx b0 b1 b2 b3 b4 b5 b6 b7 b8 b9 b10 b11 b12 b13 b14 b15 b16 b17 b18 b19 b20 b21 b22 b23 b24 b25 b26 b27 b28 b29 b30 b31 b32 th n nm nk nd ng be bl pe nn tc ncc mk fd bs ps sn kt bh mcn mcl mcr mcv bw w m0 hn hd_ hm0 hc6 hcl   C hQ hA _ 0 true (by omega) (by simp [f_canW, f_conds, c_4]) (Nat.lt_succ_self _) _ _ _ (hP.sub [0, 1, 2, 3, 4, 5] rfl) (hD.sub [0, 1, 2, 3, 4, 5] (by decide) rfl) hS (lv_sub hl [2, 3, 1, 0] rfl)
set_option maxHeartbeats 4000000 in
set_option maxRecDepth 100000 in
theorem lp_X10_chance_5 (l : Launch) (D : va_G) (cI cJ cZ : ClassId) (bx : Nat) (b0 : Nat) (b1 : Nat) (b2 : Nat) (b3 : Nat) (b4 : Nat) (b5 : Nat) (b6 : Nat) (b7 : Nat) (b8 : Nat) (b9 : Nat) (b10 : Nat) (b11 : Nat) (b12 : Nat) (b13 : Nat) (b14 : Nat) (b15 : Nat) (b16 : Nat) (b17 : Nat) (b18 : Nat) (b19 : Nat) (b20 : Nat) (b21 : Nat) (b22 : Nat) (b23 : Nat) (b24 : Nat) (b25 : Nat) (b26 : Nat) (b27 : Nat) (b28 : Nat) (b29 : Nat) (b30 : Nat) (b31 : Nat) (b32 : Nat) (th : Int32) (n : Nat) (nm : Nat) (nk : Nat) (nd : Nat) (ng : Nat) (be : Int32) (bl : Int32) (pe : Int32) (nn : Nat) (tc : Nat) (ncc : Nat) (mk : Int64) (fd : Int32) (bs : Int32) (ps : Nat) (sn : Int32) (kt : Int32) (bh : Int32) (bw : Nat → Int32) (w : Int64) (m0 : Nat) (hn : n ≤ 10) (hd_ : dgOK n bw w) (hwf : wfW n w) (hm0 : m0 < 24)   {p : Program} {e : Env} {s : State} {m : MethodId} {below : List Frame} {meth : Method} {c : Code} {A : Nat → Prop} {Q : State → Prop} (C : Cx D cI cJ cZ p s m ([.ref bx, .int (nI m0)] : List Value).toArray meth c yX10_chance cX10_chance 5 (some .long)) (hQ : QOK Q below s ([.ref bx, .int (nI m0)] : List Value).toArray D A (fun r W => r = some (.long (f_chL (dgs w) n m0)) ∧ W = [(bx, .inr (11, [.int th, .int (nI n), .ref b0, .ref b1, .ref b2, .int (nI nm), .ref b3, .ref b4, .ref b5, .ref b6, .ref b7, .ref b8, .ref b9, .ref b10, .ref b11, .ref b12, .int (nI nk), .ref b13, .ref b14, .ref b15, .int (nI nd), .int (nI ng), .ref b16, .ref b17, .ref b18, .ref b19, .int be, .int bl, .ref b20, .int pe, .int (nI nn), .ref b21, .ref b22, .ref b23, .ref b24, .ref b25, .ref b26, .ref b27, .ref b28, .ref b29, .int (nI tc), .ref b30, .int (nI ncc), .long mk, .int fd, .int bs, .int (nI ps), .ref b31, .ref b32, .int sn, .int kt, .int bh])), (b19, .inl (cI, 10, .inl bw))]) 0 0) (hA : ∀ q, s.heap.size ≤ q → A q) : ∀ (ku : Nat) (i : Nat) (h : Int64) (hi : i ≤ n) (hh : h = f_ch (dgs w) i), (n - i) < ku → ∀ (H : Heap) (locs : List Loc) (ls : Array Slot), va_P D vwCl [(bx, .inr (11, [.int th, .int (nI n), .ref b0, .ref b1, .ref b2, .int (nI nm), .ref b3, .ref b4, .ref b5, .ref b6, .ref b7, .ref b8, .ref b9, .ref b10, .ref b11, .ref b12, .int (nI nk), .ref b13, .ref b14, .ref b15, .int (nI nd), .int (nI ng), .ref b16, .ref b17, .ref b18, .ref b19, .int be, .int bl, .ref b20, .int pe, .int (nI nn), .ref b21, .ref b22, .ref b23, .ref b24, .ref b25, .ref b26, .ref b27, .ref b28, .ref b29, .int (nI tc), .ref b30, .int (nI ncc), .long mk, .int fd, .int bs, .int (nI ps), .ref b31, .ref b32, .int sn, .int kt, .int bh])), (b19, .inl (cI, 10, .inl bw))] H → va_D A [(bx, .inr (11, [.int th, .int (nI n), .ref b0, .ref b1, .ref b2, .int (nI nm), .ref b3, .ref b4, .ref b5, .ref b6, .ref b7, .ref b8, .ref b9, .ref b10, .ref b11, .ref b12, .int (nI nk), .ref b13, .ref b14, .ref b15, .int (nI nd), .int (nI ng), .ref b16, .ref b17, .ref b18, .ref b19, .int be, .int bl, .ref b20, .int pe, .int (nI nn), .ref b21, .ref b22, .ref b23, .ref b24, .ref b25, .ref b26, .ref b27, .ref b28, .ref b29, .int (nI tc), .ref b30, .int (nI ncc), .long mk, .int fd, .int bs, .int (nI ps), .ref b31, .ref b32, .int sn, .int kt, .int bh])), (b19, .inl (cI, 10, .inl bw))] → va_S A s.heap H locs → lv_has ls 5 [(0, .ref bx), (1, .int (nI m0)), (2, .long h), (4, .int (nI i))] → W p l e ({ frames := 0, cells := 0, slots := 0, locals := 0 } : Room) s m ([.ref bx, .int (nI m0)] : List Value).toArray below meth c H locs 0 0 Q (F0 m 5 ls []) := by
  obtain ⟨hx, hb, hr, hml, hts, hown, hlk, hnm, hK, hN⟩ := id C
  intro ku
  induction ku with
  | zero =>
    intro i h hi hh hku
    exact absurd hku (Nat.not_lt_zero _)
  | succ ku ih =>
    intro i h hi hh hku H locs ls hP hD hS hl
    refine lv_iload hx hb dX10_chance_5 (lv_at hl 3 rfl) ?_
    refine lv_aload_n hx hb dX10_chance_7 rfl (lv_at hl 0 rfl) ?_
    refine r_get (v := .int (nI n)) C hP okX10 0 1 rfl (by decide) fl_X10_115 rfl rfl dX10_chance_8 ?_
    refine lv_icmp_ge (tgt := 41) hx hb dX10_chance_11 (by decide) (fun c_11 => ?_) (fun c_11 => ?_)
    · -- taken 11
      have c_11 : n ≤ i := (nI_leI (a := n) (b := i) (by omega) (by omega)).mp c_11
      refine lv_ldc2 (v := (131)) hx hb hown (hts _ cn_X10_144) dX10_chance_41 ?_
      refine lv_lload_n hx hb dX10_chance_44 rfl (lv_at hl 2 rfl) ?_
      refine lv_lmul hx hb dX10_chance_45 ?_
      refine lv_iload_n hx hb dX10_chance_46 rfl (lv_at hl 1 rfl) ?_
      refine lv_iconst (v := 1) hx hb dX10_chance_47 (by decide) ?_
      refine lv_iadd hx hb dX10_chance_48 ?_
      refine r_top (x' := nI (m0 + 1)) (nI_add m0 1) ?_
      refine lv_i2l (v := (nI (m0 + 1)).toInt64) hx hb dX10_chance_49 rfl ?_
      refine lv_ladd hx hb dX10_chance_50 ?_
      refine lv_ldc2 (v := (2147483647)) hx hb hown (hts _ cn_X10_146) dX10_chance_51 ?_
      refine lv_lrem hx hb dX10_chance_54 (by decide) ?_
      exact rt_l C hQ (hP.sub (ws' := [(bx, .inr (11, [.int th, .int (nI n), .ref b0, .ref b1, .ref b2, .int (nI nm), .ref b3, .ref b4, .ref b5, .ref b6, .ref b7, .ref b8, .ref b9, .ref b10, .ref b11, .ref b12, .int (nI nk), .ref b13, .ref b14, .ref b15, .int (nI nd), .int (nI ng), .ref b16, .ref b17, .ref b18, .ref b19, .int be, .int bl, .ref b20, .int pe, .int (nI nn), .ref b21, .ref b22, .ref b23, .ref b24, .ref b25, .ref b26, .ref b27, .ref b28, .ref b29, .int (nI tc), .ref b30, .int (nI ncc), .long mk, .int fd, .int bs, .int (nI ps), .ref b31, .ref b32, .int sn, .int kt, .int bh])), (b19, .inl (cI, 10, .inl bw))]) [0, 1] rfl) (hD.sub [0, 1] (by decide) rfl) hS ⟨by rw [hh, show i = n by omega, show (nI (m0 + 1)).toInt64 = (nI m0).toInt64 + 1 by rw [nI_l (by omega), nI_l (by omega), lN_1], ← Int64.add_assoc]; rfl, rfl⟩ (by decide) (by decide) dX10_chance_55
    · -- not taken 11
      have c_11 : ¬ (n ≤ i) := fun z => c_11 ((nI_leI (a := n) (b := i) (by omega) (by omega)).mpr z)
      refine lv_ldc2 (v := (131)) hx hb hown (hts _ cn_X10_144) dX10_chance_14 ?_
      refine lv_lload_n hx hb dX10_chance_17 rfl (lv_at hl 2 rfl) ?_
      refine lv_lmul hx hb dX10_chance_18 ?_
      refine lv_aload_n hx hb dX10_chance_19 rfl (lv_at hl 0 rfl) ?_
      refine r_get (v := .ref b19) C hP okX10 0 25 rfl (by decide) fl_X10_68 rfl rfl dX10_chance_20 ?_
      refine lv_iload hx hb dX10_chance_23 (lv_at hl 3 rfl) ?_
      refine r_iald (j := i) C hP 1 rfl (by omega) (by decide) dX10_chance_25 ?_
      refine lv_iconst (v := 1) hx hb dX10_chance_26 (by decide) ?_
      refine lv_iadd hx hb dX10_chance_27 ?_
      refine lv_i2l (v := ((bw i) + 1).toInt64) hx hb dX10_chance_28 rfl ?_
      refine lv_ladd hx hb dX10_chance_29 ?_
      refine lv_ldc2 (v := (2147483647)) hx hb hown (hts _ cn_X10_146) dX10_chance_30 ?_
      refine lv_lrem hx hb dX10_chance_33 (by decide) ?_
      refine lv_lstore_n (lv' := [(2, .long (((131 * h) + (((bw i) + 1).toInt64)) - ((131 * h) + (((bw i) + 1).toInt64)) / 2147483647 * 2147483647)), (0, .ref bx), (1, .int (nI m0)), (4, .int (nI i))]) hx hb dX10_chance_34 rfl hl (by decide) rfl (fun ls hl => ?_)
      refine lv_iinc (v := nI (i + 1)) (lv' := [(4, .int (nI (i + 1))), (2, .long (((131 * h) + (((bw i) + 1).toInt64)) - ((131 * h) + (((bw i) + 1).toInt64)) / 2147483647 * 2147483647)), (0, .ref bx), (1, .int (nI m0))]) hx hb dX10_chance_35 hl (k := 3) rfl (nI_1 _) (by decide) rfl (fun ls hl => ?_)
      refine lv_goto (tgt := 5) hx hb dX10_chance_38 (by decide) ?_
      exact ih (i + 1) (((131 * h) + (((bw i) + 1).toInt64)) - ((131 * h) + (((bw i) + 1).toInt64)) / 2147483647 * 2147483647) (by omega) (by rw [hh, hd_ i (by omega), dig_l1 hwf (by omega), ← Int64.add_assoc]; rfl) (by omega) _ _ _ (hP.sub [0, 1] rfl) (hD.sub [0, 1] (by decide) rfl) hS (lv_sub hl [2, 3, 1, 0] rfl)
set_option maxHeartbeats 4000000 in
set_option maxRecDepth 100000 in
theorem c_X10_chance (l : Launch) (D : va_G) (cI cJ cZ : ClassId) (bx : Nat) (b0 : Nat) (b1 : Nat) (b2 : Nat) (b3 : Nat) (b4 : Nat) (b5 : Nat) (b6 : Nat) (b7 : Nat) (b8 : Nat) (b9 : Nat) (b10 : Nat) (b11 : Nat) (b12 : Nat) (b13 : Nat) (b14 : Nat) (b15 : Nat) (b16 : Nat) (b17 : Nat) (b18 : Nat) (b19 : Nat) (b20 : Nat) (b21 : Nat) (b22 : Nat) (b23 : Nat) (b24 : Nat) (b25 : Nat) (b26 : Nat) (b27 : Nat) (b28 : Nat) (b29 : Nat) (b30 : Nat) (b31 : Nat) (b32 : Nat) (th : Int32) (n : Nat) (nm : Nat) (nk : Nat) (nd : Nat) (ng : Nat) (be : Int32) (bl : Int32) (pe : Int32) (nn : Nat) (tc : Nat) (ncc : Nat) (mk : Int64) (fd : Int32) (bs : Int32) (ps : Nat) (sn : Int32) (kt : Int32) (bh : Int32) (bw : Nat → Int32) (w : Int64) (m0 : Nat) (hn : n ≤ 10) (hd_ : dgOK n bw w) (hwf : wfW n w) (hm0 : m0 < 24) : Ctr l D cI cJ cZ yX10_chance cX10_chance 5 (some .long) ({ frames := 0, cells := 0, slots := 0, locals := 0 } : Room) [.ref bx, .int (nI m0)] [(bx, .inr (11, [.int th, .int (nI n), .ref b0, .ref b1, .ref b2, .int (nI nm), .ref b3, .ref b4, .ref b5, .ref b6, .ref b7, .ref b8, .ref b9, .ref b10, .ref b11, .ref b12, .int (nI nk), .ref b13, .ref b14, .ref b15, .int (nI nd), .int (nI ng), .ref b16, .ref b17, .ref b18, .ref b19, .int be, .int bl, .ref b20, .int pe, .int (nI nn), .ref b21, .ref b22, .ref b23, .ref b24, .ref b25, .ref b26, .ref b27, .ref b28, .ref b29, .int (nI tc), .ref b30, .int (nI ncc), .long mk, .int fd, .int bs, .int (nI ps), .ref b31, .ref b32, .int sn, .int kt, .int bh])), (b19, .inl (cI, 10, .inl bw))] (fun r W => r = some (.long (f_chL (dgs w) n m0)) ∧ W = [(bx, .inr (11, [.int th, .int (nI n), .ref b0, .ref b1, .ref b2, .int (nI nm), .ref b3, .ref b4, .ref b5, .ref b6, .ref b7, .ref b8, .ref b9, .ref b10, .ref b11, .ref b12, .int (nI nk), .ref b13, .ref b14, .ref b15, .int (nI nd), .int (nI ng), .ref b16, .ref b17, .ref b18, .ref b19, .int be, .int bl, .ref b20, .int pe, .int (nI nn), .ref b21, .ref b22, .ref b23, .ref b24, .ref b25, .ref b26, .ref b27, .ref b28, .ref b29, .int (nI tc), .ref b30, .int (nI ncc), .long mk, .int fd, .int bs, .int (nI ps), .ref b31, .ref b32, .int sn, .int kt, .int bh])), (b19, .inl (cI, 10, .inl bw))]) := by
  refine Ctr.start (by decide +kernel) (Nat.le_of_ble_eq_true rfl) ?_
  intro p e s m below meth c A Q ls H C hQ hA hP hD hS hl
  obtain ⟨hx, hb, hr, hml, hts, hown, hlk, hnm, hK, hN⟩ := id C
  have hl : lv_has ls 5 [(0, .ref bx), (1, .int (nI m0))] := hl
  refine lv_lconst (v := 0) hx hb dX10_chance_0 (by decide) ?_
  refine lv_lstore_n (lv' := [(2, .long 0), (0, .ref bx), (1, .int (nI m0))]) hx hb dX10_chance_1 rfl hl (by decide) rfl (fun ls hl => ?_)
  refine lv_iconst (v := 0) hx hb dX10_chance_2 (by decide) ?_
  refine lv_istore (lv' := [(4, .int 0), (2, .long 0), (0, .ref bx), (1, .int (nI m0))]) hx hb dX10_chance_3 hl (by decide) rfl (fun ls hl => ?_)
  exact lp_X10_chance_5 l D cI cJ cZ bx b0 b1 b2 b3 b4 b5 b6 b7 b8 b9 b10 b11 b12 b13 b14 b15 b16 b17 b18 b19 b20 b21 b22 b23 b24 b25 b26 b27 b28 b29 b30 b31 b32 th n nm nk nd ng be bl pe nn tc ncc mk fd bs ps sn kt bh bw w m0 hn hd_ hwf hm0   C hQ hA _ 0 0 (by omega) rfl (Nat.lt_succ_self _) _ _ _ (hP.sub [0, 1] rfl) (hD.sub [0, 1] (by decide) rfl) hS (lv_sub hl [2, 3, 1, 0] rfl)
set_option maxHeartbeats 4000000 in
set_option maxRecDepth 100000 in
theorem lp_X10_packed_9 (l : Launch) (D : va_G) (cI cJ cZ : ClassId) (bx : Nat) (b0 : Nat) (b1 : Nat) (b2 : Nat) (b3 : Nat) (b4 : Nat) (b5 : Nat) (b6 : Nat) (b7 : Nat) (b8 : Nat) (b9 : Nat) (b10 : Nat) (b11 : Nat) (b12 : Nat) (b13 : Nat) (b14 : Nat) (b15 : Nat) (b16 : Nat) (b17 : Nat) (b18 : Nat) (b19 : Nat) (b20 : Nat) (b21 : Nat) (b22 : Nat) (b23 : Nat) (b24 : Nat) (b25 : Nat) (b26 : Nat) (b27 : Nat) (b28 : Nat) (b29 : Nat) (b30 : Nat) (b31 : Nat) (b32 : Nat) (th : Int32) (n : Nat) (nm : Nat) (nk : Nat) (nd : Nat) (ng : Nat) (be : Int32) (bl : Int32) (pe : Int32) (nn : Nat) (tc : Nat) (ncc : Nat) (mk : Int64) (fd : Int32) (bs : Int32) (ps : Nat) (sn : Int32) (kt : Int32) (bh : Int32) (bw : Nat → Int32) (w : Int64) (hn : n ≤ 10) (hd_ : dgOK n bw w) (hwf : wfW n w)   {p : Program} {e : Env} {s : State} {m : MethodId} {below : List Frame} {meth : Method} {c : Code} {A : Nat → Prop} {Q : State → Prop} (C : Cx D cI cJ cZ p s m ([.ref bx] : List Value).toArray meth c yX10_packed cX10_packed 4 (some .long)) (hQ : QOK Q below s ([.ref bx] : List Value).toArray D A (fun r W => r = some (.long w) ∧ W = [(bx, .inr (11, [.int th, .int (nI n), .ref b0, .ref b1, .ref b2, .int (nI nm), .ref b3, .ref b4, .ref b5, .ref b6, .ref b7, .ref b8, .ref b9, .ref b10, .ref b11, .ref b12, .int (nI nk), .ref b13, .ref b14, .ref b15, .int (nI nd), .int (nI ng), .ref b16, .ref b17, .ref b18, .ref b19, .int be, .int bl, .ref b20, .int pe, .int (nI nn), .ref b21, .ref b22, .ref b23, .ref b24, .ref b25, .ref b26, .ref b27, .ref b28, .ref b29, .int (nI tc), .ref b30, .int (nI ncc), .long mk, .int fd, .int bs, .int (nI ps), .ref b31, .ref b32, .int sn, .int kt, .int bh])), (b19, .inl (cI, 10, .inl bw))]) 0 0) (hA : ∀ q, s.heap.size ≤ q → A q) : ∀ (ku : Nat) (i : Nat) (acc : Int64) (hi : i ≤ n) (ha : acc = lN (uW w / 16 ^ i)), (i) < ku → ∀ (H : Heap) (locs : List Loc) (ls : Array Slot), va_P D vwCl [(bx, .inr (11, [.int th, .int (nI n), .ref b0, .ref b1, .ref b2, .int (nI nm), .ref b3, .ref b4, .ref b5, .ref b6, .ref b7, .ref b8, .ref b9, .ref b10, .ref b11, .ref b12, .int (nI nk), .ref b13, .ref b14, .ref b15, .int (nI nd), .int (nI ng), .ref b16, .ref b17, .ref b18, .ref b19, .int be, .int bl, .ref b20, .int pe, .int (nI nn), .ref b21, .ref b22, .ref b23, .ref b24, .ref b25, .ref b26, .ref b27, .ref b28, .ref b29, .int (nI tc), .ref b30, .int (nI ncc), .long mk, .int fd, .int bs, .int (nI ps), .ref b31, .ref b32, .int sn, .int kt, .int bh])), (b19, .inl (cI, 10, .inl bw))] H → va_D A [(bx, .inr (11, [.int th, .int (nI n), .ref b0, .ref b1, .ref b2, .int (nI nm), .ref b3, .ref b4, .ref b5, .ref b6, .ref b7, .ref b8, .ref b9, .ref b10, .ref b11, .ref b12, .int (nI nk), .ref b13, .ref b14, .ref b15, .int (nI nd), .int (nI ng), .ref b16, .ref b17, .ref b18, .ref b19, .int be, .int bl, .ref b20, .int pe, .int (nI nn), .ref b21, .ref b22, .ref b23, .ref b24, .ref b25, .ref b26, .ref b27, .ref b28, .ref b29, .int (nI tc), .ref b30, .int (nI ncc), .long mk, .int fd, .int bs, .int (nI ps), .ref b31, .ref b32, .int sn, .int kt, .int bh])), (b19, .inl (cI, 10, .inl bw))] → va_S A s.heap H locs → lv_has ls 4 [(0, .ref bx), (1, .long acc), (3, .int (nI i - 1))] → W p l e ({ frames := 0, cells := 0, slots := 0, locals := 0 } : Room) s m ([.ref bx] : List Value).toArray below meth c H locs 0 0 Q (F0 m 9 ls []) := by
  obtain ⟨hx, hb, hr, hml, hts, hown, hlk, hnm, hK, hN⟩ := id C
  intro ku
  induction ku with
  | zero =>
    intro i acc hi ha hku
    exact absurd hku (Nat.not_lt_zero _)
  | succ ku ih =>
    intro i acc hi ha hku H locs ls hP hD hS hl
    refine lv_iload_n hx hb dX10_packed_9 rfl (lv_at hl 2 rfl) ?_
    refine lv_if_lt (tgt := 31) hx hb dX10_packed_10 (by decide) (fun c_10 => ?_) (fun c_10 => ?_)
    · -- taken 10
      have hi0 : i = 0 := by rcases Nat.eq_zero_or_pos i with z | z; exact z; (rw [show nI i - 1 = nI (i - 1) from pk_sub (b := 1) z] at c_10; exact absurd c_10 (nI_pos (by omega)))
      refine lv_lload_n hx hb dX10_packed_31 rfl (lv_at hl 1 rfl) ?_
      exact rt_l C hQ (hP.sub (ws' := [(bx, .inr (11, [.int th, .int (nI n), .ref b0, .ref b1, .ref b2, .int (nI nm), .ref b3, .ref b4, .ref b5, .ref b6, .ref b7, .ref b8, .ref b9, .ref b10, .ref b11, .ref b12, .int (nI nk), .ref b13, .ref b14, .ref b15, .int (nI nd), .int (nI ng), .ref b16, .ref b17, .ref b18, .ref b19, .int be, .int bl, .ref b20, .int pe, .int (nI nn), .ref b21, .ref b22, .ref b23, .ref b24, .ref b25, .ref b26, .ref b27, .ref b28, .ref b29, .int (nI tc), .ref b30, .int (nI ncc), .long mk, .int fd, .int bs, .int (nI ps), .ref b31, .ref b32, .int sn, .int kt, .int bh])), (b19, .inl (cI, 10, .inl bw))]) [0, 1] rfl) (hD.sub [0, 1] (by decide) rfl) hS ⟨by rw [ha, hi0]; simp only [Nat.pow_zero, Nat.div_one]; rw [← uW_eq], rfl⟩ (by decide) (by decide) dX10_packed_32
    · -- not taken 10
      obtain ⟨i1, rfl⟩ : ∃ i1, i = i1 + 1 := ⟨i - 1, by rcases Nat.eq_zero_or_pos i with z | z; (subst z; exact absurd (by decide) c_10); omega⟩
      rw [nI_pred i1] at hl
      have hl : lv_has ls 4 [(0, .ref bx), (1, .long acc), (3, .int (nI i1))] := hl
      refine lv_lload_n hx hb dX10_packed_13 rfl (lv_at hl 1 rfl) ?_
      refine lv_iconst (v := 4) hx hb dX10_packed_14 (by decide) ?_
      refine lv_lshl (v := acc <<< ((4 : Int32).toInt64 &&& 63)) hx hb dX10_packed_15 rfl ?_
      refine lv_aload_n hx hb dX10_packed_16 rfl (lv_at hl 0 rfl) ?_
      refine r_get (v := .ref b19) C hP okX10 0 25 rfl (by decide) fl_X10_68 rfl rfl dX10_packed_17 ?_
      refine lv_iload_n hx hb dX10_packed_20 rfl (lv_at hl 2 rfl) ?_
      refine r_iald (j := i1) C hP 1 rfl (by omega) (by decide) dX10_packed_21 ?_
      refine lv_i2l (v := (bw i1).toInt64) hx hb dX10_packed_22 rfl ?_
      refine lv_lor hx hb dX10_packed_23 ?_
      refine lv_lstore_n (lv' := [(1, .long ((acc <<< ((4 : Int32).toInt64 &&& 63)) ||| ((bw i1).toInt64))), (0, .ref bx), (3, .int (nI i1))]) hx hb dX10_packed_24 rfl hl (by decide) rfl (fun ls hl => ?_)
      refine lv_iinc (v := nI i1 - 1) (lv' := [(3, .int (nI i1 - 1)), (1, .long ((acc <<< ((4 : Int32).toInt64 &&& 63)) ||| ((bw i1).toInt64))), (0, .ref bx)]) hx hb dX10_packed_25 hl (k := 2) rfl (by rw [Int32.sub_eq_add_neg]; rfl) (by decide) rfl (fun ls hl => ?_)
      refine lv_goto (tgt := 9) hx hb dX10_packed_28 (by decide) ?_
      exact ih i1 ((acc <<< ((4 : Int32).toInt64 &&& 63)) ||| ((bw i1).toInt64)) (by omega) (by rw [ha, hd_ i1 (by omega)]; obtain ⟨dd, hdd, e1, e2⟩ := wf_dig hwf (show i1 < 16 by omega); rw [e1, pk_step (by have := uW_small hwf hn; exact Nat.lt_of_le_of_lt (Nat.div_le_self _ _) (by omega)) (by omega), ← e2, dN_down]) (by omega) _ _ _ (hP.sub [0, 1] rfl) (hD.sub [0, 1] (by decide) rfl) hS (lv_sub hl [2, 1, 0] rfl)
set_option maxHeartbeats 4000000 in
set_option maxRecDepth 100000 in
theorem c_X10_packed (l : Launch) (D : va_G) (cI cJ cZ : ClassId) (bx : Nat) (b0 : Nat) (b1 : Nat) (b2 : Nat) (b3 : Nat) (b4 : Nat) (b5 : Nat) (b6 : Nat) (b7 : Nat) (b8 : Nat) (b9 : Nat) (b10 : Nat) (b11 : Nat) (b12 : Nat) (b13 : Nat) (b14 : Nat) (b15 : Nat) (b16 : Nat) (b17 : Nat) (b18 : Nat) (b19 : Nat) (b20 : Nat) (b21 : Nat) (b22 : Nat) (b23 : Nat) (b24 : Nat) (b25 : Nat) (b26 : Nat) (b27 : Nat) (b28 : Nat) (b29 : Nat) (b30 : Nat) (b31 : Nat) (b32 : Nat) (th : Int32) (n : Nat) (nm : Nat) (nk : Nat) (nd : Nat) (ng : Nat) (be : Int32) (bl : Int32) (pe : Int32) (nn : Nat) (tc : Nat) (ncc : Nat) (mk : Int64) (fd : Int32) (bs : Int32) (ps : Nat) (sn : Int32) (kt : Int32) (bh : Int32) (bw : Nat → Int32) (w : Int64) (hn : n ≤ 10) (hd_ : dgOK n bw w) (hwf : wfW n w) : Ctr l D cI cJ cZ yX10_packed cX10_packed 4 (some .long) ({ frames := 0, cells := 0, slots := 0, locals := 0 } : Room) [.ref bx] [(bx, .inr (11, [.int th, .int (nI n), .ref b0, .ref b1, .ref b2, .int (nI nm), .ref b3, .ref b4, .ref b5, .ref b6, .ref b7, .ref b8, .ref b9, .ref b10, .ref b11, .ref b12, .int (nI nk), .ref b13, .ref b14, .ref b15, .int (nI nd), .int (nI ng), .ref b16, .ref b17, .ref b18, .ref b19, .int be, .int bl, .ref b20, .int pe, .int (nI nn), .ref b21, .ref b22, .ref b23, .ref b24, .ref b25, .ref b26, .ref b27, .ref b28, .ref b29, .int (nI tc), .ref b30, .int (nI ncc), .long mk, .int fd, .int bs, .int (nI ps), .ref b31, .ref b32, .int sn, .int kt, .int bh])), (b19, .inl (cI, 10, .inl bw))] (fun r W => r = some (.long w) ∧ W = [(bx, .inr (11, [.int th, .int (nI n), .ref b0, .ref b1, .ref b2, .int (nI nm), .ref b3, .ref b4, .ref b5, .ref b6, .ref b7, .ref b8, .ref b9, .ref b10, .ref b11, .ref b12, .int (nI nk), .ref b13, .ref b14, .ref b15, .int (nI nd), .int (nI ng), .ref b16, .ref b17, .ref b18, .ref b19, .int be, .int bl, .ref b20, .int pe, .int (nI nn), .ref b21, .ref b22, .ref b23, .ref b24, .ref b25, .ref b26, .ref b27, .ref b28, .ref b29, .int (nI tc), .ref b30, .int (nI ncc), .long mk, .int fd, .int bs, .int (nI ps), .ref b31, .ref b32, .int sn, .int kt, .int bh])), (b19, .inl (cI, 10, .inl bw))]) := by
  refine Ctr.start (by decide +kernel) (Nat.le_of_ble_eq_true rfl) ?_
  intro p e s m below meth c A Q ls H C hQ hA hP hD hS hl
  obtain ⟨hx, hb, hr, hml, hts, hown, hlk, hnm, hK, hN⟩ := id C
  have hl : lv_has ls 4 [(0, .ref bx)] := hl
  refine lv_lconst (v := 0) hx hb dX10_packed_0 (by decide) ?_
  refine lv_lstore_n (lv' := [(1, .long 0), (0, .ref bx)]) hx hb dX10_packed_1 rfl hl (by decide) rfl (fun ls hl => ?_)
  refine lv_aload_n hx hb dX10_packed_2 rfl (lv_at hl 1 rfl) ?_
  refine r_get (v := .int (nI n)) C hP okX10 0 1 rfl (by decide) fl_X10_115 rfl rfl dX10_packed_3 ?_
  refine lv_iconst (v := 1) hx hb dX10_packed_6 (by decide) ?_
  refine lv_isub hx hb dX10_packed_7 ?_
  refine lv_istore_n (lv' := [(3, .int ((nI n) - 1)), (1, .long 0), (0, .ref bx)]) hx hb dX10_packed_8 rfl hl (by decide) rfl (fun ls hl => ?_)
  exact lp_X10_packed_9 l D cI cJ cZ bx b0 b1 b2 b3 b4 b5 b6 b7 b8 b9 b10 b11 b12 b13 b14 b15 b16 b17 b18 b19 b20 b21 b22 b23 b24 b25 b26 b27 b28 b29 b30 b31 b32 th n nm nk nd ng be bl pe nn tc ncc mk fd bs ps sn kt bh bw w hn hd_ hwf   C hQ hA _ n 0 (by omega) (by rw [uW_div hwf (by omega)]; rfl) (Nat.lt_succ_self _) _ _ _ (hP.sub [0, 1] rfl) (hD.sub [0, 1] (by decide) rfl) hS (lv_sub hl [2, 1, 0] rfl)
set_option maxHeartbeats 4000000 in
set_option maxRecDepth 100000 in
theorem lp_X10_unpack_2 (l : Launch) (D : va_G) (cI cJ cZ : ClassId) (bx : Nat) (b0 : Nat) (b1 : Nat) (b2 : Nat) (b3 : Nat) (b4 : Nat) (b5 : Nat) (b6 : Nat) (b7 : Nat) (b8 : Nat) (b9 : Nat) (b10 : Nat) (b11 : Nat) (b12 : Nat) (b13 : Nat) (b14 : Nat) (b15 : Nat) (b16 : Nat) (b17 : Nat) (b18 : Nat) (b19 : Nat) (b20 : Nat) (b21 : Nat) (b22 : Nat) (b23 : Nat) (b24 : Nat) (b25 : Nat) (b26 : Nat) (b27 : Nat) (b28 : Nat) (b29 : Nat) (b30 : Nat) (b31 : Nat) (b32 : Nat) (th : Int32) (n : Nat) (nm : Nat) (nk : Nat) (nd : Nat) (ng : Nat) (be : Int32) (bl : Int32) (pe : Int32) (nn : Nat) (tc : Nat) (ncc : Nat) (mk : Int64) (fd : Int32) (bs : Int32) (ps : Nat) (sn : Int32) (kt : Int32) (bh : Int32) (bw : Nat → Int32) (w : Int64) (hn : n ≤ 10) (hwf : wfW 10 w)   {p : Program} {e : Env} {s : State} {m : MethodId} {below : List Frame} {meth : Method} {c : Code} {A : Nat → Prop} {Q : State → Prop} (C : Cx D cI cJ cZ p s m ([.ref bx, .long w] : List Value).toArray meth c yX10_unpack cX10_unpack 4 none) (hQ : QOK Q below s ([.ref bx, .long w] : List Value).toArray D A (fun r W => r = none ∧ W = [(bx, .inr (11, [.int th, .int (nI n), .ref b0, .ref b1, .ref b2, .int (nI nm), .ref b3, .ref b4, .ref b5, .ref b6, .ref b7, .ref b8, .ref b9, .ref b10, .ref b11, .ref b12, .int (nI nk), .ref b13, .ref b14, .ref b15, .int (nI nd), .int (nI ng), .ref b16, .ref b17, .ref b18, .ref b19, .int be, .int bl, .ref b20, .int pe, .int (nI nn), .ref b21, .ref b22, .ref b23, .ref b24, .ref b25, .ref b26, .ref b27, .ref b28, .ref b29, .int (nI tc), .ref b30, .int (nI ncc), .long mk, .int fd, .int bs, .int (nI ps), .ref b31, .ref b32, .int sn, .int kt, .int bh])), (b19, .inl (cI, 10, .inl (cpF (dgs w) bw n)))]) 0 0) (hA : ∀ q, s.heap.size ≤ q → A q) : ∀ (ku : Nat) (i : Nat) (g : Nat → Int32) (hi : i ≤ n) (hg : g = cpF (dgs w) bw i), (n - i) < ku → ∀ (H : Heap) (locs : List Loc) (ls : Array Slot), va_P D vwCl [(bx, .inr (11, [.int th, .int (nI n), .ref b0, .ref b1, .ref b2, .int (nI nm), .ref b3, .ref b4, .ref b5, .ref b6, .ref b7, .ref b8, .ref b9, .ref b10, .ref b11, .ref b12, .int (nI nk), .ref b13, .ref b14, .ref b15, .int (nI nd), .int (nI ng), .ref b16, .ref b17, .ref b18, .ref b19, .int be, .int bl, .ref b20, .int pe, .int (nI nn), .ref b21, .ref b22, .ref b23, .ref b24, .ref b25, .ref b26, .ref b27, .ref b28, .ref b29, .int (nI tc), .ref b30, .int (nI ncc), .long mk, .int fd, .int bs, .int (nI ps), .ref b31, .ref b32, .int sn, .int kt, .int bh])), (b19, .inl (cI, 10, .inl g))] H → va_D A [(bx, .inr (11, [.int th, .int (nI n), .ref b0, .ref b1, .ref b2, .int (nI nm), .ref b3, .ref b4, .ref b5, .ref b6, .ref b7, .ref b8, .ref b9, .ref b10, .ref b11, .ref b12, .int (nI nk), .ref b13, .ref b14, .ref b15, .int (nI nd), .int (nI ng), .ref b16, .ref b17, .ref b18, .ref b19, .int be, .int bl, .ref b20, .int pe, .int (nI nn), .ref b21, .ref b22, .ref b23, .ref b24, .ref b25, .ref b26, .ref b27, .ref b28, .ref b29, .int (nI tc), .ref b30, .int (nI ncc), .long mk, .int fd, .int bs, .int (nI ps), .ref b31, .ref b32, .int sn, .int kt, .int bh])), (b19, .inl (cI, 10, .inl g))] → va_S A s.heap H locs → lv_has ls 4 [(0, .ref bx), (1, .long w), (3, .int (nI i))] → W p l e ({ frames := 0, cells := 0, slots := 0, locals := 0 } : Room) s m ([.ref bx, .long w] : List Value).toArray below meth c H locs 0 0 Q (F0 m 2 ls []) := by
  obtain ⟨hx, hb, hr, hml, hts, hown, hlk, hnm, hK, hN⟩ := id C
  intro ku
  induction ku with
  | zero =>
    intro i g hi hg hku
    exact absurd hku (Nat.not_lt_zero _)
  | succ ku ih =>
    intro i g hi hg hku H locs ls hP hD hS hl
    refine lv_iload_n hx hb dX10_unpack_2 rfl (lv_at hl 2 rfl) ?_
    refine lv_aload_n hx hb dX10_unpack_3 rfl (lv_at hl 0 rfl) ?_
    refine r_get (v := .int (nI n)) C hP okX10 0 1 rfl (by decide) fl_X10_115 rfl rfl dX10_unpack_4 ?_
    refine lv_icmp_ge (tgt := 31) hx hb dX10_unpack_7 (by decide) (fun c_7 => ?_) (fun c_7 => ?_)
    · -- taken 7
      have c_7 : n ≤ i := (nI_leI (a := n) (b := i) (by omega) (by omega)).mp c_7
      exact rt_v C hQ (hP.sub (ws' := [(bx, .inr (11, [.int th, .int (nI n), .ref b0, .ref b1, .ref b2, .int (nI nm), .ref b3, .ref b4, .ref b5, .ref b6, .ref b7, .ref b8, .ref b9, .ref b10, .ref b11, .ref b12, .int (nI nk), .ref b13, .ref b14, .ref b15, .int (nI nd), .int (nI ng), .ref b16, .ref b17, .ref b18, .ref b19, .int be, .int bl, .ref b20, .int pe, .int (nI nn), .ref b21, .ref b22, .ref b23, .ref b24, .ref b25, .ref b26, .ref b27, .ref b28, .ref b29, .int (nI tc), .ref b30, .int (nI ncc), .long mk, .int fd, .int bs, .int (nI ps), .ref b31, .ref b32, .int sn, .int kt, .int bh])), (b19, .inl (cI, 10, .inl g))]) [0, 1] rfl) (hD.sub [0, 1] (by decide) rfl) hS ⟨rfl, by rw [hg, show i = n by omega]⟩ (by decide) (by decide) dX10_unpack_31
    · -- not taken 7
      have c_7 : ¬ (n ≤ i) := fun z => c_7 ((nI_leI (a := n) (b := i) (by omega) (by omega)).mpr z)
      refine lv_aload_n hx hb dX10_unpack_10 rfl (lv_at hl 0 rfl) ?_
      refine r_get (v := .ref b19) C hP okX10 0 25 rfl (by decide) fl_X10_68 rfl rfl dX10_unpack_11 ?_
      refine lv_iload_n hx hb dX10_unpack_14 rfl (lv_at hl 2 rfl) ?_
      refine lv_lload_n hx hb dX10_unpack_15 rfl (lv_at hl 1 rfl) ?_
      refine lv_iconst (v := 4) hx hb dX10_unpack_16 (by decide) ?_
      refine lv_iload_n hx hb dX10_unpack_17 rfl (lv_at hl 2 rfl) ?_
      refine lv_imul hx hb dX10_unpack_18 ?_
      refine r_top (x' := nI (4 * i)) (pk_mul 4 i) ?_
      refine lv_lshr (v := w >>> ((nI (4 * i)).toInt64 &&& 63)) hx hb dX10_unpack_19 rfl ?_
      refine lv_l2i (v := (w >>> ((nI (4 * i)).toInt64 &&& 63)).toInt32) hx hb dX10_unpack_20 rfl ?_
      refine lv_bipush (v := 15) hx hb dX10_unpack_21 (by decide) ?_
      refine lv_iand hx hb dX10_unpack_23 ?_
      refine r_iast (j := i) C hP hD hS 1 rfl (by omega) (by decide) dX10_unpack_24 (fun H locs hP hD hS => ?_)
      have hP : va_P D vwCl [(bx, .inr (11, [.int th, .int (nI n), .ref b0, .ref b1, .ref b2, .int (nI nm), .ref b3, .ref b4, .ref b5, .ref b6, .ref b7, .ref b8, .ref b9, .ref b10, .ref b11, .ref b12, .int (nI nk), .ref b13, .ref b14, .ref b15, .int (nI nd), .int (nI ng), .ref b16, .ref b17, .ref b18, .ref b19, .int be, .int bl, .ref b20, .int pe, .int (nI nn), .ref b21, .ref b22, .ref b23, .ref b24, .ref b25, .ref b26, .ref b27, .ref b28, .ref b29, .int (nI tc), .ref b30, .int (nI ncc), .long mk, .int fd, .int bs, .int (nI ps), .ref b31, .ref b32, .int sn, .int kt, .int bh])), (b19, .inl (cI, 10, .inl (upd g i (((w >>> ((nI (4 * i)).toInt64 &&& 63)).toInt32) &&& 15))))] H := hP
      have hD : va_D A [(bx, .inr (11, [.int th, .int (nI n), .ref b0, .ref b1, .ref b2, .int (nI nm), .ref b3, .ref b4, .ref b5, .ref b6, .ref b7, .ref b8, .ref b9, .ref b10, .ref b11, .ref b12, .int (nI nk), .ref b13, .ref b14, .ref b15, .int (nI nd), .int (nI ng), .ref b16, .ref b17, .ref b18, .ref b19, .int be, .int bl, .ref b20, .int pe, .int (nI nn), .ref b21, .ref b22, .ref b23, .ref b24, .ref b25, .ref b26, .ref b27, .ref b28, .ref b29, .int (nI tc), .ref b30, .int (nI ncc), .long mk, .int fd, .int bs, .int (nI ps), .ref b31, .ref b32, .int sn, .int kt, .int bh])), (b19, .inl (cI, 10, .inl (upd g i (((w >>> ((nI (4 * i)).toInt64 &&& 63)).toInt32) &&& 15))))] := hD
      refine lv_iinc (v := nI (i + 1)) (lv' := [(3, .int (nI (i + 1))), (0, .ref bx), (1, .long w)]) hx hb dX10_unpack_25 hl (k := 2) rfl (nI_1 _) (by decide) rfl (fun ls hl => ?_)
      refine lv_goto (tgt := 2) hx hb dX10_unpack_28 (by decide) ?_
      exact ih (i + 1) (upd g i (((w >>> ((nI (4 * i)).toInt64 &&& 63)).toInt32) &&& 15)) (by omega) (by rw [hg, un_step hwf (by decide) (by omega), cpF_s]) (by omega) _ _ _ (hP.sub [0, 1] rfl) (hD.sub [0, 1] (by decide) rfl) hS (lv_sub hl [1, 2, 0] rfl)
set_option maxHeartbeats 4000000 in
set_option maxRecDepth 100000 in
theorem c_X10_unpack (l : Launch) (D : va_G) (cI cJ cZ : ClassId) (bx : Nat) (b0 : Nat) (b1 : Nat) (b2 : Nat) (b3 : Nat) (b4 : Nat) (b5 : Nat) (b6 : Nat) (b7 : Nat) (b8 : Nat) (b9 : Nat) (b10 : Nat) (b11 : Nat) (b12 : Nat) (b13 : Nat) (b14 : Nat) (b15 : Nat) (b16 : Nat) (b17 : Nat) (b18 : Nat) (b19 : Nat) (b20 : Nat) (b21 : Nat) (b22 : Nat) (b23 : Nat) (b24 : Nat) (b25 : Nat) (b26 : Nat) (b27 : Nat) (b28 : Nat) (b29 : Nat) (b30 : Nat) (b31 : Nat) (b32 : Nat) (th : Int32) (n : Nat) (nm : Nat) (nk : Nat) (nd : Nat) (ng : Nat) (be : Int32) (bl : Int32) (pe : Int32) (nn : Nat) (tc : Nat) (ncc : Nat) (mk : Int64) (fd : Int32) (bs : Int32) (ps : Nat) (sn : Int32) (kt : Int32) (bh : Int32) (bw : Nat → Int32) (w : Int64) (hn : n ≤ 10) (hwf : wfW 10 w) : Ctr l D cI cJ cZ yX10_unpack cX10_unpack 4 none ({ frames := 0, cells := 0, slots := 0, locals := 0 } : Room) [.ref bx, .long w] [(bx, .inr (11, [.int th, .int (nI n), .ref b0, .ref b1, .ref b2, .int (nI nm), .ref b3, .ref b4, .ref b5, .ref b6, .ref b7, .ref b8, .ref b9, .ref b10, .ref b11, .ref b12, .int (nI nk), .ref b13, .ref b14, .ref b15, .int (nI nd), .int (nI ng), .ref b16, .ref b17, .ref b18, .ref b19, .int be, .int bl, .ref b20, .int pe, .int (nI nn), .ref b21, .ref b22, .ref b23, .ref b24, .ref b25, .ref b26, .ref b27, .ref b28, .ref b29, .int (nI tc), .ref b30, .int (nI ncc), .long mk, .int fd, .int bs, .int (nI ps), .ref b31, .ref b32, .int sn, .int kt, .int bh])), (b19, .inl (cI, 10, .inl bw))] (fun r W => r = none ∧ W = [(bx, .inr (11, [.int th, .int (nI n), .ref b0, .ref b1, .ref b2, .int (nI nm), .ref b3, .ref b4, .ref b5, .ref b6, .ref b7, .ref b8, .ref b9, .ref b10, .ref b11, .ref b12, .int (nI nk), .ref b13, .ref b14, .ref b15, .int (nI nd), .int (nI ng), .ref b16, .ref b17, .ref b18, .ref b19, .int be, .int bl, .ref b20, .int pe, .int (nI nn), .ref b21, .ref b22, .ref b23, .ref b24, .ref b25, .ref b26, .ref b27, .ref b28, .ref b29, .int (nI tc), .ref b30, .int (nI ncc), .long mk, .int fd, .int bs, .int (nI ps), .ref b31, .ref b32, .int sn, .int kt, .int bh])), (b19, .inl (cI, 10, .inl (cpF (dgs w) bw n)))]) := by
  refine Ctr.start (by decide +kernel) (Nat.le_of_ble_eq_true rfl) ?_
  intro p e s m below meth c A Q ls H C hQ hA hP hD hS hl
  obtain ⟨hx, hb, hr, hml, hts, hown, hlk, hnm, hK, hN⟩ := id C
  have hl : lv_has ls 4 [(0, .ref bx), (1, .long w)] := hl
  refine lv_iconst (v := 0) hx hb dX10_unpack_0 (by decide) ?_
  refine lv_istore_n (lv' := [(3, .int 0), (0, .ref bx), (1, .long w)]) hx hb dX10_unpack_1 rfl hl (by decide) rfl (fun ls hl => ?_)
  exact lp_X10_unpack_2 l D cI cJ cZ bx b0 b1 b2 b3 b4 b5 b6 b7 b8 b9 b10 b11 b12 b13 b14 b15 b16 b17 b18 b19 b20 b21 b22 b23 b24 b25 b26 b27 b28 b29 b30 b31 b32 th n nm nk nd ng be bl pe nn tc ncc mk fd bs ps sn kt bh bw w hn hwf   C hQ hA _ 0 bw (by omega) (cpF_0 _ _).symm (Nat.lt_succ_self _) _ _ _ (hP.sub [0, 1] rfl) (hD.sub [0, 1] (by decide) rfl) hS (lv_sub hl [1, 2, 0] rfl)
set_option maxHeartbeats 4000000 in
set_option maxRecDepth 100000 in
theorem c_X10_stepAt (l : Launch) (D : va_G) (cI cJ cZ : ClassId) (bx : Nat) (b0 : Nat) (b1 : Nat) (b2 : Nat) (b3 : Nat) (b4 : Nat) (b5 : Nat) (b6 : Nat) (b7 : Nat) (b8 : Nat) (b9 : Nat) (b10 : Nat) (b11 : Nat) (b12 : Nat) (b13 : Nat) (b14 : Nat) (b15 : Nat) (b16 : Nat) (b17 : Nat) (b18 : Nat) (b19 : Nat) (b20 : Nat) (b21 : Nat) (b22 : Nat) (b23 : Nat) (b24 : Nat) (b25 : Nat) (b26 : Nat) (b27 : Nat) (b28 : Nat) (b29 : Nat) (b30 : Nat) (b31 : Nat) (b32 : Nat) (th : Int32) (n : Nat) (nm : Nat) (nk : Nat) (nd : Nat) (ng : Nat) (be : Int32) (bl : Int32) (pe : Int32) (nn : Nat) (tc : Nat) (ncc : Nat) (mk : Int64) (fd : Int32) (bs : Int32) (ps : Nat) (sn : Int32) (kt : Int32) (bh : Int32) (k : Nat) (hk_ : k < 32) (hm : nm ≤ 24) : Ctr l D cI cJ cZ yX10_stepAt cX10_stepAt 2 (some .int) ({ frames := 0, cells := 0, slots := 0, locals := 0 } : Room) [.ref bx, .int (nI k)] [(bx, .inr (11, [.int th, .int (nI n), .ref b0, .ref b1, .ref b2, .int (nI nm), .ref b3, .ref b4, .ref b5, .ref b6, .ref b7, .ref b8, .ref b9, .ref b10, .ref b11, .ref b12, .int (nI nk), .ref b13, .ref b14, .ref b15, .int (nI nd), .int (nI ng), .ref b16, .ref b17, .ref b18, .ref b19, .int be, .int bl, .ref b20, .int pe, .int (nI nn), .ref b21, .ref b22, .ref b23, .ref b24, .ref b25, .ref b26, .ref b27, .ref b28, .ref b29, .int (nI tc), .ref b30, .int (nI ncc), .long mk, .int fd, .int bs, .int (nI ps), .ref b31, .ref b32, .int sn, .int kt, .int bh]))] (fun r W => r = some (.int (nI (n_by nm k))) ∧ W = [(bx, .inr (11, [.int th, .int (nI n), .ref b0, .ref b1, .ref b2, .int (nI nm), .ref b3, .ref b4, .ref b5, .ref b6, .ref b7, .ref b8, .ref b9, .ref b10, .ref b11, .ref b12, .int (nI nk), .ref b13, .ref b14, .ref b15, .int (nI nd), .int (nI ng), .ref b16, .ref b17, .ref b18, .ref b19, .int be, .int bl, .ref b20, .int pe, .int (nI nn), .ref b21, .ref b22, .ref b23, .ref b24, .ref b25, .ref b26, .ref b27, .ref b28, .ref b29, .int (nI tc), .ref b30, .int (nI ncc), .long mk, .int fd, .int bs, .int (nI ps), .ref b31, .ref b32, .int sn, .int kt, .int bh]))]) := by
  refine Ctr.start (by decide +kernel) (Nat.le_of_ble_eq_true rfl) ?_
  intro p e s m below meth c A Q ls H C hQ hA hP hD hS hl
  obtain ⟨hx, hb, hr, hml, hts, hown, hlk, hnm, hK, hN⟩ := id C
  have hl : lv_has ls 2 [(0, .ref bx), (1, .int (nI k))] := hl
  refine lv_iload_n hx hb dX10_stepAt_0 rfl (lv_at hl 1 rfl) ?_
  refine lv_aload_n hx hb dX10_stepAt_1 rfl (lv_at hl 0 rfl) ?_
  refine r_get (v := .int (nI nm)) C hP okX10 0 5 rfl (by decide) fl_X10_118 rfl rfl dX10_stepAt_2 ?_
  refine lv_icmp_ge (tgt := 12) hx hb dX10_stepAt_5 (by decide) (fun c_5 => ?_) (fun c_5 => ?_)
  · -- taken 5
    have c_5 : nm ≤ k := (nI_leI (a := nm) (b := k) (by omega) (by omega)).mp c_5
    refine lv_bipush (v := 100) hx hb dX10_stepAt_12 (by decide) ?_
    refine lv_iload_n hx hb dX10_stepAt_14 rfl (lv_at hl 1 rfl) ?_
    refine lv_iadd hx hb dX10_stepAt_15 ?_
    refine r_top (x' := nI (100 + k)) (nI_add 100 k) ?_
    refine lv_aload_n hx hb dX10_stepAt_16 rfl (lv_at hl 0 rfl) ?_
    refine r_get (v := .int (nI nm)) C hP okX10 0 5 rfl (by decide) fl_X10_118 rfl rfl dX10_stepAt_17 ?_
    refine lv_isub hx hb dX10_stepAt_20 ?_
    refine r_top (x' := nI (100 + k - nm)) (pk_sub (by omega)) ?_
    exact rt_i C hQ (hP.sub (ws' := [(bx, .inr (11, [.int th, .int (nI n), .ref b0, .ref b1, .ref b2, .int (nI nm), .ref b3, .ref b4, .ref b5, .ref b6, .ref b7, .ref b8, .ref b9, .ref b10, .ref b11, .ref b12, .int (nI nk), .ref b13, .ref b14, .ref b15, .int (nI nd), .int (nI ng), .ref b16, .ref b17, .ref b18, .ref b19, .int be, .int bl, .ref b20, .int pe, .int (nI nn), .ref b21, .ref b22, .ref b23, .ref b24, .ref b25, .ref b26, .ref b27, .ref b28, .ref b29, .int (nI tc), .ref b30, .int (nI ncc), .long mk, .int fd, .int bs, .int (nI ps), .ref b31, .ref b32, .int sn, .int kt, .int bh]))]) [0] rfl) (hD.sub [0] (by decide) rfl) hS ⟨by simp only [n_by]; first | (rw [if_pos (by omega)]) | (rw [if_neg (by omega)]), rfl⟩ (by decide) (by decide) dX10_stepAt_21
  · -- not taken 5
    have c_5 : ¬ (nm ≤ k) := fun z => c_5 ((nI_leI (a := nm) (b := k) (by omega) (by omega)).mpr z)
    refine lv_iload_n hx hb dX10_stepAt_8 rfl (lv_at hl 1 rfl) ?_
    refine lv_goto (tgt := 21) hx hb dX10_stepAt_9 (by decide) ?_
    exact rt_i C hQ (hP.sub (ws' := [(bx, .inr (11, [.int th, .int (nI n), .ref b0, .ref b1, .ref b2, .int (nI nm), .ref b3, .ref b4, .ref b5, .ref b6, .ref b7, .ref b8, .ref b9, .ref b10, .ref b11, .ref b12, .int (nI nk), .ref b13, .ref b14, .ref b15, .int (nI nd), .int (nI ng), .ref b16, .ref b17, .ref b18, .ref b19, .int be, .int bl, .ref b20, .int pe, .int (nI nn), .ref b21, .ref b22, .ref b23, .ref b24, .ref b25, .ref b26, .ref b27, .ref b28, .ref b29, .int (nI tc), .ref b30, .int (nI ncc), .long mk, .int fd, .int bs, .int (nI ps), .ref b31, .ref b32, .int sn, .int kt, .int bh]))]) [0] rfl) (hD.sub [0] (by decide) rfl) hS ⟨by simp only [n_by]; first | (rw [if_pos (by omega)]) | (rw [if_neg (by omega)]), rfl⟩ (by decide) (by decide) dX10_stepAt_21
