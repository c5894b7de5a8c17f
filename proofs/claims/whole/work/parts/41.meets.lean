/-! the model: meets (written by s21.py) -/
set_option maxHeartbeats 4000000 in
set_option maxRecDepth 100000 in
theorem lp_X10_meets_15 (l : Launch) (D : va_G) (cI cJ cZ : ClassId) (bx : Nat) (b0 : Nat) (b1 : Nat) (b2 : Nat) (b3 : Nat) (b4 : Nat) (b5 : Nat) (b6 : Nat) (b7 : Nat) (b8 : Nat) (b9 : Nat) (b10 : Nat) (b11 : Nat) (b12 : Nat) (b13 : Nat) (b14 : Nat) (b15 : Nat) (b16 : Nat) (b17 : Nat) (b18 : Nat) (b19 : Nat) (b20 : Nat) (b21 : Nat) (b22 : Nat) (b23 : Nat) (b24 : Nat) (b25 : Nat) (b26 : Nat) (b27 : Nat) (b28 : Nat) (b29 : Nat) (b30 : Nat) (b31 : Nat) (b32 : Nat) (th : Int32) (n : Nat) (nm : Nat) (nk : Nat) (nd : Nat) (ng : Nat) (be : Int32) (bl : Int32) (pe : Int32) (nn : Nat) (tc : Nat) (ncc : Nat) (mk : Int64) (fd : Int32) (bs : Int32) (ps : Nat) (sn : Int32) (kt : Int32) (bh : Int32) (wt : Nat → Int32) (gk : Nat → Int32) (ga : Nat → Int32) (gb : Nat → Int32) (bw : Nat → Int32) (w : Int64) (tx : Int32) (hn : n ≤ 10) (hd_ : dgOK n bw w) (hwf : wfW n w) (hng : ng ≤ 4) (hgo : goOK n ng gk ga)   {p : Program} {e : Env} {s : State} {m : MethodId} {below : List Frame} {meth : Method} {c : Code} {A : Nat → Prop} {Q : State → Prop} (C : Cx D cI cJ cZ p s m ([.ref bx, .int tx] : List Value).toArray meth c yX10_meets cX10_meets 5 (some .boolean)) (hQ : QOK Q below s ([.ref bx, .int tx] : List Value).toArray D A (fun r W => ((r = some (.int 1) ∧ (0 < ng ∧ f_met w be bl (f_score wt w n) tx gk ga gb ng = true)) ∨ (r = some (.int 0) ∧ ¬ (0 < ng ∧ f_met w be bl (f_score wt w n) tx gk ga gb ng = true))) ∧ W = [(bx, .inr (11, [.int th, .int (nI n), .ref b0, .ref b1, .ref b2, .int (nI nm), .ref b3, .ref b4, .ref b5, .ref b6, .ref b7, .ref b8, .ref b9, .ref b10, .ref b11, .ref b12, .int (nI nk), .ref b13, .ref b14, .ref b15, .int (nI nd), .int (nI ng), .ref b16, .ref b17, .ref b18, .ref b19, .int be, .int bl, .ref b20, .int pe, .int (nI nn), .ref b21, .ref b22, .ref b23, .ref b24, .ref b25, .ref b26, .ref b27, .ref b28, .ref b29, .int (nI tc), .ref b30, .int (nI ncc), .long mk, .int fd, .int bs, .int (nI ps), .ref b31, .ref b32, .int sn, .int kt, .int bh])), (b2, .inl (cI, 10, .inl wt)), (b16, .inl (cI, 4, .inl gk)), (b17, .inl (cI, 4, .inl ga)), (b18, .inl (cI, 4, .inl gb)), (b19, .inl (cI, 10, .inl bw))]) 0 0) (hA : ∀ q, s.heap.size ≤ q → A q) : ∀ (ku : Nat) (i : Nat) (ab : Bool) (hi : i ≤ ng) (hab : ab = f_metB ng w be bl (f_score wt w n) tx gk ga gb i), (ng - i) < ku → ∀ (H : Heap) (locs : List Loc) (ls : Array Slot), va_P D vwCl [(bx, .inr (11, [.int th, .int (nI n), .ref b0, .ref b1, .ref b2, .int (nI nm), .ref b3, .ref b4, .ref b5, .ref b6, .ref b7, .ref b8, .ref b9, .ref b10, .ref b11, .ref b12, .int (nI nk), .ref b13, .ref b14, .ref b15, .int (nI nd), .int (nI ng), .ref b16, .ref b17, .ref b18, .ref b19, .int be, .int bl, .ref b20, .int pe, .int (nI nn), .ref b21, .ref b22, .ref b23, .ref b24, .ref b25, .ref b26, .ref b27, .ref b28, .ref b29, .int (nI tc), .ref b30, .int (nI ncc), .long mk, .int fd, .int bs, .int (nI ps), .ref b31, .ref b32, .int sn, .int kt, .int bh])), (b2, .inl (cI, 10, .inl wt)), (b16, .inl (cI, 4, .inl gk)), (b17, .inl (cI, 4, .inl ga)), (b18, .inl (cI, 4, .inl gb)), (b19, .inl (cI, 10, .inl bw))] H → va_D A [(bx, .inr (11, [.int th, .int (nI n), .ref b0, .ref b1, .ref b2, .int (nI nm), .ref b3, .ref b4, .ref b5, .ref b6, .ref b7, .ref b8, .ref b9, .ref b10, .ref b11, .ref b12, .int (nI nk), .ref b13, .ref b14, .ref b15, .int (nI nd), .int (nI ng), .ref b16, .ref b17, .ref b18, .ref b19, .int be, .int bl, .ref b20, .int pe, .int (nI nn), .ref b21, .ref b22, .ref b23, .ref b24, .ref b25, .ref b26, .ref b27, .ref b28, .ref b29, .int (nI tc), .ref b30, .int (nI ncc), .long mk, .int fd, .int bs, .int (nI ps), .ref b31, .ref b32, .int sn, .int kt, .int bh])), (b2, .inl (cI, 10, .inl wt)), (b16, .inl (cI, 4, .inl gk)), (b17, .inl (cI, 4, .inl ga)), (b18, .inl (cI, 4, .inl gb)), (b19, .inl (cI, 10, .inl bw))] → va_S A s.heap H locs → lv_has ls 5 [(0, .ref bx), (1, .int tx), (2, .int (b2i ab)), (3, .int (nI i))] → W p l e ({ frames := 1, cells := 0, slots := 0, locals := 22 } : Room) s m ([.ref bx, .int tx] : List Value).toArray below meth c H locs 0 0 Q (F0 m 15 ls []) := by
  obtain ⟨hx, hb, hr, hml, hts, hown, hlk, hnm, hK, hN⟩ := id C
  intro ku
  induction ku with
  | zero =>
    intro i ab hi hab hku
    exact absurd hku (Nat.not_lt_zero _)
  | succ ku ih =>
    intro i ab hi hab hku H locs ls hP hD hS hl
    refine lv_iload_n hx hb dX10_meets_15 rfl (lv_at hl 3 rfl) ?_
    refine lv_aload_n hx hb dX10_meets_16 rfl (lv_at hl 0 rfl) ?_
    refine r_get (v := .int (nI ng)) C hP okX10 0 21 rfl (by decide) fl_X10_138 rfl rfl dX10_meets_17 ?_
    refine lv_icmp_ge (tgt := 154) hx hb dX10_meets_20 (by decide) (fun c_20 => ?_) (fun c_20 => ?_)
    · -- taken 20
      have c_20 : ng ≤ i := (nI_leI (a := ng) (b := i) (by omega) (by omega)).mp c_20
      cases ab with
      | false =>
        refine lv_iload_n hx hb dX10_meets_154 rfl (lv_at hl 2 rfl) ?_
        refine r_top (x' := 0) rfl ?_
        exact rt_z C hQ (by decide) (hP.sub (ws' := [(bx, .inr (11, [.int th, .int (nI n), .ref b0, .ref b1, .ref b2, .int (nI nm), .ref b3, .ref b4, .ref b5, .ref b6, .ref b7, .ref b8, .ref b9, .ref b10, .ref b11, .ref b12, .int (nI nk), .ref b13, .ref b14, .ref b15, .int (nI nd), .int (nI ng), .ref b16, .ref b17, .ref b18, .ref b19, .int be, .int bl, .ref b20, .int pe, .int (nI nn), .ref b21, .ref b22, .ref b23, .ref b24, .ref b25, .ref b26, .ref b27, .ref b28, .ref b29, .int (nI tc), .ref b30, .int (nI ncc), .long mk, .int fd, .int bs, .int (nI ps), .ref b31, .ref b32, .int sn, .int kt, .int bh])), (b2, .inl (cI, 10, .inl wt)), (b16, .inl (cI, 4, .inl gk)), (b17, .inl (cI, 4, .inl ga)), (b18, .inl (cI, 4, .inl gb)), (b19, .inl (cI, 10, .inl bw))]) [0, 1, 2, 3, 4, 5] rfl) (hD.sub [0, 1, 2, 3, 4, 5] (by decide) rfl) hS ⟨Or.inr ⟨rfl, fun z => by have z2 := f_metB_no hab.symm (ng - i); rw [show i + (ng - i) = ng by omega, f_metB_iff.mpr z] at z2; exact absurd z2 (by decide)⟩, rfl⟩ (by decide) (by decide) dX10_meets_155
      | true =>
        refine lv_iload_n hx hb dX10_meets_154 rfl (lv_at hl 2 rfl) ?_
        refine r_top (x' := 1) rfl ?_
        exact rt_z C hQ (by decide) (hP.sub (ws' := [(bx, .inr (11, [.int th, .int (nI n), .ref b0, .ref b1, .ref b2, .int (nI nm), .ref b3, .ref b4, .ref b5, .ref b6, .ref b7, .ref b8, .ref b9, .ref b10, .ref b11, .ref b12, .int (nI nk), .ref b13, .ref b14, .ref b15, .int (nI nd), .int (nI ng), .ref b16, .ref b17, .ref b18, .ref b19, .int be, .int bl, .ref b20, .int pe, .int (nI nn), .ref b21, .ref b22, .ref b23, .ref b24, .ref b25, .ref b26, .ref b27, .ref b28, .ref b29, .int (nI tc), .ref b30, .int (nI ncc), .long mk, .int fd, .int bs, .int (nI ps), .ref b31, .ref b32, .int sn, .int kt, .int bh])), (b2, .inl (cI, 10, .inl wt)), (b16, .inl (cI, 4, .inl gk)), (b17, .inl (cI, 4, .inl ga)), (b18, .inl (cI, 4, .inl gb)), (b19, .inl (cI, 10, .inl bw))]) [0, 1, 2, 3, 4, 5] rfl) (hD.sub [0, 1, 2, 3, 4, 5] (by decide) rfl) hS ⟨Or.inl ⟨rfl, f_metB_iff.mp (by rw [show ng = i by omega] at hab ⊢; exact hab.symm)⟩, rfl⟩ (by decide) (by decide) dX10_meets_155
    · -- not taken 20
      have c_20 : ¬ (ng ≤ i) := fun z => c_20 ((nI_leI (a := ng) (b := i) (by omega) (by omega)).mpr z)
      refine lv_iload_n hx hb dX10_meets_23 rfl (lv_at hl 2 rfl) ?_
      refine lv_if_eq (tgt := 154) hx hb dX10_meets_24 (by decide) (fun c_24 => ?_) (fun c_24 => ?_)
      · -- taken 24
        obtain rfl : ab = false := by cases ab with | false => rfl | true => exact absurd c_24 (by decide)
        refine lv_iload_n hx hb dX10_meets_154 rfl (lv_at hl 2 rfl) ?_
        refine r_top (x' := 0) rfl ?_
        exact rt_z C hQ (by decide) (hP.sub (ws' := [(bx, .inr (11, [.int th, .int (nI n), .ref b0, .ref b1, .ref b2, .int (nI nm), .ref b3, .ref b4, .ref b5, .ref b6, .ref b7, .ref b8, .ref b9, .ref b10, .ref b11, .ref b12, .int (nI nk), .ref b13, .ref b14, .ref b15, .int (nI nd), .int (nI ng), .ref b16, .ref b17, .ref b18, .ref b19, .int be, .int bl, .ref b20, .int pe, .int (nI nn), .ref b21, .ref b22, .ref b23, .ref b24, .ref b25, .ref b26, .ref b27, .ref b28, .ref b29, .int (nI tc), .ref b30, .int (nI ncc), .long mk, .int fd, .int bs, .int (nI ps), .ref b31, .ref b32, .int sn, .int kt, .int bh])), (b2, .inl (cI, 10, .inl wt)), (b16, .inl (cI, 4, .inl gk)), (b17, .inl (cI, 4, .inl ga)), (b18, .inl (cI, 4, .inl gb)), (b19, .inl (cI, 10, .inl bw))]) [0, 1, 2, 3, 4, 5] rfl) (hD.sub [0, 1, 2, 3, 4, 5] (by decide) rfl) hS ⟨Or.inr ⟨rfl, fun z => by have z2 := f_metB_no hab.symm (ng - i); rw [show i + (ng - i) = ng by omega, f_metB_iff.mpr z] at z2; exact absurd z2 (by decide)⟩, rfl⟩ (by decide) (by decide) dX10_meets_155
      · -- not taken 24
        obtain rfl : ab = true := by cases ab with | false => exact absurd rfl c_24 | true => rfl
        refine lv_aload_n hx hb dX10_meets_27 rfl (lv_at hl 0 rfl) ?_
        refine r_get (v := .ref b17) C hP okX10 0 23 rfl (by decide) fl_X10_62 rfl rfl dX10_meets_28 ?_
        refine lv_iload_n hx hb dX10_meets_31 rfl (lv_at hl 3 rfl) ?_
        refine r_iald (j := i) C hP 3 rfl (by omega) (by decide) dX10_meets_32 ?_
        refine lv_istore (lv' := [(4, .int (ga i)), (0, .ref bx), (1, .int tx), (2, .int (b2i true)), (3, .int (nI i))]) hx hb dX10_meets_33 hl (by decide) rfl (fun ls hl => ?_)
        refine lv_aload_n hx hb dX10_meets_35 rfl (lv_at hl 1 rfl) ?_
        refine r_get (v := .ref b16) C hP okX10 0 22 rfl (by decide) fl_X10_59 rfl rfl dX10_meets_36 ?_
        refine lv_iload_n hx hb dX10_meets_39 rfl (lv_at hl 4 rfl) ?_
        refine r_iald (j := i) C hP 2 rfl (by omega) (by decide) dX10_meets_40 ?_
        by_cases w_41_0 : gk i = 0
        · refine r_top w_41_0 ?_
          refine lv_tableIn (off := 27) (tgt := 68) hx hb dX10_meets_41 (by decide) (by decide) (by decide +kernel) (by decide) ?_
          refine lv_aload_n hx hb dX10_meets_68 rfl (lv_at hl 1 rfl) ?_
          refine r_get (v := .ref b19) C hP okX10 0 25 rfl (by decide) fl_X10_68 rfl rfl dX10_meets_69 ?_
          refine lv_iload hx hb dX10_meets_72 (lv_at hl 0 rfl) ?_
          obtain ⟨ja, hja, eja⟩ := hgo i (by omega) w_41_0
          refine r_top eja ?_
          refine r_iald (j := ja) C hP 5 rfl (by omega) (by decide) dX10_meets_74 ?_
          refine lv_aload_n hx hb dX10_meets_75 rfl (lv_at hl 1 rfl) ?_
          refine r_get (v := .ref b18) C hP okX10 0 24 rfl (by decide) fl_X10_65 rfl rfl dX10_meets_76 ?_
          refine lv_iload_n hx hb dX10_meets_79 rfl (lv_at hl 4 rfl) ?_
          refine r_iald (j := i) C hP 4 rfl (by omega) (by decide) dX10_meets_80 ?_
          refine lv_icmp_ne (tgt := 88) hx hb dX10_meets_81 (by decide) (fun c_81 => ?_) (fun c_81 => ?_)
          · -- taken 81
            refine lv_iconst (v := 0) hx hb dX10_meets_88 (by decide) ?_
            refine lv_istore_n (lv' := [(2, .int 0), (4, .int (ga i)), (0, .ref bx), (1, .int tx), (3, .int (nI i))]) hx hb dX10_meets_89 rfl hl (by decide) rfl (fun ls hl => ?_)
            refine lv_goto (tgt := 148) hx hb dX10_meets_90 (by decide) ?_
            have hh : f_part w be bl (f_score wt w n) tx (gk i) (ga i) (gb i) = false := by simp only [f_part]; rw [if_pos w_41_0, eja]; have z : f_valueIn w (nI ja) = bw ja := (hd_ ja hja).symm; rw [z]; simpa using c_81
            refine lv_iinc (v := nI (i + 1)) (lv' := [(3, .int (nI (i + 1))), (2, .int 0), (4, .int (ga i)), (0, .ref bx), (1, .int tx)]) hx hb dX10_meets_148 hl (k := 4) rfl (nI_1 _) (by decide) rfl (fun ls hl => ?_)
            refine lv_goto (tgt := 15) hx hb dX10_meets_151 (by decide) ?_
            exact ih (i + 1) false (by omega) (by rw [f_metB_s, ← hab, hh]; rfl) (by omega) _ _ _ (hP.sub [0, 1, 2, 3, 4, 5] rfl) (hD.sub [0, 1, 2, 3, 4, 5] (by decide) rfl) hS (lv_sub hl [3, 4, 1, 0] rfl)
          · -- not taken 81
            refine lv_iconst (v := 1) hx hb dX10_meets_84 (by decide) ?_
            refine lv_goto (tgt := 89) hx hb dX10_meets_85 (by decide) ?_
            refine lv_istore_n (lv' := [(2, .int 1), (4, .int (ga i)), (0, .ref bx), (1, .int tx), (3, .int (nI i))]) hx hb dX10_meets_89 rfl hl (by decide) rfl (fun ls hl => ?_)
            refine lv_goto (tgt := 148) hx hb dX10_meets_90 (by decide) ?_
            have hh : f_part w be bl (f_score wt w n) tx (gk i) (ga i) (gb i) = true := by simp only [f_part]; rw [if_pos w_41_0, eja]; have z : f_valueIn w (nI ja) = bw ja := (hd_ ja hja).symm; rw [z]; simpa using c_81
            refine lv_iinc (v := nI (i + 1)) (lv' := [(3, .int (nI (i + 1))), (2, .int 1), (4, .int (ga i)), (0, .ref bx), (1, .int tx)]) hx hb dX10_meets_148 hl (k := 4) rfl (nI_1 _) (by decide) rfl (fun ls hl => ?_)
            refine lv_goto (tgt := 15) hx hb dX10_meets_151 (by decide) ?_
            exact ih (i + 1) true (by omega) (by rw [f_metB_s, ← hab, hh]; rfl) (by omega) _ _ _ (hP.sub [0, 1, 2, 3, 4, 5] rfl) (hD.sub [0, 1, 2, 3, 4, 5] (by decide) rfl) hS (lv_sub hl [3, 4, 1, 0] rfl)
        by_cases w_41_1 : gk i = 1
        · refine r_top w_41_1 ?_
          refine lv_tableIn (off := 52) (tgt := 93) hx hb dX10_meets_41 (by decide) (by decide) (by decide +kernel) (by decide) ?_
          refine lv_aload_n hx hb dX10_meets_93 rfl (lv_at hl 1 rfl) ?_
          refine cl_v C (c_X10_scoreOf l D cI cJ cZ bx b0 b1 b2 b3 b4 b5 b6 b7 b8 b9 b10 b11 b12 b13 b14 b15 b16 b17 b18 b19 b20 b21 b22 b23 b24 b25 b26 b27 b28 b29 b30 b31 b32 th n nm nk nd ng be bl pe nn tc ncc mk fd bs ps sn kt bh wt bw w (by omega) hd_) cd_X10_scoreOf ml_X10_165 im_X10_scoreOf se_X10_scoreOf in_X10 hd_X10_scoreOf ⟨by decide, by decide⟩ hP hD hS hA (WR := [(b16, .inl (cI, 4, .inl gk)), (b17, .inl (cI, 4, .inl ga)), (b18, .inl (cI, 4, .inl gb))]) [0, 1, 5] [2, 3, 4] rfl rfl rfl rfl (by decide) (ci := 11) (q0 := 0) rfl rfl hl.1 rfl (Nat.le_of_ble_eq_true rfl) dX10_meets_94 ⟨by decide, by decide⟩ (fun r W H locs hp hP hD hS => ?_)
          obtain ⟨rfl, rfl⟩ := hp
          refine W.eq (g2 := F0 m 97 ls [.int (f_score wt w n)]) rfl ?_
          have hP : va_P D vwCl [(b16, .inl (cI, 4, .inl gk)), (b17, .inl (cI, 4, .inl ga)), (b18, .inl (cI, 4, .inl gb)), (bx, .inr (11, [.int th, .int (nI n), .ref b0, .ref b1, .ref b2, .int (nI nm), .ref b3, .ref b4, .ref b5, .ref b6, .ref b7, .ref b8, .ref b9, .ref b10, .ref b11, .ref b12, .int (nI nk), .ref b13, .ref b14, .ref b15, .int (nI nd), .int (nI ng), .ref b16, .ref b17, .ref b18, .ref b19, .int be, .int bl, .ref b20, .int pe, .int (nI nn), .ref b21, .ref b22, .ref b23, .ref b24, .ref b25, .ref b26, .ref b27, .ref b28, .ref b29, .int (nI tc), .ref b30, .int (nI ncc), .long mk, .int fd, .int bs, .int (nI ps), .ref b31, .ref b32, .int sn, .int kt, .int bh])), (b2, .inl (cI, 10, .inl wt)), (b19, .inl (cI, 10, .inl bw))] H := hP
          have hD : va_D A [(b16, .inl (cI, 4, .inl gk)), (b17, .inl (cI, 4, .inl ga)), (b18, .inl (cI, 4, .inl gb)), (bx, .inr (11, [.int th, .int (nI n), .ref b0, .ref b1, .ref b2, .int (nI nm), .ref b3, .ref b4, .ref b5, .ref b6, .ref b7, .ref b8, .ref b9, .ref b10, .ref b11, .ref b12, .int (nI nk), .ref b13, .ref b14, .ref b15, .int (nI nd), .int (nI ng), .ref b16, .ref b17, .ref b18, .ref b19, .int be, .int bl, .ref b20, .int pe, .int (nI nn), .ref b21, .ref b22, .ref b23, .ref b24, .ref b25, .ref b26, .ref b27, .ref b28, .ref b29, .int (nI tc), .ref b30, .int (nI ncc), .long mk, .int fd, .int bs, .int (nI ps), .ref b31, .ref b32, .int sn, .int kt, .int bh])), (b2, .inl (cI, 10, .inl wt)), (b19, .inl (cI, 10, .inl bw))] := hD
          refine lv_iload hx hb dX10_meets_97 (lv_at hl 0 rfl) ?_
          refine lv_icmp_lt (tgt := 106) hx hb dX10_meets_99 (by decide) (fun c_99 => ?_) (fun c_99 => ?_)
          · -- taken 99
            refine lv_iconst (v := 0) hx hb dX10_meets_106 (by decide) ?_
            refine lv_istore_n (lv' := [(2, .int 0), (4, .int (ga i)), (0, .ref bx), (1, .int tx), (3, .int (nI i))]) hx hb dX10_meets_107 rfl hl (by decide) rfl (fun ls hl => ?_)
            refine lv_goto (tgt := 148) hx hb dX10_meets_108 (by decide) ?_
            have hh : f_part w be bl (f_score wt w n) tx (gk i) (ga i) (gb i) = false := by simp only [f_part]; rw [if_neg w_41_0, if_pos w_41_1]; simpa using c_99
            refine lv_iinc (v := nI (i + 1)) (lv' := [(3, .int (nI (i + 1))), (2, .int 0), (4, .int (ga i)), (0, .ref bx), (1, .int tx)]) hx hb dX10_meets_148 hl (k := 4) rfl (nI_1 _) (by decide) rfl (fun ls hl => ?_)
            refine lv_goto (tgt := 15) hx hb dX10_meets_151 (by decide) ?_
            exact ih (i + 1) false (by omega) (by rw [f_metB_s, ← hab, hh]; rfl) (by omega) _ _ _ (hP.sub [3, 4, 0, 1, 2, 5] rfl) (hD.sub [3, 4, 0, 1, 2, 5] (by decide) rfl) hS (lv_sub hl [3, 4, 1, 0] rfl)
          · -- not taken 99
            refine lv_iconst (v := 1) hx hb dX10_meets_102 (by decide) ?_
            refine lv_goto (tgt := 107) hx hb dX10_meets_103 (by decide) ?_
            refine lv_istore_n (lv' := [(2, .int 1), (4, .int (ga i)), (0, .ref bx), (1, .int tx), (3, .int (nI i))]) hx hb dX10_meets_107 rfl hl (by decide) rfl (fun ls hl => ?_)
            refine lv_goto (tgt := 148) hx hb dX10_meets_108 (by decide) ?_
            have hh : f_part w be bl (f_score wt w n) tx (gk i) (ga i) (gb i) = true := by simp only [f_part]; rw [if_neg w_41_0, if_pos w_41_1]; simpa using Int32.not_lt.mp c_99
            refine lv_iinc (v := nI (i + 1)) (lv' := [(3, .int (nI (i + 1))), (2, .int 1), (4, .int (ga i)), (0, .ref bx), (1, .int tx)]) hx hb dX10_meets_148 hl (k := 4) rfl (nI_1 _) (by decide) rfl (fun ls hl => ?_)
            refine lv_goto (tgt := 15) hx hb dX10_meets_151 (by decide) ?_
            exact ih (i + 1) true (by omega) (by rw [f_metB_s, ← hab, hh]; rfl) (by omega) _ _ _ (hP.sub [3, 4, 0, 1, 2, 5] rfl) (hD.sub [3, 4, 0, 1, 2, 5] (by decide) rfl) hS (lv_sub hl [3, 4, 1, 0] rfl)
        by_cases w_41_2 : gk i = 2
        · refine r_top w_41_2 ?_
          refine lv_tableIn (off := 70) (tgt := 111) hx hb dX10_meets_41 (by decide) (by decide) (by decide +kernel) (by decide) ?_
          refine lv_iload_n hx hb dX10_meets_111 rfl (lv_at hl 2 rfl) ?_
          refine lv_if_eq (tgt := 124) hx hb dX10_meets_112 (by decide) (fun c_112 => ?_) (fun c_112 => ?_)
          · -- taken 112
            refine lv_iconst (v := 1) hx hb dX10_meets_124 (by decide) ?_
            refine lv_goto (tgt := 129) hx hb dX10_meets_125 (by decide) ?_
            refine lv_istore_n (lv' := [(2, .int 1), (4, .int (ga i)), (0, .ref bx), (1, .int tx), (3, .int (nI i))]) hx hb dX10_meets_129 rfl hl (by decide) rfl (fun ls hl => ?_)
            refine lv_goto (tgt := 148) hx hb dX10_meets_130 (by decide) ?_
            have hh : f_part w be bl (f_score wt w n) tx (gk i) (ga i) (gb i) = true := by simp only [f_part]; rw [if_neg w_41_0, if_neg w_41_1, if_pos w_41_2]; simp [c_112]
            refine lv_iinc (v := nI (i + 1)) (lv' := [(3, .int (nI (i + 1))), (2, .int 1), (4, .int (ga i)), (0, .ref bx), (1, .int tx)]) hx hb dX10_meets_148 hl (k := 4) rfl (nI_1 _) (by decide) rfl (fun ls hl => ?_)
            refine lv_goto (tgt := 15) hx hb dX10_meets_151 (by decide) ?_
            exact ih (i + 1) true (by omega) (by rw [f_metB_s, ← hab, hh]; rfl) (by omega) _ _ _ (hP.sub [0, 1, 2, 3, 4, 5] rfl) (hD.sub [0, 1, 2, 3, 4, 5] (by decide) rfl) hS (lv_sub hl [3, 4, 1, 0] rfl)
          · -- not taken 112
            refine lv_aload_n hx hb dX10_meets_115 rfl (lv_at hl 1 rfl) ?_
            refine r_get (v := .int bl) C hP okX10 0 27 rfl (by decide) fl_X10_152 rfl rfl dX10_meets_116 ?_
            refine lv_iload hx hb dX10_meets_119 (lv_at hl 0 rfl) ?_
            refine lv_icmp_ne (tgt := 128) hx hb dX10_meets_121 (by decide) (fun c_121 => ?_) (fun c_121 => ?_)
            · -- taken 121
              refine lv_iconst (v := 0) hx hb dX10_meets_128 (by decide) ?_
              refine lv_istore_n (lv' := [(2, .int 0), (4, .int (ga i)), (0, .ref bx), (1, .int tx), (3, .int (nI i))]) hx hb dX10_meets_129 rfl hl (by decide) rfl (fun ls hl => ?_)
              refine lv_goto (tgt := 148) hx hb dX10_meets_130 (by decide) ?_
              have hh : f_part w be bl (f_score wt w n) tx (gk i) (ga i) (gb i) = false := by simp only [f_part]; rw [if_neg w_41_0, if_neg w_41_1, if_pos w_41_2]; simp [c_112, c_121]
              refine lv_iinc (v := nI (i + 1)) (lv' := [(3, .int (nI (i + 1))), (2, .int 0), (4, .int (ga i)), (0, .ref bx), (1, .int tx)]) hx hb dX10_meets_148 hl (k := 4) rfl (nI_1 _) (by decide) rfl (fun ls hl => ?_)
              refine lv_goto (tgt := 15) hx hb dX10_meets_151 (by decide) ?_
              exact ih (i + 1) false (by omega) (by rw [f_metB_s, ← hab, hh]; rfl) (by omega) _ _ _ (hP.sub [0, 1, 2, 3, 4, 5] rfl) (hD.sub [0, 1, 2, 3, 4, 5] (by decide) rfl) hS (lv_sub hl [3, 4, 1, 0] rfl)
            · -- not taken 121
              refine lv_iconst (v := 1) hx hb dX10_meets_124 (by decide) ?_
              refine lv_goto (tgt := 129) hx hb dX10_meets_125 (by decide) ?_
              refine lv_istore_n (lv' := [(2, .int 1), (4, .int (ga i)), (0, .ref bx), (1, .int tx), (3, .int (nI i))]) hx hb dX10_meets_129 rfl hl (by decide) rfl (fun ls hl => ?_)
              refine lv_goto (tgt := 148) hx hb dX10_meets_130 (by decide) ?_
              have hh : f_part w be bl (f_score wt w n) tx (gk i) (ga i) (gb i) = true := by simp only [f_part]; rw [if_neg w_41_0, if_neg w_41_1, if_pos w_41_2]; simp [c_112, c_121]
              refine lv_iinc (v := nI (i + 1)) (lv' := [(3, .int (nI (i + 1))), (2, .int 1), (4, .int (ga i)), (0, .ref bx), (1, .int tx)]) hx hb dX10_meets_148 hl (k := 4) rfl (nI_1 _) (by decide) rfl (fun ls hl => ?_)
              refine lv_goto (tgt := 15) hx hb dX10_meets_151 (by decide) ?_
              exact ih (i + 1) true (by omega) (by rw [f_metB_s, ← hab, hh]; rfl) (by omega) _ _ _ (hP.sub [0, 1, 2, 3, 4, 5] rfl) (hD.sub [0, 1, 2, 3, 4, 5] (by decide) rfl) hS (lv_sub hl [3, 4, 1, 0] rfl)
        refine lv_tableOut (tgt := 133) hx hb dX10_meets_41 (sw_out 2 (by decide) (fun k hk => by match k, hk with | 0, _ => exact w_41_0 | 1, _ => exact w_41_1 | 2, _ => exact w_41_2 | k + 3, hk => exact absurd hk (by omega))) (by decide) ?_
        refine lv_aload_n hx hb dX10_meets_133 rfl (lv_at hl 1 rfl) ?_
        refine r_get (v := .int be) C hP okX10 0 26 rfl (by decide) fl_X10_141 rfl rfl dX10_meets_134 ?_
        refine lv_iload hx hb dX10_meets_137 (lv_at hl 0 rfl) ?_
        refine lv_icmp_ne (tgt := 146) hx hb dX10_meets_139 (by decide) (fun c_139 => ?_) (fun c_139 => ?_)
        · -- taken 139
          refine lv_iconst (v := 0) hx hb dX10_meets_146 (by decide) ?_
          refine lv_istore_n (lv' := [(2, .int 0), (4, .int (ga i)), (0, .ref bx), (1, .int tx), (3, .int (nI i))]) hx hb dX10_meets_147 rfl hl (by decide) rfl (fun ls hl => ?_)
          have hh : f_part w be bl (f_score wt w n) tx (gk i) (ga i) (gb i) = false := by simp only [f_part]; rw [if_neg w_41_0, if_neg w_41_1, if_neg w_41_2]; simpa using c_139
          refine lv_iinc (v := nI (i + 1)) (lv' := [(3, .int (nI (i + 1))), (2, .int 0), (4, .int (ga i)), (0, .ref bx), (1, .int tx)]) hx hb dX10_meets_148 hl (k := 4) rfl (nI_1 _) (by decide) rfl (fun ls hl => ?_)
          refine lv_goto (tgt := 15) hx hb dX10_meets_151 (by decide) ?_
          exact ih (i + 1) false (by omega) (by rw [f_metB_s, ← hab, hh]; rfl) (by omega) _ _ _ (hP.sub [0, 1, 2, 3, 4, 5] rfl) (hD.sub [0, 1, 2, 3, 4, 5] (by decide) rfl) hS (lv_sub hl [3, 4, 1, 0] rfl)
        · -- not taken 139
          refine lv_iconst (v := 1) hx hb dX10_meets_142 (by decide) ?_
          refine lv_goto (tgt := 147) hx hb dX10_meets_143 (by decide) ?_
          refine lv_istore_n (lv' := [(2, .int 1), (4, .int (ga i)), (0, .ref bx), (1, .int tx), (3, .int (nI i))]) hx hb dX10_meets_147 rfl hl (by decide) rfl (fun ls hl => ?_)
          have hh : f_part w be bl (f_score wt w n) tx (gk i) (ga i) (gb i) = true := by simp only [f_part]; rw [if_neg w_41_0, if_neg w_41_1, if_neg w_41_2]; simpa using c_139
          refine lv_iinc (v := nI (i + 1)) (lv' := [(3, .int (nI (i + 1))), (2, .int 1), (4, .int (ga i)), (0, .ref bx), (1, .int tx)]) hx hb dX10_meets_148 hl (k := 4) rfl (nI_1 _) (by decide) rfl (fun ls hl => ?_)
          refine lv_goto (tgt := 15) hx hb dX10_meets_151 (by decide) ?_
          exact ih (i + 1) true (by omega) (by rw [f_metB_s, ← hab, hh]; rfl) (by omega) _ _ _ (hP.sub [0, 1, 2, 3, 4, 5] rfl) (hD.sub [0, 1, 2, 3, 4, 5] (by decide) rfl) hS (lv_sub hl [3, 4, 1, 0] rfl)
set_option maxHeartbeats 4000000 in
set_option maxRecDepth 100000 in
theorem c_X10_meets (l : Launch) (D : va_G) (cI cJ cZ : ClassId) (bx : Nat) (b0 : Nat) (b1 : Nat) (b2 : Nat) (b3 : Nat) (b4 : Nat) (b5 : Nat) (b6 : Nat) (b7 : Nat) (b8 : Nat) (b9 : Nat) (b10 : Nat) (b11 : Nat) (b12 : Nat) (b13 : Nat) (b14 : Nat) (b15 : Nat) (b16 : Nat) (b17 : Nat) (b18 : Nat) (b19 : Nat) (b20 : Nat) (b21 : Nat) (b22 : Nat) (b23 : Nat) (b24 : Nat) (b25 : Nat) (b26 : Nat) (b27 : Nat) (b28 : Nat) (b29 : Nat) (b30 : Nat) (b31 : Nat) (b32 : Nat) (th : Int32) (n : Nat) (nm : Nat) (nk : Nat) (nd : Nat) (ng : Nat) (be : Int32) (bl : Int32) (pe : Int32) (nn : Nat) (tc : Nat) (ncc : Nat) (mk : Int64) (fd : Int32) (bs : Int32) (ps : Nat) (sn : Int32) (kt : Int32) (bh : Int32) (wt : Nat → Int32) (gk : Nat → Int32) (ga : Nat → Int32) (gb : Nat → Int32) (bw : Nat → Int32) (w : Int64) (tx : Int32) (hn : n ≤ 10) (hd_ : dgOK n bw w) (hwf : wfW n w) (hng : ng ≤ 4) (hgo : goOK n ng gk ga) : Ctr l D cI cJ cZ yX10_meets cX10_meets 5 (some .boolean) ({ frames := 1, cells := 0, slots := 0, locals := 22 } : Room) [.ref bx, .int tx] [(bx, .inr (11, [.int th, .int (nI n), .ref b0, .ref b1, .ref b2, .int (nI nm), .ref b3, .ref b4, .ref b5, .ref b6, .ref b7, .ref b8, .ref b9, .ref b10, .ref b11, .ref b12, .int (nI nk), .ref b13, .ref b14, .ref b15, .int (nI nd), .int (nI ng), .ref b16, .ref b17, .ref b18, .ref b19, .int be, .int bl, .ref b20, .int pe, .int (nI nn), .ref b21, .ref b22, .ref b23, .ref b24, .ref b25, .ref b26, .ref b27, .ref b28, .ref b29, .int (nI tc), .ref b30, .int (nI ncc), .long mk, .int fd, .int bs, .int (nI ps), .ref b31, .ref b32, .int sn, .int kt, .int bh])), (b2, .inl (cI, 10, .inl wt)), (b16, .inl (cI, 4, .inl gk)), (b17, .inl (cI, 4, .inl ga)), (b18, .inl (cI, 4, .inl gb)), (b19, .inl (cI, 10, .inl bw))] (fun r W => ((r = some (.int 1) ∧ (0 < ng ∧ f_met w be bl (f_score wt w n) tx gk ga gb ng = true)) ∨ (r = some (.int 0) ∧ ¬ (0 < ng ∧ f_met w be bl (f_score wt w n) tx gk ga gb ng = true))) ∧ W = [(bx, .inr (11, [.int th, .int (nI n), .ref b0, .ref b1, .ref b2, .int (nI nm), .ref b3, .ref b4, .ref b5, .ref b6, .ref b7, .ref b8, .ref b9, .ref b10, .ref b11, .ref b12, .int (nI nk), .ref b13, .ref b14, .ref b15, .int (nI nd), .int (nI ng), .ref b16, .ref b17, .ref b18, .ref b19, .int be, .int bl, .ref b20, .int pe, .int (nI nn), .ref b21, .ref b22, .ref b23, .ref b24, .ref b25, .ref b26, .ref b27, .ref b28, .ref b29, .int (nI tc), .ref b30, .int (nI ncc), .long mk, .int fd, .int bs, .int (nI ps), .ref b31, .ref b32, .int sn, .int kt, .int bh])), (b2, .inl (cI, 10, .inl wt)), (b16, .inl (cI, 4, .inl gk)), (b17, .inl (cI, 4, .inl ga)), (b18, .inl (cI, 4, .inl gb)), (b19, .inl (cI, 10, .inl bw))]) := by
  refine Ctr.start (by decide +kernel) (Nat.le_of_ble_eq_true rfl) ?_
  intro p e s m below meth c A Q ls H C hQ hA hP hD hS hl
  obtain ⟨hx, hb, hr, hml, hts, hown, hlk, hnm, hK, hN⟩ := id C
  have hl : lv_has ls 5 [(0, .ref bx), (1, .int tx)] := hl
  refine lv_aload_n hx hb dX10_meets_0 rfl (lv_at hl 0 rfl) ?_
  refine r_get (v := .int (nI ng)) C hP okX10 0 21 rfl (by decide) fl_X10_138 rfl rfl dX10_meets_1 ?_
  refine lv_if_le (tgt := 11) hx hb dX10_meets_4 (by decide) (fun c_4 => ?_) (fun c_4 => ?_)
  · -- taken 4
    have c_4 : ng ≤ 0 := (nI_leI (a := ng) (b := 0) (by omega) (by omega)).mp c_4
    refine lv_iconst (v := 0) hx hb dX10_meets_11 (by decide) ?_
    refine lv_istore_n (lv' := [(2, .int 0), (0, .ref bx), (1, .int tx)]) hx hb dX10_meets_12 rfl hl (by decide) rfl (fun ls hl => ?_)
    refine lv_iconst (v := 0) hx hb dX10_meets_13 (by decide) ?_
    refine lv_istore_n (lv' := [(3, .int 0), (2, .int 0), (0, .ref bx), (1, .int tx)]) hx hb dX10_meets_14 rfl hl (by decide) rfl (fun ls hl => ?_)
    exact lp_X10_meets_15 l D cI cJ cZ bx b0 b1 b2 b3 b4 b5 b6 b7 b8 b9 b10 b11 b12 b13 b14 b15 b16 b17 b18 b19 b20 b21 b22 b23 b24 b25 b26 b27 b28 b29 b30 b31 b32 th n nm nk nd ng be bl pe nn tc ncc mk fd bs ps sn kt bh wt gk ga gb bw w tx hn hd_ hwf hng hgo   C hQ hA _ 0 false (by omega) (by simp [f_metB, f_met]; omega) (Nat.lt_succ_self _) _ _ _ (hP.sub [0, 1, 2, 3, 4, 5] rfl) (hD.sub [0, 1, 2, 3, 4, 5] (by decide) rfl) hS (lv_sub hl [2, 3, 1, 0] rfl)
  · -- not taken 4
    have c_4 : ¬ (ng ≤ 0) := fun z => c_4 ((nI_leI (a := ng) (b := 0) (by omega) (by omega)).mpr z)
    refine lv_iconst (v := 1) hx hb dX10_meets_7 (by decide) ?_
    refine lv_goto (tgt := 12) hx hb dX10_meets_8 (by decide) ?_
    refine lv_istore_n (lv' := [(2, .int 1), (0, .ref bx), (1, .int tx)]) hx hb dX10_meets_12 rfl hl (by decide) rfl (fun ls hl => ?_)
    refine lv_iconst (v := 0) hx hb dX10_meets_13 (by decide) ?_
    refine lv_istore_n (lv' := [(3, .int 0), (2, .int 1), (0, .ref bx), (1, .int tx)]) hx hb dX10_meets_14 rfl hl (by decide) rfl (fun ls hl => ?_)
    exact lp_X10_meets_15 l D cI cJ cZ bx b0 b1 b2 b3 b4 b5 b6 b7 b8 b9 b10 b11 b12 b13 b14 b15 b16 b17 b18 b19 b20 b21 b22 b23 b24 b25 b26 b27 b28 b29 b30 b31 b32 th n nm nk nd ng be bl pe nn tc ncc mk fd bs ps sn kt bh wt gk ga gb bw w tx hn hd_ hwf hng hgo   C hQ hA _ 0 true (by omega) (by simp [f_metB, f_met]; omega) (Nat.lt_succ_self _) _ _ _ (hP.sub [0, 1, 2, 3, 4, 5] rfl) (hD.sub [0, 1, 2, 3, 4, 5] (by decide) rfl) hS (lv_sub hl [2, 3, 1, 0] rfl)
