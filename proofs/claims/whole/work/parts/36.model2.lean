/-! the model (written by s17.py) -/
theorem bit_sh (s : Int32) {j : Nat} (hj : j < 32) : (s >>> (nI j &&& 31)) &&& 1 = f_bit s (nI j) := by
  have hs : ∀ j, j < 32 → ((nI j &&& 31).toBitVec.smod 32).toNat = j := by decide +kernel
  have hu : ∀ j, j < 32 → ((nI j).toUInt32 &&& Int32.toUInt32 31).toNat = j := by decide +kernel
  simp only [f_bit]
  apply Int32.toBitVec_inj.mp
  rw [Int32.toBitVec_and, Int32.toBitVec_and]
  apply BitVec.eq_of_getLsbD_eq
  intro i hi
  rw [BitVec.getLsbD_and, BitVec.getLsbD_and]
  have e1 : (1 : Int32).toBitVec.getLsbD i = decide (i = 0) := by
    show (1#32).getLsbD i = _
    rw [BitVec.getLsbD_one]
    simp
  rw [e1]
  by_cases h0 : i = 0
  · subst h0
    congr 1
    show (s.toBitVec.sshiftRight' ((nI j &&& 31).toBitVec.smod 32)).getLsbD 0 = _
    rw [BitVec.sshiftRight', hs j hj, BitVec.getLsbD_sshiftRight]
    show _ = (s.toBitVec >>> ((((nI j).toUInt32 &&& Int32.toUInt32 31)).toBitVec % 32)).getLsbD 0
    have e2 : ((((nI j).toUInt32 &&& Int32.toUInt32 31)).toBitVec % 32) = BitVec.ofNat 32 j := by
      apply BitVec.eq_of_toNat_eq
      rw [BitVec.toNat_umod]
      show ((nI j).toUInt32 &&& Int32.toUInt32 31).toNat % 32 = _
      rw [hu j hj, BitVec.toNat_ofNat, Nat.mod_eq_of_lt hj]
      omega
    rw [e2, BitVec.ushiftRight_eq', BitVec.getLsbD_ushiftRight, BitVec.toNat_ofNat]
    rw [Nat.mod_eq_of_lt (show j < 2 ^ 32 by omega)]
    simp [hj]
  · simp [h0]
theorem bit_01 (s k : Int32) : f_bit s k = 0 ∨ f_bit s k = 1 := by
  simp only [f_bit]
  obtain ⟨j, hj, e⟩ := pk_andE (s.toUInt32 >>> (k.toUInt32 &&& Int32.toUInt32 31)).toInt32 (m := 1) 1 (by decide)
  rw [e]
  match j, hj with
  | 0, _ => exact Or.inl rfl
  | 1, _ => exact Or.inr rfl
theorem bit_unseen (kt sn : Int32) {j : Nat} (hj : j < 32) : f_bit (kt &&& (sn ^^^ (-1))) (nI j) = 1 ↔ f_bit kt (nI j) = 1 ∧ f_bit sn (nI j) = 0 := by
  have hu : ∀ j, j < 32 → ((nI j).toUInt32 &&& Int32.toUInt32 31).toNat = j := by decide +kernel
  have key : ∀ s : Int32, f_bit s (nI j) = if s.toBitVec.getLsbD j = true then 1 else 0 := by
    intro s
    simp only [f_bit]
    apply Int32.toBitVec_inj.mp
    rw [Int32.toBitVec_and]
    apply BitVec.eq_of_getLsbD_eq
    intro i hi
    rw [BitVec.getLsbD_and]
    have e1 : (1 : Int32).toBitVec.getLsbD i = decide (i = 0) := by
      show (1#32).getLsbD i = _
      rw [BitVec.getLsbD_one]
      simp
    rw [e1]
    have e2 : ((((nI j).toUInt32 &&& Int32.toUInt32 31)).toBitVec % 32) = BitVec.ofNat 32 j := by
      apply BitVec.eq_of_toNat_eq
      rw [BitVec.toNat_umod]
      show ((nI j).toUInt32 &&& Int32.toUInt32 31).toNat % 32 = _
      rw [hu j hj, BitVec.toNat_ofNat, Nat.mod_eq_of_lt hj]
      omega
    have e3 : (s.toUInt32 >>> ((nI j).toUInt32 &&& Int32.toUInt32 31)).toInt32.toBitVec.getLsbD i = s.toBitVec.getLsbD (j + i) := by
      show (s.toBitVec >>> ((((nI j).toUInt32 &&& Int32.toUInt32 31)).toBitVec % 32)).getLsbD i = _
      rw [e2, BitVec.ushiftRight_eq', BitVec.getLsbD_ushiftRight, BitVec.toNat_ofNat, Nat.mod_eq_of_lt (show j < 2 ^ 32 by omega)]
    rw [e3]
    by_cases h0 : i = 0
    · subst h0
      by_cases hb : s.toBitVec.getLsbD j = true
      · rw [if_pos hb]
        simp [hb, e1]
      · rw [if_neg hb]
        have : s.toBitVec.getLsbD j = false := by simpa using hb
        simp [this]
    · have e4 : (1 : Int32).toBitVec.getLsbD i = false := by rw [e1]; simp [h0]
      split
      · simp [h0, e4]
      · simp [h0]
  rw [key, key kt, key sn]
  have e5 : (kt &&& (sn ^^^ (-1))).toBitVec.getLsbD j = (kt.toBitVec.getLsbD j && !sn.toBitVec.getLsbD j) := by
    rw [Int32.toBitVec_and, Int32.toBitVec_xor, BitVec.getLsbD_and, BitVec.getLsbD_xor, show (-1 : Int32).toBitVec = BitVec.allOnes 32 by decide +kernel, BitVec.getLsbD_allOnes]
    simp [hj]
  rw [e5]
  cases kt.toBitVec.getLsbD j <;> cases sn.toBitVec.getLsbD j <;> simp
theorem f_never_neg {u : Int32} : ∀ (f t : Nat) (k : Int32), k < 0 → f ≤ 32 → (∀ i : Nat, i < f → k + (-(nI i)) ≠ 0) → f_never u f t k = -1
  | 0, t, k, _, _, _ => rfl
  | f + 1, t, k, h, hf, hn => by
    simp only [f_never]
    have h0 : ¬ k = 0 := fun z => by rw [z] at h; exact absurd h (by decide)
    split
    · try rw [if_neg h0]
      exact never_aux f (t + 1) (k + (-1)) (fun i hi => by
        have := hn (i + 1) (by omega)
        rw [nI_succ] at this
        intro z
        apply this
        rw [← z, Int32.neg_add, Int32.sub_eq_add_neg]
        rw [Int32.add_assoc, Int32.add_comm (-1) (-(nI i))])
    · exact f_never_neg f (t + 1) k h (by omega) (fun i hi => hn i (by omega))
  where never_aux : ∀ (f t : Nat) (k : Int32), (∀ i : Nat, i < f → k + (-(nI i)) ≠ 0) → f_never u f t k = -1
    | 0, t, k, _ => rfl
    | f + 1, t, k, hn => by
      have h0 : ¬ k = 0 := fun z => hn 0 (by omega) (by rw [z]; decide)
      simp only [f_never]
      split
      · try rw [if_neg h0]
        exact never_aux f (t + 1) (k + (-1)) (fun i hi => by
          have := hn (i + 1) (by omega)
          rw [nI_succ] at this
          intro z
          apply this
          rw [← z, Int32.neg_add, Int32.sub_eq_add_neg]
          rw [Int32.add_assoc, Int32.add_comm (-1) (-(nI i))])
      · exact never_aux f (t + 1) k (fun i hi => hn i (by omega))
theorem f_never_m {u k : Int32} (h : k < 0) : f_never u 32 0 k = -1 := f_never_neg 32 0 k h (Nat.le_refl _) (fun i hi z => by
  have e : k = nI i := by
    have h1 : k + (-(nI i)) + nI i = 0 + nI i := by rw [z]
    rw [Int32.add_assoc, Int32.add_left_neg, Int32.add_zero, Int32.zero_add] at h1
    exact h1
  rw [e] at h
  exact nI_pos (by omega) h)
theorem asked_m {w : Int64} {what : Int32} {n : Nat} (hn : n ≤ 10) (h : what < 10 ∨ nI n ≤ what - 10) : f_asked w what n = -1 := by
  simp only [f_asked]
  rw [if_neg]
  rintro ⟨h1, h2⟩
  rcases h with h | h
  · exact absurd h1 (Int32.not_le.mpr h)
  · have h0 : ¬ what < 0 := by
      rw [Int32.lt_iff_toInt_lt]
      rw [Int32.le_iff_toInt_le] at h1
      have e1 : (10 : Int32).toInt = 10 := by decide
      have e2 : (0 : Int32).toInt = 0 := by decide
      omega
    obtain ⟨j, hj, rfl⟩ := nI_of h0
    have a1 : 10 ≤ j := (nI_leI (a := 10) (by decide) hj).mp h1
    have a2 : j < 10 + n := (nI_ltI hj (by omega)).mp h2
    rw [show (nI j - 10) = nI (j - 10) from pk_sub (b := 10) a1] at h
    have := (nI_leI (by omega) (by omega)).mp h
    omega
theorem asked_y {what : Int32} {n : Nat} (hn : n ≤ 10) (h1 : ¬ what < 10) (h2 : ¬ nI n ≤ what - 10) : ∃ k, k < n ∧ what - 10 = nI k ∧ 10 ≤ what ∧ what < nI (10 + n) := by
  have h0 : ¬ what < 0 := by
    rw [Int32.lt_iff_toInt_lt] at h1 ⊢
    have e1 : (10 : Int32).toInt = 10 := by decide
    have e2 : (0 : Int32).toInt = 0 := by decide
    omega
  obtain ⟨j, hj, rfl⟩ := nI_of h0
  have a1 : 10 ≤ j := by
    rcases Nat.lt_or_ge j 10 with q | q
    · exact absurd ((nI_ltI (b := 10) hj (by decide)).mpr q) h1
    · exact q
  have e : nI j - 10 = nI (j - 10) := pk_sub (b := 10) a1
  rw [e] at h2
  have a2 : j - 10 < n := by
    rcases Nat.lt_or_ge (j - 10) n with q | q
    · exact q
    · exact absurd ((nI_leI (by omega) (by omega)).mpr q) h2
  exact ⟨j - 10, a2, e, nI_le (a := 10) a1 hj, nI_lt (by omega) (by omega)⟩
set_option maxHeartbeats 4000000 in
set_option maxRecDepth 100000 in
theorem c_X10_isEffect (l : Launch) (D : va_G) (cI cJ cZ : ClassId) (bx : Nat) (b0 : Nat) (b1 : Nat) (b2 : Nat) (b3 : Nat) (b4 : Nat) (b5 : Nat) (b6 : Nat) (b7 : Nat) (b8 : Nat) (b9 : Nat) (b10 : Nat) (b11 : Nat) (b12 : Nat) (b13 : Nat) (b14 : Nat) (b15 : Nat) (b16 : Nat) (b17 : Nat) (b18 : Nat) (b19 : Nat) (b20 : Nat) (b21 : Nat) (b22 : Nat) (b23 : Nat) (b24 : Nat) (b25 : Nat) (b26 : Nat) (b27 : Nat) (b28 : Nat) (b29 : Nat) (b30 : Nat) (b31 : Nat) (b32 : Nat) (th : Int32) (n : Nat) (nm : Nat) (nk : Nat) (nd : Nat) (ng : Nat) (be : Int32) (bl : Int32) (pe : Int32) (nn : Nat) (tc : Nat) (ncc : Nat) (mk : Int64) (fd : Int32) (bs : Int32) (ps : Nat) (sn : Int32) (kt : Int32) (bh : Int32) (k : Int32) (v : Int32) (hn : n ≤ 10) : Ctr l D cI cJ cZ yX10_isEffect cX10_isEffect 3 (some .boolean) ({ frames := 1, cells := 0, slots := 0, locals := 21 } : Room) [.ref bx, .int k, .int v] [(bx, .inr (11, [.int th, .int (nI n), .ref b0, .ref b1, .ref b2, .int (nI nm), .ref b3, .ref b4, .ref b5, .ref b6, .ref b7, .ref b8, .ref b9, .ref b10, .ref b11, .ref b12, .int (nI nk), .ref b13, .ref b14, .ref b15, .int (nI nd), .int (nI ng), .ref b16, .ref b17, .ref b18, .ref b19, .int be, .int bl, .ref b20, .int pe, .int (nI nn), .ref b21, .ref b22, .ref b23, .ref b24, .ref b25, .ref b26, .ref b27, .ref b28, .ref b29, .int (nI tc), .ref b30, .int (nI ncc), .long mk, .int fd, .int bs, .int (nI ps), .ref b31, .ref b32, .int sn, .int kt, .int bh]))] (fun r W => ((r = some (.int 1) ∧ (f_isEffect n k v = true)) ∨ (r = some (.int 0) ∧ ¬ (f_isEffect n k v = true))) ∧ W = [(bx, .inr (11, [.int th, .int (nI n), .ref b0, .ref b1, .ref b2, .int (nI nm), .ref b3, .ref b4, .ref b5, .ref b6, .ref b7, .ref b8, .ref b9, .ref b10, .ref b11, .ref b12, .int (nI nk), .ref b13, .ref b14, .ref b15, .int (nI nd), .int (nI ng), .ref b16, .ref b17, .ref b18, .ref b19, .int be, .int bl, .ref b20, .int pe, .int (nI nn), .ref b21, .ref b22, .ref b23, .ref b24, .ref b25, .ref b26, .ref b27, .ref b28, .ref b29, .int (nI tc), .ref b30, .int (nI ncc), .long mk, .int fd, .int bs, .int (nI ps), .ref b31, .ref b32, .int sn, .int kt, .int bh]))]) := by
  refine Ctr.start (by decide +kernel) (Nat.le_of_ble_eq_true rfl) ?_
  intro p e s m below meth c A Q ls H C hQ hA hP hD hS hl
  obtain ⟨hx, hb, hr, hml, hts, hown, hlk, hnm, hK, hN⟩ := id C
  have hl : lv_has ls 3 [(0, .ref bx), (1, .int k), (2, .int v)] := hl
  refine lv_iload_n hx hb dX10_isEffect_0 rfl (lv_at hl 1 rfl) ?_
  by_cases w_1_0 : k = 0
  · refine r_top w_1_0 ?_
    refine lv_tableIn (off := 31) (tgt := 32) hx hb dX10_isEffect_1 (by decide) (by decide) (by decide +kernel) (by decide) ?_
    refine lv_iload_n hx hb dX10_isEffect_32 rfl (lv_at hl 2 rfl) ?_
    refine lv_if_lt (tgt := 46) hx hb dX10_isEffect_33 (by decide) (fun c_33 => ?_) (fun c_33 => ?_)
    · -- taken 33
      refine lv_iconst (v := 0) hx hb dX10_isEffect_46 (by decide) ?_
      exact rt_z C hQ (by decide) (hP.sub (ws' := [(bx, .inr (11, [.int th, .int (nI n), .ref b0, .ref b1, .ref b2, .int (nI nm), .ref b3, .ref b4, .ref b5, .ref b6, .ref b7, .ref b8, .ref b9, .ref b10, .ref b11, .ref b12, .int (nI nk), .ref b13, .ref b14, .ref b15, .int (nI nd), .int (nI ng), .ref b16, .ref b17, .ref b18, .ref b19, .int be, .int bl, .ref b20, .int pe, .int (nI nn), .ref b21, .ref b22, .ref b23, .ref b24, .ref b25, .ref b26, .ref b27, .ref b28, .ref b29, .int (nI tc), .ref b30, .int (nI ncc), .long mk, .int fd, .int bs, .int (nI ps), .ref b31, .ref b32, .int sn, .int kt, .int bh]))]) [0] rfl) (hD.sub [0] (by decide) rfl) hS ⟨Or.inr ⟨rfl, (by simp only [f_isEffect, w_1_0, if_true, if_false]; first | exact rg_y c_33 c_39 | exact rg_n1 c_33 | exact rg_n2 c_39)⟩, rfl⟩ (by decide) (by decide) dX10_isEffect_47
    · -- not taken 33
      refine lv_iload_n hx hb dX10_isEffect_36 rfl (lv_at hl 2 rfl) ?_
      refine lv_bipush (v := 9) hx hb dX10_isEffect_37 (by decide) ?_
      refine lv_icmp_gt (tgt := 46) hx hb dX10_isEffect_39 (by decide) (fun c_39 => ?_) (fun c_39 => ?_)
      · -- taken 39
        refine lv_iconst (v := 0) hx hb dX10_isEffect_46 (by decide) ?_
        exact rt_z C hQ (by decide) (hP.sub (ws' := [(bx, .inr (11, [.int th, .int (nI n), .ref b0, .ref b1, .ref b2, .int (nI nm), .ref b3, .ref b4, .ref b5, .ref b6, .ref b7, .ref b8, .ref b9, .ref b10, .ref b11, .ref b12, .int (nI nk), .ref b13, .ref b14, .ref b15, .int (nI nd), .int (nI ng), .ref b16, .ref b17, .ref b18, .ref b19, .int be, .int bl, .ref b20, .int pe, .int (nI nn), .ref b21, .ref b22, .ref b23, .ref b24, .ref b25, .ref b26, .ref b27, .ref b28, .ref b29, .int (nI tc), .ref b30, .int (nI ncc), .long mk, .int fd, .int bs, .int (nI ps), .ref b31, .ref b32, .int sn, .int kt, .int bh]))]) [0] rfl) (hD.sub [0] (by decide) rfl) hS ⟨Or.inr ⟨rfl, (by simp only [f_isEffect, w_1_0, if_true, if_false]; first | exact rg_y c_33 c_39 | exact rg_n1 c_33 | exact rg_n2 c_39)⟩, rfl⟩ (by decide) (by decide) dX10_isEffect_47
      · -- not taken 39
        refine lv_iconst (v := 1) hx hb dX10_isEffect_42 (by decide) ?_
        refine lv_goto (tgt := 47) hx hb dX10_isEffect_43 (by decide) ?_
        exact rt_z C hQ (by decide) (hP.sub (ws' := [(bx, .inr (11, [.int th, .int (nI n), .ref b0, .ref b1, .ref b2, .int (nI nm), .ref b3, .ref b4, .ref b5, .ref b6, .ref b7, .ref b8, .ref b9, .ref b10, .ref b11, .ref b12, .int (nI nk), .ref b13, .ref b14, .ref b15, .int (nI nd), .int (nI ng), .ref b16, .ref b17, .ref b18, .ref b19, .int be, .int bl, .ref b20, .int pe, .int (nI nn), .ref b21, .ref b22, .ref b23, .ref b24, .ref b25, .ref b26, .ref b27, .ref b28, .ref b29, .int (nI tc), .ref b30, .int (nI ncc), .long mk, .int fd, .int bs, .int (nI ps), .ref b31, .ref b32, .int sn, .int kt, .int bh]))]) [0] rfl) (hD.sub [0] (by decide) rfl) hS ⟨Or.inl ⟨rfl, (by simp only [f_isEffect, w_1_0, if_true, if_false]; first | exact rg_y c_33 c_39 | exact rg_n1 c_33 | exact rg_n2 c_39)⟩, rfl⟩ (by decide) (by decide) dX10_isEffect_47
  by_cases w_1_1 : k = 1
  · refine r_top w_1_1 ?_
    refine lv_tableIn (off := 47) (tgt := 48) hx hb dX10_isEffect_1 (by decide) (by decide) (by decide +kernel) (by decide) ?_
    refine lv_iload_n hx hb dX10_isEffect_48 rfl (lv_at hl 2 rfl) ?_
    refine lv_bipush (v := (-9)) hx hb dX10_isEffect_49 (by decide) ?_
    refine lv_icmp_lt (tgt := 64) hx hb dX10_isEffect_51 (by decide) (fun c_51 => ?_) (fun c_51 => ?_)
    · -- taken 51
      refine lv_iconst (v := 0) hx hb dX10_isEffect_64 (by decide) ?_
      exact rt_z C hQ (by decide) (hP.sub (ws' := [(bx, .inr (11, [.int th, .int (nI n), .ref b0, .ref b1, .ref b2, .int (nI nm), .ref b3, .ref b4, .ref b5, .ref b6, .ref b7, .ref b8, .ref b9, .ref b10, .ref b11, .ref b12, .int (nI nk), .ref b13, .ref b14, .ref b15, .int (nI nd), .int (nI ng), .ref b16, .ref b17, .ref b18, .ref b19, .int be, .int bl, .ref b20, .int pe, .int (nI nn), .ref b21, .ref b22, .ref b23, .ref b24, .ref b25, .ref b26, .ref b27, .ref b28, .ref b29, .int (nI tc), .ref b30, .int (nI ncc), .long mk, .int fd, .int bs, .int (nI ps), .ref b31, .ref b32, .int sn, .int kt, .int bh]))]) [0] rfl) (hD.sub [0] (by decide) rfl) hS ⟨Or.inr ⟨rfl, (by simp only [f_isEffect, w_1_0, w_1_1, if_true, if_false]; first | exact rg_y c_51 c_57 | exact rg_n1 c_51 | exact rg_n2 c_57)⟩, rfl⟩ (by decide) (by decide) dX10_isEffect_65
    · -- not taken 51
      refine lv_iload_n hx hb dX10_isEffect_54 rfl (lv_at hl 2 rfl) ?_
      refine lv_bipush (v := 9) hx hb dX10_isEffect_55 (by decide) ?_
      refine lv_icmp_gt (tgt := 64) hx hb dX10_isEffect_57 (by decide) (fun c_57 => ?_) (fun c_57 => ?_)
      · -- taken 57
        refine lv_iconst (v := 0) hx hb dX10_isEffect_64 (by decide) ?_
        exact rt_z C hQ (by decide) (hP.sub (ws' := [(bx, .inr (11, [.int th, .int (nI n), .ref b0, .ref b1, .ref b2, .int (nI nm), .ref b3, .ref b4, .ref b5, .ref b6, .ref b7, .ref b8, .ref b9, .ref b10, .ref b11, .ref b12, .int (nI nk), .ref b13, .ref b14, .ref b15, .int (nI nd), .int (nI ng), .ref b16, .ref b17, .ref b18, .ref b19, .int be, .int bl, .ref b20, .int pe, .int (nI nn), .ref b21, .ref b22, .ref b23, .ref b24, .ref b25, .ref b26, .ref b27, .ref b28, .ref b29, .int (nI tc), .ref b30, .int (nI ncc), .long mk, .int fd, .int bs, .int (nI ps), .ref b31, .ref b32, .int sn, .int kt, .int bh]))]) [0] rfl) (hD.sub [0] (by decide) rfl) hS ⟨Or.inr ⟨rfl, (by simp only [f_isEffect, w_1_0, w_1_1, if_true, if_false]; first | exact rg_y c_51 c_57 | exact rg_n1 c_51 | exact rg_n2 c_57)⟩, rfl⟩ (by decide) (by decide) dX10_isEffect_65
      · -- not taken 57
        refine lv_iconst (v := 1) hx hb dX10_isEffect_60 (by decide) ?_
        refine lv_goto (tgt := 65) hx hb dX10_isEffect_61 (by decide) ?_
        exact rt_z C hQ (by decide) (hP.sub (ws' := [(bx, .inr (11, [.int th, .int (nI n), .ref b0, .ref b1, .ref b2, .int (nI nm), .ref b3, .ref b4, .ref b5, .ref b6, .ref b7, .ref b8, .ref b9, .ref b10, .ref b11, .ref b12, .int (nI nk), .ref b13, .ref b14, .ref b15, .int (nI nd), .int (nI ng), .ref b16, .ref b17, .ref b18, .ref b19, .int be, .int bl, .ref b20, .int pe, .int (nI nn), .ref b21, .ref b22, .ref b23, .ref b24, .ref b25, .ref b26, .ref b27, .ref b28, .ref b29, .int (nI tc), .ref b30, .int (nI ncc), .long mk, .int fd, .int bs, .int (nI ps), .ref b31, .ref b32, .int sn, .int kt, .int bh]))]) [0] rfl) (hD.sub [0] (by decide) rfl) hS ⟨Or.inl ⟨rfl, (by simp only [f_isEffect, w_1_0, w_1_1, if_true, if_false]; first | exact rg_y c_51 c_57 | exact rg_n1 c_51 | exact rg_n2 c_57)⟩, rfl⟩ (by decide) (by decide) dX10_isEffect_65
  by_cases w_1_2 : k = 2
  · refine r_top w_1_2 ?_
    refine lv_tableIn (off := 65) (tgt := 66) hx hb dX10_isEffect_1 (by decide) (by decide) (by decide +kernel) (by decide) ?_
    refine lv_aload_n hx hb dX10_isEffect_66 rfl (lv_at hl 0 rfl) ?_
    refine lv_iload_n hx hb dX10_isEffect_67 rfl (lv_at hl 2 rfl) ?_
    refine cl_v C (c_X10_noCell l D cI cJ cZ bx b0 b1 b2 b3 b4 b5 b6 b7 b8 b9 b10 b11 b12 b13 b14 b15 b16 b17 b18 b19 b20 b21 b22 b23 b24 b25 b26 b27 b28 b29 b30 b31 b32 th n nm nk nd ng be bl pe nn tc ncc mk fd bs ps sn kt bh v) cd_X10_noCell ml_X10_121 im_X10_noCell se_X10_noCell in_X10 hd_X10_noCell ⟨by decide, by decide⟩ hP hD hS hA (WR := []) [0] [] rfl rfl rfl rfl (by decide) (ci := 11) (q0 := 0) rfl rfl hl.1 rfl (Nat.le_of_ble_eq_true rfl) dX10_isEffect_68 ⟨by decide, by decide⟩ (fun r W H locs hp hP hD hS => ?_)
    rcases hp with ⟨⟨rfl, hb_68⟩ | ⟨rfl, hb_68⟩, rfl⟩
    · -- yes 68
      refine W.eq (g2 := F0 m 71 ls [.int 1]) rfl ?_
      have hP : va_P D vwCl [(bx, .inr (11, [.int th, .int (nI n), .ref b0, .ref b1, .ref b2, .int (nI nm), .ref b3, .ref b4, .ref b5, .ref b6, .ref b7, .ref b8, .ref b9, .ref b10, .ref b11, .ref b12, .int (nI nk), .ref b13, .ref b14, .ref b15, .int (nI nd), .int (nI ng), .ref b16, .ref b17, .ref b18, .ref b19, .int be, .int bl, .ref b20, .int pe, .int (nI nn), .ref b21, .ref b22, .ref b23, .ref b24, .ref b25, .ref b26, .ref b27, .ref b28, .ref b29, .int (nI tc), .ref b30, .int (nI ncc), .long mk, .int fd, .int bs, .int (nI ps), .ref b31, .ref b32, .int sn, .int kt, .int bh]))] H := hP
      have hD : va_D A [(bx, .inr (11, [.int th, .int (nI n), .ref b0, .ref b1, .ref b2, .int (nI nm), .ref b3, .ref b4, .ref b5, .ref b6, .ref b7, .ref b8, .ref b9, .ref b10, .ref b11, .ref b12, .int (nI nk), .ref b13, .ref b14, .ref b15, .int (nI nd), .int (nI ng), .ref b16, .ref b17, .ref b18, .ref b19, .int be, .int bl, .ref b20, .int pe, .int (nI nn), .ref b21, .ref b22, .ref b23, .ref b24, .ref b25, .ref b26, .ref b27, .ref b28, .ref b29, .int (nI tc), .ref b30, .int (nI ncc), .long mk, .int fd, .int bs, .int (nI ps), .ref b31, .ref b32, .int sn, .int kt, .int bh]))] := hD
      refine lv_if_ne (tgt := 78) hx hb dX10_isEffect_71 (by decide) (fun c_71 => ?_) (fun c_71 => ?_)
      rotate_left
      · exact absurd c_71 (by decide)
      refine lv_iconst (v := 0) hx hb dX10_isEffect_78 (by decide) ?_
      exact rt_z C hQ (by decide) (hP.sub (ws' := [(bx, .inr (11, [.int th, .int (nI n), .ref b0, .ref b1, .ref b2, .int (nI nm), .ref b3, .ref b4, .ref b5, .ref b6, .ref b7, .ref b8, .ref b9, .ref b10, .ref b11, .ref b12, .int (nI nk), .ref b13, .ref b14, .ref b15, .int (nI nd), .int (nI ng), .ref b16, .ref b17, .ref b18, .ref b19, .int be, .int bl, .ref b20, .int pe, .int (nI nn), .ref b21, .ref b22, .ref b23, .ref b24, .ref b25, .ref b26, .ref b27, .ref b28, .ref b29, .int (nI tc), .ref b30, .int (nI ncc), .long mk, .int fd, .int bs, .int (nI ps), .ref b31, .ref b32, .int sn, .int kt, .int bh]))]) [0] rfl) (hD.sub [0] (by decide) rfl) hS ⟨Or.inr ⟨rfl, (by simp only [f_isEffect, w_1_0, w_1_1, w_1_2, if_true, if_false]; first | exact Classical.not_not.mp hb_68 | exact hb_68)⟩, rfl⟩ (by decide) (by decide) dX10_isEffect_79
    · -- no 68
      refine W.eq (g2 := F0 m 71 ls [.int 0]) rfl ?_
      have hP : va_P D vwCl [(bx, .inr (11, [.int th, .int (nI n), .ref b0, .ref b1, .ref b2, .int (nI nm), .ref b3, .ref b4, .ref b5, .ref b6, .ref b7, .ref b8, .ref b9, .ref b10, .ref b11, .ref b12, .int (nI nk), .ref b13, .ref b14, .ref b15, .int (nI nd), .int (nI ng), .ref b16, .ref b17, .ref b18, .ref b19, .int be, .int bl, .ref b20, .int pe, .int (nI nn), .ref b21, .ref b22, .ref b23, .ref b24, .ref b25, .ref b26, .ref b27, .ref b28, .ref b29, .int (nI tc), .ref b30, .int (nI ncc), .long mk, .int fd, .int bs, .int (nI ps), .ref b31, .ref b32, .int sn, .int kt, .int bh]))] H := hP
      have hD : va_D A [(bx, .inr (11, [.int th, .int (nI n), .ref b0, .ref b1, .ref b2, .int (nI nm), .ref b3, .ref b4, .ref b5, .ref b6, .ref b7, .ref b8, .ref b9, .ref b10, .ref b11, .ref b12, .int (nI nk), .ref b13, .ref b14, .ref b15, .int (nI nd), .int (nI ng), .ref b16, .ref b17, .ref b18, .ref b19, .int be, .int bl, .ref b20, .int pe, .int (nI nn), .ref b21, .ref b22, .ref b23, .ref b24, .ref b25, .ref b26, .ref b27, .ref b28, .ref b29, .int (nI tc), .ref b30, .int (nI ncc), .long mk, .int fd, .int bs, .int (nI ps), .ref b31, .ref b32, .int sn, .int kt, .int bh]))] := hD
      refine lv_if_ne (tgt := 78) hx hb dX10_isEffect_71 (by decide) (fun c_71 => ?_) (fun c_71 => ?_)
      · exact absurd c_71 (by decide)
      refine lv_iconst (v := 1) hx hb dX10_isEffect_74 (by decide) ?_
      refine lv_goto (tgt := 79) hx hb dX10_isEffect_75 (by decide) ?_
      exact rt_z C hQ (by decide) (hP.sub (ws' := [(bx, .inr (11, [.int th, .int (nI n), .ref b0, .ref b1, .ref b2, .int (nI nm), .ref b3, .ref b4, .ref b5, .ref b6, .ref b7, .ref b8, .ref b9, .ref b10, .ref b11, .ref b12, .int (nI nk), .ref b13, .ref b14, .ref b15, .int (nI nd), .int (nI ng), .ref b16, .ref b17, .ref b18, .ref b19, .int be, .int bl, .ref b20, .int pe, .int (nI nn), .ref b21, .ref b22, .ref b23, .ref b24, .ref b25, .ref b26, .ref b27, .ref b28, .ref b29, .int (nI tc), .ref b30, .int (nI ncc), .long mk, .int fd, .int bs, .int (nI ps), .ref b31, .ref b32, .int sn, .int kt, .int bh]))]) [0] rfl) (hD.sub [0] (by decide) rfl) hS ⟨Or.inl ⟨rfl, (by simp only [f_isEffect, w_1_0, w_1_1, w_1_2, if_true, if_false]; first | exact Classical.not_not.mp hb_68 | exact hb_68)⟩, rfl⟩ (by decide) (by decide) dX10_isEffect_79
  by_cases w_1_3 : k = 3
  · refine r_top w_1_3 ?_
    refine lv_tableIn (off := 79) (tgt := 80) hx hb dX10_isEffect_1 (by decide) (by decide) (by decide +kernel) (by decide) ?_
    refine lv_iload_n hx hb dX10_isEffect_80 rfl (lv_at hl 2 rfl) ?_
    refine lv_iconst (v := 1) hx hb dX10_isEffect_81 (by decide) ?_
    refine lv_icmp_lt (tgt := 95) hx hb dX10_isEffect_82 (by decide) (fun c_82 => ?_) (fun c_82 => ?_)
    · -- taken 82
      refine lv_iconst (v := 0) hx hb dX10_isEffect_95 (by decide) ?_
      exact rt_z C hQ (by decide) (hP.sub (ws' := [(bx, .inr (11, [.int th, .int (nI n), .ref b0, .ref b1, .ref b2, .int (nI nm), .ref b3, .ref b4, .ref b5, .ref b6, .ref b7, .ref b8, .ref b9, .ref b10, .ref b11, .ref b12, .int (nI nk), .ref b13, .ref b14, .ref b15, .int (nI nd), .int (nI ng), .ref b16, .ref b17, .ref b18, .ref b19, .int be, .int bl, .ref b20, .int pe, .int (nI nn), .ref b21, .ref b22, .ref b23, .ref b24, .ref b25, .ref b26, .ref b27, .ref b28, .ref b29, .int (nI tc), .ref b30, .int (nI ncc), .long mk, .int fd, .int bs, .int (nI ps), .ref b31, .ref b32, .int sn, .int kt, .int bh]))]) [0] rfl) (hD.sub [0] (by decide) rfl) hS ⟨Or.inr ⟨rfl, (by simp only [f_isEffect, w_1_0, w_1_1, w_1_2, w_1_3, if_true, if_false]; first | exact rg_y c_82 c_88 | exact rg_n1 c_82 | exact rg_n2 c_88)⟩, rfl⟩ (by decide) (by decide) dX10_isEffect_96
    · -- not taken 82
      refine lv_iload_n hx hb dX10_isEffect_85 rfl (lv_at hl 2 rfl) ?_
      refine lv_bipush (v := 10) hx hb dX10_isEffect_86 (by decide) ?_
      refine lv_icmp_gt (tgt := 95) hx hb dX10_isEffect_88 (by decide) (fun c_88 => ?_) (fun c_88 => ?_)
      · -- taken 88
        refine lv_iconst (v := 0) hx hb dX10_isEffect_95 (by decide) ?_
        exact rt_z C hQ (by decide) (hP.sub (ws' := [(bx, .inr (11, [.int th, .int (nI n), .ref b0, .ref b1, .ref b2, .int (nI nm), .ref b3, .ref b4, .ref b5, .ref b6, .ref b7, .ref b8, .ref b9, .ref b10, .ref b11, .ref b12, .int (nI nk), .ref b13, .ref b14, .ref b15, .int (nI nd), .int (nI ng), .ref b16, .ref b17, .ref b18, .ref b19, .int be, .int bl, .ref b20, .int pe, .int (nI nn), .ref b21, .ref b22, .ref b23, .ref b24, .ref b25, .ref b26, .ref b27, .ref b28, .ref b29, .int (nI tc), .ref b30, .int (nI ncc), .long mk, .int fd, .int bs, .int (nI ps), .ref b31, .ref b32, .int sn, .int kt, .int bh]))]) [0] rfl) (hD.sub [0] (by decide) rfl) hS ⟨Or.inr ⟨rfl, (by simp only [f_isEffect, w_1_0, w_1_1, w_1_2, w_1_3, if_true, if_false]; first | exact rg_y c_82 c_88 | exact rg_n1 c_82 | exact rg_n2 c_88)⟩, rfl⟩ (by decide) (by decide) dX10_isEffect_96
      · -- not taken 88
        refine lv_iconst (v := 1) hx hb dX10_isEffect_91 (by decide) ?_
        refine lv_goto (tgt := 96) hx hb dX10_isEffect_92 (by decide) ?_
        exact rt_z C hQ (by decide) (hP.sub (ws' := [(bx, .inr (11, [.int th, .int (nI n), .ref b0, .ref b1, .ref b2, .int (nI nm), .ref b3, .ref b4, .ref b5, .ref b6, .ref b7, .ref b8, .ref b9, .ref b10, .ref b11, .ref b12, .int (nI nk), .ref b13, .ref b14, .ref b15, .int (nI nd), .int (nI ng), .ref b16, .ref b17, .ref b18, .ref b19, .int be, .int bl, .ref b20, .int pe, .int (nI nn), .ref b21, .ref b22, .ref b23, .ref b24, .ref b25, .ref b26, .ref b27, .ref b28, .ref b29, .int (nI tc), .ref b30, .int (nI ncc), .long mk, .int fd, .int bs, .int (nI ps), .ref b31, .ref b32, .int sn, .int kt, .int bh]))]) [0] rfl) (hD.sub [0] (by decide) rfl) hS ⟨Or.inl ⟨rfl, (by simp only [f_isEffect, w_1_0, w_1_1, w_1_2, w_1_3, if_true, if_false]; first | exact rg_y c_82 c_88 | exact rg_n1 c_82 | exact rg_n2 c_88)⟩, rfl⟩ (by decide) (by decide) dX10_isEffect_96
  refine lv_tableOut (tgt := 97) hx hb dX10_isEffect_1 (sw_out 3 (by decide) (fun k hk => by match k, hk with | 0, _ => exact w_1_0 | 1, _ => exact w_1_1 | 2, _ => exact w_1_2 | 3, _ => exact w_1_3 | k + 4, hk => exact absurd hk (by omega))) (by decide) ?_
  refine lv_iconst (v := 0) hx hb dX10_isEffect_97 (by decide) ?_
  exact rt_z C hQ (by decide) (hP.sub (ws' := [(bx, .inr (11, [.int th, .int (nI n), .ref b0, .ref b1, .ref b2, .int (nI nm), .ref b3, .ref b4, .ref b5, .ref b6, .ref b7, .ref b8, .ref b9, .ref b10, .ref b11, .ref b12, .int (nI nk), .ref b13, .ref b14, .ref b15, .int (nI nd), .int (nI ng), .ref b16, .ref b17, .ref b18, .ref b19, .int be, .int bl, .ref b20, .int pe, .int (nI nn), .ref b21, .ref b22, .ref b23, .ref b24, .ref b25, .ref b26, .ref b27, .ref b28, .ref b29, .int (nI tc), .ref b30, .int (nI ncc), .long mk, .int fd, .int bs, .int (nI ps), .ref b31, .ref b32, .int sn, .int kt, .int bh]))]) [0] rfl) (hD.sub [0] (by decide) rfl) hS ⟨Or.inr ⟨rfl, (by simp [f_isEffect, w_1_0, w_1_1, w_1_2, w_1_3])⟩, rfl⟩ (by decide) (by decide) dX10_isEffect_98
set_option maxHeartbeats 4000000 in
set_option maxRecDepth 100000 in
theorem c_X10_then (l : Launch) (D : va_G) (cI cJ cZ : ClassId) (bx : Nat) (b0 : Nat) (b1 : Nat) (b2 : Nat) (b3 : Nat) (b4 : Nat) (b5 : Nat) (b6 : Nat) (b7 : Nat) (b8 : Nat) (b9 : Nat) (b10 : Nat) (b11 : Nat) (b12 : Nat) (b13 : Nat) (b14 : Nat) (b15 : Nat) (b16 : Nat) (b17 : Nat) (b18 : Nat) (b19 : Nat) (b20 : Nat) (b21 : Nat) (b22 : Nat) (b23 : Nat) (b24 : Nat) (b25 : Nat) (b26 : Nat) (b27 : Nat) (b28 : Nat) (b29 : Nat) (b30 : Nat) (b31 : Nat) (b32 : Nat) (th : Int32) (n : Nat) (nm : Nat) (nk : Nat) (nd : Nat) (ng : Nat) (be : Int32) (bl : Int32) (pe : Int32) (nn : Nat) (tc : Nat) (ncc : Nat) (mk : Int64) (fd : Int32) (bs : Int32) (ps : Nat) (sn : Int32) (kt : Int32) (bh : Int32) (mec : Nat → Nat) (mek : Nat → Int32) (mel : Nat → Nat) (mev : Nat → Int32) (m0 : Int32) (k0 : Int32) (c0 : Int32) (v0_ : Int32) (hn : n ≤ 10) (hm : nm ≤ 24) (hc6 : ∀ k, mec k ≤ 6) : Ctr l D cI cJ cZ yX10_then cX10_then 6 (some .boolean) ({ frames := 2, cells := 0, slots := 0, locals := 43 } : Room) [.ref bx, .int m0, .int k0, .int c0, .int v0_] [(bx, .inr (11, [.int th, .int (nI n), .ref b0, .ref b1, .ref b2, .int (nI nm), .ref b3, .ref b4, .ref b5, .ref b6, .ref b7, .ref b8, .ref b9, .ref b10, .ref b11, .ref b12, .int (nI nk), .ref b13, .ref b14, .ref b15, .int (nI nd), .int (nI ng), .ref b16, .ref b17, .ref b18, .ref b19, .int be, .int bl, .ref b20, .int pe, .int (nI nn), .ref b21, .ref b22, .ref b23, .ref b24, .ref b25, .ref b26, .ref b27, .ref b28, .ref b29, .int (nI tc), .ref b30, .int (nI ncc), .long mk, .int fd, .int bs, .int (nI ps), .ref b31, .ref b32, .int sn, .int kt, .int bh])), (b7, .inl (cI, 24, .inl (nF mec))), (b8, .inl (cI, 144, .inl mek)), (b9, .inl (cI, 144, .inl (nF mel))), (b10, .inl (cI, 144, .inl mev))] (fun r W => ((r = some (.int 1) ∧ (inR m0 nm = true ∧ inR c0 n = true ∧ f_isEffect n k0 v0_ = true ∧ mec m0.toNatClampNeg < 6)) ∨ (r = some (.int 0) ∧ ¬ (inR m0 nm = true ∧ inR c0 n = true ∧ f_isEffect n k0 v0_ = true ∧ mec m0.toNatClampNeg < 6))) ∧ W = [(bx, .inr (11, [.int 0, .int (nI n), .ref b0, .ref b1, .ref b2, .int (nI nm), .ref b3, .ref b4, .ref b5, .ref b6, .ref b7, .ref b8, .ref b9, .ref b10, .ref b11, .ref b12, .int (nI nk), .ref b13, .ref b14, .ref b15, .int (nI nd), .int (nI ng), .ref b16, .ref b17, .ref b18, .ref b19, .int be, .int bl, .ref b20, .int pe, .int (nI nn), .ref b21, .ref b22, .ref b23, .ref b24, .ref b25, .ref b26, .ref b27, .ref b28, .ref b29, .int (nI tc), .ref b30, .int (nI ncc), .long mk, .int fd, .int bs, .int (nI ps), .ref b31, .ref b32, .int sn, .int kt, .int bh])), (b7, .inl (cI, 24, .inl (nF (if inR m0 nm = true ∧ inR c0 n = true ∧ f_isEffect n k0 v0_ = true ∧ mec m0.toNatClampNeg < 6 then updN mec m0.toNatClampNeg (mec m0.toNatClampNeg + 1) else mec)))), (b8, .inl (cI, 144, .inl (if inR m0 nm = true ∧ inR c0 n = true ∧ f_isEffect n k0 v0_ = true ∧ mec m0.toNatClampNeg < 6 then upd mek (m0.toNatClampNeg * 6 + mec m0.toNatClampNeg) k0 else mek))), (b9, .inl (cI, 144, .inl (nF (if inR m0 nm = true ∧ inR c0 n = true ∧ f_isEffect n k0 v0_ = true ∧ mec m0.toNatClampNeg < 6 then updN mel (m0.toNatClampNeg * 6 + mec m0.toNatClampNeg) c0.toNatClampNeg else mel)))), (b10, .inl (cI, 144, .inl (if inR m0 nm = true ∧ inR c0 n = true ∧ f_isEffect n k0 v0_ = true ∧ mec m0.toNatClampNeg < 6 then upd mev (m0.toNatClampNeg * 6 + mec m0.toNatClampNeg) v0_ else mev)))]) := by
  refine Ctr.start (by decide +kernel) (Nat.le_of_ble_eq_true rfl) ?_
  intro p e s m below meth c A Q ls H C hQ hA hP hD hS hl
  obtain ⟨hx, hb, hr, hml, hts, hown, hlk, hnm, hK, hN⟩ := id C
  have hl : lv_has ls 6 [(0, .ref bx), (1, .int m0), (2, .int k0), (3, .int c0), (4, .int v0_)] := hl
  refine lv_aload_n hx hb dX10_then_0 rfl (lv_at hl 0 rfl) ?_
  refine lv_iconst (v := 0) hx hb dX10_then_1 (by decide) ?_
  refine r_put (v := .int 0) C hP hD hS okX10 0 0 rfl (by decide) fl_X10_111 rfl rfl rfl rfl (Nat.le_of_ble_eq_true rfl) dX10_then_2 (fun H locs hP hD hS => ?_)
  have hP : va_P D vwCl [(bx, .inr (11, [.int 0, .int (nI n), .ref b0, .ref b1, .ref b2, .int (nI nm), .ref b3, .ref b4, .ref b5, .ref b6, .ref b7, .ref b8, .ref b9, .ref b10, .ref b11, .ref b12, .int (nI nk), .ref b13, .ref b14, .ref b15, .int (nI nd), .int (nI ng), .ref b16, .ref b17, .ref b18, .ref b19, .int be, .int bl, .ref b20, .int pe, .int (nI nn), .ref b21, .ref b22, .ref b23, .ref b24, .ref b25, .ref b26, .ref b27, .ref b28, .ref b29, .int (nI tc), .ref b30, .int (nI ncc), .long mk, .int fd, .int bs, .int (nI ps), .ref b31, .ref b32, .int sn, .int kt, .int bh])), (b7, .inl (cI, 24, .inl (nF mec))), (b8, .inl (cI, 144, .inl mek)), (b9, .inl (cI, 144, .inl (nF mel))), (b10, .inl (cI, 144, .inl mev))] H := hP
  have hD : va_D A [(bx, .inr (11, [.int 0, .int (nI n), .ref b0, .ref b1, .ref b2, .int (nI nm), .ref b3, .ref b4, .ref b5, .ref b6, .ref b7, .ref b8, .ref b9, .ref b10, .ref b11, .ref b12, .int (nI nk), .ref b13, .ref b14, .ref b15, .int (nI nd), .int (nI ng), .ref b16, .ref b17, .ref b18, .ref b19, .int be, .int bl, .ref b20, .int pe, .int (nI nn), .ref b21, .ref b22, .ref b23, .ref b24, .ref b25, .ref b26, .ref b27, .ref b28, .ref b29, .int (nI tc), .ref b30, .int (nI ncc), .long mk, .int fd, .int bs, .int (nI ps), .ref b31, .ref b32, .int sn, .int kt, .int bh])), (b7, .inl (cI, 24, .inl (nF mec))), (b8, .inl (cI, 144, .inl mek)), (b9, .inl (cI, 144, .inl (nF mel))), (b10, .inl (cI, 144, .inl mev))] := hD
  refine lv_aload_n hx hb dX10_then_5 rfl (lv_at hl 0 rfl) ?_
  refine lv_iload_n hx hb dX10_then_6 rfl (lv_at hl 1 rfl) ?_
  refine cl_v C (c_X10_noMove l D cI cJ cZ bx b0 b1 b2 b3 b4 b5 b6 b7 b8 b9 b10 b11 b12 b13 b14 b15 b16 b17 b18 b19 b20 b21 b22 b23 b24 b25 b26 b27 b28 b29 b30 b31 b32 0 n nm nk nd ng be bl pe nn tc ncc mk fd bs ps sn kt bh m0) cd_X10_noMove ml_X10_125 im_X10_noMove se_X10_noMove in_X10 hd_X10_noMove ⟨by decide, by decide⟩ hP hD hS hA (WR := [(b7, .inl (cI, 24, .inl (nF mec))), (b8, .inl (cI, 144, .inl mek)), (b9, .inl (cI, 144, .inl (nF mel))), (b10, .inl (cI, 144, .inl mev))]) [0] [1, 2, 3, 4] rfl rfl rfl rfl (by decide) (ci := 11) (q0 := 0) rfl rfl hl.1 rfl (Nat.le_of_ble_eq_true rfl) dX10_then_7 ⟨by decide, by decide⟩ (fun r W H locs hp hP hD hS => ?_)
  rcases hp with ⟨⟨rfl, hb_7⟩ | ⟨rfl, hb_7⟩, rfl⟩
  · -- yes 7
    refine W.eq (g2 := F0 m 10 ls [.int 1]) rfl ?_
    have hP : va_P D vwCl [(b7, .inl (cI, 24, .inl (nF mec))), (b8, .inl (cI, 144, .inl mek)), (b9, .inl (cI, 144, .inl (nF mel))), (b10, .inl (cI, 144, .inl mev)), (bx, .inr (11, [.int 0, .int (nI n), .ref b0, .ref b1, .ref b2, .int (nI nm), .ref b3, .ref b4, .ref b5, .ref b6, .ref b7, .ref b8, .ref b9, .ref b10, .ref b11, .ref b12, .int (nI nk), .ref b13, .ref b14, .ref b15, .int (nI nd), .int (nI ng), .ref b16, .ref b17, .ref b18, .ref b19, .int be, .int bl, .ref b20, .int pe, .int (nI nn), .ref b21, .ref b22, .ref b23, .ref b24, .ref b25, .ref b26, .ref b27, .ref b28, .ref b29, .int (nI tc), .ref b30, .int (nI ncc), .long mk, .int fd, .int bs, .int (nI ps), .ref b31, .ref b32, .int sn, .int kt, .int bh]))] H := hP
    have hD : va_D A [(b7, .inl (cI, 24, .inl (nF mec))), (b8, .inl (cI, 144, .inl mek)), (b9, .inl (cI, 144, .inl (nF mel))), (b10, .inl (cI, 144, .inl mev)), (bx, .inr (11, [.int 0, .int (nI n), .ref b0, .ref b1, .ref b2, .int (nI nm), .ref b3, .ref b4, .ref b5, .ref b6, .ref b7, .ref b8, .ref b9, .ref b10, .ref b11, .ref b12, .int (nI nk), .ref b13, .ref b14, .ref b15, .int (nI nd), .int (nI ng), .ref b16, .ref b17, .ref b18, .ref b19, .int be, .int bl, .ref b20, .int pe, .int (nI nn), .ref b21, .ref b22, .ref b23, .ref b24, .ref b25, .ref b26, .ref b27, .ref b28, .ref b29, .int (nI tc), .ref b30, .int (nI ncc), .long mk, .int fd, .int bs, .int (nI ps), .ref b31, .ref b32, .int sn, .int kt, .int bh]))] := hD
    refine lv_if_ne (tgt := 42) hx hb dX10_then_10 (by decide) (fun c_10 => ?_) (fun c_10 => ?_)
    rotate_left
    · exact absurd c_10 (by decide)
    refine lv_iconst (v := 0) hx hb dX10_then_42 (by decide) ?_
    exact rt_z C hQ (by decide) (hP.sub (ws' := [(bx, .inr (11, [.int 0, .int (nI n), .ref b0, .ref b1, .ref b2, .int (nI nm), .ref b3, .ref b4, .ref b5, .ref b6, .ref b7, .ref b8, .ref b9, .ref b10, .ref b11, .ref b12, .int (nI nk), .ref b13, .ref b14, .ref b15, .int (nI nd), .int (nI ng), .ref b16, .ref b17, .ref b18, .ref b19, .int be, .int bl, .ref b20, .int pe, .int (nI nn), .ref b21, .ref b22, .ref b23, .ref b24, .ref b25, .ref b26, .ref b27, .ref b28, .ref b29, .int (nI tc), .ref b30, .int (nI ncc), .long mk, .int fd, .int bs, .int (nI ps), .ref b31, .ref b32, .int sn, .int kt, .int bh])), (b7, .inl (cI, 24, .inl (nF mec))), (b8, .inl (cI, 144, .inl mek)), (b9, .inl (cI, 144, .inl (nF mel))), (b10, .inl (cI, 144, .inl mev))]) [4, 0, 1, 2, 3] rfl) (hD.sub [4, 0, 1, 2, 3] (by decide) rfl) hS (by have hP_ : ¬ (inR m0 nm = true ∧ inR c0 n = true ∧ f_isEffect n k0 v0_ = true ∧ mec m0.toNatClampNeg < 6) := (fun z => by first | exact hb_7 z.1 | exact hb_15 z.2.1 | exact hb_25 z.2.2.1 | (have z5 := z.2.2.2; rw [nI_clamp (show j < 2 ^ 31 by omega)] at z5; omega)); exact ⟨Or.inr ⟨rfl, hP_⟩, by simp only [if_neg hP_]⟩) (by decide) (by decide) dX10_then_43
  · -- no 7
    refine W.eq (g2 := F0 m 10 ls [.int 0]) rfl ?_
    have hP : va_P D vwCl [(b7, .inl (cI, 24, .inl (nF mec))), (b8, .inl (cI, 144, .inl mek)), (b9, .inl (cI, 144, .inl (nF mel))), (b10, .inl (cI, 144, .inl mev)), (bx, .inr (11, [.int 0, .int (nI n), .ref b0, .ref b1, .ref b2, .int (nI nm), .ref b3, .ref b4, .ref b5, .ref b6, .ref b7, .ref b8, .ref b9, .ref b10, .ref b11, .ref b12, .int (nI nk), .ref b13, .ref b14, .ref b15, .int (nI nd), .int (nI ng), .ref b16, .ref b17, .ref b18, .ref b19, .int be, .int bl, .ref b20, .int pe, .int (nI nn), .ref b21, .ref b22, .ref b23, .ref b24, .ref b25, .ref b26, .ref b27, .ref b28, .ref b29, .int (nI tc), .ref b30, .int (nI ncc), .long mk, .int fd, .int bs, .int (nI ps), .ref b31, .ref b32, .int sn, .int kt, .int bh]))] H := hP
    have hD : va_D A [(b7, .inl (cI, 24, .inl (nF mec))), (b8, .inl (cI, 144, .inl mek)), (b9, .inl (cI, 144, .inl (nF mel))), (b10, .inl (cI, 144, .inl mev)), (bx, .inr (11, [.int 0, .int (nI n), .ref b0, .ref b1, .ref b2, .int (nI nm), .ref b3, .ref b4, .ref b5, .ref b6, .ref b7, .ref b8, .ref b9, .ref b10, .ref b11, .ref b12, .int (nI nk), .ref b13, .ref b14, .ref b15, .int (nI nd), .int (nI ng), .ref b16, .ref b17, .ref b18, .ref b19, .int be, .int bl, .ref b20, .int pe, .int (nI nn), .ref b21, .ref b22, .ref b23, .ref b24, .ref b25, .ref b26, .ref b27, .ref b28, .ref b29, .int (nI tc), .ref b30, .int (nI ncc), .long mk, .int fd, .int bs, .int (nI ps), .ref b31, .ref b32, .int sn, .int kt, .int bh]))] := hD
    have hb_7 := Classical.not_not.mp hb_7
    obtain ⟨j, hj, rfl⟩ := (inR_iff (by omega)).mp hb_7
    refine lv_if_ne (tgt := 42) hx hb dX10_then_10 (by decide) (fun c_10 => ?_) (fun c_10 => ?_)
    · exact absurd c_10 (by decide)
    refine lv_aload_n hx hb dX10_then_13 rfl (lv_at hl 0 rfl) ?_
    refine lv_iload_n hx hb dX10_then_14 rfl (lv_at hl 3 rfl) ?_
    refine cl_v C (c_X10_noCell l D cI cJ cZ bx b0 b1 b2 b3 b4 b5 b6 b7 b8 b9 b10 b11 b12 b13 b14 b15 b16 b17 b18 b19 b20 b21 b22 b23 b24 b25 b26 b27 b28 b29 b30 b31 b32 0 n nm nk nd ng be bl pe nn tc ncc mk fd bs ps sn kt bh c0) cd_X10_noCell ml_X10_121 im_X10_noCell se_X10_noCell in_X10 hd_X10_noCell ⟨by decide, by decide⟩ hP hD hS hA (WR := [(b7, .inl (cI, 24, .inl (nF mec))), (b8, .inl (cI, 144, .inl mek)), (b9, .inl (cI, 144, .inl (nF mel))), (b10, .inl (cI, 144, .inl mev))]) [4] [0, 1, 2, 3] rfl rfl rfl rfl (by decide) (ci := 11) (q0 := 4) rfl rfl hl.1 rfl (Nat.le_of_ble_eq_true rfl) dX10_then_15 ⟨by decide, by decide⟩ (fun r W H locs hp hP hD hS => ?_)
    rcases hp with ⟨⟨rfl, hb_15⟩ | ⟨rfl, hb_15⟩, rfl⟩
    · -- yes 15
      refine W.eq (g2 := F0 m 18 ls [.int 1]) rfl ?_
      have hP : va_P D vwCl [(b7, .inl (cI, 24, .inl (nF mec))), (b8, .inl (cI, 144, .inl mek)), (b9, .inl (cI, 144, .inl (nF mel))), (b10, .inl (cI, 144, .inl mev)), (bx, .inr (11, [.int 0, .int (nI n), .ref b0, .ref b1, .ref b2, .int (nI nm), .ref b3, .ref b4, .ref b5, .ref b6, .ref b7, .ref b8, .ref b9, .ref b10, .ref b11, .ref b12, .int (nI nk), .ref b13, .ref b14, .ref b15, .int (nI nd), .int (nI ng), .ref b16, .ref b17, .ref b18, .ref b19, .int be, .int bl, .ref b20, .int pe, .int (nI nn), .ref b21, .ref b22, .ref b23, .ref b24, .ref b25, .ref b26, .ref b27, .ref b28, .ref b29, .int (nI tc), .ref b30, .int (nI ncc), .long mk, .int fd, .int bs, .int (nI ps), .ref b31, .ref b32, .int sn, .int kt, .int bh]))] H := hP
      have hD : va_D A [(b7, .inl (cI, 24, .inl (nF mec))), (b8, .inl (cI, 144, .inl mek)), (b9, .inl (cI, 144, .inl (nF mel))), (b10, .inl (cI, 144, .inl mev)), (bx, .inr (11, [.int 0, .int (nI n), .ref b0, .ref b1, .ref b2, .int (nI nm), .ref b3, .ref b4, .ref b5, .ref b6, .ref b7, .ref b8, .ref b9, .ref b10, .ref b11, .ref b12, .int (nI nk), .ref b13, .ref b14, .ref b15, .int (nI nd), .int (nI ng), .ref b16, .ref b17, .ref b18, .ref b19, .int be, .int bl, .ref b20, .int pe, .int (nI nn), .ref b21, .ref b22, .ref b23, .ref b24, .ref b25, .ref b26, .ref b27, .ref b28, .ref b29, .int (nI tc), .ref b30, .int (nI ncc), .long mk, .int fd, .int bs, .int (nI ps), .ref b31, .ref b32, .int sn, .int kt, .int bh]))] := hD
      refine lv_if_ne (tgt := 42) hx hb dX10_then_18 (by decide) (fun c_18 => ?_) (fun c_18 => ?_)
      rotate_left
      · exact absurd c_18 (by decide)
      refine lv_iconst (v := 0) hx hb dX10_then_42 (by decide) ?_
      exact rt_z C hQ (by decide) (hP.sub (ws' := [(bx, .inr (11, [.int 0, .int (nI n), .ref b0, .ref b1, .ref b2, .int (nI nm), .ref b3, .ref b4, .ref b5, .ref b6, .ref b7, .ref b8, .ref b9, .ref b10, .ref b11, .ref b12, .int (nI nk), .ref b13, .ref b14, .ref b15, .int (nI nd), .int (nI ng), .ref b16, .ref b17, .ref b18, .ref b19, .int be, .int bl, .ref b20, .int pe, .int (nI nn), .ref b21, .ref b22, .ref b23, .ref b24, .ref b25, .ref b26, .ref b27, .ref b28, .ref b29, .int (nI tc), .ref b30, .int (nI ncc), .long mk, .int fd, .int bs, .int (nI ps), .ref b31, .ref b32, .int sn, .int kt, .int bh])), (b7, .inl (cI, 24, .inl (nF mec))), (b8, .inl (cI, 144, .inl mek)), (b9, .inl (cI, 144, .inl (nF mel))), (b10, .inl (cI, 144, .inl mev))]) [4, 0, 1, 2, 3] rfl) (hD.sub [4, 0, 1, 2, 3] (by decide) rfl) hS (by have hP_ : ¬ (inR (nI j) nm = true ∧ inR c0 n = true ∧ f_isEffect n k0 v0_ = true ∧ mec (nI j).toNatClampNeg < 6) := (fun z => by first | exact hb_7 z.1 | exact hb_15 z.2.1 | exact hb_25 z.2.2.1 | (have z5 := z.2.2.2; rw [nI_clamp (show j < 2 ^ 31 by omega)] at z5; omega)); exact ⟨Or.inr ⟨rfl, hP_⟩, by simp only [if_neg hP_]⟩) (by decide) (by decide) dX10_then_43
    · -- no 15
      refine W.eq (g2 := F0 m 18 ls [.int 0]) rfl ?_
      have hP : va_P D vwCl [(b7, .inl (cI, 24, .inl (nF mec))), (b8, .inl (cI, 144, .inl mek)), (b9, .inl (cI, 144, .inl (nF mel))), (b10, .inl (cI, 144, .inl mev)), (bx, .inr (11, [.int 0, .int (nI n), .ref b0, .ref b1, .ref b2, .int (nI nm), .ref b3, .ref b4, .ref b5, .ref b6, .ref b7, .ref b8, .ref b9, .ref b10, .ref b11, .ref b12, .int (nI nk), .ref b13, .ref b14, .ref b15, .int (nI nd), .int (nI ng), .ref b16, .ref b17, .ref b18, .ref b19, .int be, .int bl, .ref b20, .int pe, .int (nI nn), .ref b21, .ref b22, .ref b23, .ref b24, .ref b25, .ref b26, .ref b27, .ref b28, .ref b29, .int (nI tc), .ref b30, .int (nI ncc), .long mk, .int fd, .int bs, .int (nI ps), .ref b31, .ref b32, .int sn, .int kt, .int bh]))] H := hP
      have hD : va_D A [(b7, .inl (cI, 24, .inl (nF mec))), (b8, .inl (cI, 144, .inl mek)), (b9, .inl (cI, 144, .inl (nF mel))), (b10, .inl (cI, 144, .inl mev)), (bx, .inr (11, [.int 0, .int (nI n), .ref b0, .ref b1, .ref b2, .int (nI nm), .ref b3, .ref b4, .ref b5, .ref b6, .ref b7, .ref b8, .ref b9, .ref b10, .ref b11, .ref b12, .int (nI nk), .ref b13, .ref b14, .ref b15, .int (nI nd), .int (nI ng), .ref b16, .ref b17, .ref b18, .ref b19, .int be, .int bl, .ref b20, .int pe, .int (nI nn), .ref b21, .ref b22, .ref b23, .ref b24, .ref b25, .ref b26, .ref b27, .ref b28, .ref b29, .int (nI tc), .ref b30, .int (nI ncc), .long mk, .int fd, .int bs, .int (nI ps), .ref b31, .ref b32, .int sn, .int kt, .int bh]))] := hD
      have hb_15 := Classical.not_not.mp hb_15
      obtain ⟨jc, hjc, rfl⟩ := (inR_iff (by omega)).mp hb_15
      refine lv_if_ne (tgt := 42) hx hb dX10_then_18 (by decide) (fun c_18 => ?_) (fun c_18 => ?_)
      · exact absurd c_18 (by decide)
      refine lv_aload_n hx hb dX10_then_21 rfl (lv_at hl 0 rfl) ?_
      refine lv_iload_n hx hb dX10_then_22 rfl (lv_at hl 2 rfl) ?_
      refine lv_iload hx hb dX10_then_23 (lv_at hl 4 rfl) ?_
      refine cl_v C (c_X10_isEffect l D cI cJ cZ bx b0 b1 b2 b3 b4 b5 b6 b7 b8 b9 b10 b11 b12 b13 b14 b15 b16 b17 b18 b19 b20 b21 b22 b23 b24 b25 b26 b27 b28 b29 b30 b31 b32 0 n nm nk nd ng be bl pe nn tc ncc mk fd bs ps sn kt bh k0 v0_ (by omega)) cd_X10_isEffect ml_X10_128 im_X10_isEffect se_X10_isEffect in_X10 hd_X10_isEffect ⟨by decide, by decide⟩ hP hD hS hA (WR := [(b7, .inl (cI, 24, .inl (nF mec))), (b8, .inl (cI, 144, .inl mek)), (b9, .inl (cI, 144, .inl (nF mel))), (b10, .inl (cI, 144, .inl mev))]) [4] [0, 1, 2, 3] rfl rfl rfl rfl (by decide) (ci := 11) (q0 := 4) rfl rfl hl.1 rfl (Nat.le_of_ble_eq_true rfl) dX10_then_25 ⟨by decide, by decide⟩ (fun r W H locs hp hP hD hS => ?_)
      rcases hp with ⟨⟨rfl, hb_25⟩ | ⟨rfl, hb_25⟩, rfl⟩
      · -- yes 25
        refine W.eq (g2 := F0 m 28 ls [.int 1]) rfl ?_
        have hP : va_P D vwCl [(b7, .inl (cI, 24, .inl (nF mec))), (b8, .inl (cI, 144, .inl mek)), (b9, .inl (cI, 144, .inl (nF mel))), (b10, .inl (cI, 144, .inl mev)), (bx, .inr (11, [.int 0, .int (nI n), .ref b0, .ref b1, .ref b2, .int (nI nm), .ref b3, .ref b4, .ref b5, .ref b6, .ref b7, .ref b8, .ref b9, .ref b10, .ref b11, .ref b12, .int (nI nk), .ref b13, .ref b14, .ref b15, .int (nI nd), .int (nI ng), .ref b16, .ref b17, .ref b18, .ref b19, .int be, .int bl, .ref b20, .int pe, .int (nI nn), .ref b21, .ref b22, .ref b23, .ref b24, .ref b25, .ref b26, .ref b27, .ref b28, .ref b29, .int (nI tc), .ref b30, .int (nI ncc), .long mk, .int fd, .int bs, .int (nI ps), .ref b31, .ref b32, .int sn, .int kt, .int bh]))] H := hP
        have hD : va_D A [(b7, .inl (cI, 24, .inl (nF mec))), (b8, .inl (cI, 144, .inl mek)), (b9, .inl (cI, 144, .inl (nF mel))), (b10, .inl (cI, 144, .inl mev)), (bx, .inr (11, [.int 0, .int (nI n), .ref b0, .ref b1, .ref b2, .int (nI nm), .ref b3, .ref b4, .ref b5, .ref b6, .ref b7, .ref b8, .ref b9, .ref b10, .ref b11, .ref b12, .int (nI nk), .ref b13, .ref b14, .ref b15, .int (nI nd), .int (nI ng), .ref b16, .ref b17, .ref b18, .ref b19, .int be, .int bl, .ref b20, .int pe, .int (nI nn), .ref b21, .ref b22, .ref b23, .ref b24, .ref b25, .ref b26, .ref b27, .ref b28, .ref b29, .int (nI tc), .ref b30, .int (nI ncc), .long mk, .int fd, .int bs, .int (nI ps), .ref b31, .ref b32, .int sn, .int kt, .int bh]))] := hD
        refine lv_if_eq (tgt := 42) hx hb dX10_then_28 (by decide) (fun c_28 => ?_) (fun c_28 => ?_)
        · exact absurd c_28 (by decide)
        have h6 := hc6 j
        refine lv_aload_n hx hb dX10_then_31 rfl (lv_at hl 0 rfl) ?_
        refine r_get (v := .ref b7) C hP okX10 4 10 rfl (by decide) fl_X10_32 rfl rfl dX10_then_32 ?_
        refine lv_iload_n hx hb dX10_then_35 rfl (lv_at hl 1 rfl) ?_
        refine r_iald (j := j) C hP 0 rfl (by omega) (by decide) dX10_then_36 ?_
        refine r_top (x' := nI (mec j)) rfl ?_
        refine lv_bipush (v := 6) hx hb dX10_then_37 (by decide) ?_
        refine lv_icmp_ne (tgt := 44) hx hb dX10_then_39 (by decide) (fun c_39 => ?_) (fun c_39 => ?_)
        · -- taken 39
          have c_39 : ¬ (mec j = 6) := fun z => c_39 ((nI_eq (a := mec j) (b := 6) (by omega) (by omega)).mpr z)
          refine lv_bipush (v := 6) hx hb dX10_then_44 (by decide) ?_
          refine lv_iload_n hx hb dX10_then_46 rfl (lv_at hl 1 rfl) ?_
          refine lv_imul hx hb dX10_then_47 ?_
          refine r_top (x' := nI (6 * j)) (pk_mul 6 j) ?_
          refine lv_aload_n hx hb dX10_then_48 rfl (lv_at hl 0 rfl) ?_
          refine r_get (v := .ref b7) C hP okX10 4 10 rfl (by decide) fl_X10_32 rfl rfl dX10_then_49 ?_
          refine lv_iload_n hx hb dX10_then_52 rfl (lv_at hl 1 rfl) ?_
          refine r_iald (j := j) C hP 0 rfl (by omega) (by decide) dX10_then_53 ?_
          refine r_top (x' := nI (mec j)) rfl ?_
          refine lv_iadd hx hb dX10_then_54 ?_
          refine r_top (x' := nI ((6 * j) + (mec j))) (nI_add (6 * j) (mec j)) ?_
          refine r_top (x' := nI (j * 6 + mec j)) (by rw [Nat.mul_comm]) ?_
          refine lv_istore (lv' := [(5, .int (nI (j * 6 + mec j))), (0, .ref bx), (1, .int (nI j)), (2, .int k0), (3, .int (nI jc)), (4, .int v0_)]) hx hb dX10_then_55 hl (by decide) rfl (fun ls hl => ?_)
          refine lv_aload_n hx hb dX10_then_57 rfl (lv_at hl 1 rfl) ?_
          refine r_get (v := .ref b8) C hP okX10 4 11 rfl (by decide) fl_X10_35 rfl rfl dX10_then_58 ?_
          refine lv_iload hx hb dX10_then_61 (lv_at hl 0 rfl) ?_
          refine lv_iload_n hx hb dX10_then_63 rfl (lv_at hl 3 rfl) ?_
          refine r_iast (j := j * 6 + mec j) C hP hD hS 1 rfl (by omega) (by decide) dX10_then_64 (fun H locs hP hD hS => ?_)
          have hP : va_P D vwCl [(b7, .inl (cI, 24, .inl (nF mec))), (b8, .inl (cI, 144, .inl (upd mek (j * 6 + mec j) k0))), (b9, .inl (cI, 144, .inl (nF mel))), (b10, .inl (cI, 144, .inl mev)), (bx, .inr (11, [.int 0, .int (nI n), .ref b0, .ref b1, .ref b2, .int (nI nm), .ref b3, .ref b4, .ref b5, .ref b6, .ref b7, .ref b8, .ref b9, .ref b10, .ref b11, .ref b12, .int (nI nk), .ref b13, .ref b14, .ref b15, .int (nI nd), .int (nI ng), .ref b16, .ref b17, .ref b18, .ref b19, .int be, .int bl, .ref b20, .int pe, .int (nI nn), .ref b21, .ref b22, .ref b23, .ref b24, .ref b25, .ref b26, .ref b27, .ref b28, .ref b29, .int (nI tc), .ref b30, .int (nI ncc), .long mk, .int fd, .int bs, .int (nI ps), .ref b31, .ref b32, .int sn, .int kt, .int bh]))] H := hP
          have hD : va_D A [(b7, .inl (cI, 24, .inl (nF mec))), (b8, .inl (cI, 144, .inl (upd mek (j * 6 + mec j) k0))), (b9, .inl (cI, 144, .inl (nF mel))), (b10, .inl (cI, 144, .inl mev)), (bx, .inr (11, [.int 0, .int (nI n), .ref b0, .ref b1, .ref b2, .int (nI nm), .ref b3, .ref b4, .ref b5, .ref b6, .ref b7, .ref b8, .ref b9, .ref b10, .ref b11, .ref b12, .int (nI nk), .ref b13, .ref b14, .ref b15, .int (nI nd), .int (nI ng), .ref b16, .ref b17, .ref b18, .ref b19, .int be, .int bl, .ref b20, .int pe, .int (nI nn), .ref b21, .ref b22, .ref b23, .ref b24, .ref b25, .ref b26, .ref b27, .ref b28, .ref b29, .int (nI tc), .ref b30, .int (nI ncc), .long mk, .int fd, .int bs, .int (nI ps), .ref b31, .ref b32, .int sn, .int kt, .int bh]))] := hD
          refine lv_aload_n hx hb dX10_then_65 rfl (lv_at hl 1 rfl) ?_
          refine r_get (v := .ref b9) C hP okX10 4 12 rfl (by decide) fl_X10_38 rfl rfl dX10_then_66 ?_
          refine lv_iload hx hb dX10_then_69 (lv_at hl 0 rfl) ?_
          refine lv_iload_n hx hb dX10_then_71 rfl (lv_at hl 4 rfl) ?_
          refine r_iast (j := j * 6 + mec j) C hP hD hS 2 rfl (by omega) (by decide) dX10_then_72 (fun H locs hP hD hS => ?_)
          rw [nF_upd] at hP hD
          have hP : va_P D vwCl [(b7, .inl (cI, 24, .inl (nF mec))), (b8, .inl (cI, 144, .inl (upd mek (j * 6 + mec j) k0))), (b9, .inl (cI, 144, .inl (nF (updN mel (j * 6 + mec j) jc)))), (b10, .inl (cI, 144, .inl mev)), (bx, .inr (11, [.int 0, .int (nI n), .ref b0, .ref b1, .ref b2, .int (nI nm), .ref b3, .ref b4, .ref b5, .ref b6, .ref b7, .ref b8, .ref b9, .ref b10, .ref b11, .ref b12, .int (nI nk), .ref b13, .ref b14, .ref b15, .int (nI nd), .int (nI ng), .ref b16, .ref b17, .ref b18, .ref b19, .int be, .int bl, .ref b20, .int pe, .int (nI nn), .ref b21, .ref b22, .ref b23, .ref b24, .ref b25, .ref b26, .ref b27, .ref b28, .ref b29, .int (nI tc), .ref b30, .int (nI ncc), .long mk, .int fd, .int bs, .int (nI ps), .ref b31, .ref b32, .int sn, .int kt, .int bh]))] H := hP
          have hD : va_D A [(b7, .inl (cI, 24, .inl (nF mec))), (b8, .inl (cI, 144, .inl (upd mek (j * 6 + mec j) k0))), (b9, .inl (cI, 144, .inl (nF (updN mel (j * 6 + mec j) jc)))), (b10, .inl (cI, 144, .inl mev)), (bx, .inr (11, [.int 0, .int (nI n), .ref b0, .ref b1, .ref b2, .int (nI nm), .ref b3, .ref b4, .ref b5, .ref b6, .ref b7, .ref b8, .ref b9, .ref b10, .ref b11, .ref b12, .int (nI nk), .ref b13, .ref b14, .ref b15, .int (nI nd), .int (nI ng), .ref b16, .ref b17, .ref b18, .ref b19, .int be, .int bl, .ref b20, .int pe, .int (nI nn), .ref b21, .ref b22, .ref b23, .ref b24, .ref b25, .ref b26, .ref b27, .ref b28, .ref b29, .int (nI tc), .ref b30, .int (nI ncc), .long mk, .int fd, .int bs, .int (nI ps), .ref b31, .ref b32, .int sn, .int kt, .int bh]))] := hD
          refine lv_aload_n hx hb dX10_then_73 rfl (lv_at hl 1 rfl) ?_
          refine r_get (v := .ref b10) C hP okX10 4 13 rfl (by decide) fl_X10_41 rfl rfl dX10_then_74 ?_
          refine lv_iload hx hb dX10_then_77 (lv_at hl 0 rfl) ?_
          refine lv_iload hx hb dX10_then_79 (lv_at hl 5 rfl) ?_
          refine r_iast (j := j * 6 + mec j) C hP hD hS 3 rfl (by omega) (by decide) dX10_then_81 (fun H locs hP hD hS => ?_)
          have hP : va_P D vwCl [(b7, .inl (cI, 24, .inl (nF mec))), (b8, .inl (cI, 144, .inl (upd mek (j * 6 + mec j) k0))), (b9, .inl (cI, 144, .inl (nF (updN mel (j * 6 + mec j) jc)))), (b10, .inl (cI, 144, .inl (upd mev (j * 6 + mec j) v0_))), (bx, .inr (11, [.int 0, .int (nI n), .ref b0, .ref b1, .ref b2, .int (nI nm), .ref b3, .ref b4, .ref b5, .ref b6, .ref b7, .ref b8, .ref b9, .ref b10, .ref b11, .ref b12, .int (nI nk), .ref b13, .ref b14, .ref b15, .int (nI nd), .int (nI ng), .ref b16, .ref b17, .ref b18, .ref b19, .int be, .int bl, .ref b20, .int pe, .int (nI nn), .ref b21, .ref b22, .ref b23, .ref b24, .ref b25, .ref b26, .ref b27, .ref b28, .ref b29, .int (nI tc), .ref b30, .int (nI ncc), .long mk, .int fd, .int bs, .int (nI ps), .ref b31, .ref b32, .int sn, .int kt, .int bh]))] H := hP
          have hD : va_D A [(b7, .inl (cI, 24, .inl (nF mec))), (b8, .inl (cI, 144, .inl (upd mek (j * 6 + mec j) k0))), (b9, .inl (cI, 144, .inl (nF (updN mel (j * 6 + mec j) jc)))), (b10, .inl (cI, 144, .inl (upd mev (j * 6 + mec j) v0_))), (bx, .inr (11, [.int 0, .int (nI n), .ref b0, .ref b1, .ref b2, .int (nI nm), .ref b3, .ref b4, .ref b5, .ref b6, .ref b7, .ref b8, .ref b9, .ref b10, .ref b11, .ref b12, .int (nI nk), .ref b13, .ref b14, .ref b15, .int (nI nd), .int (nI ng), .ref b16, .ref b17, .ref b18, .ref b19, .int be, .int bl, .ref b20, .int pe, .int (nI nn), .ref b21, .ref b22, .ref b23, .ref b24, .ref b25, .ref b26, .ref b27, .ref b28, .ref b29, .int (nI tc), .ref b30, .int (nI ncc), .long mk, .int fd, .int bs, .int (nI ps), .ref b31, .ref b32, .int sn, .int kt, .int bh]))] := hD
          refine lv_aload_n hx hb dX10_then_82 rfl (lv_at hl 1 rfl) ?_
          refine r_get (v := .ref b7) C hP okX10 4 10 rfl (by decide) fl_X10_32 rfl rfl dX10_then_83 ?_
          refine lv_iload_n hx hb dX10_then_86 rfl (lv_at hl 2 rfl) ?_
          refine lv_dup2_11 hx hb dX10_then_87 rfl rfl ?_
          refine r_iald (j := j) C hP 0 rfl (by omega) (by decide) dX10_then_88 ?_
          refine r_top (x' := nI (mec j)) rfl ?_
          refine lv_iconst (v := 1) hx hb dX10_then_89 (by decide) ?_
          refine lv_iadd hx hb dX10_then_90 ?_
          refine r_top (x' := nI ((mec j) + 1)) (nI_add (mec j) 1) ?_
          refine r_iast (j := j) C hP hD hS 0 rfl (by omega) (by decide) dX10_then_91 (fun H locs hP hD hS => ?_)
          rw [nF_upd] at hP hD
          have hP : va_P D vwCl [(b7, .inl (cI, 24, .inl (nF (updN mec j ((mec j) + 1))))), (b8, .inl (cI, 144, .inl (upd mek (j * 6 + mec j) k0))), (b9, .inl (cI, 144, .inl (nF (updN mel (j * 6 + mec j) jc)))), (b10, .inl (cI, 144, .inl (upd mev (j * 6 + mec j) v0_))), (bx, .inr (11, [.int 0, .int (nI n), .ref b0, .ref b1, .ref b2, .int (nI nm), .ref b3, .ref b4, .ref b5, .ref b6, .ref b7, .ref b8, .ref b9, .ref b10, .ref b11, .ref b12, .int (nI nk), .ref b13, .ref b14, .ref b15, .int (nI nd), .int (nI ng), .ref b16, .ref b17, .ref b18, .ref b19, .int be, .int bl, .ref b20, .int pe, .int (nI nn), .ref b21, .ref b22, .ref b23, .ref b24, .ref b25, .ref b26, .ref b27, .ref b28, .ref b29, .int (nI tc), .ref b30, .int (nI ncc), .long mk, .int fd, .int bs, .int (nI ps), .ref b31, .ref b32, .int sn, .int kt, .int bh]))] H := hP
          have hD : va_D A [(b7, .inl (cI, 24, .inl (nF (updN mec j ((mec j) + 1))))), (b8, .inl (cI, 144, .inl (upd mek (j * 6 + mec j) k0))), (b9, .inl (cI, 144, .inl (nF (updN mel (j * 6 + mec j) jc)))), (b10, .inl (cI, 144, .inl (upd mev (j * 6 + mec j) v0_))), (bx, .inr (11, [.int 0, .int (nI n), .ref b0, .ref b1, .ref b2, .int (nI nm), .ref b3, .ref b4, .ref b5, .ref b6, .ref b7, .ref b8, .ref b9, .ref b10, .ref b11, .ref b12, .int (nI nk), .ref b13, .ref b14, .ref b15, .int (nI nd), .int (nI ng), .ref b16, .ref b17, .ref b18, .ref b19, .int be, .int bl, .ref b20, .int pe, .int (nI nn), .ref b21, .ref b22, .ref b23, .ref b24, .ref b25, .ref b26, .ref b27, .ref b28, .ref b29, .int (nI tc), .ref b30, .int (nI ncc), .long mk, .int fd, .int bs, .int (nI ps), .ref b31, .ref b32, .int sn, .int kt, .int bh]))] := hD
          refine lv_iconst (v := 1) hx hb dX10_then_92 (by decide) ?_
          exact rt_z C hQ (by decide) (hP.sub (ws' := [(bx, .inr (11, [.int 0, .int (nI n), .ref b0, .ref b1, .ref b2, .int (nI nm), .ref b3, .ref b4, .ref b5, .ref b6, .ref b7, .ref b8, .ref b9, .ref b10, .ref b11, .ref b12, .int (nI nk), .ref b13, .ref b14, .ref b15, .int (nI nd), .int (nI ng), .ref b16, .ref b17, .ref b18, .ref b19, .int be, .int bl, .ref b20, .int pe, .int (nI nn), .ref b21, .ref b22, .ref b23, .ref b24, .ref b25, .ref b26, .ref b27, .ref b28, .ref b29, .int (nI tc), .ref b30, .int (nI ncc), .long mk, .int fd, .int bs, .int (nI ps), .ref b31, .ref b32, .int sn, .int kt, .int bh])), (b7, .inl (cI, 24, .inl (nF (updN mec j ((mec j) + 1))))), (b8, .inl (cI, 144, .inl (upd mek (j * 6 + mec j) k0))), (b9, .inl (cI, 144, .inl (nF (updN mel (j * 6 + mec j) jc)))), (b10, .inl (cI, 144, .inl (upd mev (j * 6 + mec j) v0_)))]) [4, 0, 1, 2, 3] rfl) (hD.sub [4, 0, 1, 2, 3] (by decide) rfl) hS (by have hP_ : inR (nI j) nm = true ∧ inR (nI jc) n = true ∧ f_isEffect n k0 v0_ = true ∧ mec (nI j).toNatClampNeg < 6 := ⟨hb_7, hb_15, hb_25, by rw [nI_clamp (show j < 2 ^ 31 by omega)]; omega⟩; exact ⟨Or.inl ⟨rfl, hP_⟩, by simp only [if_pos hP_]; simp only [nI_clamp (show j < 2 ^ 31 by omega), nI_clamp (show jc < 2 ^ 31 by omega)]⟩) (by decide) (by decide) dX10_then_93
        · -- not taken 39
          have c_39 : mec j = 6 := (nI_eq (a := mec j) (b := 6) (by omega) (by omega)).mp c_39
          refine lv_iconst (v := 0) hx hb dX10_then_42 (by decide) ?_
          exact rt_z C hQ (by decide) (hP.sub (ws' := [(bx, .inr (11, [.int 0, .int (nI n), .ref b0, .ref b1, .ref b2, .int (nI nm), .ref b3, .ref b4, .ref b5, .ref b6, .ref b7, .ref b8, .ref b9, .ref b10, .ref b11, .ref b12, .int (nI nk), .ref b13, .ref b14, .ref b15, .int (nI nd), .int (nI ng), .ref b16, .ref b17, .ref b18, .ref b19, .int be, .int bl, .ref b20, .int pe, .int (nI nn), .ref b21, .ref b22, .ref b23, .ref b24, .ref b25, .ref b26, .ref b27, .ref b28, .ref b29, .int (nI tc), .ref b30, .int (nI ncc), .long mk, .int fd, .int bs, .int (nI ps), .ref b31, .ref b32, .int sn, .int kt, .int bh])), (b7, .inl (cI, 24, .inl (nF mec))), (b8, .inl (cI, 144, .inl mek)), (b9, .inl (cI, 144, .inl (nF mel))), (b10, .inl (cI, 144, .inl mev))]) [4, 0, 1, 2, 3] rfl) (hD.sub [4, 0, 1, 2, 3] (by decide) rfl) hS (by have hP_ : ¬ (inR (nI j) nm = true ∧ inR (nI jc) n = true ∧ f_isEffect n k0 v0_ = true ∧ mec (nI j).toNatClampNeg < 6) := (fun z => by first | exact hb_7 z.1 | exact hb_15 z.2.1 | exact hb_25 z.2.2.1 | (have z5 := z.2.2.2; rw [nI_clamp (show j < 2 ^ 31 by omega)] at z5; omega)); exact ⟨Or.inr ⟨rfl, hP_⟩, by simp only [if_neg hP_]⟩) (by decide) (by decide) dX10_then_43
      · -- no 25
        refine W.eq (g2 := F0 m 28 ls [.int 0]) rfl ?_
        have hP : va_P D vwCl [(b7, .inl (cI, 24, .inl (nF mec))), (b8, .inl (cI, 144, .inl mek)), (b9, .inl (cI, 144, .inl (nF mel))), (b10, .inl (cI, 144, .inl mev)), (bx, .inr (11, [.int 0, .int (nI n), .ref b0, .ref b1, .ref b2, .int (nI nm), .ref b3, .ref b4, .ref b5, .ref b6, .ref b7, .ref b8, .ref b9, .ref b10, .ref b11, .ref b12, .int (nI nk), .ref b13, .ref b14, .ref b15, .int (nI nd), .int (nI ng), .ref b16, .ref b17, .ref b18, .ref b19, .int be, .int bl, .ref b20, .int pe, .int (nI nn), .ref b21, .ref b22, .ref b23, .ref b24, .ref b25, .ref b26, .ref b27, .ref b28, .ref b29, .int (nI tc), .ref b30, .int (nI ncc), .long mk, .int fd, .int bs, .int (nI ps), .ref b31, .ref b32, .int sn, .int kt, .int bh]))] H := hP
        have hD : va_D A [(b7, .inl (cI, 24, .inl (nF mec))), (b8, .inl (cI, 144, .inl mek)), (b9, .inl (cI, 144, .inl (nF mel))), (b10, .inl (cI, 144, .inl mev)), (bx, .inr (11, [.int 0, .int (nI n), .ref b0, .ref b1, .ref b2, .int (nI nm), .ref b3, .ref b4, .ref b5, .ref b6, .ref b7, .ref b8, .ref b9, .ref b10, .ref b11, .ref b12, .int (nI nk), .ref b13, .ref b14, .ref b15, .int (nI nd), .int (nI ng), .ref b16, .ref b17, .ref b18, .ref b19, .int be, .int bl, .ref b20, .int pe, .int (nI nn), .ref b21, .ref b22, .ref b23, .ref b24, .ref b25, .ref b26, .ref b27, .ref b28, .ref b29, .int (nI tc), .ref b30, .int (nI ncc), .long mk, .int fd, .int bs, .int (nI ps), .ref b31, .ref b32, .int sn, .int kt, .int bh]))] := hD
        refine lv_if_eq (tgt := 42) hx hb dX10_then_28 (by decide) (fun c_28 => ?_) (fun c_28 => ?_)
        rotate_left
        · exact absurd c_28 (by decide)
        refine lv_iconst (v := 0) hx hb dX10_then_42 (by decide) ?_
        exact rt_z C hQ (by decide) (hP.sub (ws' := [(bx, .inr (11, [.int 0, .int (nI n), .ref b0, .ref b1, .ref b2, .int (nI nm), .ref b3, .ref b4, .ref b5, .ref b6, .ref b7, .ref b8, .ref b9, .ref b10, .ref b11, .ref b12, .int (nI nk), .ref b13, .ref b14, .ref b15, .int (nI nd), .int (nI ng), .ref b16, .ref b17, .ref b18, .ref b19, .int be, .int bl, .ref b20, .int pe, .int (nI nn), .ref b21, .ref b22, .ref b23, .ref b24, .ref b25, .ref b26, .ref b27, .ref b28, .ref b29, .int (nI tc), .ref b30, .int (nI ncc), .long mk, .int fd, .int bs, .int (nI ps), .ref b31, .ref b32, .int sn, .int kt, .int bh])), (b7, .inl (cI, 24, .inl (nF mec))), (b8, .inl (cI, 144, .inl mek)), (b9, .inl (cI, 144, .inl (nF mel))), (b10, .inl (cI, 144, .inl mev))]) [4, 0, 1, 2, 3] rfl) (hD.sub [4, 0, 1, 2, 3] (by decide) rfl) hS (by have hP_ : ¬ (inR (nI j) nm = true ∧ inR (nI jc) n = true ∧ f_isEffect n k0 v0_ = true ∧ mec (nI j).toNatClampNeg < 6) := (fun z => by first | exact hb_7 z.1 | exact hb_15 z.2.1 | exact hb_25 z.2.2.1 | (have z5 := z.2.2.2; rw [nI_clamp (show j < 2 ^ 31 by omega)] at z5; omega)); exact ⟨Or.inr ⟨rfl, hP_⟩, by simp only [if_neg hP_]⟩) (by decide) (by decide) dX10_then_43
set_option maxHeartbeats 4000000 in
set_option maxRecDepth 100000 in
theorem c_X10_show (l : Launch) (D : va_G) (cI cJ cZ : ClassId) (bx : Nat) (b0 : Nat) (b1 : Nat) (b2 : Nat) (b3 : Nat) (b4 : Nat) (b5 : Nat) (b6 : Nat) (b7 : Nat) (b8 : Nat) (b9 : Nat) (b10 : Nat) (b11 : Nat) (b12 : Nat) (b13 : Nat) (b14 : Nat) (b15 : Nat) (b16 : Nat) (b17 : Nat) (b18 : Nat) (b19 : Nat) (b20 : Nat) (b21 : Nat) (b22 : Nat) (b23 : Nat) (b24 : Nat) (b25 : Nat) (b26 : Nat) (b27 : Nat) (b28 : Nat) (b29 : Nat) (b30 : Nat) (b31 : Nat) (b32 : Nat) (th : Int32) (n : Nat) (nm : Nat) (nk : Nat) (nd : Nat) (ng : Nat) (be : Int32) (bl : Int32) (pe : Int32) (nn : Nat) (tc : Nat) (ncc : Nat) (mk : Int64) (fd : Int32) (bs : Int32) (ps : Nat) (sn : Int32) (kt : Int32) (bh : Int32) (mtx : Nat → Int32) (m0 : Int32) (t0_ : Int32) (hm : nm ≤ 24) : Ctr l D cI cJ cZ yX10_show cX10_show 3 (some .boolean) ({ frames := 1, cells := 0, slots := 0, locals := 21 } : Room) [.ref bx, .int m0, .int t0_] [(bx, .inr (11, [.int th, .int (nI n), .ref b0, .ref b1, .ref b2, .int (nI nm), .ref b3, .ref b4, .ref b5, .ref b6, .ref b7, .ref b8, .ref b9, .ref b10, .ref b11, .ref b12, .int (nI nk), .ref b13, .ref b14, .ref b15, .int (nI nd), .int (nI ng), .ref b16, .ref b17, .ref b18, .ref b19, .int be, .int bl, .ref b20, .int pe, .int (nI nn), .ref b21, .ref b22, .ref b23, .ref b24, .ref b25, .ref b26, .ref b27, .ref b28, .ref b29, .int (nI tc), .ref b30, .int (nI ncc), .long mk, .int fd, .int bs, .int (nI ps), .ref b31, .ref b32, .int sn, .int kt, .int bh])), (b11, .inl (cI, 24, .inl mtx))] (fun r W => ((r = some (.int 1) ∧ (inR m0 nm = true ∧ rg t0_ (-1) 31 = true)) ∨ (r = some (.int 0) ∧ ¬ (inR m0 nm = true ∧ rg t0_ (-1) 31 = true))) ∧ W = [(bx, .inr (11, [.int 0, .int (nI n), .ref b0, .ref b1, .ref b2, .int (nI nm), .ref b3, .ref b4, .ref b5, .ref b6, .ref b7, .ref b8, .ref b9, .ref b10, .ref b11, .ref b12, .int (nI nk), .ref b13, .ref b14, .ref b15, .int (nI nd), .int (nI ng), .ref b16, .ref b17, .ref b18, .ref b19, .int be, .int bl, .ref b20, .int pe, .int (nI nn), .ref b21, .ref b22, .ref b23, .ref b24, .ref b25, .ref b26, .ref b27, .ref b28, .ref b29, .int (nI tc), .ref b30, .int (nI ncc), .long mk, .int fd, .int bs, .int (nI ps), .ref b31, .ref b32, .int sn, .int kt, .int bh])), (b11, .inl (cI, 24, .inl (if inR m0 nm = true ∧ rg t0_ (-1) 31 = true then upd mtx m0.toNatClampNeg t0_ else mtx)))]) := by
  refine Ctr.start (by decide +kernel) (Nat.le_of_ble_eq_true rfl) ?_
  intro p e s m below meth c A Q ls H C hQ hA hP hD hS hl
  obtain ⟨hx, hb, hr, hml, hts, hown, hlk, hnm, hK, hN⟩ := id C
  have hl : lv_has ls 3 [(0, .ref bx), (1, .int m0), (2, .int t0_)] := hl
  refine lv_aload_n hx hb dX10_show_0 rfl (lv_at hl 0 rfl) ?_
  refine lv_iconst (v := 0) hx hb dX10_show_1 (by decide) ?_
  refine r_put (v := .int 0) C hP hD hS okX10 0 0 rfl (by decide) fl_X10_111 rfl rfl rfl rfl (Nat.le_of_ble_eq_true rfl) dX10_show_2 (fun H locs hP hD hS => ?_)
  have hP : va_P D vwCl [(bx, .inr (11, [.int 0, .int (nI n), .ref b0, .ref b1, .ref b2, .int (nI nm), .ref b3, .ref b4, .ref b5, .ref b6, .ref b7, .ref b8, .ref b9, .ref b10, .ref b11, .ref b12, .int (nI nk), .ref b13, .ref b14, .ref b15, .int (nI nd), .int (nI ng), .ref b16, .ref b17, .ref b18, .ref b19, .int be, .int bl, .ref b20, .int pe, .int (nI nn), .ref b21, .ref b22, .ref b23, .ref b24, .ref b25, .ref b26, .ref b27, .ref b28, .ref b29, .int (nI tc), .ref b30, .int (nI ncc), .long mk, .int fd, .int bs, .int (nI ps), .ref b31, .ref b32, .int sn, .int kt, .int bh])), (b11, .inl (cI, 24, .inl mtx))] H := hP
  have hD : va_D A [(bx, .inr (11, [.int 0, .int (nI n), .ref b0, .ref b1, .ref b2, .int (nI nm), .ref b3, .ref b4, .ref b5, .ref b6, .ref b7, .ref b8, .ref b9, .ref b10, .ref b11, .ref b12, .int (nI nk), .ref b13, .ref b14, .ref b15, .int (nI nd), .int (nI ng), .ref b16, .ref b17, .ref b18, .ref b19, .int be, .int bl, .ref b20, .int pe, .int (nI nn), .ref b21, .ref b22, .ref b23, .ref b24, .ref b25, .ref b26, .ref b27, .ref b28, .ref b29, .int (nI tc), .ref b30, .int (nI ncc), .long mk, .int fd, .int bs, .int (nI ps), .ref b31, .ref b32, .int sn, .int kt, .int bh])), (b11, .inl (cI, 24, .inl mtx))] := hD
  refine lv_aload_n hx hb dX10_show_5 rfl (lv_at hl 0 rfl) ?_
  refine lv_iload_n hx hb dX10_show_6 rfl (lv_at hl 1 rfl) ?_
  refine cl_v C (c_X10_noMove l D cI cJ cZ bx b0 b1 b2 b3 b4 b5 b6 b7 b8 b9 b10 b11 b12 b13 b14 b15 b16 b17 b18 b19 b20 b21 b22 b23 b24 b25 b26 b27 b28 b29 b30 b31 b32 0 n nm nk nd ng be bl pe nn tc ncc mk fd bs ps sn kt bh m0) cd_X10_noMove ml_X10_125 im_X10_noMove se_X10_noMove in_X10 hd_X10_noMove ⟨by decide, by decide⟩ hP hD hS hA (WR := [(b11, .inl (cI, 24, .inl mtx))]) [0] [1] rfl rfl rfl rfl (by decide) (ci := 11) (q0 := 0) rfl rfl hl.1 rfl (Nat.le_of_ble_eq_true rfl) dX10_show_7 ⟨by decide, by decide⟩ (fun r W H locs hp hP hD hS => ?_)
  rcases hp with ⟨⟨rfl, hb_7⟩ | ⟨rfl, hb_7⟩, rfl⟩
  · -- yes 7
    refine W.eq (g2 := F0 m 10 ls [.int 1]) rfl ?_
    have hP : va_P D vwCl [(b11, .inl (cI, 24, .inl mtx)), (bx, .inr (11, [.int 0, .int (nI n), .ref b0, .ref b1, .ref b2, .int (nI nm), .ref b3, .ref b4, .ref b5, .ref b6, .ref b7, .ref b8, .ref b9, .ref b10, .ref b11, .ref b12, .int (nI nk), .ref b13, .ref b14, .ref b15, .int (nI nd), .int (nI ng), .ref b16, .ref b17, .ref b18, .ref b19, .int be, .int bl, .ref b20, .int pe, .int (nI nn), .ref b21, .ref b22, .ref b23, .ref b24, .ref b25, .ref b26, .ref b27, .ref b28, .ref b29, .int (nI tc), .ref b30, .int (nI ncc), .long mk, .int fd, .int bs, .int (nI ps), .ref b31, .ref b32, .int sn, .int kt, .int bh]))] H := hP
    have hD : va_D A [(b11, .inl (cI, 24, .inl mtx)), (bx, .inr (11, [.int 0, .int (nI n), .ref b0, .ref b1, .ref b2, .int (nI nm), .ref b3, .ref b4, .ref b5, .ref b6, .ref b7, .ref b8, .ref b9, .ref b10, .ref b11, .ref b12, .int (nI nk), .ref b13, .ref b14, .ref b15, .int (nI nd), .int (nI ng), .ref b16, .ref b17, .ref b18, .ref b19, .int be, .int bl, .ref b20, .int pe, .int (nI nn), .ref b21, .ref b22, .ref b23, .ref b24, .ref b25, .ref b26, .ref b27, .ref b28, .ref b29, .int (nI tc), .ref b30, .int (nI ncc), .long mk, .int fd, .int bs, .int (nI ps), .ref b31, .ref b32, .int sn, .int kt, .int bh]))] := hD
    refine lv_if_ne (tgt := 24) hx hb dX10_show_10 (by decide) (fun c_10 => ?_) (fun c_10 => ?_)
    rotate_left
    · exact absurd c_10 (by decide)
    refine lv_iconst (v := 0) hx hb dX10_show_24 (by decide) ?_
    exact rt_z C hQ (by decide) (hP.sub (ws' := [(bx, .inr (11, [.int 0, .int (nI n), .ref b0, .ref b1, .ref b2, .int (nI nm), .ref b3, .ref b4, .ref b5, .ref b6, .ref b7, .ref b8, .ref b9, .ref b10, .ref b11, .ref b12, .int (nI nk), .ref b13, .ref b14, .ref b15, .int (nI nd), .int (nI ng), .ref b16, .ref b17, .ref b18, .ref b19, .int be, .int bl, .ref b20, .int pe, .int (nI nn), .ref b21, .ref b22, .ref b23, .ref b24, .ref b25, .ref b26, .ref b27, .ref b28, .ref b29, .int (nI tc), .ref b30, .int (nI ncc), .long mk, .int fd, .int bs, .int (nI ps), .ref b31, .ref b32, .int sn, .int kt, .int bh])), (b11, .inl (cI, 24, .inl mtx))]) [1, 0] rfl) (hD.sub [1, 0] (by decide) rfl) hS (by have hP_ : ¬ (inR m0 nm = true ∧ rg t0_ (-1) 31 = true) := (fun z => by first | exact hb_7 z.1 | exact rg_n1 c_15 z.2 | exact rg_n32 c_21 z.2); exact ⟨Or.inr ⟨rfl, hP_⟩, by simp only [if_neg hP_]⟩) (by decide) (by decide) dX10_show_25
  · -- no 7
    refine W.eq (g2 := F0 m 10 ls [.int 0]) rfl ?_
    have hP : va_P D vwCl [(b11, .inl (cI, 24, .inl mtx)), (bx, .inr (11, [.int 0, .int (nI n), .ref b0, .ref b1, .ref b2, .int (nI nm), .ref b3, .ref b4, .ref b5, .ref b6, .ref b7, .ref b8, .ref b9, .ref b10, .ref b11, .ref b12, .int (nI nk), .ref b13, .ref b14, .ref b15, .int (nI nd), .int (nI ng), .ref b16, .ref b17, .ref b18, .ref b19, .int be, .int bl, .ref b20, .int pe, .int (nI nn), .ref b21, .ref b22, .ref b23, .ref b24, .ref b25, .ref b26, .ref b27, .ref b28, .ref b29, .int (nI tc), .ref b30, .int (nI ncc), .long mk, .int fd, .int bs, .int (nI ps), .ref b31, .ref b32, .int sn, .int kt, .int bh]))] H := hP
    have hD : va_D A [(b11, .inl (cI, 24, .inl mtx)), (bx, .inr (11, [.int 0, .int (nI n), .ref b0, .ref b1, .ref b2, .int (nI nm), .ref b3, .ref b4, .ref b5, .ref b6, .ref b7, .ref b8, .ref b9, .ref b10, .ref b11, .ref b12, .int (nI nk), .ref b13, .ref b14, .ref b15, .int (nI nd), .int (nI ng), .ref b16, .ref b17, .ref b18, .ref b19, .int be, .int bl, .ref b20, .int pe, .int (nI nn), .ref b21, .ref b22, .ref b23, .ref b24, .ref b25, .ref b26, .ref b27, .ref b28, .ref b29, .int (nI tc), .ref b30, .int (nI ncc), .long mk, .int fd, .int bs, .int (nI ps), .ref b31, .ref b32, .int sn, .int kt, .int bh]))] := hD
    have hb_7 := Classical.not_not.mp hb_7
    obtain ⟨j, hj, rfl⟩ := (inR_iff (by omega)).mp hb_7
    refine lv_if_ne (tgt := 24) hx hb dX10_show_10 (by decide) (fun c_10 => ?_) (fun c_10 => ?_)
    · exact absurd c_10 (by decide)
    refine lv_iload_n hx hb dX10_show_13 rfl (lv_at hl 2 rfl) ?_
    refine lv_iconst (v := (-1)) hx hb dX10_show_14 (by decide) ?_
    refine lv_icmp_lt (tgt := 24) hx hb dX10_show_15 (by decide) (fun c_15 => ?_) (fun c_15 => ?_)
    · -- taken 15
      refine lv_iconst (v := 0) hx hb dX10_show_24 (by decide) ?_
      exact rt_z C hQ (by decide) (hP.sub (ws' := [(bx, .inr (11, [.int 0, .int (nI n), .ref b0, .ref b1, .ref b2, .int (nI nm), .ref b3, .ref b4, .ref b5, .ref b6, .ref b7, .ref b8, .ref b9, .ref b10, .ref b11, .ref b12, .int (nI nk), .ref b13, .ref b14, .ref b15, .int (nI nd), .int (nI ng), .ref b16, .ref b17, .ref b18, .ref b19, .int be, .int bl, .ref b20, .int pe, .int (nI nn), .ref b21, .ref b22, .ref b23, .ref b24, .ref b25, .ref b26, .ref b27, .ref b28, .ref b29, .int (nI tc), .ref b30, .int (nI ncc), .long mk, .int fd, .int bs, .int (nI ps), .ref b31, .ref b32, .int sn, .int kt, .int bh])), (b11, .inl (cI, 24, .inl mtx))]) [1, 0] rfl) (hD.sub [1, 0] (by decide) rfl) hS (by have hP_ : ¬ (inR (nI j) nm = true ∧ rg t0_ (-1) 31 = true) := (fun z => by first | exact hb_7 z.1 | exact rg_n1 c_15 z.2 | exact rg_n32 c_21 z.2); exact ⟨Or.inr ⟨rfl, hP_⟩, by simp only [if_neg hP_]⟩) (by decide) (by decide) dX10_show_25
    · -- not taken 15
      refine lv_iload_n hx hb dX10_show_18 rfl (lv_at hl 2 rfl) ?_
      refine lv_bipush (v := 32) hx hb dX10_show_19 (by decide) ?_
      refine lv_icmp_lt (tgt := 26) hx hb dX10_show_21 (by decide) (fun c_21 => ?_) (fun c_21 => ?_)
      · -- taken 21
        refine lv_aload_n hx hb dX10_show_26 rfl (lv_at hl 0 rfl) ?_
        refine r_get (v := .ref b11) C hP okX10 1 14 rfl (by decide) fl_X10_44 rfl rfl dX10_show_27 ?_
        refine lv_iload_n hx hb dX10_show_30 rfl (lv_at hl 1 rfl) ?_
        refine lv_iload_n hx hb dX10_show_31 rfl (lv_at hl 2 rfl) ?_
        refine r_iast (j := j) C hP hD hS 0 rfl (by omega) (by decide) dX10_show_32 (fun H locs hP hD hS => ?_)
        have hP : va_P D vwCl [(b11, .inl (cI, 24, .inl (upd mtx j t0_))), (bx, .inr (11, [.int 0, .int (nI n), .ref b0, .ref b1, .ref b2, .int (nI nm), .ref b3, .ref b4, .ref b5, .ref b6, .ref b7, .ref b8, .ref b9, .ref b10, .ref b11, .ref b12, .int (nI nk), .ref b13, .ref b14, .ref b15, .int (nI nd), .int (nI ng), .ref b16, .ref b17, .ref b18, .ref b19, .int be, .int bl, .ref b20, .int pe, .int (nI nn), .ref b21, .ref b22, .ref b23, .ref b24, .ref b25, .ref b26, .ref b27, .ref b28, .ref b29, .int (nI tc), .ref b30, .int (nI ncc), .long mk, .int fd, .int bs, .int (nI ps), .ref b31, .ref b32, .int sn, .int kt, .int bh]))] H := hP
        have hD : va_D A [(b11, .inl (cI, 24, .inl (upd mtx j t0_))), (bx, .inr (11, [.int 0, .int (nI n), .ref b0, .ref b1, .ref b2, .int (nI nm), .ref b3, .ref b4, .ref b5, .ref b6, .ref b7, .ref b8, .ref b9, .ref b10, .ref b11, .ref b12, .int (nI nk), .ref b13, .ref b14, .ref b15, .int (nI nd), .int (nI ng), .ref b16, .ref b17, .ref b18, .ref b19, .int be, .int bl, .ref b20, .int pe, .int (nI nn), .ref b21, .ref b22, .ref b23, .ref b24, .ref b25, .ref b26, .ref b27, .ref b28, .ref b29, .int (nI tc), .ref b30, .int (nI ncc), .long mk, .int fd, .int bs, .int (nI ps), .ref b31, .ref b32, .int sn, .int kt, .int bh]))] := hD
        refine lv_iconst (v := 1) hx hb dX10_show_33 (by decide) ?_
        exact rt_z C hQ (by decide) (hP.sub (ws' := [(bx, .inr (11, [.int 0, .int (nI n), .ref b0, .ref b1, .ref b2, .int (nI nm), .ref b3, .ref b4, .ref b5, .ref b6, .ref b7, .ref b8, .ref b9, .ref b10, .ref b11, .ref b12, .int (nI nk), .ref b13, .ref b14, .ref b15, .int (nI nd), .int (nI ng), .ref b16, .ref b17, .ref b18, .ref b19, .int be, .int bl, .ref b20, .int pe, .int (nI nn), .ref b21, .ref b22, .ref b23, .ref b24, .ref b25, .ref b26, .ref b27, .ref b28, .ref b29, .int (nI tc), .ref b30, .int (nI ncc), .long mk, .int fd, .int bs, .int (nI ps), .ref b31, .ref b32, .int sn, .int kt, .int bh])), (b11, .inl (cI, 24, .inl (upd mtx j t0_)))]) [1, 0] rfl) (hD.sub [1, 0] (by decide) rfl) hS (by have hP_ : inR (nI j) nm = true ∧ rg t0_ (-1) 31 = true := ⟨hb_7, rg_32 c_15 c_21⟩; exact ⟨Or.inl ⟨rfl, hP_⟩, by simp only [if_pos hP_]; simp only [nI_clamp (show j < 2 ^ 31 by omega)]⟩) (by decide) (by decide) dX10_show_34
      · -- not taken 21
        refine lv_iconst (v := 0) hx hb dX10_show_24 (by decide) ?_
        exact rt_z C hQ (by decide) (hP.sub (ws' := [(bx, .inr (11, [.int 0, .int (nI n), .ref b0, .ref b1, .ref b2, .int (nI nm), .ref b3, .ref b4, .ref b5, .ref b6, .ref b7, .ref b8, .ref b9, .ref b10, .ref b11, .ref b12, .int (nI nk), .ref b13, .ref b14, .ref b15, .int (nI nd), .int (nI ng), .ref b16, .ref b17, .ref b18, .ref b19, .int be, .int bl, .ref b20, .int pe, .int (nI nn), .ref b21, .ref b22, .ref b23, .ref b24, .ref b25, .ref b26, .ref b27, .ref b28, .ref b29, .int (nI tc), .ref b30, .int (nI ncc), .long mk, .int fd, .int bs, .int (nI ps), .ref b31, .ref b32, .int sn, .int kt, .int bh])), (b11, .inl (cI, 24, .inl mtx))]) [1, 0] rfl) (hD.sub [1, 0] (by decide) rfl) hS (by have hP_ : ¬ (inR (nI j) nm = true ∧ rg t0_ (-1) 31 = true) := (fun z => by first | exact hb_7 z.1 | exact rg_n1 c_15 z.2 | exact rg_n32 c_21 z.2); exact ⟨Or.inr ⟨rfl, hP_⟩, by simp only [if_neg hP_]⟩) (by decide) (by decide) dX10_show_25
set_option maxHeartbeats 4000000 in
set_option maxRecDepth 100000 in
theorem c_X10_ends (l : Launch) (D : va_G) (cI cJ cZ : ClassId) (bx : Nat) (b0 : Nat) (b1 : Nat) (b2 : Nat) (b3 : Nat) (b4 : Nat) (b5 : Nat) (b6 : Nat) (b7 : Nat) (b8 : Nat) (b9 : Nat) (b10 : Nat) (b11 : Nat) (b12 : Nat) (b13 : Nat) (b14 : Nat) (b15 : Nat) (b16 : Nat) (b17 : Nat) (b18 : Nat) (b19 : Nat) (b20 : Nat) (b21 : Nat) (b22 : Nat) (b23 : Nat) (b24 : Nat) (b25 : Nat) (b26 : Nat) (b27 : Nat) (b28 : Nat) (b29 : Nat) (b30 : Nat) (b31 : Nat) (b32 : Nat) (th : Int32) (n : Nat) (nm : Nat) (nk : Nat) (nd : Nat) (ng : Nat) (be : Int32) (bl : Int32) (pe : Int32) (nn : Nat) (tc : Nat) (ncc : Nat) (mk : Int64) (fd : Int32) (bs : Int32) (ps : Nat) (sn : Int32) (kt : Int32) (bh : Int32) (men : Nat → Int32) (m0 : Int32) (e0_ : Int32) (hm : nm ≤ 24) : Ctr l D cI cJ cZ yX10_ends cX10_ends 3 (some .boolean) ({ frames := 1, cells := 0, slots := 0, locals := 21 } : Room) [.ref bx, .int m0, .int e0_] [(bx, .inr (11, [.int th, .int (nI n), .ref b0, .ref b1, .ref b2, .int (nI nm), .ref b3, .ref b4, .ref b5, .ref b6, .ref b7, .ref b8, .ref b9, .ref b10, .ref b11, .ref b12, .int (nI nk), .ref b13, .ref b14, .ref b15, .int (nI nd), .int (nI ng), .ref b16, .ref b17, .ref b18, .ref b19, .int be, .int bl, .ref b20, .int pe, .int (nI nn), .ref b21, .ref b22, .ref b23, .ref b24, .ref b25, .ref b26, .ref b27, .ref b28, .ref b29, .int (nI tc), .ref b30, .int (nI ncc), .long mk, .int fd, .int bs, .int (nI ps), .ref b31, .ref b32, .int sn, .int kt, .int bh])), (b12, .inl (cI, 24, .inl men))] (fun r W => ((r = some (.int 1) ∧ (inR m0 nm = true ∧ rg e0_ 0 9 = true)) ∨ (r = some (.int 0) ∧ ¬ (inR m0 nm = true ∧ rg e0_ 0 9 = true))) ∧ W = [(bx, .inr (11, [.int 0, .int (nI n), .ref b0, .ref b1, .ref b2, .int (nI nm), .ref b3, .ref b4, .ref b5, .ref b6, .ref b7, .ref b8, .ref b9, .ref b10, .ref b11, .ref b12, .int (nI nk), .ref b13, .ref b14, .ref b15, .int (nI nd), .int (nI ng), .ref b16, .ref b17, .ref b18, .ref b19, .int be, .int bl, .ref b20, .int pe, .int (nI nn), .ref b21, .ref b22, .ref b23, .ref b24, .ref b25, .ref b26, .ref b27, .ref b28, .ref b29, .int (nI tc), .ref b30, .int (nI ncc), .long mk, .int fd, .int bs, .int (nI ps), .ref b31, .ref b32, .int sn, .int kt, .int bh])), (b12, .inl (cI, 24, .inl (if inR m0 nm = true ∧ rg e0_ 0 9 = true then upd men m0.toNatClampNeg e0_ else men)))]) := by
  refine Ctr.start (by decide +kernel) (Nat.le_of_ble_eq_true rfl) ?_
  intro p e s m below meth c A Q ls H C hQ hA hP hD hS hl
  obtain ⟨hx, hb, hr, hml, hts, hown, hlk, hnm, hK, hN⟩ := id C
  have hl : lv_has ls 3 [(0, .ref bx), (1, .int m0), (2, .int e0_)] := hl
  refine lv_aload_n hx hb dX10_ends_0 rfl (lv_at hl 0 rfl) ?_
  refine lv_iconst (v := 0) hx hb dX10_ends_1 (by decide) ?_
  refine r_put (v := .int 0) C hP hD hS okX10 0 0 rfl (by decide) fl_X10_111 rfl rfl rfl rfl (Nat.le_of_ble_eq_true rfl) dX10_ends_2 (fun H locs hP hD hS => ?_)
  have hP : va_P D vwCl [(bx, .inr (11, [.int 0, .int (nI n), .ref b0, .ref b1, .ref b2, .int (nI nm), .ref b3, .ref b4, .ref b5, .ref b6, .ref b7, .ref b8, .ref b9, .ref b10, .ref b11, .ref b12, .int (nI nk), .ref b13, .ref b14, .ref b15, .int (nI nd), .int (nI ng), .ref b16, .ref b17, .ref b18, .ref b19, .int be, .int bl, .ref b20, .int pe, .int (nI nn), .ref b21, .ref b22, .ref b23, .ref b24, .ref b25, .ref b26, .ref b27, .ref b28, .ref b29, .int (nI tc), .ref b30, .int (nI ncc), .long mk, .int fd, .int bs, .int (nI ps), .ref b31, .ref b32, .int sn, .int kt, .int bh])), (b12, .inl (cI, 24, .inl men))] H := hP
  have hD : va_D A [(bx, .inr (11, [.int 0, .int (nI n), .ref b0, .ref b1, .ref b2, .int (nI nm), .ref b3, .ref b4, .ref b5, .ref b6, .ref b7, .ref b8, .ref b9, .ref b10, .ref b11, .ref b12, .int (nI nk), .ref b13, .ref b14, .ref b15, .int (nI nd), .int (nI ng), .ref b16, .ref b17, .ref b18, .ref b19, .int be, .int bl, .ref b20, .int pe, .int (nI nn), .ref b21, .ref b22, .ref b23, .ref b24, .ref b25, .ref b26, .ref b27, .ref b28, .ref b29, .int (nI tc), .ref b30, .int (nI ncc), .long mk, .int fd, .int bs, .int (nI ps), .ref b31, .ref b32, .int sn, .int kt, .int bh])), (b12, .inl (cI, 24, .inl men))] := hD
  refine lv_aload_n hx hb dX10_ends_5 rfl (lv_at hl 0 rfl) ?_
  refine lv_iload_n hx hb dX10_ends_6 rfl (lv_at hl 1 rfl) ?_
  refine cl_v C (c_X10_noMove l D cI cJ cZ bx b0 b1 b2 b3 b4 b5 b6 b7 b8 b9 b10 b11 b12 b13 b14 b15 b16 b17 b18 b19 b20 b21 b22 b23 b24 b25 b26 b27 b28 b29 b30 b31 b32 0 n nm nk nd ng be bl pe nn tc ncc mk fd bs ps sn kt bh m0) cd_X10_noMove ml_X10_125 im_X10_noMove se_X10_noMove in_X10 hd_X10_noMove ⟨by decide, by decide⟩ hP hD hS hA (WR := [(b12, .inl (cI, 24, .inl men))]) [0] [1] rfl rfl rfl rfl (by decide) (ci := 11) (q0 := 0) rfl rfl hl.1 rfl (Nat.le_of_ble_eq_true rfl) dX10_ends_7 ⟨by decide, by decide⟩ (fun r W H locs hp hP hD hS => ?_)
  rcases hp with ⟨⟨rfl, hb_7⟩ | ⟨rfl, hb_7⟩, rfl⟩
  · -- yes 7
    refine W.eq (g2 := F0 m 10 ls [.int 1]) rfl ?_
    have hP : va_P D vwCl [(b12, .inl (cI, 24, .inl men)), (bx, .inr (11, [.int 0, .int (nI n), .ref b0, .ref b1, .ref b2, .int (nI nm), .ref b3, .ref b4, .ref b5, .ref b6, .ref b7, .ref b8, .ref b9, .ref b10, .ref b11, .ref b12, .int (nI nk), .ref b13, .ref b14, .ref b15, .int (nI nd), .int (nI ng), .ref b16, .ref b17, .ref b18, .ref b19, .int be, .int bl, .ref b20, .int pe, .int (nI nn), .ref b21, .ref b22, .ref b23, .ref b24, .ref b25, .ref b26, .ref b27, .ref b28, .ref b29, .int (nI tc), .ref b30, .int (nI ncc), .long mk, .int fd, .int bs, .int (nI ps), .ref b31, .ref b32, .int sn, .int kt, .int bh]))] H := hP
    have hD : va_D A [(b12, .inl (cI, 24, .inl men)), (bx, .inr (11, [.int 0, .int (nI n), .ref b0, .ref b1, .ref b2, .int (nI nm), .ref b3, .ref b4, .ref b5, .ref b6, .ref b7, .ref b8, .ref b9, .ref b10, .ref b11, .ref b12, .int (nI nk), .ref b13, .ref b14, .ref b15, .int (nI nd), .int (nI ng), .ref b16, .ref b17, .ref b18, .ref b19, .int be, .int bl, .ref b20, .int pe, .int (nI nn), .ref b21, .ref b22, .ref b23, .ref b24, .ref b25, .ref b26, .ref b27, .ref b28, .ref b29, .int (nI tc), .ref b30, .int (nI ncc), .long mk, .int fd, .int bs, .int (nI ps), .ref b31, .ref b32, .int sn, .int kt, .int bh]))] := hD
    refine lv_if_ne (tgt := 23) hx hb dX10_ends_10 (by decide) (fun c_10 => ?_) (fun c_10 => ?_)
    rotate_left
    · exact absurd c_10 (by decide)
    refine lv_iconst (v := 0) hx hb dX10_ends_23 (by decide) ?_
    exact rt_z C hQ (by decide) (hP.sub (ws' := [(bx, .inr (11, [.int 0, .int (nI n), .ref b0, .ref b1, .ref b2, .int (nI nm), .ref b3, .ref b4, .ref b5, .ref b6, .ref b7, .ref b8, .ref b9, .ref b10, .ref b11, .ref b12, .int (nI nk), .ref b13, .ref b14, .ref b15, .int (nI nd), .int (nI ng), .ref b16, .ref b17, .ref b18, .ref b19, .int be, .int bl, .ref b20, .int pe, .int (nI nn), .ref b21, .ref b22, .ref b23, .ref b24, .ref b25, .ref b26, .ref b27, .ref b28, .ref b29, .int (nI tc), .ref b30, .int (nI ncc), .long mk, .int fd, .int bs, .int (nI ps), .ref b31, .ref b32, .int sn, .int kt, .int bh])), (b12, .inl (cI, 24, .inl men))]) [1, 0] rfl) (hD.sub [1, 0] (by decide) rfl) hS (by have hP_ : ¬ (inR m0 nm = true ∧ rg e0_ 0 9 = true) := (fun z => by first | exact hb_7 z.1 | exact rg_n1 c_14 z.2 | exact rg_n2 (Int32.not_le.mp c_20) z.2); exact ⟨Or.inr ⟨rfl, hP_⟩, by simp only [if_neg hP_]⟩) (by decide) (by decide) dX10_ends_24
  · -- no 7
    refine W.eq (g2 := F0 m 10 ls [.int 0]) rfl ?_
    have hP : va_P D vwCl [(b12, .inl (cI, 24, .inl men)), (bx, .inr (11, [.int 0, .int (nI n), .ref b0, .ref b1, .ref b2, .int (nI nm), .ref b3, .ref b4, .ref b5, .ref b6, .ref b7, .ref b8, .ref b9, .ref b10, .ref b11, .ref b12, .int (nI nk), .ref b13, .ref b14, .ref b15, .int (nI nd), .int (nI ng), .ref b16, .ref b17, .ref b18, .ref b19, .int be, .int bl, .ref b20, .int pe, .int (nI nn), .ref b21, .ref b22, .ref b23, .ref b24, .ref b25, .ref b26, .ref b27, .ref b28, .ref b29, .int (nI tc), .ref b30, .int (nI ncc), .long mk, .int fd, .int bs, .int (nI ps), .ref b31, .ref b32, .int sn, .int kt, .int bh]))] H := hP
    have hD : va_D A [(b12, .inl (cI, 24, .inl men)), (bx, .inr (11, [.int 0, .int (nI n), .ref b0, .ref b1, .ref b2, .int (nI nm), .ref b3, .ref b4, .ref b5, .ref b6, .ref b7, .ref b8, .ref b9, .ref b10, .ref b11, .ref b12, .int (nI nk), .ref b13, .ref b14, .ref b15, .int (nI nd), .int (nI ng), .ref b16, .ref b17, .ref b18, .ref b19, .int be, .int bl, .ref b20, .int pe, .int (nI nn), .ref b21, .ref b22, .ref b23, .ref b24, .ref b25, .ref b26, .ref b27, .ref b28, .ref b29, .int (nI tc), .ref b30, .int (nI ncc), .long mk, .int fd, .int bs, .int (nI ps), .ref b31, .ref b32, .int sn, .int kt, .int bh]))] := hD
    have hb_7 := Classical.not_not.mp hb_7
    obtain ⟨j, hj, rfl⟩ := (inR_iff (by omega)).mp hb_7
    refine lv_if_ne (tgt := 23) hx hb dX10_ends_10 (by decide) (fun c_10 => ?_) (fun c_10 => ?_)
    · exact absurd c_10 (by decide)
    refine lv_iload_n hx hb dX10_ends_13 rfl (lv_at hl 2 rfl) ?_
    refine lv_if_lt (tgt := 23) hx hb dX10_ends_14 (by decide) (fun c_14 => ?_) (fun c_14 => ?_)
    · -- taken 14
      refine lv_iconst (v := 0) hx hb dX10_ends_23 (by decide) ?_
      exact rt_z C hQ (by decide) (hP.sub (ws' := [(bx, .inr (11, [.int 0, .int (nI n), .ref b0, .ref b1, .ref b2, .int (nI nm), .ref b3, .ref b4, .ref b5, .ref b6, .ref b7, .ref b8, .ref b9, .ref b10, .ref b11, .ref b12, .int (nI nk), .ref b13, .ref b14, .ref b15, .int (nI nd), .int (nI ng), .ref b16, .ref b17, .ref b18, .ref b19, .int be, .int bl, .ref b20, .int pe, .int (nI nn), .ref b21, .ref b22, .ref b23, .ref b24, .ref b25, .ref b26, .ref b27, .ref b28, .ref b29, .int (nI tc), .ref b30, .int (nI ncc), .long mk, .int fd, .int bs, .int (nI ps), .ref b31, .ref b32, .int sn, .int kt, .int bh])), (b12, .inl (cI, 24, .inl men))]) [1, 0] rfl) (hD.sub [1, 0] (by decide) rfl) hS (by have hP_ : ¬ (inR (nI j) nm = true ∧ rg e0_ 0 9 = true) := (fun z => by first | exact hb_7 z.1 | exact rg_n1 c_14 z.2 | exact rg_n2 (Int32.not_le.mp c_20) z.2); exact ⟨Or.inr ⟨rfl, hP_⟩, by simp only [if_neg hP_]⟩) (by decide) (by decide) dX10_ends_24
    · -- not taken 14
      refine lv_iload_n hx hb dX10_ends_17 rfl (lv_at hl 2 rfl) ?_
      refine lv_bipush (v := 9) hx hb dX10_ends_18 (by decide) ?_
      refine lv_icmp_le (tgt := 25) hx hb dX10_ends_20 (by decide) (fun c_20 => ?_) (fun c_20 => ?_)
      · -- taken 20
        refine lv_aload_n hx hb dX10_ends_25 rfl (lv_at hl 0 rfl) ?_
        refine r_get (v := .ref b12) C hP okX10 1 15 rfl (by decide) fl_X10_47 rfl rfl dX10_ends_26 ?_
        refine lv_iload_n hx hb dX10_ends_29 rfl (lv_at hl 1 rfl) ?_
        refine lv_iload_n hx hb dX10_ends_30 rfl (lv_at hl 2 rfl) ?_
        refine r_iast (j := j) C hP hD hS 0 rfl (by omega) (by decide) dX10_ends_31 (fun H locs hP hD hS => ?_)
        have hP : va_P D vwCl [(b12, .inl (cI, 24, .inl (upd men j e0_))), (bx, .inr (11, [.int 0, .int (nI n), .ref b0, .ref b1, .ref b2, .int (nI nm), .ref b3, .ref b4, .ref b5, .ref b6, .ref b7, .ref b8, .ref b9, .ref b10, .ref b11, .ref b12, .int (nI nk), .ref b13, .ref b14, .ref b15, .int (nI nd), .int (nI ng), .ref b16, .ref b17, .ref b18, .ref b19, .int be, .int bl, .ref b20, .int pe, .int (nI nn), .ref b21, .ref b22, .ref b23, .ref b24, .ref b25, .ref b26, .ref b27, .ref b28, .ref b29, .int (nI tc), .ref b30, .int (nI ncc), .long mk, .int fd, .int bs, .int (nI ps), .ref b31, .ref b32, .int sn, .int kt, .int bh]))] H := hP
        have hD : va_D A [(b12, .inl (cI, 24, .inl (upd men j e0_))), (bx, .inr (11, [.int 0, .int (nI n), .ref b0, .ref b1, .ref b2, .int (nI nm), .ref b3, .ref b4, .ref b5, .ref b6, .ref b7, .ref b8, .ref b9, .ref b10, .ref b11, .ref b12, .int (nI nk), .ref b13, .ref b14, .ref b15, .int (nI nd), .int (nI ng), .ref b16, .ref b17, .ref b18, .ref b19, .int be, .int bl, .ref b20, .int pe, .int (nI nn), .ref b21, .ref b22, .ref b23, .ref b24, .ref b25, .ref b26, .ref b27, .ref b28, .ref b29, .int (nI tc), .ref b30, .int (nI ncc), .long mk, .int fd, .int bs, .int (nI ps), .ref b31, .ref b32, .int sn, .int kt, .int bh]))] := hD
        refine lv_iconst (v := 1) hx hb dX10_ends_32 (by decide) ?_
        exact rt_z C hQ (by decide) (hP.sub (ws' := [(bx, .inr (11, [.int 0, .int (nI n), .ref b0, .ref b1, .ref b2, .int (nI nm), .ref b3, .ref b4, .ref b5, .ref b6, .ref b7, .ref b8, .ref b9, .ref b10, .ref b11, .ref b12, .int (nI nk), .ref b13, .ref b14, .ref b15, .int (nI nd), .int (nI ng), .ref b16, .ref b17, .ref b18, .ref b19, .int be, .int bl, .ref b20, .int pe, .int (nI nn), .ref b21, .ref b22, .ref b23, .ref b24, .ref b25, .ref b26, .ref b27, .ref b28, .ref b29, .int (nI tc), .ref b30, .int (nI ncc), .long mk, .int fd, .int bs, .int (nI ps), .ref b31, .ref b32, .int sn, .int kt, .int bh])), (b12, .inl (cI, 24, .inl (upd men j e0_)))]) [1, 0] rfl) (hD.sub [1, 0] (by decide) rfl) hS (by have hP_ : inR (nI j) nm = true ∧ rg e0_ 0 9 = true := ⟨hb_7, rg_y c_14 (Int32.not_lt.mpr c_20)⟩; exact ⟨Or.inl ⟨rfl, hP_⟩, by simp only [if_pos hP_]; simp only [nI_clamp (show j < 2 ^ 31 by omega)]⟩) (by decide) (by decide) dX10_ends_33
      · -- not taken 20
        refine lv_iconst (v := 0) hx hb dX10_ends_23 (by decide) ?_
        exact rt_z C hQ (by decide) (hP.sub (ws' := [(bx, .inr (11, [.int 0, .int (nI n), .ref b0, .ref b1, .ref b2, .int (nI nm), .ref b3, .ref b4, .ref b5, .ref b6, .ref b7, .ref b8, .ref b9, .ref b10, .ref b11, .ref b12, .int (nI nk), .ref b13, .ref b14, .ref b15, .int (nI nd), .int (nI ng), .ref b16, .ref b17, .ref b18, .ref b19, .int be, .int bl, .ref b20, .int pe, .int (nI nn), .ref b21, .ref b22, .ref b23, .ref b24, .ref b25, .ref b26, .ref b27, .ref b28, .ref b29, .int (nI tc), .ref b30, .int (nI ncc), .long mk, .int fd, .int bs, .int (nI ps), .ref b31, .ref b32, .int sn, .int kt, .int bh])), (b12, .inl (cI, 24, .inl men))]) [1, 0] rfl) (hD.sub [1, 0] (by decide) rfl) hS (by have hP_ : ¬ (inR (nI j) nm = true ∧ rg e0_ 0 9 = true) := (fun z => by first | exact hb_7 z.1 | exact rg_n1 c_14 z.2 | exact rg_n2 (Int32.not_le.mp c_20) z.2); exact ⟨Or.inr ⟨rfl, hP_⟩, by simp only [if_neg hP_]⟩) (by decide) (by decide) dX10_ends_24
set_option maxHeartbeats 4000000 in
set_option maxRecDepth 100000 in
theorem c_X10_of (l : Launch) (D : va_G) (cI cJ cZ : ClassId) (bx : Nat) (b0 : Nat) (b1 : Nat) (b2 : Nat) (b3 : Nat) (b4 : Nat) (b5 : Nat) (b6 : Nat) (b7 : Nat) (b8 : Nat) (b9 : Nat) (b10 : Nat) (b11 : Nat) (b12 : Nat) (b13 : Nat) (b14 : Nat) (b15 : Nat) (b16 : Nat) (b17 : Nat) (b18 : Nat) (b19 : Nat) (b20 : Nat) (b21 : Nat) (b22 : Nat) (b23 : Nat) (b24 : Nat) (b25 : Nat) (b26 : Nat) (b27 : Nat) (b28 : Nat) (b29 : Nat) (b30 : Nat) (b31 : Nat) (b32 : Nat) (th : Int32) (n : Nat) (nm : Nat) (nk : Nat) (nd : Nat) (ng : Nat) (be : Int32) (bl : Int32) (pe : Int32) (nn : Nat) (tc : Nat) (ncc : Nat) (mk : Int64) (fd : Int32) (bs : Int32) (ps : Nat) (sn : Int32) (kt : Int32) (bh : Int32) (dr : Nat → Nat) (m0 : Int32) (hm : nm ≤ 24) (hd : nd ≤ 6) : Ctr l D cI cJ cZ yX10_of cX10_of 2 (some .int) ({ frames := 1, cells := 0, slots := 0, locals := 21 } : Room) [.ref bx, .int m0] [(bx, .inr (11, [.int th, .int (nI n), .ref b0, .ref b1, .ref b2, .int (nI nm), .ref b3, .ref b4, .ref b5, .ref b6, .ref b7, .ref b8, .ref b9, .ref b10, .ref b11, .ref b12, .int (nI nk), .ref b13, .ref b14, .ref b15, .int (nI nd), .int (nI ng), .ref b16, .ref b17, .ref b18, .ref b19, .int be, .int bl, .ref b20, .int pe, .int (nI nn), .ref b21, .ref b22, .ref b23, .ref b24, .ref b25, .ref b26, .ref b27, .ref b28, .ref b29, .int (nI tc), .ref b30, .int (nI ncc), .long mk, .int fd, .int bs, .int (nI ps), .ref b31, .ref b32, .int sn, .int kt, .int bh])), (b15, .inl (cI, 6, .inl (nF dr)))] (fun r W => r = some (.int (if inR m0 nm = true ∧ nd < 6 then nI (nd + 1) else -1)) ∧ W = [(bx, .inr (11, [.int 0, .int (nI n), .ref b0, .ref b1, .ref b2, .int (nI nm), .ref b3, .ref b4, .ref b5, .ref b6, .ref b7, .ref b8, .ref b9, .ref b10, .ref b11, .ref b12, .int (nI nk), .ref b13, .ref b14, .ref b15, .int (nI (if inR m0 nm = true ∧ nd < 6 then nd + 1 else nd)), .int (nI ng), .ref b16, .ref b17, .ref b18, .ref b19, .int be, .int bl, .ref b20, .int pe, .int (nI nn), .ref b21, .ref b22, .ref b23, .ref b24, .ref b25, .ref b26, .ref b27, .ref b28, .ref b29, .int (nI tc), .ref b30, .int (nI ncc), .long mk, .int fd, .int bs, .int (nI ps), .ref b31, .ref b32, .int sn, .int kt, .int bh])), (b15, .inl (cI, 6, .inl (nF (if inR m0 nm = true ∧ nd < 6 then updN dr nd m0.toNatClampNeg else dr))))]) := by
  refine Ctr.start (by decide +kernel) (Nat.le_of_ble_eq_true rfl) ?_
  intro p e s m below meth c A Q ls H C hQ hA hP hD hS hl
  obtain ⟨hx, hb, hr, hml, hts, hown, hlk, hnm, hK, hN⟩ := id C
  have hl : lv_has ls 2 [(0, .ref bx), (1, .int m0)] := hl
  refine lv_aload_n hx hb dX10_of_0 rfl (lv_at hl 0 rfl) ?_
  refine lv_iconst (v := 0) hx hb dX10_of_1 (by decide) ?_
  refine r_put (v := .int 0) C hP hD hS okX10 0 0 rfl (by decide) fl_X10_111 rfl rfl rfl rfl (Nat.le_of_ble_eq_true rfl) dX10_of_2 (fun H locs hP hD hS => ?_)
  have hP : va_P D vwCl [(bx, .inr (11, [.int 0, .int (nI n), .ref b0, .ref b1, .ref b2, .int (nI nm), .ref b3, .ref b4, .ref b5, .ref b6, .ref b7, .ref b8, .ref b9, .ref b10, .ref b11, .ref b12, .int (nI nk), .ref b13, .ref b14, .ref b15, .int (nI nd), .int (nI ng), .ref b16, .ref b17, .ref b18, .ref b19, .int be, .int bl, .ref b20, .int pe, .int (nI nn), .ref b21, .ref b22, .ref b23, .ref b24, .ref b25, .ref b26, .ref b27, .ref b28, .ref b29, .int (nI tc), .ref b30, .int (nI ncc), .long mk, .int fd, .int bs, .int (nI ps), .ref b31, .ref b32, .int sn, .int kt, .int bh])), (b15, .inl (cI, 6, .inl (nF dr)))] H := hP
  have hD : va_D A [(bx, .inr (11, [.int 0, .int (nI n), .ref b0, .ref b1, .ref b2, .int (nI nm), .ref b3, .ref b4, .ref b5, .ref b6, .ref b7, .ref b8, .ref b9, .ref b10, .ref b11, .ref b12, .int (nI nk), .ref b13, .ref b14, .ref b15, .int (nI nd), .int (nI ng), .ref b16, .ref b17, .ref b18, .ref b19, .int be, .int bl, .ref b20, .int pe, .int (nI nn), .ref b21, .ref b22, .ref b23, .ref b24, .ref b25, .ref b26, .ref b27, .ref b28, .ref b29, .int (nI tc), .ref b30, .int (nI ncc), .long mk, .int fd, .int bs, .int (nI ps), .ref b31, .ref b32, .int sn, .int kt, .int bh])), (b15, .inl (cI, 6, .inl (nF dr)))] := hD
  refine lv_aload_n hx hb dX10_of_5 rfl (lv_at hl 0 rfl) ?_
  refine lv_iload_n hx hb dX10_of_6 rfl (lv_at hl 1 rfl) ?_
  refine cl_v C (c_X10_noMove l D cI cJ cZ bx b0 b1 b2 b3 b4 b5 b6 b7 b8 b9 b10 b11 b12 b13 b14 b15 b16 b17 b18 b19 b20 b21 b22 b23 b24 b25 b26 b27 b28 b29 b30 b31 b32 0 n nm nk nd ng be bl pe nn tc ncc mk fd bs ps sn kt bh m0) cd_X10_noMove ml_X10_125 im_X10_noMove se_X10_noMove in_X10 hd_X10_noMove ⟨by decide, by decide⟩ hP hD hS hA (WR := [(b15, .inl (cI, 6, .inl (nF dr)))]) [0] [1] rfl rfl rfl rfl (by decide) (ci := 11) (q0 := 0) rfl rfl hl.1 rfl (Nat.le_of_ble_eq_true rfl) dX10_of_7 ⟨by decide, by decide⟩ (fun r W H locs hp hP hD hS => ?_)
  rcases hp with ⟨⟨rfl, hb_7⟩ | ⟨rfl, hb_7⟩, rfl⟩
  · -- yes 7
    refine W.eq (g2 := F0 m 10 ls [.int 1]) rfl ?_
    have hP : va_P D vwCl [(b15, .inl (cI, 6, .inl (nF dr))), (bx, .inr (11, [.int 0, .int (nI n), .ref b0, .ref b1, .ref b2, .int (nI nm), .ref b3, .ref b4, .ref b5, .ref b6, .ref b7, .ref b8, .ref b9, .ref b10, .ref b11, .ref b12, .int (nI nk), .ref b13, .ref b14, .ref b15, .int (nI nd), .int (nI ng), .ref b16, .ref b17, .ref b18, .ref b19, .int be, .int bl, .ref b20, .int pe, .int (nI nn), .ref b21, .ref b22, .ref b23, .ref b24, .ref b25, .ref b26, .ref b27, .ref b28, .ref b29, .int (nI tc), .ref b30, .int (nI ncc), .long mk, .int fd, .int bs, .int (nI ps), .ref b31, .ref b32, .int sn, .int kt, .int bh]))] H := hP
    have hD : va_D A [(b15, .inl (cI, 6, .inl (nF dr))), (bx, .inr (11, [.int 0, .int (nI n), .ref b0, .ref b1, .ref b2, .int (nI nm), .ref b3, .ref b4, .ref b5, .ref b6, .ref b7, .ref b8, .ref b9, .ref b10, .ref b11, .ref b12, .int (nI nk), .ref b13, .ref b14, .ref b15, .int (nI nd), .int (nI ng), .ref b16, .ref b17, .ref b18, .ref b19, .int be, .int bl, .ref b20, .int pe, .int (nI nn), .ref b21, .ref b22, .ref b23, .ref b24, .ref b25, .ref b26, .ref b27, .ref b28, .ref b29, .int (nI tc), .ref b30, .int (nI ncc), .long mk, .int fd, .int bs, .int (nI ps), .ref b31, .ref b32, .int sn, .int kt, .int bh]))] := hD
    refine lv_if_ne (tgt := 22) hx hb dX10_of_10 (by decide) (fun c_10 => ?_) (fun c_10 => ?_)
    rotate_left
    · exact absurd c_10 (by decide)
    refine lv_iconst (v := (-1)) hx hb dX10_of_22 (by decide) ?_
    exact rt_i C hQ (hP.sub (ws' := [(bx, .inr (11, [.int 0, .int (nI n), .ref b0, .ref b1, .ref b2, .int (nI nm), .ref b3, .ref b4, .ref b5, .ref b6, .ref b7, .ref b8, .ref b9, .ref b10, .ref b11, .ref b12, .int (nI nk), .ref b13, .ref b14, .ref b15, .int (nI nd), .int (nI ng), .ref b16, .ref b17, .ref b18, .ref b19, .int be, .int bl, .ref b20, .int pe, .int (nI nn), .ref b21, .ref b22, .ref b23, .ref b24, .ref b25, .ref b26, .ref b27, .ref b28, .ref b29, .int (nI tc), .ref b30, .int (nI ncc), .long mk, .int fd, .int bs, .int (nI ps), .ref b31, .ref b32, .int sn, .int kt, .int bh])), (b15, .inl (cI, 6, .inl (nF dr)))]) [1, 0] rfl) (hD.sub [1, 0] (by decide) rfl) hS (by have hP_ : ¬ (inR m0 nm = true ∧ nd < 6) := (fun z => by first | exact hb_7 z.1 | omega); exact ⟨by rw [if_neg hP_], by simp only [if_neg hP_]⟩) (by decide) (by decide) dX10_of_23
  · -- no 7
    refine W.eq (g2 := F0 m 10 ls [.int 0]) rfl ?_
    have hP : va_P D vwCl [(b15, .inl (cI, 6, .inl (nF dr))), (bx, .inr (11, [.int 0, .int (nI n), .ref b0, .ref b1, .ref b2, .int (nI nm), .ref b3, .ref b4, .ref b5, .ref b6, .ref b7, .ref b8, .ref b9, .ref b10, .ref b11, .ref b12, .int (nI nk), .ref b13, .ref b14, .ref b15, .int (nI nd), .int (nI ng), .ref b16, .ref b17, .ref b18, .ref b19, .int be, .int bl, .ref b20, .int pe, .int (nI nn), .ref b21, .ref b22, .ref b23, .ref b24, .ref b25, .ref b26, .ref b27, .ref b28, .ref b29, .int (nI tc), .ref b30, .int (nI ncc), .long mk, .int fd, .int bs, .int (nI ps), .ref b31, .ref b32, .int sn, .int kt, .int bh]))] H := hP
    have hD : va_D A [(b15, .inl (cI, 6, .inl (nF dr))), (bx, .inr (11, [.int 0, .int (nI n), .ref b0, .ref b1, .ref b2, .int (nI nm), .ref b3, .ref b4, .ref b5, .ref b6, .ref b7, .ref b8, .ref b9, .ref b10, .ref b11, .ref b12, .int (nI nk), .ref b13, .ref b14, .ref b15, .int (nI nd), .int (nI ng), .ref b16, .ref b17, .ref b18, .ref b19, .int be, .int bl, .ref b20, .int pe, .int (nI nn), .ref b21, .ref b22, .ref b23, .ref b24, .ref b25, .ref b26, .ref b27, .ref b28, .ref b29, .int (nI tc), .ref b30, .int (nI ncc), .long mk, .int fd, .int bs, .int (nI ps), .ref b31, .ref b32, .int sn, .int kt, .int bh]))] := hD
    have hb_7 := Classical.not_not.mp hb_7
    obtain ⟨j, hj, rfl⟩ := (inR_iff (by omega)).mp hb_7
    refine lv_if_ne (tgt := 22) hx hb dX10_of_10 (by decide) (fun c_10 => ?_) (fun c_10 => ?_)
    · exact absurd c_10 (by decide)
    refine lv_aload_n hx hb dX10_of_13 rfl (lv_at hl 0 rfl) ?_
    refine r_get (v := .int (nI nd)) C hP okX10 1 20 rfl (by decide) fl_X10_132 rfl rfl dX10_of_14 ?_
    refine lv_bipush (v := 6) hx hb dX10_of_17 (by decide) ?_
    refine lv_icmp_ne (tgt := 24) hx hb dX10_of_19 (by decide) (fun c_19 => ?_) (fun c_19 => ?_)
    · -- taken 19
      have c_19 : ¬ (nd = 6) := fun z => c_19 ((nI_eq (a := nd) (b := 6) (by omega) (by omega)).mpr z)
      refine lv_aload_n hx hb dX10_of_24 rfl (lv_at hl 0 rfl) ?_
      refine r_get (v := .ref b15) C hP okX10 1 19 rfl (by decide) fl_X10_56 rfl rfl dX10_of_25 ?_
      refine lv_aload_n hx hb dX10_of_28 rfl (lv_at hl 0 rfl) ?_
      refine r_get (v := .int (nI nd)) C hP okX10 1 20 rfl (by decide) fl_X10_132 rfl rfl dX10_of_29 ?_
      refine lv_iload_n hx hb dX10_of_32 rfl (lv_at hl 1 rfl) ?_
      refine r_iast (j := nd) C hP hD hS 0 rfl (by omega) (by decide) dX10_of_33 (fun H locs hP hD hS => ?_)
      rw [nF_upd] at hP hD
      have hP : va_P D vwCl [(b15, .inl (cI, 6, .inl (nF (updN dr nd j)))), (bx, .inr (11, [.int 0, .int (nI n), .ref b0, .ref b1, .ref b2, .int (nI nm), .ref b3, .ref b4, .ref b5, .ref b6, .ref b7, .ref b8, .ref b9, .ref b10, .ref b11, .ref b12, .int (nI nk), .ref b13, .ref b14, .ref b15, .int (nI nd), .int (nI ng), .ref b16, .ref b17, .ref b18, .ref b19, .int be, .int bl, .ref b20, .int pe, .int (nI nn), .ref b21, .ref b22, .ref b23, .ref b24, .ref b25, .ref b26, .ref b27, .ref b28, .ref b29, .int (nI tc), .ref b30, .int (nI ncc), .long mk, .int fd, .int bs, .int (nI ps), .ref b31, .ref b32, .int sn, .int kt, .int bh]))] H := hP
      have hD : va_D A [(b15, .inl (cI, 6, .inl (nF (updN dr nd j)))), (bx, .inr (11, [.int 0, .int (nI n), .ref b0, .ref b1, .ref b2, .int (nI nm), .ref b3, .ref b4, .ref b5, .ref b6, .ref b7, .ref b8, .ref b9, .ref b10, .ref b11, .ref b12, .int (nI nk), .ref b13, .ref b14, .ref b15, .int (nI nd), .int (nI ng), .ref b16, .ref b17, .ref b18, .ref b19, .int be, .int bl, .ref b20, .int pe, .int (nI nn), .ref b21, .ref b22, .ref b23, .ref b24, .ref b25, .ref b26, .ref b27, .ref b28, .ref b29, .int (nI tc), .ref b30, .int (nI ncc), .long mk, .int fd, .int bs, .int (nI ps), .ref b31, .ref b32, .int sn, .int kt, .int bh]))] := hD
      refine lv_aload_n hx hb dX10_of_34 rfl (lv_at hl 0 rfl) ?_
      refine lv_dup hx hb dX10_of_35 rfl ?_
      refine r_get (v := .int (nI nd)) C hP okX10 1 20 rfl (by decide) fl_X10_132 rfl rfl dX10_of_36 ?_
      refine lv_iconst (v := 1) hx hb dX10_of_39 (by decide) ?_
      refine lv_iadd hx hb dX10_of_40 ?_
      refine r_top (x' := nI (nd + 1)) (nI_add nd 1) ?_
      refine r_put (v := .int (nI (nd + 1))) C hP hD hS okX10 1 20 rfl (by decide) fl_X10_132 rfl rfl rfl rfl (Nat.le_of_ble_eq_true rfl) dX10_of_41 (fun H locs hP hD hS => ?_)
      have hP : va_P D vwCl [(b15, .inl (cI, 6, .inl (nF (updN dr nd j)))), (bx, .inr (11, [.int 0, .int (nI n), .ref b0, .ref b1, .ref b2, .int (nI nm), .ref b3, .ref b4, .ref b5, .ref b6, .ref b7, .ref b8, .ref b9, .ref b10, .ref b11, .ref b12, .int (nI nk), .ref b13, .ref b14, .ref b15, .int (nI (nd + 1)), .int (nI ng), .ref b16, .ref b17, .ref b18, .ref b19, .int be, .int bl, .ref b20, .int pe, .int (nI nn), .ref b21, .ref b22, .ref b23, .ref b24, .ref b25, .ref b26, .ref b27, .ref b28, .ref b29, .int (nI tc), .ref b30, .int (nI ncc), .long mk, .int fd, .int bs, .int (nI ps), .ref b31, .ref b32, .int sn, .int kt, .int bh]))] H := hP
      have hD : va_D A [(b15, .inl (cI, 6, .inl (nF (updN dr nd j)))), (bx, .inr (11, [.int 0, .int (nI n), .ref b0, .ref b1, .ref b2, .int (nI nm), .ref b3, .ref b4, .ref b5, .ref b6, .ref b7, .ref b8, .ref b9, .ref b10, .ref b11, .ref b12, .int (nI nk), .ref b13, .ref b14, .ref b15, .int (nI (nd + 1)), .int (nI ng), .ref b16, .ref b17, .ref b18, .ref b19, .int be, .int bl, .ref b20, .int pe, .int (nI nn), .ref b21, .ref b22, .ref b23, .ref b24, .ref b25, .ref b26, .ref b27, .ref b28, .ref b29, .int (nI tc), .ref b30, .int (nI ncc), .long mk, .int fd, .int bs, .int (nI ps), .ref b31, .ref b32, .int sn, .int kt, .int bh]))] := hD
      refine lv_aload_n hx hb dX10_of_44 rfl (lv_at hl 0 rfl) ?_
      refine r_get (v := .int (nI (nd + 1))) C hP okX10 1 20 rfl (by decide) fl_X10_132 rfl rfl dX10_of_45 ?_
      exact rt_i C hQ (hP.sub (ws' := [(bx, .inr (11, [.int 0, .int (nI n), .ref b0, .ref b1, .ref b2, .int (nI nm), .ref b3, .ref b4, .ref b5, .ref b6, .ref b7, .ref b8, .ref b9, .ref b10, .ref b11, .ref b12, .int (nI nk), .ref b13, .ref b14, .ref b15, .int (nI (nd + 1)), .int (nI ng), .ref b16, .ref b17, .ref b18, .ref b19, .int be, .int bl, .ref b20, .int pe, .int (nI nn), .ref b21, .ref b22, .ref b23, .ref b24, .ref b25, .ref b26, .ref b27, .ref b28, .ref b29, .int (nI tc), .ref b30, .int (nI ncc), .long mk, .int fd, .int bs, .int (nI ps), .ref b31, .ref b32, .int sn, .int kt, .int bh])), (b15, .inl (cI, 6, .inl (nF (updN dr nd j))))]) [1, 0] rfl) (hD.sub [1, 0] (by decide) rfl) hS (by have hP_ : inR (nI j) nm = true ∧ nd < 6 := ⟨hb_7, by omega⟩; exact ⟨by rw [if_pos hP_], by simp only [if_pos hP_]; simp only [nI_clamp (show j < 2 ^ 31 by omega)]⟩) (by decide) (by decide) dX10_of_48
    · -- not taken 19
      have c_19 : nd = 6 := (nI_eq (a := nd) (b := 6) (by omega) (by omega)).mp c_19
      refine lv_iconst (v := (-1)) hx hb dX10_of_22 (by decide) ?_
      exact rt_i C hQ (hP.sub (ws' := [(bx, .inr (11, [.int 0, .int (nI n), .ref b0, .ref b1, .ref b2, .int (nI nm), .ref b3, .ref b4, .ref b5, .ref b6, .ref b7, .ref b8, .ref b9, .ref b10, .ref b11, .ref b12, .int (nI nk), .ref b13, .ref b14, .ref b15, .int (nI nd), .int (nI ng), .ref b16, .ref b17, .ref b18, .ref b19, .int be, .int bl, .ref b20, .int pe, .int (nI nn), .ref b21, .ref b22, .ref b23, .ref b24, .ref b25, .ref b26, .ref b27, .ref b28, .ref b29, .int (nI tc), .ref b30, .int (nI ncc), .long mk, .int fd, .int bs, .int (nI ps), .ref b31, .ref b32, .int sn, .int kt, .int bh])), (b15, .inl (cI, 6, .inl (nF dr)))]) [1, 0] rfl) (hD.sub [1, 0] (by decide) rfl) hS (by have hP_ : ¬ (inR (nI j) nm = true ∧ nd < 6) := (fun z => by first | exact hb_7 z.1 | omega); exact ⟨by rw [if_neg hP_], by simp only [if_neg hP_]⟩) (by decide) (by decide) dX10_of_23
set_option maxHeartbeats 4000000 in
set_option maxRecDepth 100000 in
theorem lp_X10_macro_26 (l : Launch) (D : va_G) (cI cJ cZ : ClassId) (bx : Nat) (b0 : Nat) (b1 : Nat) (b2 : Nat) (b3 : Nat) (b4 : Nat) (b5 : Nat) (b6 : Nat) (b7 : Nat) (b8 : Nat) (b9 : Nat) (b10 : Nat) (b11 : Nat) (b12 : Nat) (b13 : Nat) (b14 : Nat) (b15 : Nat) (b16 : Nat) (b17 : Nat) (b18 : Nat) (b19 : Nat) (b20 : Nat) (b21 : Nat) (b22 : Nat) (b23 : Nat) (b24 : Nat) (b25 : Nat) (b26 : Nat) (b27 : Nat) (b28 : Nat) (b29 : Nat) (b30 : Nat) (b31 : Nat) (b32 : Nat) (th : Int32) (n : Nat) (nm : Nat) (nk : Nat) (nd : Nat) (ng : Nat) (be : Int32) (bl : Int32) (pe : Int32) (nn : Nat) (tc : Nat) (ncc : Nat) (mk : Int64) (fd : Int32) (bs : Int32) (ps : Nat) (sn : Int32) (kt : Int32) (bh : Int32) (sz : Nat → Nat) (ro : Nat → Nat) (dr : Nat → Nat) (hd : nd ≤ 6) (hk : nk ≤ 8)  (hd2 : 2 ≤ nd) (hk2 : nk < 8) {p : Program} {e : Env} {s : State} {m : MethodId} {below : List Frame} {meth : Method} {c : Code} {A : Nat → Prop} {Q : State → Prop} (C : Cx D cI cJ cZ p s m ([.ref bx] : List Value).toArray meth c yX10_macro cX10_macro 2 (some .int)) (hQ : QOK Q below s ([.ref bx] : List Value).toArray D A (fun r W => r = some (.int (if 2 ≤ nd ∧ nk < 8 then nI nk else -1)) ∧ W = [(bx, .inr (11, [.int 0, .int (nI n), .ref b0, .ref b1, .ref b2, .int (nI nm), .ref b3, .ref b4, .ref b5, .ref b6, .ref b7, .ref b8, .ref b9, .ref b10, .ref b11, .ref b12, .int (nI (if 2 ≤ nd ∧ nk < 8 then nk + 1 else nk)), .ref b13, .ref b14, .ref b15, .int (nI (if 2 ≤ nd ∧ nk < 8 then 0 else nd)), .int (nI ng), .ref b16, .ref b17, .ref b18, .ref b19, .int be, .int bl, .ref b20, .int pe, .int (nI nn), .ref b21, .ref b22, .ref b23, .ref b24, .ref b25, .ref b26, .ref b27, .ref b28, .ref b29, .int (nI tc), .ref b30, .int (nI ncc), .long mk, .int fd, .int bs, .int (nI ps), .ref b31, .ref b32, .int sn, .int kt, .int bh])), (b13, .inl (cI, 8, .inl (nF (if 2 ≤ nd ∧ nk < 8 then updN sz nk nd else sz)))), (b14, .inl (cI, 48, .inl (nF (if 2 ≤ nd ∧ nk < 8 then cpyN dr ro (nk * 6) nd else ro)))), (b15, .inl (cI, 6, .inl (nF dr)))]) 0 0) (hA : ∀ q, s.heap.size ≤ q → A q) : ∀ (ku : Nat) (i : Nat) (g : Nat → Nat) (hi : i ≤ nd) (hg : g = cpyN dr ro (nk * 6) i), (nd - i) < ku → ∀ (H : Heap) (locs : List Loc) (ls : Array Slot), va_P D vwCl [(bx, .inr (11, [.int 0, .int (nI n), .ref b0, .ref b1, .ref b2, .int (nI nm), .ref b3, .ref b4, .ref b5, .ref b6, .ref b7, .ref b8, .ref b9, .ref b10, .ref b11, .ref b12, .int (nI nk), .ref b13, .ref b14, .ref b15, .int (nI nd), .int (nI ng), .ref b16, .ref b17, .ref b18, .ref b19, .int be, .int bl, .ref b20, .int pe, .int (nI nn), .ref b21, .ref b22, .ref b23, .ref b24, .ref b25, .ref b26, .ref b27, .ref b28, .ref b29, .int (nI tc), .ref b30, .int (nI ncc), .long mk, .int fd, .int bs, .int (nI ps), .ref b31, .ref b32, .int sn, .int kt, .int bh])), (b13, .inl (cI, 8, .inl (nF sz))), (b14, .inl (cI, 48, .inl (nF g))), (b15, .inl (cI, 6, .inl (nF dr)))] H → va_D A [(bx, .inr (11, [.int 0, .int (nI n), .ref b0, .ref b1, .ref b2, .int (nI nm), .ref b3, .ref b4, .ref b5, .ref b6, .ref b7, .ref b8, .ref b9, .ref b10, .ref b11, .ref b12, .int (nI nk), .ref b13, .ref b14, .ref b15, .int (nI nd), .int (nI ng), .ref b16, .ref b17, .ref b18, .ref b19, .int be, .int bl, .ref b20, .int pe, .int (nI nn), .ref b21, .ref b22, .ref b23, .ref b24, .ref b25, .ref b26, .ref b27, .ref b28, .ref b29, .int (nI tc), .ref b30, .int (nI ncc), .long mk, .int fd, .int bs, .int (nI ps), .ref b31, .ref b32, .int sn, .int kt, .int bh])), (b13, .inl (cI, 8, .inl (nF sz))), (b14, .inl (cI, 48, .inl (nF g))), (b15, .inl (cI, 6, .inl (nF dr)))] → va_S A s.heap H locs → lv_has ls 2 [(0, .ref bx), (1, .int (nI i))] → W p l e ({ frames := 0, cells := 0, slots := 0, locals := 0 } : Room) s m ([.ref bx] : List Value).toArray below meth c H locs 0 0 Q (F0 m 26 ls []) := by
  obtain ⟨hx, hb, hr, hml, hts, hown, hlk, hnm, hK, hN⟩ := id C
  intro ku
  induction ku with
  | zero =>
    intro i g hi hg hku
    exact absurd hku (Nat.not_lt_zero _)
  | succ ku ih =>
    intro i g hi hg hku H locs ls hP hD hS hl
    refine lv_iload_n hx hb dX10_macro_26 rfl (lv_at hl 1 rfl) ?_
    refine lv_aload_n hx hb dX10_macro_27 rfl (lv_at hl 0 rfl) ?_
    refine r_get (v := .int (nI nd)) C hP okX10 0 20 rfl (by decide) fl_X10_132 rfl rfl dX10_macro_28 ?_
    refine lv_icmp_ge (tgt := 60) hx hb dX10_macro_31 (by decide) (fun c_31 => ?_) (fun c_31 => ?_)
    · -- taken 31
      have c_31 : nd ≤ i := (nI_leI (a := nd) (b := i) (by omega) (by omega)).mp c_31
      refine lv_aload_n hx hb dX10_macro_60 rfl (lv_at hl 0 rfl) ?_
      refine r_get (v := .ref b13) C hP okX10 0 17 rfl (by decide) fl_X10_50 rfl rfl dX10_macro_61 ?_
      refine lv_aload_n hx hb dX10_macro_64 rfl (lv_at hl 0 rfl) ?_
      refine r_get (v := .int (nI nk)) C hP okX10 0 16 rfl (by decide) fl_X10_135 rfl rfl dX10_macro_65 ?_
      refine lv_aload_n hx hb dX10_macro_68 rfl (lv_at hl 0 rfl) ?_
      refine r_get (v := .int (nI nd)) C hP okX10 0 20 rfl (by decide) fl_X10_132 rfl rfl dX10_macro_69 ?_
      refine r_iast (j := nk) C hP hD hS 1 rfl (by omega) (by decide) dX10_macro_72 (fun H locs hP hD hS => ?_)
      rw [nF_upd] at hP hD
      have hP : va_P D vwCl [(bx, .inr (11, [.int 0, .int (nI n), .ref b0, .ref b1, .ref b2, .int (nI nm), .ref b3, .ref b4, .ref b5, .ref b6, .ref b7, .ref b8, .ref b9, .ref b10, .ref b11, .ref b12, .int (nI nk), .ref b13, .ref b14, .ref b15, .int (nI nd), .int (nI ng), .ref b16, .ref b17, .ref b18, .ref b19, .int be, .int bl, .ref b20, .int pe, .int (nI nn), .ref b21, .ref b22, .ref b23, .ref b24, .ref b25, .ref b26, .ref b27, .ref b28, .ref b29, .int (nI tc), .ref b30, .int (nI ncc), .long mk, .int fd, .int bs, .int (nI ps), .ref b31, .ref b32, .int sn, .int kt, .int bh])), (b13, .inl (cI, 8, .inl (nF (updN sz nk nd)))), (b14, .inl (cI, 48, .inl (nF g))), (b15, .inl (cI, 6, .inl (nF dr)))] H := hP
      have hD : va_D A [(bx, .inr (11, [.int 0, .int (nI n), .ref b0, .ref b1, .ref b2, .int (nI nm), .ref b3, .ref b4, .ref b5, .ref b6, .ref b7, .ref b8, .ref b9, .ref b10, .ref b11, .ref b12, .int (nI nk), .ref b13, .ref b14, .ref b15, .int (nI nd), .int (nI ng), .ref b16, .ref b17, .ref b18, .ref b19, .int be, .int bl, .ref b20, .int pe, .int (nI nn), .ref b21, .ref b22, .ref b23, .ref b24, .ref b25, .ref b26, .ref b27, .ref b28, .ref b29, .int (nI tc), .ref b30, .int (nI ncc), .long mk, .int fd, .int bs, .int (nI ps), .ref b31, .ref b32, .int sn, .int kt, .int bh])), (b13, .inl (cI, 8, .inl (nF (updN sz nk nd)))), (b14, .inl (cI, 48, .inl (nF g))), (b15, .inl (cI, 6, .inl (nF dr)))] := hD
      refine lv_aload_n hx hb dX10_macro_73 rfl (lv_at hl 0 rfl) ?_
      refine lv_iconst (v := 0) hx hb dX10_macro_74 (by decide) ?_
      refine r_put (v := .int 0) C hP hD hS okX10 0 20 rfl (by decide) fl_X10_132 rfl rfl rfl rfl (Nat.le_of_ble_eq_true rfl) dX10_macro_75 (fun H locs hP hD hS => ?_)
      have hP : va_P D vwCl [(bx, .inr (11, [.int 0, .int (nI n), .ref b0, .ref b1, .ref b2, .int (nI nm), .ref b3, .ref b4, .ref b5, .ref b6, .ref b7, .ref b8, .ref b9, .ref b10, .ref b11, .ref b12, .int (nI nk), .ref b13, .ref b14, .ref b15, .int 0, .int (nI ng), .ref b16, .ref b17, .ref b18, .ref b19, .int be, .int bl, .ref b20, .int pe, .int (nI nn), .ref b21, .ref b22, .ref b23, .ref b24, .ref b25, .ref b26, .ref b27, .ref b28, .ref b29, .int (nI tc), .ref b30, .int (nI ncc), .long mk, .int fd, .int bs, .int (nI ps), .ref b31, .ref b32, .int sn, .int kt, .int bh])), (b13, .inl (cI, 8, .inl (nF (updN sz nk nd)))), (b14, .inl (cI, 48, .inl (nF g))), (b15, .inl (cI, 6, .inl (nF dr)))] H := hP
      have hD : va_D A [(bx, .inr (11, [.int 0, .int (nI n), .ref b0, .ref b1, .ref b2, .int (nI nm), .ref b3, .ref b4, .ref b5, .ref b6, .ref b7, .ref b8, .ref b9, .ref b10, .ref b11, .ref b12, .int (nI nk), .ref b13, .ref b14, .ref b15, .int 0, .int (nI ng), .ref b16, .ref b17, .ref b18, .ref b19, .int be, .int bl, .ref b20, .int pe, .int (nI nn), .ref b21, .ref b22, .ref b23, .ref b24, .ref b25, .ref b26, .ref b27, .ref b28, .ref b29, .int (nI tc), .ref b30, .int (nI ncc), .long mk, .int fd, .int bs, .int (nI ps), .ref b31, .ref b32, .int sn, .int kt, .int bh])), (b13, .inl (cI, 8, .inl (nF (updN sz nk nd)))), (b14, .inl (cI, 48, .inl (nF g))), (b15, .inl (cI, 6, .inl (nF dr)))] := hD
      refine lv_aload_n hx hb dX10_macro_78 rfl (lv_at hl 0 rfl) ?_
      refine lv_dup hx hb dX10_macro_79 rfl ?_
      refine r_get (v := .int (nI nk)) C hP okX10 0 16 rfl (by decide) fl_X10_135 rfl rfl dX10_macro_80 ?_
      refine lv_iconst (v := 1) hx hb dX10_macro_83 (by decide) ?_
      refine lv_iadd hx hb dX10_macro_84 ?_
      refine r_top (x' := nI (nk + 1)) (nI_add nk 1) ?_
      refine r_put (v := .int (nI (nk + 1))) C hP hD hS okX10 0 16 rfl (by decide) fl_X10_135 rfl rfl rfl rfl (Nat.le_of_ble_eq_true rfl) dX10_macro_85 (fun H locs hP hD hS => ?_)
      have hP : va_P D vwCl [(bx, .inr (11, [.int 0, .int (nI n), .ref b0, .ref b1, .ref b2, .int (nI nm), .ref b3, .ref b4, .ref b5, .ref b6, .ref b7, .ref b8, .ref b9, .ref b10, .ref b11, .ref b12, .int (nI (nk + 1)), .ref b13, .ref b14, .ref b15, .int 0, .int (nI ng), .ref b16, .ref b17, .ref b18, .ref b19, .int be, .int bl, .ref b20, .int pe, .int (nI nn), .ref b21, .ref b22, .ref b23, .ref b24, .ref b25, .ref b26, .ref b27, .ref b28, .ref b29, .int (nI tc), .ref b30, .int (nI ncc), .long mk, .int fd, .int bs, .int (nI ps), .ref b31, .ref b32, .int sn, .int kt, .int bh])), (b13, .inl (cI, 8, .inl (nF (updN sz nk nd)))), (b14, .inl (cI, 48, .inl (nF g))), (b15, .inl (cI, 6, .inl (nF dr)))] H := hP
      have hD : va_D A [(bx, .inr (11, [.int 0, .int (nI n), .ref b0, .ref b1, .ref b2, .int (nI nm), .ref b3, .ref b4, .ref b5, .ref b6, .ref b7, .ref b8, .ref b9, .ref b10, .ref b11, .ref b12, .int (nI (nk + 1)), .ref b13, .ref b14, .ref b15, .int 0, .int (nI ng), .ref b16, .ref b17, .ref b18, .ref b19, .int be, .int bl, .ref b20, .int pe, .int (nI nn), .ref b21, .ref b22, .ref b23, .ref b24, .ref b25, .ref b26, .ref b27, .ref b28, .ref b29, .int (nI tc), .ref b30, .int (nI ncc), .long mk, .int fd, .int bs, .int (nI ps), .ref b31, .ref b32, .int sn, .int kt, .int bh])), (b13, .inl (cI, 8, .inl (nF (updN sz nk nd)))), (b14, .inl (cI, 48, .inl (nF g))), (b15, .inl (cI, 6, .inl (nF dr)))] := hD
      refine lv_aload_n hx hb dX10_macro_88 rfl (lv_at hl 0 rfl) ?_
      refine r_get (v := .int (nI (nk + 1))) C hP okX10 0 16 rfl (by decide) fl_X10_135 rfl rfl dX10_macro_89 ?_
      refine lv_iconst (v := 1) hx hb dX10_macro_92 (by decide) ?_
      refine lv_isub hx hb dX10_macro_93 ?_
      refine r_top (x' := nI nk) (nI_pred nk) ?_
      exact rt_i C hQ (hP.sub (ws' := [(bx, .inr (11, [.int 0, .int (nI n), .ref b0, .ref b1, .ref b2, .int (nI nm), .ref b3, .ref b4, .ref b5, .ref b6, .ref b7, .ref b8, .ref b9, .ref b10, .ref b11, .ref b12, .int (nI (nk + 1)), .ref b13, .ref b14, .ref b15, .int 0, .int (nI ng), .ref b16, .ref b17, .ref b18, .ref b19, .int be, .int bl, .ref b20, .int pe, .int (nI nn), .ref b21, .ref b22, .ref b23, .ref b24, .ref b25, .ref b26, .ref b27, .ref b28, .ref b29, .int (nI tc), .ref b30, .int (nI ncc), .long mk, .int fd, .int bs, .int (nI ps), .ref b31, .ref b32, .int sn, .int kt, .int bh])), (b13, .inl (cI, 8, .inl (nF (updN sz nk nd)))), (b14, .inl (cI, 48, .inl (nF g))), (b15, .inl (cI, 6, .inl (nF dr)))]) [0, 1, 2, 3] rfl) (hD.sub [0, 1, 2, 3] (by decide) rfl) hS (by have hP_ : 2 ≤ nd ∧ nk < 8 := ⟨hd2, hk2⟩; obtain rfl : i = nd := (by omega); exact ⟨by rw [if_pos hP_], by simp only [if_pos hP_]; rw [hg]; rfl⟩) (by decide) (by decide) dX10_macro_94
    · -- not taken 31
      have c_31 : ¬ (nd ≤ i) := fun z => c_31 ((nI_leI (a := nd) (b := i) (by omega) (by omega)).mpr z)
      refine lv_aload_n hx hb dX10_macro_34 rfl (lv_at hl 0 rfl) ?_
      refine r_get (v := .ref b14) C hP okX10 0 18 rfl (by decide) fl_X10_53 rfl rfl dX10_macro_35 ?_
      refine lv_bipush (v := 6) hx hb dX10_macro_38 (by decide) ?_
      refine lv_aload_n hx hb dX10_macro_40 rfl (lv_at hl 0 rfl) ?_
      refine r_get (v := .int (nI nk)) C hP okX10 0 16 rfl (by decide) fl_X10_135 rfl rfl dX10_macro_41 ?_
      refine lv_imul hx hb dX10_macro_44 ?_
      refine r_top (x' := nI (6 * nk)) (pk_mul 6 nk) ?_
      refine lv_iload_n hx hb dX10_macro_45 rfl (lv_at hl 1 rfl) ?_
      refine lv_iadd hx hb dX10_macro_46 ?_
      refine r_top (x' := nI ((6 * nk) + i)) (nI_add (6 * nk) i) ?_
      refine r_top (x' := nI (nk * 6 + i)) (by rw [Nat.mul_comm]) ?_
      refine lv_aload_n hx hb dX10_macro_47 rfl (lv_at hl 0 rfl) ?_
      refine r_get (v := .ref b15) C hP okX10 0 19 rfl (by decide) fl_X10_56 rfl rfl dX10_macro_48 ?_
      refine lv_iload_n hx hb dX10_macro_51 rfl (lv_at hl 1 rfl) ?_
      refine r_iald (j := i) C hP 3 rfl (by omega) (by decide) dX10_macro_52 ?_
      refine r_top (x' := nI (dr i)) rfl ?_
      refine r_iast (j := nk * 6 + i) C hP hD hS 2 rfl (by omega) (by decide) dX10_macro_53 (fun H locs hP hD hS => ?_)
      rw [nF_upd] at hP hD
      have hP : va_P D vwCl [(bx, .inr (11, [.int 0, .int (nI n), .ref b0, .ref b1, .ref b2, .int (nI nm), .ref b3, .ref b4, .ref b5, .ref b6, .ref b7, .ref b8, .ref b9, .ref b10, .ref b11, .ref b12, .int (nI nk), .ref b13, .ref b14, .ref b15, .int (nI nd), .int (nI ng), .ref b16, .ref b17, .ref b18, .ref b19, .int be, .int bl, .ref b20, .int pe, .int (nI nn), .ref b21, .ref b22, .ref b23, .ref b24, .ref b25, .ref b26, .ref b27, .ref b28, .ref b29, .int (nI tc), .ref b30, .int (nI ncc), .long mk, .int fd, .int bs, .int (nI ps), .ref b31, .ref b32, .int sn, .int kt, .int bh])), (b13, .inl (cI, 8, .inl (nF sz))), (b14, .inl (cI, 48, .inl (nF (updN g (nk * 6 + i) (dr i))))), (b15, .inl (cI, 6, .inl (nF dr)))] H := hP
      have hD : va_D A [(bx, .inr (11, [.int 0, .int (nI n), .ref b0, .ref b1, .ref b2, .int (nI nm), .ref b3, .ref b4, .ref b5, .ref b6, .ref b7, .ref b8, .ref b9, .ref b10, .ref b11, .ref b12, .int (nI nk), .ref b13, .ref b14, .ref b15, .int (nI nd), .int (nI ng), .ref b16, .ref b17, .ref b18, .ref b19, .int be, .int bl, .ref b20, .int pe, .int (nI nn), .ref b21, .ref b22, .ref b23, .ref b24, .ref b25, .ref b26, .ref b27, .ref b28, .ref b29, .int (nI tc), .ref b30, .int (nI ncc), .long mk, .int fd, .int bs, .int (nI ps), .ref b31, .ref b32, .int sn, .int kt, .int bh])), (b13, .inl (cI, 8, .inl (nF sz))), (b14, .inl (cI, 48, .inl (nF (updN g (nk * 6 + i) (dr i))))), (b15, .inl (cI, 6, .inl (nF dr)))] := hD
      refine lv_iinc (v := nI (i + 1)) (lv' := [(1, .int (nI (i + 1))), (0, .ref bx)]) hx hb dX10_macro_54 hl (k := 1) rfl (nI_1 _) (by decide) rfl (fun ls hl => ?_)
      refine lv_goto (tgt := 26) hx hb dX10_macro_57 (by decide) ?_
      exact ih (i + 1) (updN g (nk * 6 + i) (dr i)) (by omega) (by rw [hg, cpyN_s]) (by omega) _ _ _ (hP.sub [0, 1, 2, 3] rfl) (hD.sub [0, 1, 2, 3] (by decide) rfl) hS (lv_sub hl [1, 0] rfl)
set_option maxHeartbeats 4000000 in
set_option maxRecDepth 100000 in
theorem c_X10_macro (l : Launch) (D : va_G) (cI cJ cZ : ClassId) (bx : Nat) (b0 : Nat) (b1 : Nat) (b2 : Nat) (b3 : Nat) (b4 : Nat) (b5 : Nat) (b6 : Nat) (b7 : Nat) (b8 : Nat) (b9 : Nat) (b10 : Nat) (b11 : Nat) (b12 : Nat) (b13 : Nat) (b14 : Nat) (b15 : Nat) (b16 : Nat) (b17 : Nat) (b18 : Nat) (b19 : Nat) (b20 : Nat) (b21 : Nat) (b22 : Nat) (b23 : Nat) (b24 : Nat) (b25 : Nat) (b26 : Nat) (b27 : Nat) (b28 : Nat) (b29 : Nat) (b30 : Nat) (b31 : Nat) (b32 : Nat) (th : Int32) (n : Nat) (nm : Nat) (nk : Nat) (nd : Nat) (ng : Nat) (be : Int32) (bl : Int32) (pe : Int32) (nn : Nat) (tc : Nat) (ncc : Nat) (mk : Int64) (fd : Int32) (bs : Int32) (ps : Nat) (sn : Int32) (kt : Int32) (bh : Int32) (sz : Nat → Nat) (ro : Nat → Nat) (dr : Nat → Nat) (hd : nd ≤ 6) (hk : nk ≤ 8) : Ctr l D cI cJ cZ yX10_macro cX10_macro 2 (some .int) ({ frames := 0, cells := 0, slots := 0, locals := 0 } : Room) [.ref bx] [(bx, .inr (11, [.int th, .int (nI n), .ref b0, .ref b1, .ref b2, .int (nI nm), .ref b3, .ref b4, .ref b5, .ref b6, .ref b7, .ref b8, .ref b9, .ref b10, .ref b11, .ref b12, .int (nI nk), .ref b13, .ref b14, .ref b15, .int (nI nd), .int (nI ng), .ref b16, .ref b17, .ref b18, .ref b19, .int be, .int bl, .ref b20, .int pe, .int (nI nn), .ref b21, .ref b22, .ref b23, .ref b24, .ref b25, .ref b26, .ref b27, .ref b28, .ref b29, .int (nI tc), .ref b30, .int (nI ncc), .long mk, .int fd, .int bs, .int (nI ps), .ref b31, .ref b32, .int sn, .int kt, .int bh])), (b13, .inl (cI, 8, .inl (nF sz))), (b14, .inl (cI, 48, .inl (nF ro))), (b15, .inl (cI, 6, .inl (nF dr)))] (fun r W => r = some (.int (if 2 ≤ nd ∧ nk < 8 then nI nk else -1)) ∧ W = [(bx, .inr (11, [.int 0, .int (nI n), .ref b0, .ref b1, .ref b2, .int (nI nm), .ref b3, .ref b4, .ref b5, .ref b6, .ref b7, .ref b8, .ref b9, .ref b10, .ref b11, .ref b12, .int (nI (if 2 ≤ nd ∧ nk < 8 then nk + 1 else nk)), .ref b13, .ref b14, .ref b15, .int (nI (if 2 ≤ nd ∧ nk < 8 then 0 else nd)), .int (nI ng), .ref b16, .ref b17, .ref b18, .ref b19, .int be, .int bl, .ref b20, .int pe, .int (nI nn), .ref b21, .ref b22, .ref b23, .ref b24, .ref b25, .ref b26, .ref b27, .ref b28, .ref b29, .int (nI tc), .ref b30, .int (nI ncc), .long mk, .int fd, .int bs, .int (nI ps), .ref b31, .ref b32, .int sn, .int kt, .int bh])), (b13, .inl (cI, 8, .inl (nF (if 2 ≤ nd ∧ nk < 8 then updN sz nk nd else sz)))), (b14, .inl (cI, 48, .inl (nF (if 2 ≤ nd ∧ nk < 8 then cpyN dr ro (nk * 6) nd else ro)))), (b15, .inl (cI, 6, .inl (nF dr)))]) := by
  refine Ctr.start (by decide +kernel) (Nat.le_of_ble_eq_true rfl) ?_
  intro p e s m below meth c A Q ls H C hQ hA hP hD hS hl
  obtain ⟨hx, hb, hr, hml, hts, hown, hlk, hnm, hK, hN⟩ := id C
  have hl : lv_has ls 2 [(0, .ref bx)] := hl
  refine lv_aload_n hx hb dX10_macro_0 rfl (lv_at hl 0 rfl) ?_
  refine lv_iconst (v := 0) hx hb dX10_macro_1 (by decide) ?_
  refine r_put (v := .int 0) C hP hD hS okX10 0 0 rfl (by decide) fl_X10_111 rfl rfl rfl rfl (Nat.le_of_ble_eq_true rfl) dX10_macro_2 (fun H locs hP hD hS => ?_)
  have hP : va_P D vwCl [(bx, .inr (11, [.int 0, .int (nI n), .ref b0, .ref b1, .ref b2, .int (nI nm), .ref b3, .ref b4, .ref b5, .ref b6, .ref b7, .ref b8, .ref b9, .ref b10, .ref b11, .ref b12, .int (nI nk), .ref b13, .ref b14, .ref b15, .int (nI nd), .int (nI ng), .ref b16, .ref b17, .ref b18, .ref b19, .int be, .int bl, .ref b20, .int pe, .int (nI nn), .ref b21, .ref b22, .ref b23, .ref b24, .ref b25, .ref b26, .ref b27, .ref b28, .ref b29, .int (nI tc), .ref b30, .int (nI ncc), .long mk, .int fd, .int bs, .int (nI ps), .ref b31, .ref b32, .int sn, .int kt, .int bh])), (b13, .inl (cI, 8, .inl (nF sz))), (b14, .inl (cI, 48, .inl (nF ro))), (b15, .inl (cI, 6, .inl (nF dr)))] H := hP
  have hD : va_D A [(bx, .inr (11, [.int 0, .int (nI n), .ref b0, .ref b1, .ref b2, .int (nI nm), .ref b3, .ref b4, .ref b5, .ref b6, .ref b7, .ref b8, .ref b9, .ref b10, .ref b11, .ref b12, .int (nI nk), .ref b13, .ref b14, .ref b15, .int (nI nd), .int (nI ng), .ref b16, .ref b17, .ref b18, .ref b19, .int be, .int bl, .ref b20, .int pe, .int (nI nn), .ref b21, .ref b22, .ref b23, .ref b24, .ref b25, .ref b26, .ref b27, .ref b28, .ref b29, .int (nI tc), .ref b30, .int (nI ncc), .long mk, .int fd, .int bs, .int (nI ps), .ref b31, .ref b32, .int sn, .int kt, .int bh])), (b13, .inl (cI, 8, .inl (nF sz))), (b14, .inl (cI, 48, .inl (nF ro))), (b15, .inl (cI, 6, .inl (nF dr)))] := hD
  refine lv_aload_n hx hb dX10_macro_5 rfl (lv_at hl 0 rfl) ?_
  refine r_get (v := .int (nI nd)) C hP okX10 0 20 rfl (by decide) fl_X10_132 rfl rfl dX10_macro_6 ?_
  refine lv_iconst (v := 2) hx hb dX10_macro_9 (by decide) ?_
  refine lv_icmp_lt (tgt := 22) hx hb dX10_macro_10 (by decide) (fun c_10 => ?_) (fun c_10 => ?_)
  · -- taken 10
    have c_10 : nd < 2 := (nI_ltI (a := nd) (b := 2) (by omega) (by omega)).mp c_10
    refine lv_iconst (v := (-1)) hx hb dX10_macro_22 (by decide) ?_
    exact rt_i C hQ (hP.sub (ws' := [(bx, .inr (11, [.int 0, .int (nI n), .ref b0, .ref b1, .ref b2, .int (nI nm), .ref b3, .ref b4, .ref b5, .ref b6, .ref b7, .ref b8, .ref b9, .ref b10, .ref b11, .ref b12, .int (nI nk), .ref b13, .ref b14, .ref b15, .int (nI nd), .int (nI ng), .ref b16, .ref b17, .ref b18, .ref b19, .int be, .int bl, .ref b20, .int pe, .int (nI nn), .ref b21, .ref b22, .ref b23, .ref b24, .ref b25, .ref b26, .ref b27, .ref b28, .ref b29, .int (nI tc), .ref b30, .int (nI ncc), .long mk, .int fd, .int bs, .int (nI ps), .ref b31, .ref b32, .int sn, .int kt, .int bh])), (b13, .inl (cI, 8, .inl (nF sz))), (b14, .inl (cI, 48, .inl (nF ro))), (b15, .inl (cI, 6, .inl (nF dr)))]) [0, 1, 2, 3] rfl) (hD.sub [0, 1, 2, 3] (by decide) rfl) hS (by have hP_ : ¬ (2 ≤ nd ∧ nk < 8) := (by omega); exact ⟨by rw [if_neg hP_], by simp only [if_neg hP_]⟩) (by decide) (by decide) dX10_macro_23
  · -- not taken 10
    have c_10 : ¬ (nd < 2) := fun z => c_10 ((nI_ltI (a := nd) (b := 2) (by omega) (by omega)).mpr z)
    refine lv_aload_n hx hb dX10_macro_13 rfl (lv_at hl 0 rfl) ?_
    refine r_get (v := .int (nI nk)) C hP okX10 0 16 rfl (by decide) fl_X10_135 rfl rfl dX10_macro_14 ?_
    refine lv_bipush (v := 8) hx hb dX10_macro_17 (by decide) ?_
    refine lv_icmp_ne (tgt := 24) hx hb dX10_macro_19 (by decide) (fun c_19 => ?_) (fun c_19 => ?_)
    · -- taken 19
      have c_19 : ¬ (nk = 8) := fun z => c_19 ((nI_eq (a := nk) (b := 8) (by omega) (by omega)).mpr z)
      refine lv_iconst (v := 0) hx hb dX10_macro_24 (by decide) ?_
      refine lv_istore_n (lv' := [(1, .int 0), (0, .ref bx)]) hx hb dX10_macro_25 rfl hl (by decide) rfl (fun ls hl => ?_)
      exact lp_X10_macro_26 l D cI cJ cZ bx b0 b1 b2 b3 b4 b5 b6 b7 b8 b9 b10 b11 b12 b13 b14 b15 b16 b17 b18 b19 b20 b21 b22 b23 b24 b25 b26 b27 b28 b29 b30 b31 b32 th n nm nk nd ng be bl pe nn tc ncc mk fd bs ps sn kt bh sz ro dr hd hk  (by omega) (by omega) C hQ hA _ 0 ro (by omega) (cpyN_0 _ _ _).symm (Nat.lt_succ_self _) _ _ _ (hP.sub [0, 1, 2, 3] rfl) (hD.sub [0, 1, 2, 3] (by decide) rfl) hS (lv_sub hl [1, 0] rfl)
    · -- not taken 19
      have c_19 : nk = 8 := (nI_eq (a := nk) (b := 8) (by omega) (by omega)).mp c_19
      refine lv_iconst (v := (-1)) hx hb dX10_macro_22 (by decide) ?_
      exact rt_i C hQ (hP.sub (ws' := [(bx, .inr (11, [.int 0, .int (nI n), .ref b0, .ref b1, .ref b2, .int (nI nm), .ref b3, .ref b4, .ref b5, .ref b6, .ref b7, .ref b8, .ref b9, .ref b10, .ref b11, .ref b12, .int (nI nk), .ref b13, .ref b14, .ref b15, .int (nI nd), .int (nI ng), .ref b16, .ref b17, .ref b18, .ref b19, .int be, .int bl, .ref b20, .int pe, .int (nI nn), .ref b21, .ref b22, .ref b23, .ref b24, .ref b25, .ref b26, .ref b27, .ref b28, .ref b29, .int (nI tc), .ref b30, .int (nI ncc), .long mk, .int fd, .int bs, .int (nI ps), .ref b31, .ref b32, .int sn, .int kt, .int bh])), (b13, .inl (cI, 8, .inl (nF sz))), (b14, .inl (cI, 48, .inl (nF ro))), (b15, .inl (cI, 6, .inl (nF dr)))]) [0, 1, 2, 3] rfl) (hD.sub [0, 1, 2, 3] (by decide) rfl) hS (by have hP_ : ¬ (2 ≤ nd ∧ nk < 8) := (by omega); exact ⟨by rw [if_neg hP_], by simp only [if_neg hP_]⟩) (by decide) (by decide) dX10_macro_23
set_option maxHeartbeats 4000000 in
set_option maxRecDepth 100000 in
theorem c_X10_goal (l : Launch) (D : va_G) (cI cJ cZ : ClassId) (bx : Nat) (b0 : Nat) (b1 : Nat) (b2 : Nat) (b3 : Nat) (b4 : Nat) (b5 : Nat) (b6 : Nat) (b7 : Nat) (b8 : Nat) (b9 : Nat) (b10 : Nat) (b11 : Nat) (b12 : Nat) (b13 : Nat) (b14 : Nat) (b15 : Nat) (b16 : Nat) (b17 : Nat) (b18 : Nat) (b19 : Nat) (b20 : Nat) (b21 : Nat) (b22 : Nat) (b23 : Nat) (b24 : Nat) (b25 : Nat) (b26 : Nat) (b27 : Nat) (b28 : Nat) (b29 : Nat) (b30 : Nat) (b31 : Nat) (b32 : Nat) (th : Int32) (n : Nat) (nm : Nat) (nk : Nat) (nd : Nat) (ng : Nat) (be : Int32) (bl : Int32) (pe : Int32) (nn : Nat) (tc : Nat) (ncc : Nat) (mk : Int64) (fd : Int32) (bs : Int32) (ps : Nat) (sn : Int32) (kt : Int32) (bh : Int32) (gk : Nat → Int32) (ga : Nat → Int32) (gb : Nat → Int32) (k0 : Int32) (a0_ : Int32) (b0_ : Int32) (hn : n ≤ 10) (hg : ng ≤ 4) : Ctr l D cI cJ cZ yX10_goal cX10_goal 5 (some .int) ({ frames := 1, cells := 0, slots := 0, locals := 21 } : Room) [.ref bx, .int k0, .int a0_, .int b0_] [(bx, .inr (11, [.int th, .int (nI n), .ref b0, .ref b1, .ref b2, .int (nI nm), .ref b3, .ref b4, .ref b5, .ref b6, .ref b7, .ref b8, .ref b9, .ref b10, .ref b11, .ref b12, .int (nI nk), .ref b13, .ref b14, .ref b15, .int (nI nd), .int (nI ng), .ref b16, .ref b17, .ref b18, .ref b19, .int be, .int bl, .ref b20, .int pe, .int (nI nn), .ref b21, .ref b22, .ref b23, .ref b24, .ref b25, .ref b26, .ref b27, .ref b28, .ref b29, .int (nI tc), .ref b30, .int (nI ncc), .long mk, .int fd, .int bs, .int (nI ps), .ref b31, .ref b32, .int sn, .int kt, .int bh])), (b16, .inl (cI, 4, .inl gk)), (b17, .inl (cI, 4, .inl ga)), (b18, .inl (cI, 4, .inl gb))] (fun r W => r = some (.int (if f_isPart n k0 a0_ b0_ = true ∧ ng < 4 then nI (ng + 1) else -1)) ∧ W = [(bx, .inr (11, [.int 0, .int (nI n), .ref b0, .ref b1, .ref b2, .int (nI nm), .ref b3, .ref b4, .ref b5, .ref b6, .ref b7, .ref b8, .ref b9, .ref b10, .ref b11, .ref b12, .int (nI nk), .ref b13, .ref b14, .ref b15, .int (nI nd), .int (nI (if f_isPart n k0 a0_ b0_ = true ∧ ng < 4 then ng + 1 else ng)), .ref b16, .ref b17, .ref b18, .ref b19, .int be, .int bl, .ref b20, .int pe, .int (nI nn), .ref b21, .ref b22, .ref b23, .ref b24, .ref b25, .ref b26, .ref b27, .ref b28, .ref b29, .int (nI tc), .ref b30, .int (nI ncc), .long mk, .int fd, .int bs, .int (nI ps), .ref b31, .ref b32, .int sn, .int kt, .int bh])), (b16, .inl (cI, 4, .inl (if f_isPart n k0 a0_ b0_ = true ∧ ng < 4 then upd gk ng k0 else gk))), (b17, .inl (cI, 4, .inl (if f_isPart n k0 a0_ b0_ = true ∧ ng < 4 then upd ga ng a0_ else ga))), (b18, .inl (cI, 4, .inl (if f_isPart n k0 a0_ b0_ = true ∧ ng < 4 then upd gb ng b0_ else gb)))]) := by
  refine Ctr.start (by decide +kernel) (Nat.le_of_ble_eq_true rfl) ?_
  intro p e s m below meth c A Q ls H C hQ hA hP hD hS hl
  obtain ⟨hx, hb, hr, hml, hts, hown, hlk, hnm, hK, hN⟩ := id C
  have hl : lv_has ls 5 [(0, .ref bx), (1, .int k0), (2, .int a0_), (3, .int b0_)] := hl
  refine lv_aload_n hx hb dX10_goal_0 rfl (lv_at hl 0 rfl) ?_
  refine lv_iconst (v := 0) hx hb dX10_goal_1 (by decide) ?_
  refine r_put (v := .int 0) C hP hD hS okX10 0 0 rfl (by decide) fl_X10_111 rfl rfl rfl rfl (Nat.le_of_ble_eq_true rfl) dX10_goal_2 (fun H locs hP hD hS => ?_)
  have hP : va_P D vwCl [(bx, .inr (11, [.int 0, .int (nI n), .ref b0, .ref b1, .ref b2, .int (nI nm), .ref b3, .ref b4, .ref b5, .ref b6, .ref b7, .ref b8, .ref b9, .ref b10, .ref b11, .ref b12, .int (nI nk), .ref b13, .ref b14, .ref b15, .int (nI nd), .int (nI ng), .ref b16, .ref b17, .ref b18, .ref b19, .int be, .int bl, .ref b20, .int pe, .int (nI nn), .ref b21, .ref b22, .ref b23, .ref b24, .ref b25, .ref b26, .ref b27, .ref b28, .ref b29, .int (nI tc), .ref b30, .int (nI ncc), .long mk, .int fd, .int bs, .int (nI ps), .ref b31, .ref b32, .int sn, .int kt, .int bh])), (b16, .inl (cI, 4, .inl gk)), (b17, .inl (cI, 4, .inl ga)), (b18, .inl (cI, 4, .inl gb))] H := hP
  have hD : va_D A [(bx, .inr (11, [.int 0, .int (nI n), .ref b0, .ref b1, .ref b2, .int (nI nm), .ref b3, .ref b4, .ref b5, .ref b6, .ref b7, .ref b8, .ref b9, .ref b10, .ref b11, .ref b12, .int (nI nk), .ref b13, .ref b14, .ref b15, .int (nI nd), .int (nI ng), .ref b16, .ref b17, .ref b18, .ref b19, .int be, .int bl, .ref b20, .int pe, .int (nI nn), .ref b21, .ref b22, .ref b23, .ref b24, .ref b25, .ref b26, .ref b27, .ref b28, .ref b29, .int (nI tc), .ref b30, .int (nI ncc), .long mk, .int fd, .int bs, .int (nI ps), .ref b31, .ref b32, .int sn, .int kt, .int bh])), (b16, .inl (cI, 4, .inl gk)), (b17, .inl (cI, 4, .inl ga)), (b18, .inl (cI, 4, .inl gb))] := hD
  refine lv_iload_n hx hb dX10_goal_5 rfl (lv_at hl 1 rfl) ?_
  refine lv_if_ne (tgt := 35) hx hb dX10_goal_6 (by decide) (fun c_6 => ?_) (fun c_6 => ?_)
  · -- taken 6
    refine lv_iload_n hx hb dX10_goal_35 rfl (lv_at hl 1 rfl) ?_
    refine lv_iconst (v := 1) hx hb dX10_goal_36 (by decide) ?_
    refine lv_icmp_eq (tgt := 71) hx hb dX10_goal_37 (by decide) (fun c_37 => ?_) (fun c_37 => ?_)
    · -- taken 37
      refine lv_iconst (v := 1) hx hb dX10_goal_71 (by decide) ?_
      refine lv_goto (tgt := 76) hx hb dX10_goal_72 (by decide) ?_
      have hgood : f_isPart n k0 a0_ b0_ = true := (by simp only [f_isPart]; rw [if_neg c_6, if_pos c_37])
      refine lv_istore (lv' := [(4, .int 1), (0, .ref bx), (1, .int k0), (2, .int a0_), (3, .int b0_)]) hx hb dX10_goal_76 hl (by decide) rfl (fun ls hl => ?_)
      refine lv_aload_n hx hb dX10_goal_78 rfl (lv_at hl 1 rfl) ?_
      refine r_get (v := .int (nI ng)) C hP okX10 0 21 rfl (by decide) fl_X10_138 rfl rfl dX10_goal_79 ?_
      refine lv_iconst (v := 4) hx hb dX10_goal_82 (by decide) ?_
      refine lv_icmp_eq (tgt := 91) hx hb dX10_goal_83 (by decide) (fun c_83 => ?_) (fun c_83 => ?_)
      · -- taken 83
        have c_83 : ng = 4 := (nI_eq (a := ng) (b := 4) (by omega) (by omega)).mp c_83
        refine lv_iconst (v := (-1)) hx hb dX10_goal_91 (by decide) ?_
        exact rt_i C hQ (hP.sub (ws' := [(bx, .inr (11, [.int 0, .int (nI n), .ref b0, .ref b1, .ref b2, .int (nI nm), .ref b3, .ref b4, .ref b5, .ref b6, .ref b7, .ref b8, .ref b9, .ref b10, .ref b11, .ref b12, .int (nI nk), .ref b13, .ref b14, .ref b15, .int (nI nd), .int (nI ng), .ref b16, .ref b17, .ref b18, .ref b19, .int be, .int bl, .ref b20, .int pe, .int (nI nn), .ref b21, .ref b22, .ref b23, .ref b24, .ref b25, .ref b26, .ref b27, .ref b28, .ref b29, .int (nI tc), .ref b30, .int (nI ncc), .long mk, .int fd, .int bs, .int (nI ps), .ref b31, .ref b32, .int sn, .int kt, .int bh])), (b16, .inl (cI, 4, .inl gk)), (b17, .inl (cI, 4, .inl ga)), (b18, .inl (cI, 4, .inl gb))]) [0, 1, 2, 3] rfl) (hD.sub [0, 1, 2, 3] (by decide) rfl) hS (by have hP_ : ¬ (f_isPart n k0 a0_ b0_ = true ∧ ng < 4) := (fun z => by first | exact hgood z.1 | omega); exact ⟨by rw [if_neg hP_], by simp only [if_neg hP_]⟩) (by decide) (by decide) dX10_goal_92
      · -- not taken 83
        have c_83 : ¬ (ng = 4) := fun z => c_83 ((nI_eq (a := ng) (b := 4) (by omega) (by omega)).mpr z)
        refine lv_iload hx hb dX10_goal_86 (lv_at hl 0 rfl) ?_
        refine lv_if_ne (tgt := 93) hx hb dX10_goal_88 (by decide) (fun c_88 => ?_) (fun c_88 => ?_)
        rotate_left
        · exact absurd c_88 (by decide)
        refine lv_aload_n hx hb dX10_goal_93 rfl (lv_at hl 1 rfl) ?_
        refine r_get (v := .ref b16) C hP okX10 0 22 rfl (by decide) fl_X10_59 rfl rfl dX10_goal_94 ?_
        refine lv_aload_n hx hb dX10_goal_97 rfl (lv_at hl 1 rfl) ?_
        refine r_get (v := .int (nI ng)) C hP okX10 0 21 rfl (by decide) fl_X10_138 rfl rfl dX10_goal_98 ?_
        refine lv_iload_n hx hb dX10_goal_101 rfl (lv_at hl 2 rfl) ?_
        refine r_iast (j := ng) C hP hD hS 1 rfl (by omega) (by decide) dX10_goal_102 (fun H locs hP hD hS => ?_)
        have hP : va_P D vwCl [(bx, .inr (11, [.int 0, .int (nI n), .ref b0, .ref b1, .ref b2, .int (nI nm), .ref b3, .ref b4, .ref b5, .ref b6, .ref b7, .ref b8, .ref b9, .ref b10, .ref b11, .ref b12, .int (nI nk), .ref b13, .ref b14, .ref b15, .int (nI nd), .int (nI ng), .ref b16, .ref b17, .ref b18, .ref b19, .int be, .int bl, .ref b20, .int pe, .int (nI nn), .ref b21, .ref b22, .ref b23, .ref b24, .ref b25, .ref b26, .ref b27, .ref b28, .ref b29, .int (nI tc), .ref b30, .int (nI ncc), .long mk, .int fd, .int bs, .int (nI ps), .ref b31, .ref b32, .int sn, .int kt, .int bh])), (b16, .inl (cI, 4, .inl (upd gk ng k0))), (b17, .inl (cI, 4, .inl ga)), (b18, .inl (cI, 4, .inl gb))] H := hP
        have hD : va_D A [(bx, .inr (11, [.int 0, .int (nI n), .ref b0, .ref b1, .ref b2, .int (nI nm), .ref b3, .ref b4, .ref b5, .ref b6, .ref b7, .ref b8, .ref b9, .ref b10, .ref b11, .ref b12, .int (nI nk), .ref b13, .ref b14, .ref b15, .int (nI nd), .int (nI ng), .ref b16, .ref b17, .ref b18, .ref b19, .int be, .int bl, .ref b20, .int pe, .int (nI nn), .ref b21, .ref b22, .ref b23, .ref b24, .ref b25, .ref b26, .ref b27, .ref b28, .ref b29, .int (nI tc), .ref b30, .int (nI ncc), .long mk, .int fd, .int bs, .int (nI ps), .ref b31, .ref b32, .int sn, .int kt, .int bh])), (b16, .inl (cI, 4, .inl (upd gk ng k0))), (b17, .inl (cI, 4, .inl ga)), (b18, .inl (cI, 4, .inl gb))] := hD
        refine lv_aload_n hx hb dX10_goal_103 rfl (lv_at hl 1 rfl) ?_
        refine r_get (v := .ref b17) C hP okX10 0 23 rfl (by decide) fl_X10_62 rfl rfl dX10_goal_104 ?_
        refine lv_aload_n hx hb dX10_goal_107 rfl (lv_at hl 1 rfl) ?_
        refine r_get (v := .int (nI ng)) C hP okX10 0 21 rfl (by decide) fl_X10_138 rfl rfl dX10_goal_108 ?_
        refine lv_iload_n hx hb dX10_goal_111 rfl (lv_at hl 3 rfl) ?_
        refine r_iast (j := ng) C hP hD hS 2 rfl (by omega) (by decide) dX10_goal_112 (fun H locs hP hD hS => ?_)
        have hP : va_P D vwCl [(bx, .inr (11, [.int 0, .int (nI n), .ref b0, .ref b1, .ref b2, .int (nI nm), .ref b3, .ref b4, .ref b5, .ref b6, .ref b7, .ref b8, .ref b9, .ref b10, .ref b11, .ref b12, .int (nI nk), .ref b13, .ref b14, .ref b15, .int (nI nd), .int (nI ng), .ref b16, .ref b17, .ref b18, .ref b19, .int be, .int bl, .ref b20, .int pe, .int (nI nn), .ref b21, .ref b22, .ref b23, .ref b24, .ref b25, .ref b26, .ref b27, .ref b28, .ref b29, .int (nI tc), .ref b30, .int (nI ncc), .long mk, .int fd, .int bs, .int (nI ps), .ref b31, .ref b32, .int sn, .int kt, .int bh])), (b16, .inl (cI, 4, .inl (upd gk ng k0))), (b17, .inl (cI, 4, .inl (upd ga ng a0_))), (b18, .inl (cI, 4, .inl gb))] H := hP
        have hD : va_D A [(bx, .inr (11, [.int 0, .int (nI n), .ref b0, .ref b1, .ref b2, .int (nI nm), .ref b3, .ref b4, .ref b5, .ref b6, .ref b7, .ref b8, .ref b9, .ref b10, .ref b11, .ref b12, .int (nI nk), .ref b13, .ref b14, .ref b15, .int (nI nd), .int (nI ng), .ref b16, .ref b17, .ref b18, .ref b19, .int be, .int bl, .ref b20, .int pe, .int (nI nn), .ref b21, .ref b22, .ref b23, .ref b24, .ref b25, .ref b26, .ref b27, .ref b28, .ref b29, .int (nI tc), .ref b30, .int (nI ncc), .long mk, .int fd, .int bs, .int (nI ps), .ref b31, .ref b32, .int sn, .int kt, .int bh])), (b16, .inl (cI, 4, .inl (upd gk ng k0))), (b17, .inl (cI, 4, .inl (upd ga ng a0_))), (b18, .inl (cI, 4, .inl gb))] := hD
        refine lv_aload_n hx hb dX10_goal_113 rfl (lv_at hl 1 rfl) ?_
        refine r_get (v := .ref b18) C hP okX10 0 24 rfl (by decide) fl_X10_65 rfl rfl dX10_goal_114 ?_
        refine lv_aload_n hx hb dX10_goal_117 rfl (lv_at hl 1 rfl) ?_
        refine r_get (v := .int (nI ng)) C hP okX10 0 21 rfl (by decide) fl_X10_138 rfl rfl dX10_goal_118 ?_
        refine lv_iload_n hx hb dX10_goal_121 rfl (lv_at hl 4 rfl) ?_
        refine r_iast (j := ng) C hP hD hS 3 rfl (by omega) (by decide) dX10_goal_122 (fun H locs hP hD hS => ?_)
        have hP : va_P D vwCl [(bx, .inr (11, [.int 0, .int (nI n), .ref b0, .ref b1, .ref b2, .int (nI nm), .ref b3, .ref b4, .ref b5, .ref b6, .ref b7, .ref b8, .ref b9, .ref b10, .ref b11, .ref b12, .int (nI nk), .ref b13, .ref b14, .ref b15, .int (nI nd), .int (nI ng), .ref b16, .ref b17, .ref b18, .ref b19, .int be, .int bl, .ref b20, .int pe, .int (nI nn), .ref b21, .ref b22, .ref b23, .ref b24, .ref b25, .ref b26, .ref b27, .ref b28, .ref b29, .int (nI tc), .ref b30, .int (nI ncc), .long mk, .int fd, .int bs, .int (nI ps), .ref b31, .ref b32, .int sn, .int kt, .int bh])), (b16, .inl (cI, 4, .inl (upd gk ng k0))), (b17, .inl (cI, 4, .inl (upd ga ng a0_))), (b18, .inl (cI, 4, .inl (upd gb ng b0_)))] H := hP
        have hD : va_D A [(bx, .inr (11, [.int 0, .int (nI n), .ref b0, .ref b1, .ref b2, .int (nI nm), .ref b3, .ref b4, .ref b5, .ref b6, .ref b7, .ref b8, .ref b9, .ref b10, .ref b11, .ref b12, .int (nI nk), .ref b13, .ref b14, .ref b15, .int (nI nd), .int (nI ng), .ref b16, .ref b17, .ref b18, .ref b19, .int be, .int bl, .ref b20, .int pe, .int (nI nn), .ref b21, .ref b22, .ref b23, .ref b24, .ref b25, .ref b26, .ref b27, .ref b28, .ref b29, .int (nI tc), .ref b30, .int (nI ncc), .long mk, .int fd, .int bs, .int (nI ps), .ref b31, .ref b32, .int sn, .int kt, .int bh])), (b16, .inl (cI, 4, .inl (upd gk ng k0))), (b17, .inl (cI, 4, .inl (upd ga ng a0_))), (b18, .inl (cI, 4, .inl (upd gb ng b0_)))] := hD
        refine lv_aload_n hx hb dX10_goal_123 rfl (lv_at hl 1 rfl) ?_
        refine lv_dup hx hb dX10_goal_124 rfl ?_
        refine r_get (v := .int (nI ng)) C hP okX10 0 21 rfl (by decide) fl_X10_138 rfl rfl dX10_goal_125 ?_
        refine lv_iconst (v := 1) hx hb dX10_goal_128 (by decide) ?_
        refine lv_iadd hx hb dX10_goal_129 ?_
        refine r_top (x' := nI (ng + 1)) (nI_add ng 1) ?_
        refine r_put (v := .int (nI (ng + 1))) C hP hD hS okX10 0 21 rfl (by decide) fl_X10_138 rfl rfl rfl rfl (Nat.le_of_ble_eq_true rfl) dX10_goal_130 (fun H locs hP hD hS => ?_)
        have hP : va_P D vwCl [(bx, .inr (11, [.int 0, .int (nI n), .ref b0, .ref b1, .ref b2, .int (nI nm), .ref b3, .ref b4, .ref b5, .ref b6, .ref b7, .ref b8, .ref b9, .ref b10, .ref b11, .ref b12, .int (nI nk), .ref b13, .ref b14, .ref b15, .int (nI nd), .int (nI (ng + 1)), .ref b16, .ref b17, .ref b18, .ref b19, .int be, .int bl, .ref b20, .int pe, .int (nI nn), .ref b21, .ref b22, .ref b23, .ref b24, .ref b25, .ref b26, .ref b27, .ref b28, .ref b29, .int (nI tc), .ref b30, .int (nI ncc), .long mk, .int fd, .int bs, .int (nI ps), .ref b31, .ref b32, .int sn, .int kt, .int bh])), (b16, .inl (cI, 4, .inl (upd gk ng k0))), (b17, .inl (cI, 4, .inl (upd ga ng a0_))), (b18, .inl (cI, 4, .inl (upd gb ng b0_)))] H := hP
        have hD : va_D A [(bx, .inr (11, [.int 0, .int (nI n), .ref b0, .ref b1, .ref b2, .int (nI nm), .ref b3, .ref b4, .ref b5, .ref b6, .ref b7, .ref b8, .ref b9, .ref b10, .ref b11, .ref b12, .int (nI nk), .ref b13, .ref b14, .ref b15, .int (nI nd), .int (nI (ng + 1)), .ref b16, .ref b17, .ref b18, .ref b19, .int be, .int bl, .ref b20, .int pe, .int (nI nn), .ref b21, .ref b22, .ref b23, .ref b24, .ref b25, .ref b26, .ref b27, .ref b28, .ref b29, .int (nI tc), .ref b30, .int (nI ncc), .long mk, .int fd, .int bs, .int (nI ps), .ref b31, .ref b32, .int sn, .int kt, .int bh])), (b16, .inl (cI, 4, .inl (upd gk ng k0))), (b17, .inl (cI, 4, .inl (upd ga ng a0_))), (b18, .inl (cI, 4, .inl (upd gb ng b0_)))] := hD
        refine lv_aload_n hx hb dX10_goal_133 rfl (lv_at hl 1 rfl) ?_
        refine r_get (v := .int (nI (ng + 1))) C hP okX10 0 21 rfl (by decide) fl_X10_138 rfl rfl dX10_goal_134 ?_
        exact rt_i C hQ (hP.sub (ws' := [(bx, .inr (11, [.int 0, .int (nI n), .ref b0, .ref b1, .ref b2, .int (nI nm), .ref b3, .ref b4, .ref b5, .ref b6, .ref b7, .ref b8, .ref b9, .ref b10, .ref b11, .ref b12, .int (nI nk), .ref b13, .ref b14, .ref b15, .int (nI nd), .int (nI (ng + 1)), .ref b16, .ref b17, .ref b18, .ref b19, .int be, .int bl, .ref b20, .int pe, .int (nI nn), .ref b21, .ref b22, .ref b23, .ref b24, .ref b25, .ref b26, .ref b27, .ref b28, .ref b29, .int (nI tc), .ref b30, .int (nI ncc), .long mk, .int fd, .int bs, .int (nI ps), .ref b31, .ref b32, .int sn, .int kt, .int bh])), (b16, .inl (cI, 4, .inl (upd gk ng k0))), (b17, .inl (cI, 4, .inl (upd ga ng a0_))), (b18, .inl (cI, 4, .inl (upd gb ng b0_)))]) [0, 1, 2, 3] rfl) (hD.sub [0, 1, 2, 3] (by decide) rfl) hS (by have hP_ : f_isPart n k0 a0_ b0_ = true ∧ ng < 4 := ⟨hgood, by omega⟩; exact ⟨by rw [if_pos hP_], by simp only [if_pos hP_]⟩) (by decide) (by decide) dX10_goal_137
    · -- not taken 37
      refine lv_iload_n hx hb dX10_goal_40 rfl (lv_at hl 1 rfl) ?_
      refine lv_iconst (v := 2) hx hb dX10_goal_41 (by decide) ?_
      refine lv_icmp_ne (tgt := 55) hx hb dX10_goal_42 (by decide) (fun c_42 => ?_) (fun c_42 => ?_)
      · -- taken 42
        refine lv_iload_n hx hb dX10_goal_55 rfl (lv_at hl 1 rfl) ?_
        refine lv_iconst (v := 3) hx hb dX10_goal_56 (by decide) ?_
        refine lv_icmp_ne (tgt := 75) hx hb dX10_goal_57 (by decide) (fun c_57 => ?_) (fun c_57 => ?_)
        · -- taken 57
          refine lv_iconst (v := 0) hx hb dX10_goal_75 (by decide) ?_
          have hgood : ¬ f_isPart n k0 a0_ b0_ = true := (by simp only [f_isPart]; rw [if_neg c_6, if_neg c_37, if_neg c_42, if_neg c_57]; decide)
          refine lv_istore (lv' := [(4, .int 0), (0, .ref bx), (1, .int k0), (2, .int a0_), (3, .int b0_)]) hx hb dX10_goal_76 hl (by decide) rfl (fun ls hl => ?_)
          refine lv_aload_n hx hb dX10_goal_78 rfl (lv_at hl 1 rfl) ?_
          refine r_get (v := .int (nI ng)) C hP okX10 0 21 rfl (by decide) fl_X10_138 rfl rfl dX10_goal_79 ?_
          refine lv_iconst (v := 4) hx hb dX10_goal_82 (by decide) ?_
          refine lv_icmp_eq (tgt := 91) hx hb dX10_goal_83 (by decide) (fun c_83 => ?_) (fun c_83 => ?_)
          · -- taken 83
            have c_83 : ng = 4 := (nI_eq (a := ng) (b := 4) (by omega) (by omega)).mp c_83
            refine lv_iconst (v := (-1)) hx hb dX10_goal_91 (by decide) ?_
            exact rt_i C hQ (hP.sub (ws' := [(bx, .inr (11, [.int 0, .int (nI n), .ref b0, .ref b1, .ref b2, .int (nI nm), .ref b3, .ref b4, .ref b5, .ref b6, .ref b7, .ref b8, .ref b9, .ref b10, .ref b11, .ref b12, .int (nI nk), .ref b13, .ref b14, .ref b15, .int (nI nd), .int (nI ng), .ref b16, .ref b17, .ref b18, .ref b19, .int be, .int bl, .ref b20, .int pe, .int (nI nn), .ref b21, .ref b22, .ref b23, .ref b24, .ref b25, .ref b26, .ref b27, .ref b28, .ref b29, .int (nI tc), .ref b30, .int (nI ncc), .long mk, .int fd, .int bs, .int (nI ps), .ref b31, .ref b32, .int sn, .int kt, .int bh])), (b16, .inl (cI, 4, .inl gk)), (b17, .inl (cI, 4, .inl ga)), (b18, .inl (cI, 4, .inl gb))]) [0, 1, 2, 3] rfl) (hD.sub [0, 1, 2, 3] (by decide) rfl) hS (by have hP_ : ¬ (f_isPart n k0 a0_ b0_ = true ∧ ng < 4) := (fun z => by first | exact hgood z.1 | omega); exact ⟨by rw [if_neg hP_], by simp only [if_neg hP_]⟩) (by decide) (by decide) dX10_goal_92
          · -- not taken 83
            have c_83 : ¬ (ng = 4) := fun z => c_83 ((nI_eq (a := ng) (b := 4) (by omega) (by omega)).mpr z)
            refine lv_iload hx hb dX10_goal_86 (lv_at hl 0 rfl) ?_
            refine lv_if_ne (tgt := 93) hx hb dX10_goal_88 (by decide) (fun c_88 => ?_) (fun c_88 => ?_)
            · exact absurd c_88 (by decide)
            refine lv_iconst (v := (-1)) hx hb dX10_goal_91 (by decide) ?_
            exact rt_i C hQ (hP.sub (ws' := [(bx, .inr (11, [.int 0, .int (nI n), .ref b0, .ref b1, .ref b2, .int (nI nm), .ref b3, .ref b4, .ref b5, .ref b6, .ref b7, .ref b8, .ref b9, .ref b10, .ref b11, .ref b12, .int (nI nk), .ref b13, .ref b14, .ref b15, .int (nI nd), .int (nI ng), .ref b16, .ref b17, .ref b18, .ref b19, .int be, .int bl, .ref b20, .int pe, .int (nI nn), .ref b21, .ref b22, .ref b23, .ref b24, .ref b25, .ref b26, .ref b27, .ref b28, .ref b29, .int (nI tc), .ref b30, .int (nI ncc), .long mk, .int fd, .int bs, .int (nI ps), .ref b31, .ref b32, .int sn, .int kt, .int bh])), (b16, .inl (cI, 4, .inl gk)), (b17, .inl (cI, 4, .inl ga)), (b18, .inl (cI, 4, .inl gb))]) [0, 1, 2, 3] rfl) (hD.sub [0, 1, 2, 3] (by decide) rfl) hS (by have hP_ : ¬ (f_isPart n k0 a0_ b0_ = true ∧ ng < 4) := (fun z => by first | exact hgood z.1 | omega); exact ⟨by rw [if_neg hP_], by simp only [if_neg hP_]⟩) (by decide) (by decide) dX10_goal_92
        · -- not taken 57
          refine lv_iload_n hx hb dX10_goal_60 rfl (lv_at hl 2 rfl) ?_
          refine lv_iconst (v := 1) hx hb dX10_goal_61 (by decide) ?_
          refine lv_icmp_lt (tgt := 75) hx hb dX10_goal_62 (by decide) (fun c_62 => ?_) (fun c_62 => ?_)
          · -- taken 62
            refine lv_iconst (v := 0) hx hb dX10_goal_75 (by decide) ?_
            have hgood : ¬ f_isPart n k0 a0_ b0_ = true := (by simp only [f_isPart]; rw [if_neg c_6, if_neg c_37, if_neg c_42, if_pos c_57]; first | exact rg_n1 c_62 | exact rg_n2 c_68)
            refine lv_istore (lv' := [(4, .int 0), (0, .ref bx), (1, .int k0), (2, .int a0_), (3, .int b0_)]) hx hb dX10_goal_76 hl (by decide) rfl (fun ls hl => ?_)
            refine lv_aload_n hx hb dX10_goal_78 rfl (lv_at hl 1 rfl) ?_
            refine r_get (v := .int (nI ng)) C hP okX10 0 21 rfl (by decide) fl_X10_138 rfl rfl dX10_goal_79 ?_
            refine lv_iconst (v := 4) hx hb dX10_goal_82 (by decide) ?_
            refine lv_icmp_eq (tgt := 91) hx hb dX10_goal_83 (by decide) (fun c_83 => ?_) (fun c_83 => ?_)
            · -- taken 83
              have c_83 : ng = 4 := (nI_eq (a := ng) (b := 4) (by omega) (by omega)).mp c_83
              refine lv_iconst (v := (-1)) hx hb dX10_goal_91 (by decide) ?_
              exact rt_i C hQ (hP.sub (ws' := [(bx, .inr (11, [.int 0, .int (nI n), .ref b0, .ref b1, .ref b2, .int (nI nm), .ref b3, .ref b4, .ref b5, .ref b6, .ref b7, .ref b8, .ref b9, .ref b10, .ref b11, .ref b12, .int (nI nk), .ref b13, .ref b14, .ref b15, .int (nI nd), .int (nI ng), .ref b16, .ref b17, .ref b18, .ref b19, .int be, .int bl, .ref b20, .int pe, .int (nI nn), .ref b21, .ref b22, .ref b23, .ref b24, .ref b25, .ref b26, .ref b27, .ref b28, .ref b29, .int (nI tc), .ref b30, .int (nI ncc), .long mk, .int fd, .int bs, .int (nI ps), .ref b31, .ref b32, .int sn, .int kt, .int bh])), (b16, .inl (cI, 4, .inl gk)), (b17, .inl (cI, 4, .inl ga)), (b18, .inl (cI, 4, .inl gb))]) [0, 1, 2, 3] rfl) (hD.sub [0, 1, 2, 3] (by decide) rfl) hS (by have hP_ : ¬ (f_isPart n k0 a0_ b0_ = true ∧ ng < 4) := (fun z => by first | exact hgood z.1 | omega); exact ⟨by rw [if_neg hP_], by simp only [if_neg hP_]⟩) (by decide) (by decide) dX10_goal_92
            · -- not taken 83
              have c_83 : ¬ (ng = 4) := fun z => c_83 ((nI_eq (a := ng) (b := 4) (by omega) (by omega)).mpr z)
              refine lv_iload hx hb dX10_goal_86 (lv_at hl 0 rfl) ?_
              refine lv_if_ne (tgt := 93) hx hb dX10_goal_88 (by decide) (fun c_88 => ?_) (fun c_88 => ?_)
              · exact absurd c_88 (by decide)
              refine lv_iconst (v := (-1)) hx hb dX10_goal_91 (by decide) ?_
              exact rt_i C hQ (hP.sub (ws' := [(bx, .inr (11, [.int 0, .int (nI n), .ref b0, .ref b1, .ref b2, .int (nI nm), .ref b3, .ref b4, .ref b5, .ref b6, .ref b7, .ref b8, .ref b9, .ref b10, .ref b11, .ref b12, .int (nI nk), .ref b13, .ref b14, .ref b15, .int (nI nd), .int (nI ng), .ref b16, .ref b17, .ref b18, .ref b19, .int be, .int bl, .ref b20, .int pe, .int (nI nn), .ref b21, .ref b22, .ref b23, .ref b24, .ref b25, .ref b26, .ref b27, .ref b28, .ref b29, .int (nI tc), .ref b30, .int (nI ncc), .long mk, .int fd, .int bs, .int (nI ps), .ref b31, .ref b32, .int sn, .int kt, .int bh])), (b16, .inl (cI, 4, .inl gk)), (b17, .inl (cI, 4, .inl ga)), (b18, .inl (cI, 4, .inl gb))]) [0, 1, 2, 3] rfl) (hD.sub [0, 1, 2, 3] (by decide) rfl) hS (by have hP_ : ¬ (f_isPart n k0 a0_ b0_ = true ∧ ng < 4) := (fun z => by first | exact hgood z.1 | omega); exact ⟨by rw [if_neg hP_], by simp only [if_neg hP_]⟩) (by decide) (by decide) dX10_goal_92
          · -- not taken 62
            refine lv_iload_n hx hb dX10_goal_65 rfl (lv_at hl 2 rfl) ?_
            refine lv_bipush (v := 9) hx hb dX10_goal_66 (by decide) ?_
            refine lv_icmp_gt (tgt := 75) hx hb dX10_goal_68 (by decide) (fun c_68 => ?_) (fun c_68 => ?_)
            · -- taken 68
              refine lv_iconst (v := 0) hx hb dX10_goal_75 (by decide) ?_
              have hgood : ¬ f_isPart n k0 a0_ b0_ = true := (by simp only [f_isPart]; rw [if_neg c_6, if_neg c_37, if_neg c_42, if_pos c_57]; first | exact rg_n1 c_62 | exact rg_n2 c_68)
              refine lv_istore (lv' := [(4, .int 0), (0, .ref bx), (1, .int k0), (2, .int a0_), (3, .int b0_)]) hx hb dX10_goal_76 hl (by decide) rfl (fun ls hl => ?_)
              refine lv_aload_n hx hb dX10_goal_78 rfl (lv_at hl 1 rfl) ?_
              refine r_get (v := .int (nI ng)) C hP okX10 0 21 rfl (by decide) fl_X10_138 rfl rfl dX10_goal_79 ?_
              refine lv_iconst (v := 4) hx hb dX10_goal_82 (by decide) ?_
              refine lv_icmp_eq (tgt := 91) hx hb dX10_goal_83 (by decide) (fun c_83 => ?_) (fun c_83 => ?_)
              · -- taken 83
                have c_83 : ng = 4 := (nI_eq (a := ng) (b := 4) (by omega) (by omega)).mp c_83
                refine lv_iconst (v := (-1)) hx hb dX10_goal_91 (by decide) ?_
                exact rt_i C hQ (hP.sub (ws' := [(bx, .inr (11, [.int 0, .int (nI n), .ref b0, .ref b1, .ref b2, .int (nI nm), .ref b3, .ref b4, .ref b5, .ref b6, .ref b7, .ref b8, .ref b9, .ref b10, .ref b11, .ref b12, .int (nI nk), .ref b13, .ref b14, .ref b15, .int (nI nd), .int (nI ng), .ref b16, .ref b17, .ref b18, .ref b19, .int be, .int bl, .ref b20, .int pe, .int (nI nn), .ref b21, .ref b22, .ref b23, .ref b24, .ref b25, .ref b26, .ref b27, .ref b28, .ref b29, .int (nI tc), .ref b30, .int (nI ncc), .long mk, .int fd, .int bs, .int (nI ps), .ref b31, .ref b32, .int sn, .int kt, .int bh])), (b16, .inl (cI, 4, .inl gk)), (b17, .inl (cI, 4, .inl ga)), (b18, .inl (cI, 4, .inl gb))]) [0, 1, 2, 3] rfl) (hD.sub [0, 1, 2, 3] (by decide) rfl) hS (by have hP_ : ¬ (f_isPart n k0 a0_ b0_ = true ∧ ng < 4) := (fun z => by first | exact hgood z.1 | omega); exact ⟨by rw [if_neg hP_], by simp only [if_neg hP_]⟩) (by decide) (by decide) dX10_goal_92
              · -- not taken 83
                have c_83 : ¬ (ng = 4) := fun z => c_83 ((nI_eq (a := ng) (b := 4) (by omega) (by omega)).mpr z)
                refine lv_iload hx hb dX10_goal_86 (lv_at hl 0 rfl) ?_
                refine lv_if_ne (tgt := 93) hx hb dX10_goal_88 (by decide) (fun c_88 => ?_) (fun c_88 => ?_)
                · exact absurd c_88 (by decide)
                refine lv_iconst (v := (-1)) hx hb dX10_goal_91 (by decide) ?_
                exact rt_i C hQ (hP.sub (ws' := [(bx, .inr (11, [.int 0, .int (nI n), .ref b0, .ref b1, .ref b2, .int (nI nm), .ref b3, .ref b4, .ref b5, .ref b6, .ref b7, .ref b8, .ref b9, .ref b10, .ref b11, .ref b12, .int (nI nk), .ref b13, .ref b14, .ref b15, .int (nI nd), .int (nI ng), .ref b16, .ref b17, .ref b18, .ref b19, .int be, .int bl, .ref b20, .int pe, .int (nI nn), .ref b21, .ref b22, .ref b23, .ref b24, .ref b25, .ref b26, .ref b27, .ref b28, .ref b29, .int (nI tc), .ref b30, .int (nI ncc), .long mk, .int fd, .int bs, .int (nI ps), .ref b31, .ref b32, .int sn, .int kt, .int bh])), (b16, .inl (cI, 4, .inl gk)), (b17, .inl (cI, 4, .inl ga)), (b18, .inl (cI, 4, .inl gb))]) [0, 1, 2, 3] rfl) (hD.sub [0, 1, 2, 3] (by decide) rfl) hS (by have hP_ : ¬ (f_isPart n k0 a0_ b0_ = true ∧ ng < 4) := (fun z => by first | exact hgood z.1 | omega); exact ⟨by rw [if_neg hP_], by simp only [if_neg hP_]⟩) (by decide) (by decide) dX10_goal_92
            · -- not taken 68
              refine lv_iconst (v := 1) hx hb dX10_goal_71 (by decide) ?_
              refine lv_goto (tgt := 76) hx hb dX10_goal_72 (by decide) ?_
              have hgood : f_isPart n k0 a0_ b0_ = true := (by simp only [f_isPart]; rw [if_neg c_6, if_neg c_37, if_neg c_42, if_pos c_57]; exact rg_y c_62 c_68)
              refine lv_istore (lv' := [(4, .int 1), (0, .ref bx), (1, .int k0), (2, .int a0_), (3, .int b0_)]) hx hb dX10_goal_76 hl (by decide) rfl (fun ls hl => ?_)
              refine lv_aload_n hx hb dX10_goal_78 rfl (lv_at hl 1 rfl) ?_
              refine r_get (v := .int (nI ng)) C hP okX10 0 21 rfl (by decide) fl_X10_138 rfl rfl dX10_goal_79 ?_
              refine lv_iconst (v := 4) hx hb dX10_goal_82 (by decide) ?_
              refine lv_icmp_eq (tgt := 91) hx hb dX10_goal_83 (by decide) (fun c_83 => ?_) (fun c_83 => ?_)
              · -- taken 83
                have c_83 : ng = 4 := (nI_eq (a := ng) (b := 4) (by omega) (by omega)).mp c_83
                refine lv_iconst (v := (-1)) hx hb dX10_goal_91 (by decide) ?_
                exact rt_i C hQ (hP.sub (ws' := [(bx, .inr (11, [.int 0, .int (nI n), .ref b0, .ref b1, .ref b2, .int (nI nm), .ref b3, .ref b4, .ref b5, .ref b6, .ref b7, .ref b8, .ref b9, .ref b10, .ref b11, .ref b12, .int (nI nk), .ref b13, .ref b14, .ref b15, .int (nI nd), .int (nI ng), .ref b16, .ref b17, .ref b18, .ref b19, .int be, .int bl, .ref b20, .int pe, .int (nI nn), .ref b21, .ref b22, .ref b23, .ref b24, .ref b25, .ref b26, .ref b27, .ref b28, .ref b29, .int (nI tc), .ref b30, .int (nI ncc), .long mk, .int fd, .int bs, .int (nI ps), .ref b31, .ref b32, .int sn, .int kt, .int bh])), (b16, .inl (cI, 4, .inl gk)), (b17, .inl (cI, 4, .inl ga)), (b18, .inl (cI, 4, .inl gb))]) [0, 1, 2, 3] rfl) (hD.sub [0, 1, 2, 3] (by decide) rfl) hS (by have hP_ : ¬ (f_isPart n k0 a0_ b0_ = true ∧ ng < 4) := (fun z => by first | exact hgood z.1 | omega); exact ⟨by rw [if_neg hP_], by simp only [if_neg hP_]⟩) (by decide) (by decide) dX10_goal_92
              · -- not taken 83
                have c_83 : ¬ (ng = 4) := fun z => c_83 ((nI_eq (a := ng) (b := 4) (by omega) (by omega)).mpr z)
                refine lv_iload hx hb dX10_goal_86 (lv_at hl 0 rfl) ?_
                refine lv_if_ne (tgt := 93) hx hb dX10_goal_88 (by decide) (fun c_88 => ?_) (fun c_88 => ?_)
                rotate_left
                · exact absurd c_88 (by decide)
                refine lv_aload_n hx hb dX10_goal_93 rfl (lv_at hl 1 rfl) ?_
                refine r_get (v := .ref b16) C hP okX10 0 22 rfl (by decide) fl_X10_59 rfl rfl dX10_goal_94 ?_
                refine lv_aload_n hx hb dX10_goal_97 rfl (lv_at hl 1 rfl) ?_
                refine r_get (v := .int (nI ng)) C hP okX10 0 21 rfl (by decide) fl_X10_138 rfl rfl dX10_goal_98 ?_
                refine lv_iload_n hx hb dX10_goal_101 rfl (lv_at hl 2 rfl) ?_
                refine r_iast (j := ng) C hP hD hS 1 rfl (by omega) (by decide) dX10_goal_102 (fun H locs hP hD hS => ?_)
                have hP : va_P D vwCl [(bx, .inr (11, [.int 0, .int (nI n), .ref b0, .ref b1, .ref b2, .int (nI nm), .ref b3, .ref b4, .ref b5, .ref b6, .ref b7, .ref b8, .ref b9, .ref b10, .ref b11, .ref b12, .int (nI nk), .ref b13, .ref b14, .ref b15, .int (nI nd), .int (nI ng), .ref b16, .ref b17, .ref b18, .ref b19, .int be, .int bl, .ref b20, .int pe, .int (nI nn), .ref b21, .ref b22, .ref b23, .ref b24, .ref b25, .ref b26, .ref b27, .ref b28, .ref b29, .int (nI tc), .ref b30, .int (nI ncc), .long mk, .int fd, .int bs, .int (nI ps), .ref b31, .ref b32, .int sn, .int kt, .int bh])), (b16, .inl (cI, 4, .inl (upd gk ng k0))), (b17, .inl (cI, 4, .inl ga)), (b18, .inl (cI, 4, .inl gb))] H := hP
                have hD : va_D A [(bx, .inr (11, [.int 0, .int (nI n), .ref b0, .ref b1, .ref b2, .int (nI nm), .ref b3, .ref b4, .ref b5, .ref b6, .ref b7, .ref b8, .ref b9, .ref b10, .ref b11, .ref b12, .int (nI nk), .ref b13, .ref b14, .ref b15, .int (nI nd), .int (nI ng), .ref b16, .ref b17, .ref b18, .ref b19, .int be, .int bl, .ref b20, .int pe, .int (nI nn), .ref b21, .ref b22, .ref b23, .ref b24, .ref b25, .ref b26, .ref b27, .ref b28, .ref b29, .int (nI tc), .ref b30, .int (nI ncc), .long mk, .int fd, .int bs, .int (nI ps), .ref b31, .ref b32, .int sn, .int kt, .int bh])), (b16, .inl (cI, 4, .inl (upd gk ng k0))), (b17, .inl (cI, 4, .inl ga)), (b18, .inl (cI, 4, .inl gb))] := hD
                refine lv_aload_n hx hb dX10_goal_103 rfl (lv_at hl 1 rfl) ?_
                refine r_get (v := .ref b17) C hP okX10 0 23 rfl (by decide) fl_X10_62 rfl rfl dX10_goal_104 ?_
                refine lv_aload_n hx hb dX10_goal_107 rfl (lv_at hl 1 rfl) ?_
                refine r_get (v := .int (nI ng)) C hP okX10 0 21 rfl (by decide) fl_X10_138 rfl rfl dX10_goal_108 ?_
                refine lv_iload_n hx hb dX10_goal_111 rfl (lv_at hl 3 rfl) ?_
                refine r_iast (j := ng) C hP hD hS 2 rfl (by omega) (by decide) dX10_goal_112 (fun H locs hP hD hS => ?_)
                have hP : va_P D vwCl [(bx, .inr (11, [.int 0, .int (nI n), .ref b0, .ref b1, .ref b2, .int (nI nm), .ref b3, .ref b4, .ref b5, .ref b6, .ref b7, .ref b8, .ref b9, .ref b10, .ref b11, .ref b12, .int (nI nk), .ref b13, .ref b14, .ref b15, .int (nI nd), .int (nI ng), .ref b16, .ref b17, .ref b18, .ref b19, .int be, .int bl, .ref b20, .int pe, .int (nI nn), .ref b21, .ref b22, .ref b23, .ref b24, .ref b25, .ref b26, .ref b27, .ref b28, .ref b29, .int (nI tc), .ref b30, .int (nI ncc), .long mk, .int fd, .int bs, .int (nI ps), .ref b31, .ref b32, .int sn, .int kt, .int bh])), (b16, .inl (cI, 4, .inl (upd gk ng k0))), (b17, .inl (cI, 4, .inl (upd ga ng a0_))), (b18, .inl (cI, 4, .inl gb))] H := hP
                have hD : va_D A [(bx, .inr (11, [.int 0, .int (nI n), .ref b0, .ref b1, .ref b2, .int (nI nm), .ref b3, .ref b4, .ref b5, .ref b6, .ref b7, .ref b8, .ref b9, .ref b10, .ref b11, .ref b12, .int (nI nk), .ref b13, .ref b14, .ref b15, .int (nI nd), .int (nI ng), .ref b16, .ref b17, .ref b18, .ref b19, .int be, .int bl, .ref b20, .int pe, .int (nI nn), .ref b21, .ref b22, .ref b23, .ref b24, .ref b25, .ref b26, .ref b27, .ref b28, .ref b29, .int (nI tc), .ref b30, .int (nI ncc), .long mk, .int fd, .int bs, .int (nI ps), .ref b31, .ref b32, .int sn, .int kt, .int bh])), (b16, .inl (cI, 4, .inl (upd gk ng k0))), (b17, .inl (cI, 4, .inl (upd ga ng a0_))), (b18, .inl (cI, 4, .inl gb))] := hD
                refine lv_aload_n hx hb dX10_goal_113 rfl (lv_at hl 1 rfl) ?_
                refine r_get (v := .ref b18) C hP okX10 0 24 rfl (by decide) fl_X10_65 rfl rfl dX10_goal_114 ?_
                refine lv_aload_n hx hb dX10_goal_117 rfl (lv_at hl 1 rfl) ?_
                refine r_get (v := .int (nI ng)) C hP okX10 0 21 rfl (by decide) fl_X10_138 rfl rfl dX10_goal_118 ?_
                refine lv_iload_n hx hb dX10_goal_121 rfl (lv_at hl 4 rfl) ?_
                refine r_iast (j := ng) C hP hD hS 3 rfl (by omega) (by decide) dX10_goal_122 (fun H locs hP hD hS => ?_)
                have hP : va_P D vwCl [(bx, .inr (11, [.int 0, .int (nI n), .ref b0, .ref b1, .ref b2, .int (nI nm), .ref b3, .ref b4, .ref b5, .ref b6, .ref b7, .ref b8, .ref b9, .ref b10, .ref b11, .ref b12, .int (nI nk), .ref b13, .ref b14, .ref b15, .int (nI nd), .int (nI ng), .ref b16, .ref b17, .ref b18, .ref b19, .int be, .int bl, .ref b20, .int pe, .int (nI nn), .ref b21, .ref b22, .ref b23, .ref b24, .ref b25, .ref b26, .ref b27, .ref b28, .ref b29, .int (nI tc), .ref b30, .int (nI ncc), .long mk, .int fd, .int bs, .int (nI ps), .ref b31, .ref b32, .int sn, .int kt, .int bh])), (b16, .inl (cI, 4, .inl (upd gk ng k0))), (b17, .inl (cI, 4, .inl (upd ga ng a0_))), (b18, .inl (cI, 4, .inl (upd gb ng b0_)))] H := hP
                have hD : va_D A [(bx, .inr (11, [.int 0, .int (nI n), .ref b0, .ref b1, .ref b2, .int (nI nm), .ref b3, .ref b4, .ref b5, .ref b6, .ref b7, .ref b8, .ref b9, .ref b10, .ref b11, .ref b12, .int (nI nk), .ref b13, .ref b14, .ref b15, .int (nI nd), .int (nI ng), .ref b16, .ref b17, .ref b18, .ref b19, .int be, .int bl, .ref b20, .int pe, .int (nI nn), .ref b21, .ref b22, .ref b23, .ref b24, .ref b25, .ref b26, .ref b27, .ref b28, .ref b29, .int (nI tc), .ref b30, .int (nI ncc), .long mk, .int fd, .int bs, .int (nI ps), .ref b31, .ref b32, .int sn, .int kt, .int bh])), (b16, .inl (cI, 4, .inl (upd gk ng k0))), (b17, .inl (cI, 4, .inl (upd ga ng a0_))), (b18, .inl (cI, 4, .inl (upd gb ng b0_)))] := hD
                refine lv_aload_n hx hb dX10_goal_123 rfl (lv_at hl 1 rfl) ?_
                refine lv_dup hx hb dX10_goal_124 rfl ?_
                refine r_get (v := .int (nI ng)) C hP okX10 0 21 rfl (by decide) fl_X10_138 rfl rfl dX10_goal_125 ?_
                refine lv_iconst (v := 1) hx hb dX10_goal_128 (by decide) ?_
                refine lv_iadd hx hb dX10_goal_129 ?_
                refine r_top (x' := nI (ng + 1)) (nI_add ng 1) ?_
                refine r_put (v := .int (nI (ng + 1))) C hP hD hS okX10 0 21 rfl (by decide) fl_X10_138 rfl rfl rfl rfl (Nat.le_of_ble_eq_true rfl) dX10_goal_130 (fun H locs hP hD hS => ?_)
                have hP : va_P D vwCl [(bx, .inr (11, [.int 0, .int (nI n), .ref b0, .ref b1, .ref b2, .int (nI nm), .ref b3, .ref b4, .ref b5, .ref b6, .ref b7, .ref b8, .ref b9, .ref b10, .ref b11, .ref b12, .int (nI nk), .ref b13, .ref b14, .ref b15, .int (nI nd), .int (nI (ng + 1)), .ref b16, .ref b17, .ref b18, .ref b19, .int be, .int bl, .ref b20, .int pe, .int (nI nn), .ref b21, .ref b22, .ref b23, .ref b24, .ref b25, .ref b26, .ref b27, .ref b28, .ref b29, .int (nI tc), .ref b30, .int (nI ncc), .long mk, .int fd, .int bs, .int (nI ps), .ref b31, .ref b32, .int sn, .int kt, .int bh])), (b16, .inl (cI, 4, .inl (upd gk ng k0))), (b17, .inl (cI, 4, .inl (upd ga ng a0_))), (b18, .inl (cI, 4, .inl (upd gb ng b0_)))] H := hP
                have hD : va_D A [(bx, .inr (11, [.int 0, .int (nI n), .ref b0, .ref b1, .ref b2, .int (nI nm), .ref b3, .ref b4, .ref b5, .ref b6, .ref b7, .ref b8, .ref b9, .ref b10, .ref b11, .ref b12, .int (nI nk), .ref b13, .ref b14, .ref b15, .int (nI nd), .int (nI (ng + 1)), .ref b16, .ref b17, .ref b18, .ref b19, .int be, .int bl, .ref b20, .int pe, .int (nI nn), .ref b21, .ref b22, .ref b23, .ref b24, .ref b25, .ref b26, .ref b27, .ref b28, .ref b29, .int (nI tc), .ref b30, .int (nI ncc), .long mk, .int fd, .int bs, .int (nI ps), .ref b31, .ref b32, .int sn, .int kt, .int bh])), (b16, .inl (cI, 4, .inl (upd gk ng k0))), (b17, .inl (cI, 4, .inl (upd ga ng a0_))), (b18, .inl (cI, 4, .inl (upd gb ng b0_)))] := hD
                refine lv_aload_n hx hb dX10_goal_133 rfl (lv_at hl 1 rfl) ?_
                refine r_get (v := .int (nI (ng + 1))) C hP okX10 0 21 rfl (by decide) fl_X10_138 rfl rfl dX10_goal_134 ?_
                exact rt_i C hQ (hP.sub (ws' := [(bx, .inr (11, [.int 0, .int (nI n), .ref b0, .ref b1, .ref b2, .int (nI nm), .ref b3, .ref b4, .ref b5, .ref b6, .ref b7, .ref b8, .ref b9, .ref b10, .ref b11, .ref b12, .int (nI nk), .ref b13, .ref b14, .ref b15, .int (nI nd), .int (nI (ng + 1)), .ref b16, .ref b17, .ref b18, .ref b19, .int be, .int bl, .ref b20, .int pe, .int (nI nn), .ref b21, .ref b22, .ref b23, .ref b24, .ref b25, .ref b26, .ref b27, .ref b28, .ref b29, .int (nI tc), .ref b30, .int (nI ncc), .long mk, .int fd, .int bs, .int (nI ps), .ref b31, .ref b32, .int sn, .int kt, .int bh])), (b16, .inl (cI, 4, .inl (upd gk ng k0))), (b17, .inl (cI, 4, .inl (upd ga ng a0_))), (b18, .inl (cI, 4, .inl (upd gb ng b0_)))]) [0, 1, 2, 3] rfl) (hD.sub [0, 1, 2, 3] (by decide) rfl) hS (by have hP_ : f_isPart n k0 a0_ b0_ = true ∧ ng < 4 := ⟨hgood, by omega⟩; exact ⟨by rw [if_pos hP_], by simp only [if_pos hP_]⟩) (by decide) (by decide) dX10_goal_137
      · -- not taken 42
        refine lv_iload_n hx hb dX10_goal_45 rfl (lv_at hl 2 rfl) ?_
        refine lv_if_lt (tgt := 55) hx hb dX10_goal_46 (by decide) (fun c_46 => ?_) (fun c_46 => ?_)
        · -- taken 46
          refine lv_iload_n hx hb dX10_goal_55 rfl (lv_at hl 1 rfl) ?_
          refine lv_iconst (v := 3) hx hb dX10_goal_56 (by decide) ?_
          refine lv_icmp_ne (tgt := 75) hx hb dX10_goal_57 (by decide) (fun c_57 => ?_) (fun c_57 => ?_)
          · -- taken 57
            refine lv_iconst (v := 0) hx hb dX10_goal_75 (by decide) ?_
            have hgood : ¬ f_isPart n k0 a0_ b0_ = true := (by simp only [f_isPart]; rw [if_neg c_6, if_neg c_37, if_pos c_42]; first | exact rg_n1 c_46 | exact rg_n32 c_52)
            refine lv_istore (lv' := [(4, .int 0), (0, .ref bx), (1, .int k0), (2, .int a0_), (3, .int b0_)]) hx hb dX10_goal_76 hl (by decide) rfl (fun ls hl => ?_)
            refine lv_aload_n hx hb dX10_goal_78 rfl (lv_at hl 1 rfl) ?_
            refine r_get (v := .int (nI ng)) C hP okX10 0 21 rfl (by decide) fl_X10_138 rfl rfl dX10_goal_79 ?_
            refine lv_iconst (v := 4) hx hb dX10_goal_82 (by decide) ?_
            refine lv_icmp_eq (tgt := 91) hx hb dX10_goal_83 (by decide) (fun c_83 => ?_) (fun c_83 => ?_)
            · -- taken 83
              have c_83 : ng = 4 := (nI_eq (a := ng) (b := 4) (by omega) (by omega)).mp c_83
              refine lv_iconst (v := (-1)) hx hb dX10_goal_91 (by decide) ?_
              exact rt_i C hQ (hP.sub (ws' := [(bx, .inr (11, [.int 0, .int (nI n), .ref b0, .ref b1, .ref b2, .int (nI nm), .ref b3, .ref b4, .ref b5, .ref b6, .ref b7, .ref b8, .ref b9, .ref b10, .ref b11, .ref b12, .int (nI nk), .ref b13, .ref b14, .ref b15, .int (nI nd), .int (nI ng), .ref b16, .ref b17, .ref b18, .ref b19, .int be, .int bl, .ref b20, .int pe, .int (nI nn), .ref b21, .ref b22, .ref b23, .ref b24, .ref b25, .ref b26, .ref b27, .ref b28, .ref b29, .int (nI tc), .ref b30, .int (nI ncc), .long mk, .int fd, .int bs, .int (nI ps), .ref b31, .ref b32, .int sn, .int kt, .int bh])), (b16, .inl (cI, 4, .inl gk)), (b17, .inl (cI, 4, .inl ga)), (b18, .inl (cI, 4, .inl gb))]) [0, 1, 2, 3] rfl) (hD.sub [0, 1, 2, 3] (by decide) rfl) hS (by have hP_ : ¬ (f_isPart n k0 a0_ b0_ = true ∧ ng < 4) := (fun z => by first | exact hgood z.1 | omega); exact ⟨by rw [if_neg hP_], by simp only [if_neg hP_]⟩) (by decide) (by decide) dX10_goal_92
            · -- not taken 83
              have c_83 : ¬ (ng = 4) := fun z => c_83 ((nI_eq (a := ng) (b := 4) (by omega) (by omega)).mpr z)
              refine lv_iload hx hb dX10_goal_86 (lv_at hl 0 rfl) ?_
              refine lv_if_ne (tgt := 93) hx hb dX10_goal_88 (by decide) (fun c_88 => ?_) (fun c_88 => ?_)
              · exact absurd c_88 (by decide)
              refine lv_iconst (v := (-1)) hx hb dX10_goal_91 (by decide) ?_
              exact rt_i C hQ (hP.sub (ws' := [(bx, .inr (11, [.int 0, .int (nI n), .ref b0, .ref b1, .ref b2, .int (nI nm), .ref b3, .ref b4, .ref b5, .ref b6, .ref b7, .ref b8, .ref b9, .ref b10, .ref b11, .ref b12, .int (nI nk), .ref b13, .ref b14, .ref b15, .int (nI nd), .int (nI ng), .ref b16, .ref b17, .ref b18, .ref b19, .int be, .int bl, .ref b20, .int pe, .int (nI nn), .ref b21, .ref b22, .ref b23, .ref b24, .ref b25, .ref b26, .ref b27, .ref b28, .ref b29, .int (nI tc), .ref b30, .int (nI ncc), .long mk, .int fd, .int bs, .int (nI ps), .ref b31, .ref b32, .int sn, .int kt, .int bh])), (b16, .inl (cI, 4, .inl gk)), (b17, .inl (cI, 4, .inl ga)), (b18, .inl (cI, 4, .inl gb))]) [0, 1, 2, 3] rfl) (hD.sub [0, 1, 2, 3] (by decide) rfl) hS (by have hP_ : ¬ (f_isPart n k0 a0_ b0_ = true ∧ ng < 4) := (fun z => by first | exact hgood z.1 | omega); exact ⟨by rw [if_neg hP_], by simp only [if_neg hP_]⟩) (by decide) (by decide) dX10_goal_92
          · -- not taken 57
            refine lv_iload_n hx hb dX10_goal_60 rfl (lv_at hl 2 rfl) ?_
            refine lv_iconst (v := 1) hx hb dX10_goal_61 (by decide) ?_
            refine lv_icmp_lt (tgt := 75) hx hb dX10_goal_62 (by decide) (fun c_62 => ?_) (fun c_62 => ?_)
            · -- taken 62
              refine lv_iconst (v := 0) hx hb dX10_goal_75 (by decide) ?_
              have hgood : ¬ f_isPart n k0 a0_ b0_ = true := (absurd (c_42.symm.trans c_57) (by decide))
              refine lv_istore (lv' := [(4, .int 0), (0, .ref bx), (1, .int k0), (2, .int a0_), (3, .int b0_)]) hx hb dX10_goal_76 hl (by decide) rfl (fun ls hl => ?_)
              refine lv_aload_n hx hb dX10_goal_78 rfl (lv_at hl 1 rfl) ?_
              refine r_get (v := .int (nI ng)) C hP okX10 0 21 rfl (by decide) fl_X10_138 rfl rfl dX10_goal_79 ?_
              refine lv_iconst (v := 4) hx hb dX10_goal_82 (by decide) ?_
              refine lv_icmp_eq (tgt := 91) hx hb dX10_goal_83 (by decide) (fun c_83 => ?_) (fun c_83 => ?_)
              · -- taken 83
                have c_83 : ng = 4 := (nI_eq (a := ng) (b := 4) (by omega) (by omega)).mp c_83
                refine lv_iconst (v := (-1)) hx hb dX10_goal_91 (by decide) ?_
                exact rt_i C hQ (hP.sub (ws' := [(bx, .inr (11, [.int 0, .int (nI n), .ref b0, .ref b1, .ref b2, .int (nI nm), .ref b3, .ref b4, .ref b5, .ref b6, .ref b7, .ref b8, .ref b9, .ref b10, .ref b11, .ref b12, .int (nI nk), .ref b13, .ref b14, .ref b15, .int (nI nd), .int (nI ng), .ref b16, .ref b17, .ref b18, .ref b19, .int be, .int bl, .ref b20, .int pe, .int (nI nn), .ref b21, .ref b22, .ref b23, .ref b24, .ref b25, .ref b26, .ref b27, .ref b28, .ref b29, .int (nI tc), .ref b30, .int (nI ncc), .long mk, .int fd, .int bs, .int (nI ps), .ref b31, .ref b32, .int sn, .int kt, .int bh])), (b16, .inl (cI, 4, .inl gk)), (b17, .inl (cI, 4, .inl ga)), (b18, .inl (cI, 4, .inl gb))]) [0, 1, 2, 3] rfl) (hD.sub [0, 1, 2, 3] (by decide) rfl) hS (by have hP_ : ¬ (f_isPart n k0 a0_ b0_ = true ∧ ng < 4) := (fun z => by first | exact hgood z.1 | omega); exact ⟨by rw [if_neg hP_], by simp only [if_neg hP_]⟩) (by decide) (by decide) dX10_goal_92
              · -- not taken 83
                have c_83 : ¬ (ng = 4) := fun z => c_83 ((nI_eq (a := ng) (b := 4) (by omega) (by omega)).mpr z)
                refine lv_iload hx hb dX10_goal_86 (lv_at hl 0 rfl) ?_
                refine lv_if_ne (tgt := 93) hx hb dX10_goal_88 (by decide) (fun c_88 => ?_) (fun c_88 => ?_)
                · exact absurd c_88 (by decide)
                refine lv_iconst (v := (-1)) hx hb dX10_goal_91 (by decide) ?_
                exact rt_i C hQ (hP.sub (ws' := [(bx, .inr (11, [.int 0, .int (nI n), .ref b0, .ref b1, .ref b2, .int (nI nm), .ref b3, .ref b4, .ref b5, .ref b6, .ref b7, .ref b8, .ref b9, .ref b10, .ref b11, .ref b12, .int (nI nk), .ref b13, .ref b14, .ref b15, .int (nI nd), .int (nI ng), .ref b16, .ref b17, .ref b18, .ref b19, .int be, .int bl, .ref b20, .int pe, .int (nI nn), .ref b21, .ref b22, .ref b23, .ref b24, .ref b25, .ref b26, .ref b27, .ref b28, .ref b29, .int (nI tc), .ref b30, .int (nI ncc), .long mk, .int fd, .int bs, .int (nI ps), .ref b31, .ref b32, .int sn, .int kt, .int bh])), (b16, .inl (cI, 4, .inl gk)), (b17, .inl (cI, 4, .inl ga)), (b18, .inl (cI, 4, .inl gb))]) [0, 1, 2, 3] rfl) (hD.sub [0, 1, 2, 3] (by decide) rfl) hS (by have hP_ : ¬ (f_isPart n k0 a0_ b0_ = true ∧ ng < 4) := (fun z => by first | exact hgood z.1 | omega); exact ⟨by rw [if_neg hP_], by simp only [if_neg hP_]⟩) (by decide) (by decide) dX10_goal_92
            · -- not taken 62
              refine lv_iload_n hx hb dX10_goal_65 rfl (lv_at hl 2 rfl) ?_
              refine lv_bipush (v := 9) hx hb dX10_goal_66 (by decide) ?_
              refine lv_icmp_gt (tgt := 75) hx hb dX10_goal_68 (by decide) (fun c_68 => ?_) (fun c_68 => ?_)
              · -- taken 68
                refine lv_iconst (v := 0) hx hb dX10_goal_75 (by decide) ?_
                have hgood : ¬ f_isPart n k0 a0_ b0_ = true := (absurd (c_42.symm.trans c_57) (by decide))
                refine lv_istore (lv' := [(4, .int 0), (0, .ref bx), (1, .int k0), (2, .int a0_), (3, .int b0_)]) hx hb dX10_goal_76 hl (by decide) rfl (fun ls hl => ?_)
                refine lv_aload_n hx hb dX10_goal_78 rfl (lv_at hl 1 rfl) ?_
                refine r_get (v := .int (nI ng)) C hP okX10 0 21 rfl (by decide) fl_X10_138 rfl rfl dX10_goal_79 ?_
                refine lv_iconst (v := 4) hx hb dX10_goal_82 (by decide) ?_
                refine lv_icmp_eq (tgt := 91) hx hb dX10_goal_83 (by decide) (fun c_83 => ?_) (fun c_83 => ?_)
                · -- taken 83
                  have c_83 : ng = 4 := (nI_eq (a := ng) (b := 4) (by omega) (by omega)).mp c_83
                  refine lv_iconst (v := (-1)) hx hb dX10_goal_91 (by decide) ?_
                  exact rt_i C hQ (hP.sub (ws' := [(bx, .inr (11, [.int 0, .int (nI n), .ref b0, .ref b1, .ref b2, .int (nI nm), .ref b3, .ref b4, .ref b5, .ref b6, .ref b7, .ref b8, .ref b9, .ref b10, .ref b11, .ref b12, .int (nI nk), .ref b13, .ref b14, .ref b15, .int (nI nd), .int (nI ng), .ref b16, .ref b17, .ref b18, .ref b19, .int be, .int bl, .ref b20, .int pe, .int (nI nn), .ref b21, .ref b22, .ref b23, .ref b24, .ref b25, .ref b26, .ref b27, .ref b28, .ref b29, .int (nI tc), .ref b30, .int (nI ncc), .long mk, .int fd, .int bs, .int (nI ps), .ref b31, .ref b32, .int sn, .int kt, .int bh])), (b16, .inl (cI, 4, .inl gk)), (b17, .inl (cI, 4, .inl ga)), (b18, .inl (cI, 4, .inl gb))]) [0, 1, 2, 3] rfl) (hD.sub [0, 1, 2, 3] (by decide) rfl) hS (by have hP_ : ¬ (f_isPart n k0 a0_ b0_ = true ∧ ng < 4) := (fun z => by first | exact hgood z.1 | omega); exact ⟨by rw [if_neg hP_], by simp only [if_neg hP_]⟩) (by decide) (by decide) dX10_goal_92
                · -- not taken 83
                  have c_83 : ¬ (ng = 4) := fun z => c_83 ((nI_eq (a := ng) (b := 4) (by omega) (by omega)).mpr z)
                  refine lv_iload hx hb dX10_goal_86 (lv_at hl 0 rfl) ?_
                  refine lv_if_ne (tgt := 93) hx hb dX10_goal_88 (by decide) (fun c_88 => ?_) (fun c_88 => ?_)
                  · exact absurd c_88 (by decide)
                  refine lv_iconst (v := (-1)) hx hb dX10_goal_91 (by decide) ?_
                  exact rt_i C hQ (hP.sub (ws' := [(bx, .inr (11, [.int 0, .int (nI n), .ref b0, .ref b1, .ref b2, .int (nI nm), .ref b3, .ref b4, .ref b5, .ref b6, .ref b7, .ref b8, .ref b9, .ref b10, .ref b11, .ref b12, .int (nI nk), .ref b13, .ref b14, .ref b15, .int (nI nd), .int (nI ng), .ref b16, .ref b17, .ref b18, .ref b19, .int be, .int bl, .ref b20, .int pe, .int (nI nn), .ref b21, .ref b22, .ref b23, .ref b24, .ref b25, .ref b26, .ref b27, .ref b28, .ref b29, .int (nI tc), .ref b30, .int (nI ncc), .long mk, .int fd, .int bs, .int (nI ps), .ref b31, .ref b32, .int sn, .int kt, .int bh])), (b16, .inl (cI, 4, .inl gk)), (b17, .inl (cI, 4, .inl ga)), (b18, .inl (cI, 4, .inl gb))]) [0, 1, 2, 3] rfl) (hD.sub [0, 1, 2, 3] (by decide) rfl) hS (by have hP_ : ¬ (f_isPart n k0 a0_ b0_ = true ∧ ng < 4) := (fun z => by first | exact hgood z.1 | omega); exact ⟨by rw [if_neg hP_], by simp only [if_neg hP_]⟩) (by decide) (by decide) dX10_goal_92
              · -- not taken 68
                refine lv_iconst (v := 1) hx hb dX10_goal_71 (by decide) ?_
                refine lv_goto (tgt := 76) hx hb dX10_goal_72 (by decide) ?_
                have hgood : f_isPart n k0 a0_ b0_ = true := (absurd (c_42.symm.trans c_57) (by decide))
                refine lv_istore (lv' := [(4, .int 1), (0, .ref bx), (1, .int k0), (2, .int a0_), (3, .int b0_)]) hx hb dX10_goal_76 hl (by decide) rfl (fun ls hl => ?_)
                refine lv_aload_n hx hb dX10_goal_78 rfl (lv_at hl 1 rfl) ?_
                refine r_get (v := .int (nI ng)) C hP okX10 0 21 rfl (by decide) fl_X10_138 rfl rfl dX10_goal_79 ?_
                refine lv_iconst (v := 4) hx hb dX10_goal_82 (by decide) ?_
                refine lv_icmp_eq (tgt := 91) hx hb dX10_goal_83 (by decide) (fun c_83 => ?_) (fun c_83 => ?_)
                · -- taken 83
                  have c_83 : ng = 4 := (nI_eq (a := ng) (b := 4) (by omega) (by omega)).mp c_83
                  refine lv_iconst (v := (-1)) hx hb dX10_goal_91 (by decide) ?_
                  exact rt_i C hQ (hP.sub (ws' := [(bx, .inr (11, [.int 0, .int (nI n), .ref b0, .ref b1, .ref b2, .int (nI nm), .ref b3, .ref b4, .ref b5, .ref b6, .ref b7, .ref b8, .ref b9, .ref b10, .ref b11, .ref b12, .int (nI nk), .ref b13, .ref b14, .ref b15, .int (nI nd), .int (nI ng), .ref b16, .ref b17, .ref b18, .ref b19, .int be, .int bl, .ref b20, .int pe, .int (nI nn), .ref b21, .ref b22, .ref b23, .ref b24, .ref b25, .ref b26, .ref b27, .ref b28, .ref b29, .int (nI tc), .ref b30, .int (nI ncc), .long mk, .int fd, .int bs, .int (nI ps), .ref b31, .ref b32, .int sn, .int kt, .int bh])), (b16, .inl (cI, 4, .inl gk)), (b17, .inl (cI, 4, .inl ga)), (b18, .inl (cI, 4, .inl gb))]) [0, 1, 2, 3] rfl) (hD.sub [0, 1, 2, 3] (by decide) rfl) hS (by have hP_ : ¬ (f_isPart n k0 a0_ b0_ = true ∧ ng < 4) := (fun z => by first | exact hgood z.1 | omega); exact ⟨by rw [if_neg hP_], by simp only [if_neg hP_]⟩) (by decide) (by decide) dX10_goal_92
                · -- not taken 83
                  have c_83 : ¬ (ng = 4) := fun z => c_83 ((nI_eq (a := ng) (b := 4) (by omega) (by omega)).mpr z)
                  refine lv_iload hx hb dX10_goal_86 (lv_at hl 0 rfl) ?_
                  refine lv_if_ne (tgt := 93) hx hb dX10_goal_88 (by decide) (fun c_88 => ?_) (fun c_88 => ?_)
                  rotate_left
                  · exact absurd c_88 (by decide)
                  refine lv_aload_n hx hb dX10_goal_93 rfl (lv_at hl 1 rfl) ?_
                  refine r_get (v := .ref b16) C hP okX10 0 22 rfl (by decide) fl_X10_59 rfl rfl dX10_goal_94 ?_
                  refine lv_aload_n hx hb dX10_goal_97 rfl (lv_at hl 1 rfl) ?_
                  refine r_get (v := .int (nI ng)) C hP okX10 0 21 rfl (by decide) fl_X10_138 rfl rfl dX10_goal_98 ?_
                  refine lv_iload_n hx hb dX10_goal_101 rfl (lv_at hl 2 rfl) ?_
                  refine r_iast (j := ng) C hP hD hS 1 rfl (by omega) (by decide) dX10_goal_102 (fun H locs hP hD hS => ?_)
                  have hP : va_P D vwCl [(bx, .inr (11, [.int 0, .int (nI n), .ref b0, .ref b1, .ref b2, .int (nI nm), .ref b3, .ref b4, .ref b5, .ref b6, .ref b7, .ref b8, .ref b9, .ref b10, .ref b11, .ref b12, .int (nI nk), .ref b13, .ref b14, .ref b15, .int (nI nd), .int (nI ng), .ref b16, .ref b17, .ref b18, .ref b19, .int be, .int bl, .ref b20, .int pe, .int (nI nn), .ref b21, .ref b22, .ref b23, .ref b24, .ref b25, .ref b26, .ref b27, .ref b28, .ref b29, .int (nI tc), .ref b30, .int (nI ncc), .long mk, .int fd, .int bs, .int (nI ps), .ref b31, .ref b32, .int sn, .int kt, .int bh])), (b16, .inl (cI, 4, .inl (upd gk ng k0))), (b17, .inl (cI, 4, .inl ga)), (b18, .inl (cI, 4, .inl gb))] H := hP
                  have hD : va_D A [(bx, .inr (11, [.int 0, .int (nI n), .ref b0, .ref b1, .ref b2, .int (nI nm), .ref b3, .ref b4, .ref b5, .ref b6, .ref b7, .ref b8, .ref b9, .ref b10, .ref b11, .ref b12, .int (nI nk), .ref b13, .ref b14, .ref b15, .int (nI nd), .int (nI ng), .ref b16, .ref b17, .ref b18, .ref b19, .int be, .int bl, .ref b20, .int pe, .int (nI nn), .ref b21, .ref b22, .ref b23, .ref b24, .ref b25, .ref b26, .ref b27, .ref b28, .ref b29, .int (nI tc), .ref b30, .int (nI ncc), .long mk, .int fd, .int bs, .int (nI ps), .ref b31, .ref b32, .int sn, .int kt, .int bh])), (b16, .inl (cI, 4, .inl (upd gk ng k0))), (b17, .inl (cI, 4, .inl ga)), (b18, .inl (cI, 4, .inl gb))] := hD
                  refine lv_aload_n hx hb dX10_goal_103 rfl (lv_at hl 1 rfl) ?_
                  refine r_get (v := .ref b17) C hP okX10 0 23 rfl (by decide) fl_X10_62 rfl rfl dX10_goal_104 ?_
                  refine lv_aload_n hx hb dX10_goal_107 rfl (lv_at hl 1 rfl) ?_
                  refine r_get (v := .int (nI ng)) C hP okX10 0 21 rfl (by decide) fl_X10_138 rfl rfl dX10_goal_108 ?_
                  refine lv_iload_n hx hb dX10_goal_111 rfl (lv_at hl 3 rfl) ?_
                  refine r_iast (j := ng) C hP hD hS 2 rfl (by omega) (by decide) dX10_goal_112 (fun H locs hP hD hS => ?_)
                  have hP : va_P D vwCl [(bx, .inr (11, [.int 0, .int (nI n), .ref b0, .ref b1, .ref b2, .int (nI nm), .ref b3, .ref b4, .ref b5, .ref b6, .ref b7, .ref b8, .ref b9, .ref b10, .ref b11, .ref b12, .int (nI nk), .ref b13, .ref b14, .ref b15, .int (nI nd), .int (nI ng), .ref b16, .ref b17, .ref b18, .ref b19, .int be, .int bl, .ref b20, .int pe, .int (nI nn), .ref b21, .ref b22, .ref b23, .ref b24, .ref b25, .ref b26, .ref b27, .ref b28, .ref b29, .int (nI tc), .ref b30, .int (nI ncc), .long mk, .int fd, .int bs, .int (nI ps), .ref b31, .ref b32, .int sn, .int kt, .int bh])), (b16, .inl (cI, 4, .inl (upd gk ng k0))), (b17, .inl (cI, 4, .inl (upd ga ng a0_))), (b18, .inl (cI, 4, .inl gb))] H := hP
                  have hD : va_D A [(bx, .inr (11, [.int 0, .int (nI n), .ref b0, .ref b1, .ref b2, .int (nI nm), .ref b3, .ref b4, .ref b5, .ref b6, .ref b7, .ref b8, .ref b9, .ref b10, .ref b11, .ref b12, .int (nI nk), .ref b13, .ref b14, .ref b15, .int (nI nd), .int (nI ng), .ref b16, .ref b17, .ref b18, .ref b19, .int be, .int bl, .ref b20, .int pe, .int (nI nn), .ref b21, .ref b22, .ref b23, .ref b24, .ref b25, .ref b26, .ref b27, .ref b28, .ref b29, .int (nI tc), .ref b30, .int (nI ncc), .long mk, .int fd, .int bs, .int (nI ps), .ref b31, .ref b32, .int sn, .int kt, .int bh])), (b16, .inl (cI, 4, .inl (upd gk ng k0))), (b17, .inl (cI, 4, .inl (upd ga ng a0_))), (b18, .inl (cI, 4, .inl gb))] := hD
                  refine lv_aload_n hx hb dX10_goal_113 rfl (lv_at hl 1 rfl) ?_
                  refine r_get (v := .ref b18) C hP okX10 0 24 rfl (by decide) fl_X10_65 rfl rfl dX10_goal_114 ?_
                  refine lv_aload_n hx hb dX10_goal_117 rfl (lv_at hl 1 rfl) ?_
                  refine r_get (v := .int (nI ng)) C hP okX10 0 21 rfl (by decide) fl_X10_138 rfl rfl dX10_goal_118 ?_
                  refine lv_iload_n hx hb dX10_goal_121 rfl (lv_at hl 4 rfl) ?_
                  refine r_iast (j := ng) C hP hD hS 3 rfl (by omega) (by decide) dX10_goal_122 (fun H locs hP hD hS => ?_)
                  have hP : va_P D vwCl [(bx, .inr (11, [.int 0, .int (nI n), .ref b0, .ref b1, .ref b2, .int (nI nm), .ref b3, .ref b4, .ref b5, .ref b6, .ref b7, .ref b8, .ref b9, .ref b10, .ref b11, .ref b12, .int (nI nk), .ref b13, .ref b14, .ref b15, .int (nI nd), .int (nI ng), .ref b16, .ref b17, .ref b18, .ref b19, .int be, .int bl, .ref b20, .int pe, .int (nI nn), .ref b21, .ref b22, .ref b23, .ref b24, .ref b25, .ref b26, .ref b27, .ref b28, .ref b29, .int (nI tc), .ref b30, .int (nI ncc), .long mk, .int fd, .int bs, .int (nI ps), .ref b31, .ref b32, .int sn, .int kt, .int bh])), (b16, .inl (cI, 4, .inl (upd gk ng k0))), (b17, .inl (cI, 4, .inl (upd ga ng a0_))), (b18, .inl (cI, 4, .inl (upd gb ng b0_)))] H := hP
                  have hD : va_D A [(bx, .inr (11, [.int 0, .int (nI n), .ref b0, .ref b1, .ref b2, .int (nI nm), .ref b3, .ref b4, .ref b5, .ref b6, .ref b7, .ref b8, .ref b9, .ref b10, .ref b11, .ref b12, .int (nI nk), .ref b13, .ref b14, .ref b15, .int (nI nd), .int (nI ng), .ref b16, .ref b17, .ref b18, .ref b19, .int be, .int bl, .ref b20, .int pe, .int (nI nn), .ref b21, .ref b22, .ref b23, .ref b24, .ref b25, .ref b26, .ref b27, .ref b28, .ref b29, .int (nI tc), .ref b30, .int (nI ncc), .long mk, .int fd, .int bs, .int (nI ps), .ref b31, .ref b32, .int sn, .int kt, .int bh])), (b16, .inl (cI, 4, .inl (upd gk ng k0))), (b17, .inl (cI, 4, .inl (upd ga ng a0_))), (b18, .inl (cI, 4, .inl (upd gb ng b0_)))] := hD
                  refine lv_aload_n hx hb dX10_goal_123 rfl (lv_at hl 1 rfl) ?_
                  refine lv_dup hx hb dX10_goal_124 rfl ?_
                  refine r_get (v := .int (nI ng)) C hP okX10 0 21 rfl (by decide) fl_X10_138 rfl rfl dX10_goal_125 ?_
                  refine lv_iconst (v := 1) hx hb dX10_goal_128 (by decide) ?_
                  refine lv_iadd hx hb dX10_goal_129 ?_
                  refine r_top (x' := nI (ng + 1)) (nI_add ng 1) ?_
                  refine r_put (v := .int (nI (ng + 1))) C hP hD hS okX10 0 21 rfl (by decide) fl_X10_138 rfl rfl rfl rfl (Nat.le_of_ble_eq_true rfl) dX10_goal_130 (fun H locs hP hD hS => ?_)
                  have hP : va_P D vwCl [(bx, .inr (11, [.int 0, .int (nI n), .ref b0, .ref b1, .ref b2, .int (nI nm), .ref b3, .ref b4, .ref b5, .ref b6, .ref b7, .ref b8, .ref b9, .ref b10, .ref b11, .ref b12, .int (nI nk), .ref b13, .ref b14, .ref b15, .int (nI nd), .int (nI (ng + 1)), .ref b16, .ref b17, .ref b18, .ref b19, .int be, .int bl, .ref b20, .int pe, .int (nI nn), .ref b21, .ref b22, .ref b23, .ref b24, .ref b25, .ref b26, .ref b27, .ref b28, .ref b29, .int (nI tc), .ref b30, .int (nI ncc), .long mk, .int fd, .int bs, .int (nI ps), .ref b31, .ref b32, .int sn, .int kt, .int bh])), (b16, .inl (cI, 4, .inl (upd gk ng k0))), (b17, .inl (cI, 4, .inl (upd ga ng a0_))), (b18, .inl (cI, 4, .inl (upd gb ng b0_)))] H := hP
                  have hD : va_D A [(bx, .inr (11, [.int 0, .int (nI n), .ref b0, .ref b1, .ref b2, .int (nI nm), .ref b3, .ref b4, .ref b5, .ref b6, .ref b7, .ref b8, .ref b9, .ref b10, .ref b11, .ref b12, .int (nI nk), .ref b13, .ref b14, .ref b15, .int (nI nd), .int (nI (ng + 1)), .ref b16, .ref b17, .ref b18, .ref b19, .int be, .int bl, .ref b20, .int pe, .int (nI nn), .ref b21, .ref b22, .ref b23, .ref b24, .ref b25, .ref b26, .ref b27, .ref b28, .ref b29, .int (nI tc), .ref b30, .int (nI ncc), .long mk, .int fd, .int bs, .int (nI ps), .ref b31, .ref b32, .int sn, .int kt, .int bh])), (b16, .inl (cI, 4, .inl (upd gk ng k0))), (b17, .inl (cI, 4, .inl (upd ga ng a0_))), (b18, .inl (cI, 4, .inl (upd gb ng b0_)))] := hD
                  refine lv_aload_n hx hb dX10_goal_133 rfl (lv_at hl 1 rfl) ?_
                  refine r_get (v := .int (nI (ng + 1))) C hP okX10 0 21 rfl (by decide) fl_X10_138 rfl rfl dX10_goal_134 ?_
                  exact rt_i C hQ (hP.sub (ws' := [(bx, .inr (11, [.int 0, .int (nI n), .ref b0, .ref b1, .ref b2, .int (nI nm), .ref b3, .ref b4, .ref b5, .ref b6, .ref b7, .ref b8, .ref b9, .ref b10, .ref b11, .ref b12, .int (nI nk), .ref b13, .ref b14, .ref b15, .int (nI nd), .int (nI (ng + 1)), .ref b16, .ref b17, .ref b18, .ref b19, .int be, .int bl, .ref b20, .int pe, .int (nI nn), .ref b21, .ref b22, .ref b23, .ref b24, .ref b25, .ref b26, .ref b27, .ref b28, .ref b29, .int (nI tc), .ref b30, .int (nI ncc), .long mk, .int fd, .int bs, .int (nI ps), .ref b31, .ref b32, .int sn, .int kt, .int bh])), (b16, .inl (cI, 4, .inl (upd gk ng k0))), (b17, .inl (cI, 4, .inl (upd ga ng a0_))), (b18, .inl (cI, 4, .inl (upd gb ng b0_)))]) [0, 1, 2, 3] rfl) (hD.sub [0, 1, 2, 3] (by decide) rfl) hS (by have hP_ : f_isPart n k0 a0_ b0_ = true ∧ ng < 4 := ⟨hgood, by omega⟩; exact ⟨by rw [if_pos hP_], by simp only [if_pos hP_]⟩) (by decide) (by decide) dX10_goal_137
        · -- not taken 46
          refine lv_iload_n hx hb dX10_goal_49 rfl (lv_at hl 2 rfl) ?_
          refine lv_bipush (v := 32) hx hb dX10_goal_50 (by decide) ?_
          refine lv_icmp_lt (tgt := 71) hx hb dX10_goal_52 (by decide) (fun c_52 => ?_) (fun c_52 => ?_)
          · -- taken 52
            refine lv_iconst (v := 1) hx hb dX10_goal_71 (by decide) ?_
            refine lv_goto (tgt := 76) hx hb dX10_goal_72 (by decide) ?_
            have hgood : f_isPart n k0 a0_ b0_ = true := (by simp only [f_isPart]; rw [if_neg c_6, if_neg c_37, if_pos c_42]; exact rg_032 c_46 c_52)
            refine lv_istore (lv' := [(4, .int 1), (0, .ref bx), (1, .int k0), (2, .int a0_), (3, .int b0_)]) hx hb dX10_goal_76 hl (by decide) rfl (fun ls hl => ?_)
            refine lv_aload_n hx hb dX10_goal_78 rfl (lv_at hl 1 rfl) ?_
            refine r_get (v := .int (nI ng)) C hP okX10 0 21 rfl (by decide) fl_X10_138 rfl rfl dX10_goal_79 ?_
            refine lv_iconst (v := 4) hx hb dX10_goal_82 (by decide) ?_
            refine lv_icmp_eq (tgt := 91) hx hb dX10_goal_83 (by decide) (fun c_83 => ?_) (fun c_83 => ?_)
            · -- taken 83
              have c_83 : ng = 4 := (nI_eq (a := ng) (b := 4) (by omega) (by omega)).mp c_83
              refine lv_iconst (v := (-1)) hx hb dX10_goal_91 (by decide) ?_
              exact rt_i C hQ (hP.sub (ws' := [(bx, .inr (11, [.int 0, .int (nI n), .ref b0, .ref b1, .ref b2, .int (nI nm), .ref b3, .ref b4, .ref b5, .ref b6, .ref b7, .ref b8, .ref b9, .ref b10, .ref b11, .ref b12, .int (nI nk), .ref b13, .ref b14, .ref b15, .int (nI nd), .int (nI ng), .ref b16, .ref b17, .ref b18, .ref b19, .int be, .int bl, .ref b20, .int pe, .int (nI nn), .ref b21, .ref b22, .ref b23, .ref b24, .ref b25, .ref b26, .ref b27, .ref b28, .ref b29, .int (nI tc), .ref b30, .int (nI ncc), .long mk, .int fd, .int bs, .int (nI ps), .ref b31, .ref b32, .int sn, .int kt, .int bh])), (b16, .inl (cI, 4, .inl gk)), (b17, .inl (cI, 4, .inl ga)), (b18, .inl (cI, 4, .inl gb))]) [0, 1, 2, 3] rfl) (hD.sub [0, 1, 2, 3] (by decide) rfl) hS (by have hP_ : ¬ (f_isPart n k0 a0_ b0_ = true ∧ ng < 4) := (fun z => by first | exact hgood z.1 | omega); exact ⟨by rw [if_neg hP_], by simp only [if_neg hP_]⟩) (by decide) (by decide) dX10_goal_92
            · -- not taken 83
              have c_83 : ¬ (ng = 4) := fun z => c_83 ((nI_eq (a := ng) (b := 4) (by omega) (by omega)).mpr z)
              refine lv_iload hx hb dX10_goal_86 (lv_at hl 0 rfl) ?_
              refine lv_if_ne (tgt := 93) hx hb dX10_goal_88 (by decide) (fun c_88 => ?_) (fun c_88 => ?_)
              rotate_left
              · exact absurd c_88 (by decide)
              refine lv_aload_n hx hb dX10_goal_93 rfl (lv_at hl 1 rfl) ?_
              refine r_get (v := .ref b16) C hP okX10 0 22 rfl (by decide) fl_X10_59 rfl rfl dX10_goal_94 ?_
              refine lv_aload_n hx hb dX10_goal_97 rfl (lv_at hl 1 rfl) ?_
              refine r_get (v := .int (nI ng)) C hP okX10 0 21 rfl (by decide) fl_X10_138 rfl rfl dX10_goal_98 ?_
              refine lv_iload_n hx hb dX10_goal_101 rfl (lv_at hl 2 rfl) ?_
              refine r_iast (j := ng) C hP hD hS 1 rfl (by omega) (by decide) dX10_goal_102 (fun H locs hP hD hS => ?_)
              have hP : va_P D vwCl [(bx, .inr (11, [.int 0, .int (nI n), .ref b0, .ref b1, .ref b2, .int (nI nm), .ref b3, .ref b4, .ref b5, .ref b6, .ref b7, .ref b8, .ref b9, .ref b10, .ref b11, .ref b12, .int (nI nk), .ref b13, .ref b14, .ref b15, .int (nI nd), .int (nI ng), .ref b16, .ref b17, .ref b18, .ref b19, .int be, .int bl, .ref b20, .int pe, .int (nI nn), .ref b21, .ref b22, .ref b23, .ref b24, .ref b25, .ref b26, .ref b27, .ref b28, .ref b29, .int (nI tc), .ref b30, .int (nI ncc), .long mk, .int fd, .int bs, .int (nI ps), .ref b31, .ref b32, .int sn, .int kt, .int bh])), (b16, .inl (cI, 4, .inl (upd gk ng k0))), (b17, .inl (cI, 4, .inl ga)), (b18, .inl (cI, 4, .inl gb))] H := hP
              have hD : va_D A [(bx, .inr (11, [.int 0, .int (nI n), .ref b0, .ref b1, .ref b2, .int (nI nm), .ref b3, .ref b4, .ref b5, .ref b6, .ref b7, .ref b8, .ref b9, .ref b10, .ref b11, .ref b12, .int (nI nk), .ref b13, .ref b14, .ref b15, .int (nI nd), .int (nI ng), .ref b16, .ref b17, .ref b18, .ref b19, .int be, .int bl, .ref b20, .int pe, .int (nI nn), .ref b21, .ref b22, .ref b23, .ref b24, .ref b25, .ref b26, .ref b27, .ref b28, .ref b29, .int (nI tc), .ref b30, .int (nI ncc), .long mk, .int fd, .int bs, .int (nI ps), .ref b31, .ref b32, .int sn, .int kt, .int bh])), (b16, .inl (cI, 4, .inl (upd gk ng k0))), (b17, .inl (cI, 4, .inl ga)), (b18, .inl (cI, 4, .inl gb))] := hD
              refine lv_aload_n hx hb dX10_goal_103 rfl (lv_at hl 1 rfl) ?_
              refine r_get (v := .ref b17) C hP okX10 0 23 rfl (by decide) fl_X10_62 rfl rfl dX10_goal_104 ?_
              refine lv_aload_n hx hb dX10_goal_107 rfl (lv_at hl 1 rfl) ?_
              refine r_get (v := .int (nI ng)) C hP okX10 0 21 rfl (by decide) fl_X10_138 rfl rfl dX10_goal_108 ?_
              refine lv_iload_n hx hb dX10_goal_111 rfl (lv_at hl 3 rfl) ?_
              refine r_iast (j := ng) C hP hD hS 2 rfl (by omega) (by decide) dX10_goal_112 (fun H locs hP hD hS => ?_)
              have hP : va_P D vwCl [(bx, .inr (11, [.int 0, .int (nI n), .ref b0, .ref b1, .ref b2, .int (nI nm), .ref b3, .ref b4, .ref b5, .ref b6, .ref b7, .ref b8, .ref b9, .ref b10, .ref b11, .ref b12, .int (nI nk), .ref b13, .ref b14, .ref b15, .int (nI nd), .int (nI ng), .ref b16, .ref b17, .ref b18, .ref b19, .int be, .int bl, .ref b20, .int pe, .int (nI nn), .ref b21, .ref b22, .ref b23, .ref b24, .ref b25, .ref b26, .ref b27, .ref b28, .ref b29, .int (nI tc), .ref b30, .int (nI ncc), .long mk, .int fd, .int bs, .int (nI ps), .ref b31, .ref b32, .int sn, .int kt, .int bh])), (b16, .inl (cI, 4, .inl (upd gk ng k0))), (b17, .inl (cI, 4, .inl (upd ga ng a0_))), (b18, .inl (cI, 4, .inl gb))] H := hP
              have hD : va_D A [(bx, .inr (11, [.int 0, .int (nI n), .ref b0, .ref b1, .ref b2, .int (nI nm), .ref b3, .ref b4, .ref b5, .ref b6, .ref b7, .ref b8, .ref b9, .ref b10, .ref b11, .ref b12, .int (nI nk), .ref b13, .ref b14, .ref b15, .int (nI nd), .int (nI ng), .ref b16, .ref b17, .ref b18, .ref b19, .int be, .int bl, .ref b20, .int pe, .int (nI nn), .ref b21, .ref b22, .ref b23, .ref b24, .ref b25, .ref b26, .ref b27, .ref b28, .ref b29, .int (nI tc), .ref b30, .int (nI ncc), .long mk, .int fd, .int bs, .int (nI ps), .ref b31, .ref b32, .int sn, .int kt, .int bh])), (b16, .inl (cI, 4, .inl (upd gk ng k0))), (b17, .inl (cI, 4, .inl (upd ga ng a0_))), (b18, .inl (cI, 4, .inl gb))] := hD
              refine lv_aload_n hx hb dX10_goal_113 rfl (lv_at hl 1 rfl) ?_
              refine r_get (v := .ref b18) C hP okX10 0 24 rfl (by decide) fl_X10_65 rfl rfl dX10_goal_114 ?_
              refine lv_aload_n hx hb dX10_goal_117 rfl (lv_at hl 1 rfl) ?_
              refine r_get (v := .int (nI ng)) C hP okX10 0 21 rfl (by decide) fl_X10_138 rfl rfl dX10_goal_118 ?_
              refine lv_iload_n hx hb dX10_goal_121 rfl (lv_at hl 4 rfl) ?_
              refine r_iast (j := ng) C hP hD hS 3 rfl (by omega) (by decide) dX10_goal_122 (fun H locs hP hD hS => ?_)
              have hP : va_P D vwCl [(bx, .inr (11, [.int 0, .int (nI n), .ref b0, .ref b1, .ref b2, .int (nI nm), .ref b3, .ref b4, .ref b5, .ref b6, .ref b7, .ref b8, .ref b9, .ref b10, .ref b11, .ref b12, .int (nI nk), .ref b13, .ref b14, .ref b15, .int (nI nd), .int (nI ng), .ref b16, .ref b17, .ref b18, .ref b19, .int be, .int bl, .ref b20, .int pe, .int (nI nn), .ref b21, .ref b22, .ref b23, .ref b24, .ref b25, .ref b26, .ref b27, .ref b28, .ref b29, .int (nI tc), .ref b30, .int (nI ncc), .long mk, .int fd, .int bs, .int (nI ps), .ref b31, .ref b32, .int sn, .int kt, .int bh])), (b16, .inl (cI, 4, .inl (upd gk ng k0))), (b17, .inl (cI, 4, .inl (upd ga ng a0_))), (b18, .inl (cI, 4, .inl (upd gb ng b0_)))] H := hP
              have hD : va_D A [(bx, .inr (11, [.int 0, .int (nI n), .ref b0, .ref b1, .ref b2, .int (nI nm), .ref b3, .ref b4, .ref b5, .ref b6, .ref b7, .ref b8, .ref b9, .ref b10, .ref b11, .ref b12, .int (nI nk), .ref b13, .ref b14, .ref b15, .int (nI nd), .int (nI ng), .ref b16, .ref b17, .ref b18, .ref b19, .int be, .int bl, .ref b20, .int pe, .int (nI nn), .ref b21, .ref b22, .ref b23, .ref b24, .ref b25, .ref b26, .ref b27, .ref b28, .ref b29, .int (nI tc), .ref b30, .int (nI ncc), .long mk, .int fd, .int bs, .int (nI ps), .ref b31, .ref b32, .int sn, .int kt, .int bh])), (b16, .inl (cI, 4, .inl (upd gk ng k0))), (b17, .inl (cI, 4, .inl (upd ga ng a0_))), (b18, .inl (cI, 4, .inl (upd gb ng b0_)))] := hD
              refine lv_aload_n hx hb dX10_goal_123 rfl (lv_at hl 1 rfl) ?_
              refine lv_dup hx hb dX10_goal_124 rfl ?_
              refine r_get (v := .int (nI ng)) C hP okX10 0 21 rfl (by decide) fl_X10_138 rfl rfl dX10_goal_125 ?_
              refine lv_iconst (v := 1) hx hb dX10_goal_128 (by decide) ?_
              refine lv_iadd hx hb dX10_goal_129 ?_
              refine r_top (x' := nI (ng + 1)) (nI_add ng 1) ?_
              refine r_put (v := .int (nI (ng + 1))) C hP hD hS okX10 0 21 rfl (by decide) fl_X10_138 rfl rfl rfl rfl (Nat.le_of_ble_eq_true rfl) dX10_goal_130 (fun H locs hP hD hS => ?_)
              have hP : va_P D vwCl [(bx, .inr (11, [.int 0, .int (nI n), .ref b0, .ref b1, .ref b2, .int (nI nm), .ref b3, .ref b4, .ref b5, .ref b6, .ref b7, .ref b8, .ref b9, .ref b10, .ref b11, .ref b12, .int (nI nk), .ref b13, .ref b14, .ref b15, .int (nI nd), .int (nI (ng + 1)), .ref b16, .ref b17, .ref b18, .ref b19, .int be, .int bl, .ref b20, .int pe, .int (nI nn), .ref b21, .ref b22, .ref b23, .ref b24, .ref b25, .ref b26, .ref b27, .ref b28, .ref b29, .int (nI tc), .ref b30, .int (nI ncc), .long mk, .int fd, .int bs, .int (nI ps), .ref b31, .ref b32, .int sn, .int kt, .int bh])), (b16, .inl (cI, 4, .inl (upd gk ng k0))), (b17, .inl (cI, 4, .inl (upd ga ng a0_))), (b18, .inl (cI, 4, .inl (upd gb ng b0_)))] H := hP
              have hD : va_D A [(bx, .inr (11, [.int 0, .int (nI n), .ref b0, .ref b1, .ref b2, .int (nI nm), .ref b3, .ref b4, .ref b5, .ref b6, .ref b7, .ref b8, .ref b9, .ref b10, .ref b11, .ref b12, .int (nI nk), .ref b13, .ref b14, .ref b15, .int (nI nd), .int (nI (ng + 1)), .ref b16, .ref b17, .ref b18, .ref b19, .int be, .int bl, .ref b20, .int pe, .int (nI nn), .ref b21, .ref b22, .ref b23, .ref b24, .ref b25, .ref b26, .ref b27, .ref b28, .ref b29, .int (nI tc), .ref b30, .int (nI ncc), .long mk, .int fd, .int bs, .int (nI ps), .ref b31, .ref b32, .int sn, .int kt, .int bh])), (b16, .inl (cI, 4, .inl (upd gk ng k0))), (b17, .inl (cI, 4, .inl (upd ga ng a0_))), (b18, .inl (cI, 4, .inl (upd gb ng b0_)))] := hD
              refine lv_aload_n hx hb dX10_goal_133 rfl (lv_at hl 1 rfl) ?_
              refine r_get (v := .int (nI (ng + 1))) C hP okX10 0 21 rfl (by decide) fl_X10_138 rfl rfl dX10_goal_134 ?_
              exact rt_i C hQ (hP.sub (ws' := [(bx, .inr (11, [.int 0, .int (nI n), .ref b0, .ref b1, .ref b2, .int (nI nm), .ref b3, .ref b4, .ref b5, .ref b6, .ref b7, .ref b8, .ref b9, .ref b10, .ref b11, .ref b12, .int (nI nk), .ref b13, .ref b14, .ref b15, .int (nI nd), .int (nI (ng + 1)), .ref b16, .ref b17, .ref b18, .ref b19, .int be, .int bl, .ref b20, .int pe, .int (nI nn), .ref b21, .ref b22, .ref b23, .ref b24, .ref b25, .ref b26, .ref b27, .ref b28, .ref b29, .int (nI tc), .ref b30, .int (nI ncc), .long mk, .int fd, .int bs, .int (nI ps), .ref b31, .ref b32, .int sn, .int kt, .int bh])), (b16, .inl (cI, 4, .inl (upd gk ng k0))), (b17, .inl (cI, 4, .inl (upd ga ng a0_))), (b18, .inl (cI, 4, .inl (upd gb ng b0_)))]) [0, 1, 2, 3] rfl) (hD.sub [0, 1, 2, 3] (by decide) rfl) hS (by have hP_ : f_isPart n k0 a0_ b0_ = true ∧ ng < 4 := ⟨hgood, by omega⟩; exact ⟨by rw [if_pos hP_], by simp only [if_pos hP_]⟩) (by decide) (by decide) dX10_goal_137
          · -- not taken 52
            refine lv_iload_n hx hb dX10_goal_55 rfl (lv_at hl 1 rfl) ?_
            refine lv_iconst (v := 3) hx hb dX10_goal_56 (by decide) ?_
            refine lv_icmp_ne (tgt := 75) hx hb dX10_goal_57 (by decide) (fun c_57 => ?_) (fun c_57 => ?_)
            · -- taken 57
              refine lv_iconst (v := 0) hx hb dX10_goal_75 (by decide) ?_
              have hgood : ¬ f_isPart n k0 a0_ b0_ = true := (by simp only [f_isPart]; rw [if_neg c_6, if_neg c_37, if_pos c_42]; first | exact rg_n1 c_46 | exact rg_n32 c_52)
              refine lv_istore (lv' := [(4, .int 0), (0, .ref bx), (1, .int k0), (2, .int a0_), (3, .int b0_)]) hx hb dX10_goal_76 hl (by decide) rfl (fun ls hl => ?_)
              refine lv_aload_n hx hb dX10_goal_78 rfl (lv_at hl 1 rfl) ?_
              refine r_get (v := .int (nI ng)) C hP okX10 0 21 rfl (by decide) fl_X10_138 rfl rfl dX10_goal_79 ?_
              refine lv_iconst (v := 4) hx hb dX10_goal_82 (by decide) ?_
              refine lv_icmp_eq (tgt := 91) hx hb dX10_goal_83 (by decide) (fun c_83 => ?_) (fun c_83 => ?_)
              · -- taken 83
                have c_83 : ng = 4 := (nI_eq (a := ng) (b := 4) (by omega) (by omega)).mp c_83
                refine lv_iconst (v := (-1)) hx hb dX10_goal_91 (by decide) ?_
                exact rt_i C hQ (hP.sub (ws' := [(bx, .inr (11, [.int 0, .int (nI n), .ref b0, .ref b1, .ref b2, .int (nI nm), .ref b3, .ref b4, .ref b5, .ref b6, .ref b7, .ref b8, .ref b9, .ref b10, .ref b11, .ref b12, .int (nI nk), .ref b13, .ref b14, .ref b15, .int (nI nd), .int (nI ng), .ref b16, .ref b17, .ref b18, .ref b19, .int be, .int bl, .ref b20, .int pe, .int (nI nn), .ref b21, .ref b22, .ref b23, .ref b24, .ref b25, .ref b26, .ref b27, .ref b28, .ref b29, .int (nI tc), .ref b30, .int (nI ncc), .long mk, .int fd, .int bs, .int (nI ps), .ref b31, .ref b32, .int sn, .int kt, .int bh])), (b16, .inl (cI, 4, .inl gk)), (b17, .inl (cI, 4, .inl ga)), (b18, .inl (cI, 4, .inl gb))]) [0, 1, 2, 3] rfl) (hD.sub [0, 1, 2, 3] (by decide) rfl) hS (by have hP_ : ¬ (f_isPart n k0 a0_ b0_ = true ∧ ng < 4) := (fun z => by first | exact hgood z.1 | omega); exact ⟨by rw [if_neg hP_], by simp only [if_neg hP_]⟩) (by decide) (by decide) dX10_goal_92
              · -- not taken 83
                have c_83 : ¬ (ng = 4) := fun z => c_83 ((nI_eq (a := ng) (b := 4) (by omega) (by omega)).mpr z)
                refine lv_iload hx hb dX10_goal_86 (lv_at hl 0 rfl) ?_
                refine lv_if_ne (tgt := 93) hx hb dX10_goal_88 (by decide) (fun c_88 => ?_) (fun c_88 => ?_)
                · exact absurd c_88 (by decide)
                refine lv_iconst (v := (-1)) hx hb dX10_goal_91 (by decide) ?_
                exact rt_i C hQ (hP.sub (ws' := [(bx, .inr (11, [.int 0, .int (nI n), .ref b0, .ref b1, .ref b2, .int (nI nm), .ref b3, .ref b4, .ref b5, .ref b6, .ref b7, .ref b8, .ref b9, .ref b10, .ref b11, .ref b12, .int (nI nk), .ref b13, .ref b14, .ref b15, .int (nI nd), .int (nI ng), .ref b16, .ref b17, .ref b18, .ref b19, .int be, .int bl, .ref b20, .int pe, .int (nI nn), .ref b21, .ref b22, .ref b23, .ref b24, .ref b25, .ref b26, .ref b27, .ref b28, .ref b29, .int (nI tc), .ref b30, .int (nI ncc), .long mk, .int fd, .int bs, .int (nI ps), .ref b31, .ref b32, .int sn, .int kt, .int bh])), (b16, .inl (cI, 4, .inl gk)), (b17, .inl (cI, 4, .inl ga)), (b18, .inl (cI, 4, .inl gb))]) [0, 1, 2, 3] rfl) (hD.sub [0, 1, 2, 3] (by decide) rfl) hS (by have hP_ : ¬ (f_isPart n k0 a0_ b0_ = true ∧ ng < 4) := (fun z => by first | exact hgood z.1 | omega); exact ⟨by rw [if_neg hP_], by simp only [if_neg hP_]⟩) (by decide) (by decide) dX10_goal_92
            · -- not taken 57
              refine lv_iload_n hx hb dX10_goal_60 rfl (lv_at hl 2 rfl) ?_
              refine lv_iconst (v := 1) hx hb dX10_goal_61 (by decide) ?_
              refine lv_icmp_lt (tgt := 75) hx hb dX10_goal_62 (by decide) (fun c_62 => ?_) (fun c_62 => ?_)
              · -- taken 62
                refine lv_iconst (v := 0) hx hb dX10_goal_75 (by decide) ?_
                have hgood : ¬ f_isPart n k0 a0_ b0_ = true := (absurd (c_42.symm.trans c_57) (by decide))
                refine lv_istore (lv' := [(4, .int 0), (0, .ref bx), (1, .int k0), (2, .int a0_), (3, .int b0_)]) hx hb dX10_goal_76 hl (by decide) rfl (fun ls hl => ?_)
                refine lv_aload_n hx hb dX10_goal_78 rfl (lv_at hl 1 rfl) ?_
                refine r_get (v := .int (nI ng)) C hP okX10 0 21 rfl (by decide) fl_X10_138 rfl rfl dX10_goal_79 ?_
                refine lv_iconst (v := 4) hx hb dX10_goal_82 (by decide) ?_
                refine lv_icmp_eq (tgt := 91) hx hb dX10_goal_83 (by decide) (fun c_83 => ?_) (fun c_83 => ?_)
                · -- taken 83
                  have c_83 : ng = 4 := (nI_eq (a := ng) (b := 4) (by omega) (by omega)).mp c_83
                  refine lv_iconst (v := (-1)) hx hb dX10_goal_91 (by decide) ?_
                  exact rt_i C hQ (hP.sub (ws' := [(bx, .inr (11, [.int 0, .int (nI n), .ref b0, .ref b1, .ref b2, .int (nI nm), .ref b3, .ref b4, .ref b5, .ref b6, .ref b7, .ref b8, .ref b9, .ref b10, .ref b11, .ref b12, .int (nI nk), .ref b13, .ref b14, .ref b15, .int (nI nd), .int (nI ng), .ref b16, .ref b17, .ref b18, .ref b19, .int be, .int bl, .ref b20, .int pe, .int (nI nn), .ref b21, .ref b22, .ref b23, .ref b24, .ref b25, .ref b26, .ref b27, .ref b28, .ref b29, .int (nI tc), .ref b30, .int (nI ncc), .long mk, .int fd, .int bs, .int (nI ps), .ref b31, .ref b32, .int sn, .int kt, .int bh])), (b16, .inl (cI, 4, .inl gk)), (b17, .inl (cI, 4, .inl ga)), (b18, .inl (cI, 4, .inl gb))]) [0, 1, 2, 3] rfl) (hD.sub [0, 1, 2, 3] (by decide) rfl) hS (by have hP_ : ¬ (f_isPart n k0 a0_ b0_ = true ∧ ng < 4) := (fun z => by first | exact hgood z.1 | omega); exact ⟨by rw [if_neg hP_], by simp only [if_neg hP_]⟩) (by decide) (by decide) dX10_goal_92
                · -- not taken 83
                  have c_83 : ¬ (ng = 4) := fun z => c_83 ((nI_eq (a := ng) (b := 4) (by omega) (by omega)).mpr z)
                  refine lv_iload hx hb dX10_goal_86 (lv_at hl 0 rfl) ?_
                  refine lv_if_ne (tgt := 93) hx hb dX10_goal_88 (by decide) (fun c_88 => ?_) (fun c_88 => ?_)
                  · exact absurd c_88 (by decide)
                  refine lv_iconst (v := (-1)) hx hb dX10_goal_91 (by decide) ?_
                  exact rt_i C hQ (hP.sub (ws' := [(bx, .inr (11, [.int 0, .int (nI n), .ref b0, .ref b1, .ref b2, .int (nI nm), .ref b3, .ref b4, .ref b5, .ref b6, .ref b7, .ref b8, .ref b9, .ref b10, .ref b11, .ref b12, .int (nI nk), .ref b13, .ref b14, .ref b15, .int (nI nd), .int (nI ng), .ref b16, .ref b17, .ref b18, .ref b19, .int be, .int bl, .ref b20, .int pe, .int (nI nn), .ref b21, .ref b22, .ref b23, .ref b24, .ref b25, .ref b26, .ref b27, .ref b28, .ref b29, .int (nI tc), .ref b30, .int (nI ncc), .long mk, .int fd, .int bs, .int (nI ps), .ref b31, .ref b32, .int sn, .int kt, .int bh])), (b16, .inl (cI, 4, .inl gk)), (b17, .inl (cI, 4, .inl ga)), (b18, .inl (cI, 4, .inl gb))]) [0, 1, 2, 3] rfl) (hD.sub [0, 1, 2, 3] (by decide) rfl) hS (by have hP_ : ¬ (f_isPart n k0 a0_ b0_ = true ∧ ng < 4) := (fun z => by first | exact hgood z.1 | omega); exact ⟨by rw [if_neg hP_], by simp only [if_neg hP_]⟩) (by decide) (by decide) dX10_goal_92
              · -- not taken 62
                refine lv_iload_n hx hb dX10_goal_65 rfl (lv_at hl 2 rfl) ?_
                refine lv_bipush (v := 9) hx hb dX10_goal_66 (by decide) ?_
                refine lv_icmp_gt (tgt := 75) hx hb dX10_goal_68 (by decide) (fun c_68 => ?_) (fun c_68 => ?_)
                · -- taken 68
                  refine lv_iconst (v := 0) hx hb dX10_goal_75 (by decide) ?_
                  have hgood : ¬ f_isPart n k0 a0_ b0_ = true := (absurd (c_42.symm.trans c_57) (by decide))
                  refine lv_istore (lv' := [(4, .int 0), (0, .ref bx), (1, .int k0), (2, .int a0_), (3, .int b0_)]) hx hb dX10_goal_76 hl (by decide) rfl (fun ls hl => ?_)
                  refine lv_aload_n hx hb dX10_goal_78 rfl (lv_at hl 1 rfl) ?_
                  refine r_get (v := .int (nI ng)) C hP okX10 0 21 rfl (by decide) fl_X10_138 rfl rfl dX10_goal_79 ?_
                  refine lv_iconst (v := 4) hx hb dX10_goal_82 (by decide) ?_
                  refine lv_icmp_eq (tgt := 91) hx hb dX10_goal_83 (by decide) (fun c_83 => ?_) (fun c_83 => ?_)
                  · -- taken 83
                    have c_83 : ng = 4 := (nI_eq (a := ng) (b := 4) (by omega) (by omega)).mp c_83
                    refine lv_iconst (v := (-1)) hx hb dX10_goal_91 (by decide) ?_
                    exact rt_i C hQ (hP.sub (ws' := [(bx, .inr (11, [.int 0, .int (nI n), .ref b0, .ref b1, .ref b2, .int (nI nm), .ref b3, .ref b4, .ref b5, .ref b6, .ref b7, .ref b8, .ref b9, .ref b10, .ref b11, .ref b12, .int (nI nk), .ref b13, .ref b14, .ref b15, .int (nI nd), .int (nI ng), .ref b16, .ref b17, .ref b18, .ref b19, .int be, .int bl, .ref b20, .int pe, .int (nI nn), .ref b21, .ref b22, .ref b23, .ref b24, .ref b25, .ref b26, .ref b27, .ref b28, .ref b29, .int (nI tc), .ref b30, .int (nI ncc), .long mk, .int fd, .int bs, .int (nI ps), .ref b31, .ref b32, .int sn, .int kt, .int bh])), (b16, .inl (cI, 4, .inl gk)), (b17, .inl (cI, 4, .inl ga)), (b18, .inl (cI, 4, .inl gb))]) [0, 1, 2, 3] rfl) (hD.sub [0, 1, 2, 3] (by decide) rfl) hS (by have hP_ : ¬ (f_isPart n k0 a0_ b0_ = true ∧ ng < 4) := (fun z => by first | exact hgood z.1 | omega); exact ⟨by rw [if_neg hP_], by simp only [if_neg hP_]⟩) (by decide) (by decide) dX10_goal_92
                  · -- not taken 83
                    have c_83 : ¬ (ng = 4) := fun z => c_83 ((nI_eq (a := ng) (b := 4) (by omega) (by omega)).mpr z)
                    refine lv_iload hx hb dX10_goal_86 (lv_at hl 0 rfl) ?_
                    refine lv_if_ne (tgt := 93) hx hb dX10_goal_88 (by decide) (fun c_88 => ?_) (fun c_88 => ?_)
                    · exact absurd c_88 (by decide)
                    refine lv_iconst (v := (-1)) hx hb dX10_goal_91 (by decide) ?_
                    exact rt_i C hQ (hP.sub (ws' := [(bx, .inr (11, [.int 0, .int (nI n), .ref b0, .ref b1, .ref b2, .int (nI nm), .ref b3, .ref b4, .ref b5, .ref b6, .ref b7, .ref b8, .ref b9, .ref b10, .ref b11, .ref b12, .int (nI nk), .ref b13, .ref b14, .ref b15, .int (nI nd), .int (nI ng), .ref b16, .ref b17, .ref b18, .ref b19, .int be, .int bl, .ref b20, .int pe, .int (nI nn), .ref b21, .ref b22, .ref b23, .ref b24, .ref b25, .ref b26, .ref b27, .ref b28, .ref b29, .int (nI tc), .ref b30, .int (nI ncc), .long mk, .int fd, .int bs, .int (nI ps), .ref b31, .ref b32, .int sn, .int kt, .int bh])), (b16, .inl (cI, 4, .inl gk)), (b17, .inl (cI, 4, .inl ga)), (b18, .inl (cI, 4, .inl gb))]) [0, 1, 2, 3] rfl) (hD.sub [0, 1, 2, 3] (by decide) rfl) hS (by have hP_ : ¬ (f_isPart n k0 a0_ b0_ = true ∧ ng < 4) := (fun z => by first | exact hgood z.1 | omega); exact ⟨by rw [if_neg hP_], by simp only [if_neg hP_]⟩) (by decide) (by decide) dX10_goal_92
                · -- not taken 68
                  refine lv_iconst (v := 1) hx hb dX10_goal_71 (by decide) ?_
                  refine lv_goto (tgt := 76) hx hb dX10_goal_72 (by decide) ?_
                  have hgood : f_isPart n k0 a0_ b0_ = true := (absurd (c_42.symm.trans c_57) (by decide))
                  refine lv_istore (lv' := [(4, .int 1), (0, .ref bx), (1, .int k0), (2, .int a0_), (3, .int b0_)]) hx hb dX10_goal_76 hl (by decide) rfl (fun ls hl => ?_)
                  refine lv_aload_n hx hb dX10_goal_78 rfl (lv_at hl 1 rfl) ?_
                  refine r_get (v := .int (nI ng)) C hP okX10 0 21 rfl (by decide) fl_X10_138 rfl rfl dX10_goal_79 ?_
                  refine lv_iconst (v := 4) hx hb dX10_goal_82 (by decide) ?_
                  refine lv_icmp_eq (tgt := 91) hx hb dX10_goal_83 (by decide) (fun c_83 => ?_) (fun c_83 => ?_)
                  · -- taken 83
                    have c_83 : ng = 4 := (nI_eq (a := ng) (b := 4) (by omega) (by omega)).mp c_83
                    refine lv_iconst (v := (-1)) hx hb dX10_goal_91 (by decide) ?_
                    exact rt_i C hQ (hP.sub (ws' := [(bx, .inr (11, [.int 0, .int (nI n), .ref b0, .ref b1, .ref b2, .int (nI nm), .ref b3, .ref b4, .ref b5, .ref b6, .ref b7, .ref b8, .ref b9, .ref b10, .ref b11, .ref b12, .int (nI nk), .ref b13, .ref b14, .ref b15, .int (nI nd), .int (nI ng), .ref b16, .ref b17, .ref b18, .ref b19, .int be, .int bl, .ref b20, .int pe, .int (nI nn), .ref b21, .ref b22, .ref b23, .ref b24, .ref b25, .ref b26, .ref b27, .ref b28, .ref b29, .int (nI tc), .ref b30, .int (nI ncc), .long mk, .int fd, .int bs, .int (nI ps), .ref b31, .ref b32, .int sn, .int kt, .int bh])), (b16, .inl (cI, 4, .inl gk)), (b17, .inl (cI, 4, .inl ga)), (b18, .inl (cI, 4, .inl gb))]) [0, 1, 2, 3] rfl) (hD.sub [0, 1, 2, 3] (by decide) rfl) hS (by have hP_ : ¬ (f_isPart n k0 a0_ b0_ = true ∧ ng < 4) := (fun z => by first | exact hgood z.1 | omega); exact ⟨by rw [if_neg hP_], by simp only [if_neg hP_]⟩) (by decide) (by decide) dX10_goal_92
                  · -- not taken 83
                    have c_83 : ¬ (ng = 4) := fun z => c_83 ((nI_eq (a := ng) (b := 4) (by omega) (by omega)).mpr z)
                    refine lv_iload hx hb dX10_goal_86 (lv_at hl 0 rfl) ?_
                    refine lv_if_ne (tgt := 93) hx hb dX10_goal_88 (by decide) (fun c_88 => ?_) (fun c_88 => ?_)
                    rotate_left
                    · exact absurd c_88 (by decide)
                    refine lv_aload_n hx hb dX10_goal_93 rfl (lv_at hl 1 rfl) ?_
                    refine r_get (v := .ref b16) C hP okX10 0 22 rfl (by decide) fl_X10_59 rfl rfl dX10_goal_94 ?_
                    refine lv_aload_n hx hb dX10_goal_97 rfl (lv_at hl 1 rfl) ?_
                    refine r_get (v := .int (nI ng)) C hP okX10 0 21 rfl (by decide) fl_X10_138 rfl rfl dX10_goal_98 ?_
                    refine lv_iload_n hx hb dX10_goal_101 rfl (lv_at hl 2 rfl) ?_
                    refine r_iast (j := ng) C hP hD hS 1 rfl (by omega) (by decide) dX10_goal_102 (fun H locs hP hD hS => ?_)
                    have hP : va_P D vwCl [(bx, .inr (11, [.int 0, .int (nI n), .ref b0, .ref b1, .ref b2, .int (nI nm), .ref b3, .ref b4, .ref b5, .ref b6, .ref b7, .ref b8, .ref b9, .ref b10, .ref b11, .ref b12, .int (nI nk), .ref b13, .ref b14, .ref b15, .int (nI nd), .int (nI ng), .ref b16, .ref b17, .ref b18, .ref b19, .int be, .int bl, .ref b20, .int pe, .int (nI nn), .ref b21, .ref b22, .ref b23, .ref b24, .ref b25, .ref b26, .ref b27, .ref b28, .ref b29, .int (nI tc), .ref b30, .int (nI ncc), .long mk, .int fd, .int bs, .int (nI ps), .ref b31, .ref b32, .int sn, .int kt, .int bh])), (b16, .inl (cI, 4, .inl (upd gk ng k0))), (b17, .inl (cI, 4, .inl ga)), (b18, .inl (cI, 4, .inl gb))] H := hP
                    have hD : va_D A [(bx, .inr (11, [.int 0, .int (nI n), .ref b0, .ref b1, .ref b2, .int (nI nm), .ref b3, .ref b4, .ref b5, .ref b6, .ref b7, .ref b8, .ref b9, .ref b10, .ref b11, .ref b12, .int (nI nk), .ref b13, .ref b14, .ref b15, .int (nI nd), .int (nI ng), .ref b16, .ref b17, .ref b18, .ref b19, .int be, .int bl, .ref b20, .int pe, .int (nI nn), .ref b21, .ref b22, .ref b23, .ref b24, .ref b25, .ref b26, .ref b27, .ref b28, .ref b29, .int (nI tc), .ref b30, .int (nI ncc), .long mk, .int fd, .int bs, .int (nI ps), .ref b31, .ref b32, .int sn, .int kt, .int bh])), (b16, .inl (cI, 4, .inl (upd gk ng k0))), (b17, .inl (cI, 4, .inl ga)), (b18, .inl (cI, 4, .inl gb))] := hD
                    refine lv_aload_n hx hb dX10_goal_103 rfl (lv_at hl 1 rfl) ?_
                    refine r_get (v := .ref b17) C hP okX10 0 23 rfl (by decide) fl_X10_62 rfl rfl dX10_goal_104 ?_
                    refine lv_aload_n hx hb dX10_goal_107 rfl (lv_at hl 1 rfl) ?_
                    refine r_get (v := .int (nI ng)) C hP okX10 0 21 rfl (by decide) fl_X10_138 rfl rfl dX10_goal_108 ?_
                    refine lv_iload_n hx hb dX10_goal_111 rfl (lv_at hl 3 rfl) ?_
                    refine r_iast (j := ng) C hP hD hS 2 rfl (by omega) (by decide) dX10_goal_112 (fun H locs hP hD hS => ?_)
                    have hP : va_P D vwCl [(bx, .inr (11, [.int 0, .int (nI n), .ref b0, .ref b1, .ref b2, .int (nI nm), .ref b3, .ref b4, .ref b5, .ref b6, .ref b7, .ref b8, .ref b9, .ref b10, .ref b11, .ref b12, .int (nI nk), .ref b13, .ref b14, .ref b15, .int (nI nd), .int (nI ng), .ref b16, .ref b17, .ref b18, .ref b19, .int be, .int bl, .ref b20, .int pe, .int (nI nn), .ref b21, .ref b22, .ref b23, .ref b24, .ref b25, .ref b26, .ref b27, .ref b28, .ref b29, .int (nI tc), .ref b30, .int (nI ncc), .long mk, .int fd, .int bs, .int (nI ps), .ref b31, .ref b32, .int sn, .int kt, .int bh])), (b16, .inl (cI, 4, .inl (upd gk ng k0))), (b17, .inl (cI, 4, .inl (upd ga ng a0_))), (b18, .inl (cI, 4, .inl gb))] H := hP
                    have hD : va_D A [(bx, .inr (11, [.int 0, .int (nI n), .ref b0, .ref b1, .ref b2, .int (nI nm), .ref b3, .ref b4, .ref b5, .ref b6, .ref b7, .ref b8, .ref b9, .ref b10, .ref b11, .ref b12, .int (nI nk), .ref b13, .ref b14, .ref b15, .int (nI nd), .int (nI ng), .ref b16, .ref b17, .ref b18, .ref b19, .int be, .int bl, .ref b20, .int pe, .int (nI nn), .ref b21, .ref b22, .ref b23, .ref b24, .ref b25, .ref b26, .ref b27, .ref b28, .ref b29, .int (nI tc), .ref b30, .int (nI ncc), .long mk, .int fd, .int bs, .int (nI ps), .ref b31, .ref b32, .int sn, .int kt, .int bh])), (b16, .inl (cI, 4, .inl (upd gk ng k0))), (b17, .inl (cI, 4, .inl (upd ga ng a0_))), (b18, .inl (cI, 4, .inl gb))] := hD
                    refine lv_aload_n hx hb dX10_goal_113 rfl (lv_at hl 1 rfl) ?_
                    refine r_get (v := .ref b18) C hP okX10 0 24 rfl (by decide) fl_X10_65 rfl rfl dX10_goal_114 ?_
                    refine lv_aload_n hx hb dX10_goal_117 rfl (lv_at hl 1 rfl) ?_
                    refine r_get (v := .int (nI ng)) C hP okX10 0 21 rfl (by decide) fl_X10_138 rfl rfl dX10_goal_118 ?_
                    refine lv_iload_n hx hb dX10_goal_121 rfl (lv_at hl 4 rfl) ?_
                    refine r_iast (j := ng) C hP hD hS 3 rfl (by omega) (by decide) dX10_goal_122 (fun H locs hP hD hS => ?_)
                    have hP : va_P D vwCl [(bx, .inr (11, [.int 0, .int (nI n), .ref b0, .ref b1, .ref b2, .int (nI nm), .ref b3, .ref b4, .ref b5, .ref b6, .ref b7, .ref b8, .ref b9, .ref b10, .ref b11, .ref b12, .int (nI nk), .ref b13, .ref b14, .ref b15, .int (nI nd), .int (nI ng), .ref b16, .ref b17, .ref b18, .ref b19, .int be, .int bl, .ref b20, .int pe, .int (nI nn), .ref b21, .ref b22, .ref b23, .ref b24, .ref b25, .ref b26, .ref b27, .ref b28, .ref b29, .int (nI tc), .ref b30, .int (nI ncc), .long mk, .int fd, .int bs, .int (nI ps), .ref b31, .ref b32, .int sn, .int kt, .int bh])), (b16, .inl (cI, 4, .inl (upd gk ng k0))), (b17, .inl (cI, 4, .inl (upd ga ng a0_))), (b18, .inl (cI, 4, .inl (upd gb ng b0_)))] H := hP
                    have hD : va_D A [(bx, .inr (11, [.int 0, .int (nI n), .ref b0, .ref b1, .ref b2, .int (nI nm), .ref b3, .ref b4, .ref b5, .ref b6, .ref b7, .ref b8, .ref b9, .ref b10, .ref b11, .ref b12, .int (nI nk), .ref b13, .ref b14, .ref b15, .int (nI nd), .int (nI ng), .ref b16, .ref b17, .ref b18, .ref b19, .int be, .int bl, .ref b20, .int pe, .int (nI nn), .ref b21, .ref b22, .ref b23, .ref b24, .ref b25, .ref b26, .ref b27, .ref b28, .ref b29, .int (nI tc), .ref b30, .int (nI ncc), .long mk, .int fd, .int bs, .int (nI ps), .ref b31, .ref b32, .int sn, .int kt, .int bh])), (b16, .inl (cI, 4, .inl (upd gk ng k0))), (b17, .inl (cI, 4, .inl (upd ga ng a0_))), (b18, .inl (cI, 4, .inl (upd gb ng b0_)))] := hD
                    refine lv_aload_n hx hb dX10_goal_123 rfl (lv_at hl 1 rfl) ?_
                    refine lv_dup hx hb dX10_goal_124 rfl ?_
                    refine r_get (v := .int (nI ng)) C hP okX10 0 21 rfl (by decide) fl_X10_138 rfl rfl dX10_goal_125 ?_
                    refine lv_iconst (v := 1) hx hb dX10_goal_128 (by decide) ?_
                    refine lv_iadd hx hb dX10_goal_129 ?_
                    refine r_top (x' := nI (ng + 1)) (nI_add ng 1) ?_
                    refine r_put (v := .int (nI (ng + 1))) C hP hD hS okX10 0 21 rfl (by decide) fl_X10_138 rfl rfl rfl rfl (Nat.le_of_ble_eq_true rfl) dX10_goal_130 (fun H locs hP hD hS => ?_)
                    have hP : va_P D vwCl [(bx, .inr (11, [.int 0, .int (nI n), .ref b0, .ref b1, .ref b2, .int (nI nm), .ref b3, .ref b4, .ref b5, .ref b6, .ref b7, .ref b8, .ref b9, .ref b10, .ref b11, .ref b12, .int (nI nk), .ref b13, .ref b14, .ref b15, .int (nI nd), .int (nI (ng + 1)), .ref b16, .ref b17, .ref b18, .ref b19, .int be, .int bl, .ref b20, .int pe, .int (nI nn), .ref b21, .ref b22, .ref b23, .ref b24, .ref b25, .ref b26, .ref b27, .ref b28, .ref b29, .int (nI tc), .ref b30, .int (nI ncc), .long mk, .int fd, .int bs, .int (nI ps), .ref b31, .ref b32, .int sn, .int kt, .int bh])), (b16, .inl (cI, 4, .inl (upd gk ng k0))), (b17, .inl (cI, 4, .inl (upd ga ng a0_))), (b18, .inl (cI, 4, .inl (upd gb ng b0_)))] H := hP
                    have hD : va_D A [(bx, .inr (11, [.int 0, .int (nI n), .ref b0, .ref b1, .ref b2, .int (nI nm), .ref b3, .ref b4, .ref b5, .ref b6, .ref b7, .ref b8, .ref b9, .ref b10, .ref b11, .ref b12, .int (nI nk), .ref b13, .ref b14, .ref b15, .int (nI nd), .int (nI (ng + 1)), .ref b16, .ref b17, .ref b18, .ref b19, .int be, .int bl, .ref b20, .int pe, .int (nI nn), .ref b21, .ref b22, .ref b23, .ref b24, .ref b25, .ref b26, .ref b27, .ref b28, .ref b29, .int (nI tc), .ref b30, .int (nI ncc), .long mk, .int fd, .int bs, .int (nI ps), .ref b31, .ref b32, .int sn, .int kt, .int bh])), (b16, .inl (cI, 4, .inl (upd gk ng k0))), (b17, .inl (cI, 4, .inl (upd ga ng a0_))), (b18, .inl (cI, 4, .inl (upd gb ng b0_)))] := hD
                    refine lv_aload_n hx hb dX10_goal_133 rfl (lv_at hl 1 rfl) ?_
                    refine r_get (v := .int (nI (ng + 1))) C hP okX10 0 21 rfl (by decide) fl_X10_138 rfl rfl dX10_goal_134 ?_
                    exact rt_i C hQ (hP.sub (ws' := [(bx, .inr (11, [.int 0, .int (nI n), .ref b0, .ref b1, .ref b2, .int (nI nm), .ref b3, .ref b4, .ref b5, .ref b6, .ref b7, .ref b8, .ref b9, .ref b10, .ref b11, .ref b12, .int (nI nk), .ref b13, .ref b14, .ref b15, .int (nI nd), .int (nI (ng + 1)), .ref b16, .ref b17, .ref b18, .ref b19, .int be, .int bl, .ref b20, .int pe, .int (nI nn), .ref b21, .ref b22, .ref b23, .ref b24, .ref b25, .ref b26, .ref b27, .ref b28, .ref b29, .int (nI tc), .ref b30, .int (nI ncc), .long mk, .int fd, .int bs, .int (nI ps), .ref b31, .ref b32, .int sn, .int kt, .int bh])), (b16, .inl (cI, 4, .inl (upd gk ng k0))), (b17, .inl (cI, 4, .inl (upd ga ng a0_))), (b18, .inl (cI, 4, .inl (upd gb ng b0_)))]) [0, 1, 2, 3] rfl) (hD.sub [0, 1, 2, 3] (by decide) rfl) hS (by have hP_ : f_isPart n k0 a0_ b0_ = true ∧ ng < 4 := ⟨hgood, by omega⟩; exact ⟨by rw [if_pos hP_], by simp only [if_pos hP_]⟩) (by decide) (by decide) dX10_goal_137
  · -- not taken 6
    refine lv_aload_n hx hb dX10_goal_9 rfl (lv_at hl 0 rfl) ?_
    refine lv_iload_n hx hb dX10_goal_10 rfl (lv_at hl 2 rfl) ?_
    refine cl_v C (c_X10_noCell l D cI cJ cZ bx b0 b1 b2 b3 b4 b5 b6 b7 b8 b9 b10 b11 b12 b13 b14 b15 b16 b17 b18 b19 b20 b21 b22 b23 b24 b25 b26 b27 b28 b29 b30 b31 b32 0 n nm nk nd ng be bl pe nn tc ncc mk fd bs ps sn kt bh a0_) cd_X10_noCell ml_X10_121 im_X10_noCell se_X10_noCell in_X10 hd_X10_noCell ⟨by decide, by decide⟩ hP hD hS hA (WR := [(b16, .inl (cI, 4, .inl gk)), (b17, .inl (cI, 4, .inl ga)), (b18, .inl (cI, 4, .inl gb))]) [0] [1, 2, 3] rfl rfl rfl rfl (by decide) (ci := 11) (q0 := 0) rfl rfl hl.1 rfl (Nat.le_of_ble_eq_true rfl) dX10_goal_11 ⟨by decide, by decide⟩ (fun r W H locs hp hP hD hS => ?_)
    rcases hp with ⟨⟨rfl, hb_11⟩ | ⟨rfl, hb_11⟩, rfl⟩
    · -- yes 11
      refine W.eq (g2 := F0 m 14 ls [.int 1]) rfl ?_
      have hP : va_P D vwCl [(b16, .inl (cI, 4, .inl gk)), (b17, .inl (cI, 4, .inl ga)), (b18, .inl (cI, 4, .inl gb)), (bx, .inr (11, [.int 0, .int (nI n), .ref b0, .ref b1, .ref b2, .int (nI nm), .ref b3, .ref b4, .ref b5, .ref b6, .ref b7, .ref b8, .ref b9, .ref b10, .ref b11, .ref b12, .int (nI nk), .ref b13, .ref b14, .ref b15, .int (nI nd), .int (nI ng), .ref b16, .ref b17, .ref b18, .ref b19, .int be, .int bl, .ref b20, .int pe, .int (nI nn), .ref b21, .ref b22, .ref b23, .ref b24, .ref b25, .ref b26, .ref b27, .ref b28, .ref b29, .int (nI tc), .ref b30, .int (nI ncc), .long mk, .int fd, .int bs, .int (nI ps), .ref b31, .ref b32, .int sn, .int kt, .int bh]))] H := hP
      have hD : va_D A [(b16, .inl (cI, 4, .inl gk)), (b17, .inl (cI, 4, .inl ga)), (b18, .inl (cI, 4, .inl gb)), (bx, .inr (11, [.int 0, .int (nI n), .ref b0, .ref b1, .ref b2, .int (nI nm), .ref b3, .ref b4, .ref b5, .ref b6, .ref b7, .ref b8, .ref b9, .ref b10, .ref b11, .ref b12, .int (nI nk), .ref b13, .ref b14, .ref b15, .int (nI nd), .int (nI ng), .ref b16, .ref b17, .ref b18, .ref b19, .int be, .int bl, .ref b20, .int pe, .int (nI nn), .ref b21, .ref b22, .ref b23, .ref b24, .ref b25, .ref b26, .ref b27, .ref b28, .ref b29, .int (nI tc), .ref b30, .int (nI ncc), .long mk, .int fd, .int bs, .int (nI ps), .ref b31, .ref b32, .int sn, .int kt, .int bh]))] := hD
      refine lv_if_ne (tgt := 31) hx hb dX10_goal_14 (by decide) (fun c_14 => ?_) (fun c_14 => ?_)
      rotate_left
      · exact absurd c_14 (by decide)
      refine lv_iconst (v := 0) hx hb dX10_goal_31 (by decide) ?_
      refine lv_goto (tgt := 76) hx hb dX10_goal_32 (by decide) ?_
      have hgood : ¬ f_isPart n k0 a0_ b0_ = true := (by simp only [f_isPart]; rw [if_pos c_6, Bool.and_eq_true]; intro z; first | exact hb_11 z.1 | exact rg_n1 c_18 z.2 | exact rg_n2 c_24 z.2)
      refine lv_istore (lv' := [(4, .int 0), (0, .ref bx), (1, .int k0), (2, .int a0_), (3, .int b0_)]) hx hb dX10_goal_76 hl (by decide) rfl (fun ls hl => ?_)
      refine lv_aload_n hx hb dX10_goal_78 rfl (lv_at hl 1 rfl) ?_
      refine r_get (v := .int (nI ng)) C hP okX10 3 21 rfl (by decide) fl_X10_138 rfl rfl dX10_goal_79 ?_
      refine lv_iconst (v := 4) hx hb dX10_goal_82 (by decide) ?_
      refine lv_icmp_eq (tgt := 91) hx hb dX10_goal_83 (by decide) (fun c_83 => ?_) (fun c_83 => ?_)
      · -- taken 83
        have c_83 : ng = 4 := (nI_eq (a := ng) (b := 4) (by omega) (by omega)).mp c_83
        refine lv_iconst (v := (-1)) hx hb dX10_goal_91 (by decide) ?_
        exact rt_i C hQ (hP.sub (ws' := [(bx, .inr (11, [.int 0, .int (nI n), .ref b0, .ref b1, .ref b2, .int (nI nm), .ref b3, .ref b4, .ref b5, .ref b6, .ref b7, .ref b8, .ref b9, .ref b10, .ref b11, .ref b12, .int (nI nk), .ref b13, .ref b14, .ref b15, .int (nI nd), .int (nI ng), .ref b16, .ref b17, .ref b18, .ref b19, .int be, .int bl, .ref b20, .int pe, .int (nI nn), .ref b21, .ref b22, .ref b23, .ref b24, .ref b25, .ref b26, .ref b27, .ref b28, .ref b29, .int (nI tc), .ref b30, .int (nI ncc), .long mk, .int fd, .int bs, .int (nI ps), .ref b31, .ref b32, .int sn, .int kt, .int bh])), (b16, .inl (cI, 4, .inl gk)), (b17, .inl (cI, 4, .inl ga)), (b18, .inl (cI, 4, .inl gb))]) [3, 0, 1, 2] rfl) (hD.sub [3, 0, 1, 2] (by decide) rfl) hS (by have hP_ : ¬ (f_isPart n k0 a0_ b0_ = true ∧ ng < 4) := (fun z => by first | exact hgood z.1 | omega); exact ⟨by rw [if_neg hP_], by simp only [if_neg hP_]⟩) (by decide) (by decide) dX10_goal_92
      · -- not taken 83
        have c_83 : ¬ (ng = 4) := fun z => c_83 ((nI_eq (a := ng) (b := 4) (by omega) (by omega)).mpr z)
        refine lv_iload hx hb dX10_goal_86 (lv_at hl 0 rfl) ?_
        refine lv_if_ne (tgt := 93) hx hb dX10_goal_88 (by decide) (fun c_88 => ?_) (fun c_88 => ?_)
        · exact absurd c_88 (by decide)
        refine lv_iconst (v := (-1)) hx hb dX10_goal_91 (by decide) ?_
        exact rt_i C hQ (hP.sub (ws' := [(bx, .inr (11, [.int 0, .int (nI n), .ref b0, .ref b1, .ref b2, .int (nI nm), .ref b3, .ref b4, .ref b5, .ref b6, .ref b7, .ref b8, .ref b9, .ref b10, .ref b11, .ref b12, .int (nI nk), .ref b13, .ref b14, .ref b15, .int (nI nd), .int (nI ng), .ref b16, .ref b17, .ref b18, .ref b19, .int be, .int bl, .ref b20, .int pe, .int (nI nn), .ref b21, .ref b22, .ref b23, .ref b24, .ref b25, .ref b26, .ref b27, .ref b28, .ref b29, .int (nI tc), .ref b30, .int (nI ncc), .long mk, .int fd, .int bs, .int (nI ps), .ref b31, .ref b32, .int sn, .int kt, .int bh])), (b16, .inl (cI, 4, .inl gk)), (b17, .inl (cI, 4, .inl ga)), (b18, .inl (cI, 4, .inl gb))]) [3, 0, 1, 2] rfl) (hD.sub [3, 0, 1, 2] (by decide) rfl) hS (by have hP_ : ¬ (f_isPart n k0 a0_ b0_ = true ∧ ng < 4) := (fun z => by first | exact hgood z.1 | omega); exact ⟨by rw [if_neg hP_], by simp only [if_neg hP_]⟩) (by decide) (by decide) dX10_goal_92
    · -- no 11
      refine W.eq (g2 := F0 m 14 ls [.int 0]) rfl ?_
      have hP : va_P D vwCl [(b16, .inl (cI, 4, .inl gk)), (b17, .inl (cI, 4, .inl ga)), (b18, .inl (cI, 4, .inl gb)), (bx, .inr (11, [.int 0, .int (nI n), .ref b0, .ref b1, .ref b2, .int (nI nm), .ref b3, .ref b4, .ref b5, .ref b6, .ref b7, .ref b8, .ref b9, .ref b10, .ref b11, .ref b12, .int (nI nk), .ref b13, .ref b14, .ref b15, .int (nI nd), .int (nI ng), .ref b16, .ref b17, .ref b18, .ref b19, .int be, .int bl, .ref b20, .int pe, .int (nI nn), .ref b21, .ref b22, .ref b23, .ref b24, .ref b25, .ref b26, .ref b27, .ref b28, .ref b29, .int (nI tc), .ref b30, .int (nI ncc), .long mk, .int fd, .int bs, .int (nI ps), .ref b31, .ref b32, .int sn, .int kt, .int bh]))] H := hP
      have hD : va_D A [(b16, .inl (cI, 4, .inl gk)), (b17, .inl (cI, 4, .inl ga)), (b18, .inl (cI, 4, .inl gb)), (bx, .inr (11, [.int 0, .int (nI n), .ref b0, .ref b1, .ref b2, .int (nI nm), .ref b3, .ref b4, .ref b5, .ref b6, .ref b7, .ref b8, .ref b9, .ref b10, .ref b11, .ref b12, .int (nI nk), .ref b13, .ref b14, .ref b15, .int (nI nd), .int (nI ng), .ref b16, .ref b17, .ref b18, .ref b19, .int be, .int bl, .ref b20, .int pe, .int (nI nn), .ref b21, .ref b22, .ref b23, .ref b24, .ref b25, .ref b26, .ref b27, .ref b28, .ref b29, .int (nI tc), .ref b30, .int (nI ncc), .long mk, .int fd, .int bs, .int (nI ps), .ref b31, .ref b32, .int sn, .int kt, .int bh]))] := hD
      refine lv_if_ne (tgt := 31) hx hb dX10_goal_14 (by decide) (fun c_14 => ?_) (fun c_14 => ?_)
      · exact absurd c_14 (by decide)
      refine lv_iload_n hx hb dX10_goal_17 rfl (lv_at hl 3 rfl) ?_
      refine lv_if_lt (tgt := 31) hx hb dX10_goal_18 (by decide) (fun c_18 => ?_) (fun c_18 => ?_)
      · -- taken 18
        refine lv_iconst (v := 0) hx hb dX10_goal_31 (by decide) ?_
        refine lv_goto (tgt := 76) hx hb dX10_goal_32 (by decide) ?_
        have hgood : ¬ f_isPart n k0 a0_ b0_ = true := (by simp only [f_isPart]; rw [if_pos c_6, Bool.and_eq_true]; intro z; first | exact hb_11 z.1 | exact rg_n1 c_18 z.2 | exact rg_n2 c_24 z.2)
        refine lv_istore (lv' := [(4, .int 0), (0, .ref bx), (1, .int k0), (2, .int a0_), (3, .int b0_)]) hx hb dX10_goal_76 hl (by decide) rfl (fun ls hl => ?_)
        refine lv_aload_n hx hb dX10_goal_78 rfl (lv_at hl 1 rfl) ?_
        refine r_get (v := .int (nI ng)) C hP okX10 3 21 rfl (by decide) fl_X10_138 rfl rfl dX10_goal_79 ?_
        refine lv_iconst (v := 4) hx hb dX10_goal_82 (by decide) ?_
        refine lv_icmp_eq (tgt := 91) hx hb dX10_goal_83 (by decide) (fun c_83 => ?_) (fun c_83 => ?_)
        · -- taken 83
          have c_83 : ng = 4 := (nI_eq (a := ng) (b := 4) (by omega) (by omega)).mp c_83
          refine lv_iconst (v := (-1)) hx hb dX10_goal_91 (by decide) ?_
          exact rt_i C hQ (hP.sub (ws' := [(bx, .inr (11, [.int 0, .int (nI n), .ref b0, .ref b1, .ref b2, .int (nI nm), .ref b3, .ref b4, .ref b5, .ref b6, .ref b7, .ref b8, .ref b9, .ref b10, .ref b11, .ref b12, .int (nI nk), .ref b13, .ref b14, .ref b15, .int (nI nd), .int (nI ng), .ref b16, .ref b17, .ref b18, .ref b19, .int be, .int bl, .ref b20, .int pe, .int (nI nn), .ref b21, .ref b22, .ref b23, .ref b24, .ref b25, .ref b26, .ref b27, .ref b28, .ref b29, .int (nI tc), .ref b30, .int (nI ncc), .long mk, .int fd, .int bs, .int (nI ps), .ref b31, .ref b32, .int sn, .int kt, .int bh])), (b16, .inl (cI, 4, .inl gk)), (b17, .inl (cI, 4, .inl ga)), (b18, .inl (cI, 4, .inl gb))]) [3, 0, 1, 2] rfl) (hD.sub [3, 0, 1, 2] (by decide) rfl) hS (by have hP_ : ¬ (f_isPart n k0 a0_ b0_ = true ∧ ng < 4) := (fun z => by first | exact hgood z.1 | omega); exact ⟨by rw [if_neg hP_], by simp only [if_neg hP_]⟩) (by decide) (by decide) dX10_goal_92
        · -- not taken 83
          have c_83 : ¬ (ng = 4) := fun z => c_83 ((nI_eq (a := ng) (b := 4) (by omega) (by omega)).mpr z)
          refine lv_iload hx hb dX10_goal_86 (lv_at hl 0 rfl) ?_
          refine lv_if_ne (tgt := 93) hx hb dX10_goal_88 (by decide) (fun c_88 => ?_) (fun c_88 => ?_)
          · exact absurd c_88 (by decide)
          refine lv_iconst (v := (-1)) hx hb dX10_goal_91 (by decide) ?_
          exact rt_i C hQ (hP.sub (ws' := [(bx, .inr (11, [.int 0, .int (nI n), .ref b0, .ref b1, .ref b2, .int (nI nm), .ref b3, .ref b4, .ref b5, .ref b6, .ref b7, .ref b8, .ref b9, .ref b10, .ref b11, .ref b12, .int (nI nk), .ref b13, .ref b14, .ref b15, .int (nI nd), .int (nI ng), .ref b16, .ref b17, .ref b18, .ref b19, .int be, .int bl, .ref b20, .int pe, .int (nI nn), .ref b21, .ref b22, .ref b23, .ref b24, .ref b25, .ref b26, .ref b27, .ref b28, .ref b29, .int (nI tc), .ref b30, .int (nI ncc), .long mk, .int fd, .int bs, .int (nI ps), .ref b31, .ref b32, .int sn, .int kt, .int bh])), (b16, .inl (cI, 4, .inl gk)), (b17, .inl (cI, 4, .inl ga)), (b18, .inl (cI, 4, .inl gb))]) [3, 0, 1, 2] rfl) (hD.sub [3, 0, 1, 2] (by decide) rfl) hS (by have hP_ : ¬ (f_isPart n k0 a0_ b0_ = true ∧ ng < 4) := (fun z => by first | exact hgood z.1 | omega); exact ⟨by rw [if_neg hP_], by simp only [if_neg hP_]⟩) (by decide) (by decide) dX10_goal_92
      · -- not taken 18
        refine lv_iload_n hx hb dX10_goal_21 rfl (lv_at hl 3 rfl) ?_
        refine lv_bipush (v := 9) hx hb dX10_goal_22 (by decide) ?_
        refine lv_icmp_gt (tgt := 31) hx hb dX10_goal_24 (by decide) (fun c_24 => ?_) (fun c_24 => ?_)
        · -- taken 24
          refine lv_iconst (v := 0) hx hb dX10_goal_31 (by decide) ?_
          refine lv_goto (tgt := 76) hx hb dX10_goal_32 (by decide) ?_
          have hgood : ¬ f_isPart n k0 a0_ b0_ = true := (by simp only [f_isPart]; rw [if_pos c_6, Bool.and_eq_true]; intro z; first | exact hb_11 z.1 | exact rg_n1 c_18 z.2 | exact rg_n2 c_24 z.2)
          refine lv_istore (lv' := [(4, .int 0), (0, .ref bx), (1, .int k0), (2, .int a0_), (3, .int b0_)]) hx hb dX10_goal_76 hl (by decide) rfl (fun ls hl => ?_)
          refine lv_aload_n hx hb dX10_goal_78 rfl (lv_at hl 1 rfl) ?_
          refine r_get (v := .int (nI ng)) C hP okX10 3 21 rfl (by decide) fl_X10_138 rfl rfl dX10_goal_79 ?_
          refine lv_iconst (v := 4) hx hb dX10_goal_82 (by decide) ?_
          refine lv_icmp_eq (tgt := 91) hx hb dX10_goal_83 (by decide) (fun c_83 => ?_) (fun c_83 => ?_)
          · -- taken 83
            have c_83 : ng = 4 := (nI_eq (a := ng) (b := 4) (by omega) (by omega)).mp c_83
            refine lv_iconst (v := (-1)) hx hb dX10_goal_91 (by decide) ?_
            exact rt_i C hQ (hP.sub (ws' := [(bx, .inr (11, [.int 0, .int (nI n), .ref b0, .ref b1, .ref b2, .int (nI nm), .ref b3, .ref b4, .ref b5, .ref b6, .ref b7, .ref b8, .ref b9, .ref b10, .ref b11, .ref b12, .int (nI nk), .ref b13, .ref b14, .ref b15, .int (nI nd), .int (nI ng), .ref b16, .ref b17, .ref b18, .ref b19, .int be, .int bl, .ref b20, .int pe, .int (nI nn), .ref b21, .ref b22, .ref b23, .ref b24, .ref b25, .ref b26, .ref b27, .ref b28, .ref b29, .int (nI tc), .ref b30, .int (nI ncc), .long mk, .int fd, .int bs, .int (nI ps), .ref b31, .ref b32, .int sn, .int kt, .int bh])), (b16, .inl (cI, 4, .inl gk)), (b17, .inl (cI, 4, .inl ga)), (b18, .inl (cI, 4, .inl gb))]) [3, 0, 1, 2] rfl) (hD.sub [3, 0, 1, 2] (by decide) rfl) hS (by have hP_ : ¬ (f_isPart n k0 a0_ b0_ = true ∧ ng < 4) := (fun z => by first | exact hgood z.1 | omega); exact ⟨by rw [if_neg hP_], by simp only [if_neg hP_]⟩) (by decide) (by decide) dX10_goal_92
          · -- not taken 83
            have c_83 : ¬ (ng = 4) := fun z => c_83 ((nI_eq (a := ng) (b := 4) (by omega) (by omega)).mpr z)
            refine lv_iload hx hb dX10_goal_86 (lv_at hl 0 rfl) ?_
            refine lv_if_ne (tgt := 93) hx hb dX10_goal_88 (by decide) (fun c_88 => ?_) (fun c_88 => ?_)
            · exact absurd c_88 (by decide)
            refine lv_iconst (v := (-1)) hx hb dX10_goal_91 (by decide) ?_
            exact rt_i C hQ (hP.sub (ws' := [(bx, .inr (11, [.int 0, .int (nI n), .ref b0, .ref b1, .ref b2, .int (nI nm), .ref b3, .ref b4, .ref b5, .ref b6, .ref b7, .ref b8, .ref b9, .ref b10, .ref b11, .ref b12, .int (nI nk), .ref b13, .ref b14, .ref b15, .int (nI nd), .int (nI ng), .ref b16, .ref b17, .ref b18, .ref b19, .int be, .int bl, .ref b20, .int pe, .int (nI nn), .ref b21, .ref b22, .ref b23, .ref b24, .ref b25, .ref b26, .ref b27, .ref b28, .ref b29, .int (nI tc), .ref b30, .int (nI ncc), .long mk, .int fd, .int bs, .int (nI ps), .ref b31, .ref b32, .int sn, .int kt, .int bh])), (b16, .inl (cI, 4, .inl gk)), (b17, .inl (cI, 4, .inl ga)), (b18, .inl (cI, 4, .inl gb))]) [3, 0, 1, 2] rfl) (hD.sub [3, 0, 1, 2] (by decide) rfl) hS (by have hP_ : ¬ (f_isPart n k0 a0_ b0_ = true ∧ ng < 4) := (fun z => by first | exact hgood z.1 | omega); exact ⟨by rw [if_neg hP_], by simp only [if_neg hP_]⟩) (by decide) (by decide) dX10_goal_92
        · -- not taken 24
          refine lv_iconst (v := 1) hx hb dX10_goal_27 (by decide) ?_
          refine lv_goto (tgt := 76) hx hb dX10_goal_28 (by decide) ?_
          have hgood : f_isPart n k0 a0_ b0_ = true := (by simp only [f_isPart]; rw [if_pos c_6, Bool.and_eq_true]; exact ⟨Classical.not_not.mp hb_11, rg_y c_18 c_24⟩)
          refine lv_istore (lv' := [(4, .int 1), (0, .ref bx), (1, .int k0), (2, .int a0_), (3, .int b0_)]) hx hb dX10_goal_76 hl (by decide) rfl (fun ls hl => ?_)
          refine lv_aload_n hx hb dX10_goal_78 rfl (lv_at hl 1 rfl) ?_
          refine r_get (v := .int (nI ng)) C hP okX10 3 21 rfl (by decide) fl_X10_138 rfl rfl dX10_goal_79 ?_
          refine lv_iconst (v := 4) hx hb dX10_goal_82 (by decide) ?_
          refine lv_icmp_eq (tgt := 91) hx hb dX10_goal_83 (by decide) (fun c_83 => ?_) (fun c_83 => ?_)
          · -- taken 83
            have c_83 : ng = 4 := (nI_eq (a := ng) (b := 4) (by omega) (by omega)).mp c_83
            refine lv_iconst (v := (-1)) hx hb dX10_goal_91 (by decide) ?_
            exact rt_i C hQ (hP.sub (ws' := [(bx, .inr (11, [.int 0, .int (nI n), .ref b0, .ref b1, .ref b2, .int (nI nm), .ref b3, .ref b4, .ref b5, .ref b6, .ref b7, .ref b8, .ref b9, .ref b10, .ref b11, .ref b12, .int (nI nk), .ref b13, .ref b14, .ref b15, .int (nI nd), .int (nI ng), .ref b16, .ref b17, .ref b18, .ref b19, .int be, .int bl, .ref b20, .int pe, .int (nI nn), .ref b21, .ref b22, .ref b23, .ref b24, .ref b25, .ref b26, .ref b27, .ref b28, .ref b29, .int (nI tc), .ref b30, .int (nI ncc), .long mk, .int fd, .int bs, .int (nI ps), .ref b31, .ref b32, .int sn, .int kt, .int bh])), (b16, .inl (cI, 4, .inl gk)), (b17, .inl (cI, 4, .inl ga)), (b18, .inl (cI, 4, .inl gb))]) [3, 0, 1, 2] rfl) (hD.sub [3, 0, 1, 2] (by decide) rfl) hS (by have hP_ : ¬ (f_isPart n k0 a0_ b0_ = true ∧ ng < 4) := (fun z => by first | exact hgood z.1 | omega); exact ⟨by rw [if_neg hP_], by simp only [if_neg hP_]⟩) (by decide) (by decide) dX10_goal_92
          · -- not taken 83
            have c_83 : ¬ (ng = 4) := fun z => c_83 ((nI_eq (a := ng) (b := 4) (by omega) (by omega)).mpr z)
            refine lv_iload hx hb dX10_goal_86 (lv_at hl 0 rfl) ?_
            refine lv_if_ne (tgt := 93) hx hb dX10_goal_88 (by decide) (fun c_88 => ?_) (fun c_88 => ?_)
            rotate_left
            · exact absurd c_88 (by decide)
            refine lv_aload_n hx hb dX10_goal_93 rfl (lv_at hl 1 rfl) ?_
            refine r_get (v := .ref b16) C hP okX10 3 22 rfl (by decide) fl_X10_59 rfl rfl dX10_goal_94 ?_
            refine lv_aload_n hx hb dX10_goal_97 rfl (lv_at hl 1 rfl) ?_
            refine r_get (v := .int (nI ng)) C hP okX10 3 21 rfl (by decide) fl_X10_138 rfl rfl dX10_goal_98 ?_
            refine lv_iload_n hx hb dX10_goal_101 rfl (lv_at hl 2 rfl) ?_
            refine r_iast (j := ng) C hP hD hS 0 rfl (by omega) (by decide) dX10_goal_102 (fun H locs hP hD hS => ?_)
            have hP : va_P D vwCl [(b16, .inl (cI, 4, .inl (upd gk ng k0))), (b17, .inl (cI, 4, .inl ga)), (b18, .inl (cI, 4, .inl gb)), (bx, .inr (11, [.int 0, .int (nI n), .ref b0, .ref b1, .ref b2, .int (nI nm), .ref b3, .ref b4, .ref b5, .ref b6, .ref b7, .ref b8, .ref b9, .ref b10, .ref b11, .ref b12, .int (nI nk), .ref b13, .ref b14, .ref b15, .int (nI nd), .int (nI ng), .ref b16, .ref b17, .ref b18, .ref b19, .int be, .int bl, .ref b20, .int pe, .int (nI nn), .ref b21, .ref b22, .ref b23, .ref b24, .ref b25, .ref b26, .ref b27, .ref b28, .ref b29, .int (nI tc), .ref b30, .int (nI ncc), .long mk, .int fd, .int bs, .int (nI ps), .ref b31, .ref b32, .int sn, .int kt, .int bh]))] H := hP
            have hD : va_D A [(b16, .inl (cI, 4, .inl (upd gk ng k0))), (b17, .inl (cI, 4, .inl ga)), (b18, .inl (cI, 4, .inl gb)), (bx, .inr (11, [.int 0, .int (nI n), .ref b0, .ref b1, .ref b2, .int (nI nm), .ref b3, .ref b4, .ref b5, .ref b6, .ref b7, .ref b8, .ref b9, .ref b10, .ref b11, .ref b12, .int (nI nk), .ref b13, .ref b14, .ref b15, .int (nI nd), .int (nI ng), .ref b16, .ref b17, .ref b18, .ref b19, .int be, .int bl, .ref b20, .int pe, .int (nI nn), .ref b21, .ref b22, .ref b23, .ref b24, .ref b25, .ref b26, .ref b27, .ref b28, .ref b29, .int (nI tc), .ref b30, .int (nI ncc), .long mk, .int fd, .int bs, .int (nI ps), .ref b31, .ref b32, .int sn, .int kt, .int bh]))] := hD
            refine lv_aload_n hx hb dX10_goal_103 rfl (lv_at hl 1 rfl) ?_
            refine r_get (v := .ref b17) C hP okX10 3 23 rfl (by decide) fl_X10_62 rfl rfl dX10_goal_104 ?_
            refine lv_aload_n hx hb dX10_goal_107 rfl (lv_at hl 1 rfl) ?_
            refine r_get (v := .int (nI ng)) C hP okX10 3 21 rfl (by decide) fl_X10_138 rfl rfl dX10_goal_108 ?_
            refine lv_iload_n hx hb dX10_goal_111 rfl (lv_at hl 3 rfl) ?_
            refine r_iast (j := ng) C hP hD hS 1 rfl (by omega) (by decide) dX10_goal_112 (fun H locs hP hD hS => ?_)
            have hP : va_P D vwCl [(b16, .inl (cI, 4, .inl (upd gk ng k0))), (b17, .inl (cI, 4, .inl (upd ga ng a0_))), (b18, .inl (cI, 4, .inl gb)), (bx, .inr (11, [.int 0, .int (nI n), .ref b0, .ref b1, .ref b2, .int (nI nm), .ref b3, .ref b4, .ref b5, .ref b6, .ref b7, .ref b8, .ref b9, .ref b10, .ref b11, .ref b12, .int (nI nk), .ref b13, .ref b14, .ref b15, .int (nI nd), .int (nI ng), .ref b16, .ref b17, .ref b18, .ref b19, .int be, .int bl, .ref b20, .int pe, .int (nI nn), .ref b21, .ref b22, .ref b23, .ref b24, .ref b25, .ref b26, .ref b27, .ref b28, .ref b29, .int (nI tc), .ref b30, .int (nI ncc), .long mk, .int fd, .int bs, .int (nI ps), .ref b31, .ref b32, .int sn, .int kt, .int bh]))] H := hP
            have hD : va_D A [(b16, .inl (cI, 4, .inl (upd gk ng k0))), (b17, .inl (cI, 4, .inl (upd ga ng a0_))), (b18, .inl (cI, 4, .inl gb)), (bx, .inr (11, [.int 0, .int (nI n), .ref b0, .ref b1, .ref b2, .int (nI nm), .ref b3, .ref b4, .ref b5, .ref b6, .ref b7, .ref b8, .ref b9, .ref b10, .ref b11, .ref b12, .int (nI nk), .ref b13, .ref b14, .ref b15, .int (nI nd), .int (nI ng), .ref b16, .ref b17, .ref b18, .ref b19, .int be, .int bl, .ref b20, .int pe, .int (nI nn), .ref b21, .ref b22, .ref b23, .ref b24, .ref b25, .ref b26, .ref b27, .ref b28, .ref b29, .int (nI tc), .ref b30, .int (nI ncc), .long mk, .int fd, .int bs, .int (nI ps), .ref b31, .ref b32, .int sn, .int kt, .int bh]))] := hD
            refine lv_aload_n hx hb dX10_goal_113 rfl (lv_at hl 1 rfl) ?_
            refine r_get (v := .ref b18) C hP okX10 3 24 rfl (by decide) fl_X10_65 rfl rfl dX10_goal_114 ?_
            refine lv_aload_n hx hb dX10_goal_117 rfl (lv_at hl 1 rfl) ?_
            refine r_get (v := .int (nI ng)) C hP okX10 3 21 rfl (by decide) fl_X10_138 rfl rfl dX10_goal_118 ?_
            refine lv_iload_n hx hb dX10_goal_121 rfl (lv_at hl 4 rfl) ?_
            refine r_iast (j := ng) C hP hD hS 2 rfl (by omega) (by decide) dX10_goal_122 (fun H locs hP hD hS => ?_)
            have hP : va_P D vwCl [(b16, .inl (cI, 4, .inl (upd gk ng k0))), (b17, .inl (cI, 4, .inl (upd ga ng a0_))), (b18, .inl (cI, 4, .inl (upd gb ng b0_))), (bx, .inr (11, [.int 0, .int (nI n), .ref b0, .ref b1, .ref b2, .int (nI nm), .ref b3, .ref b4, .ref b5, .ref b6, .ref b7, .ref b8, .ref b9, .ref b10, .ref b11, .ref b12, .int (nI nk), .ref b13, .ref b14, .ref b15, .int (nI nd), .int (nI ng), .ref b16, .ref b17, .ref b18, .ref b19, .int be, .int bl, .ref b20, .int pe, .int (nI nn), .ref b21, .ref b22, .ref b23, .ref b24, .ref b25, .ref b26, .ref b27, .ref b28, .ref b29, .int (nI tc), .ref b30, .int (nI ncc), .long mk, .int fd, .int bs, .int (nI ps), .ref b31, .ref b32, .int sn, .int kt, .int bh]))] H := hP
            have hD : va_D A [(b16, .inl (cI, 4, .inl (upd gk ng k0))), (b17, .inl (cI, 4, .inl (upd ga ng a0_))), (b18, .inl (cI, 4, .inl (upd gb ng b0_))), (bx, .inr (11, [.int 0, .int (nI n), .ref b0, .ref b1, .ref b2, .int (nI nm), .ref b3, .ref b4, .ref b5, .ref b6, .ref b7, .ref b8, .ref b9, .ref b10, .ref b11, .ref b12, .int (nI nk), .ref b13, .ref b14, .ref b15, .int (nI nd), .int (nI ng), .ref b16, .ref b17, .ref b18, .ref b19, .int be, .int bl, .ref b20, .int pe, .int (nI nn), .ref b21, .ref b22, .ref b23, .ref b24, .ref b25, .ref b26, .ref b27, .ref b28, .ref b29, .int (nI tc), .ref b30, .int (nI ncc), .long mk, .int fd, .int bs, .int (nI ps), .ref b31, .ref b32, .int sn, .int kt, .int bh]))] := hD
            refine lv_aload_n hx hb dX10_goal_123 rfl (lv_at hl 1 rfl) ?_
            refine lv_dup hx hb dX10_goal_124 rfl ?_
            refine r_get (v := .int (nI ng)) C hP okX10 3 21 rfl (by decide) fl_X10_138 rfl rfl dX10_goal_125 ?_
            refine lv_iconst (v := 1) hx hb dX10_goal_128 (by decide) ?_
            refine lv_iadd hx hb dX10_goal_129 ?_
            refine r_top (x' := nI (ng + 1)) (nI_add ng 1) ?_
            refine r_put (v := .int (nI (ng + 1))) C hP hD hS okX10 3 21 rfl (by decide) fl_X10_138 rfl rfl rfl rfl (Nat.le_of_ble_eq_true rfl) dX10_goal_130 (fun H locs hP hD hS => ?_)
            have hP : va_P D vwCl [(b16, .inl (cI, 4, .inl (upd gk ng k0))), (b17, .inl (cI, 4, .inl (upd ga ng a0_))), (b18, .inl (cI, 4, .inl (upd gb ng b0_))), (bx, .inr (11, [.int 0, .int (nI n), .ref b0, .ref b1, .ref b2, .int (nI nm), .ref b3, .ref b4, .ref b5, .ref b6, .ref b7, .ref b8, .ref b9, .ref b10, .ref b11, .ref b12, .int (nI nk), .ref b13, .ref b14, .ref b15, .int (nI nd), .int (nI (ng + 1)), .ref b16, .ref b17, .ref b18, .ref b19, .int be, .int bl, .ref b20, .int pe, .int (nI nn), .ref b21, .ref b22, .ref b23, .ref b24, .ref b25, .ref b26, .ref b27, .ref b28, .ref b29, .int (nI tc), .ref b30, .int (nI ncc), .long mk, .int fd, .int bs, .int (nI ps), .ref b31, .ref b32, .int sn, .int kt, .int bh]))] H := hP
            have hD : va_D A [(b16, .inl (cI, 4, .inl (upd gk ng k0))), (b17, .inl (cI, 4, .inl (upd ga ng a0_))), (b18, .inl (cI, 4, .inl (upd gb ng b0_))), (bx, .inr (11, [.int 0, .int (nI n), .ref b0, .ref b1, .ref b2, .int (nI nm), .ref b3, .ref b4, .ref b5, .ref b6, .ref b7, .ref b8, .ref b9, .ref b10, .ref b11, .ref b12, .int (nI nk), .ref b13, .ref b14, .ref b15, .int (nI nd), .int (nI (ng + 1)), .ref b16, .ref b17, .ref b18, .ref b19, .int be, .int bl, .ref b20, .int pe, .int (nI nn), .ref b21, .ref b22, .ref b23, .ref b24, .ref b25, .ref b26, .ref b27, .ref b28, .ref b29, .int (nI tc), .ref b30, .int (nI ncc), .long mk, .int fd, .int bs, .int (nI ps), .ref b31, .ref b32, .int sn, .int kt, .int bh]))] := hD
            refine lv_aload_n hx hb dX10_goal_133 rfl (lv_at hl 1 rfl) ?_
            refine r_get (v := .int (nI (ng + 1))) C hP okX10 3 21 rfl (by decide) fl_X10_138 rfl rfl dX10_goal_134 ?_
            exact rt_i C hQ (hP.sub (ws' := [(bx, .inr (11, [.int 0, .int (nI n), .ref b0, .ref b1, .ref b2, .int (nI nm), .ref b3, .ref b4, .ref b5, .ref b6, .ref b7, .ref b8, .ref b9, .ref b10, .ref b11, .ref b12, .int (nI nk), .ref b13, .ref b14, .ref b15, .int (nI nd), .int (nI (ng + 1)), .ref b16, .ref b17, .ref b18, .ref b19, .int be, .int bl, .ref b20, .int pe, .int (nI nn), .ref b21, .ref b22, .ref b23, .ref b24, .ref b25, .ref b26, .ref b27, .ref b28, .ref b29, .int (nI tc), .ref b30, .int (nI ncc), .long mk, .int fd, .int bs, .int (nI ps), .ref b31, .ref b32, .int sn, .int kt, .int bh])), (b16, .inl (cI, 4, .inl (upd gk ng k0))), (b17, .inl (cI, 4, .inl (upd ga ng a0_))), (b18, .inl (cI, 4, .inl (upd gb ng b0_)))]) [3, 0, 1, 2] rfl) (hD.sub [3, 0, 1, 2] (by decide) rfl) hS (by have hP_ : f_isPart n k0 a0_ b0_ = true ∧ ng < 4 := ⟨hgood, by omega⟩; exact ⟨by rw [if_pos hP_], by simp only [if_pos hP_]⟩) (by decide) (by decide) dX10_goal_137
set_option maxHeartbeats 4000000 in
set_option maxRecDepth 100000 in
theorem c_X10_clear (l : Launch) (D : va_G) (cI cJ cZ : ClassId) (bx : Nat) (b0 : Nat) (b1 : Nat) (b2 : Nat) (b3 : Nat) (b4 : Nat) (b5 : Nat) (b6 : Nat) (b7 : Nat) (b8 : Nat) (b9 : Nat) (b10 : Nat) (b11 : Nat) (b12 : Nat) (b13 : Nat) (b14 : Nat) (b15 : Nat) (b16 : Nat) (b17 : Nat) (b18 : Nat) (b19 : Nat) (b20 : Nat) (b21 : Nat) (b22 : Nat) (b23 : Nat) (b24 : Nat) (b25 : Nat) (b26 : Nat) (b27 : Nat) (b28 : Nat) (b29 : Nat) (b30 : Nat) (b31 : Nat) (b32 : Nat) (th : Int32) (n : Nat) (nm : Nat) (nk : Nat) (nd : Nat) (ng : Nat) (be : Int32) (bl : Int32) (pe : Int32) (nn : Nat) (tc : Nat) (ncc : Nat) (mk : Int64) (fd : Int32) (bs : Int32) (ps : Nat) (sn : Int32) (kt : Int32) (bh : Int32)  : Ctr l D cI cJ cZ yX10_clear cX10_clear 2 (some .int) ({ frames := 0, cells := 0, slots := 0, locals := 0 } : Room) [.ref bx] [(bx, .inr (11, [.int th, .int (nI n), .ref b0, .ref b1, .ref b2, .int (nI nm), .ref b3, .ref b4, .ref b5, .ref b6, .ref b7, .ref b8, .ref b9, .ref b10, .ref b11, .ref b12, .int (nI nk), .ref b13, .ref b14, .ref b15, .int (nI nd), .int (nI ng), .ref b16, .ref b17, .ref b18, .ref b19, .int be, .int bl, .ref b20, .int pe, .int (nI nn), .ref b21, .ref b22, .ref b23, .ref b24, .ref b25, .ref b26, .ref b27, .ref b28, .ref b29, .int (nI tc), .ref b30, .int (nI ncc), .long mk, .int fd, .int bs, .int (nI ps), .ref b31, .ref b32, .int sn, .int kt, .int bh]))] (fun r W => r = some (.int (nI ng)) ∧ W = [(bx, .inr (11, [.int 0, .int (nI n), .ref b0, .ref b1, .ref b2, .int (nI nm), .ref b3, .ref b4, .ref b5, .ref b6, .ref b7, .ref b8, .ref b9, .ref b10, .ref b11, .ref b12, .int (nI nk), .ref b13, .ref b14, .ref b15, .int (nI nd), .int (nI 0), .ref b16, .ref b17, .ref b18, .ref b19, .int be, .int bl, .ref b20, .int pe, .int (nI nn), .ref b21, .ref b22, .ref b23, .ref b24, .ref b25, .ref b26, .ref b27, .ref b28, .ref b29, .int (nI tc), .ref b30, .int (nI ncc), .long mk, .int fd, .int bs, .int (nI ps), .ref b31, .ref b32, .int sn, .int kt, .int bh]))]) := by
  refine Ctr.start (by decide +kernel) (Nat.le_of_ble_eq_true rfl) ?_
  intro p e s m below meth c A Q ls H C hQ hA hP hD hS hl
  obtain ⟨hx, hb, hr, hml, hts, hown, hlk, hnm, hK, hN⟩ := id C
  have hl : lv_has ls 2 [(0, .ref bx)] := hl
  refine lv_aload_n hx hb dX10_clear_0 rfl (lv_at hl 0 rfl) ?_
  refine lv_iconst (v := 0) hx hb dX10_clear_1 (by decide) ?_
  refine r_put (v := .int 0) C hP hD hS okX10 0 0 rfl (by decide) fl_X10_111 rfl rfl rfl rfl (Nat.le_of_ble_eq_true rfl) dX10_clear_2 (fun H locs hP hD hS => ?_)
  have hP : va_P D vwCl [(bx, .inr (11, [.int 0, .int (nI n), .ref b0, .ref b1, .ref b2, .int (nI nm), .ref b3, .ref b4, .ref b5, .ref b6, .ref b7, .ref b8, .ref b9, .ref b10, .ref b11, .ref b12, .int (nI nk), .ref b13, .ref b14, .ref b15, .int (nI nd), .int (nI ng), .ref b16, .ref b17, .ref b18, .ref b19, .int be, .int bl, .ref b20, .int pe, .int (nI nn), .ref b21, .ref b22, .ref b23, .ref b24, .ref b25, .ref b26, .ref b27, .ref b28, .ref b29, .int (nI tc), .ref b30, .int (nI ncc), .long mk, .int fd, .int bs, .int (nI ps), .ref b31, .ref b32, .int sn, .int kt, .int bh]))] H := hP
  have hD : va_D A [(bx, .inr (11, [.int 0, .int (nI n), .ref b0, .ref b1, .ref b2, .int (nI nm), .ref b3, .ref b4, .ref b5, .ref b6, .ref b7, .ref b8, .ref b9, .ref b10, .ref b11, .ref b12, .int (nI nk), .ref b13, .ref b14, .ref b15, .int (nI nd), .int (nI ng), .ref b16, .ref b17, .ref b18, .ref b19, .int be, .int bl, .ref b20, .int pe, .int (nI nn), .ref b21, .ref b22, .ref b23, .ref b24, .ref b25, .ref b26, .ref b27, .ref b28, .ref b29, .int (nI tc), .ref b30, .int (nI ncc), .long mk, .int fd, .int bs, .int (nI ps), .ref b31, .ref b32, .int sn, .int kt, .int bh]))] := hD
  refine lv_aload_n hx hb dX10_clear_5 rfl (lv_at hl 0 rfl) ?_
  refine r_get (v := .int (nI ng)) C hP okX10 0 21 rfl (by decide) fl_X10_138 rfl rfl dX10_clear_6 ?_
  refine lv_istore_n (lv' := [(1, .int (nI ng)), (0, .ref bx)]) hx hb dX10_clear_9 rfl hl (by decide) rfl (fun ls hl => ?_)
  refine lv_aload_n hx hb dX10_clear_10 rfl (lv_at hl 1 rfl) ?_
  refine lv_iconst (v := 0) hx hb dX10_clear_11 (by decide) ?_
  refine r_put (v := .int 0) C hP hD hS okX10 0 21 rfl (by decide) fl_X10_138 rfl rfl rfl rfl (Nat.le_of_ble_eq_true rfl) dX10_clear_12 (fun H locs hP hD hS => ?_)
  have hP : va_P D vwCl [(bx, .inr (11, [.int 0, .int (nI n), .ref b0, .ref b1, .ref b2, .int (nI nm), .ref b3, .ref b4, .ref b5, .ref b6, .ref b7, .ref b8, .ref b9, .ref b10, .ref b11, .ref b12, .int (nI nk), .ref b13, .ref b14, .ref b15, .int (nI nd), .int 0, .ref b16, .ref b17, .ref b18, .ref b19, .int be, .int bl, .ref b20, .int pe, .int (nI nn), .ref b21, .ref b22, .ref b23, .ref b24, .ref b25, .ref b26, .ref b27, .ref b28, .ref b29, .int (nI tc), .ref b30, .int (nI ncc), .long mk, .int fd, .int bs, .int (nI ps), .ref b31, .ref b32, .int sn, .int kt, .int bh]))] H := hP
  have hD : va_D A [(bx, .inr (11, [.int 0, .int (nI n), .ref b0, .ref b1, .ref b2, .int (nI nm), .ref b3, .ref b4, .ref b5, .ref b6, .ref b7, .ref b8, .ref b9, .ref b10, .ref b11, .ref b12, .int (nI nk), .ref b13, .ref b14, .ref b15, .int (nI nd), .int 0, .ref b16, .ref b17, .ref b18, .ref b19, .int be, .int bl, .ref b20, .int pe, .int (nI nn), .ref b21, .ref b22, .ref b23, .ref b24, .ref b25, .ref b26, .ref b27, .ref b28, .ref b29, .int (nI tc), .ref b30, .int (nI ncc), .long mk, .int fd, .int bs, .int (nI ps), .ref b31, .ref b32, .int sn, .int kt, .int bh]))] := hD
  refine lv_iload_n hx hb dX10_clear_15 rfl (lv_at hl 0 rfl) ?_
  exact rt_i C hQ (hP.sub (ws' := [(bx, .inr (11, [.int 0, .int (nI n), .ref b0, .ref b1, .ref b2, .int (nI nm), .ref b3, .ref b4, .ref b5, .ref b6, .ref b7, .ref b8, .ref b9, .ref b10, .ref b11, .ref b12, .int (nI nk), .ref b13, .ref b14, .ref b15, .int (nI nd), .int 0, .ref b16, .ref b17, .ref b18, .ref b19, .int be, .int bl, .ref b20, .int pe, .int (nI nn), .ref b21, .ref b22, .ref b23, .ref b24, .ref b25, .ref b26, .ref b27, .ref b28, .ref b29, .int (nI tc), .ref b30, .int (nI ncc), .long mk, .int fd, .int bs, .int (nI ps), .ref b31, .ref b32, .int sn, .int kt, .int bh]))]) [0] rfl) (hD.sub [0] (by decide) rfl) hS ⟨rfl, rfl⟩ (by decide) (by decide) dX10_clear_16
