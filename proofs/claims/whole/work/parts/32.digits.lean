/-! digits of a packed WORLD (pure, by hand) -/
def dN (W k : Nat) : Nat := W / 16 ^ k % 16
theorem p16 (k : Nat) : 16 ^ k = 2 ^ (4 * k) := by rw [Nat.pow_mul]
theorem four_nI (c : Nat) : (4 : Int32) * nI c = nI (4 * c) := pk_mul 4 c
theorem dN_lt (W k : Nat) : dN W k < 16 := Nat.mod_lt _ (by decide)
theorem dg_val {W c : Nat} (hW : W < 2 ^ 64) (hc : c < 16) : f_valueIn (lN W) (nI c) = nI (dN W c) := by
  simp only [f_valueIn, dN]
  rw [four_nI, wb_shr hW (by omega), show (15 : Int64) = lN (2 ^ 4 - 1) from rfl, wb_mask (k := 4) (Nat.lt_of_le_of_lt (Nat.div_le_self _ _) hW) (by decide), lN_i, p16]
theorem dN_bit (W k i : Nat) : (dN W k).testBit i = (decide (i < 4) && W.testBit (4 * k + i)) := by
  simp only [dN]
  rw [show (16 : Nat) = 2 ^ 4 from rfl, Nat.testBit_mod_two_pow, ← Nat.pow_mul, Nat.testBit_div_two_pow, Nat.add_comm]
def uW (w : Int64) : Nat := w.toBitVec.toNat
theorem uW_lt (w : Int64) : uW w < 2 ^ 64 := w.toBitVec.isLt
theorem uW_eq (w : Int64) : w = lN (uW w) := wb_inj (by rw [wb_tb]; simp [uW])
theorem dgs_N (w : Int64) {k : Nat} (hk : k < 16) : dgs w k = nI (dN (uW w) k) := by
  simp only [dgs]
  rw [uW_eq w, dg_val (uW_lt w) hk, ← uW_eq w]
theorem nI_inj {a b : Nat} (ha : a < 2 ^ 31) (hb : b < 2 ^ 31) (h : nI a = nI b) : a = b := (nI_eq ha hb).mp h
theorem dig_ext {w w' : Int64} (h : ∀ k, k < 16 → dgs w k = dgs w' k) : w = w' := by
  apply wb_inj
  apply BitVec.eq_of_getLsbD_eq
  intro p hp
  have h1 := h (p / 4) (by omega)
  rw [dgs_N w (by omega), dgs_N w' (by omega)] at h1
  have h2 := nI_inj (by have := dN_lt (uW w) (p / 4); omega) (by have := dN_lt (uW w') (p / 4); omega) h1
  have h3 : (dN (uW w) (p / 4)).testBit (p % 4) = (dN (uW w') (p / 4)).testBit (p % 4) := by rw [h2]
  rw [dN_bit, dN_bit, show 4 * (p / 4) + p % 4 = p by omega] at h3
  simp only [show p % 4 < 4 by omega, decide_true, Bool.true_and] at h3
  exact h3
theorem set_bits {W c v p : Nat} (hp : p < 64) : (uW ((lN W &&& (lN (15 * 2 ^ (4 * c)) ^^^ (-1))) ||| lN (v * 2 ^ (4 * c)))).testBit p = ((W.testBit p && !(decide (4 * c ≤ p) && (15 : Nat).testBit (p - 4 * c))) || (decide (4 * c ≤ p) && v.testBit (p - 4 * c))) := by
  show BitVec.getLsbD _ p = _
  rw [Int64.toBitVec_or, Int64.toBitVec_and, Int64.toBitVec_xor, wb_tb, wb_tb, wb_tb]
  rw [BitVec.getLsbD_or, BitVec.getLsbD_and, BitVec.getLsbD_xor]
  have e1 : (-1 : Int64).toBitVec.getLsbD p = true := by
    rw [show (-1 : Int64).toBitVec = BitVec.allOnes 64 by decide +kernel, BitVec.getLsbD_allOnes]
    simp [hp]
  rw [e1]
  simp only [BitVec.getLsbD_ofNat, hp, decide_true, Bool.true_and, Nat.testBit_mul_two_pow, ge_iff_le, Bool.xor_true]
theorem dg_set {w : Int64} {c v k : Nat} (hc : c < 16) (hv : v < 16) (hk : k < 16) : dgs (f_withValue w (nI c) (nI v)) k = if k = c then nI v else dgs w k := by
  have e : f_withValue w (nI c) (nI v) = (lN (uW w) &&& (lN (15 * 2 ^ (4 * c)) ^^^ (-1))) ||| lN (v * 2 ^ (4 * c)) := by
    simp only [f_withValue]
    rw [four_nI, nI_l (n := v) (by omega), wb_shl v (by omega), show (15 : Int64) = lN 15 from rfl, wb_shl 15 (by omega), ← uW_eq]
  rw [e, dgs_N _ hk]
  have key : dN (uW ((lN (uW w) &&& (lN (15 * 2 ^ (4 * c)) ^^^ (-1))) ||| lN (v * 2 ^ (4 * c)))) k = if k = c then v else dN (uW w) k := by
    apply Nat.eq_of_testBit_eq
    intro i
    rw [dN_bit]
    by_cases hi : i < 4
    · rw [set_bits (by omega)]
      have m15 : ∀ q, (15 : Nat).testBit q = decide (q < 4) := fun q => by
        rw [show (15 : Nat) = 2 ^ 4 - 1 from rfl, Nat.testBit_two_pow_sub_one]
      rw [m15]
      by_cases hkc : k = c
      · subst hkc
        rw [if_pos rfl]
        simp [hi]
      · rw [if_neg hkc, dN_bit]
        simp only [hi, decide_true, Bool.true_and]
        by_cases hp : 4 * c ≤ 4 * k + i
        · have h4 : ¬ (4 * k + i - 4 * c < 4) := by omega
          have hv2 : v.testBit (4 * k + i - 4 * c) = false := Nat.testBit_lt_two_pow (Nat.lt_of_lt_of_le hv (by
            rw [show (16 : Nat) = 2 ^ 4 from rfl]
            exact Nat.pow_le_pow_right (by decide) (by omega)))
          simp [h4, hv2]
        · simp [hp]
    · simp only [hi, decide_false, Bool.false_and]
      have h2 : ∀ z, z < 16 → false = z.testBit i := fun z hz => (Nat.testBit_lt_two_pow (Nat.lt_of_lt_of_le hz (by
        rw [show (16 : Nat) = 2 ^ 4 from rfl]
        exact Nat.pow_le_pow_right (by decide) (by omega)))).symm
      split
      · exact h2 v hv
      · exact h2 _ (dN_lt _ _)
  rw [key]
  split
  · rfl
  · rw [dgs_N w hk]
/-- a WORLD of n CELLS: values 0 .. 9, nothing behind them -/
def wfW (n : Nat) (w : Int64) : Prop := ∀ k, k < 16 → ∃ d, d < 10 ∧ dgs w k = nI d ∧ (n ≤ k → d = 0)
/-- an array holds the values of a WORLD -/
def dgOK (n : Nat) (f : Nat → Int32) (w : Int64) : Prop := ∀ k, k < n → f k = dgs w k
theorem wfW_set {n c v : Nat} {w : Int64} (h : wfW n w) (hc : c < n) (hn : n ≤ 10) (hv : v < 10) : wfW n (f_withValue w (nI c) (nI v)) := fun k hk => by
  rw [dg_set (by omega) (by omega) hk]
  by_cases e : k = c
  · rw [if_pos e]
    exact ⟨v, hv, rfl, fun z => by omega⟩
  · rw [if_neg e]
    exact h k hk
theorem dgOK_set {n c v : Nat} {f : Nat → Int32} {w : Int64} (h : dgOK n f w) (hc : c < n) (hn : n ≤ 10) (hv : v < 10) : dgOK n (upd f c (nI v)) (f_withValue w (nI c) (nI v)) := fun k hk => by
  rw [dg_set (by omega) (by omega) (by omega)]
  simp only [upd]
  by_cases e : k = c
  · rw [if_pos e, if_pos e]
  · rw [if_neg e, if_neg e]
    exact h k hk
theorem wfW_0 (n : Nat) : wfW n 0 := fun k hk => ⟨0, by decide, by
  rw [dgs_N 0 hk]
  have : uW 0 = 0 := by decide +kernel
  rw [this]
  simp [dN], fun _ => rfl⟩
theorem wfW_grow {n : Nat} {w : Int64} (h : wfW n w) : wfW (n + 1) w := fun k hk => by
  obtain ⟨d, h1, h2, h3⟩ := h k hk
  exact ⟨d, h1, h2, fun z => h3 (by omega)⟩
theorem wfW_ext {n : Nat} {w w' : Int64} (h : wfW n w) (h' : wfW n w') (hn : n ≤ 16) (e : ∀ k, k < n → dgs w k = dgs w' k) : w = w' := dig_ext (fun k hk => by
  rcases Nat.lt_or_ge k n with q | q
  · exact e k q
  · obtain ⟨d, -, h2, h3⟩ := h k hk
    obtain ⟨d', -, h2', h3'⟩ := h' k hk
    rw [h2, h2', h3 q, h3' q])
