/-! pure words: ranges -/
def inR (x : Int32) (n : Nat) : Bool := decide (0 ≤ x) && decide (x < nI n)
def rg (x a b : Int32) : Bool := decide (a ≤ x) && decide (x ≤ b)
theorem rg_iff {x a b : Int32} : rg x a b = true ↔ a ≤ x ∧ x ≤ b := by simp [rg]
theorem rg_y {x a b : Int32} (h1 : ¬ x < a) (h2 : ¬ b < x) : rg x a b = true := rg_iff.mpr ⟨Int32.not_lt.mp h1, Int32.not_lt.mp h2⟩
theorem rg_n1 {x a b : Int32} (h : x < a) : ¬ rg x a b = true := fun z => absurd (rg_iff.mp z).1 (Int32.not_le.mpr h)
theorem rg_n2 {x a b : Int32} (h : b < x) : ¬ rg x a b = true := fun z => absurd (rg_iff.mp z).2 (Int32.not_le.mpr h)
theorem inR_iff {x : Int32} {n : Nat} (hn : n < 2 ^ 31) : inR x n = true ↔ ∃ j, j < n ∧ x = nI j := by
  simp only [inR, Bool.and_eq_true, decide_eq_true_eq]
  constructor
  · rintro ⟨h0, h1⟩
    obtain ⟨j, hj, rfl⟩ := nI_of (x := x) (by rw [Int32.not_lt]; exact h0)
    exact ⟨j, (nI_ltI hj hn).mp h1, rfl⟩
  · rintro ⟨j, hj, rfl⟩
    exact ⟨nI_pos' (by omega), nI_lt hj hn⟩
theorem inR_y {x : Int32} {n : Nat} (h1 : ¬ x < 0) (h2 : ¬ nI n ≤ x) : inR x n = true := by simp [inR, Int32.not_lt.mp h1, Int32.not_le.mp h2]
theorem inR_n1 {x : Int32} {n : Nat} (h : x < 0) : ¬ inR x n = true := by simp [inR, Int32.not_le.mpr h]
theorem inR_n2 {x : Int32} {n : Nat} (h : nI n ≤ x) : ¬ inR x n = true := by simp [inR, Int32.not_lt.mpr h]
theorem inR_nI {j n : Nat} (h : j < n) (hn : n < 2 ^ 31) : inR (nI j) n = true := (inR_iff hn).mpr ⟨j, h, rfl⟩
theorem rg_nat {x b : Int32} {n : Nat} (hb : b.toInt = n) (h : rg x 0 b = true) : ∃ j, j ≤ n ∧ x = nI j := by
  obtain ⟨h1, h2⟩ := rg_iff.mp h
  exact nI_of2 hb (Int32.not_lt.mpr h1) h2
theorem rg_of_nI {j n : Nat} {b : Int32} (hb : b.toInt = n) (hn : n < 2 ^ 31) (h : j ≤ n) : rg (nI j) 0 b = true := by
  refine rg_iff.mpr ⟨nI_pos' (by omega), ?_⟩
  rw [Int32.le_iff_toInt_le, nI_toInt (by omega), hb]
  omega
theorem q_rng {x : Int32} {n : Nat} (hn : n < 2 ^ 31) : (0 ≤ x ∧ x ≤ nI n - 1) ↔ ∃ j, j < n ∧ x = nI j := by
  constructor
  · rintro ⟨h0, h1⟩
    obtain ⟨j, hj, rfl⟩ := nI_of (x := x) (by rw [Int32.not_lt]; exact h0)
    rcases Nat.eq_zero_or_pos n with rfl | hp
    · have : ¬ nI j ≤ nI 0 - 1 := by
        rw [Int32.le_iff_toInt_le, nI_toInt hj]
        have : (nI 0 - 1).toInt = -1 := by decide +kernel
        omega
      exact absurd h1 this
    · have e : nI n - 1 = nI (n - 1) := pk_sub (b := 1) hp
      rw [e] at h1
      have := (nI_leI hj (by omega)).mp h1
      exact ⟨j, by omega, rfl⟩
  · rintro ⟨j, hj, rfl⟩
    have e : nI n - 1 = nI (n - 1) := pk_sub (b := 1) (by omega)
    rw [e]
    exact ⟨nI_pos' (by omega), nI_le (by omega) (by omega)⟩
theorem q_nrng {x : Int32} {n : Nat} (hn : n < 2 ^ 31) (h : ¬ (0 ≤ x ∧ x ≤ nI n - 1)) : ¬ ∃ j, j < n ∧ x = nI j := fun z => h ((q_rng hn).mpr z)
theorem q_inR {x : Int32} {n : Nat} (hn : n < 2 ^ 31) (h : 0 ≤ x ∧ x ≤ nI n - 1) : inR x n = true := (inR_iff hn).mpr ((q_rng hn).mp h)
theorem q_ninR {x : Int32} {n : Nat} (hn : n < 2 ^ 31) (h : ¬ (0 ≤ x ∧ x ≤ nI n - 1)) : ¬ inR x n = true := fun z => h ((q_rng hn).mpr ((inR_iff hn).mp z))
def b2i (b : Bool) : Int32 := if b then 1 else 0
