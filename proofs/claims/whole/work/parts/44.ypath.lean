/-! the model: tellPlay, beginSearch (written by s25.py) -/
def f_noclk (bk : Nat → Int32) : Nat → Bool
  | 0 => true
  | k + 1 => f_noclk bk k && decide (bk k = 0)
def anc (nb : Nat → Int32) : Nat → Nat → Nat
  | 0, k => k
  | e + 1, k => (nb (anc nb e k)).toNatClampNeg
theorem anc_ok {Z : ZN} (h : treeOK Z) (hz : Z.1 ≤ 1500) {la : Nat} (hla : la < Z.1) : ∀ e, e ≤ z_d Z la → anc (z_b Z) e la < Z.1 ∧ z_d Z (anc (z_b Z) e la) + e = z_d Z la
  | 0, _ => ⟨hla, rfl⟩
  | e + 1, he => by
    obtain ⟨a, b⟩ := anc_ok h hz hla e (by omega)
    have hp : 0 < anc (z_b Z) e la := by
      rcases Nat.eq_zero_or_pos (anc (z_b Z) e la) with q | q
      · rw [q, h.1] at b
        omega
      · exact q
    obtain ⟨b', st, e1, e2, -, -, e5⟩ := h.2 _ hp a
    have e6 : anc (z_b Z) (e + 1) la = b' := by
      show (z_b Z (anc (z_b Z) e la)).toNatClampNeg = b'
      rw [e1, nI_clamp (by omega)]
    rw [e6]
    exact ⟨by omega, by omega⟩
theorem anc_step {Z : ZN} (h : treeOK Z) (hz : Z.1 ≤ 1500) {la : Nat} (hla : la < Z.1) (sz ro : Nat → Nat) {e : Nat} (he : e < z_d Z la) : ∃ st, z_s Z (anc (z_b Z) e la) = nI st ∧ stOK st ∧ z_b Z (anc (z_b Z) e la) = nI (anc (z_b Z) (e + 1) la) ∧ anc (z_b Z) (e + 1) la < anc (z_b Z) e la ∧ f_path (z_b Z) (z_s Z) sz ro (z_d Z la - e) (anc (z_b Z) e la) = f_path (z_b Z) (z_s Z) sz ro (z_d Z la - (e + 1)) (anc (z_b Z) (e + 1) la) ++ stMoves sz ro st := by
  obtain ⟨a, b⟩ := anc_ok h hz hla e (by omega)
  have hp : 0 < anc (z_b Z) e la := by
    rcases Nat.eq_zero_or_pos (anc (z_b Z) e la) with q | q
    · rw [q, h.1] at b
      omega
    · exact q
  obtain ⟨b', st, e1, e2, e3, e4, e5⟩ := h.2 _ hp a
  have e6 : anc (z_b Z) (e + 1) la = b' := by
    show (z_b Z (anc (z_b Z) e la)).toNatClampNeg = b'
    rw [e1, nI_clamp (by omega)]
  have hs8 : st < 108 := by rcases e4 with z | z <;> omega
  refine ⟨st, e3, e4, by rw [e6]; exact e1, by rw [e6]; exact e2, ?_⟩
  rw [show z_d Z la - e = (z_d Z la - (e + 1)) + 1 by omega]
  show f_path (z_b Z) (z_s Z) sz ro (z_d Z la - (e + 1)) (z_b Z (anc (z_b Z) e la)).toNatClampNeg ++ stMoves sz ro (z_s Z (anc (z_b Z) e la)).toNatClampNeg = _
  rw [e3, nI_clamp (show st < 2 ^ 31 by omega)]
  rfl
theorem heldAt_low {g pv : Nat → Int32} {sz ro : Nat → Nat} {st s1 : Nat} {l : List Nat} (h : ∀ k, g k = if s1 ≤ k ∧ k < s1 + n_size sz st then nI (n_mv ro st (k - s1)) else pv k) (hl : heldAt pv 0 l) (hs : l.length ≤ s1) : heldAt g 0 l := fun i hi => by
  rw [h, if_neg (by omega)]
  exact hl i hi
theorem b2i_and1 (b : Bool) : b2i b &&& 1 = b2i b := by cases b <;> rfl
theorem b2i_and0 (b : Bool) : b2i b &&& 0 = b2i false := by cases b <;> rfl
def f_mask (bk : Nat → Int32) : Nat → Int64
  | 0 => 0
  | k + 1 => f_nc (f_mask bk k) (bk k) k
