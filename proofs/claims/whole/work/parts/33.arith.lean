/-! arithmetic of the model beside the class's (pure, by hand) -/
theorem uW_small {n : Nat} {w : Int64} (h : wfW n w) (hn : n ≤ 10) : uW w < 2 ^ 40 := by
  have hz : ∀ k, 10 ≤ k → k < 16 → dN (uW w) k = 0 := fun k h1 h2 => by
    obtain ⟨d, hd, e, hd0⟩ := h k h2
    rw [dgs_N w h2, hd0 (by omega)] at e
    exact nI_inj (by have := dN_lt (uW w) k; omega) (by decide) e
  have hl := uW_lt w
  have h10 := hz 10 (by decide) (by decide)
  have h11 := hz 11 (by decide) (by decide)
  have h12 := hz 12 (by decide) (by decide)
  have h13 := hz 13 (by decide) (by decide)
  have h14 := hz 14 (by decide) (by decide)
  have h15 := hz 15 (by decide) (by decide)
  simp only [dN] at h10 h11 h12 h13 h14 h15
  omega
theorem wf_dig {n k : Nat} {w : Int64} (h : wfW n w) (hk : k < 16) : ∃ d, d < 10 ∧ dgs w k = nI d ∧ dN (uW w) k = d := by
  obtain ⟨d, hd, e, -⟩ := h k hk
  refine ⟨d, hd, e, ?_⟩
  rw [dgs_N w hk] at e
  exact nI_inj (by have := dN_lt (uW w) k; omega) (by omega) e
/-- packed: 'w << 4 | d' -/
theorem pk_step {a d : Nat} (ha : a < 2 ^ 60) (hd : d < 16) : (lN a <<< ((4 : Int32).toInt64 &&& 63)) ||| (nI d).toInt64 = lN (a * 16 + d) := by
  rw [show (4 : Int32) = nI 4 from rfl, wb_shl a (by decide), nI_l (by omega), wb_or (by omega) (by omega)]
  congr 1
  have h1 := Nat.two_pow_add_eq_or_of_lt (i := 4) (b := d) (by omega) a
  rw [show a * 2 ^ 4 = 2 ^ 4 * a from Nat.mul_comm _ _, ← h1]
theorem dN_down (W c : Nat) : W / 16 ^ (c + 1) * 16 + dN W c = W / 16 ^ c := by
  simp only [dN]
  rw [Nat.pow_succ, ← Nat.div_div_eq_div_mul]
  omega
/-- unpack: '(int) (w >> 4 * c) & 15' -/
theorem un_step {n c : Nat} {w : Int64} (h : wfW n w) (hn : n ≤ 10) (hc : c < 16) : (w >>> ((nI (4 * c)).toInt64 &&& 63)).toInt32 &&& 15 = dgs w c := by
  have hs := uW_small h hn
  have e1 : w >>> ((nI (4 * c)).toInt64 &&& 63) = lN (uW w / 2 ^ (4 * c)) := by
    rw [wb_c _ (by omega)]
    apply Int64.toInt_inj.mp
    have h1 : (lN (4 * c)).toBitVec.smod 64 = BitVec.ofNat 64 (4 * c) := by rw [wb_tb]; exact wb_sm _ (by omega)
    have h2 : w.toInt = (uW w : Int) := by
      conv => lhs; rw [uW_eq w]
      exact pk_lT (by omega)
    rw [pk_lT (Nat.lt_of_le_of_lt (Nat.div_le_self _ _) (by omega))]
    show (w.toBitVec.sshiftRight' ((lN (4 * c)).toBitVec.smod 64)).toInt = _
    rw [h1, BitVec.sshiftRight', BitVec.toInt_sshiftRight]
    rw [show (BitVec.ofNat 64 (4 * c)).toNat = 4 * c by rw [BitVec.toNat_ofNat]; omega]
    show w.toInt >>> (4 * c) = _
    rw [h2, Int.shiftRight_eq_div_pow]
    norm_cast
  rw [e1, lN_i, pk_and (m := 15) _ 4 (by decide), dgs_N w hc]
  congr 1
  simp only [dN]
  rw [p16]
  show (BitVec.ofNat 32 _).toNat % 2 ^ 4 = _
  rw [BitVec.toNat_ofNat]
  generalize uW w / 2 ^ (4 * c) = X
  omega
/-- '(x + v + 10) % 10' is the floorMod -/
theorem fm_tab : ∀ a, a < 10 → ∀ b, b < 19 → irem (nI a + (nI b - 9) + 10) 10 = f_floorMod (nI a + (nI b - 9)) 10 ∧ ∃ d, d < 10 ∧ f_floorMod (nI a + (nI b - 9)) 10 = nI d := by decide +kernel
theorem fm_eq {a : Nat} {v : Int32} (ha : a < 10) (hv : rg v (-9) 9 = true) : irem (nI a + v + 10) 10 = f_floorMod (nI a + v) 10 ∧ ∃ d, d < 10 ∧ f_floorMod (nI a + v) 10 = nI d := by
  obtain ⟨h1, h2⟩ := rg_iff.mp hv
  rw [Int32.le_iff_toInt_le] at h1 h2
  have e1 : (-9 : Int32).toInt = -9 := by decide
  have e2 : (9 : Int32).toInt = 9 := by decide
  have e : v = nI (v.toInt + 9).toNat - 9 := by
    apply Int32.toInt_inj.mp
    rw [show (9 : Int32) = nI 9 from rfl, pk_sub_toInt (by omega) (by decide)]
    omega
  rw [e]
  exact fm_tab a ha _ (by omega)
/-- the tape, as naturals -/
def chN (d : Nat → Nat) : Nat → Nat
  | 0 => 0
  | k + 1 => (131 * chN d k + d k + 1) % 2147483647
theorem chN_lt (d : Nat → Nat) : ∀ k, chN d k < 2147483647
  | 0 => (by show 0 < 2147483647; decide)
  | k + 1 => Nat.mod_lt _ (by decide)
theorem lrem_n {a b : Nat} (ha : a < 2 ^ 63) (h0 : 0 < b) (hb : b < 2 ^ 63) : lrem (lN a) (lN b) = lN (a % b) := pk_lRem ha h0 hb
theorem f_ch_n {v : Nat → Int32} {d : Nat → Nat} : ∀ k, (∀ j, j < k → v j = nI (d j) ∧ d j < 10) → f_ch v k = lN (chN d k)
  | 0, _ => rfl
  | k + 1, h => by
    obtain ⟨e, hd⟩ := h k (by omega)
    have hl := chN_lt d k
    simp only [f_ch, chN]
    rw [f_ch_n k (fun j hj => h j (by omega)), e, nI_l (by omega), show (131 : Int64) = lN 131 from rfl, lN_mul, lN_add, show (1 : Int64) = lN 1 from rfl, lN_add, show (2147483647 : Int64) = lN 2147483647 from rfl, lrem_n (by omega) (by decide) (by decide)]
def chM (d : Nat → Nat) (n m : Nat) : Nat := (131 * chN d n + m + 1) % 2147483647
theorem chM_lt (d : Nat → Nat) (n m : Nat) : chM d n m < 2147483647 := Nat.mod_lt _ (by decide)
theorem f_chance_n {v : Nat → Int32} {d : Nat → Nat} {n m : Nat} (h : ∀ j, j < n → v j = nI (d j) ∧ d j < 10) (hm : m < 2 ^ 20) : f_chance v n m = nI (chM d n m) := by
  have hl := chN_lt d n
  simp only [f_chance, chM]
  rw [f_ch_n n h, nI_l (by omega), show (131 : Int64) = lN 131 from rfl, lN_mul, lN_add, show (1 : Int64) = lN 1 from rfl, lN_add, show (2147483647 : Int64) = lN 2147483647 from rfl, lrem_n (by omega) (by decide) (by decide), lN_i]
theorem irem_n {a b : Nat} (ha : a < 2 ^ 31) (h0 : 0 < b) (hb : b < 2 ^ 31) : irem (nI a) (nI b) = nI (a % b) := pk_rem ha h0 hb
/-! texts -/
theorem or_0 (s : Int32) : s ||| 0 = s := by
  apply Int32.toBitVec_inj.mp
  rw [Int32.toBitVec_or]
  simp
theorem hear_eq {s t : Int32} (h : rg t (-1) 31 = true) : f_hear s t = if 0 ≤ t then s ||| (1 <<< (t &&& 31)) else s ||| 0 := by
  obtain ⟨h1, h2⟩ := rg_iff.mp h
  simp only [f_hear]
  by_cases e : t = -1
  · rw [if_pos e, if_neg (by rw [e]; decide), or_0]
  · rw [if_neg e, if_pos]
    rw [Int32.le_iff_toInt_le] at h1 ⊢
    have e1 : (-1 : Int32).toInt = -1 := by decide
    have e2 : (0 : Int32).toInt = 0 := by decide
    have e3 : ¬ t.toInt = -1 := fun z => e (Int32.toInt_inj.mp (by rw [z, e1]))
    omega
