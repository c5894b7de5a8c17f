/-! what the law's loop keeps: the relations (by hand) -/
abbrev FI : Type := Nat → Int32
abbrev FNt : Type := Nat → Nat
def LRa (n nm nk nd ng : Nat) : Prop := n ≤ 10 ∧ nm ≤ 24 ∧ nk ≤ 8 ∧ nd ≤ 6 ∧ ng ≤ 4
def LRm (M : MV) (n nm : Nat) : Prop := mvOK M n ∧ ∀ k, nm ≤ k → M.2.2.1 k = 0 ∧ M.2.2.2.2.2.2.1 k = 0 ∧ M.2.1 k = 0
def LRk (nk : Nat) (sz ro dr : FNt) : Prop := (∀ k, sz k ≤ 6) ∧ (∀ k, k < nk → 0 < sz k) ∧ (∀ k, ro k < 24) ∧ ∀ k, dr k < 24
def LRw (n : Nat) (wt bf bn : FI) (fw pw : Int64) : Prop := (∀ k, n ≤ k → wt k = 0) ∧ dgOK n bf fw ∧ wfW n fw ∧ dgOK n bn pw ∧ wfW n pw
def LRc (n : Nat) (bk : FI) (nc : Int64) (hc : Int32) : Prop := nc = f_mask bk n ∧ hc = if f_noclk bk n = true then 0 else 1
def LRz (nn tc ncc ndd : Nat) (nw : Nat → Int64) (nde : FI) : Prop := nn ≤ 1500 ∧ tc ≤ 1500 ∧ ncc ≤ 10 ∧ (∀ j, j < nn → wfW 10 (nw j)) ∧ ndd = cntT nde nn
/-- the play, as the class and as the model hold it -/
def LRp (lo : Option Nat) (p0 : Nat) (pv : FI) (fd bs ish : Int32) (ps : Nat) (bp : FI) : Prop := (∃ pl : List Nat, ((lo = none ∧ fd = 0) ∨ (lo = some pl.length ∧ p0 + pl.length = 9000 ∧ heldAt pv p0 pl ∧ fd = 1 ∧ ps = pl.length ∧ heldAt bp 0 pl ∧ 0 < pl.length)) ∧ ∀ i, i < pl.length → pl.getD i 0 < 24) ∧ ish = if f_sho fd bs = true then 1 else 0
theorem rg_dig {v : Int32} (h : rg v 0 9 = true) : ∃ d, d < 10 ∧ v = nI d := by
  obtain ⟨h1, h2⟩ := rg_iff.mp h
  obtain ⟨d, hd, rfl⟩ := nI_of (Int32.not_lt.mpr h1)
  exact ⟨d, by have := (nI_leI (b := 9) hd (by decide)).mp h2; omega, rfl⟩
theorem dgOK_new {n : Nat} {f : FI} {w : Int64} {v : Int32} (h : dgOK n f w) (hn : n < 10) (hv : rg v 0 9 = true) : dgOK (n + 1) (upd f n v) (f_withValue w (nI n) v) := fun k hk => by
  obtain ⟨d, hd, rfl⟩ := rg_dig hv
  rw [dg_set (by omega) (by omega) (by omega)]
  simp only [upd]
  by_cases q : k = n
  · rw [if_pos q, if_pos q]
  · rw [if_neg q, if_neg q]
    exact h k (by omega)
theorem wfW_new {n : Nat} {w : Int64} {v : Int32} (h : wfW n w) (hn : n < 10) (hv : rg v 0 9 = true) : wfW (n + 1) (f_withValue w (nI n) v) := by
  obtain ⟨d, hd, rfl⟩ := rg_dig hv
  exact wfW_set (wfW_grow h) (by omega) (by omega) hd
theorem f_mask_congr {f g : FI} : ∀ n, (∀ k, k < n → f k = g k) → f_mask f n = f_mask g n
  | 0, _ => rfl
  | n + 1, h => by
    simp only [f_mask]
    rw [f_mask_congr n (fun k hk => h k (by omega)), h n (by omega)]
theorem f_noclk_congr {f g : FI} : ∀ n, (∀ k, k < n → f k = g k) → f_noclk f n = f_noclk g n
  | 0, _ => rfl
  | n + 1, h => by
    simp only [f_noclk]
    rw [f_noclk_congr n (fun k hk => h k (by omega)), h n (by omega)]
theorem LRc_new {n : Nat} {bk : FI} {nc : Int64} {hc b : Int32} (h : LRc n bk nc hc) : LRc (n + 1) (upd bk n b) (f_nc nc b n) (f_hc hc b) := by
  obtain ⟨h1, h2⟩ := h
  have e1 : f_mask (upd bk n b) n = f_mask bk n := f_mask_congr n (fun k hk => if_neg (by omega))
  have e2 : f_noclk (upd bk n b) n = f_noclk bk n := f_noclk_congr n (fun k hk => if_neg (by omega))
  have e3 : upd bk n b n = b := if_pos rfl
  refine ⟨?_, ?_⟩
  · simp only [f_mask]
    rw [e1, e3, h1]
  · have e4 : f_noclk (upd bk n b) (n + 1) = (f_noclk bk n && decide (b = 0)) := by
      show (f_noclk (upd bk n b) n && decide (upd bk n b n = 0)) = _
      rw [e2, e3]
    rw [e4, h2]
    simp only [f_hc]
    by_cases hb : b = 0
    · simp [hb]
    · simp [hb]
theorem isEff_up {n : Nat} {k v : Int32} (hn : n < 10) (h : f_isEffect n k v = true) : f_isEffect (n + 1) k v = true := by
  simp only [f_isEffect] at h ⊢
  by_cases h0 : k = 0
  · rw [if_pos h0] at h ⊢; exact h
  · rw [if_neg h0] at h ⊢
    by_cases h1 : k = 1
    · rw [if_pos h1] at h ⊢; exact h
    · rw [if_neg h1] at h ⊢
      by_cases h2 : k = 2
      · rw [if_pos h2] at h ⊢
        obtain ⟨j, hj, rfl⟩ := (inR_iff (by omega)).mp h
        exact inR_nI (by omega) (by omega)
      · rw [if_neg h2] at h ⊢; exact h
theorem mvOK_up {M : MV} {n : Nat} (hn : n < 10) (h : mvOK M n) : mvOK M (n + 1) := by
  obtain ⟨h1, h2, h3, h4, h5⟩ := h
  exact ⟨h1, h2, fun m j hm hj => Nat.lt_succ_of_lt (h3 m j hm hj), fun m j hm hj => ⟨Nat.lt_succ_of_lt (h4 m j hm hj).1, isEff_up hn (h4 m j hm hj).2⟩, h5⟩
theorem goOK_up {n ng : Nat} {gk ga : FI} (h : goOK n ng gk ga) : goOK (n + 1) ng gk ga := fun g hg h0 => by
  obtain ⟨j, hj, e⟩ := h g hg h0
  exact ⟨j, by omega, e⟩
theorem LRw_new {n : Nat} {wt bf bn : FI} {fw pw : Int64} {v : Int32} (h : LRw n wt bf bn fw pw) (hn : n < 10) (hv : rg v 0 9 = true) : LRw (n + 1) wt (upd bf n v) (upd bn n v) (f_withValue fw (nI n) v) (f_withValue pw (nI n) v) := by
  obtain ⟨h1, h2, h3, h4, h5⟩ := h
  exact ⟨fun k hk => h1 k (by omega), dgOK_new h2 hn hv, wfW_new h3 hn hv, dgOK_new h4 hn hv, wfW_new h5 hn hv⟩
theorem LRw_wt {n : Nat} {wt bf bn : FI} {fw pw : Int64} {c : Nat} {v : Int32} (h : LRw n wt bf bn fw pw) (hc : c < n) : LRw n (upd wt c v) bf bn fw pw := by
  obtain ⟨h1, h2⟩ := h
  refine ⟨fun k hk => ?_, h2⟩
  simp only [upd]
  rw [if_neg (by omega)]
  exact h1 k hk
theorem inR_cl {i : Int32} {n : Nat} (h : inR i n = true) (hn : n < 2 ^ 31) : ∃ j, j < n ∧ i = nI j ∧ i.toNatClampNeg = j := by
  obtain ⟨j, hj, rfl⟩ := (inR_iff hn).mp h
  exact ⟨j, hj, rfl, nI_clamp (by omega)⟩
/-- a MOVE is made -/
theorem LRm_move {mtx men mcr mcv mek mev : FI} {mcn mcl mec mel : FNt} {n nm : Nat} (h : LRm (mtx, men, mcn, mcl, mcr, mcv, mec, mek, mel, mev) n nm) : LRm (upd mtx nm (-1), men, mcn, mcl, mcr, mcv, mec, mek, mel, mev) n (nm + 1) := by
  obtain ⟨⟨h1, h2, h3, h4, h5⟩, h6⟩ := h
  refine ⟨⟨h1, h2, h3, h4, fun k => ?_⟩, fun k hk => h6 k (by omega)⟩
  show rg (upd mtx nm (-1) k) (-1) 31 = true
  simp only [upd]
  split
  · decide
  · exact h5 k
theorem updN_self {f : FNt} {k v : Nat} (h : f k = v) : updN f k v = f := by
  funext j
  simp only [updN]
  by_cases q : j = k
  · rw [if_pos q, q, h]
  · rw [if_neg q]
theorem LRm_show {mtx men mcr mcv mek mev : FI} {mcn mcl mec mel : FNt} {n nm k0 : Nat} {t : Int32} (h : LRm (mtx, men, mcn, mcl, mcr, mcv, mec, mek, mel, mev) n nm) (ht : rg t (-1) 31 = true) : LRm (upd mtx k0 t, men, mcn, mcl, mcr, mcv, mec, mek, mel, mev) n nm := by
  obtain ⟨⟨h1, h2, h3, h4, h5⟩, h6⟩ := h
  refine ⟨⟨h1, h2, h3, h4, fun k => ?_⟩, h6⟩
  show rg (upd mtx k0 t k) (-1) 31 = true
  simp only [upd]
  split
  · exact ht
  · exact h5 k
theorem LRm_ends {mtx men mcr mcv mek mev : FI} {mcn mcl mec mel : FNt} {n nm k0 : Nat} {t : Int32} (h : LRm (mtx, men, mcn, mcl, mcr, mcv, mec, mek, mel, mev) n nm) (hk0 : k0 < nm) : LRm (mtx, upd men k0 t, mcn, mcl, mcr, mcv, mec, mek, mel, mev) n nm := by
  obtain ⟨h1, h6⟩ := h
  refine ⟨h1, fun k hk => ⟨(h6 k hk).1, (h6 k hk).2.1, ?_⟩⟩
  show upd men k0 t k = 0
  simp only [upd]
  rw [if_neg (by omega)]
  exact (h6 k hk).2.2
theorem LRm_when {mtx men mcr mcv mek mev : FI} {mcn mcl mec mel : FNt} {n nm m0 c0 : Nat} {r v : Int32} (h : LRm (mtx, men, mcn, mcl, mcr, mcv, mec, mek, mel, mev) n nm) (hm0 : m0 < nm) (hc0 : c0 < n) (h6 : mcn m0 < 6) : LRm (mtx, men, updN mcn m0 (mcn m0 + 1), updN mcl (m0 * 6 + mcn m0) c0, upd mcr (m0 * 6 + mcn m0) r, upd mcv (m0 * 6 + mcn m0) v, mec, mek, mel, mev) n nm := by
  obtain ⟨⟨h1, h2, h3, h4, h5⟩, hz⟩ := h
  refine ⟨⟨fun k => ?_, h2, fun m j hm hj => ?_, h4, h5⟩, fun k hk => ⟨?_, (hz k hk).2⟩⟩
  · show updN mcn m0 (mcn m0 + 1) k ≤ 6
    simp only [updN]
    split
    · omega
    · exact h1 k
  · have hj : j < updN mcn m0 (mcn m0 + 1) m := hj
    show updN mcl (m0 * 6 + mcn m0) c0 (6 * m + j) < n
    have h1m : mcn m ≤ 6 := h1 m
    simp only [updN] at hj ⊢
    by_cases q : 6 * m + j = m0 * 6 + mcn m0
    · rw [if_pos q]; exact hc0
    · rw [if_neg q]
      by_cases q2 : m = m0
      · rw [if_pos q2] at hj
        subst q2
        exact h3 m j hm (by show j < mcn m; omega)
      · rw [if_neg q2] at hj
        exact h3 m j hm hj
  · show updN mcn m0 (mcn m0 + 1) k = 0
    simp only [updN]
    rw [if_neg (by omega)]
    exact (hz k hk).1
theorem LRm_then {mtx men mcr mcv mek mev : FI} {mcn mcl mec mel : FNt} {n nm m0 c0 : Nat} {kd v : Int32} (h : LRm (mtx, men, mcn, mcl, mcr, mcv, mec, mek, mel, mev) n nm) (hm0 : m0 < nm) (hc0 : c0 < n) (hE : f_isEffect n kd v = true) (h6 : mec m0 < 6) : LRm (mtx, men, mcn, mcl, mcr, mcv, updN mec m0 (mec m0 + 1), upd mek (m0 * 6 + mec m0) kd, updN mel (m0 * 6 + mec m0) c0, upd mev (m0 * 6 + mec m0) v) n nm := by
  obtain ⟨⟨h1, h2, h3, h4, h5⟩, hz⟩ := h
  refine ⟨⟨h1, fun k => ?_, h3, fun m j hm hj => ?_, h5⟩, fun k hk => ⟨(hz k hk).1, ?_, (hz k hk).2.2⟩⟩
  · show updN mec m0 (mec m0 + 1) k ≤ 6
    simp only [updN]
    split
    · omega
    · exact h2 k
  · have hj : j < updN mec m0 (mec m0 + 1) m := hj
    show updN mel (m0 * 6 + mec m0) c0 (6 * m + j) < n ∧ f_isEffect n (upd mek (m0 * 6 + mec m0) kd (6 * m + j)) (upd mev (m0 * 6 + mec m0) v (6 * m + j)) = true
    have h2m : mec m ≤ 6 := h2 m
    simp only [updN, upd] at hj ⊢
    by_cases q : 6 * m + j = m0 * 6 + mec m0
    · rw [if_pos q, if_pos q, if_pos q]; exact ⟨hc0, hE⟩
    · rw [if_neg q, if_neg q, if_neg q]
      by_cases q2 : m = m0
      · rw [if_pos q2] at hj
        subst q2
        exact h4 m j hm (by show j < mec m; omega)
      · rw [if_neg q2] at hj
        exact h4 m j hm hj
  · show updN mec m0 (mec m0 + 1) k = 0
    simp only [updN]
    rw [if_neg (by omega)]
    exact (hz k hk).2.1
theorem LRk_of {nk : Nat} {sz ro dr : FNt} {k0 m0 : Nat} (h : LRk nk sz ro dr) (hm : m0 < 24) : LRk nk sz ro (updN dr k0 m0) := by
  obtain ⟨h1, h2, h3, h4⟩ := h
  refine ⟨h1, h2, h3, fun k => ?_⟩
  simp only [updN]
  split
  · exact hm
  · exact h4 k
theorem LRk_macro {nk nd a k0 : Nat} {sz ro dr : FNt} (h : LRk nk sz ro dr) (h2 : 2 ≤ nd) (h6 : nd ≤ 6) : LRk (nk + 1) (updN sz nk nd) (cpyN dr ro a k0) dr := by
  obtain ⟨h1, hs, h3, h4⟩ := h
  refine ⟨fun k => ?_, fun k hk => ?_, fun k => ?_, h4⟩
  · simp only [updN]
    split
    · exact h6
    · exact h1 k
  · simp only [updN]
    by_cases q : k = nk
    · rw [if_pos q]; omega
    · rw [if_neg q]; exact hs k (by omega)
  · simp only [cpyN]
    split
    · exact h4 _
    · exact h3 k
theorem goOK_new {n ng : Nat} {gk ga : FI} {k a b : Int32} (h : goOK n ng gk ga) (hn : n ≤ 10) (hp : f_isPart n k a b = true) : goOK n (ng + 1) (upd gk ng k) (upd ga ng a) := fun g hg h0 => by
  simp only [upd] at h0 ⊢
  by_cases q : g = ng
  · rw [if_pos q] at h0 ⊢
    simp only [f_isPart] at hp
    rw [if_pos h0, Bool.and_eq_true] at hp
    exact (inR_iff (by omega)).mp hp.1
  · rw [if_neg q] at h0 ⊢
    exact h g (by omega) h0
theorem goOK_0 {n : Nat} {gk ga : FI} : goOK n 0 gk ga := fun g hg _ => absurd hg (Nat.not_lt_zero _)
/-! the play -/
theorem LRp_len {lo : Option Nat} {p0 : Nat} {pv : FI} {fd bs ish : Int32} {ps : Nat} {bp : FI} (h : LRp lo p0 pv fd bs ish ps bp) : oI lo = f_len fd ps := by
  obtain ⟨⟨pl, h1 | h1, -⟩, -⟩ := h
  · rw [h1.1, h1.2]; rfl
  · obtain ⟨a, b, c, d, e, -⟩ := h1
    rw [a, d, e]; rfl
theorem LRp_at {lo : Option Nat} {p0 : Nat} {pv : FI} {fd bs ish : Int32} {ps : Nat} {bp : FI} (h : LRp lo p0 pv fd bs ish ps bp) (i : Int32) : f_at lo pv p0 i = f_atM fd ps bp i := by
  obtain ⟨⟨pl, h1 | h1, -⟩, -⟩ := h
  · rw [h1.1, h1.2]
    simp [f_at, f_atM]
  · obtain ⟨a, b, c, d, e, f, -⟩ := h1
    rw [a, d, e]
    simp only [f_at, f_atM]
    by_cases hi : inR i pl.length = true
    · obtain ⟨j, hj, rfl, ej⟩ := inR_cl hi (by omega)
      rw [if_pos hi, if_pos ⟨by decide, hi⟩, ej, c j hj]
      have := f j hj
      rw [Nat.zero_add] at this
      rw [this]
    · rw [if_neg hi, if_neg (fun z => hi z.2)]
theorem LRp_p9 {lo : Option Nat} {p0 : Nat} {pv : FI} {fd bs ish : Int32} {ps : Nat} {bp : FI} (h : LRp lo p0 pv fd bs ish ps bp) : ∀ L, lo = some L → p0 + L ≤ 9000 := fun L hl => by
  obtain ⟨⟨pl, h1 | h1, -⟩, -⟩ := h
  · rw [h1.1] at hl; cases hl
  · rw [h1.1] at hl; cases hl; omega
theorem LRp_ps {lo : Option Nat} {p0 : Nat} {pv : FI} {fd bs ish : Int32} {ps : Nat} {bp : FI} (h : LRp lo p0 pv fd bs ish ps bp) : ¬ fd = 0 → ps ≤ 9000 := fun hf => by
  obtain ⟨⟨pl, h1 | h1, -⟩, -⟩ := h
  · exact absurd h1.2 hf
  · omega
theorem LRp_ish {lo : Option Nat} {p0 : Nat} {pv : FI} {fd bs ish : Int32} {ps : Nat} {bp : FI} (h : LRp lo p0 pv fd bs ish ps bp) : ish = 0 ∨ ish = 1 := by
  rw [h.2]
  split
  · exact Or.inr rfl
  · exact Or.inl rfl
theorem LRp_lo {lo : Option Nat} {p0 : Nat} {pv : FI} {fd bs ish : Int32} {ps : Nat} {bp : FI} (h : LRp lo p0 pv fd bs ish ps bp) : lo = none ↔ fd = 0 := by
  obtain ⟨⟨pl, h1 | h1, -⟩, -⟩ := h
  · exact ⟨fun _ => h1.2, fun _ => h1.1⟩
  · rw [h1.1, h1.2.2.2.1]
    constructor
    · intro z; cases z
    · intro z; exact absurd z (by decide)
