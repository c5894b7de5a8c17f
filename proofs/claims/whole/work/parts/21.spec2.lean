/-! what the search keeps (pure, by hand) -/
def treeOK (Z : ZN) : Prop := z_d Z 0 = 0 ∧ ∀ k, 0 < k → k < Z.1 → ∃ b st, z_b Z k = nI b ∧ b < k ∧ z_s Z k = nI st ∧ stOK st ∧ z_d Z k = z_d Z b + 1
def cntT (f : Nat → Int32) : Nat → Nat
  | 0 => 0
  | k + 1 => if f k = 0 then cntT f k else cntT f k + 1
theorem cntT_le (f : Nat → Int32) : ∀ n, cntT f n ≤ n
  | 0 => Nat.le_refl _
  | n + 1 => by
    have := cntT_le f n
    simp only [cntT]
    split <;> omega
theorem cntT_congr {f g : Nat → Int32} : ∀ n, (∀ k, k < n → f k = g k) → cntT f n = cntT g n
  | 0, _ => rfl
  | n + 1, h => by
    simp only [cntT]
    rw [cntT_congr n (fun k hk => h k (by omega)), h n (by omega)]
theorem cntT_lt {f : Nat → Int32} {j : Nat} : ∀ n, j < n → f j = 0 → cntT f n < n
  | 0, h, _ => absurd h (Nat.not_lt_zero _)
  | n + 1, h, h0 => by
    simp only [cntT]
    have := cntT_le f n
    rcases Nat.lt_or_ge j n with q | q
    · have := cntT_lt n q h0
      split <;> omega
    · have e : j = n := by omega
      subst e
      rw [if_pos h0]
      omega
theorem cntT_upd {f : Nat → Int32} {j : Nat} {v : Int32} (hv : ¬ v = 0) : ∀ n, j < n → f j = 0 → cntT (upd f j v) n = cntT f n + 1
  | 0, h, _ => absurd h (Nat.not_lt_zero _)
  | n + 1, h, h0 => by
    simp only [cntT]
    rcases Nat.lt_or_ge j n with q | q
    · rw [cntT_upd hv n q h0, show upd f j v n = f n from if_neg (by omega)]
      split <;> omega
    · have e : j = n := by omega
      subst e
      rw [cntT_congr (f := upd f j v) (g := f) j (fun k hk => if_neg (by omega)), show upd f j v j = v from if_pos rfl, if_neg hv, if_pos h0]
/-- what holds of the NODES between two turns; tc: how many were taken -/
def qOK (alw : Nat) (Z : ZN) (tc : Nat) : Prop := 0 < Z.1 ∧ Z.1 ≤ alw ∧ tc = cntT (z_t Z) Z.1 ∧ treeOK Z
/-- Z' has the NODES of Z, and perhaps more -/
def zle (Z Z' : ZN) : Prop := Z.1 ≤ Z'.1 ∧ ∀ j, j < Z.1 → z_t Z' j = z_t Z j ∧ z_e Z' j = z_e Z j
theorem zle.rf {Z : ZN} : zle Z Z := ⟨Nat.le_refl _, fun _ _ => ⟨rfl, rfl⟩⟩
theorem zle.trans {A B C : ZN} (h1 : zle A B) (h2 : zle B C) : zle A C := ⟨Nat.le_trans h1.1 h2.1, fun j hj => ⟨(h2.2 j (Nat.lt_of_lt_of_le hj h1.1)).1.trans (h1.2 j hj).1, (h2.2 j (Nat.lt_of_lt_of_le hj h1.1)).2.trans (h1.2 j hj).2⟩⟩
theorem zle_add {Z : ZN} {bf sp : Int32} {w : Int64} {en sco : Int32} : zle Z (f_addZ Z bf sp w en sco) := ⟨Nat.le_succ _, fun j hj => ⟨if_neg (by omega), if_neg (by omega)⟩⟩
theorem treeOK_add {Z : ZN} {k st : Nat} {w : Int64} {en sco : Int32} (h : treeOK Z) (hk : k < Z.1) (hz : Z.1 < 2 ^ 31) (hs : stOK st) : treeOK (f_addZ Z (nI k) (nI st) w en sco) := by
  obtain ⟨h0, h1⟩ := h
  refine ⟨?_, fun j h2 h3 => ?_⟩
  · show updN (z_d Z) Z.1 _ 0 = 0
    simp only [updN]
    rw [if_neg (by omega)]
    exact h0
  · have h3 : j < Z.1 + 1 := h3
    rcases Nat.lt_or_ge j Z.1 with q | q
    · obtain ⟨b, st', a1, a2, a3, a4, a5⟩ := h1 j h2 q
      refine ⟨b, st', ?_, a2, ?_, a4, ?_⟩
      · show upd (z_b Z) Z.1 _ j = _
        rw [show upd (z_b Z) Z.1 (nI k) j = z_b Z j from if_neg (by omega)]
        exact a1
      · show upd (z_s Z) Z.1 _ j = _
        rw [show upd (z_s Z) Z.1 (nI st) j = z_s Z j from if_neg (by omega)]
        exact a3
      · show updN (z_d Z) Z.1 _ j = updN (z_d Z) Z.1 _ b + 1
        simp only [updN]
        rw [if_neg (by omega), if_neg (by omega)]
        exact a5
    · have e : j = Z.1 := by omega
      subst e
      refine ⟨k, st, if_pos rfl, hk, if_pos rfl, hs, ?_⟩
      show updN (z_d Z) Z.1 _ Z.1 = updN (z_d Z) Z.1 _ k + 1
      simp only [updN]
      rw [if_pos trivial, if_neg (by omega)]
      simp only [f_dep]
      rw [if_neg (nI_ne_m1 (by omega)), nI_clamp (by omega)]
theorem cnt_add {Z : ZN} {bf sp : Int32} {w : Int64} {en sco : Int32} : cntT (z_t (f_addZ Z bf sp w en sco)) (f_addZ Z bf sp w en sco).1 = cntT (z_t Z) Z.1 := by
  show cntT (upd (z_t Z) Z.1 0) (Z.1 + 1) = _
  simp only [cntT]
  rw [show upd (z_t Z) Z.1 0 Z.1 = 0 from if_pos rfl, if_pos rfl]
  exact cntT_congr _ (fun k hk => if_neg (by omega))
/-- one STEP's outcome keeps it -/
theorem outc_ok {S : SY} {alw tc k st : Nat} {Z : ZN} {sn : Int32} {t : Mt} (h : qOK alw Z tc) (halw : alw ≤ 1500) (hk : k < Z.1) (hs : stOK st) : qOK alw (f_outc S alw Z sn (nI k) (nI st) t).1 tc ∧ zle Z (f_outc S alw Z sn (nI k) (nI st) t).1 := by
  simp only [f_outc]
  split
  · exact ⟨h, zle.rf⟩
  · split
    · exact ⟨h, zle.rf⟩
    · obtain ⟨h1, h2, h3, h4⟩ := h
      refine ⟨⟨Nat.succ_pos _, ?_, ?_, treeOK_add h4 hk (by omega) hs⟩, zle_add⟩
      · show Z.1 + 1 ≤ alw
        omega
      · rw [cnt_add]; exact h3
theorem tn_ok {S : SY} {alw tc k : Nat} {Z : ZN} {sn : Int32} {t : Mt} (h : qOK alw Z tc) (halw : alw ≤ 1500) (hk : k < Z.1) (hm : y_nm S ≤ 24) (hkk : y_nk S ≤ 8) : ∀ p, p ≤ y_nm S + y_nk S → qOK alw (f_tn S alw k t Z sn p).1 tc ∧ zle Z (f_tn S alw k t Z sn p).1
  | 0, _ => ⟨h, zle.rf⟩
  | p + 1, hp => by
    obtain ⟨i1, i2⟩ := tn_ok (sn := sn) (t := t) h halw hk hm hkk p (by omega)
    simp only [f_tn]
    split
    · obtain ⟨a, b⟩ := outc_ok (S := S) (sn := (f_tn S alw k t Z sn p).2.1) (t := (f_tryS S p t).1) (st := n_by (y_nm S) p) i1 halw (Nat.lt_of_lt_of_le hk i2.1) (n_by_ok (nk := y_nk S) (by omega) hm hkk)
      exact ⟨a, i2.trans b⟩
    · exact ⟨i1, i2⟩
theorem take_ok {alw tc k : Nat} {Z : ZN} (h : qOK alw Z tc) (hk : k < Z.1) (ho : z_t Z k = 0) : qOK alw (z_take Z k) (tc + 1) := by
  obtain ⟨h1, h2, h3, h4⟩ := h
  refine ⟨h1, h2, ?_, h4⟩
  show tc + 1 = cntT (upd (z_t Z) k 1) Z.1
  rw [cntT_upd (by decide) _ hk ho, h3]
theorem dead_ok {alw tc k : Nat} {Z : ZN} (h : qOK alw Z tc) : qOK alw (z_dead Z k) tc := h
theorem nd_ok {S : SY} {alw tc k : Nat} {Z : ZN} {sn : Int32} (h : qOK alw Z tc) (halw : alw ≤ 1500) (hk : k < Z.1) (ho : z_t Z k = 0) (hm : y_nm S ≤ 24) (hkk : y_nk S ≤ 8) : qOK alw (f_ndZ S alw k Z sn) (tc + 1) ∧ zle (z_take Z k) (f_ndZ S alw k Z sn) := by
  have hq := tn_ok (S := S) (sn := sn) (t := (z_w Z k, 0, -1, 0)) (take_ok h hk ho) halw hk hm hkk (y_nm S + y_nk S) (Nat.le_refl _)
  simp only [f_ndZ]
  split
  · exact ⟨dead_ok hq.1, hq.2⟩
  · exact hq
/-! which NODE is taken -/
theorem f_firstO_some {op : Nat → Bool} : ∀ (n b : Nat), f_firstO op n = some b → b < n ∧ op b = true ∧ ∀ j, j < b → ¬ op j = true
  | 0, b, h => by cases h
  | n + 1, b, h => by
    simp only [f_firstO] at h
    cases hz : f_firstO op n with
    | some b' =>
      rw [hz] at h
      cases h
      obtain ⟨a1, a2, a3⟩ := f_firstO_some n b hz
      exact ⟨by omega, a2, a3⟩
    | none =>
      rw [hz] at h
      simp only at h
      split at h
      · cases h
        refine ⟨by omega, ‹_›, fun j hj hop => ?_⟩
        exact (f_firstO_none n hz j hj) hop
      · cases h
  where f_firstO_none : ∀ (n : Nat), f_firstO op n = none → ∀ j, j < n → ¬ op j = true
    | 0, _, j, hj => absurd hj (Nat.not_lt_zero _)
    | n + 1, h, j, hj => by
      simp only [f_firstO] at h
      cases hz : f_firstO op n with
      | some b' => rw [hz] at h; cases h
      | none =>
        rw [hz] at h
        simp only at h
        split at h
        · cases h
        · rcases Nat.lt_or_ge j n with q | q
          · exact f_firstO_none n hz j q
          · have e : j = n := by omega
            subst e
            assumption
theorem f_firstO_no {op : Nat → Bool} : ∀ (n : Nat), (∀ j, j < n → ¬ op j = true) → f_firstO op n = none
  | 0, _ => rfl
  | n + 1, h => by
    simp only [f_firstO]
    rw [f_firstO_no n (fun j hj => h j (by omega))]
    simp only
    rw [if_neg (h n (by omega))]
theorem f_firstO_at {op : Nat → Bool} {b : Nat} (hb : op b = true) (hl : ∀ j, j < b → ¬ op j = true) : ∀ (n : Nat), b < n → f_firstO op n = some b
  | 0, h => absurd h (Nat.not_lt_zero _)
  | n + 1, h => by
    simp only [f_firstO]
    rcases Nat.lt_or_ge b n with q | q
    · rw [f_firstO_at hb hl n q]
    · have e : b = n := by omega
      subst e
      rw [f_firstO_no b hl]
      simp only
      rw [if_pos hb]
theorem f_least_eq {op : Nat → Bool} : ∀ (k fr : Nat), (∀ j, j < fr → ¬ op j = true) → f_least op k fr = oI (f_firstO op (fr + k))
  | 0, fr, h => by rw [Nat.add_zero, f_firstO_no fr h]; rfl
  | k + 1, fr, h => by
    simp only [f_least]
    split
    · rw [f_firstO_at ‹_› h _ (by omega)]; rfl
    · rw [f_least_eq k (fr + 1) (fun j hj => by
        rcases Nat.lt_or_ge j fr with q | q
        · exact h j q
        · have e : j = fr := by omega
          subst e
          assumption), show fr + 1 + k = fr + (k + 1) by omega]
theorem f_best_op {op : Nat → Bool} {sc : Nat → Int32} : ∀ (k b : Nat), f_best op sc k = some b → op b = true
  | 0, b, h => by cases h
  | k + 1, b, h => by
    simp only [f_best] at h
    cases hb : f_best op sc k with
    | none =>
      rw [hb] at h
      simp only at h
      split at h
      · cases h; assumption
      · cases h
    | some b' =>
      rw [hb] at h
      simp only at h
      split at h
      · cases h; exact (‹_ ∧ _›).1
      · cases h; exact f_best_op k _ hb
theorem f_pick_ok {bb : Bool} {Z : ZN} {j : Nat} (h : f_pick bb Z = some j) : j < Z.1 ∧ z_t Z j = 0 ∧ z_e Z j = 0 := by
  have hop : j < Z.1 ∧ f_open (z_t Z) (z_e Z) j = true := by
    simp only [f_pick] at h
    split at h
    · exact ⟨f_best_lt _ _ h, f_best_op _ _ h⟩
    · obtain ⟨a, b, -⟩ := f_firstO_some _ _ h
      exact ⟨a, b⟩
  refine ⟨hop.1, ?_⟩
  have := hop.2
  simp only [f_open, Bool.and_eq_true, decide_eq_true_eq] at this
  exact this
