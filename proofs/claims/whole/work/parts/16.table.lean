/-! open addressing: the table of NODES (pure) -/
theorem pig : ∀ (n m : Nat) (f : Nat → Nat), n < m → (∀ i, i < m → f i < n) → ∃ i j, i < j ∧ j < m ∧ f i = f j
  | 0, m, f, hm, hf => absurd (hf 0 hm) (Nat.not_lt_zero _)
  | n + 1, 0, f, hm, hf => absurd hm (Nat.not_lt_zero _)
  | n + 1, m + 1, f, hm, hf => by
    by_cases h : ∃ i, i < m ∧ f i = f m
    · obtain ⟨i, hi, he⟩ := h
      exact ⟨i, m, hi, Nat.lt_succ_self _, he⟩
    · have hne : ∀ i, i < m → f i ≠ f m := fun i hi he => h ⟨i, hi, he⟩
      obtain ⟨i, j, hij, hj, he⟩ := pig n m (fun i => if f i = n then f m else f i) (by omega) (fun i hi => by
        have h1 := hf i (by omega)
        have h2 := hf m (by omega)
        have h3 := hne i hi
        try dsimp only
        split
        · omega
        · omega)
      refine ⟨i, j, hij, by omega, ?_⟩
      have hi' := hne i (by omega)
      have hj' := hne j hj
      try dsimp only at he
      split at he <;> split at he <;> first | omega | exact absurd he.symm hj' | exact absurd he hi' | exact he
theorem probe_step (h d : Nat) : ((h + d) % 4096 + 1) % 4096 = (h + (d + 1)) % 4096 := by omega
theorem probe_spec {qa : Nat → Bool} {sl : Nat → Int32} {h : Nat} : ∀ (k d : Nat), ∃ e, e ≤ k ∧ f_probe qa sl k ((h + d) % 4096) = (h + (d + e)) % 4096 ∧ (∀ e', e' < e → ¬ sl ((h + (d + e')) % 4096) = -1 ∧ ¬ qa (sl ((h + (d + e')) % 4096)).toNatClampNeg = true) ∧ (e < k → sl ((h + (d + e)) % 4096) = -1 ∨ qa (sl ((h + (d + e)) % 4096)).toNatClampNeg = true)
  | 0, d => ⟨0, Nat.le_refl _, rfl, fun _ h => absurd h (Nat.not_lt_zero _), fun h => absurd h (Nat.not_lt_zero _)⟩
  | k + 1, d => by
    simp only [f_probe]
    by_cases h1 : sl ((h + d) % 4096) = -1
    · rw [if_pos h1]
      exact ⟨0, by omega, rfl, fun _ h => absurd h (Nat.not_lt_zero _), fun _ => Or.inl h1⟩
    · rw [if_neg h1]
      by_cases h2 : qa (sl ((h + d) % 4096)).toNatClampNeg = true
      · rw [if_pos h2]
        exact ⟨0, by omega, rfl, fun _ h => absurd h (Nat.not_lt_zero _), fun _ => Or.inr h2⟩
      · rw [if_neg h2, probe_step]
        obtain ⟨e, he, e1, e2, e3⟩ := probe_spec (qa := qa) (sl := sl) (h := h) k (d + 1)
        refine ⟨e + 1, by omega, ?_, ?_, ?_⟩
        · rw [e1, show d + 1 + e = d + (e + 1) by omega]
        · intro e' he'
          match e', he' with
          | 0, _ => exact ⟨h1, h2⟩
          | e' + 1, he' =>
            have := e2 e' (by omega)
            rw [show d + 1 + e' = d + (e' + 1) by omega] at this
            exact this
        · intro hk
          have := e3 (by omega)
          rw [show d + 1 + e = d + (e + 1) by omega] at this
          exact this
/-- the table holds the NODES: al: which are alike; hs: where the search for one begins -/
def tabOK (sl : Nat → Int32) (nn : Nat) (al : Nat → Nat → Prop) (hs : Nat → Nat) : Prop := nn ≤ 1500 ∧ (∀ q, q < 4096 → sl q = -1 ∨ ∃ j, j < nn ∧ sl q = nI j) ∧ (∀ q q' j, q < 4096 → q' < 4096 → j < nn → sl q = nI j → sl q' = nI j → q = q') ∧ ∀ j, j < nn → ∃ j' d, j' < nn ∧ al j j' ∧ d < 4096 ∧ sl ((hs j + d) % 4096) = nI j' ∧ ∀ d', d' < d → ¬ sl ((hs j + d') % 4096) = -1
theorem tabOK.slOK {sl : Nat → Int32} {nn : Nat} {al : Nat → Nat → Prop} {hs : Nat → Nat} (T : tabOK sl nn al hs) : slOK sl := fun q hq => by
  rcases T.2.1 q hq with h | ⟨j, hj, h⟩
  · exact Or.inl h
  · exact Or.inr ⟨j, by have := T.1; omega, h⟩
theorem tab_find {sl : Nat → Int32} {nn : Nat} {al : Nat → Nat → Prop} {hs : Nat → Nat} {qa : Nat → Bool} {h0 : Nat} (T : tabOK sl nn al hs) (hq1 : ∀ j, j < nn → qa j = true → hs j = h0) (hq2 : ∀ j j', j < nn → j' < nn → qa j = true → al j j' → qa j' = true) :
    ∃ d, d < 4096 ∧ f_probe qa sl 4096 (h0 % 4096) = (h0 + d) % 4096 ∧ (∀ d', d' < d → ¬ sl ((h0 + d') % 4096) = -1) ∧ (¬ sl ((h0 + d) % 4096) = -1 → ∃ j, j < nn ∧ sl ((h0 + d) % 4096) = nI j ∧ qa j = true) ∧ (sl ((h0 + d) % 4096) = -1 → ∀ j, j < nn → ¬ qa j = true) := by
  obtain ⟨h1, h2, h3, h4⟩ := T
  obtain ⟨e, he, e1, e2, e3⟩ := probe_spec (qa := qa) (sl := sl) (h := h0) 4096 0
  simp only [Nat.zero_add, Nat.add_zero] at e1 e2 e3
  have hlt : e < 4096 := by
    rcases Nat.lt_or_ge e 4096 with h | h
    · exact h
    · exfalso
      have hall : ∀ q, q < 4096 → ∃ j, j < nn ∧ sl q = nI j := fun q hq => by
        have := (e2 ((q + 4096 - h0 % 4096) % 4096) (by omega)).1
        rw [show (h0 + (q + 4096 - h0 % 4096) % 4096) % 4096 = q by omega] at this
        exact (h2 q hq).resolve_left this
      obtain ⟨i, j, hij, hj, hee⟩ := pig nn 4096 (fun q => (sl q).toNatClampNeg) (by omega) (fun q hq => by
        obtain ⟨j, hj, e⟩ := hall q hq
        try dsimp only
        rw [e, nI_clamp (by omega)]
        exact hj)
      obtain ⟨a, ha, ea⟩ := hall i (by omega)
      obtain ⟨b, hb, eb⟩ := hall j hj
      try dsimp only at hee
      rw [ea, eb, nI_clamp (by omega), nI_clamp (by omega)] at hee
      subst hee
      have := h3 i j a (by omega) hj ha ea eb
      omega
  refine ⟨e, hlt, e1, fun d' hd' => (e2 d' hd').1, fun hne => ?_, fun hem j hj hqj => ?_⟩
  · rcases e3 hlt with h | h
    · exact absurd h hne
    · obtain ⟨j, hj, ej⟩ := (h2 _ (Nat.mod_lt _ (by decide))).resolve_left hne
      rw [ej, nI_clamp (by omega)] at h
      exact ⟨j, hj, ej, h⟩
  · obtain ⟨j', d, hj', haj, hd, ed, hnb⟩ := h4 j hj
    rw [hq1 j hj hqj] at ed hnb
    have hqj' := hq2 j j' hj hj' hqj haj
    rcases Nat.lt_trichotomy d e with h | h | h
    · have := (e2 d h).2
      rw [ed, nI_clamp (by omega)] at this
      exact this hqj'
    · subst h
      rw [ed] at hem
      exact nI_ne_m1 (by omega) hem
    · exact hnb e h hem
theorem tab_add {sl : Nat → Int32} {nn : Nat} {al al' : Nat → Nat → Prop} {hs hs' : Nat → Nat} {d : Nat} (T : tabOK sl nn al hs) (hnn : nn < 1500) (hal : ∀ j j', j < nn → j' < nn → al j j' → al' j j') (hhs : ∀ j, j < nn → hs' j = hs j) (hd : d < 4096) (hnb : ∀ d', d' < d → ¬ sl ((hs' nn + d') % 4096) = -1) (hrf : al' nn nn) (hfd : ¬ sl ((hs' nn + d) % 4096) = -1 → ∃ j, j < nn ∧ sl ((hs' nn + d) % 4096) = nI j ∧ al' nn j) :
    tabOK (if sl ((hs' nn + d) % 4096) = -1 then upd sl ((hs' nn + d) % 4096) (nI nn) else sl) (nn + 1) al' hs' := by
  obtain ⟨h1, h2, h3, h4⟩ := T
  by_cases hem : sl ((hs' nn + d) % 4096) = -1
  · rw [if_pos hem]
    generalize hS : (hs' nn + d) % 4096 = S at *
    have hSl : S < 4096 := by rw [← hS]; exact Nat.mod_lt _ (by decide)
    have keep : ∀ q, ¬ sl q = -1 → upd sl S (nI nn) q = sl q := fun q hq => by
      simp only [upd]
      rw [if_neg (fun e => hq (by rw [e]; exact hem))]
    have nonem : ∀ q, ¬ sl q = -1 → ¬ upd sl S (nI nn) q = -1 := fun q hq => by rw [keep q hq]; exact hq
    refine ⟨by omega, fun q hq => ?_, fun q q' j hq hq' hj e1 e2 => ?_, fun j hj => ?_⟩
    · by_cases h : q = S
      · exact Or.inr ⟨nn, by omega, by simp only [upd]; rw [if_pos h]⟩
      · rcases h2 q hq with h | ⟨j, hj, e⟩
        · exact Or.inl (by simp only [upd]; rw [if_neg ‹_›]; exact h)
        · exact Or.inr ⟨j, by omega, by simp only [upd]; rw [if_neg ‹_›]; exact e⟩
    · simp only [upd] at e1 e2
      by_cases a : q = S
      · by_cases b : q' = S
        · omega
        · rw [if_pos a] at e1
          rw [if_neg b] at e2
          have hjn : nn = j := (nI_eq (by omega) (by omega)).mp e1
          rcases h2 q' hq' with h | ⟨j2, hj2, e⟩
          · rw [h] at e2; exact absurd e2.symm (nI_ne_m1 (by omega))
          · rw [e] at e2
            have := (nI_eq (by omega) (by omega)).mp e2
            omega
      · rw [if_neg a] at e1
        by_cases b : q' = S
        · rw [if_pos b] at e2
          have hjn : nn = j := (nI_eq (by omega) (by omega)).mp e2
          rcases h2 q hq with h | ⟨j2, hj2, e⟩
          · rw [h] at e1; exact absurd e1.symm (nI_ne_m1 (by omega))
          · rw [e] at e1
            have := (nI_eq (by omega) (by omega)).mp e1
            omega
        · rw [if_neg b] at e2
          rcases h2 q hq with h | ⟨j2, hj2, e⟩
          · rw [h] at e1; exact absurd e1.symm (nI_ne_m1 (by omega))
          · have hjj : j2 = j := by
              rw [e] at e1
              exact (nI_eq (by omega) (by omega)).mp e1
            exact h3 q q' j hq hq' (by omega) e1 e2
    · rcases Nat.lt_or_ge j nn with h | h
      · obtain ⟨j', d2, a1, a2, a3, a4, a5⟩ := h4 j h
        rw [hhs j h]
        refine ⟨j', d2, by omega, hal j j' h a1 a2, a3, ?_, fun d' hd' => nonem _ (a5 d' hd')⟩
        rw [keep _ (by rw [a4]; exact nI_ne_m1 (by omega))]
        exact a4
      · have : j = nn := by omega
        subst this
        refine ⟨j, d, by omega, hrf, hd, ?_, fun d' hd' => nonem _ (hnb d' hd')⟩
        rw [hS]
        simp only [upd]
        rw [if_pos trivial]
  · rw [if_neg hem]
    obtain ⟨j0, hj0, e0, ha0⟩ := hfd hem
    refine ⟨by omega, fun q hq => ?_, fun q q' j hq hq' hj e1 e2 => ?_, fun j hj => ?_⟩
    · rcases h2 q hq with h | ⟨j, hj, e⟩
      · exact Or.inl h
      · exact Or.inr ⟨j, by omega, e⟩
    · rcases h2 q hq with h | ⟨j2, hj2, e⟩
      · rw [h] at e1; exact absurd e1.symm (nI_ne_m1 (by omega))
      · have hjj : j2 = j := by
          rw [e] at e1
          exact (nI_eq (by omega) (by omega)).mp e1
        exact h3 q q' j hq hq' (by omega) e1 e2
    · rcases Nat.lt_or_ge j nn with h | h
      · obtain ⟨j', d2, a1, a2, a3, a4, a5⟩ := h4 j h
        rw [hhs j h]
        exact ⟨j', d2, by omega, hal j j' h a1 a2, a3, a4, a5⟩
      · have : j = nn := by omega
        subst this
        exact ⟨j0, d, by omega, ha0, hd, e0, hnb⟩
/-- an empty table -/
theorem tab_none {sl : Nat → Int32} {al : Nat → Nat → Prop} {hs : Nat → Nat} (h : ∀ q, q < 4096 → sl q = -1) : tabOK sl 0 al hs := ⟨by omega, fun q hq => Or.inl (h q hq), fun q q' j _ _ hj => absurd hj (Nat.not_lt_zero _), fun j hj => absurd hj (Nat.not_lt_zero _)⟩
