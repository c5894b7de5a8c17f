/-! the search, as functions: the story SY, the nodes ZN (by hand) -/
abbrev ZN : Type := Nat × (Nat → Int64) × (Nat → Int32) × (Nat → Int32) × (Nat → Nat) × (Nat → Int32) × (Nat → Int32) × (Nat → Int32) × (Nat → Int32)
abbrev z_w (Z : ZN) := Z.2.1
abbrev z_b (Z : ZN) := Z.2.2.1
abbrev z_s (Z : ZN) := Z.2.2.2.1
abbrev z_d (Z : ZN) := Z.2.2.2.2.1
abbrev z_e (Z : ZN) := Z.2.2.2.2.2.1
abbrev z_c (Z : ZN) := Z.2.2.2.2.2.2.1
abbrev z_t (Z : ZN) := Z.2.2.2.2.2.2.2.1
abbrev z_x (Z : ZN) := Z.2.2.2.2.2.2.2.2
/-- M, cells, moves, macros, sizes, rows, weights, how many of THE GOAL, kinds, a, b, the mask -/
abbrev SY : Type := MV × Nat × Nat × Nat × (Nat → Nat) × (Nat → Nat) × (Nat → Int32) × Nat × (Nat → Int32) × (Nat → Int32) × (Nat → Int32) × Int64
abbrev y_M (S : SY) := S.1
abbrev y_n (S : SY) := S.2.1
abbrev y_nm (S : SY) := S.2.2.1
abbrev y_nk (S : SY) := S.2.2.2.1
abbrev y_sz (S : SY) := S.2.2.2.2.1
abbrev y_ro (S : SY) := S.2.2.2.2.2.1
abbrev y_wt (S : SY) := S.2.2.2.2.2.2.1
abbrev y_ng (S : SY) := S.2.2.2.2.2.2.2.1
abbrev y_gk (S : SY) := S.2.2.2.2.2.2.2.2.1
abbrev y_ga (S : SY) := S.2.2.2.2.2.2.2.2.2.1
abbrev y_gb (S : SY) := S.2.2.2.2.2.2.2.2.2.2.1
abbrev y_cl (S : SY) := S.2.2.2.2.2.2.2.2.2.2.2
def f_any (al : Nat → Bool) : Nat → Bool
  | 0 => false
  | k + 1 => f_any al k || al k
theorem f_any_iff {al : Nat → Bool} : ∀ n, f_any al n = true ↔ ∃ j, j < n ∧ al j = true
  | 0 => by simp [f_any]
  | n + 1 => by
    simp only [f_any, Bool.or_eq_true, f_any_iff n]
    constructor
    · rintro (⟨j, hj, h⟩ | h)
      · exact ⟨j, by omega, h⟩
      · exact ⟨n, by omega, h⟩
    · rintro ⟨j, hj, h⟩
      rcases Nat.lt_or_ge j n with q | q
      · exact Or.inl ⟨j, q, h⟩
      · have : j = n := by omega
        subst this
        exact Or.inr h
def f_sc (S : SY) (t : Mt) : Int32 := f_score (y_wt S) t.1 (y_n S)
def f_goal (S : SY) (t : Mt) : Bool := f_met t.1 t.2.1 t.2.2.1 (f_sc S t) 1 (y_gk S) (y_ga S) (y_gb S) (y_ng S)
def f_addZ (Z : ZN) (bf sp : Int32) (w : Int64) (en sco : Int32) : ZN := (Z.1 + 1, vp_updL (z_w Z) Z.1 w, upd (z_b Z) Z.1 bf, upd (z_s Z) Z.1 sp, updN (z_d Z) Z.1 (f_dep (z_d Z) bf), upd (z_e Z) Z.1 en, upd (z_c Z) Z.1 sco, upd (z_t Z) Z.1 0, upd (z_x Z) Z.1 0)
/-- what comes of a STEP that could be done: the NODES, SEEN, and 2 (it goes on), 1 (FOUND), -1 (SPENT) -/
def f_outc (S : SY) (alw : Nat) (Z : ZN) (sn bf sp : Int32) (t : Mt) : ZN × Int32 × Int32 :=
  if f_goal S t = false ∧ f_any (f_alike (z_w Z) (z_e Z) (y_cl S) t.1 t.2.1) Z.1 = true then (Z, sn ||| t.2.2.2, 2)
  else if alw ≤ Z.1 then (Z, sn ||| t.2.2.2, -1)
  else (f_addZ Z bf sp t.1 t.2.1 (f_sc S t), sn ||| t.2.2.2, if f_goal S t = true then 1 else 2)
def f_tryS (S : SY) (p : Nat) (t : Mt) : Mt × Bool := f_try (y_M S) (y_n S) (y_sz S) (y_ro S) (n_by (y_nm S) p) t
/-- the STEPS at the places 0, 1, .. of a NODE: NODES, SEEN, whether one could be done, and as above -/
def f_tn (S : SY) (alw k : Nat) (t : Mt) (Z : ZN) (sn : Int32) : Nat → ZN × Int32 × Bool × Int32
  | 0 => (Z, sn, false, 2)
  | p + 1 => if (f_tn S alw k t Z sn p).2.2.2 = 2 ∧ (f_tryS S p t).2 = true then
      ((f_outc S alw (f_tn S alw k t Z sn p).1 (f_tn S alw k t Z sn p).2.1 (nI k) (nI (n_by (y_nm S) p)) (f_tryS S p t).1).1, (f_outc S alw (f_tn S alw k t Z sn p).1 (f_tn S alw k t Z sn p).2.1 (nI k) (nI (n_by (y_nm S) p)) (f_tryS S p t).1).2.1, true, (f_outc S alw (f_tn S alw k t Z sn p).1 (f_tn S alw k t Z sn p).2.1 (nI k) (nI (n_by (y_nm S) p)) (f_tryS S p t).1).2.2)
    else f_tn S alw k t Z sn p
theorem f_tn_stay {S : SY} {alw k : Nat} {t : Mt} {Z : ZN} {sn : Int32} {p : Nat} (h : ¬ (f_tn S alw k t Z sn p).2.2.2 = 2) : ∀ d, f_tn S alw k t Z sn (p + d) = f_tn S alw k t Z sn p
  | 0 => rfl
  | d + 1 => by
    show f_tn S alw k t Z sn ((p + d) + 1) = _
    simp only [f_tn]
    rw [f_tn_stay h d, if_neg (fun z => h z.1)]
theorem f_tn_no {S : SY} {alw k : Nat} {t : Mt} {Z : ZN} {sn : Int32} {p : Nat} (h : ¬ (f_tryS S p t).2 = true) : f_tn S alw k t Z sn (p + 1) = f_tn S alw k t Z sn p := by
  simp only [f_tn]
  rw [if_neg (fun z => h z.2)]
def z_take (Z : ZN) (k : Nat) : ZN := (Z.1, z_w Z, z_b Z, z_s Z, z_d Z, z_e Z, z_c Z, upd (z_t Z) k 1, z_x Z)
def z_dead (Z : ZN) (k : Nat) : ZN := (Z.1, z_w Z, z_b Z, z_s Z, z_d Z, z_e Z, z_c Z, z_t Z, upd (z_x Z) k 1)
/-- NODE k is taken -/
def f_nd (S : SY) (alw k : Nat) (Z : ZN) (sn : Int32) : ZN × Int32 × Bool × Int32 := f_tn S alw k (z_w Z k, 0, -1, 0) (z_take Z k) sn (y_nm S + y_nk S)
def nd_dead (r : ZN × Int32 × Bool × Int32) : Bool := decide (r.2.2.2 = 2) && !r.2.2.1
def f_ndZ (S : SY) (alw k : Nat) (Z : ZN) (sn : Int32) : ZN := if nd_dead (f_nd S alw k Z sn) = true then z_dead (f_nd S alw k Z sn).1 k else (f_nd S alw k Z sn).1
def f_firstO (op : Nat → Bool) : Nat → Option Nat
  | 0 => none
  | k + 1 => match f_firstO op k with
    | some b => some b
    | none => if op k = true then some k else none
def f_pick (bb : Bool) (Z : ZN) : Option Nat := if bb = true then f_best (f_open (z_t Z) (z_e Z)) (z_c Z) Z.1 else f_firstO (f_open (z_t Z) (z_e Z)) Z.1
abbrev QS : Type := ZN × Int32 × Nat × (Nat → Nat) × Nat
/-- the search's turns: NODES, SEEN, how many DEAD, the queue, how many taken; and the answer (2: the turns were too few) -/
def f_loop (S : SY) (alw : Nat) (bb : Bool) : Nat → QS → QS × Int32
  | 0, s => (s, 2)
  | k + 1, s => match f_pick bb s.1 with
    | none => (s, 0)
    | some j => if (f_nd S alw j s.1 s.2.1).2.2.2 = 2 then f_loop S alw bb k (f_ndZ S alw j s.1 s.2.1, (f_nd S alw j s.1 s.2.1).2.1, (if nd_dead (f_nd S alw j s.1 s.2.1) = true then s.2.2.1 + 1 else s.2.2.1), updN s.2.2.2.1 s.2.2.2.2 j, s.2.2.2.2 + 1)
        else ((f_ndZ S alw j s.1 s.2.1, (f_nd S alw j s.1 s.2.1).2.1, (if nd_dead (f_nd S alw j s.1 s.2.1) = true then s.2.2.1 + 1 else s.2.2.1), updN s.2.2.2.1 s.2.2.2.2 j, s.2.2.2.2 + 1), (f_nd S alw j s.1 s.2.1).2.2.2)
/-! the table of the class -/
theorem bv_xm (a b m : BitVec 64) : (a ^^^ b) &&& m = 0#64 ↔ a &&& m = b &&& m := by
  constructor
  · intro h
    apply BitVec.eq_of_getLsbD_eq
    intro i hi
    have := congrArg (fun z => BitVec.getLsbD z i) h
    simp only [BitVec.getLsbD_and, BitVec.getLsbD_xor, BitVec.getLsbD_zero] at this ⊢
    revert this
    cases a.getLsbD i <;> cases b.getLsbD i <;> cases m.getLsbD i <;> simp
  · intro h
    apply BitVec.eq_of_getLsbD_eq
    intro i hi
    have := congrArg (fun z => BitVec.getLsbD z i) h
    simp only [BitVec.getLsbD_and, BitVec.getLsbD_xor, BitVec.getLsbD_zero] at this ⊢
    revert this
    cases a.getLsbD i <;> cases b.getLsbD i <;> cases m.getLsbD i <;> simp
theorem l_xm (a b m : Int64) : (a ^^^ b) &&& m = 0 ↔ a &&& m = b &&& m := by
  rw [← Int64.toBitVec_inj, ← Int64.toBitVec_inj (a := a &&& m), Int64.toBitVec_and, Int64.toBitVec_xor, Int64.toBitVec_and, Int64.toBitVec_and]
  exact bv_xm _ _ _
theorem f_alike_iff {nw : Nat → Int64} {ne : Nat → Int32} {ncl w : Int64} {en : Int32} {j : Nat} : f_alike nw ne ncl w en j = true ↔ nw j &&& ncl = w &&& ncl ∧ ne j = en := by
  simp only [f_alike, Bool.and_eq_true, decide_eq_true_eq, l_xm]
def alC (nw : Nat → Int64) (ne : Nat → Int32) (ncl : Int64) : Nat → Nat → Prop := fun j j' => f_alike nw ne ncl (nw j) (ne j) j' = true
def hsC (nw : Nat → Int64) (ne : Nat → Int32) (ncl : Int64) : Nat → Nat := fun j => f_hash (nw j) ncl (ne j)
def tabC (sl : Nat → Int32) (nn : Nat) (nw : Nat → Int64) (ne : Nat → Int32) (ncl : Int64) : Prop := tabOK sl nn (alC nw ne ncl) (hsC nw ne ncl)
theorem f_slot_find {sl : Nat → Int32} {nn : Nat} {nw : Nat → Int64} {ne : Nat → Int32} {ncl : Int64} (T : tabC sl nn nw ne ncl) (w : Int64) (en : Int32) : ∃ d, d < 4096 ∧ f_slot sl nw ne ncl w en = (f_hash w ncl en + d) % 4096 ∧ (∀ d', d' < d → ¬ sl ((f_hash w ncl en + d') % 4096) = -1) ∧ (¬ sl ((f_hash w ncl en + d) % 4096) = -1 → ∃ j, j < nn ∧ sl ((f_hash w ncl en + d) % 4096) = nI j ∧ f_alike nw ne ncl w en j = true) ∧ (sl ((f_hash w ncl en + d) % 4096) = -1 → ∀ j, j < nn → ¬ f_alike nw ne ncl w en j = true) := by
  have h := tab_find (qa := f_alike nw ne ncl w en) (h0 := f_hash w ncl en) T (fun j hj hq => by
    obtain ⟨h1, h2⟩ := f_alike_iff.mp hq
    simp only [hsC, f_hash, f_key]
    rw [h1, h2]) (fun j j' hj hj' hq ha => by
    obtain ⟨h1, h2⟩ := f_alike_iff.mp hq
    obtain ⟨h3, h4⟩ := f_alike_iff.mp ha
    exact f_alike_iff.mpr ⟨h3.trans h1, h4.trans h2⟩)
  have hl : f_hash w ncl en < 4096 := f_hashN_lt _
  rw [Nat.mod_eq_of_lt hl] at h
  exact h
theorem f_slot_any {sl : Nat → Int32} {nn : Nat} {nw : Nat → Int64} {ne : Nat → Int32} {ncl : Int64} (T : tabC sl nn nw ne ncl) (w : Int64) (en : Int32) : ¬ sl (f_slot sl nw ne ncl w en) = -1 ↔ f_any (f_alike nw ne ncl w en) nn = true := by
  obtain ⟨d, hd, e1, -, e3, e4⟩ := f_slot_find T w en
  rw [e1, f_any_iff]
  constructor
  · intro h
    obtain ⟨j, hj, -, ha⟩ := e3 h
    exact ⟨j, hj, ha⟩
  · rintro ⟨j, hj, ha⟩ h
    exact e4 h j hj ha
theorem tabC_add {sl : Nat → Int32} {nn : Nat} {nw : Nat → Int64} {ne : Nat → Int32} {ncl : Int64} (T : tabC sl nn nw ne ncl) (hnn : nn < 1500) (w : Int64) (en : Int32) : tabC (if sl (f_slot sl nw ne ncl w en) = -1 then upd sl (f_slot sl nw ne ncl w en) (nI nn) else sl) (nn + 1) (vp_updL nw nn w) (upd ne nn en) ncl := by
  obtain ⟨d, hd, e1, e2, e3, e4⟩ := f_slot_find T w en
  have ew : ∀ j, j < nn → vp_updL nw nn w j = nw j := fun j hj => if_neg (by omega)
  have ee : ∀ j, j < nn → upd ne nn en j = ne j := fun j hj => if_neg (by omega)
  have ew0 : vp_updL nw nn w nn = w := if_pos rfl
  have ee0 : upd ne nn en nn = en := if_pos rfl
  have hh : hsC (vp_updL nw nn w) (upd ne nn en) ncl nn = f_hash w ncl en := by simp only [hsC]; rw [ew0, ee0]
  rw [e1, ← hh]
  rw [← hh] at e2 e3
  refine tab_add T hnn (fun j j' hj hj' ha => ?_) (fun j hj => ?_) hd e2 ?_ (fun h => ?_)
  · simp only [alC, f_alike_iff] at ha ⊢
    rw [ew j hj, ew j' hj', ee j hj, ee j' hj']
    exact ha
  · simp only [hsC]
    rw [ew j hj, ee j hj]
  · show f_alike _ _ _ _ _ _ = true
    rw [f_alike_iff]
    exact ⟨rfl, rfl⟩
  · obtain ⟨j, hj, a1, a2⟩ := e3 h
    refine ⟨j, hj, a1, ?_⟩
    simp only [alC, f_alike_iff] at a2 ⊢
    rw [ew0, ee0, ew j hj, ee j hj]
    exact a2
