/-! a call that throws, and its catch: the words, the call, the handler (by hand) -/
def upN : List String := ["java/lang/IndexOutOfBoundsException", "java/lang/RuntimeException", "java/lang/Exception"]
/-- the words that a throw needs and that do not go by the tables alone -/
def thrW : List Cond := [.laysStatic Bundle.tN "UNASSIGNED_STACK" Bundle.steD, .laysStatic Bundle.tN "SUPPRESSED_SENTINEL" Bundle.listD, .declares (Bundle.initS "java/lang/IndexOutOfBoundsException"), .declares (Bundle.initS "java/lang/RuntimeException"), .declares (Bundle.initS "java/lang/Exception"), .declares (Bundle.initS Bundle.tN), .castable RJx00060 RJx00060, .isRef (.static Bundle.tN "UNASSIGNED_STACK" Bundle.steD), .isRef (.static Bundle.tN "SUPPRESSED_SENTINEL" Bundle.listD), .stringRef RX9 201 "no node was taken as this one"]
def thr_K (U : State) : Prop := ∀ w ∈ thrW, w.before #[] U = true
set_option maxRecDepth 10000 in
theorem ow_in : ∀ a ∈ Bundle.ownAtoms RX9 203 RJx00060 upN, a ∈ TG ∨ a ∈ thrW := by
  show ∀ a ∈ (_ :: _ : List Cond), _
  exact List.forall_mem_cons.mpr ⟨Or.inl (tg_1 15 rfl rfl), List.forall_mem_cons.mpr ⟨Or.inl (tg_4 9 rfl rfl), List.forall_mem_cons.mpr ⟨Or.inl (tg_4 18 rfl rfl), List.forall_mem_cons.mpr ⟨Or.inl (tg_4 20 rfl rfl), List.forall_mem_cons.mpr ⟨Or.inl (tg_4 23 rfl rfl), List.forall_mem_cons.mpr ⟨Or.inl (tg_4 25 rfl rfl), List.forall_mem_cons.mpr ⟨Or.inl (tg_4 10 rfl rfl), List.forall_mem_cons.mpr ⟨Or.inl (tg_4 11 rfl rfl), List.forall_mem_cons.mpr ⟨Or.inl (tg_1 26 rfl rfl), List.forall_mem_cons.mpr ⟨Or.inl (tg_1 27 rfl rfl), List.forall_mem_cons.mpr ⟨Or.inl (tg_4 12 rfl rfl), List.forall_mem_cons.mpr ⟨Or.inl (tg_4 17 rfl rfl), List.forall_mem_cons.mpr ⟨Or.inl (tg_4 21 rfl rfl), List.forall_mem_cons.mpr ⟨Or.inl (tg_4 44 rfl rfl), List.forall_mem_cons.mpr ⟨Or.inl (tg_3 239 rfl rfl), List.forall_mem_cons.mpr ⟨Or.inl (tg_4 45 rfl rfl), List.forall_mem_cons.mpr ⟨Or.inl (tg_4 1 rfl rfl), List.forall_mem_cons.mpr ⟨Or.inl (tg_4 46 rfl rfl), List.forall_mem_cons.mpr ⟨Or.inl (tg_4 3 rfl rfl), List.forall_mem_cons.mpr ⟨Or.inl (tg_4 13 rfl rfl), List.forall_mem_cons.mpr ⟨Or.inr (List.mem_of_getElem? (i := 0) rfl), List.forall_mem_cons.mpr ⟨Or.inl (tg_4 15 rfl rfl), List.forall_mem_cons.mpr ⟨Or.inr (List.mem_of_getElem? (i := 1) rfl), List.forall_mem_cons.mpr ⟨Or.inl (tg_4 5 rfl rfl), List.forall_mem_cons.mpr ⟨Or.inl (tg_4 40 rfl rfl), List.forall_mem_cons.mpr ⟨Or.inl (tg_4 41 rfl rfl), List.forall_mem_cons.mpr ⟨Or.inl (tg_4 43 rfl rfl), List.forall_mem_cons.mpr ⟨Or.inl (tg_4 5 rfl rfl), List.forall_mem_cons.mpr ⟨Or.inl (tg_4 28 rfl rfl), List.forall_mem_cons.mpr ⟨Or.inl (tg_4 29 rfl rfl), List.forall_mem_cons.mpr ⟨Or.inl (tg_4 30 rfl rfl), List.forall_mem_cons.mpr ⟨Or.inl (tg_4 31 rfl rfl), List.forall_mem_cons.mpr ⟨Or.inr (List.mem_of_getElem? (i := 2) rfl), List.forall_mem_cons.mpr ⟨Or.inl (tg_4 31 rfl rfl), List.forall_mem_cons.mpr ⟨Or.inl (tg_4 32 rfl rfl), List.forall_mem_cons.mpr ⟨Or.inl (tg_4 33 rfl rfl), List.forall_mem_cons.mpr ⟨Or.inl (tg_4 34 rfl rfl), List.forall_mem_cons.mpr ⟨Or.inr (List.mem_of_getElem? (i := 3) rfl), List.forall_mem_cons.mpr ⟨Or.inl (tg_4 34 rfl rfl), List.forall_mem_cons.mpr ⟨Or.inl (tg_4 35 rfl rfl), List.forall_mem_cons.mpr ⟨Or.inl (tg_4 36 rfl rfl), List.forall_mem_cons.mpr ⟨Or.inl (tg_4 37 rfl rfl), List.forall_mem_cons.mpr ⟨Or.inr (List.mem_of_getElem? (i := 4) rfl), List.forall_mem_cons.mpr ⟨Or.inl (tg_4 37 rfl rfl), List.forall_mem_cons.mpr ⟨Or.inl (tg_4 38 rfl rfl), List.forall_mem_cons.mpr ⟨Or.inl (tg_4 39 rfl rfl), List.forall_mem_cons.mpr ⟨Or.inl (tg_4 40 rfl rfl), List.forall_mem_cons.mpr ⟨Or.inr (List.mem_of_getElem? (i := 5) rfl), List.forall_mem_cons.mpr ⟨Or.inl (tg_4 27 rfl rfl), List.forall_mem_cons.mpr ⟨Or.inl (tg_3 226 rfl rfl), List.forall_mem_cons.mpr ⟨Or.inr (List.mem_of_getElem? (i := 6) rfl), List.forall_mem_cons.mpr ⟨Or.inl (tg_3 236 rfl rfl), List.forall_mem_cons.mpr ⟨Or.inl (tg_3 237 rfl rfl), List.forall_mem_cons.mpr ⟨Or.inl (tg_3 238 rfl rfl), List.forall_mem_cons.mpr ⟨Or.inl (tg_4 0 rfl rfl), List.forall_mem_cons.mpr ⟨Or.inl (tg_4 2 rfl rfl), List.forall_mem_cons.mpr ⟨Or.inl (tg_4 4 rfl rfl), List.forall_mem_cons.mpr ⟨Or.inr (List.mem_of_getElem? (i := 7) rfl), List.forall_mem_cons.mpr ⟨Or.inr (List.mem_of_getElem? (i := 8) rfl), List.forall_mem_cons.mpr ⟨Or.inl (tg_4 8 rfl rfl), List.forall_mem_cons.mpr ⟨Or.inl (tg_4 7 rfl rfl), List.forall_mem_cons.mpr ⟨Or.inl (tg_4 6 rfl rfl), fun _ h => absurd h List.not_mem_nil⟩⟩⟩⟩⟩⟩⟩⟩⟩⟩⟩⟩⟩⟩⟩⟩⟩⟩⟩⟩⟩⟩⟩⟩⟩⟩⟩⟩⟩⟩⟩⟩⟩⟩⟩⟩⟩⟩⟩⟩⟩⟩⟩⟩⟩⟩⟩⟩⟩⟩⟩⟩⟩⟩⟩⟩⟩⟩⟩⟩⟩⟩
/-- every cell of s stands as it was -/
def keptH (H H1 : Heap) : Prop := ∀ (q : Addr) (cy : Cell), H[q]? = some cy → H1[q]? = some cy
theorem ev_static {s U : State} (hal : s.vm.Alike U.vm) (hk : keptH s.heap U.heap) {c n d : String} {a a' : Array Value} {v : Value} (h : (Term.static c n d).eval a s none [] s = some v) : (Term.static c n d).eval a' U none [] U = some v := by
  rcases hf : s.fieldFound? c n d with _ | ⟨cf, k, ix, f⟩
  · simp [Term.eval, State.fieldNamed?, hf] at h
  · obtain ⟨k', hf', he⟩ := State.fieldFound?_setVm hal hf
    have hU : U.fieldFound? c n d = some (cf, k', ix, f) := hf'
    have hks : k'.statics = k.statics := by rw [he]
    rcases hst : f.isStatic with _ | _
    · simp [Term.eval, State.fieldNamed?, hf, hst] at h
    rcases hs : k.statics with _ | ad
    · simp [Term.eval, State.fieldNamed?, hf, hst, hs] at h
    rcases hc : s.heap[ad]? with _ | cell
    · simp [Term.eval, State.fieldNamed?, hf, hst, hs, hc] at h
    have hcU := hk ad cell hc
    rcases hi : cell.vm.isStatics with _ | _
    · simp [Term.eval, State.fieldNamed?, hf, hst, hs, hc, hi] at h
    simp [Term.eval, State.fieldNamed?, hf, hst, hs, hc, hi] at h
    simp [Term.eval, State.fieldNamed?, hU, hst, hks, hs, hcU, hi, h]
theorem w_ref {s U : State} (hal : s.vm.Alike U.vm) (hk : keptH s.heap U.heap) {c n d : String} {a a' : Array Value} (h : (Cond.isRef (.static c n d)).before a s = true) : (Cond.isRef (.static c n d)).before a' U = true := by
  rcases hv : (Term.static c n d).eval a s none [] s with _ | v
  · simp [Cond.before, Cond.holds, Cond.value, hv] at h
  · have hU := ev_static (a' := a') hal hk hv
    simp only [Cond.before, Cond.holds, Cond.value, hv] at h
    simp only [Cond.before, Cond.holds, Cond.value, hU]
    exact h
theorem w_lays {s U : State} (hal : s.vm.Alike U.vm) (hk : keptH s.heap U.heap) {c n d : String} {a a' : Array Value} (h : (Cond.laysStatic c n d).before a s = true) : (Cond.laysStatic c n d).before a' U = true := by
  obtain ⟨cc, k, ix, f, ad, cell, h1, h2, h3, h4, h5, h6, h7, h8, h9⟩ := Cond.laysStatic_spec h
  obtain ⟨k', hf, he⟩ := State.fieldFound?_setVm hal h2
  have hf : U.fieldFound? c n d = some (cc, k', ix, f) := hf
  exact Cond.laysStatic_of (s := U) (by rw [hal.findClass]; exact h1) hf h3 (by rw [he]; exact h4) (hk ad cell h5) h6 h7 h8 (by rw [he]; exact h9)
theorem w_decl {s U : State} (hal : s.vm.Alike U.vm) {x : MethodName} {a a' : Array Value} (h : (Cond.declares x).before a s = true) : (Cond.declares x).before a' U = true := by
  have h1 : (Cond.declares x).before a (s.setVm U.vm) = true := by rw [Cond.declares_setVm hal]; exact h
  exact h1
theorem w_cast {s U : State} (hal : s.vm.Alike U.vm) {x y : String} {a a' : Array Value} (h : (Cond.castable x y).before a s = true) : (Cond.castable x y).before a' U = true := by
  have h1 : (Cond.castable x y).before a (s.setVm U.vm) = true := by rw [Cond.castable_setVm hal]; exact h
  exact h1
theorem w_str {s U : State} (hW : s.WarmedH U.vm) {x t : String} {i : Nat} {a a' : Array Value} (h : (Cond.stringRef x i t).before a s = true) : (Cond.stringRef x i t).before a' U = true := by
  have h1 : (Cond.stringRef x i t).before a (s.setVm U.vm) = true := Cond.stringRef_warmed hW h
  exact h1
theorem thr_ride {s U : State} (hW : s.WarmedH U.vm) (hk : keptH s.heap U.heap) {a a' : Array Value} (h : ∀ w ∈ thrW, w.before a s = true) : ∀ w ∈ thrW, w.before a' U = true :=
  List.forall_mem_cons.mpr ⟨w_lays hW.alike hk (h _ (List.mem_of_getElem? (i := 0) rfl)), List.forall_mem_cons.mpr ⟨w_lays hW.alike hk (h _ (List.mem_of_getElem? (i := 1) rfl)), List.forall_mem_cons.mpr ⟨w_decl hW.alike (h _ (List.mem_of_getElem? (i := 2) rfl)), List.forall_mem_cons.mpr ⟨w_decl hW.alike (h _ (List.mem_of_getElem? (i := 3) rfl)), List.forall_mem_cons.mpr ⟨w_decl hW.alike (h _ (List.mem_of_getElem? (i := 4) rfl)), List.forall_mem_cons.mpr ⟨w_decl hW.alike (h _ (List.mem_of_getElem? (i := 5) rfl)), List.forall_mem_cons.mpr ⟨w_cast hW.alike (h _ (List.mem_of_getElem? (i := 6) rfl)), List.forall_mem_cons.mpr ⟨w_ref hW.alike hk (h _ (List.mem_of_getElem? (i := 7) rfl)), List.forall_mem_cons.mpr ⟨w_ref hW.alike hk (h _ (List.mem_of_getElem? (i := 8) rfl)), List.forall_mem_cons.mpr ⟨w_str hW (h _ (List.mem_of_getElem? (i := 9) rfl)), fun _ h => absurd h List.not_mem_nil⟩⟩⟩⟩⟩⟩⟩⟩⟩⟩
theorem thr_K.ride {s U : State} (h : thr_K s) (hW : s.WarmedH U.vm) (hk : keptH s.heap U.heap) : thr_K U := thr_ride hW hk h
theorem thr_K.any {s : State} (h : thr_K s) (a : Array Value) : ∀ w ∈ thrW, w.before a s = true := thr_ride (State.WarmedH.refl s) (fun _ _ hy => hy) h
theorem own_all {s : State} {a : Array Value} (ht : ∀ x ∈ TG, x.before a s = true) (h : thr_K s) : ∀ w ∈ Bundle.ownAtoms RX9 203 RJx00060 upN, w.before a s = true := fun w hw => by
  rcases ow_in w hw with z | z
  · exact ht w z
  · exact h.any a w z
theorem cl_AIO : Cond.classLink RX9 199 RJx00060 ∈ TG := kl_X9_199
theorem cl_L13 : Cond.classLink RL 13 RJx00060 ∈ TG := tg_3 220 rfl rfl
theorem cw_Lq : Cond.codeWith yL_queue cL_queue 4 (some .int) [(0, 9, 12, 13)] ∈ TG := tg_3 219 rfl rfl
theorem it_AIO : Cond.instantiable RJx00060 6 ∈ TG := is_Jx00060
theorem in_AIO : Cond.initialized RJx00060 ∈ TG := in_Jx00060
/-- what a call that throws leaves: the new object, and everything that was there -/
def thQ (_ : Array Value) (st : State) (o : Outcome) (t : State) : Prop := ∃ (x : Addr) (ce : Cell), o = .threw x ∧ t.heap[x]? = some ce ∧ ce.vm = .none ∧ st.vm.findClass RJx00060 = some ce.cls ∧ st.WarmedH t.vm ∧ st.sameButNew ({ t with vm := st.vm } : State) [] 1 6
theorem sbn_kept {s t : State} {k n : Nat} (h : s.sameButNew t [] k n) : keptH s.heap t.heap := fun q cy hq => by
  obtain ⟨c', h1, h2, h3, h4⟩ := h.2.2.2.2.2 q cy hq
  have hs : c'.slots = cy.slots := Array.ext h3 fun i g1 g2 => by
    have z := h4 i (by simp)
    rw [Array.getElem?_eq_getElem g1, Array.getElem?_eq_getElem g2] at z
    exact Option.some.inj z
  have he : c' = cy := by
    cases c'
    cases cy
    simp only [Cell.mk.injEq] at h2 hs ⊢
    exact ⟨h2.1, hs, h2.2.2.1, h2.2.2.2.1, h2.2.2.2.2⟩
  rw [← he]
  exact h1
