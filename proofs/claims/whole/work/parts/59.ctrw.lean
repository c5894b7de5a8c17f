/-! contracts of a method with a handler (by hand) -/
def cPreT (D : va_G) (cI cJ cZ : ClassId) (WS : va_W) (sz : Nat) (U : State) : Prop := cPre D cI cJ cZ WS sz U ∧ thr_K U
def CtrW (l : Launch) (D : va_G) (cI cJ cZ : ClassId) (y : MethodName) (cc : ByteArray) (nL : Nat) (ret : Option FieldType) (hh : List (Nat × Nat × Nat × Nat)) (rm : Room) (As : List Value) (WS : va_W) (Post : Option Value → va_W → Prop) : Prop := ∀ sz : Nat, Met l y (.codeWith y cc nL ret hh :: TG) rm (va_Pc As (cPreT D cI cJ cZ WS sz)) (cPost D (va_A WS sz) Post) rm.cells rm.slots (va_A WS sz)
section CTRW
variable {l : Launch} {D : va_G} {cI cJ cZ : ClassId} {p : Program} {e : Env} {R : Room} {s : State} {m : MethodId} {args : Array Value} {below : List Frame} {meth : Method} {c : Code} {H : Heap} {locs : List Loc} {cells slots : Nat} {Q : State → Prop} {y y' : MethodName} {cc bytes : ByteArray} {nL maxL' idx : Nat} {ret ret' : Option FieldType} {rm rm' : Room} {As : List Value} {WS WS' WC WR ws : va_W} {Post Post' : Option Value → va_W → Prop} {A : Nat → Prop} {mc ms pc : Nat} {ls : Array Slot} {st0 rest : List Value} {hh : List (Nat × Nat × Nat × Nat)}
theorem CtrW.start (hy : plainName y.cls = true) (hl : (lg_sl As).length ≤ nL)
    (body : ∀ (p : Program) (e : Env) (s : State) (m : MethodId) (below : List Frame) (meth : Method) (c : Code) (A : Nat → Prop) (Q : State → Prop) (ls : Array Slot), Cx D cI cJ cZ p s m As.toArray meth c y cc nL ret → c.exceptionTable.toList.map (fun h => (h.startPc, h.endPc, h.handlerPc, h.catchType)) = hh → thr_K s → QOK Q below s As.toArray D A Post rm.cells rm.slots → (∀ q, s.heap.size ≤ q → A q) → va_P D vwCl WS s.heap → va_D A WS → va_S A s.heap s.heap [] → lv_has ls nL (lv_args 0 As) → W p l e rm s m As.toArray below meth c s.heap [] 0 0 Q (F0 m 0 ls [])) : CtrW l D cI cJ cZ y cc nL ret hh rm As WS Post := by
  intro sz
  refine va_MetW (cc := cc) (maxL := nL) (ret := ret) (hh := hh) hy rfl ?_
  intro p e s m args below meth c s₁ B hml hv
  obtain ⟨rfl, ⟨hsz, hP, ⟨hK, hN⟩, hD0⟩, hT⟩ := hv
  subst hsz
  have hle := lv_entry As (n := nL) hl
  rw [lg_entry_eq]
  have hex : c.exceptionTable.toList.map (fun h => (h.startPc, h.endPc, h.handlerPc, h.catchType)) = hh := by
    obtain ⟨m9, meth9, c9, h1, h2, h3, -, -, h4, -⟩ := Cond.codeWith_spec (atoms_spec (ws := .codeWith y cc nL ret hh :: TG) B.pre _ List.mem_cons_self)
    cases B.named.symm.trans h1
    cases B.method.symm.trans h2
    cases (Stand.of_body B).code.symm.trans h3
    exact h4
  exact body p e s m below meth c (va_A WS s.heap.size) _ _ ⟨B.exec, B.bytes, B.returns, hml, fun x hx => atoms_spec (ws := .codeWith y cc nL ret hh :: TG) B.pre x (List.mem_cons_of_mem _ hx), findClass_of_methodNamed B.named, B.notSynchronized, (name_of_methodNamed B.named B.method).1, hK, hN⟩ hex hT rfl (fun q h => Or.inr h) hP hD0.self va_S.rf hle
theorem cPreT.blind (As : List Value) (WS : va_W) (sz : Nat) : FrameBlind (va_Pc As (cPreT D cI cJ cZ WS sz)) := fun a U g mk q => by
  obtain ⟨q0, qc, qt⟩ := q
  obtain ⟨z0, z1⟩ := cPre.blind As WS sz a U g mk ⟨q0, qc⟩
  exact ⟨z0, z1, qt.ride (U := U.calling g mk a) (State.WarmedH.refl U) (fun _ _ z => z)⟩
/-- invokestatic of a method with a handler -/
theorem cl_sW (C : Cx D cI cJ cZ p s m args meth c y cc nL ret) (hc : CtrW l D cI cJ cZ y' bytes maxL' ret' hh rm' As WC Post') (hcd : Cond.codeWith y' bytes maxL' ret' hh ∈ TG) (hmk : Cond.methodLink y.cls idx y' ∈ TG) (hst' : Cond.static y' ∈ TG) (hi : Cond.initialized y'.cls ∈ TG)
    (hd : y'.cls ≠ "java/lang/invoke/MethodHandle" ∧ y'.cls ≠ "java/lang/invoke/VarHandle" ∧ (parseMethodDescriptor y'.desc).map (fun d => d.parameters.length) = some As.length) (hR : rm'.frames + 1 ≤ R.frames ∧ 8 + (maxL' + 11) + rm'.locals ≤ R.locals) (hT : ∀ U : State, U.heap = H → s.WarmedH U.vm → thr_K U)
    (hP : va_P D vwCl ws H) (hD : va_D A ws) (hS : va_S A s.heap H locs) (hA : ∀ q, s.heap.size ≤ q → A q) (isC isR : List Nat) (hC : isC.map (fun i => ws[i]?) = WC.map some) (hRr : isR.map (fun i => ws[i]?) = WR.map some) (hnC : va_nd isC = true) (hnR : va_nd isR = true) (hdis : ∀ i ∈ isR, i ∉ isC)
    (hls : ls.size = nL) (hst : st0 = As.reverse ++ rest) (hW : (rest.map fun v => v.category).sum ≤ 8) (hdg : decode cc pc = .ok (.invokestatic idx, 3)) (hf : cells + rm'.cells ≤ R.cells ∧ slots + rm'.slots ≤ R.slots)
    (kk : ∀ (r : Option Value) (WS' : va_W) (H1 : Heap) (locs1 : List Loc), Post' r WS' → va_P D vwCl (WR ++ WS') H1 → va_D A (WR ++ WS') → va_S A s.heap H1 locs1 → W p l e R s m args below meth c H1 locs1 (cells + rm'.cells) (slots + rm'.slots) Q (F0 m (pc + 3) ls (r.toList ++ rest))) : W p l e R s m args below meth c H locs cells slots Q (F0 m pc ls st0) := by
  obtain ⟨hx, hb, hr, hml, hts, hown, hlk, hnm, hK, hN⟩ := C
  refine cGo (ag := As.toArray) ?_ hP hD hS hA hC hRr hnR hdis kk
  have hB : Back l R p e below s args y' 3 8 (PreOf R rm'.cells rm'.slots (va_Pc As (cPreT D cI cJ cZ WC H.size))) (PostOf (cPost D (va_A WC H.size) Post') rm'.cells rm'.slots (va_A WC H.size)) :=
    va_backW (hh := hh) (hc H.size) (cPreT.blind _ _ _) rfl rfl hR.1 hR.2 (fun w hw a' U hU => by
      rcases List.mem_cons.mp hw with rfl | hw
      · exact tg_all hts _ hcd _ _ hU
      · exact tg_all hts _ hw _ _ hU) List.mem_cons_self (fun a' U hU => tg_all hts _ hi _ _ hU)
  intro T hTh X
  obtain ⟨mk, methM, cM, hnamed, hmethM, -, -, -, -, -, -, hsigM⟩ := Cond.codeWith_spec (hts _ hcd)
  have hstatic : methM.isStatic = true := Cond.static_spec hnamed hmethM (hts _ hst')
  obtain ⟨kP, hkP, -⟩ := className_of_methodNamed hnamed
  have hinitP : kP.init = .initialized := Cond.initialized_spec (findClass_of_methodNamed hnamed) hkP (hts _ hi)
  obtain ⟨vm₁, X₁, hstep₁⟩ := X.invokestatic hx hown (hts _ hmk) hnamed hmethM hstatic hkP hinitP ⟨hd.1, hd.2.1⟩ (g := F0 m pc ls st0) rfl (argsL := As) (rest := rest) (by have z := hd.2.2; rw [hsigM] at z; exact (Option.some.inj z).symm) hst (by rw [hb]; exact hdg)
  obtain ⟨v, ⟨U', l2, c2, s2⟩, X', ⟨g', mk', t, L, e1, e2, hq, h1, hL, h2, h3⟩, hsteps⟩ := hB m meth c ⟨T.setVm vm₁, locs, cells, slots⟩ (F0 m pc ls rest) (.invokestatic idx) mk As.toArray X₁ rfl (hls.trans hml.symm) (by rw [hb]; exact hdg) (by have z : (F0 m pc ls rest).monitorRoom = 0 := rfl; have z2 : (F0 m pc ls rest).stack = rest := rfl; rw [z, z2]; omega) (X₁.named hnamed)
    ⟨hf.1, hf.2, by
      obtain ⟨z0, z1⟩ := cPre.now (As := As) hK hN hP hD hC hnC (T.setVm vm₁) hTh X₁.warmed
      exact ⟨z0, z1, hT (T.setVm vm₁) hTh X₁.warmed⟩⟩
  dsimp only [Pt.U, Pt.locs, Pt.cells, Pt.slots] at X' e1 e2 h1 h2 h3 hsteps
  subst h1; subst h2; subst h3
  exact ⟨v, (T.setVm vm₁).calling g' mk' As.toArray, t, U', L, hTh, X', hL, e1, e2, hq, fun target h => hstep₁ _ fun acts => by rw [doInvoke_state]; exact hsteps.trans h⟩
end CTRW
