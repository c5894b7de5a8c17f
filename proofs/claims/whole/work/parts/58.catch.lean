/-! a call that throws, caught in the caller; a method with a handler, and a call of it (by hand) -/
theorem fh_link {Q : Handler → Pre} {E : CtlPost} {e : Env} {d : Bool} {acts : List Action} {s : State} {f : JFrame} {a : Addr} {x : ExceptionTableEntry} {t : List ExceptionTableEntry} {c : ClassId} {cell : Cell} (hx : covers x f.pc = true) (h0 : x.catchType ≠ 0)
    (hl : s.vm.ClassLinks e.platform f.method.cls x.catchType c) (hcell : s.heap[a]? = some cell) (hobj : ∀ k, cell.vm ≠ .statics k) (hk : ∃ k, s.vm.classes[cell.cls]? = some k) (hc : ∃ k, s.vm.classes[c]? = some k) (hfit : s.vm.assignable cell.cls c = true) :
    wp (findHandler.go f a (x :: t)) Q E e d acts s ↔ Q (.found x.handlerPc) d acts (s.setVm (s.vm.noted f.method.cls x.catchType (.cls c))) := by
  have hal : s.vm.Alike (s.vm.noted f.method.cls x.catchType (.cls c)) := (Vm.Alike.refl s.vm).noted _ _ _
  obtain ⟨ha, ht⟩ := (resolveClass_links e.toSetting hl).op (op := VmOp.resolveClass f.method.cls x.catchType) rfl
  obtain ⟨k1, hk1⟩ := hk
  obtain ⟨k2, hk2⟩ := hc
  obtain ⟨g1, hg1, -⟩ := hal.2.2 _ _ hk1
  obtain ⟨g2, hg2, -⟩ := hal.2.2 _ _ hk2
  have hfit2 : (s.vm.noted f.method.cls x.catchType (.cls c)).assignable cell.cls c = true := by rw [hal.assignable]; exact hfit
  simp only [covers] at hx
  simp [findHandler.go, hx, h0, ha, ht, hcell, hobj, hg1, hg2, hfit2, VmOp.dirties, VmOp.acts]
/-- from the thrown object over the frame g to the handler of g's own method: the only row of its table -/
theorem st_caught {p : Program} {l : Launch} {e : Env} {R : Room} {s : State} {m : MethodId} {args : Array Value} {below : List Frame} {meth : Method} {c : Code} {T : State} {locs : List Loc} {cells slots : Nat} (X : Stand p l e R s m args below meth c T locs cells slots) (a : Addr) {g : JFrame} (hg : g.method = m) {own name : String} (hown : s.vm.findClass own = some m.cls)
    (x : ExceptionTableEntry) (hex : c.exceptionTable.toList = [x]) (hx : covers x g.pc = true) (h0 : x.catchType ≠ 0) (hlink : (Cond.classLink own x.catchType name).before args s = true) {cell : Cell} (hcT : s.vm.findClass name = some cell.cls) (hcell : T.heap[a]? = some cell) (hobj : cell.vm = .none) (hfit : s.vm.assignable cell.cls cell.cls = true) :
    ∃ vm', Stand p l e R s m args below meth c (T.setVm vm') locs cells slots ∧ ∀ target, Steps p.tables e below ((T.setVm vm').setTop { g with pc := x.handlerPc, stack := [.ref a] }) target → Steps p.tables e below ((T.setTop g).pushFrame (.throwing a)) target := by
  have hpl : e.platform.magicAccessors = ({} : Platform).magicAccessors := by rw [X.admits.platform]
  obtain ⟨c', hc', hcl⟩ := Cond.classLink_spec hown hlink e.platform hpl
  cases hcT.symm.trans hc'
  obtain ⟨dk, _, _, kt, hd, _, _, _, _, hkt, _, hopen⟩ := hcl.here
  have hW' : s.WarmedH (T.vm.noted m.cls x.catchType (.cls cell.cls)) := X.warmed.noted hd hopen (State.rightAt_cls hcl)
  have hal := X.warmed.alike
  obtain ⟨kt', hkt', -⟩ := hal.2.2 _ _ hkt
  refine ⟨_, X.noted hW', fun target hrest => ?_⟩
  subst hg
  have hm : ((T.setTop g).pushFrame (.throwing a)).vm.method? g.method = some meth := by rw [Stand.throwing_vm]; exact X.method'
  have hcl2 : ((T.setTop g).pushFrame (.throwing a)).vm.ClassLinks e.platform g.method.cls x.catchType cell.cls := by rw [Stand.throwing_vm]; exact X.warmed.classLinks hcl
  have hfind : ∀ (Q : Handler → Pre) (E : CtlPost) (d : Bool) (acts : List Action), wp (findHandler g a) Q E e d acts ((T.setTop g).pushFrame (.throwing a)) ↔ Q (.found x.handlerPc) d acts (((T.setTop g).pushFrame (.throwing a)).setVm (T.vm.noted g.method.cls x.catchType (.cls cell.cls))) := by
    intro Q E d acts
    rw [W.findHandler_eq hm X.code, hex]
    have z := fh_link (Q := Q) (E := E) (e := e) (d := d) (acts := acts) (s := (T.setTop g).pushFrame (.throwing a)) (f := g) (a := a) (t := []) hx h0 hcl2 (by rw [Stand.throwing_heap]; exact hcell) (fun k h => by rw [hobj] at h; cases h) (by rw [Stand.throwing_vm]; exact ⟨kt', hkt'⟩) (by rw [Stand.throwing_vm]; exact ⟨kt', hkt'⟩) (by rw [Stand.throwing_vm, hal.assignable]; exact hfit)
    rw [Stand.throwing_vm] at z
    exact z
  have hAt : At T g.method c below := X.here
  obtain ⟨hgo, hw⟩ := hAt.throwing a
  refine Steps.head hgo hw ?_
  obtain ⟨g₀, hg0⟩ := Option.isSome_iff_exists.mp hAt.top
  obtain ⟨r, hr⟩ := State.topJava?_eq_some.mp hg0
  have hstep : (stepThrowing e ((T.setTop g).pushFrame (.throwing a)) a (.java g :: T.frames.tail)).Is ((((T.setTop g).pushFrame (.throwing a)).setVm (T.vm.noted g.method.cls x.catchType (.cls cell.cls))).setFrames (.java { g with pc := x.handlerPc, stack := [.ref a] } :: T.frames.tail)) [] := by
    simp only [stepThrowing, searchFrame, vmDo]
    generalize hres : Sem.go _ e false [] _ = res
    obtain ⟨as, rfl, ha⟩ := Sem.eq_ok_of hres (a := Handler.found x.handlerPc) (s' := ((T.setTop g).pushFrame (.throwing a)).setVm (T.vm.noted g.method.cls x.catchType (.cls cell.cls))) (acts' := []) (by simp [hfind _ _ _ _])
    exact ⟨rfl, ha⟩
  rw [stepThread_throwing (frames_entered hAt.top _), hstep.1]
  have hr' : (T.setVm (T.vm.noted g.method.cls x.catchType (.cls cell.cls))).frames = .java g₀ :: r := hr
  rw [State.setTop_of_frames _ hr'] at hrest
  have e2 : ∀ (u : State) (v : Vm) (F G : List Frame), ((u.setFrames F).setVm v).setFrames G = (u.setVm v).setFrames G := fun u v F G => by
    have h1 : (u.setFrames F).setVm v = (u.setVm v).setFrames F := rfl
    rw [h1, State.setFrames_setFrames]
  rw [hr, List.tail_cons, State.pushFrame, e2, State.setTop_of_frames _ hr, e2]
  exact hrest
section CATCH
variable {l : Launch} {D : va_G} {cI cJ cZ : ClassId} {p : Program} {e : Env} {R : Room} {s : State} {m : MethodId} {args : Array Value} {below : List Frame} {meth : Method} {c : Code} {H : Heap} {locs : List Loc} {cells slots : Nat} {Q : State → Prop} {y y' : MethodName} {cc bytes : ByteArray} {nL maxL' idx : Nat} {ret ret' : Option FieldType} {rm rm' : Room} {As : List Value} {WS WS' WC WR ws : va_W} {Post Post' : Option Value → va_W → Prop} {A : Nat → Prop} {mc ms pc : Nat} {ls : Array Slot} {st0 rest : List Value} {hh : List (Nat × Nat × Nat × Nat)}
theorem tg_all (hts : ∀ x ∈ TG, x.before args s = true) : ∀ w ∈ TG, ∀ (a' : Array Value) (U : State), s.WarmedH U.vm → w.before a' U = true := fun w hw a' U hU => word_at hU (tg_good w hw) (hts w hw)
/-- invokevirtual of a method that throws; the exception is caught in the walked method -/
theorem cl_vT {b ci q0 : Nat} {T0 : u_T} {N : Nat} {fs : List Value} {Pc : Array Value → State → Prop} {x0 : ExceptionTableEntry} (C : Cx D cI cJ cZ p s m args meth c y cc nL ret) (hM : MetFree l y' (headSpec (.code y' bytes maxL' ret' :: TG) rm') Pc (fun _ _ _ _ _ => True) thQ)
    (hcd : Cond.code y' bytes maxL' ret' ∈ TG) (hmk : Cond.methodLink y.cls idx y' ∈ TG) (him : Cond.instanceMethod y' ∈ TG) (hse : Cond.selects y'.cls y' y' ∈ TG) (hi : Cond.initialized y'.cls ∈ TG)
    (hd : y'.cls ≠ "java/lang/invoke/MethodHandle" ∧ y'.cls ≠ "java/lang/invoke/VarHandle" ∧ (parseMethodDescriptor y'.desc).map (fun d => d.parameters.length) = some As.length) (hR : rm'.frames + 1 ≤ R.frames ∧ 8 + (maxL' + 11) + rm'.locals ≤ R.locals)
    (hP : va_P D vwCl ws H) (hrc : vwCl[ci]? = some (y'.cls, T0, N)) (hre : ws[q0]? = some (b, .inr (ci, fs))) (hls : ls.size = nL) (hst : st0 = As.reverse ++ .ref b :: rest) (hW : (rest.map fun v => v.category).sum ≤ 8) (hdg : decode cc pc = .ok (.invokevirtual idx, 3)) (hf : cells + rm'.cells ≤ R.cells ∧ slots + rm'.slots ≤ R.slots)
    (hPc : ∀ U : State, U.heap = H → s.WarmedH U.vm → Pc (.ref b :: As).toArray U) (hbl : FrameBlind Pc) (hex : c.exceptionTable.toList = [x0]) (hcov : covers x0 pc = true) (hct : x0.catchType ≠ 0) (hlk' : Cond.classLink y.cls x0.catchType RJx00060 ∈ TG) (hcast : (Cond.castable RJx00060 RJx00060).before args s = true)
    (kk : ∀ (x : Addr) (H1 : Heap), keptH H H1 → H.size ≤ H1.size → W p l e R s m args below meth c H1 locs (cells + 1) (slots + 6) Q (F0 m x0.handlerPc ls [.ref x])) : W p l e R s m args below meth c H locs cells slots Q (F0 m pc ls st0) := by
  obtain ⟨hx, hb, hr, hml, hts, hown, hlk, hnm, hK, hN⟩ := id C
  obtain ⟨cellB, hcell, hobj, hcls⟩ := va_recv hK hP hrc hre
  intro T hT X
  obtain ⟨mk, methM, hnamed, hmethM, hstM, habM⟩ := Cond.instanceMethod_spec (hts _ him)
  obtain ⟨methM', cM, hmethM', hcM, -, hlM, -, -, -, hsigM⟩ := Cond.code_spec hnamed (hts _ hcd)
  cases hmethM.symm.trans hmethM'
  obtain ⟨c2, r2, m2, q1, q2, q3, q4, kP, hkP, hkPi⟩ := Cond.selects_spec (hts _ hse)
  cases hcls.symm.trans q1
  cases (State.methodFound?_of_named hnamed ⟨hd.1, hd.2.1⟩).symm.trans q2
  cases hnamed.symm.trans q3
  have hselP : selectMethod e.platform s.vm cellB.cls mk = .method mk := by rw [Launch.admits_selectMethod X.admits]; exact q4
  obtain ⟨vm₁, X₁, hstep₁⟩ := X.invokevirtual hx hown (hts _ hmk) hnamed hmethM hstM hkP hkPi ⟨hd.1, hd.2.1⟩ (a := b) (cell := cellB) (by rw [hT]; exact hcell) (fun z h => by rw [h] at hobj; cases hobj) hselP hmethM habM hkP hkPi (g := F0 m pc ls st0) rfl (argsL := As) (rest := rest)
    (by have z := hd.2.2; rw [hsigM] at z; exact (Option.some.inj z).symm) hst (by rw [hb]; exact hdg)
  obtain ⟨methY, cY, hmY, hcY, -, hlY, -, -, -, -⟩ := Cond.code_spec (X₁.named hnamed) (tg_all hts _ hcd #[] _ X₁.warmed)
  obtain ⟨kY, hkY, -⟩ := className_of_methodNamed (X₁.named hnamed)
  have hinitY : kY.init = .initialized := Cond.initialized_spec (findClass_of_methodNamed (X₁.named hnamed)) hkY (tg_all hts _ hi #[] _ X₁.warmed)
  have h : At (T.setVm vm₁) (F0 m pc ls rest).method c below := X₁.here
  have happ : (headSpec (.code y' bytes maxL' ret' :: TG) rm').appliesLoose y' e.platform ((T.setVm vm₁).calling (F0 m pc ls rest) mk (.ref b :: As).toArray) = true :=
    Spec.appliesLoose_calling (g := F0 m pc ls rest) h (by rw [hb]; exact hdg) (X₁.named hnamed) hkY hinitY
      (X₁.room_calling (g := F0 m pc ls rest) (R' := rm') (hls.trans hml.symm) hmY hcY hR.1 (by rw [hlY]; have z : (F0 m pc ls rest).monitorRoom = 0 := rfl; have z2 : (F0 m pc ls rest).stack = rest := rfl; rw [z, z2]; omega) hf.1 hf.2)
      (atoms_intro fun w hw => by
        rcases List.mem_cons.mp hw with rfl | hw
        · exact tg_all hts _ hcd _ _ X₁.warmed
        · exact tg_all hts _ hw _ _ X₁.warmed)
  obtain ⟨mid, hmid⟩ := h.above
  have hfr : ((T.setVm vm₁).setTop (F0 m pc ls rest)).frames = (.java (F0 m pc ls rest) :: mid) ++ below := by rw [State.frames_setTop' _ h.top, hmid]; rfl
  obtain ⟨o, s₂, hsteps, -, hend, hq⟩ := Steps.callFree hM p X₁.admits X₁.cas X₁.clock (acts := []) hfr happ (hbl _ _ _ _ (hPc (T.setVm vm₁) hT X₁.warmed)) trivial
  have hq : thQ (.ref b :: As).toArray ((T.setVm vm₁).calling (F0 m pc ls rest) mk (.ref b :: As).toArray) o s₂ := hq
  obtain ⟨x, ce, rfl, hce, hvn, hfc, hW₂, hsm⟩ := hq
  have hkept := sbn_kept hsm
  obtain ⟨e2, q2, q3, q4, q5, q6⟩ := id hsm
  rw [State.frames_setTop' _ h.top] at hend
  have hf₂ : s₂.frames = .throwing x :: .java (F0 m pc ls rest) :: (T.setVm vm₁).frames.tail := hend
  have e3 : s₂ = ({ ((T.setVm vm₁).calling (F0 m pc ls rest) mk (.ref b :: As).toArray).setFrames s₂.frames with heap := s₂.heap, slotsUsed := s₂.slotsUsed } : State).setVm s₂.vm := by
    have z : s₂ = ({ s₂ with vm := ((T.setVm vm₁).calling (F0 m pc ls rest) mk (.ref b :: As).toArray).vm } : State).setVm s₂.vm := rfl
    rw [e2] at z
    exact z
  have hW' : (T.setVm vm₁).WarmedH s₂.vm := hW₂
  obtain ⟨g₀, hg0⟩ := Option.isSome_iff_exists.mp h.top
  obtain ⟨r, hr0⟩ := State.topJava?_eq_some.mp hg0
  have hs₂ : s₂ = ((({ T.setVm vm₁ with heap := s₂.heap, slotsUsed := s₂.slotsUsed } : State).setVm s₂.vm).setTop (F0 m pc ls rest)).pushFrame (.throwing x) := by
    have hr' : (({ T.setVm vm₁ with heap := s₂.heap, slotsUsed := s₂.slotsUsed } : State).setVm s₂.vm).frames = .java g₀ :: r := hr0
    refine e3.trans ?_
    rw [hf₂, State.calling_eq h.top, State.setFrames_setFrames, State.pushFrame, State.frames_setTop _ hr', State.setTop_of_frames _ hr', State.setFrames_setFrames, hr0]
    rfl
  have hsame : (T.setVm vm₁).sameButNew ({ T.setVm vm₁ with heap := s₂.heap, slotsUsed := s₂.slotsUsed } : State) [] 1 6 := by
    refine ⟨?_, q2, q3, q4, q5, q6⟩
    obtain ⟨t, ht, -⟩ := State.frames_cons hr0
    show ({ T.setVm vm₁ with heap := s₂.heap, slotsUsed := s₂.slotsUsed } : State) = { (T.setVm vm₁).setFrames (T.setVm vm₁).frames with heap := s₂.heap, slotsUsed := s₂.slotsUsed }
    rw [State.setFrames_self ht]
  have X₂ : Stand p l e R s m args below meth c (({ T.setVm vm₁ with heap := s₂.heap, slotsUsed := s₂.slotsUsed } : State).setVm s₂.vm) (locs ++ []) (cells + 1) (slots + 6) :=
    ⟨X₁.admits, X₁.cas, X₁.clock, X₁.frames, X₁.room, X₁.hears, X₁.method, X₁.code, (X₁.here.setHeapUsed s₂.heap s₂.slotsUsed).setVm hW'.alike, X₁.tail, State.WarmedH.trans X₁.warmed hW', X₁.limits, X₁.bytes, X₁.same.trans (hsame.setVm s.vm)⟩
  rw [List.append_nil] at X₂
  have hfc' : s.vm.findClass RJx00060 = some ce.cls := by
    have z : (T.setVm vm₁).vm.findClass RJx00060 = some ce.cls := hfc
    rw [X₁.warmed.alike.findClass] at z
    exact z
  have hself : s.vm.assignable ce.cls ce.cls = true := by
    obtain ⟨c3, c4, h3, h4, h5⟩ := Cond.castable_spec hcast
    cases hfc'.symm.trans h3
    cases hfc'.symm.trans h4
    exact h5
  obtain ⟨vm', X₃, st3⟩ := st_caught X₂ x (g := F0 m pc ls rest) rfl hown x0 hex hcov hct (hts _ hlk') hfc' hce hvn hself
  obtain ⟨t2, a1, b1⟩ := kk x s₂.heap (by rw [← hT]; exact hkept) (by
      rw [← hT]
      exact Nat.le_of_not_lt fun z => by
        have h1 : s₂.heap.size < T.heap.size := z
        have h2 := hkept s₂.heap.size T.heap[s₂.heap.size] (Array.getElem?_eq_some_iff.mpr ⟨h1, rfl⟩)
        exact absurd (Array.getElem?_eq_some_iff.mp h2).1 (Nat.lt_irrefl _)) ((({ T.setVm vm₁ with heap := s₂.heap, slotsUsed := s₂.slotsUsed } : State).setVm s₂.vm).setVm vm') rfl X₃
  refine ⟨t2, hstep₁ _ (fun acts => ?_), b1⟩
  rw [doInvoke_state]
  refine Steps.trans ?_ (st3 _ a1)
  rw [← hs₂]
  exact hsteps
end CATCH
