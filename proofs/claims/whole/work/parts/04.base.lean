/-! My layer over the kit: contracts over explicit cells, one kind for all methods. -/
def nw_T : List (String × Nat × MethodName) := [(RX9, 9, yX8_init), (RX8, 11, yX0_init), (RX8, 20, yX4_init), (RX8, 27, yX2_init), (RX8, 34, yX1_init), (RX8, 41, yX3_init), (RX9, 18, yX7_init), (RX7, 11, yX5_init), (RX7, 20, yX6_init), (RX7, 31, yX3_init), (RX9, 25, yX3_init), (RX0, 27, yX9_withValue), (RX0, 19, yX9_isWithin), (RX4, 42, yX9_isWithin), (RX4, 46, yX9_isValue), (RX1, 21, yX9_isWithin), (RX1, 25, yX9_isValue), (RX1, 29, yX9_isText), (RX0, 40, yX9_valueIn), (RX4, 75, yX9_valueIn), (RX4, 92, yX9_withValue), (RX1, 46, yX9_valueIn), (RX6, 43, yX9_isWithin), (RX5, 45, yX9_isWithin), (RX5, 91, yX9_valueAsked), (RX8, 55, yX9_isWithin)]
def nw_N (U : State) : Prop := ∀ q ∈ nw_T, va_Nw (.methodLinkNest q.1 q.2.1 q.2.2 "PlaySearch") U
theorem nw_N.warm {s U : State} (hW : s.WarmedH U.vm) (h : nw_N s) : nw_N U := fun q hq => va_Nw.warmM hW (h q hq)
theorem nw_N.same {u U : State} (e : u.vm = U.vm) (h : nw_N u) : nw_N U := fun q hq => va_Nw.same rfl e (h q hq)
/-- the tables' facts that go with every contract: the classes, the three array classes, the nest links -/
def gK (D : va_G) (cI cJ cZ : ClassId) (U : State) : Prop := va_K D vwCl [(cI, .int), (cJ, .long), (cZ, .boolean)] U ∧ nw_N U
def cPre (D : va_G) (cI cJ cZ : ClassId) (WS : va_W) (sz : Nat) (U : State) : Prop := U.heap.size = sz ∧ va_P D vwCl WS U.heap ∧ gK D cI cJ cZ U ∧ va_D (fun _ => True) WS
def cPost (D : va_G) (A : Nat → Prop) (Post : Option Value → va_W → Prop) : Array Value → State → Outcome → State → Prop := fun _ st oc t => (∃ (r : Option Value) (WS' : va_W), oc = .returned r ∧ Post r WS' ∧ va_P D vwCl WS' t.heap ∧ va_D A WS') ∧ va_F A st t
/-- a contract: from every world that holds the cells WS the method returns; what it answers and the cells behind it meet Post; nothing else changed -/
def Ctr (l : Launch) (D : va_G) (cI cJ cZ : ClassId) (y : MethodName) (cc : ByteArray) (nL : Nat) (ret : Option FieldType) (rm : Room) (As : List Value) (WS : va_W) (Post : Option Value → va_W → Prop) : Prop := ∀ sz : Nat, Met l y (.code y cc nL ret :: TG) rm (va_Pc As (cPre D cI cJ cZ WS sz)) (cPost D (va_A WS sz) Post) rm.cells rm.slots (va_A WS sz)
/-- what stands fast within a method's body -/
def Cx (D : va_G) (cI cJ cZ : ClassId) (p : Program) (s : State) (m : MethodId) (args : Array Value) (meth : Method) (c : Code) (y : MethodName) (cc : ByteArray) (nL : Nat) (ret : Option FieldType) : Prop :=
  p.tables.exec = Jvm.exec ∧ c.code = cc ∧ meth.sig.returnType = ret ∧ c.maxLocals = nL ∧ (∀ x ∈ TG, x.before args s = true) ∧ s.vm.findClass y.cls = some m.cls ∧ meth.locks = false ∧ meth.name = y.name ∧ va_K D vwCl [(cI, .int), (cJ, .long), (cZ, .boolean)] s ∧ nw_N s
def QOK (Q : State → Prop) (below : List Frame) (s : State) (args : Array Value) (D : va_G) (A : Nat → Prop) (Post : Option Value → va_W → Prop) (mc ms : Nat) : Prop := Q = MQ below (cPost D A Post) args s mc ms A
theorem Ctr.weaken {l : Launch} {D : va_G} {cI cJ cZ : ClassId} {y : MethodName} {cc : ByteArray} {nL : Nat} {ret : Option FieldType} {rm : Room} {As : List Value} {WS : va_W} {P1 P2 : Option Value → va_W → Prop} (h : Ctr l D cI cJ cZ y cc nL ret rm As WS P1) (hi : ∀ r W', P1 r W' → P2 r W') : Ctr l D cI cJ cZ y cc nL ret rm As WS P2 := by
  intro sz p e ha hc hk s m args below hf hfit hP hK
  obtain ⟨k, o, h1, h2, h3, ⟨⟨⟨r, W', e1, e2, e3, e4⟩, e5⟩, e6⟩⟩ := h sz p e ha hc hk s m args below hf hfit hP hK
  exact ⟨k, o, h1, h2, h3, ⟨⟨⟨r, W', e1, hi r W' e2, e3, e4⟩, e5⟩, e6⟩⟩
theorem gd_code {x : Cond} (h : x ∈ TG) {k : Cond} : GoodIn (k :: TG) (x :: TG) := fun z hz => by
  rcases List.mem_cons.mp hz with rfl | hz
  · exact ⟨List.mem_cons_of_mem _ h, tg_good _ h⟩
  · exact ⟨List.mem_cons_of_mem _ hz, tg_good _ hz⟩
theorem gd_TG {x : Cond} (h : x ∈ TG) : GoodIn TG (x :: TG) := fun z hz => by
  rcases List.mem_cons.mp hz with rfl | hz
  · exact ⟨h, tg_good _ h⟩
  · exact ⟨hz, tg_good _ hz⟩
theorem gd_pre {a b : List Cond} (ha : ∀ x ∈ a, x ∈ TG) (hb : GoodIn TG b) : GoodIn TG (a ++ b) := fun z hz => by
  rcases List.mem_append.mp hz with h | h
  · exact ⟨ha z h, tg_good _ (ha z h)⟩
  · exact hb z h
theorem va_sameI {D : va_G} {cI cJ cZ cA : ClassId} {U : State} (h : va_K D vwCl ([(cI, .int), (cJ, .long), (cZ, .boolean)] ++ [(cA, .int)]) U) : cA = cI := by
  have h1 := va_nm_int (h.2 0 (cI, .int) rfl).2
  have h2 := va_nm_int (h.2 3 (cA, .int) rfl).2
  exact Option.some.inj (h2.symm.trans h1)
theorem va_sameJ {D : va_G} {cI cJ cZ cA : ClassId} {U : State} (h : va_K D vwCl ([(cI, .int), (cJ, .long), (cZ, .boolean)] ++ [(cA, .long)]) U) : cA = cJ := by
  have h1 := va_nm_long (h.2 1 (cJ, .long) rfl).2
  have h2 := va_nm_long (h.2 3 (cA, .long) rfl).2
  exact Option.some.inj (h2.symm.trans h1)
theorem va_sameZ {D : va_G} {cI cJ cZ cA : ClassId} {U : State} (h : va_K D vwCl ([(cI, .int), (cJ, .long), (cZ, .boolean)] ++ [(cA, .boolean)]) U) : cA = cZ := by
  have h1 := va_nm_boolean (h.2 2 (cZ, .boolean) rfl).2
  have h2 := va_nm_boolean (h.2 3 (cA, .boolean) rfl).2
  exact Option.some.inj (h2.symm.trans h1)
theorem sw_out {x : Int32} (n : Nat) (hn : n < 2 ^ 31) (h : ∀ k, k ≤ n → x ≠ nI k) : x.toInt < ((0 : Nat) : Int) ∨ (n : Int) < x.toInt := by
  by_cases h0 : x.toInt < 0
  · exact Or.inl h0
  · right
    by_cases h1 : (n : Int) < x.toInt
    · exact h1
    · exfalso
      refine h x.toInt.toNat (by omega) (Int32.toInt_inj.mp ?_)
      rw [nI_toInt (by omega)]
      omega
section BASE
variable {l : Launch} {D : va_G} {cI cJ cZ : ClassId} {p : Program} {e : Env} {R : Room} {s : State} {m : MethodId} {args : Array Value} {below : List Frame} {meth : Method} {c : Code} {H : Heap} {locs : List Loc} {cells slots : Nat} {Q : State → Prop} {y y' : MethodName} {cc bytes : ByteArray} {nL maxL' idx : Nat} {ret ret' : Option FieldType} {rm rm' : Room} {As : List Value} {WS WS' WC WR ws : va_W} {Post Post' : Option Value → va_W → Prop} {A : Nat → Prop} {mc ms pc : Nat} {ls : Array Slot} {st0 rest : List Value}
theorem Ctr.start (hy : plainName y.cls = true) (hl : (lg_sl As).length ≤ nL)
    (body : ∀ (p : Program) (e : Env) (s : State) (m : MethodId) (below : List Frame) (meth : Method) (c : Code) (A : Nat → Prop) (Q : State → Prop) (ls : Array Slot), ∀ H : Heap, Cx D cI cJ cZ p s m As.toArray meth c y cc nL ret → QOK Q below s As.toArray D A Post rm.cells rm.slots → (∀ q, s.heap.size ≤ q → A q) → va_P D vwCl WS H → va_D A WS → va_S A s.heap H [] → lv_has ls nL (lv_args 0 As) → W p l e rm s m As.toArray below meth c H [] 0 0 Q (F0 m 0 ls [])) : Ctr l D cI cJ cZ y cc nL ret rm As WS Post := by
  intro sz
  refine Met.ofW (cc := cc) (maxL := nL) (ret := ret) hy rfl ?_
  intro p e s m args below meth c s₁ B hml hv
  obtain ⟨rfl, hsz, hP, ⟨hK, hN⟩, hD0⟩ := hv
  subst hsz
  have hle := lv_entry As (n := nL) hl
  rw [lg_entry_eq]
  exact body p e s m below meth c (va_A WS s.heap.size) _ _ s.heap ⟨B.exec, B.bytes, B.returns, hml, fun x hx => atoms_spec (ws := .code y cc nL ret :: TG) B.pre x (List.mem_cons_of_mem _ hx), findClass_of_methodNamed B.named, B.notSynchronized, (name_of_methodNamed B.named B.method).1, hK, hN⟩ rfl (fun q h => Or.inr h) hP hD0.self va_S.rf hle
theorem Ctr.startF (hy : plainFor y = true) (hl : (lg_sl As).length ≤ nL)
    (body : ∀ (p : Program) (e : Env) (s : State) (m : MethodId) (below : List Frame) (meth : Method) (c : Code) (A : Nat → Prop) (Q : State → Prop) (ls : Array Slot), ∀ H : Heap, Cx D cI cJ cZ p s m As.toArray meth c y cc nL ret → QOK Q below s As.toArray D A Post rm.cells rm.slots → (∀ q, s.heap.size ≤ q → A q) → va_P D vwCl WS H → va_D A WS → va_S A s.heap H [] → lv_has ls nL (lv_args 0 As) → W p l e rm s m As.toArray below meth c H [] 0 0 Q (F0 m 0 ls [])) : Ctr l D cI cJ cZ y cc nL ret rm As WS Post := by
  intro sz
  refine va_MetF (cc := cc) (maxL := nL) (ret := ret) hy rfl ?_
  intro p e s m args below meth c s₁ B hml hv
  obtain ⟨rfl, hsz, hP, ⟨hK, hN⟩, hD0⟩ := hv
  subst hsz
  have hle := lv_entry As (n := nL) hl
  rw [lg_entry_eq]
  exact body p e s m below meth c (va_A WS s.heap.size) _ _ s.heap ⟨B.exec, B.bytes, B.returns, hml, fun x hx => atoms_spec (ws := .code y cc nL ret :: TG) B.pre x (List.mem_cons_of_mem _ hx), findClass_of_methodNamed B.named, B.notSynchronized, (name_of_methodNamed B.named B.method).1, hK, hN⟩ rfl (fun q h => Or.inr h) hP hD0.self va_S.rf hle
theorem rt_i {v : Int32} (C : Cx D cI cJ cZ p s m args meth c y cc nL (some .int)) (hQ : QOK Q below s args D A Post mc ms) (hP : va_P D vwCl WS' H) (hD : va_D A WS') (hS : va_S A s.heap H locs) (hp : Post (some (.int v)) WS') (hc : cells ≤ mc) (hs : slots ≤ ms) (hdg : decode cc pc = .ok (.ireturn, 1)) : W p l e R s m args below meth c H locs cells slots Q (F0 m pc ls [.int v]) := by
  obtain ⟨hx, hb, hr, hml, hts, hown, hlk, hnm, hK, hN⟩ := C
  rw [hQ]
  refine W.widen hc hs ?_
  exact W.iret hx hb hr (fun t ht hW => ⟨⟨_, WS', rfl, hp, by rw [ht]; exact hP, hD⟩, hS.F ht⟩) hS.2.2 hdg hlk
theorem rt_z {v : Int32} (C : Cx D cI cJ cZ p s m args meth c y cc nL (some .boolean)) (hQ : QOK Q below s args D A Post mc ms) (hn : narrow .boolean (.int v) = .int v) (hP : va_P D vwCl WS' H) (hD : va_D A WS') (hS : va_S A s.heap H locs) (hp : Post (some (.int v)) WS') (hc : cells ≤ mc) (hs : slots ≤ ms) (hdg : decode cc pc = .ok (.ireturn, 1)) : W p l e R s m args below meth c H locs cells slots Q (F0 m pc ls [.int v]) := by
  obtain ⟨hx, hb, hr, hml, hts, hown, hlk, hnm, hK, hN⟩ := C
  rw [hQ]
  refine W.widen hc hs ?_
  exact W.zret hx hb hr hn (fun t ht hW => ⟨⟨_, WS', rfl, hp, by rw [ht]; exact hP, hD⟩, hS.F ht⟩) hS.2.2 hdg hlk
theorem rt_l {v : Int64} (C : Cx D cI cJ cZ p s m args meth c y cc nL (some .long)) (hQ : QOK Q below s args D A Post mc ms) (hP : va_P D vwCl WS' H) (hD : va_D A WS') (hS : va_S A s.heap H locs) (hp : Post (some (.long v)) WS') (hc : cells ≤ mc) (hs : slots ≤ ms) (hdg : decode cc pc = .ok (.lreturn, 1)) : W p l e R s m args below meth c H locs cells slots Q (F0 m pc ls [.long v]) := by
  obtain ⟨hx, hb, hr, hml, hts, hown, hlk, hnm, hK, hN⟩ := C
  rw [hQ]
  refine W.widen hc hs ?_
  exact W.lret hx hb hr (fun t ht hW => ⟨⟨_, WS', rfl, hp, by rw [ht]; exact hP, hD⟩, hS.F ht⟩) hS.2.2 hdg hlk
theorem rt_v (C : Cx D cI cJ cZ p s m args meth c y cc nL none) (hQ : QOK Q below s args D A Post mc ms) (hP : va_P D vwCl WS' H) (hD : va_D A WS') (hS : va_S A s.heap H locs) (hp : Post none WS') (hc : cells ≤ mc) (hs : slots ≤ ms) (hdg : decode cc pc = .ok (.return_, 1)) : W p l e R s m args below meth c H locs cells slots Q (F0 m pc ls []) := by
  obtain ⟨hx, hb, hr, hml, hts, hown, hlk, hnm, hK, hN⟩ := C
  rw [hQ]
  refine W.widen hc hs ?_
  exact W.vret hx hb hr (fun t ht hW => ⟨⟨_, WS', rfl, hp, by rw [ht]; exact hP, hD⟩, hS.F ht⟩) hS.2.2 hdg hlk
/-! calls -/
theorem cPre.blind (As : List Value) (WS : va_W) (sz : Nat) : FrameBlind (va_Pc As (cPre D cI cJ cZ WS sz)) := fun a U g mk q => by
  obtain ⟨q0, q1, qP, ⟨qK, qN⟩, qD⟩ := q
  exact ⟨q0, q1, qP, ⟨va_K.moved (u := U) (U := U.calling g mk a) (Vm.Alike.refl U.vm) qK, nw_N.same (u := U) (U := U.calling g mk a) rfl qN⟩, qD⟩
theorem va_P.subm {isC : List Nat} (hP : va_P D vwCl ws H) (hC : isC.map (fun i => ws[i]?) = WC.map some) : va_P D vwCl WC H := by
  intro k q hk
  have h1 : (isC.map (fun i => ws[i]?))[k]? = some (some q) := by rw [hC, List.getElem?_map, hk]; rfl
  rw [List.getElem?_map] at h1
  cases hi : isC[k]? with
  | none => rw [hi] at h1; cases h1
  | some i => rw [hi] at h1; exact hP i q (Option.some.inj h1)
theorem cPre.now {isC : List Nat} (hK : va_K D vwCl [(cI, .int), (cJ, .long), (cZ, .boolean)] s) (hN : nw_N s) (hP : va_P D vwCl ws H) (hD : va_D A ws) (hC : isC.map (fun i => ws[i]?) = WC.map some) (hnC : va_nd isC = true) : ∀ U : State, U.heap = H → s.WarmedH U.vm → va_Pc As (cPre D cI cJ cZ WC H.size) As.toArray U := by
  intro U hU hW
  exact ⟨rfl, by rw [hU], by rw [hU]; exact hP.subm hC, ⟨va_K.moved hW.alike hK, hN.warm hW⟩, (hD.sub isC hnC hC).weaken (fun _ _ _ _ => trivial)⟩
theorem cGo {H0 : Heap} {ag : Array Value} {isC isR : List Nat} (hr : va_Run p l e R s m args below meth c H locs cells slots mc ms (F0 m pc ls st0) rest (cPost D (va_A WC H.size) Post' ag) (va_A WC H.size)) (hP : va_P D vwCl ws H) (hD : va_D A ws) (hS : va_S A H0 H locs) (hA : ∀ q, H0.size ≤ q → A q) (hC : isC.map (fun i => ws[i]?) = WC.map some) (hRr : isR.map (fun i => ws[i]?) = WR.map some) (hnR : va_nd isR = true) (hdis : ∀ i ∈ isR, i ∉ isC)
    (kk : ∀ (r : Option Value) (WS' : va_W) (H1 : Heap) (locs1 : List Loc), Post' r WS' → va_P D vwCl (WR ++ WS') H1 → va_D A (WR ++ WS') → va_S A H0 H1 locs1 → W p l e R s m args below meth c H1 locs1 (cells + mc) (slots + ms) Q (F0 m (pc + 3) ls (r.toList ++ rest))) : W p l e R s m args below meth c H locs cells slots Q (F0 m pc ls st0) := by
  have hF := va_free hD hS hA isC hC
  intro T hT X
  obtain ⟨v, st₀, t, T', L, h0, X', hL, e1, e2, ⟨⟨r, WS', hv, hp, hP1, hD1⟩, hz, hk⟩, st⟩ := hr T hT X
  cases hv
  rw [h0] at hz hk
  obtain ⟨hPj, hDj⟩ := va_join hP hD isC isR hC hRr hnR hdis (H1 := T'.heap) (fun q h1 h2 => by rw [e1]; exact hk q h1 h2) hF (by rw [e1]; exact hP1) hD1
  obtain ⟨t2, a1, b1⟩ := kk v WS' T'.heap (locs ++ L) hp hPj hDj
    ⟨Nat.le_trans hS.1 (by rw [e1]; exact hz), fun q h1 h2 => by rw [e1, hk q (Nat.lt_of_lt_of_le h1 hS.1) (fun z => h2 (hF q z))]; exact hS.2.1 q h1 h2, fun q hq => by
      rcases List.mem_append.mp hq with h | h
      · exact hS.2.2 q h
      · exact hF _ (hL q h)⟩ T' rfl X'
  exact ⟨t2, st t2 a1, b1⟩
/-- invokevirtual -/
theorem cl_v {b ci q0 : Nat} {T : u_T} {N : Nat} {fs : List Value} (C : Cx D cI cJ cZ p s m args meth c y cc nL ret) (hc : Ctr l D cI cJ cZ y' bytes maxL' ret' rm' (.ref b :: As) WC Post') (hcd : Cond.code y' bytes maxL' ret' ∈ TG) (hmk : Cond.methodLink y.cls idx y' ∈ TG) (him : Cond.instanceMethod y' ∈ TG) (hse : Cond.selects y'.cls y' y' ∈ TG) (hi : Cond.initialized y'.cls ∈ TG)
    (hd : y'.cls ≠ "java/lang/invoke/MethodHandle" ∧ y'.cls ≠ "java/lang/invoke/VarHandle" ∧ (parseMethodDescriptor y'.desc).map (fun d => d.parameters.length) = some As.length) (hR : rm'.frames + 1 ≤ R.frames ∧ 8 + (maxL' + 11) + rm'.locals ≤ R.locals)
    (hP : va_P D vwCl ws H) (hD : va_D A ws) (hS : va_S A s.heap H locs) (hA : ∀ q, s.heap.size ≤ q → A q) (isC isR : List Nat) (hC : isC.map (fun i => ws[i]?) = WC.map some) (hRr : isR.map (fun i => ws[i]?) = WR.map some) (hnC : va_nd isC = true) (hnR : va_nd isR = true) (hdis : ∀ i ∈ isR, i ∉ isC)
    (hrc : vwCl[ci]? = some (y'.cls, T, N)) (hre : ws[q0]? = some (b, .inr (ci, fs))) (hls : ls.size = nL) (hst : st0 = As.reverse ++ .ref b :: rest) (hW : (rest.map fun v => v.category).sum ≤ 8) (hdg : decode cc pc = .ok (.invokevirtual idx, 3)) (hf : cells + rm'.cells ≤ R.cells ∧ slots + rm'.slots ≤ R.slots)
    (kk : ∀ (r : Option Value) (WS' : va_W) (H1 : Heap) (locs1 : List Loc), Post' r WS' → va_P D vwCl (WR ++ WS') H1 → va_D A (WR ++ WS') → va_S A s.heap H1 locs1 → W p l e R s m args below meth c H1 locs1 (cells + rm'.cells) (slots + rm'.slots) Q (F0 m (pc + 3) ls (r.toList ++ rest))) : W p l e R s m args below meth c H locs cells slots Q (F0 m pc ls st0) := by
  obtain ⟨hx, hb, hr, hml, hts, hown, hlk, hnm, hK, hN⟩ := C
  have hG : GoodIn TG (wsV y.cls idx y'.cls y' (.code y' bytes maxL' ret' :: TG)) := gd_pre (fun x hx => by
    rcases List.mem_cons.mp hx with rfl | hx
    · exact hmk
    rcases List.mem_cons.mp hx with rfl | hx
    · exact him
    rcases List.mem_cons.mp hx with rfl | hx
    · exact hse
    rcases List.mem_cons.mp hx with rfl | hx
    · exact hi
    · cases hx) (gd_TG hcd)
  exact cGo (va_runV (As := As) (rest := rest) (g := F0 m pc ls st0) ⟨hx, hb, hml, hown, hts⟩ (hc H.size) (cwV As.length hts hG rfl rfl rfl ⟨rfl, hd⟩ hR) ⟨cPre.blind _ _ _, va_recv hK hP hrc hre, cPre.now (As := .ref b :: As) hK hN hP hD hC hnC⟩ rfl rfl hls hst (lv_room hW) hdg hf) hP hD hS hA hC hRr hnR hdis kk
/-- invokestatic, of the same class or of another that is public -/
theorem cl_s (C : Cx D cI cJ cZ p s m args meth c y cc nL ret) (hc : Ctr l D cI cJ cZ y' bytes maxL' ret' rm' As WC Post') (hcd : Cond.code y' bytes maxL' ret' ∈ TG) (hmk : Cond.methodLink y.cls idx y' ∈ TG) (hst' : Cond.static y' ∈ TG) (hi : Cond.initialized y'.cls ∈ TG)
    (hd : y'.cls ≠ "java/lang/invoke/MethodHandle" ∧ y'.cls ≠ "java/lang/invoke/VarHandle" ∧ (parseMethodDescriptor y'.desc).map (fun d => d.parameters.length) = some As.length) (hR : rm'.frames + 1 ≤ R.frames ∧ 8 + (maxL' + 11) + rm'.locals ≤ R.locals)
    (hP : va_P D vwCl ws H) (hD : va_D A ws) (hS : va_S A s.heap H locs) (hA : ∀ q, s.heap.size ≤ q → A q) (isC isR : List Nat) (hC : isC.map (fun i => ws[i]?) = WC.map some) (hRr : isR.map (fun i => ws[i]?) = WR.map some) (hnC : va_nd isC = true) (hnR : va_nd isR = true) (hdis : ∀ i ∈ isR, i ∉ isC)
    (hls : ls.size = nL) (hst : st0 = As.reverse ++ rest) (hW : (rest.map fun v => v.category).sum ≤ 8) (hdg : decode cc pc = .ok (.invokestatic idx, 3)) (hf : cells + rm'.cells ≤ R.cells ∧ slots + rm'.slots ≤ R.slots)
    (kk : ∀ (r : Option Value) (WS' : va_W) (H1 : Heap) (locs1 : List Loc), Post' r WS' → va_P D vwCl (WR ++ WS') H1 → va_D A (WR ++ WS') → va_S A s.heap H1 locs1 → W p l e R s m args below meth c H1 locs1 (cells + rm'.cells) (slots + rm'.slots) Q (F0 m (pc + 3) ls (r.toList ++ rest))) : W p l e R s m args below meth c H locs cells slots Q (F0 m pc ls st0) := by
  obtain ⟨hx, hb, hr, hml, hts, hown, hlk, hnm, hK, hN⟩ := C
  have hG : GoodIn TG (va_wsS y.cls idx y' (.code y' bytes maxL' ret' :: TG)) := gd_pre (fun x hx => by
    rcases List.mem_cons.mp hx with rfl | hx
    · exact hmk
    rcases List.mem_cons.mp hx with rfl | hx
    · exact hst'
    rcases List.mem_cons.mp hx with rfl | hx
    · exact hi
    · cases hx) (gd_TG hcd)
  exact cGo (va_runS (As := As) (rest := rest) (g := F0 m pc ls st0) ⟨hx, hb, hml, hown, hts⟩ (hc H.size) (va_cwS As.length hts hG rfl rfl rfl hd hR) ⟨cPre.blind _ _ _, cPre.now hK hN hP hD hC hnC⟩ rfl rfl hls hst (lv_room hW) hdg hf) hP hD hS hA hC hRr hnR hdis kk
/-- invokestatic of a nest mate's private method -/
theorem cl_sn (C : Cx D cI cJ cZ p s m args meth c y cc nL ret) (hc : Ctr l D cI cJ cZ y' bytes maxL' ret' rm' As WC Post') (hcd : Cond.code y' bytes maxL' ret' ∈ TG) (hn : (y.cls, idx, y') ∈ nw_T) (hst' : Cond.static y' ∈ TG) (hi : Cond.initialized y'.cls ∈ TG)
    (hd : y'.cls ≠ "java/lang/invoke/MethodHandle" ∧ y'.cls ≠ "java/lang/invoke/VarHandle" ∧ (parseMethodDescriptor y'.desc).map (fun d => d.parameters.length) = some As.length) (hR : rm'.frames + 1 ≤ R.frames ∧ 8 + (maxL' + 11) + rm'.locals ≤ R.locals)
    (hP : va_P D vwCl ws H) (hD : va_D A ws) (hS : va_S A s.heap H locs) (hA : ∀ q, s.heap.size ≤ q → A q) (isC isR : List Nat) (hC : isC.map (fun i => ws[i]?) = WC.map some) (hRr : isR.map (fun i => ws[i]?) = WR.map some) (hnC : va_nd isC = true) (hnR : va_nd isR = true) (hdis : ∀ i ∈ isR, i ∉ isC)
    (hls : ls.size = nL) (hst : st0 = As.reverse ++ rest) (hW : (rest.map fun v => v.category).sum ≤ 8) (hdg : decode cc pc = .ok (.invokestatic idx, 3)) (hf : cells + rm'.cells ≤ R.cells ∧ slots + rm'.slots ≤ R.slots)
    (kk : ∀ (r : Option Value) (WS' : va_W) (H1 : Heap) (locs1 : List Loc), Post' r WS' → va_P D vwCl (WR ++ WS') H1 → va_D A (WR ++ WS') → va_S A s.heap H1 locs1 → W p l e R s m args below meth c H1 locs1 (cells + rm'.cells) (slots + rm'.slots) Q (F0 m (pc + 3) ls (r.toList ++ rest))) : W p l e R s m args below meth c H locs cells slots Q (F0 m pc ls st0) := by
  obtain ⟨hx, hb, hr, hml, hts, hown, hlk, hnm, hK, hN⟩ := C
  exact cGo (va_runSN (As := As) (rest := rest) (g := F0 m pc ls st0) ⟨hx, hb, hml, hown, hts⟩ (hc H.size) ⟨va_cnB As.length hts (gd_TG hcd) rfl rfl rfl (hN _ hn) (hts _ hi) hd hR, hts _ hst', trivial⟩ ⟨cPre.blind _ _ _, cPre.now hK hN hP hD hC hnC⟩ rfl rfl hls hst (lv_room hW) hdg hf) hP hD hS hA hC hRr hnR hdis kk
/-- invokespecial <init> of a public class -/
theorem cl_i {b : Nat} (C : Cx D cI cJ cZ p s m args meth c y cc nL ret) (hc : Ctr l D cI cJ cZ y' bytes maxL' none rm' (.ref b :: As) WC Post') (hcd : Cond.code y' bytes maxL' none ∈ TG) (hml' : Cond.methodLink y.cls idx y' ∈ TG) (him : Cond.instanceMethod y' ∈ TG) (hi : Cond.initialized y'.cls ∈ TG) (hin : y'.name = "<init>")
    (hd : y'.cls ≠ "java/lang/invoke/MethodHandle" ∧ y'.cls ≠ "java/lang/invoke/VarHandle" ∧ (parseMethodDescriptor y'.desc).map (fun d => d.parameters.length) = some As.length) (hR : rm'.frames + 1 ≤ R.frames ∧ 8 + (maxL' + 11) + rm'.locals ≤ R.locals)
    (hP : va_P D vwCl ws H) (hD : va_D A ws) (hS : va_S A s.heap H locs) (hA : ∀ q, s.heap.size ≤ q → A q) (isC isR : List Nat) (hC : isC.map (fun i => ws[i]?) = WC.map some) (hRr : isR.map (fun i => ws[i]?) = WR.map some) (hnC : va_nd isC = true) (hnR : va_nd isR = true) (hdis : ∀ i ∈ isR, i ∉ isC)
    (hls : ls.size = nL) (hst : st0 = As.reverse ++ .ref b :: rest) (hW : (rest.map fun v => v.category).sum ≤ 8) (hdg : decode cc pc = .ok (.invokespecial idx, 3)) (hf : cells + rm'.cells ≤ R.cells ∧ slots + rm'.slots ≤ R.slots)
    (kk : ∀ (r : Option Value) (WS' : va_W) (H1 : Heap) (locs1 : List Loc), Post' r WS' → va_P D vwCl (WR ++ WS') H1 → va_D A (WR ++ WS') → va_S A s.heap H1 locs1 → W p l e R s m args below meth c H1 locs1 (cells + rm'.cells) (slots + rm'.slots) Q (F0 m (pc + 3) ls (r.toList ++ rest))) : W p l e R s m args below meth c H locs cells slots Q (F0 m pc ls st0) := by
  obtain ⟨hx, hb, hr, hml, hts, hown, hlk, hnm, hK, hN⟩ := C
  exact cGo (va_runI (As := As) (rest := rest) (g := F0 m pc ls st0) ⟨hx, hb, hml, hown, hts⟩ (hc H.size) (cwI As.length hts (gd_TG hcd) rfl rfl rfl (hts _ hi) (hts _ hml') (hts _ him) hin hd hR) ⟨cPre.blind _ _ _, cPre.now (As := .ref b :: As) hK hN hP hD hC hnC⟩ rfl rfl hls hst (lv_room hW) hdg hf) hP hD hS hA hC hRr hnR hdis kk
/-- invokespecial <init> of a nest mate's private constructor -/
theorem cl_in {b : Nat} (C : Cx D cI cJ cZ p s m args meth c y cc nL ret) (hc : Ctr l D cI cJ cZ y' bytes maxL' none rm' (.ref b :: As) WC Post') (hcd : Cond.code y' bytes maxL' none ∈ TG) (hn : (y.cls, idx, y') ∈ nw_T) (him : Cond.instanceMethod y' ∈ TG) (hi : Cond.initialized y'.cls ∈ TG) (hin : y'.name = "<init>")
    (hd : y'.cls ≠ "java/lang/invoke/MethodHandle" ∧ y'.cls ≠ "java/lang/invoke/VarHandle" ∧ (parseMethodDescriptor y'.desc).map (fun d => d.parameters.length) = some As.length) (hR : rm'.frames + 1 ≤ R.frames ∧ 8 + (maxL' + 11) + rm'.locals ≤ R.locals)
    (hP : va_P D vwCl ws H) (hD : va_D A ws) (hS : va_S A s.heap H locs) (hA : ∀ q, s.heap.size ≤ q → A q) (isC isR : List Nat) (hC : isC.map (fun i => ws[i]?) = WC.map some) (hRr : isR.map (fun i => ws[i]?) = WR.map some) (hnC : va_nd isC = true) (hnR : va_nd isR = true) (hdis : ∀ i ∈ isR, i ∉ isC)
    (hls : ls.size = nL) (hst : st0 = As.reverse ++ .ref b :: rest) (hW : (rest.map fun v => v.category).sum ≤ 8) (hdg : decode cc pc = .ok (.invokespecial idx, 3)) (hf : cells + rm'.cells ≤ R.cells ∧ slots + rm'.slots ≤ R.slots)
    (kk : ∀ (r : Option Value) (WS' : va_W) (H1 : Heap) (locs1 : List Loc), Post' r WS' → va_P D vwCl (WR ++ WS') H1 → va_D A (WR ++ WS') → va_S A s.heap H1 locs1 → W p l e R s m args below meth c H1 locs1 (cells + rm'.cells) (slots + rm'.slots) Q (F0 m (pc + 3) ls (r.toList ++ rest))) : W p l e R s m args below meth c H locs cells slots Q (F0 m pc ls st0) := by
  obtain ⟨hx, hb, hr, hml, hts, hown, hlk, hnm, hK, hN⟩ := C
  exact cGo (va_runIN (As := As) (rest := rest) (g := F0 m pc ls st0) ⟨hx, hb, hml, hown, hts⟩ (hc H.size) ⟨va_cnB As.length hts (gd_TG hcd) rfl rfl rfl (hN _ hn) (hts _ hi) hd hR, hin, hts _ him⟩ ⟨cPre.blind _ _ _, cPre.now (As := .ref b :: As) hK hN hP hD hC hnC⟩ rfl rfl hls hst (lv_room hW) hdg hf) hP hD hS hA hC hRr hnR hdis kk
/-! fields, arrays, numbers -/
def clsOK (ci : Nat) (Cn : String) (T : u_T) (N : Nat) (ty0 : Nat → FieldType) : Prop := vwCl[ci]? = some (Cn, T, N) ∧ (∀ x ∈ u_ws Cn T N, x ∈ TG) ∧ (∀ k, k < N → parseFieldDescriptor (T k).2.2.1 = some (ty0 k)) ∧ (∀ a, a < N → ∀ b, b < N → a ≠ b → (T a).2.1 ≠ (T b).2.1)
theorem r_get {a ci N : Nat} {Cn : String} {T : u_T} {ty0 : Nat → FieldType} {fs : List Value} {v : Value} (C : Cx D cI cJ cZ p s m args meth c y cc nL ret) (hP : va_P D vwCl ws H) (ok : clsOK ci Cn T N ty0) (q0 k : Nat) (he : ws[q0]? = some (a, .inr (ci, fs))) (hk : k < N) (hl : Cond.fieldLink y.cls idx Cn (T k).2.1 (T k).2.2.1 ∈ TG) (hdc : (T k).1 = Cn) (hv : fs[k]? = some v) (hdg : decode cc pc = .ok (.getfield idx, 3))
    (kk : W p l e R s m args below meth c H locs cells slots Q (F0 m (pc + 3) ls (v :: rest))) : W p l e R s m args below meth c H locs cells slots Q (F0 m pc ls (.ref a :: rest)) := by
  obtain ⟨hx, hb, hr, hml, hts, hown, hlk, hnm, hK, hN⟩ := C
  exact va_get hx hb hts ok.2.1 hown hK hP q0 he ok.1 k hk (hts _ hl) (fun x h => by rw [hdc] at h; exact h) hv hdg kk
theorem r_put {a ci N : Nat} {Cn : String} {T : u_T} {ty0 : Nat → FieldType} {fs : List Value} {v : Value} (C : Cx D cI cJ cZ p s m args meth c y cc nL ret) (hP : va_P D vwCl ws H) (hD : va_D A ws) (hS : va_S A s.heap H locs) (ok : clsOK ci Cn T N ty0) (q0 k : Nat) (he : ws[q0]? = some (a, .inr (ci, fs))) (hk : k < N) (hl : Cond.fieldLink y.cls idx Cn (T k).2.1 (T k).2.2.1 ∈ TG) (hdc : (T k).1 = Cn) (hfin : (T k).2.2.2 = false) (hn : narrow (ty0 k) v = v) (hfit : fits (ty0 k) v = true) (hlen : k < fs.length) (hdg : decode cc pc = .ok (.putfield idx, 3))
    (kk : ∀ (H1 : Heap) (locs1 : List Loc), va_P D vwCl (ws.set q0 (a, .inr (ci, fs.set k v))) H1 → va_D A (ws.set q0 (a, .inr (ci, fs.set k v))) → va_S A s.heap H1 locs1 → W p l e R s m args below meth c H1 locs1 cells slots Q (F0 m (pc + 3) ls rest)) : W p l e R s m args below meth c H locs cells slots Q (F0 m pc ls (v :: .ref a :: rest)) := by
  obtain ⟨hx, hb, hr, hml, hts, hown, hlk, hnm, hK, hN⟩ := C
  exact va_put hx hb hts ok.2.1 ty0 ok.2.2.1 ok.2.2.2 hown hK hP hD hS q0 he ok.1 k hk (hts _ hl) (fun x h => by rw [hdc] at h; exact h) hfin (ok.2.2.1 k hk) hn hfit hlen hdg kk
theorem r_putF {a ci N : Nat} {Cn : String} {T : u_T} {ty0 : Nat → FieldType} {fs : List Value} {v : Value} (C : Cx D cI cJ cZ p s m args meth c y cc nL ret) (hP : va_P D vwCl ws H) (hD : va_D A ws) (hS : va_S A s.heap H locs) (ok : clsOK ci Cn T N ty0) (q0 k : Nat) (he : ws[q0]? = some (a, .inr (ci, fs))) (hk : k < N) (hl : Cond.fieldLink y.cls idx Cn (T k).2.1 (T k).2.2.1 ∈ TG) (hdc : (T k).1 = Cn) (hown' : Cn = y.cls) (hini : y.name = "<init>") (hfin : (T k).2.2.2 = true) (hn : narrow (ty0 k) v = v) (hfit : fits (ty0 k) v = true) (hlen : k < fs.length) (hdg : decode cc pc = .ok (.putfield idx, 3))
    (kk : ∀ (H1 : Heap) (locs1 : List Loc), va_P D vwCl (ws.set q0 (a, .inr (ci, fs.set k v))) H1 → va_D A (ws.set q0 (a, .inr (ci, fs.set k v))) → va_S A s.heap H1 locs1 → W p l e R s m args below meth c H1 locs1 cells slots Q (F0 m (pc + 3) ls rest)) : W p l e R s m args below meth c H locs cells slots Q (F0 m pc ls (v :: .ref a :: rest)) := by
  obtain ⟨hx, hb, hr, hml, hts, hown, hlk, hnm, hK, hN⟩ := C
  exact va_putF hx hb hts ok.2.1 ty0 ok.2.2.1 ok.2.2.2 hown hK hP hD hS q0 he ok.1 k hk (hts _ hl) (fun x h => by rw [hdc] at h; exact h) hfin (hnm.trans hini) (hdc.trans hown') (ok.2.2.1 k hk) hn hfit hlen hdg kk
theorem r_iald {a n j : Nat} {f : Nat → Int32} (C : Cx D cI cJ cZ p s m args meth c y cc nL ret) (hP : va_P D vwCl ws H) (q0 : Nat) (ha : ws[q0]? = some (a, .inl (cI, n, .inl f))) (hj : j < n) (hn : n < 2 ^ 31) (hdg : decode cc pc = .ok (.iaload, 1))
    (kk : W p l e R s m args below meth c H locs cells slots Q (F0 m (pc + 1) ls (.int (f j) :: rest))) : W p l e R s m args below meth c H locs cells slots Q (F0 m pc ls (.int (nI j) :: .ref a :: rest)) := by
  obtain ⟨hx, hb, hr, hml, hts, hown, hlk, hnm, hK, hN⟩ := C
  refine va_iald hx hb hK hP q0 0 ha rfl (vp_in_nI hj hn) hdg ?_
  rw [nI_clamp (by omega)]
  exact kk
theorem r_zald {a n j : Nat} {f : Nat → Int32} (C : Cx D cI cJ cZ p s m args meth c y cc nL ret) (hP : va_P D vwCl ws H) (q0 : Nat) (ha : ws[q0]? = some (a, .inl (cZ, n, .inl f))) (hj : j < n) (hn : n < 2 ^ 31) (hdg : decode cc pc = .ok (.baload, 1))
    (kk : W p l e R s m args below meth c H locs cells slots Q (F0 m (pc + 1) ls (.int (f j) :: rest))) : W p l e R s m args below meth c H locs cells slots Q (F0 m pc ls (.int (nI j) :: .ref a :: rest)) := by
  obtain ⟨hx, hb, hr, hml, hts, hown, hlk, hnm, hK, hN⟩ := C
  refine va_zald hx hb hK hP q0 2 ha rfl (vp_in_nI hj hn) hdg ?_
  rw [nI_clamp (by omega)]
  exact kk
theorem r_lald {a n j : Nat} {f : Nat → Int64} (C : Cx D cI cJ cZ p s m args meth c y cc nL ret) (hP : va_P D vwCl ws H) (q0 : Nat) (ha : ws[q0]? = some (a, .inl (cJ, n, .inr (.inl f)))) (hj : j < n) (hn : n < 2 ^ 31) (hdg : decode cc pc = .ok (.laload, 1))
    (kk : W p l e R s m args below meth c H locs cells slots Q (F0 m (pc + 1) ls (.long (f j) :: rest))) : W p l e R s m args below meth c H locs cells slots Q (F0 m pc ls (.int (nI j) :: .ref a :: rest)) := by
  obtain ⟨hx, hb, hr, hml, hts, hown, hlk, hnm, hK, hN⟩ := C
  refine va_lald hx hb hK hP q0 1 ha rfl (vp_in_nI hj hn) hdg ?_
  rw [nI_clamp (by omega)]
  exact kk
theorem r_iast {a n j : Nat} {f : Nat → Int32} {x : Int32} (C : Cx D cI cJ cZ p s m args meth c y cc nL ret) (hP : va_P D vwCl ws H) (hD : va_D A ws) (hS : va_S A s.heap H locs) (q0 : Nat) (ha : ws[q0]? = some (a, .inl (cI, n, .inl f))) (hj : j < n) (hn : n < 2 ^ 31) (hdg : decode cc pc = .ok (.iastore, 1))
    (kk : ∀ (H1 : Heap) (locs1 : List Loc), va_P D vwCl (ws.set q0 (a, .inl (cI, n, .inl (upd f j x)))) H1 → va_D A (ws.set q0 (a, .inl (cI, n, .inl (upd f j x)))) → va_S A s.heap H1 locs1 → W p l e R s m args below meth c H1 locs1 cells slots Q (F0 m (pc + 1) ls rest)) : W p l e R s m args below meth c H locs cells slots Q (F0 m pc ls (.int x :: .int (nI j) :: .ref a :: rest)) := by
  obtain ⟨hx, hb, hr, hml, hts, hown, hlk, hnm, hK, hN⟩ := C
  refine va_iast hx hb hK hP hD hS q0 0 ha rfl (vp_in_nI hj hn) hdg ?_
  rw [nI_clamp (by omega)]
  exact kk
theorem r_zast {a n j : Nat} {f : Nat → Int32} {x x' : Int32} (C : Cx D cI cJ cZ p s m args meth c y cc nL ret) (hP : va_P D vwCl ws H) (hD : va_D A ws) (hS : va_S A s.heap H locs) (q0 : Nat) (ha : ws[q0]? = some (a, .inl (cZ, n, .inl f))) (hj : j < n) (hn : n < 2 ^ 31) (hx' : vp_nar .boolean x = x') (hdg : decode cc pc = .ok (.bastore, 1))
    (kk : ∀ (H1 : Heap) (locs1 : List Loc), va_P D vwCl (ws.set q0 (a, .inl (cZ, n, .inl (upd f j x')))) H1 → va_D A (ws.set q0 (a, .inl (cZ, n, .inl (upd f j x')))) → va_S A s.heap H1 locs1 → W p l e R s m args below meth c H1 locs1 cells slots Q (F0 m (pc + 1) ls rest)) : W p l e R s m args below meth c H locs cells slots Q (F0 m pc ls (.int x :: .int (nI j) :: .ref a :: rest)) := by
  obtain ⟨hx, hb, hr, hml, hts, hown, hlk, hnm, hK, hN⟩ := C
  refine va_zast hx hb hK hP hD hS q0 2 ha rfl (vp_in_nI hj hn) hdg ?_
  rw [nI_clamp (by omega), hx']
  exact kk
theorem r_last {a n j : Nat} {f : Nat → Int64} {x : Int64} (C : Cx D cI cJ cZ p s m args meth c y cc nL ret) (hP : va_P D vwCl ws H) (hD : va_D A ws) (hS : va_S A s.heap H locs) (q0 : Nat) (ha : ws[q0]? = some (a, .inl (cJ, n, .inr (.inl f)))) (hj : j < n) (hn : n < 2 ^ 31) (hdg : decode cc pc = .ok (.lastore, 1))
    (kk : ∀ (H1 : Heap) (locs1 : List Loc), va_P D vwCl (ws.set q0 (a, .inl (cJ, n, .inr (.inl (vp_updL f j x))))) H1 → va_D A (ws.set q0 (a, .inl (cJ, n, .inr (.inl (vp_updL f j x))))) → va_S A s.heap H1 locs1 → W p l e R s m args below meth c H1 locs1 cells slots Q (F0 m (pc + 1) ls rest)) : W p l e R s m args below meth c H locs cells slots Q (F0 m pc ls (.long x :: .int (nI j) :: .ref a :: rest)) := by
  obtain ⟨hx, hb, hr, hml, hts, hown, hlk, hnm, hK, hN⟩ := C
  refine va_last hx hb hK hP hD hS q0 1 ha rfl (vp_in_nI hj hn) hdg ?_
  rw [nI_clamp (by omega)]
  exact kk
theorem r_alen {a n : Nat} {f : Nat → Int32} (C : Cx D cI cJ cZ p s m args meth c y cc nL ret) (hP : va_P D vwCl ws H) (q0 : Nat) (ha : ws[q0]? = some (a, .inl (cI, n, .inl f))) (hdg : decode cc pc = .ok (.arraylength, 1))
    (kk : W p l e R s m args below meth c H locs cells slots Q (F0 m (pc + 1) ls (.int (nI n) :: rest))) : W p l e R s m args below meth c H locs cells slots Q (F0 m pc ls (.ref a :: rest)) := by
  obtain ⟨hx, hb, hr, hml, hts, hown, hlk, hnm, hK, hN⟩ := C
  exact va_alen hx hb hK hP q0 0 ha rfl rfl hdg kk
theorem r_copy {a0 a n0 n1 sp dp n : Nat} {f g : Nat → Int32} (C : Cx D cI cJ cZ p s m args meth c y cc nL ret) (hP : va_P D vwCl ws H) (hD : va_D A ws) (hS : va_S A s.heap H locs) (q0 q1 : Nat) (ha0 : ws[q0]? = some (a0, .inl (cI, n0, .inl f))) (ha1 : ws[q1]? = some (a, .inl (cI, n1, .inl g))) (h4 : sp + n ≤ n0 ∧ n0 < 2 ^ 31) (h5 : dp + n ≤ n1 ∧ n1 < 2 ^ 31) (hl : Cond.methodLink y.cls idx arraycopyName ∈ TG)
    (hframes : 1 ≤ R.frames) (hlocals : (rest.map fun v => v.category).sum + (nativeFrameWords "java/lang/System" "arraycopy" 5 + 11) ≤ R.locals) (hls : ls.size = nL) (hdg : decode cc pc = .ok (.invokestatic idx, 3))
    (kk : ∀ (H1 : Heap) (locs1 : List Loc), va_P D vwCl (ws.set q1 (a, .inl (cI, n1, .inl (va_cpy f g sp dp n)))) H1 → va_D A (ws.set q1 (a, .inl (cI, n1, .inl (va_cpy f g sp dp n)))) → va_S A s.heap H1 locs1 → W p l e R s m args below meth c H1 locs1 cells slots Q (F0 m (pc + 3) ls rest)) : W p l e R s m args below meth c H locs cells slots Q (F0 m pc ls (.int (nI n) :: .int (nI dp) :: .ref a :: .int (nI sp) :: .ref a0 :: rest)) := by
  obtain ⟨hx, hb, hr, hml, hts, hown, hlk, hnm, hK, hN⟩ := C
  have e1 : (nI sp).toNatClampNeg = sp := nI_clamp (by omega)
  have e2 : (nI dp).toNatClampNeg = dp := nI_clamp (by omega)
  have e3 : (nI n).toNatClampNeg = n := nI_clamp (by omega)
  refine va_copyi hx hb (hml.trans hls.symm) hown (hts _ hl) (hts _ na_arraycopyName) (hts _ st_arraycopyName) (hts _ in_System) hK hP hD hS q0 q1 0 0 ha0 ha1 rfl rfl rfl (nI_pos (by omega)) (nI_pos (by omega)) (nI_pos (by omega)) (by rw [e1, e3]; exact h4.1) (by rw [e2, e3]; exact h5.1) (fun _ _ => rfl) hframes hlocals hdg ?_
  rw [e1, e2, e3]
  exact kk
/-- the top of the stack under another name -/
theorem r_top {x x' : Int32} (h : x = x') (k : W p l e R s m args below meth c H locs cells slots Q (F0 m pc ls (.int x' :: rest))) : W p l e R s m args below meth c H locs cells slots Q (F0 m pc ls (.int x :: rest)) := by rw [h]; exact k
theorem r_topl {x x' : Int64} (h : x = x') (k : W p l e R s m args below meth c H locs cells slots Q (F0 m pc ls (.long x' :: rest))) : W p l e R s m args below meth c H locs cells slots Q (F0 m pc ls (.long x :: rest)) := by rw [h]; exact k
end BASE
theorem okX0 : clsOK 1 RX0 TX0 5 tyX0 := ⟨rfl, ly_X0, tyX0_ok, nmX0⟩
theorem okX1 : clsOK 2 RX1 TX1 4 tyX1 := ⟨rfl, ly_X1, tyX1_ok, nmX1⟩
theorem okX2 : clsOK 3 RX2 TX2 5 tyX2 := ⟨rfl, ly_X2, tyX2_ok, nmX2⟩
theorem okX3 : clsOK 4 RX3 TX3 4 tyX3 := ⟨rfl, ly_X3, tyX3_ok, nmX3⟩
theorem okX4 : clsOK 5 RX4 TX4 11 tyX4 := ⟨rfl, ly_X4, tyX4_ok, nmX4⟩
theorem okX5 : clsOK 6 RX5 TX5 13 tyX5 := ⟨rfl, ly_X5, tyX5_ok, nmX5⟩
theorem okX6 : clsOK 7 RX6 TX6 3 tyX6 := ⟨rfl, ly_X6, tyX6_ok, nmX6⟩
theorem okX7 : clsOK 8 RX7 TX7 8 tyX7 := ⟨rfl, ly_X7, tyX7_ok, nmX7⟩
theorem okX8 : clsOK 9 RX8 TX8 5 tyX8 := ⟨rfl, ly_X8, tyX8_ok, nmX8⟩
theorem okX9 : clsOK 10 RX9 TX9 4 tyX9 := ⟨rfl, ly_X9, tyX9_ok, nmX9⟩
theorem okX10 : clsOK 11 RX10 TX10 52 tyX10 := ⟨rfl, ly_X10, tyX10_ok, nmX10⟩
