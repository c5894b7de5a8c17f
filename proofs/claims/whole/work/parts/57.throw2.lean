/-! PlaySearch.queue where it throws (by hand) -/
def qPre (D : va_G) (cI cJ cZ : ClassId) (WS : va_W) (As : List Value) : Array Value → State → Prop := fun a U => a = As.toArray ∧ va_P D vwCl WS U.heap ∧ gK D cI cJ cZ U ∧ thr_K U
theorem qPre.blind {D : va_G} {cI cJ cZ : ClassId} {WS : va_W} {As : List Value} : FrameBlind (qPre D cI cJ cZ WS As) := fun a U g mk h => by
  obtain ⟨h0, h1, ⟨h2, h3⟩, h4⟩ := h
  exact ⟨h0, h1, ⟨va_K.moved (u := U) (U := U.calling g mk a) (Vm.Alike.refl U.vm) h2, nw_N.same (u := U) (U := U.calling g mk a) rfl h3⟩, h4.ride (U := U.calling g mk a) (State.WarmedH.refl U) (fun _ _ z => z)⟩
abbrev rmT : Room := { frames := 7, cells := 1, slots := 6, locals := 120 }
set_option maxHeartbeats 4000000 in
theorem q_walk {l : Launch} (hnt : l.stackTraces = false) {D : va_G} {cI cJ cZ : ClassId} {ax ay az ae ai an ap aq ah tc : Nat} {sn kt ish i : Int32} (htc : tc ≤ 1500) (hno : ¬ inR i tc = true) {p : Program} {e : Env} {s : State} {m : MethodId} {below : List Frame} {meth : Method} {c : Code} {ls : Array Slot} (C : Cx D cI cJ cZ p s m ([.ref ax, .int i] : List Value).toArray meth c yX9_queue cX9_queue 2 (some .int)) (hT : thr_K s) (hout : ∀ x ∈ c.exceptionTable.toList, covers x 26 = false)
    (hP : va_P D vwCl [(ax, .inr (10, [.ref ay, .ref az, .ref ae, .ref ai])), (az, .inr (8, [.ref an, .ref ap, .ref aq, .int (nI tc), .int sn, .int kt, .int ish, .ref ah]))] s.heap) (hl : lv_has ls 2 [(0, .ref ax), (1, .int i)]) :
    W p l e rmT s m ([.ref ax, .int i] : List Value).toArray below meth c s.heap [] 0 0 (fun t => ∃ o, t.status = .running ∧ Ended t below o ∧ thQ ([.ref ax, .int i] : List Value).toArray s o t) (F0 m 0 ls []) := by
  obtain ⟨hx, hb, hr, hml, hts, hown, hlk, hnm, hK, hN⟩ := id C
  have hA : ∀ q, s.heap.size ≤ q → (fun q => s.heap.size ≤ q) q := fun q h => h
  have hS : va_S (fun q => s.heap.size ≤ q) s.heap s.heap [] := va_S.rf
  have hPn : va_P D vwCl [] s.heap := fun k q h => by simp at h
  have hDn : va_D (fun q => s.heap.size ≤ q) [] := ⟨fun i j p q h => by simp at h, fun k q h => by simp at h⟩
  refine lv_iload_n hx hb dX9_queue_0 rfl (lv_at hl 1 rfl) ?_
  refine lv_iconst (v := 0) hx hb dX9_queue_1 (by decide) ?_
  refine lv_aload_n hx hb dX9_queue_2 rfl (lv_at hl 0 rfl) ?_
  refine r_get (v := .ref az) C hP okX9 0 1 rfl (by decide) fl_X9_19 rfl rfl dX9_queue_3 ?_
  refine r_get (v := .int (nI tc)) C hP okX7 1 3 rfl (by decide) fl_X9_196 rfl rfl dX9_queue_6 ?_
  refine lv_iconst (v := 1) hx hb dX9_queue_9 (by decide) ?_
  refine lv_isub hx hb dX9_queue_10 ?_
  refine cl_s C (c_X9_isWithin l D cI cJ cZ i 0 (nI tc - 1)) cd_X9_isWithin ml_X9_62 st_X9_isWithin in_X9 hd_X9_isWithin ⟨by decide, by decide⟩ hPn hDn hS hA (WR := []) [] [] rfl rfl rfl rfl (by decide) hl.1 rfl (Nat.le_of_ble_eq_true rfl) dX9_queue_11 ⟨by decide, by decide⟩ (fun r W H locs hp hP2 hD2 hS => ?_)
  rcases hp with ⟨⟨rfl, h11⟩ | ⟨rfl, h11⟩, rfl⟩
  · exact absurd (q_inR (by omega) h11) hno
  · refine W.eq (g2 := F0 m 14 ls [.int 0]) rfl ?_
    refine lv_if_ne (tgt := 27) hx hb dX9_queue_14 (by decide) (fun c14 => absurd c14 (by decide)) (fun c14 => ?_)
    intro T hTh X
    have htr : e.platform.stackTraces = false := by rw [Jvm.Example.NoTraceControls.admits_follows X.admits]; exact hnt
    have hall := own_all hts hT
    obtain ⟨vm₁, cX, kX, hfX, hkX, -, -, X₁, st1⟩ := X.newCold hx (own := RX9) (C := RJx00060) (index := 199) (n := 6) hown (hts _ cl_AIO) (hts _ it_AIO) (hts _ in_AIO) (g := F0 m 17 ls []) rfl (by rw [hb]; exact dX9_queue_17) (by decide) (by decide)
    generalize hT2 : (T.setVm vm₁).pushCell { cls := cX, slots := kX.instanceTypes.map defaultValue, vm := .none } = T2 at X₁ st1
    have hcellA : T2.heap[T.heap.size]? = some (freshCell cX kX) := by rw [← hT2]; exact State.heap_pushCell_size _ _
    have hconst : (Cond.stringRef RX9 201 "no node was taken as this one").before ([.ref ax, .int i] : List Value).toArray s = true := hT.any _ _ (List.mem_of_getElem? (i := 9) rfl)
    obtain ⟨-, -, -, sa, -, -, -, -, -, hev⟩ := Cond.stringRef_spec hown hconst
    have hnew : s.heap.size ≤ T.heap.size := by rw [hTh]; exact hS.1
    obtain ⟨U, hsteps, hrun, hend, hW, hsame, ce, hce, K⟩ := X₁.ctorThrowS hx htr (own := RX9) (cls := RJx00060) (names := upN) (ic := 203) hown (by decide +kernel) (by decide +kernel) hall
      (fun y hy cell hc => absurd (Array.getElem?_eq_some_iff.mp hc).1 (Nat.not_lt.mpr (hS.2.2 y hy))) hfX hkX hcellA hnew (msg := .ref sa) rfl
      (g := F0 m 23 ls [.ref sa, .ref T.heap.size, .ref T.heap.size]) rfl (by rw [hml]; exact hl.1) rfl rfl (rest := []) rfl
      (by rw [hb]; exact dX9_queue_23) (by rw [hb]; exact dX9_queue_26) hout (by decide) (Nat.le_of_ble_eq_true rfl) hlk
    refine ⟨U, ?_, .threw T.heap.size, hrun, hend, T.heap.size, ce, rfl, hce, K.vm, K.cls, hW, ?_⟩
    · refine st1 _ ?_
      show Steps p.tables e below (T2.setTop (F0 m 20 ls [.ref T.heap.size])) _
      jvm_step X₁.here [X₁.here.top, hx, hb, dX9_queue_20, Value.category]
      exact X₁.ldcString hx (own := RX9) (text := "no node was taken as this one") (index := 201) (a := sa) hown hconst hev (g := F0 m 21 ls [.ref T.heap.size, .ref T.heap.size]) rfl (by rw [hb]; exact dX9_queue_21) _ hsteps
    · exact hsame.weaken (fun y hy hlt => absurd hlt (Nat.not_lt.mpr (hS.2.2 y hy))) (Nat.le_refl _) (Nat.le_refl _)
theorem q_throws (l : Launch) (hnt : l.stackTraces = false) (D : va_G) (cI cJ cZ : ClassId) (ax ay az ae ai an ap aq ah tc : Nat) (sn kt ish i : Int32) (htc : tc ≤ 1500) (hno : ¬ inR i tc = true) :
    MetFree l yX9_queue (headSpec (.code yX9_queue cX9_queue 2 (some .int) :: TG) rmT) (qPre D cI cJ cZ [(ax, .inr (10, [.ref ay, .ref az, .ref ae, .ref ai])), (az, .inr (8, [.ref an, .ref ap, .ref aq, .int (nI tc), .int sn, .int kt, .int ish, .ref ah]))] [.ref ax, .int i]) (fun _ _ _ _ _ => True) thQ := by
  refine MetFree.of_bodyS (code := cX9_queue) (maxLocals := 2) (ret := some .int) (by decide +kernel) ?_ ?_
  · intro args s m h hn
    obtain ⟨meth, c, h1, h2, h3, h4, h5, h6, -, -⟩ := Cond.code_spec hn (atoms_spec (ws := .code yX9_queue cX9_queue 2 (some .int) :: TG) h _ List.mem_cons_self)
    exact ⟨meth, c, h1, h2, h3, h4, h5, h6⟩
  · intro p e s m args below meth c s₁ B hml hP _
    obtain ⟨rfl, hP, ⟨hK, hN⟩, hT⟩ := hP
    have hcode : (Cond.code yX9_queue cX9_queue 2 (some .int)).before _ s = true := atoms_spec (ws := .code yX9_queue cX9_queue 2 (some .int) :: TG) B.pre _ List.mem_cons_self
    have hle := lv_entry [.ref ax, .int i] (n := 2) (Nat.le_of_ble_eq_true rfl)
    have hh0 : s₁.heap = s.heap := by rw [B.state]; rfl
    have C : Cx D cI cJ cZ p s m ([.ref ax, .int i] : List Value).toArray meth c yX9_queue cX9_queue 2 (some .int) := ⟨B.exec, B.bytes, B.returns, hml, fun x hx => atoms_spec (ws := .code yX9_queue cX9_queue 2 (some .int) :: TG) B.pre x (List.mem_cons_of_mem _ hx), findClass_of_methodNamed B.named, B.notSynchronized, (name_of_methodNamed B.named B.method).1, hK, hN⟩
    have K := q_walk (e := e) (below := below) hnt htc hno C hT (covers_of_empty (B.noHandlers hcode) _) hP hle
    rw [← lg_entry_eq] at K
    obtain ⟨t, a1, o, b1, b2, b3⟩ := K s₁ hh0 (Stand.of_body B)
    exact ⟨t, o, a1, b1, b2, b3⟩
