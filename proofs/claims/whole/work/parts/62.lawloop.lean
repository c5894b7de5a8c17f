/-! the law: what holds at its entry and at its end (the skeleton), its loop (written by s35.py) -/
/-! THE CLAIM OUT OF ONE WALK OF THE LAW'S BODY. Your part is whole_start (and what it stands on); all else here is the same for every law, but numbers. -/
def R_law : String := "PlaySearchLaw"
def lw_P (b : Addr) (xs : List Int32) (args : Array Value) (s : State) : Prop := args = #[.ref b] ∧ s.IntsAt b xs ∧ xs.length ≤ 2560 ∧ (Jvm.Cond.and given_1 narrow_1).before args s = true
def lw_Q (_ : Array Value) (s : State) (o : Outcome) (t : State) : Prop := o = .returned (some (.int 1)) ∧ Framed s o t [] 1101 65155
def lw_Z (below : List Frame) (a : Array Value) (s : State) : State → Prop := fun t => ∃ o, t.status = .running ∧ Ended t below o ∧ lw_Q a s o t
/-- the law's own end, with 1 on the stack, nothing written that was there before, its room as the claim has it -/
theorem lw_ret {p : Program} {l : Launch} {e : Env} {s : State} {m : MethodId} {below : List Frame} {meth : Method} {c : Code} {b : Nat} (hx : p.tables.exec = Jvm.exec) (hb : c.code = code) (hr : meth.sig.returnType = ret) (hlocks : meth.locks = false) {pc : Nat} {H : Heap} {ls : Array Slot} (hdg : decode code pc = .ok (.ireturn, 1)) : W p l e room_1 s m #[Value.ref b] below meth c H [] 1101 65155 (lw_Z below #[Value.ref b] s) (F0 m pc ls [.int 1]) := by
  intro T hT X
  obtain ⟨fs, hret, hrun, hended, hW, hframe⟩ := X.leave (v := some (.int 1)) (hlocks := hlocks) (fun h => by rw [hr] at h; cases h)
  have hmeth' : T.vm.method? m = some meth := X.method'
  refine ⟨T.setFrames fs, ?_, .returned (some (.int 1)), hrun, hended, rfl, ⟨_, rfl⟩, hW, hframe⟩
  jvm_step X.here [X.here.top, hx, hb, hdg, hmeth', hr, ret, narrow_b1]
  (try refine ⟨rfl, ?_⟩); (try refine ⟨rfl, ?_⟩)
  first | (intro acts; rw [hret _ acts rfl rfl rfl]) | rw [hret _ _ rfl rfl rfl]
  exact Steps.refl _
/-- what holds at the law's entry: the machine, the code, the tables' words (any of lw_tbl by 'hts w (by decide +kernel)'), the script of L ints xs at the cell b, what the Statement gives of the start (any of its parts by flat_of_before) -/
def lw_At (p : Program) (s : State) (m : MethodId) (meth : Method) (c : Code) (b L : Nat) (xs : Nat → Int32) : Prop :=
  p.tables.exec = Jvm.exec ∧ c.code = code ∧ meth.sig.returnType = ret ∧ c.maxLocals = 7 ∧ s.vm.findClass R_law = some m.cls ∧ (∀ w ∈ lw_tbl, w.before #[Value.ref b] s = true) ∧ va_X b L xs s s.heap ∧ b < s.heap.size ∧ meth.locks = false ∧ (Jvm.Cond.and given_1 narrow_1).before #[Value.ref b] s = true
theorem lp_in {L j : Nat} (hL : L ≤ 2560) (hj : 5 * j ≤ L) (h : ¬ (nI L) - 5 < nI (5 * j)) : 5 * j + 5 ≤ L := by
  by_cases h5 : 5 ≤ L
  · have e : nI L - 5 = nI (L - 5) := by
      have z := nI_add (L - 5) 5
      rw [show L - 5 + 5 = L by omega] at z
      rw [← z]
      exact Int32.add_sub_cancel (nI (L - 5)) 5
    rw [e] at h
    have z : ¬ (L - 5 < 5 * j) := fun q => h ((nI_ltI (a := L - 5) (b := 5 * j) (by omega) (by omega)).mpr q)
    omega
  · have e : j = 0 := by omega
    subst e
    exfalso
    apply h
    rcases (show L = 0 ∨ L = 1 ∨ L = 2 ∨ L = 3 ∨ L = 4 by omega) with rfl | rfl | rfl | rfl | rfl <;> decide
set_option maxHeartbeats 4000000 in
set_option maxRecDepth 100000 in
theorem law_loop (l : Launch) (hnt : l.stackTraces = false) (D : va_G) (cI cJ cZ : ClassId) (cad mad : Nat → Nat) {p : Program} {e : Env} {s : State} {m : MethodId} {below : List Frame} {meth : Method} {c : Code} {A : Nat → Prop} {b L : Nat} {xs : Nat → Int32} (C : Cx D cI cJ cZ p s m ([.ref b] : List Value).toArray meth c yL_law cL_law 7 ret) (hX : va_X b L xs s s.heap) (hbl : b < s.heap.size) (hbA : ¬ A b) (hA : ∀ q, s.heap.size ≤ q → A q) (hAq : ∀ q, A q → s.heap.size ≤ q) (hTk : thr_K s) (hL : L ≤ 2560) :
    ∀ (ku j : Nat), L + 1 ≤ 5 * j + ku → 5 * j ≤ L → ∀ (H : Heap) (locs : List Loc) (ls : Array Slot), LI D cI cJ cZ cad mad A H → va_S A s.heap H locs → lv_has ls 7 [(0, .ref b), (1, .ref (cad 0)), (2, .ref (mad 0)), (3, .ref (cad 41)), (4, .int (nI (5 * j)))] → W p l e room_1 s m ([.ref b] : List Value).toArray below meth c H locs (76 + j) (56957 + 6 * j) (lw_Z below #[Value.ref b] s) (F0 m 23 ls []) := by
  obtain ⟨hx, hb, hr, hml, hts, hown, hlk, hnm, hK, hN⟩ := id C
  intro ku
  induction ku with
  | zero =>
    intro j h1 h2
    exact absurd h1 (by omega)
  | succ ku ih =>
    intro j hku hjL H locs ls hI hS hl
    refine lv_iload hx hb dL_law_23 (lv_at hl 4 rfl) ?_
    refine lv_aload_n hx hb dL_law_25 rfl (lv_at hl 0 rfl) ?_
    refine va_slen hx hb hX hbl hbA hS dL_law_26 ?_
    refine r_top (x' := nI L) rfl ?_
    refine lv_iconst (v := 5) hx hb dL_law_27 (by decide) ?_
    refine lv_isub hx hb dL_law_28 ?_
    refine lv_icmp_gt (tgt := 924) hx hb dL_law_29 (by decide) (fun c_29 => ?_) (fun c_29 => ?_)
    · -- taken 29
      refine lv_iconst (v := 1) hx hb dL_law_924 (by decide) ?_
      refine va_forget (fun q hq => hAq _ (hS.2.2 q hq)) ?_
      refine W.widen (k := 1101) (n := 65155) (by omega) (by omega) ?_
      exact lw_ret hx hb hr hlk dL_law_925
    · -- not taken 29
      have hj : 5 * j + 5 ≤ L := lp_in hL hjL c_29
      have kk : ∀ (H : Heap) (locs : List Loc) (ls : Array Slot), LI D cI cJ cZ cad mad A H → va_S A s.heap H locs → lv_has ls 7 [(0, .ref b), (1, .ref (cad 0)), (2, .ref (mad 0)), (3, .ref (cad 41)), (4, .int (nI (5 * j)))] → W p l e room_1 s m ([.ref b] : List Value).toArray below meth c H locs (76 + (j + 1)) (56957 + 6 * (j + 1)) (lw_Z below #[Value.ref b] s) (F0 m 918 ls []) := by
        intro H locs ls hI hS hl
        refine lv_iinc (v := nI (5 * (j + 1))) (lv' := [(4, .int (nI (5 * (j + 1)))), (0, .ref b), (1, .ref (cad 0)), (2, .ref (mad 0)), (3, .ref (cad 41))]) hx hb dL_law_918 hl (k := 4) rfl (nI_add (5 * j) 5) (by decide) rfl (fun ls hl => ?_)
        refine lv_goto (tgt := 23) hx hb dL_law_921 (by decide) ?_
        exact ih (j + 1) (by omega) (by omega) H locs ls hI hS (lv_sub hl [1, 2, 3, 4, 0] rfl)
      refine lv_aload_n hx hb dL_law_32 rfl (lv_at hl 0 rfl) ?_
      refine lv_iload hx hb dL_law_33 (lv_at hl 4 rfl) ?_
      refine va_sld hx hb hX hbl hbA hS (i := nI (5 * j)) (law_in (by omega) hL) dL_law_35 ?_
      refine r_top (x' := xs (5 * j)) (by rw [nI_clamp (by omega)]) ?_
      refine lv_bipush (v := 31) hx hb dL_law_36 (by decide) ?_
      refine lv_iand hx hb dL_law_38 ?_
      by_cases w_39_0 : (xs (5 * j)) &&& 31 = 0
      · refine r_top w_39_0 ?_
        refine lv_tableIn (off := 113) (tgt := 152) hx hb dL_law_39 (by decide) (by decide) (by decide +kernel) (by decide) ?_
        exact law_0 l D cI cJ cZ cad mad C hX hbl hbA hA j hj hL kk H locs ls hI hS hl
      by_cases w_39_1 : (xs (5 * j)) &&& 31 = 1
      · refine r_top w_39_1 ?_
        refine lv_tableIn (off := 166) (tgt := 205) hx hb dL_law_39 (by decide) (by decide) (by decide +kernel) (by decide) ?_
        exact law_1 l D cI cJ cZ cad mad C hX hbl hbA hA j hj hL kk H locs ls hI hS hl
      by_cases w_39_2 : (xs (5 * j)) &&& 31 = 2
      · refine r_top w_39_2 ?_
        refine lv_tableIn (off := 203) (tgt := 242) hx hb dL_law_39 (by decide) (by decide) (by decide +kernel) (by decide) ?_
        exact law_2 l D cI cJ cZ cad mad C hX hbl hbA hA j hj hL kk H locs ls hI hS hl
      by_cases w_39_3 : (xs (5 * j)) &&& 31 = 3
      · refine r_top w_39_3 ?_
        refine lv_tableIn (off := 216) (tgt := 255) hx hb dL_law_39 (by decide) (by decide) (by decide +kernel) (by decide) ?_
        exact law_3 l D cI cJ cZ cad mad C hX hbl hbA hA j hj hL kk H locs ls hI hS hl
      by_cases w_39_4 : (xs (5 * j)) &&& 31 = 4
      · refine r_top w_39_4 ?_
        refine lv_tableIn (off := 277) (tgt := 316) hx hb dL_law_39 (by decide) (by decide) (by decide +kernel) (by decide) ?_
        exact law_4 l D cI cJ cZ cad mad C hX hbl hbA hA j hj hL kk H locs ls hI hS hl
      by_cases w_39_5 : (xs (5 * j)) &&& 31 = 5
      · refine r_top w_39_5 ?_
        refine lv_tableIn (off := 338) (tgt := 377) hx hb dL_law_39 (by decide) (by decide) (by decide +kernel) (by decide) ?_
        exact law_5 l D cI cJ cZ cad mad C hX hbl hbA hA j hj hL kk H locs ls hI hS hl
      by_cases w_39_6 : (xs (5 * j)) &&& 31 = 6
      · refine r_top w_39_6 ?_
        refine lv_tableIn (off := 375) (tgt := 414) hx hb dL_law_39 (by decide) (by decide) (by decide +kernel) (by decide) ?_
        exact law_6 l D cI cJ cZ cad mad C hX hbl hbA hA j hj hL kk H locs ls hI hS hl
      by_cases w_39_7 : (xs (5 * j)) &&& 31 = 7
      · refine r_top w_39_7 ?_
        refine lv_tableIn (off := 412) (tgt := 451) hx hb dL_law_39 (by decide) (by decide) (by decide +kernel) (by decide) ?_
        exact law_7 l D cI cJ cZ cad mad C hX hbl hbA hA j hj hL kk H locs ls hI hS hl
      by_cases w_39_8 : (xs (5 * j)) &&& 31 = 8
      · refine r_top w_39_8 ?_
        refine lv_tableIn (off := 437) (tgt := 476) hx hb dL_law_39 (by decide) (by decide) (by decide +kernel) (by decide) ?_
        exact law_8 l D cI cJ cZ cad mad C hX hbl hbA hA j hj hL kk H locs ls hI hS hl
      by_cases w_39_9 : (xs (5 * j)) &&& 31 = 9
      · refine r_top w_39_9 ?_
        refine lv_tableIn (off := 450) (tgt := 489) hx hb dL_law_39 (by decide) (by decide) (by decide +kernel) (by decide) ?_
        exact law_9 l D cI cJ cZ cad mad C hX hbl hbA hA j hj hL kk H locs ls hI hS hl
      by_cases w_39_10 : (xs (5 * j)) &&& 31 = 10
      · refine r_top w_39_10 ?_
        refine lv_tableIn (off := 499) (tgt := 538) hx hb dL_law_39 (by decide) (by decide) (by decide +kernel) (by decide) ?_
        exact law_10 l D cI cJ cZ cad mad C hX hbl hbA hA j hj hL kk H locs ls hI hS hl
      by_cases w_39_11 : (xs (5 * j)) &&& 31 = 11
      · refine r_top w_39_11 ?_
        refine lv_tableIn (off := 512) (tgt := 551) hx hb dL_law_39 (by decide) (by decide) (by decide +kernel) (by decide) ?_
        exact law_11 l D cI cJ cZ cad mad C hX hbl hbA hA j hj hL kk H locs ls hI hS hl
      by_cases w_39_12 : (xs (5 * j)) &&& 31 = 12
      · refine r_top w_39_12 ?_
        refine lv_tableIn (off := 549) (tgt := 588) hx hb dL_law_39 (by decide) (by decide) (by decide +kernel) (by decide) ?_
        exact law_12 l D cI cJ cZ cad mad C hX hbl hbA hA j hj hL kk H locs ls hI hS hl
      by_cases w_39_13 : (xs (5 * j)) &&& 31 = 13
      · refine r_top w_39_13 ?_
        refine lv_tableIn (off := 562) (tgt := 601) hx hb dL_law_39 (by decide) (by decide) (by decide +kernel) (by decide) ?_
        exact law_13 l D cI cJ cZ cad mad C hX hbl hbA hA j hj hL kk H locs ls hI hS hl
      by_cases w_39_14 : (xs (5 * j)) &&& 31 = 14
      · refine r_top w_39_14 ?_
        refine lv_tableIn (off := 587) (tgt := 626) hx hb dL_law_39 (by decide) (by decide) (by decide +kernel) (by decide) ?_
        exact law_14 l D cI cJ cZ cad mad C hX hbl hbA hA j hj hL kk H locs ls hI hS hl
      by_cases w_39_15 : (xs (5 * j)) &&& 31 = 15
      · refine r_top w_39_15 ?_
        refine lv_tableIn (off := 600) (tgt := 639) hx hb dL_law_39 (by decide) (by decide) (by decide +kernel) (by decide) ?_
        exact law_15 l D cI cJ cZ cad mad C hX hbl hbA hA j hj hL kk H locs ls hI hS hl
      by_cases w_39_16 : (xs (5 * j)) &&& 31 = 16
      · refine r_top w_39_16 ?_
        refine lv_tableIn (off := 613) (tgt := 652) hx hb dL_law_39 (by decide) (by decide) (by decide +kernel) (by decide) ?_
        exact law_16 l D cI cJ cZ cad mad C hX hbl hbA hA j hj hL kk H locs ls hI hS hl
      by_cases w_39_17 : (xs (5 * j)) &&& 31 = 17
      · refine r_top w_39_17 ?_
        refine lv_tableIn (off := 650) (tgt := 689) hx hb dL_law_39 (by decide) (by decide) (by decide +kernel) (by decide) ?_
        exact law_17 l D cI cJ cZ cad mad C hX hbl hbA hA j hj hL kk H locs ls hI hS hl
      by_cases w_39_18 : (xs (5 * j)) &&& 31 = 18
      · refine r_top w_39_18 ?_
        refine lv_tableIn (off := 687) (tgt := 726) hx hb dL_law_39 (by decide) (by decide) (by decide +kernel) (by decide) ?_
        exact law_18 l D cI cJ cZ cad mad C hX hbl hbA hA j hj hL kk H locs ls hI hS hl
      by_cases w_39_19 : (xs (5 * j)) &&& 31 = 19
      · refine r_top w_39_19 ?_
        refine lv_tableIn (off := 712) (tgt := 751) hx hb dL_law_39 (by decide) (by decide) (by decide +kernel) (by decide) ?_
        exact law_19 l D cI cJ cZ cad mad C hX hbl hbA hA j hj hL kk H locs ls hI hS hl
      by_cases w_39_20 : (xs (5 * j)) &&& 31 = 20
      · refine r_top w_39_20 ?_
        refine lv_tableIn (off := 737) (tgt := 776) hx hb dL_law_39 (by decide) (by decide) (by decide +kernel) (by decide) ?_
        exact law_20 l D cI cJ cZ cad mad C hX hbl hbA hA j hj hL hnt hTk hAq kk H locs ls hI hS hl
      by_cases w_39_21 : (xs (5 * j)) &&& 31 = 21
      · refine r_top w_39_21 ?_
        refine lv_tableIn (off := 793) (tgt := 832) hx hb dL_law_39 (by decide) (by decide) (by decide +kernel) (by decide) ?_
        exact law_21 l D cI cJ cZ cad mad C hX hbl hbA hA j hj hL kk H locs ls hI hS hl
      by_cases w_39_22 : (xs (5 * j)) &&& 31 = 22
      · refine r_top w_39_22 ?_
        refine lv_tableIn (off := 804) (tgt := 843) hx hb dL_law_39 (by decide) (by decide) (by decide +kernel) (by decide) ?_
        exact law_22 l D cI cJ cZ cad mad C hX hbl hbA hA j hj hL kk H locs ls hI hS hl
      by_cases w_39_23 : (xs (5 * j)) &&& 31 = 23
      · refine r_top w_39_23 ?_
        refine lv_tableIn (off := 829) (tgt := 868) hx hb dL_law_39 (by decide) (by decide) (by decide +kernel) (by decide) ?_
        exact law_23 l D cI cJ cZ cad mad C hX hbl hbA hA j hj hL kk H locs ls hI hS hl
      by_cases w_39_24 : (xs (5 * j)) &&& 31 = 24
      · refine r_top w_39_24 ?_
        refine lv_tableIn (off := 854) (tgt := 893) hx hb dL_law_39 (by decide) (by decide) (by decide +kernel) (by decide) ?_
        exact law_24 l D cI cJ cZ cad mad C hX hbl hbA hA j hj hL kk H locs ls hI hS hl
      refine lv_tableOut (tgt := 918) hx hb dL_law_39 (sw_out 24 (by decide) (fun k hk => by match k, hk with | 0, _ => exact w_39_0 | 1, _ => exact w_39_1 | 2, _ => exact w_39_2 | 3, _ => exact w_39_3 | 4, _ => exact w_39_4 | 5, _ => exact w_39_5 | 6, _ => exact w_39_6 | 7, _ => exact w_39_7 | 8, _ => exact w_39_8 | 9, _ => exact w_39_9 | 10, _ => exact w_39_10 | 11, _ => exact w_39_11 | 12, _ => exact w_39_12 | 13, _ => exact w_39_13 | 14, _ => exact w_39_14 | 15, _ => exact w_39_15 | 16, _ => exact w_39_16 | 17, _ => exact w_39_17 | 18, _ => exact w_39_18 | 19, _ => exact w_39_19 | 20, _ => exact w_39_20 | 21, _ => exact w_39_21 | 22, _ => exact w_39_22 | 23, _ => exact w_39_23 | 24, _ => exact w_39_24 | k + 25, hk => exact absurd hk (by omega))) (by decide) ?_
      refine W.widen (k := 76 + (j + 1)) (n := 56957 + 6 * (j + 1)) (by omega) (by omega) ?_
      exact kk H locs ls hI hS hl
