/-! queue, of the class and of the law (written by s33.py) -/
theorem va_P.keptH {D : va_G} {ws : va_W} {H H1 : Heap} (h : va_P D vwCl ws H) (hk : keptH H H1) : va_P D vwCl ws H1 := fun k q hq => by
  have hlt := (h k q hq).lt
  refine (h k q hq).kept ?_
  have e1 : H[q.1]? = some H[q.1] := Array.getElem?_eq_some_iff.mpr ⟨hlt, rfl⟩
  rw [e1]
  exact hk _ _ e1
theorem one_row {L : List ExceptionTableEntry} {q : Nat × Nat × Nat × Nat} (h : L.map (fun h => (h.startPc, h.endPc, h.handlerPc, h.catchType)) = [q]) : ∃ x, L = [x] ∧ (x.startPc, x.endPc, x.handlerPc, x.catchType) = q := by
  match L, h with
  | [], h => simp at h
  | [x], h => exact ⟨x, rfl, by simpa using h⟩
  | x :: y :: t, h => simp at h
set_option maxHeartbeats 4000000 in
set_option maxRecDepth 100000 in
theorem c_X9_queue (l : Launch) (D : va_G) (cI cJ cZ : ClassId) (ax : Nat) (ay : Nat) (az : Nat) (ae : Nat) (ai : Nat) (an : Nat) (ap : Nat) (aq : Nat) (ah : Nat) (tc : Nat) (sn : Int32) (kt : Int32) (ish : Int32) (qu : FNt) (j : Nat) (htc : tc ≤ 1500) (hj : j < tc) : Ctr l D cI cJ cZ yX9_queue cX9_queue 2 (some .int) ({ frames := 1, cells := 0, slots := 0, locals := 22 } : Room) [.ref ax, .int (nI j)] [(ax, .inr (10, [.ref ay, .ref az, .ref ae, .ref ai])), (az, .inr (8, [.ref an, .ref ap, .ref aq, .int (nI tc), .int sn, .int kt, .int ish, .ref ah])), (aq, .inl (cI, 1500, .inl (nF qu)))] (fun r W => r = some (.int (nI (qu j))) ∧ W = [(ax, .inr (10, [.ref ay, .ref az, .ref ae, .ref ai])), (az, .inr (8, [.ref an, .ref ap, .ref aq, .int (nI tc), .int sn, .int kt, .int ish, .ref ah])), (aq, .inl (cI, 1500, .inl (nF qu)))]) := by
  refine Ctr.start (by decide +kernel) (Nat.le_of_ble_eq_true rfl) ?_
  intro p e s m below meth c A Q ls H C hQ hA hP hD hS hl
  obtain ⟨hx, hb, hr, hml, hts, hown, hlk, hnm, hK, hN⟩ := id C
  have hl : lv_has ls 2 [(0, .ref ax), (1, .int (nI j))] := hl
  refine lv_iload_n hx hb dX9_queue_0 rfl (lv_at hl 1 rfl) ?_
  refine lv_iconst (v := 0) hx hb dX9_queue_1 (by decide) ?_
  refine lv_aload_n hx hb dX9_queue_2 rfl (lv_at hl 0 rfl) ?_
  refine r_get (v := .ref az) C hP okX9 0 1 rfl (by decide) fl_X9_19 rfl rfl dX9_queue_3 ?_
  refine r_get (v := .int (nI tc)) C hP okX7 1 3 rfl (by decide) fl_X9_196 rfl rfl dX9_queue_6 ?_
  refine lv_iconst (v := 1) hx hb dX9_queue_9 (by decide) ?_
  refine lv_isub hx hb dX9_queue_10 ?_
  refine cl_s C (c_X9_isWithin l D cI cJ cZ (nI j) 0 ((nI tc) - 1)) cd_X9_isWithin ml_X9_62 st_X9_isWithin in_X9 hd_X9_isWithin ⟨by decide, by decide⟩ hP hD hS hA (WR := [(ax, .inr (10, [.ref ay, .ref az, .ref ae, .ref ai])), (az, .inr (8, [.ref an, .ref ap, .ref aq, .int (nI tc), .int sn, .int kt, .int ish, .ref ah])), (aq, .inl (cI, 1500, .inl (nF qu)))]) [] [0, 1, 2] rfl rfl rfl rfl (by decide) hl.1 rfl (Nat.le_of_ble_eq_true rfl) dX9_queue_11 ⟨by decide, by decide⟩ (fun r W H locs hp hP hD hS => ?_)
  rcases hp with ⟨⟨rfl, hb_11⟩ | ⟨rfl, hb_11⟩, rfl⟩
  · -- yes 11
    refine W.eq (g2 := F0 m 14 ls [.int 1]) rfl ?_
    have hP : va_P D vwCl [(ax, .inr (10, [.ref ay, .ref az, .ref ae, .ref ai])), (az, .inr (8, [.ref an, .ref ap, .ref aq, .int (nI tc), .int sn, .int kt, .int ish, .ref ah])), (aq, .inl (cI, 1500, .inl (nF qu)))] H := hP
    have hD : va_D A [(ax, .inr (10, [.ref ay, .ref az, .ref ae, .ref ai])), (az, .inr (8, [.ref an, .ref ap, .ref aq, .int (nI tc), .int sn, .int kt, .int ish, .ref ah])), (aq, .inl (cI, 1500, .inl (nF qu)))] := hD
    refine lv_if_ne (tgt := 27) hx hb dX9_queue_14 (by decide) (fun c_14 => ?_) (fun c_14 => ?_)
    rotate_left
    · exact absurd c_14 (by decide)
    refine lv_aload_n hx hb dX9_queue_27 rfl (lv_at hl 0 rfl) ?_
    refine r_get (v := .ref az) C hP okX9 0 1 rfl (by decide) fl_X9_19 rfl rfl dX9_queue_28 ?_
    refine r_get (v := .ref aq) C hP okX7 1 2 rfl (by decide) fl_X9_206 rfl rfl dX9_queue_31 ?_
    refine lv_iload_n hx hb dX9_queue_34 rfl (lv_at hl 1 rfl) ?_
    refine r_iald (j := j) C hP 2 rfl (by omega) (by decide) dX9_queue_35 ?_
    refine r_top (x' := nI (qu j)) rfl ?_
    exact rt_i C hQ (hP.sub (ws' := [(ax, .inr (10, [.ref ay, .ref az, .ref ae, .ref ai])), (az, .inr (8, [.ref an, .ref ap, .ref aq, .int (nI tc), .int sn, .int kt, .int ish, .ref ah])), (aq, .inl (cI, 1500, .inl (nF qu)))]) [0, 1, 2] rfl) (hD.sub [0, 1, 2] (by decide) rfl) hS ⟨rfl, rfl⟩ (by decide) (by decide) dX9_queue_36
  · -- no 11
    refine W.eq (g2 := F0 m 14 ls [.int 0]) rfl ?_
    have hP : va_P D vwCl [(ax, .inr (10, [.ref ay, .ref az, .ref ae, .ref ai])), (az, .inr (8, [.ref an, .ref ap, .ref aq, .int (nI tc), .int sn, .int kt, .int ish, .ref ah])), (aq, .inl (cI, 1500, .inl (nF qu)))] H := hP
    have hD : va_D A [(ax, .inr (10, [.ref ay, .ref az, .ref ae, .ref ai])), (az, .inr (8, [.ref an, .ref ap, .ref aq, .int (nI tc), .int sn, .int kt, .int ish, .ref ah])), (aq, .inl (cI, 1500, .inl (nF qu)))] := hD
    refine lv_if_ne (tgt := 27) hx hb dX9_queue_14 (by decide) (fun c_14 => ?_) (fun c_14 => ?_)
    · exact absurd c_14 (by decide)
    exact absurd ((q_rng (by omega)).mpr ⟨j, hj, rfl⟩) hb_11
set_option maxHeartbeats 4000000 in
set_option maxRecDepth 100000 in
theorem c_L_queue_y (l : Launch) (D : va_G) (cI cJ cZ : ClassId) (ax : Nat) (ay : Nat) (az : Nat) (ae : Nat) (ai : Nat) (an : Nat) (ap : Nat) (aq : Nat) (ah : Nat) (tc : Nat) (sn : Int32) (kt : Int32) (ish : Int32) (oa : Nat) (qu : FNt) (ol : Nat → Int64) (j : Nat) (htc : tc ≤ 1500) (hj : j < tc) : CtrW l D cI cJ cZ yL_queue cL_queue 4 (some .int) [(0, 9, 12, 13)] ({ frames := 2, cells := 0, slots := 0, locals := 43 } : Room) [.ref ax, .int (nI j), .ref oa] [(ax, .inr (10, [.ref ay, .ref az, .ref ae, .ref ai])), (az, .inr (8, [.ref an, .ref ap, .ref aq, .int (nI tc), .int sn, .int kt, .int ish, .ref ah])), (aq, .inl (cI, 1500, .inl (nF qu))), (oa, .inl (cJ, 1, .inr (.inl ol)))] (fun r W => r = some (.int 0) ∧ W = [(ax, .inr (10, [.ref ay, .ref az, .ref ae, .ref ai])), (az, .inr (8, [.ref an, .ref ap, .ref aq, .int (nI tc), .int sn, .int kt, .int ish, .ref ah])), (aq, .inl (cI, 1500, .inl (nF qu))), (oa, .inl (cJ, 1, .inr (.inl (vp_updL ol 0 (nI (qu j)).toInt64))))]) := by
  refine CtrW.start (by decide +kernel) (Nat.le_of_ble_eq_true rfl) ?_
  intro p e s m below meth c A Q ls C hex hT hQ hA hP hD hS hl
  obtain ⟨hx, hb, hr, hml, hts, hown, hlk, hnm, hK, hN⟩ := id C
  have hl : lv_has ls 4 [(0, .ref ax), (1, .int (nI j)), (2, .ref oa)] := hl
  refine lv_aload_n hx hb dL_queue_0 rfl (lv_at hl 2 rfl) ?_
  refine lv_iconst (v := 0) hx hb dL_queue_1 (by decide) ?_
  refine lv_aload_n hx hb dL_queue_2 rfl (lv_at hl 0 rfl) ?_
  refine lv_iload_n hx hb dL_queue_3 rfl (lv_at hl 1 rfl) ?_
  refine cl_v C (c_X9_queue l D cI cJ cZ ax ay az ae ai an ap aq ah tc sn kt ish qu j htc hj) cd_X9_queue ml_L_7 im_X9_queue se_X9_queue in_X9 hd_X9_queue ⟨by decide, by decide⟩ hP hD hS hA (WR := [(oa, .inl (cJ, 1, .inr (.inl ol)))]) [0, 1, 2] [3] rfl rfl rfl rfl (by decide) (ci := 10) (q0 := 0) rfl rfl hl.1 rfl (Nat.le_of_ble_eq_true rfl) dL_queue_4 ⟨by decide, by decide⟩ (fun r W H locs hp hP hD hS => ?_)
  obtain ⟨rfl, rfl⟩ := hp
  refine W.eq (g2 := F0 m 7 ls [.int (nI (qu j)), .int 0, .ref oa]) rfl ?_
  have hP : va_P D vwCl [(oa, .inl (cJ, 1, .inr (.inl ol))), (ax, .inr (10, [.ref ay, .ref az, .ref ae, .ref ai])), (az, .inr (8, [.ref an, .ref ap, .ref aq, .int (nI tc), .int sn, .int kt, .int ish, .ref ah])), (aq, .inl (cI, 1500, .inl (nF qu)))] H := hP
  have hD : va_D A [(oa, .inl (cJ, 1, .inr (.inl ol))), (ax, .inr (10, [.ref ay, .ref az, .ref ae, .ref ai])), (az, .inr (8, [.ref an, .ref ap, .ref aq, .int (nI tc), .int sn, .int kt, .int ish, .ref ah])), (aq, .inl (cI, 1500, .inl (nF qu)))] := hD
  refine lv_i2l (v := (nI (qu j)).toInt64) hx hb dL_queue_7 rfl ?_
  refine r_last (j := 0) C hP hD hS 0 rfl (by omega) (by decide) dL_queue_8 (fun H locs hP hD hS => ?_)
  have hP : va_P D vwCl [(oa, .inl (cJ, 1, .inr (.inl (vp_updL ol 0 ((nI (qu j)).toInt64))))), (ax, .inr (10, [.ref ay, .ref az, .ref ae, .ref ai])), (az, .inr (8, [.ref an, .ref ap, .ref aq, .int (nI tc), .int sn, .int kt, .int ish, .ref ah])), (aq, .inl (cI, 1500, .inl (nF qu)))] H := hP
  have hD : va_D A [(oa, .inl (cJ, 1, .inr (.inl (vp_updL ol 0 ((nI (qu j)).toInt64))))), (ax, .inr (10, [.ref ay, .ref az, .ref ae, .ref ai])), (az, .inr (8, [.ref an, .ref ap, .ref aq, .int (nI tc), .int sn, .int kt, .int ish, .ref ah])), (aq, .inl (cI, 1500, .inl (nF qu)))] := hD
  refine lv_goto (tgt := 15) hx hb dL_queue_9 (by decide) ?_
  refine lv_iconst (v := 0) hx hb dL_queue_15 (by decide) ?_
  exact rt_i C hQ (hP.sub (ws' := [(ax, .inr (10, [.ref ay, .ref az, .ref ae, .ref ai])), (az, .inr (8, [.ref an, .ref ap, .ref aq, .int (nI tc), .int sn, .int kt, .int ish, .ref ah])), (aq, .inl (cI, 1500, .inl (nF qu))), (oa, .inl (cJ, 1, .inr (.inl (vp_updL ol 0 ((nI (qu j)).toInt64)))))]) [1, 2, 3, 0] rfl) (hD.sub [1, 2, 3, 0] (by decide) rfl) hS ⟨rfl, rfl⟩ (by decide) (by decide) dL_queue_16
set_option maxHeartbeats 4000000 in
set_option maxRecDepth 100000 in
theorem c_L_queue_n (l : Launch) (hnt : l.stackTraces = false) (D : va_G) (cI cJ cZ : ClassId) (ax : Nat) (ay : Nat) (az : Nat) (ae : Nat) (ai : Nat) (an : Nat) (ap : Nat) (aq : Nat) (ah : Nat) (tc : Nat) (sn : Int32) (kt : Int32) (ish : Int32) (oa : Nat) (qu : FNt) (ol : Nat → Int64) (i : Int32) (htc : tc ≤ 1500) (hno : ¬ inR i tc = true) : CtrW l D cI cJ cZ yL_queue cL_queue 4 (some .int) [(0, 9, 12, 13)] ({ frames := 8, cells := 1, slots := 6, locals := 141 } : Room) [.ref ax, .int i, .ref oa] [(ax, .inr (10, [.ref ay, .ref az, .ref ae, .ref ai])), (az, .inr (8, [.ref an, .ref ap, .ref aq, .int (nI tc), .int sn, .int kt, .int ish, .ref ah])), (aq, .inl (cI, 1500, .inl (nF qu))), (oa, .inl (cJ, 1, .inr (.inl ol)))] (fun r W => r = some (.int 1) ∧ W = [(ax, .inr (10, [.ref ay, .ref az, .ref ae, .ref ai])), (az, .inr (8, [.ref an, .ref ap, .ref aq, .int (nI tc), .int sn, .int kt, .int ish, .ref ah])), (aq, .inl (cI, 1500, .inl (nF qu))), (oa, .inl (cJ, 1, .inr (.inl ol)))]) := by
  refine CtrW.start (by decide +kernel) (Nat.le_of_ble_eq_true rfl) ?_
  intro p e s m below meth c A Q ls C hex hT hQ hA hP hD hS hl
  obtain ⟨hx, hb, hr, hml, hts, hown, hlk, hnm, hK, hN⟩ := id C
  have hl : lv_has ls 4 [(0, .ref ax), (1, .int i), (2, .ref oa)] := hl
  refine lv_aload_n hx hb dL_queue_0 rfl (lv_at hl 2 rfl) ?_
  refine lv_iconst (v := 0) hx hb dL_queue_1 (by decide) ?_
  refine lv_aload_n hx hb dL_queue_2 rfl (lv_at hl 0 rfl) ?_
  refine lv_iload_n hx hb dL_queue_3 rfl (lv_at hl 1 rfl) ?_
  obtain ⟨x0, hx0, ex0⟩ := one_row hex
  have r1 : x0.startPc = 0 := congrArg (fun q : Nat × Nat × Nat × Nat => q.1) ex0
  have r2 : x0.endPc = 9 := congrArg (fun q : Nat × Nat × Nat × Nat => q.2.1) ex0
  have r3 : x0.handlerPc = 12 := congrArg (fun q : Nat × Nat × Nat × Nat => q.2.2.1) ex0
  have r4 : x0.catchType = 13 := congrArg (fun q : Nat × Nat × Nat × Nat => q.2.2.2) ex0
  refine cl_vT (As := [.int i]) (b := ax) (rest := [.int 0, .ref oa]) C (q_throws l hnt D cI cJ cZ ax ay az ae ai an ap aq ah tc sn kt ish i htc hno) cd_X9_queue ml_L_7 im_X9_queue se_X9_queue in_X9 hd_X9_queue ⟨by decide, by decide⟩ hP (ci := 10) (q0 := 0) rfl rfl hl.1 rfl (Nat.le_of_ble_eq_true rfl) dL_queue_4 ⟨by decide, by decide⟩
    (fun U hU hW => ⟨rfl, by rw [hU]; exact hP.sub [0, 1] rfl, ⟨va_K.moved hW.alike hK, hN.warm hW⟩, hT.ride hW (by rw [hU]; exact fun _ _ z => z)⟩) qPre.blind hx0 (by simp [covers, r1, r2]) (by rw [r4]; decide) (by rw [r4]; exact cl_L13) (hT.any _ _ (List.mem_of_getElem? (i := 6) rfl)) (fun x H hk hz => ?_)
  have hP := hP.keptH hk
  have hS : va_S A s.heap H [] := ⟨hz, fun q h1 _ => by rw [hk q s.heap[q] (Array.getElem?_eq_some_iff.mpr ⟨h1, rfl⟩)]; exact (Array.getElem?_eq_some_iff.mpr ⟨h1, rfl⟩).symm, fun _ h => absurd h List.not_mem_nil⟩
  refine W.eq (g2 := F0 m 12 ls [.ref x]) (by rw [r3]) ?_
  refine lv_astore_n (lv' := [(3, .ref x), (0, .ref ax), (1, .int i), (2, .ref oa)]) hx hb dL_queue_12 rfl hl (by decide) rfl (fun ls hl => ?_)
  refine lv_iconst (v := 1) hx hb dL_queue_13 (by decide) ?_
  exact rt_i C hQ (hP.sub (ws' := [(ax, .inr (10, [.ref ay, .ref az, .ref ae, .ref ai])), (az, .inr (8, [.ref an, .ref ap, .ref aq, .int (nI tc), .int sn, .int kt, .int ish, .ref ah])), (aq, .inl (cI, 1500, .inl (nF qu))), (oa, .inl (cJ, 1, .inr (.inl ol)))]) [0, 1, 2, 3] rfl) (hD.sub [0, 1, 2, 3] (by decide) rfl) hS ⟨rfl, rfl⟩ (by decide) (by decide) dL_queue_14
