/-! Moment (written by s2.py) -/
set_option maxHeartbeats 4000000 in
set_option maxRecDepth 100000 in
theorem c_X3_init (l : Launch) (D : va_G) (cI cJ cZ : ClassId) (am : Nat)  : Ctr l D cI cJ cZ yX3_init cX3_init 1 none ({ frames := 1, cells := 0, slots := 0, locals := 12 } : Room) [.ref am] [(am, .inr (4, [.long 0, .int 0, .int 0, .int 0]))] (fun r W => r = none ∧ W = [(am, .inr (4, [.long 0, .int 0, .int (-1), .int 0]))]) := by
  refine Ctr.start (by decide +kernel) (Nat.le_of_ble_eq_true rfl) ?_
  intro p e s m below meth c A Q ls H C hQ hA hP hD hS hl
  obtain ⟨hx, hb, hr, hml, hts, hown, hlk, hnm, hK, hN⟩ := id C
  have hl : lv_has ls 1 [(0, .ref am)] := hl
  refine lv_aload_n hx hb dX3_init_0 rfl (lv_at hl 0 rfl) ?_
  refine W.objInit hx hb hown (hts _ ml_X3_3) (hts _ im_objectInit) (hts _ cd_objectInit) rfl (by rw [hml]; exact hl.1) rfl dX3_init_1 (by decide) (Nat.le_of_ble_eq_true rfl) ?_
  refine W.eq (g2 := F0 m 4 ls []) rfl ?_
  refine lv_aload_n hx hb dX3_init_4 rfl (lv_at hl 0 rfl) ?_
  refine lv_iconst (v := (-1)) hx hb dX3_init_5 (by decide) ?_
  refine r_put (v := .int (-1)) C hP hD hS okX3 0 2 rfl (by decide) fl_X3_9 rfl rfl rfl rfl (Nat.le_of_ble_eq_true rfl) dX3_init_6 (fun H locs hP hD hS => ?_)
  have hP : va_P D vwCl [(am, .inr (4, [.long 0, .int 0, .int (-1), .int 0]))] H := hP
  have hD : va_D A [(am, .inr (4, [.long 0, .int 0, .int (-1), .int 0]))] := hD
  exact rt_v C hQ (hP.sub (ws' := [(am, .inr (4, [.long 0, .int 0, .int (-1), .int 0]))]) [0] rfl) (hD.sub [0] (by decide) rfl) hS ⟨rfl, rfl⟩ (by decide) (by decide) dX3_init_9
set_option maxHeartbeats 4000000 in
set_option maxRecDepth 100000 in
theorem c_X3_start (l : Launch) (D : va_G) (cI cJ cZ : ClassId) (am : Nat) (w : Int64) (en : Int32) (lt : Int32) (sh : Int32) (f : Int64)  : Ctr l D cI cJ cZ yX3_start cX3_start 3 none ({ frames := 0, cells := 0, slots := 0, locals := 0 } : Room) [.ref am, .long f] [(am, .inr (4, [.long w, .int en, .int lt, .int sh]))] (fun r W => r = none ∧ W = [(am, .inr (4, [.long f, .int 0, .int (-1), .int 0]))]) := by
  refine Ctr.start (by decide +kernel) (Nat.le_of_ble_eq_true rfl) ?_
  intro p e s m below meth c A Q ls H C hQ hA hP hD hS hl
  obtain ⟨hx, hb, hr, hml, hts, hown, hlk, hnm, hK, hN⟩ := id C
  have hl : lv_has ls 3 [(0, .ref am), (1, .long f)] := hl
  refine lv_aload_n hx hb dX3_start_0 rfl (lv_at hl 0 rfl) ?_
  refine lv_lload_n hx hb dX3_start_1 rfl (lv_at hl 1 rfl) ?_
  refine r_put (v := .long f) C hP hD hS okX3 0 0 rfl (by decide) fl_X3_15 rfl rfl rfl rfl (Nat.le_of_ble_eq_true rfl) dX3_start_2 (fun H locs hP hD hS => ?_)
  have hP : va_P D vwCl [(am, .inr (4, [.long f, .int en, .int lt, .int sh]))] H := hP
  have hD : va_D A [(am, .inr (4, [.long f, .int en, .int lt, .int sh]))] := hD
  refine lv_aload_n hx hb dX3_start_5 rfl (lv_at hl 0 rfl) ?_
  refine lv_iconst (v := 0) hx hb dX3_start_6 (by decide) ?_
  refine r_put (v := .int 0) C hP hD hS okX3 0 1 rfl (by decide) fl_X3_19 rfl rfl rfl rfl (Nat.le_of_ble_eq_true rfl) dX3_start_7 (fun H locs hP hD hS => ?_)
  have hP : va_P D vwCl [(am, .inr (4, [.long f, .int 0, .int lt, .int sh]))] H := hP
  have hD : va_D A [(am, .inr (4, [.long f, .int 0, .int lt, .int sh]))] := hD
  refine lv_aload_n hx hb dX3_start_10 rfl (lv_at hl 0 rfl) ?_
  refine lv_iconst (v := (-1)) hx hb dX3_start_11 (by decide) ?_
  refine r_put (v := .int (-1)) C hP hD hS okX3 0 2 rfl (by decide) fl_X3_9 rfl rfl rfl rfl (Nat.le_of_ble_eq_true rfl) dX3_start_12 (fun H locs hP hD hS => ?_)
  have hP : va_P D vwCl [(am, .inr (4, [.long f, .int 0, .int (-1), .int sh]))] H := hP
  have hD : va_D A [(am, .inr (4, [.long f, .int 0, .int (-1), .int sh]))] := hD
  refine lv_aload_n hx hb dX3_start_15 rfl (lv_at hl 0 rfl) ?_
  refine lv_iconst (v := 0) hx hb dX3_start_16 (by decide) ?_
  refine r_put (v := .int 0) C hP hD hS okX3 0 3 rfl (by decide) fl_X3_22 rfl rfl rfl rfl (Nat.le_of_ble_eq_true rfl) dX3_start_17 (fun H locs hP hD hS => ?_)
  have hP : va_P D vwCl [(am, .inr (4, [.long f, .int 0, .int (-1), .int 0]))] H := hP
  have hD : va_D A [(am, .inr (4, [.long f, .int 0, .int (-1), .int 0]))] := hD
  exact rt_v C hQ (hP.sub (ws' := [(am, .inr (4, [.long f, .int 0, .int (-1), .int 0]))]) [0] rfl) (hD.sub [0] (by decide) rfl) hS ⟨rfl, rfl⟩ (by decide) (by decide) dX3_start_20
set_option maxHeartbeats 4000000 in
set_option maxRecDepth 100000 in
theorem c_X3_become (l : Launch) (D : va_G) (cI cJ cZ : ClassId) (am : Nat) (w : Int64) (en : Int32) (lt : Int32) (sh : Int32) (ao : Nat) (w2 : Int64) (en2 : Int32) (lt2 : Int32) (sh2 : Int32)  : Ctr l D cI cJ cZ yX3_become cX3_become 2 none ({ frames := 0, cells := 0, slots := 0, locals := 0 } : Room) [.ref am, .ref ao] [(am, .inr (4, [.long w, .int en, .int lt, .int sh])), (ao, .inr (4, [.long w2, .int en2, .int lt2, .int sh2]))] (fun r W => r = none ∧ W = [(am, .inr (4, [.long w2, .int en2, .int lt2, .int sh2])), (ao, .inr (4, [.long w2, .int en2, .int lt2, .int sh2]))]) := by
  refine Ctr.start (by decide +kernel) (Nat.le_of_ble_eq_true rfl) ?_
  intro p e s m below meth c A Q ls H C hQ hA hP hD hS hl
  obtain ⟨hx, hb, hr, hml, hts, hown, hlk, hnm, hK, hN⟩ := id C
  have hl : lv_has ls 2 [(0, .ref am), (1, .ref ao)] := hl
  refine lv_aload_n hx hb dX3_become_0 rfl (lv_at hl 0 rfl) ?_
  refine lv_aload_n hx hb dX3_become_1 rfl (lv_at hl 1 rfl) ?_
  refine r_get (v := .long w2) C hP okX3 1 0 rfl (by decide) fl_X3_15 rfl rfl dX3_become_2 ?_
  refine r_put (v := .long w2) C hP hD hS okX3 0 0 rfl (by decide) fl_X3_15 rfl rfl rfl rfl (Nat.le_of_ble_eq_true rfl) dX3_become_5 (fun H locs hP hD hS => ?_)
  have hP : va_P D vwCl [(am, .inr (4, [.long w2, .int en, .int lt, .int sh])), (ao, .inr (4, [.long w2, .int en2, .int lt2, .int sh2]))] H := hP
  have hD : va_D A [(am, .inr (4, [.long w2, .int en, .int lt, .int sh])), (ao, .inr (4, [.long w2, .int en2, .int lt2, .int sh2]))] := hD
  refine lv_aload_n hx hb dX3_become_8 rfl (lv_at hl 0 rfl) ?_
  refine lv_aload_n hx hb dX3_become_9 rfl (lv_at hl 1 rfl) ?_
  refine r_get (v := .int en2) C hP okX3 1 1 rfl (by decide) fl_X3_19 rfl rfl dX3_become_10 ?_
  refine r_put (v := .int en2) C hP hD hS okX3 0 1 rfl (by decide) fl_X3_19 rfl rfl rfl rfl (Nat.le_of_ble_eq_true rfl) dX3_become_13 (fun H locs hP hD hS => ?_)
  have hP : va_P D vwCl [(am, .inr (4, [.long w2, .int en2, .int lt, .int sh])), (ao, .inr (4, [.long w2, .int en2, .int lt2, .int sh2]))] H := hP
  have hD : va_D A [(am, .inr (4, [.long w2, .int en2, .int lt, .int sh])), (ao, .inr (4, [.long w2, .int en2, .int lt2, .int sh2]))] := hD
  refine lv_aload_n hx hb dX3_become_16 rfl (lv_at hl 0 rfl) ?_
  refine lv_aload_n hx hb dX3_become_17 rfl (lv_at hl 1 rfl) ?_
  refine r_get (v := .int lt2) C hP okX3 1 2 rfl (by decide) fl_X3_9 rfl rfl dX3_become_18 ?_
  refine r_put (v := .int lt2) C hP hD hS okX3 0 2 rfl (by decide) fl_X3_9 rfl rfl rfl rfl (Nat.le_of_ble_eq_true rfl) dX3_become_21 (fun H locs hP hD hS => ?_)
  have hP : va_P D vwCl [(am, .inr (4, [.long w2, .int en2, .int lt2, .int sh])), (ao, .inr (4, [.long w2, .int en2, .int lt2, .int sh2]))] H := hP
  have hD : va_D A [(am, .inr (4, [.long w2, .int en2, .int lt2, .int sh])), (ao, .inr (4, [.long w2, .int en2, .int lt2, .int sh2]))] := hD
  refine lv_aload_n hx hb dX3_become_24 rfl (lv_at hl 0 rfl) ?_
  refine lv_aload_n hx hb dX3_become_25 rfl (lv_at hl 1 rfl) ?_
  refine r_get (v := .int sh2) C hP okX3 1 3 rfl (by decide) fl_X3_22 rfl rfl dX3_become_26 ?_
  refine r_put (v := .int sh2) C hP hD hS okX3 0 3 rfl (by decide) fl_X3_22 rfl rfl rfl rfl (Nat.le_of_ble_eq_true rfl) dX3_become_29 (fun H locs hP hD hS => ?_)
  have hP : va_P D vwCl [(am, .inr (4, [.long w2, .int en2, .int lt2, .int sh2])), (ao, .inr (4, [.long w2, .int en2, .int lt2, .int sh2]))] H := hP
  have hD : va_D A [(am, .inr (4, [.long w2, .int en2, .int lt2, .int sh2])), (ao, .inr (4, [.long w2, .int en2, .int lt2, .int sh2]))] := hD
  exact rt_v C hQ (hP.sub (ws' := [(am, .inr (4, [.long w2, .int en2, .int lt2, .int sh2])), (ao, .inr (4, [.long w2, .int en2, .int lt2, .int sh2]))]) [0, 1] rfl) (hD.sub [0, 1] (by decide) rfl) hS ⟨rfl, rfl⟩ (by decide) (by decide) dX3_become_32
set_option maxHeartbeats 4000000 in
set_option maxRecDepth 100000 in
theorem c_X3_hear (l : Launch) (D : va_G) (cI cJ cZ : ClassId) (am : Nat) (w : Int64) (en : Int32) (lt : Int32) (sh : Int32) (t : Int32)  : Ctr l D cI cJ cZ yX3_hear cX3_hear 2 none ({ frames := 0, cells := 0, slots := 0, locals := 0 } : Room) [.ref am, .int t] [(am, .inr (4, [.long w, .int en, .int lt, .int sh]))] (fun r W => r = none ∧ W = [(am, .inr (4, [.long w, .int en, .int t, .int (f_hear sh t)]))]) := by
  refine Ctr.start (by decide +kernel) (Nat.le_of_ble_eq_true rfl) ?_
  intro p e s m below meth c A Q ls H C hQ hA hP hD hS hl
  obtain ⟨hx, hb, hr, hml, hts, hown, hlk, hnm, hK, hN⟩ := id C
  have hl : lv_has ls 2 [(0, .ref am), (1, .int t)] := hl
  refine lv_aload_n hx hb dX3_hear_0 rfl (lv_at hl 0 rfl) ?_
  refine lv_iload_n hx hb dX3_hear_1 rfl (lv_at hl 1 rfl) ?_
  refine r_put (v := .int t) C hP hD hS okX3 0 2 rfl (by decide) fl_X3_9 rfl rfl rfl rfl (Nat.le_of_ble_eq_true rfl) dX3_hear_2 (fun H locs hP hD hS => ?_)
  have hP : va_P D vwCl [(am, .inr (4, [.long w, .int en, .int t, .int sh]))] H := hP
  have hD : va_D A [(am, .inr (4, [.long w, .int en, .int t, .int sh]))] := hD
  refine lv_iload_n hx hb dX3_hear_5 rfl (lv_at hl 1 rfl) ?_
  refine lv_iconst (v := (-1)) hx hb dX3_hear_6 (by decide) ?_
  refine lv_icmp_eq (tgt := 22) hx hb dX3_hear_7 (by decide) (fun c_7 => ?_) (fun c_7 => ?_)
  · -- taken 7
    exact rt_v C hQ (hP.sub (ws' := [(am, .inr (4, [.long w, .int en, .int t, .int sh]))]) [0] rfl) (hD.sub [0] (by decide) rfl) hS ⟨rfl, by simp only [f_hear, c_7, if_true, if_false, if_pos, if_neg]⟩ (by decide) (by decide) dX3_hear_22
  · -- not taken 7
    refine lv_aload_n hx hb dX3_hear_10 rfl (lv_at hl 0 rfl) ?_
    refine lv_dup hx hb dX3_hear_11 rfl ?_
    refine r_get (v := .int sh) C hP okX3 0 3 rfl (by decide) fl_X3_22 rfl rfl dX3_hear_12 ?_
    refine lv_iconst (v := 1) hx hb dX3_hear_15 (by decide) ?_
    refine lv_iload_n hx hb dX3_hear_16 rfl (lv_at hl 1 rfl) ?_
    refine lv_ishl hx hb dX3_hear_17 ?_
    refine lv_ior hx hb dX3_hear_18 ?_
    refine r_put (v := .int (sh ||| (1 <<< (t &&& 31)))) C hP hD hS okX3 0 3 rfl (by decide) fl_X3_22 rfl rfl rfl rfl (Nat.le_of_ble_eq_true rfl) dX3_hear_19 (fun H locs hP hD hS => ?_)
    have hP : va_P D vwCl [(am, .inr (4, [.long w, .int en, .int t, .int (sh ||| (1 <<< (t &&& 31)))]))] H := hP
    have hD : va_D A [(am, .inr (4, [.long w, .int en, .int t, .int (sh ||| (1 <<< (t &&& 31)))]))] := hD
    exact rt_v C hQ (hP.sub (ws' := [(am, .inr (4, [.long w, .int en, .int t, .int (sh ||| (1 <<< (t &&& 31)))]))]) [0] rfl) (hD.sub [0] (by decide) rfl) hS ⟨rfl, by simp only [f_hear, c_7, if_true, if_false, if_pos, if_neg]⟩ (by decide) (by decide) dX3_hear_22
