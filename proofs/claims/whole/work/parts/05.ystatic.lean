/-! small static methods of PlaySearch; Cells, Moment, Macros, Goal (written by s1.py) -/
def f_valueIn (w : Int64) (c : Int32) : Int32 := ((w.toUInt64 >>> ((4 * c).toInt64.toUInt64 &&& Int64.toUInt64 63)).toInt64 &&& 15).toInt32
def f_withValue (w : Int64) (c v : Int32) : Int64 := (w &&& (((15 : Int64) <<< ((4 * c).toInt64 &&& 63)) ^^^ (-1))) ||| (v.toInt64 <<< ((4 * c).toInt64 &&& 63))
def f_bit (b k : Int32) : Int32 := (b.toUInt32 >>> (k.toUInt32 &&& Int32.toUInt32 31)).toInt32 &&& 1
set_option maxHeartbeats 4000000 in
set_option maxRecDepth 100000 in
theorem c_X9_isWithin (l : Launch) (D : va_G) (cI cJ cZ : ClassId) (nu : Int32) (le : Int32) (mo : Int32)  : Ctr l D cI cJ cZ yX9_isWithin cX9_isWithin 3 (some .boolean) ({ frames := 0, cells := 0, slots := 0, locals := 0 } : Room) [.int nu, .int le, .int mo] [] (fun r W => ((r = some (.int 1) ∧ (le ≤ nu ∧ nu ≤ mo)) ∨ (r = some (.int 0) ∧ ¬ (le ≤ nu ∧ nu ≤ mo))) ∧ W = []) := by
  refine Ctr.start (by decide +kernel) (Nat.le_of_ble_eq_true rfl) ?_
  intro p e s m below meth c A Q ls H C hQ hA hP hD hS hl
  obtain ⟨hx, hb, hr, hml, hts, hown, hlk, hnm, hK, hN⟩ := id C
  have hl : lv_has ls 3 [(0, .int nu), (1, .int le), (2, .int mo)] := hl
  refine lv_iload_n hx hb dX9_isWithin_0 rfl (lv_at hl 1 rfl) ?_
  refine lv_iload_n hx hb dX9_isWithin_1 rfl (lv_at hl 0 rfl) ?_
  refine lv_icmp_gt (tgt := 14) hx hb dX9_isWithin_2 (by decide) (fun c_2 => ?_) (fun c_2 => ?_)
  · -- taken 2
    refine lv_iconst (v := 0) hx hb dX9_isWithin_14 (by decide) ?_
    exact rt_z C hQ (by decide) (hP.sub (ws' := []) [] rfl) (hD.sub [] (by decide) rfl) hS ⟨Or.inr ⟨rfl, (by first | exact ⟨Int32.not_lt.mp c_2, Int32.not_lt.mp c_7⟩ | exact fun z => absurd z.1 (Int32.not_le.mpr c_2) | exact fun z => absurd z.2 (Int32.not_le.mpr c_7))⟩, rfl⟩ (by decide) (by decide) dX9_isWithin_15
  · -- not taken 2
    refine lv_iload_n hx hb dX9_isWithin_5 rfl (lv_at hl 0 rfl) ?_
    refine lv_iload_n hx hb dX9_isWithin_6 rfl (lv_at hl 2 rfl) ?_
    refine lv_icmp_gt (tgt := 14) hx hb dX9_isWithin_7 (by decide) (fun c_7 => ?_) (fun c_7 => ?_)
    · -- taken 7
      refine lv_iconst (v := 0) hx hb dX9_isWithin_14 (by decide) ?_
      exact rt_z C hQ (by decide) (hP.sub (ws' := []) [] rfl) (hD.sub [] (by decide) rfl) hS ⟨Or.inr ⟨rfl, (by first | exact ⟨Int32.not_lt.mp c_2, Int32.not_lt.mp c_7⟩ | exact fun z => absurd z.1 (Int32.not_le.mpr c_2) | exact fun z => absurd z.2 (Int32.not_le.mpr c_7))⟩, rfl⟩ (by decide) (by decide) dX9_isWithin_15
    · -- not taken 7
      refine lv_iconst (v := 1) hx hb dX9_isWithin_10 (by decide) ?_
      refine lv_goto (tgt := 15) hx hb dX9_isWithin_11 (by decide) ?_
      exact rt_z C hQ (by decide) (hP.sub (ws' := []) [] rfl) (hD.sub [] (by decide) rfl) hS ⟨Or.inl ⟨rfl, (by first | exact ⟨Int32.not_lt.mp c_2, Int32.not_lt.mp c_7⟩ | exact fun z => absurd z.1 (Int32.not_le.mpr c_2) | exact fun z => absurd z.2 (Int32.not_le.mpr c_7))⟩, rfl⟩ (by decide) (by decide) dX9_isWithin_15
set_option maxHeartbeats 4000000 in
set_option maxRecDepth 100000 in
theorem c_X9_isValue (l : Launch) (D : va_G) (cI cJ cZ : ClassId) (nu : Int32)  : Ctr l D cI cJ cZ yX9_isValue cX9_isValue 1 (some .boolean) ({ frames := 1, cells := 0, slots := 0, locals := 22 } : Room) [.int nu] [] (fun r W => ((r = some (.int 1) ∧ (rg nu 0 9 = true)) ∨ (r = some (.int 0) ∧ ¬ (rg nu 0 9 = true))) ∧ W = []) := by
  refine Ctr.start (by decide +kernel) (Nat.le_of_ble_eq_true rfl) ?_
  intro p e s m below meth c A Q ls H C hQ hA hP hD hS hl
  obtain ⟨hx, hb, hr, hml, hts, hown, hlk, hnm, hK, hN⟩ := id C
  have hl : lv_has ls 1 [(0, .int nu)] := hl
  refine lv_iload_n hx hb dX9_isValue_0 rfl (lv_at hl 0 rfl) ?_
  refine lv_iconst (v := 0) hx hb dX9_isValue_1 (by decide) ?_
  refine lv_bipush (v := 9) hx hb dX9_isValue_2 (by decide) ?_
  refine cl_s C (c_X9_isWithin l D cI cJ cZ nu 0 9) cd_X9_isWithin ml_X9_62 st_X9_isWithin in_X9 hd_X9_isWithin ⟨by decide, by decide⟩ hP hD hS hA (WR := []) [] [] rfl rfl rfl rfl (by decide) hl.1 rfl (Nat.le_of_ble_eq_true rfl) dX9_isValue_4 ⟨by decide, by decide⟩ (fun r W H locs hp hP hD hS => ?_)
  rcases hp with ⟨⟨rfl, hb_4⟩ | ⟨rfl, hb_4⟩, rfl⟩
  · -- yes 4
    refine W.eq (g2 := F0 m 7 ls [.int 1]) rfl ?_
    have hP : va_P D vwCl [] H := hP
    have hD : va_D A [] := hD
    exact rt_z C hQ (by decide) (hP.sub (ws' := []) [] rfl) (hD.sub [] (by decide) rfl) hS ⟨Or.inl ⟨rfl, (by first | exact rg_iff.mpr hb_4 | exact fun z => hb_4 (rg_iff.mp z))⟩, rfl⟩ (by decide) (by decide) dX9_isValue_7
  · -- no 4
    refine W.eq (g2 := F0 m 7 ls [.int 0]) rfl ?_
    have hP : va_P D vwCl [] H := hP
    have hD : va_D A [] := hD
    exact rt_z C hQ (by decide) (hP.sub (ws' := []) [] rfl) (hD.sub [] (by decide) rfl) hS ⟨Or.inr ⟨rfl, (by first | exact rg_iff.mpr hb_4 | exact fun z => hb_4 (rg_iff.mp z))⟩, rfl⟩ (by decide) (by decide) dX9_isValue_7
set_option maxHeartbeats 4000000 in
set_option maxRecDepth 100000 in
theorem c_X9_isText (l : Launch) (D : va_G) (cI cJ cZ : ClassId) (nu : Int32)  : Ctr l D cI cJ cZ yX9_isText cX9_isText 1 (some .boolean) ({ frames := 1, cells := 0, slots := 0, locals := 22 } : Room) [.int nu] [] (fun r W => ((r = some (.int 1) ∧ (rg nu 0 31 = true)) ∨ (r = some (.int 0) ∧ ¬ (rg nu 0 31 = true))) ∧ W = []) := by
  refine Ctr.start (by decide +kernel) (Nat.le_of_ble_eq_true rfl) ?_
  intro p e s m below meth c A Q ls H C hQ hA hP hD hS hl
  obtain ⟨hx, hb, hr, hml, hts, hown, hlk, hnm, hK, hN⟩ := id C
  have hl : lv_has ls 1 [(0, .int nu)] := hl
  refine lv_iload_n hx hb dX9_isText_0 rfl (lv_at hl 0 rfl) ?_
  refine lv_iconst (v := 0) hx hb dX9_isText_1 (by decide) ?_
  refine lv_bipush (v := 31) hx hb dX9_isText_2 (by decide) ?_
  refine cl_s C (c_X9_isWithin l D cI cJ cZ nu 0 31) cd_X9_isWithin ml_X9_62 st_X9_isWithin in_X9 hd_X9_isWithin ⟨by decide, by decide⟩ hP hD hS hA (WR := []) [] [] rfl rfl rfl rfl (by decide) hl.1 rfl (Nat.le_of_ble_eq_true rfl) dX9_isText_4 ⟨by decide, by decide⟩ (fun r W H locs hp hP hD hS => ?_)
  rcases hp with ⟨⟨rfl, hb_4⟩ | ⟨rfl, hb_4⟩, rfl⟩
  · -- yes 4
    refine W.eq (g2 := F0 m 7 ls [.int 1]) rfl ?_
    have hP : va_P D vwCl [] H := hP
    have hD : va_D A [] := hD
    exact rt_z C hQ (by decide) (hP.sub (ws' := []) [] rfl) (hD.sub [] (by decide) rfl) hS ⟨Or.inl ⟨rfl, (by first | exact rg_iff.mpr hb_4 | exact fun z => hb_4 (rg_iff.mp z))⟩, rfl⟩ (by decide) (by decide) dX9_isText_7
  · -- no 4
    refine W.eq (g2 := F0 m 7 ls [.int 0]) rfl ?_
    have hP : va_P D vwCl [] H := hP
    have hD : va_D A [] := hD
    exact rt_z C hQ (by decide) (hP.sub (ws' := []) [] rfl) (hD.sub [] (by decide) rfl) hS ⟨Or.inr ⟨rfl, (by first | exact rg_iff.mpr hb_4 | exact fun z => hb_4 (rg_iff.mp z))⟩, rfl⟩ (by decide) (by decide) dX9_isText_7
set_option maxHeartbeats 4000000 in
set_option maxRecDepth 100000 in
theorem c_X9_hasBit (l : Launch) (D : va_G) (cI cJ cZ : ClassId) (b : Int32) (k : Int32)  : Ctr l D cI cJ cZ yX9_hasBit cX9_hasBit 2 (some .boolean) ({ frames := 0, cells := 0, slots := 0, locals := 0 } : Room) [.int b, .int k] [] (fun r W => ((r = some (.int 1) ∧ (f_bit b k = 1)) ∨ (r = some (.int 0) ∧ ¬ (f_bit b k = 1))) ∧ W = []) := by
  refine Ctr.start (by decide +kernel) (Nat.le_of_ble_eq_true rfl) ?_
  intro p e s m below meth c A Q ls H C hQ hA hP hD hS hl
  obtain ⟨hx, hb, hr, hml, hts, hown, hlk, hnm, hK, hN⟩ := id C
  have hl : lv_has ls 2 [(0, .int b), (1, .int k)] := hl
  refine lv_iload_n hx hb dX9_hasBit_0 rfl (lv_at hl 0 rfl) ?_
  refine lv_iload_n hx hb dX9_hasBit_1 rfl (lv_at hl 1 rfl) ?_
  refine lv_iushr (v := (b.toUInt32 >>> (k.toUInt32 &&& Int32.toUInt32 31)).toInt32) hx hb dX9_hasBit_2 rfl ?_
  refine lv_iconst (v := 1) hx hb dX9_hasBit_3 (by decide) ?_
  refine lv_iand hx hb dX9_hasBit_4 ?_
  refine lv_iconst (v := 1) hx hb dX9_hasBit_5 (by decide) ?_
  refine lv_icmp_ne (tgt := 13) hx hb dX9_hasBit_6 (by decide) (fun c_6 => ?_) (fun c_6 => ?_)
  · -- taken 6
    refine lv_iconst (v := 0) hx hb dX9_hasBit_13 (by decide) ?_
    exact rt_z C hQ (by decide) (hP.sub (ws' := []) [] rfl) (hD.sub [] (by decide) rfl) hS ⟨Or.inr ⟨rfl, (by first | assumption | omega | simp_all)⟩, rfl⟩ (by decide) (by decide) dX9_hasBit_14
  · -- not taken 6
    refine lv_iconst (v := 1) hx hb dX9_hasBit_9 (by decide) ?_
    refine lv_goto (tgt := 14) hx hb dX9_hasBit_10 (by decide) ?_
    exact rt_z C hQ (by decide) (hP.sub (ws' := []) [] rfl) (hD.sub [] (by decide) rfl) hS ⟨Or.inl ⟨rfl, (by first | assumption | omega | simp_all)⟩, rfl⟩ (by decide) (by decide) dX9_hasBit_14
set_option maxHeartbeats 4000000 in
set_option maxRecDepth 100000 in
theorem c_X9_valueIn (l : Launch) (D : va_G) (cI cJ cZ : ClassId) (w : Int64) (k : Int32)  : Ctr l D cI cJ cZ yX9_valueIn cX9_valueIn 3 (some .int) ({ frames := 0, cells := 0, slots := 0, locals := 0 } : Room) [.long w, .int k] [] (fun r W => r = some (.int (f_valueIn w k)) ∧ W = []) := by
  refine Ctr.start (by decide +kernel) (Nat.le_of_ble_eq_true rfl) ?_
  intro p e s m below meth c A Q ls H C hQ hA hP hD hS hl
  obtain ⟨hx, hb, hr, hml, hts, hown, hlk, hnm, hK, hN⟩ := id C
  have hl : lv_has ls 3 [(0, .long w), (2, .int k)] := hl
  refine lv_lload_n hx hb dX9_valueIn_0 rfl (lv_at hl 0 rfl) ?_
  refine lv_iconst (v := 4) hx hb dX9_valueIn_1 (by decide) ?_
  refine lv_iload_n hx hb dX9_valueIn_2 rfl (lv_at hl 1 rfl) ?_
  refine lv_imul hx hb dX9_valueIn_3 ?_
  refine lv_lushr (v := (w.toUInt64 >>> ((4 * k).toInt64.toUInt64 &&& Int64.toUInt64 63)).toInt64) hx hb dX9_valueIn_4 rfl ?_
  refine lv_ldc2 (v := (15)) hx hb hown (hts _ cn_X9_235) dX9_valueIn_5 ?_
  refine lv_land hx hb dX9_valueIn_8 ?_
  refine lv_l2i (v := (((w.toUInt64 >>> ((4 * k).toInt64.toUInt64 &&& Int64.toUInt64 63)).toInt64) &&& 15).toInt32) hx hb dX9_valueIn_9 rfl ?_
  exact rt_i C hQ (hP.sub (ws' := []) [] rfl) (hD.sub [] (by decide) rfl) hS ⟨rfl, rfl⟩ (by decide) (by decide) dX9_valueIn_10
set_option maxHeartbeats 4000000 in
set_option maxRecDepth 100000 in
theorem c_X9_withValue (l : Launch) (D : va_G) (cI cJ cZ : ClassId) (w : Int64) (k : Int32) (v : Int32)  : Ctr l D cI cJ cZ yX9_withValue cX9_withValue 6 (some .long) ({ frames := 0, cells := 0, slots := 0, locals := 0 } : Room) [.long w, .int k, .int v] [] (fun r W => r = some (.long (f_withValue w k v)) ∧ W = []) := by
  refine Ctr.start (by decide +kernel) (Nat.le_of_ble_eq_true rfl) ?_
  intro p e s m below meth c A Q ls H C hQ hA hP hD hS hl
  obtain ⟨hx, hb, hr, hml, hts, hown, hlk, hnm, hK, hN⟩ := id C
  have hl : lv_has ls 6 [(0, .long w), (2, .int k), (3, .int v)] := hl
  refine lv_ldc2 (v := (15)) hx hb hown (hts _ cn_X9_235) dX9_withValue_0 ?_
  refine lv_iconst (v := 4) hx hb dX9_withValue_3 (by decide) ?_
  refine lv_iload_n hx hb dX9_withValue_4 rfl (lv_at hl 1 rfl) ?_
  refine lv_imul hx hb dX9_withValue_5 ?_
  refine lv_lshl (v := (15 : Int64) <<< ((4 * k).toInt64 &&& 63)) hx hb dX9_withValue_6 rfl ?_
  refine lv_ldc2 (v := (-1)) hx hb hown (hts _ cn_X9_237) dX9_withValue_7 ?_
  refine lv_lxor hx hb dX9_withValue_10 ?_
  refine lv_lstore (lv' := [(4, .long (((15 : Int64) <<< ((4 * k).toInt64 &&& 63)) ^^^ (-1))), (0, .long w), (2, .int k), (3, .int v)]) hx hb dX9_withValue_11 hl (by decide) rfl (fun ls hl => ?_)
  refine lv_lload_n hx hb dX9_withValue_13 rfl (lv_at hl 1 rfl) ?_
  refine lv_lload hx hb dX9_withValue_14 (lv_at hl 0 rfl) ?_
  refine lv_land hx hb dX9_withValue_16 ?_
  refine lv_iload_n hx hb dX9_withValue_17 rfl (lv_at hl 3 rfl) ?_
  refine lv_i2l (v := v.toInt64) hx hb dX9_withValue_18 rfl ?_
  refine lv_iconst (v := 4) hx hb dX9_withValue_19 (by decide) ?_
  refine lv_iload_n hx hb dX9_withValue_20 rfl (lv_at hl 2 rfl) ?_
  refine lv_imul hx hb dX9_withValue_21 ?_
  refine lv_lshl (v := v.toInt64 <<< ((4 * k).toInt64 &&& 63)) hx hb dX9_withValue_22 rfl ?_
  refine lv_lor hx hb dX9_withValue_23 ?_
  exact rt_l C hQ (hP.sub (ws' := []) [] rfl) (hD.sub [] (by decide) rfl) hS ⟨rfl, rfl⟩ (by decide) (by decide) dX9_withValue_24
