/-! Moves (written by s5.py) -/
def nF (g : Nat → Nat) : Nat → Int32 := fun k => nI (g k)
def updN (g : Nat → Nat) (k v : Nat) : Nat → Nat := fun j => if j = k then v else g j
theorem nF_upd (g : Nat → Nat) (k v : Nat) : upd (nF g) k (nI v) = nF (updN g k v) := by
  funext j
  simp only [upd, nF, updN]
  split <;> rfl
def f_isEffect (n : Nat) (k v : Int32) : Bool := if k = 0 then rg v 0 9 else if k = 1 then rg v (-9) 9 else if k = 2 then inR v n else if k = 3 then rg v 1 10 else false
def f_holds (x r v : Int32) : Bool := if r = 0 then decide (x = v) else if r = 1 then decide (x ≠ v) else if r = 2 then decide (x < v) else decide (v < x)
/-- the CONDITIONS at b, b + 1, .. hold, the first n of them; v: the values -/
def f_conds (v : Nat → Int32) (cl : Nat → Nat) (cr cv : Nat → Int32) (b : Nat) : Nat → Bool
  | 0 => true
  | j + 1 => f_conds v cl cr cv b j && f_holds (v (cl (b + j))) (cr (b + j)) (cv (b + j))
theorem f_conds_no {v : Nat → Int32} {cl : Nat → Nat} {cr cv : Nat → Int32} {b j : Nat} : ∀ n, j < n → ¬ f_holds (v (cl (b + j))) (cr (b + j)) (cv (b + j)) = true → ¬ f_conds v cl cr cv b n = true
  | 0, h, _ => absurd h (Nat.not_lt_zero _)
  | n + 1, h, hp => fun z => by
    simp only [f_conds, Bool.and_eq_true] at z
    rcases Nat.lt_or_ge j n with q | q
    · exact f_conds_no n q hp z.1
    · have : j = n := by omega
      subst this
      exact hp z.2
def dgs (w : Int64) : Nat → Int32 := fun k => f_valueIn w (nI k)
/-- rem of longs, as the machine has it -/
def lrem (a b : Int64) : Int64 := a - a / b * b
def irem (a b : Int32) : Int32 := a - a / b * b
def f_ch (v : Nat → Int32) : Nat → Int64
  | 0 => 0
  | k + 1 => lrem (131 * f_ch v k + (v k).toInt64 + 1) 2147483647
def f_chance (v : Nat → Int32) (n m : Nat) : Int32 := (lrem (131 * f_ch v n + (nI m).toInt64 + 1) 2147483647).toInt32
def f_floorMod (a b : Int32) : Int32 := if ¬ 0 ≤ (a ^^^ b) ∧ ¬ irem a b = 0 then irem a b + b else irem a b
def f_texts (mtx : Nat → Int32) : Nat → Int32
  | 0 => 0
  | k + 1 => if mtx k = -1 then f_texts mtx k else f_texts mtx k ||| (1 <<< (mtx k &&& 31))
/-- one EFFECT: the value that its CELL becomes (w: the WORLD as it is; v0: the values ahead of all) -/
def f_effv (w : Int64) (v0 : Nat → Int32) (n m : Nat) (k v : Int32) (c : Nat) : Int32 := if k = 0 then v else if k = 1 then f_floorMod (f_valueIn w (nI c) + v) 10 else if k = 2 then f_valueIn w v else if 0 < v then irem (f_chance v0 n m) v else 0
def f_beh (w : Int64) (n m : Nat) (ek : Nat → Int32) (el : Nat → Nat) (ev : Nat → Int32) (b : Nat) : Nat → Int64
  | 0 => w
  | j + 1 => f_withValue (f_beh w n m ek el ev b j) (nI (el (b + j))) (f_effv (f_beh w n m ek el ev b j) (dgs w) n m (ek (b + j)) (ev (b + j)) (el (b + j)))
set_option maxHeartbeats 4000000 in
set_option maxRecDepth 100000 in
theorem c_X4_init (l : Launch) (D : va_G) (cI cJ cZ : ClassId) (av : Nat)  : Ctr l D cI cJ cZ yX4_init cX4_init 1 none ({ frames := 1, cells := 10, slots := 960, locals := 12 } : Room) [.ref av] [(av, .inr (5, [.null, .null, .int 0, .null, .null, .null, .null, .null, .null, .null, .null]))] (fun r W => ∃ (q0 : Nat) (q1 : Nat) (q2 : Nat) (q3 : Nat) (q4 : Nat) (q5 : Nat) (q6 : Nat) (q7 : Nat) (q8 : Nat) (q9 : Nat), r = none ∧ W = [(av, .inr (5, [.ref q0, .ref q1, .int 0, .ref q2, .ref q3, .ref q4, .ref q5, .ref q6, .ref q7, .ref q8, .ref q9])), (q0, .inl (cI, 24, .inl (fun _ => 0))), (q1, .inl (cI, 24, .inl (fun _ => 0))), (q2, .inl (cI, 24, .inl (fun _ => 0))), (q3, .inl (cI, 144, .inl (fun _ => 0))), (q4, .inl (cI, 144, .inl (fun _ => 0))), (q5, .inl (cI, 144, .inl (fun _ => 0))), (q6, .inl (cI, 24, .inl (fun _ => 0))), (q7, .inl (cI, 144, .inl (fun _ => 0))), (q8, .inl (cI, 144, .inl (fun _ => 0))), (q9, .inl (cI, 144, .inl (fun _ => 0)))]) := by
  refine Ctr.start (by decide +kernel) (Nat.le_of_ble_eq_true rfl) ?_
  intro p e s m below meth c A Q ls H C hQ hA hP hD hS hl
  obtain ⟨hx, hb, hr, hml, hts, hown, hlk, hnm, hK, hN⟩ := id C
  have hl : lv_has ls 1 [(0, .ref av)] := hl
  refine lv_aload_n hx hb dX4_init_0 rfl (lv_at hl 0 rfl) ?_
  refine W.objInit hx hb hown (hts _ ml_X4_3) (hts _ im_objectInit) (hts _ cd_objectInit) rfl (by rw [hml]; exact hl.1) rfl dX4_init_1 (by decide) (Nat.le_of_ble_eq_true rfl) ?_
  refine W.eq (g2 := F0 m 4 ls []) rfl ?_
  refine lv_aload_n hx hb dX4_init_4 rfl (lv_at hl 0 rfl) ?_
  refine lv_bipush (v := 24) hx hb dX4_init_5 (by decide) ?_
  refine va_newa (atype := .int) (a0 := (24, .inl (fun _ => 0))) (N' := 24) hx hb (hts _ ac_int) rfl hK hP hD hS hA (fun _ => rfl) (by decide) (by decide +kernel) (by decide) (by decide) (by decide) dX4_init_7 (fun q_1 cA H hK' hP hD hS => ?_)
  obtain rfl : cI = cA := (va_sameI hK').symm
  have hP : va_P D vwCl [(av, .inr (5, [.null, .null, .int 0, .null, .null, .null, .null, .null, .null, .null, .null])), (q_1, .inl (cI, 24, .inl (fun _ => 0)))] H := hP
  have hD : va_D A [(av, .inr (5, [.null, .null, .int 0, .null, .null, .null, .null, .null, .null, .null, .null])), (q_1, .inl (cI, 24, .inl (fun _ => 0)))] := hD
  refine W.widen (k := 1) (n := 24) (by decide) (by decide) ?_
  refine r_putF (v := .ref q_1) C hP hD hS okX4 0 0 rfl (by decide) fl_X4_9 rfl rfl rfl rfl rfl rfl (Nat.le_of_ble_eq_true rfl) dX4_init_9 (fun H locs hP hD hS => ?_)
  have hP : va_P D vwCl [(av, .inr (5, [.ref q_1, .null, .int 0, .null, .null, .null, .null, .null, .null, .null, .null])), (q_1, .inl (cI, 24, .inl (fun _ => 0)))] H := hP
  have hD : va_D A [(av, .inr (5, [.ref q_1, .null, .int 0, .null, .null, .null, .null, .null, .null, .null, .null])), (q_1, .inl (cI, 24, .inl (fun _ => 0)))] := hD
  refine lv_aload_n hx hb dX4_init_12 rfl (lv_at hl 0 rfl) ?_
  refine lv_bipush (v := 24) hx hb dX4_init_13 (by decide) ?_
  refine va_newa (atype := .int) (a0 := (24, .inl (fun _ => 0))) (N' := 24) hx hb (hts _ ac_int) rfl hK hP hD hS hA (fun _ => rfl) (by decide) (by decide +kernel) (by decide) (by decide) (by decide) dX4_init_15 (fun q_2 cA H hK' hP hD hS => ?_)
  obtain rfl : cI = cA := (va_sameI hK').symm
  have hP : va_P D vwCl [(av, .inr (5, [.ref q_1, .null, .int 0, .null, .null, .null, .null, .null, .null, .null, .null])), (q_1, .inl (cI, 24, .inl (fun _ => 0))), (q_2, .inl (cI, 24, .inl (fun _ => 0)))] H := hP
  have hD : va_D A [(av, .inr (5, [.ref q_1, .null, .int 0, .null, .null, .null, .null, .null, .null, .null, .null])), (q_1, .inl (cI, 24, .inl (fun _ => 0))), (q_2, .inl (cI, 24, .inl (fun _ => 0)))] := hD
  refine W.widen (k := 2) (n := 48) (by decide) (by decide) ?_
  refine r_putF (v := .ref q_2) C hP hD hS okX4 0 1 rfl (by decide) fl_X4_15 rfl rfl rfl rfl rfl rfl (Nat.le_of_ble_eq_true rfl) dX4_init_17 (fun H locs hP hD hS => ?_)
  have hP : va_P D vwCl [(av, .inr (5, [.ref q_1, .ref q_2, .int 0, .null, .null, .null, .null, .null, .null, .null, .null])), (q_1, .inl (cI, 24, .inl (fun _ => 0))), (q_2, .inl (cI, 24, .inl (fun _ => 0)))] H := hP
  have hD : va_D A [(av, .inr (5, [.ref q_1, .ref q_2, .int 0, .null, .null, .null, .null, .null, .null, .null, .null])), (q_1, .inl (cI, 24, .inl (fun _ => 0))), (q_2, .inl (cI, 24, .inl (fun _ => 0)))] := hD
  refine lv_aload_n hx hb dX4_init_20 rfl (lv_at hl 0 rfl) ?_
  refine lv_bipush (v := 24) hx hb dX4_init_21 (by decide) ?_
  refine va_newa (atype := .int) (a0 := (24, .inl (fun _ => 0))) (N' := 24) hx hb (hts _ ac_int) rfl hK hP hD hS hA (fun _ => rfl) (by decide) (by decide +kernel) (by decide) (by decide) (by decide) dX4_init_23 (fun q_3 cA H hK' hP hD hS => ?_)
  obtain rfl : cI = cA := (va_sameI hK').symm
  have hP : va_P D vwCl [(av, .inr (5, [.ref q_1, .ref q_2, .int 0, .null, .null, .null, .null, .null, .null, .null, .null])), (q_1, .inl (cI, 24, .inl (fun _ => 0))), (q_2, .inl (cI, 24, .inl (fun _ => 0))), (q_3, .inl (cI, 24, .inl (fun _ => 0)))] H := hP
  have hD : va_D A [(av, .inr (5, [.ref q_1, .ref q_2, .int 0, .null, .null, .null, .null, .null, .null, .null, .null])), (q_1, .inl (cI, 24, .inl (fun _ => 0))), (q_2, .inl (cI, 24, .inl (fun _ => 0))), (q_3, .inl (cI, 24, .inl (fun _ => 0)))] := hD
  refine W.widen (k := 3) (n := 72) (by decide) (by decide) ?_
  refine r_putF (v := .ref q_3) C hP hD hS okX4 0 3 rfl (by decide) fl_X4_18 rfl rfl rfl rfl rfl rfl (Nat.le_of_ble_eq_true rfl) dX4_init_25 (fun H locs hP hD hS => ?_)
  have hP : va_P D vwCl [(av, .inr (5, [.ref q_1, .ref q_2, .int 0, .ref q_3, .null, .null, .null, .null, .null, .null, .null])), (q_1, .inl (cI, 24, .inl (fun _ => 0))), (q_2, .inl (cI, 24, .inl (fun _ => 0))), (q_3, .inl (cI, 24, .inl (fun _ => 0)))] H := hP
  have hD : va_D A [(av, .inr (5, [.ref q_1, .ref q_2, .int 0, .ref q_3, .null, .null, .null, .null, .null, .null, .null])), (q_1, .inl (cI, 24, .inl (fun _ => 0))), (q_2, .inl (cI, 24, .inl (fun _ => 0))), (q_3, .inl (cI, 24, .inl (fun _ => 0)))] := hD
  refine lv_aload_n hx hb dX4_init_28 rfl (lv_at hl 0 rfl) ?_
  refine lv_sipush (v := 144) hx hb dX4_init_29 (by decide) ?_
  refine va_newa (atype := .int) (a0 := (144, .inl (fun _ => 0))) (N' := 144) hx hb (hts _ ac_int) rfl hK hP hD hS hA (fun _ => rfl) (by decide) (by decide +kernel) (by decide) (by decide) (by decide) dX4_init_32 (fun q_4 cA H hK' hP hD hS => ?_)
  obtain rfl : cI = cA := (va_sameI hK').symm
  have hP : va_P D vwCl [(av, .inr (5, [.ref q_1, .ref q_2, .int 0, .ref q_3, .null, .null, .null, .null, .null, .null, .null])), (q_1, .inl (cI, 24, .inl (fun _ => 0))), (q_2, .inl (cI, 24, .inl (fun _ => 0))), (q_3, .inl (cI, 24, .inl (fun _ => 0))), (q_4, .inl (cI, 144, .inl (fun _ => 0)))] H := hP
  have hD : va_D A [(av, .inr (5, [.ref q_1, .ref q_2, .int 0, .ref q_3, .null, .null, .null, .null, .null, .null, .null])), (q_1, .inl (cI, 24, .inl (fun _ => 0))), (q_2, .inl (cI, 24, .inl (fun _ => 0))), (q_3, .inl (cI, 24, .inl (fun _ => 0))), (q_4, .inl (cI, 144, .inl (fun _ => 0)))] := hD
  refine W.widen (k := 4) (n := 216) (by decide) (by decide) ?_
  refine r_putF (v := .ref q_4) C hP hD hS okX4 0 4 rfl (by decide) fl_X4_21 rfl rfl rfl rfl rfl rfl (Nat.le_of_ble_eq_true rfl) dX4_init_34 (fun H locs hP hD hS => ?_)
  have hP : va_P D vwCl [(av, .inr (5, [.ref q_1, .ref q_2, .int 0, .ref q_3, .ref q_4, .null, .null, .null, .null, .null, .null])), (q_1, .inl (cI, 24, .inl (fun _ => 0))), (q_2, .inl (cI, 24, .inl (fun _ => 0))), (q_3, .inl (cI, 24, .inl (fun _ => 0))), (q_4, .inl (cI, 144, .inl (fun _ => 0)))] H := hP
  have hD : va_D A [(av, .inr (5, [.ref q_1, .ref q_2, .int 0, .ref q_3, .ref q_4, .null, .null, .null, .null, .null, .null])), (q_1, .inl (cI, 24, .inl (fun _ => 0))), (q_2, .inl (cI, 24, .inl (fun _ => 0))), (q_3, .inl (cI, 24, .inl (fun _ => 0))), (q_4, .inl (cI, 144, .inl (fun _ => 0)))] := hD
  refine lv_aload_n hx hb dX4_init_37 rfl (lv_at hl 0 rfl) ?_
  refine lv_sipush (v := 144) hx hb dX4_init_38 (by decide) ?_
  refine va_newa (atype := .int) (a0 := (144, .inl (fun _ => 0))) (N' := 144) hx hb (hts _ ac_int) rfl hK hP hD hS hA (fun _ => rfl) (by decide) (by decide +kernel) (by decide) (by decide) (by decide) dX4_init_41 (fun q_5 cA H hK' hP hD hS => ?_)
  obtain rfl : cI = cA := (va_sameI hK').symm
  have hP : va_P D vwCl [(av, .inr (5, [.ref q_1, .ref q_2, .int 0, .ref q_3, .ref q_4, .null, .null, .null, .null, .null, .null])), (q_1, .inl (cI, 24, .inl (fun _ => 0))), (q_2, .inl (cI, 24, .inl (fun _ => 0))), (q_3, .inl (cI, 24, .inl (fun _ => 0))), (q_4, .inl (cI, 144, .inl (fun _ => 0))), (q_5, .inl (cI, 144, .inl (fun _ => 0)))] H := hP
  have hD : va_D A [(av, .inr (5, [.ref q_1, .ref q_2, .int 0, .ref q_3, .ref q_4, .null, .null, .null, .null, .null, .null])), (q_1, .inl (cI, 24, .inl (fun _ => 0))), (q_2, .inl (cI, 24, .inl (fun _ => 0))), (q_3, .inl (cI, 24, .inl (fun _ => 0))), (q_4, .inl (cI, 144, .inl (fun _ => 0))), (q_5, .inl (cI, 144, .inl (fun _ => 0)))] := hD
  refine W.widen (k := 5) (n := 360) (by decide) (by decide) ?_
  refine r_putF (v := .ref q_5) C hP hD hS okX4 0 5 rfl (by decide) fl_X4_24 rfl rfl rfl rfl rfl rfl (Nat.le_of_ble_eq_true rfl) dX4_init_43 (fun H locs hP hD hS => ?_)
  have hP : va_P D vwCl [(av, .inr (5, [.ref q_1, .ref q_2, .int 0, .ref q_3, .ref q_4, .ref q_5, .null, .null, .null, .null, .null])), (q_1, .inl (cI, 24, .inl (fun _ => 0))), (q_2, .inl (cI, 24, .inl (fun _ => 0))), (q_3, .inl (cI, 24, .inl (fun _ => 0))), (q_4, .inl (cI, 144, .inl (fun _ => 0))), (q_5, .inl (cI, 144, .inl (fun _ => 0)))] H := hP
  have hD : va_D A [(av, .inr (5, [.ref q_1, .ref q_2, .int 0, .ref q_3, .ref q_4, .ref q_5, .null, .null, .null, .null, .null])), (q_1, .inl (cI, 24, .inl (fun _ => 0))), (q_2, .inl (cI, 24, .inl (fun _ => 0))), (q_3, .inl (cI, 24, .inl (fun _ => 0))), (q_4, .inl (cI, 144, .inl (fun _ => 0))), (q_5, .inl (cI, 144, .inl (fun _ => 0)))] := hD
  refine lv_aload_n hx hb dX4_init_46 rfl (lv_at hl 0 rfl) ?_
  refine lv_sipush (v := 144) hx hb dX4_init_47 (by decide) ?_
  refine va_newa (atype := .int) (a0 := (144, .inl (fun _ => 0))) (N' := 144) hx hb (hts _ ac_int) rfl hK hP hD hS hA (fun _ => rfl) (by decide) (by decide +kernel) (by decide) (by decide) (by decide) dX4_init_50 (fun q_6 cA H hK' hP hD hS => ?_)
  obtain rfl : cI = cA := (va_sameI hK').symm
  have hP : va_P D vwCl [(av, .inr (5, [.ref q_1, .ref q_2, .int 0, .ref q_3, .ref q_4, .ref q_5, .null, .null, .null, .null, .null])), (q_1, .inl (cI, 24, .inl (fun _ => 0))), (q_2, .inl (cI, 24, .inl (fun _ => 0))), (q_3, .inl (cI, 24, .inl (fun _ => 0))), (q_4, .inl (cI, 144, .inl (fun _ => 0))), (q_5, .inl (cI, 144, .inl (fun _ => 0))), (q_6, .inl (cI, 144, .inl (fun _ => 0)))] H := hP
  have hD : va_D A [(av, .inr (5, [.ref q_1, .ref q_2, .int 0, .ref q_3, .ref q_4, .ref q_5, .null, .null, .null, .null, .null])), (q_1, .inl (cI, 24, .inl (fun _ => 0))), (q_2, .inl (cI, 24, .inl (fun _ => 0))), (q_3, .inl (cI, 24, .inl (fun _ => 0))), (q_4, .inl (cI, 144, .inl (fun _ => 0))), (q_5, .inl (cI, 144, .inl (fun _ => 0))), (q_6, .inl (cI, 144, .inl (fun _ => 0)))] := hD
  refine W.widen (k := 6) (n := 504) (by decide) (by decide) ?_
  refine r_putF (v := .ref q_6) C hP hD hS okX4 0 6 rfl (by decide) fl_X4_27 rfl rfl rfl rfl rfl rfl (Nat.le_of_ble_eq_true rfl) dX4_init_52 (fun H locs hP hD hS => ?_)
  have hP : va_P D vwCl [(av, .inr (5, [.ref q_1, .ref q_2, .int 0, .ref q_3, .ref q_4, .ref q_5, .ref q_6, .null, .null, .null, .null])), (q_1, .inl (cI, 24, .inl (fun _ => 0))), (q_2, .inl (cI, 24, .inl (fun _ => 0))), (q_3, .inl (cI, 24, .inl (fun _ => 0))), (q_4, .inl (cI, 144, .inl (fun _ => 0))), (q_5, .inl (cI, 144, .inl (fun _ => 0))), (q_6, .inl (cI, 144, .inl (fun _ => 0)))] H := hP
  have hD : va_D A [(av, .inr (5, [.ref q_1, .ref q_2, .int 0, .ref q_3, .ref q_4, .ref q_5, .ref q_6, .null, .null, .null, .null])), (q_1, .inl (cI, 24, .inl (fun _ => 0))), (q_2, .inl (cI, 24, .inl (fun _ => 0))), (q_3, .inl (cI, 24, .inl (fun _ => 0))), (q_4, .inl (cI, 144, .inl (fun _ => 0))), (q_5, .inl (cI, 144, .inl (fun _ => 0))), (q_6, .inl (cI, 144, .inl (fun _ => 0)))] := hD
  refine lv_aload_n hx hb dX4_init_55 rfl (lv_at hl 0 rfl) ?_
  refine lv_bipush (v := 24) hx hb dX4_init_56 (by decide) ?_
  refine va_newa (atype := .int) (a0 := (24, .inl (fun _ => 0))) (N' := 24) hx hb (hts _ ac_int) rfl hK hP hD hS hA (fun _ => rfl) (by decide) (by decide +kernel) (by decide) (by decide) (by decide) dX4_init_58 (fun q_7 cA H hK' hP hD hS => ?_)
  obtain rfl : cI = cA := (va_sameI hK').symm
  have hP : va_P D vwCl [(av, .inr (5, [.ref q_1, .ref q_2, .int 0, .ref q_3, .ref q_4, .ref q_5, .ref q_6, .null, .null, .null, .null])), (q_1, .inl (cI, 24, .inl (fun _ => 0))), (q_2, .inl (cI, 24, .inl (fun _ => 0))), (q_3, .inl (cI, 24, .inl (fun _ => 0))), (q_4, .inl (cI, 144, .inl (fun _ => 0))), (q_5, .inl (cI, 144, .inl (fun _ => 0))), (q_6, .inl (cI, 144, .inl (fun _ => 0))), (q_7, .inl (cI, 24, .inl (fun _ => 0)))] H := hP
  have hD : va_D A [(av, .inr (5, [.ref q_1, .ref q_2, .int 0, .ref q_3, .ref q_4, .ref q_5, .ref q_6, .null, .null, .null, .null])), (q_1, .inl (cI, 24, .inl (fun _ => 0))), (q_2, .inl (cI, 24, .inl (fun _ => 0))), (q_3, .inl (cI, 24, .inl (fun _ => 0))), (q_4, .inl (cI, 144, .inl (fun _ => 0))), (q_5, .inl (cI, 144, .inl (fun _ => 0))), (q_6, .inl (cI, 144, .inl (fun _ => 0))), (q_7, .inl (cI, 24, .inl (fun _ => 0)))] := hD
  refine W.widen (k := 7) (n := 528) (by decide) (by decide) ?_
  refine r_putF (v := .ref q_7) C hP hD hS okX4 0 7 rfl (by decide) fl_X4_30 rfl rfl rfl rfl rfl rfl (Nat.le_of_ble_eq_true rfl) dX4_init_60 (fun H locs hP hD hS => ?_)
  have hP : va_P D vwCl [(av, .inr (5, [.ref q_1, .ref q_2, .int 0, .ref q_3, .ref q_4, .ref q_5, .ref q_6, .ref q_7, .null, .null, .null])), (q_1, .inl (cI, 24, .inl (fun _ => 0))), (q_2, .inl (cI, 24, .inl (fun _ => 0))), (q_3, .inl (cI, 24, .inl (fun _ => 0))), (q_4, .inl (cI, 144, .inl (fun _ => 0))), (q_5, .inl (cI, 144, .inl (fun _ => 0))), (q_6, .inl (cI, 144, .inl (fun _ => 0))), (q_7, .inl (cI, 24, .inl (fun _ => 0)))] H := hP
  have hD : va_D A [(av, .inr (5, [.ref q_1, .ref q_2, .int 0, .ref q_3, .ref q_4, .ref q_5, .ref q_6, .ref q_7, .null, .null, .null])), (q_1, .inl (cI, 24, .inl (fun _ => 0))), (q_2, .inl (cI, 24, .inl (fun _ => 0))), (q_3, .inl (cI, 24, .inl (fun _ => 0))), (q_4, .inl (cI, 144, .inl (fun _ => 0))), (q_5, .inl (cI, 144, .inl (fun _ => 0))), (q_6, .inl (cI, 144, .inl (fun _ => 0))), (q_7, .inl (cI, 24, .inl (fun _ => 0)))] := hD
  refine lv_aload_n hx hb dX4_init_63 rfl (lv_at hl 0 rfl) ?_
  refine lv_sipush (v := 144) hx hb dX4_init_64 (by decide) ?_
  refine va_newa (atype := .int) (a0 := (144, .inl (fun _ => 0))) (N' := 144) hx hb (hts _ ac_int) rfl hK hP hD hS hA (fun _ => rfl) (by decide) (by decide +kernel) (by decide) (by decide) (by decide) dX4_init_67 (fun q_8 cA H hK' hP hD hS => ?_)
  obtain rfl : cI = cA := (va_sameI hK').symm
  have hP : va_P D vwCl [(av, .inr (5, [.ref q_1, .ref q_2, .int 0, .ref q_3, .ref q_4, .ref q_5, .ref q_6, .ref q_7, .null, .null, .null])), (q_1, .inl (cI, 24, .inl (fun _ => 0))), (q_2, .inl (cI, 24, .inl (fun _ => 0))), (q_3, .inl (cI, 24, .inl (fun _ => 0))), (q_4, .inl (cI, 144, .inl (fun _ => 0))), (q_5, .inl (cI, 144, .inl (fun _ => 0))), (q_6, .inl (cI, 144, .inl (fun _ => 0))), (q_7, .inl (cI, 24, .inl (fun _ => 0))), (q_8, .inl (cI, 144, .inl (fun _ => 0)))] H := hP
  have hD : va_D A [(av, .inr (5, [.ref q_1, .ref q_2, .int 0, .ref q_3, .ref q_4, .ref q_5, .ref q_6, .ref q_7, .null, .null, .null])), (q_1, .inl (cI, 24, .inl (fun _ => 0))), (q_2, .inl (cI, 24, .inl (fun _ => 0))), (q_3, .inl (cI, 24, .inl (fun _ => 0))), (q_4, .inl (cI, 144, .inl (fun _ => 0))), (q_5, .inl (cI, 144, .inl (fun _ => 0))), (q_6, .inl (cI, 144, .inl (fun _ => 0))), (q_7, .inl (cI, 24, .inl (fun _ => 0))), (q_8, .inl (cI, 144, .inl (fun _ => 0)))] := hD
  refine W.widen (k := 8) (n := 672) (by decide) (by decide) ?_
  refine r_putF (v := .ref q_8) C hP hD hS okX4 0 8 rfl (by decide) fl_X4_33 rfl rfl rfl rfl rfl rfl (Nat.le_of_ble_eq_true rfl) dX4_init_69 (fun H locs hP hD hS => ?_)
  have hP : va_P D vwCl [(av, .inr (5, [.ref q_1, .ref q_2, .int 0, .ref q_3, .ref q_4, .ref q_5, .ref q_6, .ref q_7, .ref q_8, .null, .null])), (q_1, .inl (cI, 24, .inl (fun _ => 0))), (q_2, .inl (cI, 24, .inl (fun _ => 0))), (q_3, .inl (cI, 24, .inl (fun _ => 0))), (q_4, .inl (cI, 144, .inl (fun _ => 0))), (q_5, .inl (cI, 144, .inl (fun _ => 0))), (q_6, .inl (cI, 144, .inl (fun _ => 0))), (q_7, .inl (cI, 24, .inl (fun _ => 0))), (q_8, .inl (cI, 144, .inl (fun _ => 0)))] H := hP
  have hD : va_D A [(av, .inr (5, [.ref q_1, .ref q_2, .int 0, .ref q_3, .ref q_4, .ref q_5, .ref q_6, .ref q_7, .ref q_8, .null, .null])), (q_1, .inl (cI, 24, .inl (fun _ => 0))), (q_2, .inl (cI, 24, .inl (fun _ => 0))), (q_3, .inl (cI, 24, .inl (fun _ => 0))), (q_4, .inl (cI, 144, .inl (fun _ => 0))), (q_5, .inl (cI, 144, .inl (fun _ => 0))), (q_6, .inl (cI, 144, .inl (fun _ => 0))), (q_7, .inl (cI, 24, .inl (fun _ => 0))), (q_8, .inl (cI, 144, .inl (fun _ => 0)))] := hD
  refine lv_aload_n hx hb dX4_init_72 rfl (lv_at hl 0 rfl) ?_
  refine lv_sipush (v := 144) hx hb dX4_init_73 (by decide) ?_
  refine va_newa (atype := .int) (a0 := (144, .inl (fun _ => 0))) (N' := 144) hx hb (hts _ ac_int) rfl hK hP hD hS hA (fun _ => rfl) (by decide) (by decide +kernel) (by decide) (by decide) (by decide) dX4_init_76 (fun q_9 cA H hK' hP hD hS => ?_)
  obtain rfl : cI = cA := (va_sameI hK').symm
  have hP : va_P D vwCl [(av, .inr (5, [.ref q_1, .ref q_2, .int 0, .ref q_3, .ref q_4, .ref q_5, .ref q_6, .ref q_7, .ref q_8, .null, .null])), (q_1, .inl (cI, 24, .inl (fun _ => 0))), (q_2, .inl (cI, 24, .inl (fun _ => 0))), (q_3, .inl (cI, 24, .inl (fun _ => 0))), (q_4, .inl (cI, 144, .inl (fun _ => 0))), (q_5, .inl (cI, 144, .inl (fun _ => 0))), (q_6, .inl (cI, 144, .inl (fun _ => 0))), (q_7, .inl (cI, 24, .inl (fun _ => 0))), (q_8, .inl (cI, 144, .inl (fun _ => 0))), (q_9, .inl (cI, 144, .inl (fun _ => 0)))] H := hP
  have hD : va_D A [(av, .inr (5, [.ref q_1, .ref q_2, .int 0, .ref q_3, .ref q_4, .ref q_5, .ref q_6, .ref q_7, .ref q_8, .null, .null])), (q_1, .inl (cI, 24, .inl (fun _ => 0))), (q_2, .inl (cI, 24, .inl (fun _ => 0))), (q_3, .inl (cI, 24, .inl (fun _ => 0))), (q_4, .inl (cI, 144, .inl (fun _ => 0))), (q_5, .inl (cI, 144, .inl (fun _ => 0))), (q_6, .inl (cI, 144, .inl (fun _ => 0))), (q_7, .inl (cI, 24, .inl (fun _ => 0))), (q_8, .inl (cI, 144, .inl (fun _ => 0))), (q_9, .inl (cI, 144, .inl (fun _ => 0)))] := hD
  refine W.widen (k := 9) (n := 816) (by decide) (by decide) ?_
  refine r_putF (v := .ref q_9) C hP hD hS okX4 0 9 rfl (by decide) fl_X4_36 rfl rfl rfl rfl rfl rfl (Nat.le_of_ble_eq_true rfl) dX4_init_78 (fun H locs hP hD hS => ?_)
  have hP : va_P D vwCl [(av, .inr (5, [.ref q_1, .ref q_2, .int 0, .ref q_3, .ref q_4, .ref q_5, .ref q_6, .ref q_7, .ref q_8, .ref q_9, .null])), (q_1, .inl (cI, 24, .inl (fun _ => 0))), (q_2, .inl (cI, 24, .inl (fun _ => 0))), (q_3, .inl (cI, 24, .inl (fun _ => 0))), (q_4, .inl (cI, 144, .inl (fun _ => 0))), (q_5, .inl (cI, 144, .inl (fun _ => 0))), (q_6, .inl (cI, 144, .inl (fun _ => 0))), (q_7, .inl (cI, 24, .inl (fun _ => 0))), (q_8, .inl (cI, 144, .inl (fun _ => 0))), (q_9, .inl (cI, 144, .inl (fun _ => 0)))] H := hP
  have hD : va_D A [(av, .inr (5, [.ref q_1, .ref q_2, .int 0, .ref q_3, .ref q_4, .ref q_5, .ref q_6, .ref q_7, .ref q_8, .ref q_9, .null])), (q_1, .inl (cI, 24, .inl (fun _ => 0))), (q_2, .inl (cI, 24, .inl (fun _ => 0))), (q_3, .inl (cI, 24, .inl (fun _ => 0))), (q_4, .inl (cI, 144, .inl (fun _ => 0))), (q_5, .inl (cI, 144, .inl (fun _ => 0))), (q_6, .inl (cI, 144, .inl (fun _ => 0))), (q_7, .inl (cI, 24, .inl (fun _ => 0))), (q_8, .inl (cI, 144, .inl (fun _ => 0))), (q_9, .inl (cI, 144, .inl (fun _ => 0)))] := hD
  refine lv_aload_n hx hb dX4_init_81 rfl (lv_at hl 0 rfl) ?_
  refine lv_sipush (v := 144) hx hb dX4_init_82 (by decide) ?_
  refine va_newa (atype := .int) (a0 := (144, .inl (fun _ => 0))) (N' := 144) hx hb (hts _ ac_int) rfl hK hP hD hS hA (fun _ => rfl) (by decide) (by decide +kernel) (by decide) (by decide) (by decide) dX4_init_85 (fun q_10 cA H hK' hP hD hS => ?_)
  obtain rfl : cI = cA := (va_sameI hK').symm
  have hP : va_P D vwCl [(av, .inr (5, [.ref q_1, .ref q_2, .int 0, .ref q_3, .ref q_4, .ref q_5, .ref q_6, .ref q_7, .ref q_8, .ref q_9, .null])), (q_1, .inl (cI, 24, .inl (fun _ => 0))), (q_2, .inl (cI, 24, .inl (fun _ => 0))), (q_3, .inl (cI, 24, .inl (fun _ => 0))), (q_4, .inl (cI, 144, .inl (fun _ => 0))), (q_5, .inl (cI, 144, .inl (fun _ => 0))), (q_6, .inl (cI, 144, .inl (fun _ => 0))), (q_7, .inl (cI, 24, .inl (fun _ => 0))), (q_8, .inl (cI, 144, .inl (fun _ => 0))), (q_9, .inl (cI, 144, .inl (fun _ => 0))), (q_10, .inl (cI, 144, .inl (fun _ => 0)))] H := hP
  have hD : va_D A [(av, .inr (5, [.ref q_1, .ref q_2, .int 0, .ref q_3, .ref q_4, .ref q_5, .ref q_6, .ref q_7, .ref q_8, .ref q_9, .null])), (q_1, .inl (cI, 24, .inl (fun _ => 0))), (q_2, .inl (cI, 24, .inl (fun _ => 0))), (q_3, .inl (cI, 24, .inl (fun _ => 0))), (q_4, .inl (cI, 144, .inl (fun _ => 0))), (q_5, .inl (cI, 144, .inl (fun _ => 0))), (q_6, .inl (cI, 144, .inl (fun _ => 0))), (q_7, .inl (cI, 24, .inl (fun _ => 0))), (q_8, .inl (cI, 144, .inl (fun _ => 0))), (q_9, .inl (cI, 144, .inl (fun _ => 0))), (q_10, .inl (cI, 144, .inl (fun _ => 0)))] := hD
  refine W.widen (k := 10) (n := 960) (by decide) (by decide) ?_
  refine r_putF (v := .ref q_10) C hP hD hS okX4 0 10 rfl (by decide) fl_X4_39 rfl rfl rfl rfl rfl rfl (Nat.le_of_ble_eq_true rfl) dX4_init_87 (fun H locs hP hD hS => ?_)
  have hP : va_P D vwCl [(av, .inr (5, [.ref q_1, .ref q_2, .int 0, .ref q_3, .ref q_4, .ref q_5, .ref q_6, .ref q_7, .ref q_8, .ref q_9, .ref q_10])), (q_1, .inl (cI, 24, .inl (fun _ => 0))), (q_2, .inl (cI, 24, .inl (fun _ => 0))), (q_3, .inl (cI, 24, .inl (fun _ => 0))), (q_4, .inl (cI, 144, .inl (fun _ => 0))), (q_5, .inl (cI, 144, .inl (fun _ => 0))), (q_6, .inl (cI, 144, .inl (fun _ => 0))), (q_7, .inl (cI, 24, .inl (fun _ => 0))), (q_8, .inl (cI, 144, .inl (fun _ => 0))), (q_9, .inl (cI, 144, .inl (fun _ => 0))), (q_10, .inl (cI, 144, .inl (fun _ => 0)))] H := hP
  have hD : va_D A [(av, .inr (5, [.ref q_1, .ref q_2, .int 0, .ref q_3, .ref q_4, .ref q_5, .ref q_6, .ref q_7, .ref q_8, .ref q_9, .ref q_10])), (q_1, .inl (cI, 24, .inl (fun _ => 0))), (q_2, .inl (cI, 24, .inl (fun _ => 0))), (q_3, .inl (cI, 24, .inl (fun _ => 0))), (q_4, .inl (cI, 144, .inl (fun _ => 0))), (q_5, .inl (cI, 144, .inl (fun _ => 0))), (q_6, .inl (cI, 144, .inl (fun _ => 0))), (q_7, .inl (cI, 24, .inl (fun _ => 0))), (q_8, .inl (cI, 144, .inl (fun _ => 0))), (q_9, .inl (cI, 144, .inl (fun _ => 0))), (q_10, .inl (cI, 144, .inl (fun _ => 0)))] := hD
  exact rt_v C hQ (hP.sub (ws' := [(av, .inr (5, [.ref q_1, .ref q_2, .int 0, .ref q_3, .ref q_4, .ref q_5, .ref q_6, .ref q_7, .ref q_8, .ref q_9, .ref q_10])), (q_1, .inl (cI, 24, .inl (fun _ => 0))), (q_2, .inl (cI, 24, .inl (fun _ => 0))), (q_3, .inl (cI, 24, .inl (fun _ => 0))), (q_4, .inl (cI, 144, .inl (fun _ => 0))), (q_5, .inl (cI, 144, .inl (fun _ => 0))), (q_6, .inl (cI, 144, .inl (fun _ => 0))), (q_7, .inl (cI, 24, .inl (fun _ => 0))), (q_8, .inl (cI, 144, .inl (fun _ => 0))), (q_9, .inl (cI, 144, .inl (fun _ => 0))), (q_10, .inl (cI, 144, .inl (fun _ => 0)))]) [0, 1, 2, 3, 4, 5, 6, 7, 8, 9, 10] rfl) (hD.sub [0, 1, 2, 3, 4, 5, 6, 7, 8, 9, 10] (by decide) rfl) hS ⟨q_1, q_2, q_3, q_4, q_5, q_6, q_7, q_8, q_9, q_10, rfl, rfl⟩ (by decide) (by decide) dX4_init_90
