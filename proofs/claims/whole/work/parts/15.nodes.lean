/-! Nodes (written by s7.py) -/
def f_asked (w : Int64) (what : Int32) (n : Nat) : Int32 := if 10 ≤ what ∧ what < nI (10 + n) then f_valueIn w (what - 10) else -1
def f_alike (nw : Nat → Int64) (ne : Nat → Int32) (ncl w : Int64) (en : Int32) (j : Nat) : Bool := decide (((nw j ^^^ w) &&& ncl) = 0) && decide (ne j = en)
def f_hashN (x : Int64) : Nat := x.toBitVec.toNat / 2 ^ 52
theorem f_hashN_lt (x : Int64) : f_hashN x < 4096 := by
  have := x.toBitVec.isLt
  simp only [f_hashN]
  omega
theorem f_hashN_eq (x : Int64) : ((x.toUInt64 >>> ((52 : Int32).toInt64.toUInt64 &&& Int64.toUInt64 63)).toInt64).toInt32 = nI (f_hashN x) := by
  obtain ⟨n, hn, rfl⟩ := wb_of x
  have h := wb_shr (n := n) (k := 52) hn (by decide)
  rw [show (52 : Int32) = nI 52 from rfl, h, lN_i, f_hashN, wb_tn hn]
def f_key (w ncl : Int64) (en : Int32) : Int64 := (w &&& ncl) ||| (en.toInt64 <<< ((40 : Int32).toInt64 &&& 63))
def f_hash (w ncl : Int64) (en : Int32) : Nat := f_hashN (f_key w ncl en * (-7046029254386353131))
def f_probe (al : Nat → Bool) (sl : Nat → Int32) : Nat → Nat → Nat
  | 0, s => s
  | k + 1, s => if sl s = -1 then s else if al (sl s).toNatClampNeg = true then s else f_probe al sl k ((s + 1) % 4096)
theorem f_probe_1 {al : Nat → Bool} {sl : Nat → Int32} {k s : Nat} (hk : 0 < k) (h : sl s = -1) : f_probe al sl k s = s := by
  match k, hk with
  | k + 1, _ => simp only [f_probe]; rw [if_pos h]
theorem f_probe_2 {al : Nat → Bool} {sl : Nat → Int32} {k s j : Nat} (hk : 0 < k) (h : ¬ sl s = -1) (hj : j < 1500) (e : sl s = nI j) (ha : al j = true) : f_probe al sl k s = s := by
  match k, hk with
  | k + 1, _ => simp only [f_probe]; rw [if_neg h, e, nI_clamp (by omega), if_pos ha]
theorem f_probe_3 {al : Nat → Bool} {sl : Nat → Int32} {k s j : Nat} (hk : 0 < k) (h : ¬ sl s = -1) (hj : j < 1500) (e : sl s = nI j) (ha : ¬ al j = true) : f_probe al sl k s = f_probe al sl (k - 1) ((s + 1) % 4096) := by
  match k, hk with
  | k + 1, _ => simp only [f_probe]; rw [if_neg h, e, nI_clamp (by omega), if_neg ha]; rfl
theorem f_probe_lt {al : Nat → Bool} {sl : Nat → Int32} : ∀ {k s : Nat}, s < 4096 → f_probe al sl k s < 4096
  | 0, s, h => h
  | k + 1, s, h => by
    simp only [f_probe]
    split
    · exact h
    · split
      · exact h
      · exact f_probe_lt (Nat.mod_lt _ (by decide))
def f_slot (sl : Nat → Int32) (nw : Nat → Int64) (ne : Nat → Int32) (ncl w : Int64) (en : Int32) : Nat := f_probe (f_alike nw ne ncl w en) sl 4096 (f_hash w ncl en)
theorem f_slot_lt (sl : Nat → Int32) (nw : Nat → Int64) (ne : Nat → Int32) (ncl w : Int64) (en : Int32) : f_slot sl nw ne ncl w en < 4096 := f_probe_lt (f_hashN_lt _)
/-- every slot is empty or holds a NODE's number -/
def slOK (sl : Nat → Int32) : Prop := ∀ q, q < 4096 → sl q = -1 ∨ ∃ j, j < 1500 ∧ sl q = nI j
def bfOK (bf : Int32) : Prop := bf = -1 ∨ ∃ b, b < 1500 ∧ bf = nI b
def f_dep (ndp : Nat → Nat) (bf : Int32) : Nat := if bf = -1 then 0 else ndp bf.toNatClampNeg + 1
def f_open (ntk ne : Nat → Int32) (j : Nat) : Bool := decide (ntk j = 0) && decide (ne j = 0)
def f_least (op : Nat → Bool) : Nat → Nat → Int32
  | 0, _ => -1
  | k + 1, j => if op j = true then nI j else f_least op k (j + 1)
theorem f_least_1 {op : Nat → Bool} {k j : Nat} (hk : 0 < k) (h : op j = true) : f_least op k j = nI j := by
  match k, hk with
  | k + 1, _ => simp only [f_least]; rw [if_pos h]
theorem f_least_2 {op : Nat → Bool} {k j : Nat} (hk : 0 < k) (h : ¬ op j = true) : f_least op k j = f_least op (k - 1) (j + 1) := by
  match k, hk with
  | k + 1, _ => simp only [f_least]; rw [if_neg h]; rfl
def oI (o : Option Nat) : Int32 := match o with
  | none => -1
  | some b => nI b
theorem nI_ne_m1 {b : Nat} (h : b < 2 ^ 31) : ¬ nI b = -1 := fun z => by
  have := congrArg Int32.toInt z
  rw [nI_toInt h] at this
  have h1 : (-1 : Int32).toInt = -1 := by decide
  omega
def f_best (op : Nat → Bool) (sc : Nat → Int32) : Nat → Option Nat
  | 0 => none
  | k + 1 => match f_best op sc k with
    | none => if op k = true then some k else none
    | some b => if op k = true ∧ sc b < sc k then some k else some b
theorem f_best_no {op : Nat → Bool} {sc : Nat → Int32} {k : Nat} (h : ¬ op k = true) : f_best op sc (k + 1) = f_best op sc k := by
  simp only [f_best]
  cases f_best op sc k with
  | none => simp [h]
  | some b => simp [h]
theorem f_best_lt {op : Nat → Bool} {sc : Nat → Int32} : ∀ (k b : Nat), f_best op sc k = some b → b < k
  | 0, b, h => by cases h
  | k + 1, b, h => by
    simp only [f_best] at h
    cases hb : f_best op sc k with
    | none =>
      rw [hb] at h
      simp only at h
      split at h
      · cases h; omega
      · cases h
    | some b' =>
      rw [hb] at h
      simp only at h
      have := f_best_lt k b' hb
      split at h
      · cases h; omega
      · cases h; omega
def b01 (v : Int32) : Int32 := if v = 0 then 0 else 1
def f_tell (nw : Nat → Int64) (nb ns : Nat → Int32) (ndp : Nat → Nat) (ne nsc ntk nde : Nat → Int32) (ncc j : Nat) (what : Int32) : Int32 := if what = 0 then nb j else if what = 1 then ns j else if what = 2 then nsc j else if what = 3 then ne j else if what = 4 then b01 (ntk j) else if what = 5 then b01 (nde j) else if what = 6 then nI (ndp j) else f_asked (nw j) what ncc
set_option maxHeartbeats 4000000 in
set_option maxRecDepth 100000 in
theorem c_X9_valueAsked (l : Launch) (D : va_G) (cI cJ cZ : ClassId) (w : Int64) (what : Int32) (n : Nat) (hn : n ≤ 10) : Ctr l D cI cJ cZ yX9_valueAsked cX9_valueAsked 5 (some .int) ({ frames := 1, cells := 0, slots := 0, locals := 22 } : Room) [.long w, .int what, .int (nI n)] [] (fun r W => r = some (.int (f_asked w what n)) ∧ W = []) := by
  refine Ctr.start (by decide +kernel) (Nat.le_of_ble_eq_true rfl) ?_
  intro p e s m below meth c A Q ls H C hQ hA hP hD hS hl
  obtain ⟨hx, hb, hr, hml, hts, hown, hlk, hnm, hK, hN⟩ := id C
  have hl : lv_has ls 5 [(0, .long w), (2, .int what), (3, .int (nI n))] := hl
  refine lv_iload_n hx hb dX9_valueAsked_0 rfl (lv_at hl 1 rfl) ?_
  refine lv_bipush (v := 10) hx hb dX9_valueAsked_1 (by decide) ?_
  refine lv_bipush (v := 10) hx hb dX9_valueAsked_3 (by decide) ?_
  refine lv_iload_n hx hb dX9_valueAsked_5 rfl (lv_at hl 2 rfl) ?_
  refine lv_iadd hx hb dX9_valueAsked_6 ?_
  refine r_top (x' := nI (10 + n)) (nI_add 10 n) ?_
  refine lv_iconst (v := 1) hx hb dX9_valueAsked_7 (by decide) ?_
  refine lv_isub hx hb dX9_valueAsked_8 ?_
  refine cl_s C (c_X9_isWithin l D cI cJ cZ what 10 ((nI (10 + n)) - 1)) cd_X9_isWithin ml_X9_62 st_X9_isWithin in_X9 hd_X9_isWithin ⟨by decide, by decide⟩ hP hD hS hA (WR := []) [] [] rfl rfl rfl rfl (by decide) hl.1 rfl (Nat.le_of_ble_eq_true rfl) dX9_valueAsked_9 ⟨by decide, by decide⟩ (fun r W H locs hp hP hD hS => ?_)
  rcases hp with ⟨⟨rfl, hb_9⟩ | ⟨rfl, hb_9⟩, rfl⟩
  · -- yes 9
    refine W.eq (g2 := F0 m 12 ls [.int 1]) rfl ?_
    have hP : va_P D vwCl [] H := hP
    have hD : va_D A [] := hD
    refine lv_istore (lv' := [(4, .int 1), (0, .long w), (2, .int what), (3, .int (nI n))]) hx hb dX9_valueAsked_12 hl (by decide) rfl (fun ls hl => ?_)
    refine lv_iload hx hb dX9_valueAsked_14 (lv_at hl 0 rfl) ?_
    refine lv_if_eq (tgt := 30) hx hb dX9_valueAsked_16 (by decide) (fun c_16 => ?_) (fun c_16 => ?_)
    · exact absurd c_16 (by decide)
    refine lv_lload_n hx hb dX9_valueAsked_19 rfl (lv_at hl 1 rfl) ?_
    refine lv_iload_n hx hb dX9_valueAsked_20 rfl (lv_at hl 2 rfl) ?_
    refine lv_bipush (v := 10) hx hb dX9_valueAsked_21 (by decide) ?_
    refine lv_isub hx hb dX9_valueAsked_23 ?_
    refine cl_s C (c_X9_valueIn l D cI cJ cZ w (what - 10)) cd_X9_valueIn ml_X9_239 st_X9_valueIn in_X9 hd_X9_valueIn ⟨by decide, by decide⟩ hP hD hS hA (WR := []) [] [] rfl rfl rfl rfl (by decide) hl.1 rfl (Nat.le_of_ble_eq_true rfl) dX9_valueAsked_24 ⟨by decide, by decide⟩ (fun r W H locs hp hP hD hS => ?_)
    obtain ⟨rfl, rfl⟩ := hp
    refine W.eq (g2 := F0 m 27 ls [.int (f_valueIn w (what - 10))]) rfl ?_
    have hP : va_P D vwCl [] H := hP
    have hD : va_D A [] := hD
    refine lv_goto (tgt := 31) hx hb dX9_valueAsked_27 (by decide) ?_
    exact rt_i C hQ (hP.sub (ws' := []) [] rfl) (hD.sub [] (by decide) rfl) hS ⟨by simp only [f_asked]; rw [if_pos ⟨hb_9.1, (q_lt1 (by omega) (by omega)).mp hb_9.2⟩], rfl⟩ (by decide) (by decide) dX9_valueAsked_31
  · -- no 9
    refine W.eq (g2 := F0 m 12 ls [.int 0]) rfl ?_
    have hP : va_P D vwCl [] H := hP
    have hD : va_D A [] := hD
    refine lv_istore (lv' := [(4, .int 0), (0, .long w), (2, .int what), (3, .int (nI n))]) hx hb dX9_valueAsked_12 hl (by decide) rfl (fun ls hl => ?_)
    refine lv_iload hx hb dX9_valueAsked_14 (lv_at hl 0 rfl) ?_
    refine lv_if_eq (tgt := 30) hx hb dX9_valueAsked_16 (by decide) (fun c_16 => ?_) (fun c_16 => ?_)
    rotate_left
    · exact absurd c_16 (by decide)
    refine lv_iconst (v := (-1)) hx hb dX9_valueAsked_30 (by decide) ?_
    exact rt_i C hQ (hP.sub (ws' := []) [] rfl) (hD.sub [] (by decide) rfl) hS ⟨by simp only [f_asked]; rw [if_neg (fun z => hb_9 ⟨z.1, (q_lt1 (by omega) (by omega)).mpr z.2⟩)], rfl⟩ (by decide) (by decide) dX9_valueAsked_31
set_option maxHeartbeats 4000000 in
set_option maxRecDepth 100000 in
theorem c_X5_init (l : Launch) (D : va_G) (cI cJ cZ : ClassId) (an : Nat)  : Ctr l D cI cJ cZ yX5_init cX5_init 1 none ({ frames := 1, cells := 9, slots := 16096, locals := 12 } : Room) [.ref an] [(an, .inr (6, [.null, .null, .null, .null, .int 0, .int 0, .null, .null, .null, .null, .null, .int 0, .long 0]))] (fun r W => ∃ (q0 : Nat) (q1 : Nat) (q2 : Nat) (q3 : Nat) (q4 : Nat) (q5 : Nat) (q6 : Nat) (q7 : Nat) (q8 : Nat), r = none ∧ W = [(an, .inr (6, [.ref q0, .ref q1, .ref q2, .ref q3, .int 0, .int 0, .ref q4, .ref q5, .ref q6, .ref q7, .ref q8, .int 0, .long 0])), (q0, .inl (cJ, 1500, .inr (.inl (fun _ => 0)))), (q1, .inl (cI, 1500, .inl (fun _ => 0))), (q2, .inl (cI, 1500, .inl (fun _ => 0))), (q3, .inl (cI, 1500, .inl (fun _ => 0))), (q4, .inl (cI, 1500, .inl (fun _ => 0))), (q5, .inl (cI, 1500, .inl (fun _ => 0))), (q6, .inl (cZ, 1500, .inl (fun _ => 0))), (q7, .inl (cZ, 1500, .inl (fun _ => 0))), (q8, .inl (cI, 4096, .inl (fun _ => 0)))]) := by
  refine Ctr.start (by decide +kernel) (Nat.le_of_ble_eq_true rfl) ?_
  intro p e s m below meth c A Q ls H C hQ hA hP hD hS hl
  obtain ⟨hx, hb, hr, hml, hts, hown, hlk, hnm, hK, hN⟩ := id C
  have hl : lv_has ls 1 [(0, .ref an)] := hl
  refine lv_aload_n hx hb dX5_init_0 rfl (lv_at hl 0 rfl) ?_
  refine W.objInit hx hb hown (hts _ ml_X5_3) (hts _ im_objectInit) (hts _ cd_objectInit) rfl (by rw [hml]; exact hl.1) rfl dX5_init_1 (by decide) (Nat.le_of_ble_eq_true rfl) ?_
  refine W.eq (g2 := F0 m 4 ls []) rfl ?_
  refine lv_aload_n hx hb dX5_init_4 rfl (lv_at hl 0 rfl) ?_
  refine lv_sipush (v := 1500) hx hb dX5_init_5 (by decide) ?_
  refine va_newa (atype := .long) (a0 := (1500, .inr (.inl (fun _ => 0)))) (N' := 1500) hx hb (hts _ ac_long) rfl hK hP hD hS hA (fun _ => rfl) (by decide) (by decide +kernel) (by decide) (by decide) (by decide) dX5_init_8 (fun q_1 cA H hK' hP hD hS => ?_)
  obtain rfl : cJ = cA := (va_sameJ hK').symm
  have hP : va_P D vwCl [(an, .inr (6, [.null, .null, .null, .null, .int 0, .int 0, .null, .null, .null, .null, .null, .int 0, .long 0])), (q_1, .inl (cJ, 1500, .inr (.inl (fun _ => 0))))] H := hP
  have hD : va_D A [(an, .inr (6, [.null, .null, .null, .null, .int 0, .int 0, .null, .null, .null, .null, .null, .int 0, .long 0])), (q_1, .inl (cJ, 1500, .inr (.inl (fun _ => 0))))] := hD
  refine W.widen (k := 1) (n := 1500) (by decide) (by decide) ?_
  refine r_putF (v := .ref q_1) C hP hD hS okX5 0 0 rfl (by decide) fl_X5_9 rfl rfl rfl rfl rfl rfl (Nat.le_of_ble_eq_true rfl) dX5_init_10 (fun H locs hP hD hS => ?_)
  have hP : va_P D vwCl [(an, .inr (6, [.ref q_1, .null, .null, .null, .int 0, .int 0, .null, .null, .null, .null, .null, .int 0, .long 0])), (q_1, .inl (cJ, 1500, .inr (.inl (fun _ => 0))))] H := hP
  have hD : va_D A [(an, .inr (6, [.ref q_1, .null, .null, .null, .int 0, .int 0, .null, .null, .null, .null, .null, .int 0, .long 0])), (q_1, .inl (cJ, 1500, .inr (.inl (fun _ => 0))))] := hD
  refine lv_aload_n hx hb dX5_init_13 rfl (lv_at hl 0 rfl) ?_
  refine lv_sipush (v := 1500) hx hb dX5_init_14 (by decide) ?_
  refine va_newa (atype := .int) (a0 := (1500, .inl (fun _ => 0))) (N' := 1500) hx hb (hts _ ac_int) rfl hK hP hD hS hA (fun _ => rfl) (by decide) (by decide +kernel) (by decide) (by decide) (by decide) dX5_init_17 (fun q_2 cA H hK' hP hD hS => ?_)
  obtain rfl : cI = cA := (va_sameI hK').symm
  have hP : va_P D vwCl [(an, .inr (6, [.ref q_1, .null, .null, .null, .int 0, .int 0, .null, .null, .null, .null, .null, .int 0, .long 0])), (q_1, .inl (cJ, 1500, .inr (.inl (fun _ => 0)))), (q_2, .inl (cI, 1500, .inl (fun _ => 0)))] H := hP
  have hD : va_D A [(an, .inr (6, [.ref q_1, .null, .null, .null, .int 0, .int 0, .null, .null, .null, .null, .null, .int 0, .long 0])), (q_1, .inl (cJ, 1500, .inr (.inl (fun _ => 0)))), (q_2, .inl (cI, 1500, .inl (fun _ => 0)))] := hD
  refine W.widen (k := 2) (n := 3000) (by decide) (by decide) ?_
  refine r_putF (v := .ref q_2) C hP hD hS okX5 0 1 rfl (by decide) fl_X5_15 rfl rfl rfl rfl rfl rfl (Nat.le_of_ble_eq_true rfl) dX5_init_19 (fun H locs hP hD hS => ?_)
  have hP : va_P D vwCl [(an, .inr (6, [.ref q_1, .ref q_2, .null, .null, .int 0, .int 0, .null, .null, .null, .null, .null, .int 0, .long 0])), (q_1, .inl (cJ, 1500, .inr (.inl (fun _ => 0)))), (q_2, .inl (cI, 1500, .inl (fun _ => 0)))] H := hP
  have hD : va_D A [(an, .inr (6, [.ref q_1, .ref q_2, .null, .null, .int 0, .int 0, .null, .null, .null, .null, .null, .int 0, .long 0])), (q_1, .inl (cJ, 1500, .inr (.inl (fun _ => 0)))), (q_2, .inl (cI, 1500, .inl (fun _ => 0)))] := hD
  refine lv_aload_n hx hb dX5_init_22 rfl (lv_at hl 0 rfl) ?_
  refine lv_sipush (v := 1500) hx hb dX5_init_23 (by decide) ?_
  refine va_newa (atype := .int) (a0 := (1500, .inl (fun _ => 0))) (N' := 1500) hx hb (hts _ ac_int) rfl hK hP hD hS hA (fun _ => rfl) (by decide) (by decide +kernel) (by decide) (by decide) (by decide) dX5_init_26 (fun q_3 cA H hK' hP hD hS => ?_)
  obtain rfl : cI = cA := (va_sameI hK').symm
  have hP : va_P D vwCl [(an, .inr (6, [.ref q_1, .ref q_2, .null, .null, .int 0, .int 0, .null, .null, .null, .null, .null, .int 0, .long 0])), (q_1, .inl (cJ, 1500, .inr (.inl (fun _ => 0)))), (q_2, .inl (cI, 1500, .inl (fun _ => 0))), (q_3, .inl (cI, 1500, .inl (fun _ => 0)))] H := hP
  have hD : va_D A [(an, .inr (6, [.ref q_1, .ref q_2, .null, .null, .int 0, .int 0, .null, .null, .null, .null, .null, .int 0, .long 0])), (q_1, .inl (cJ, 1500, .inr (.inl (fun _ => 0)))), (q_2, .inl (cI, 1500, .inl (fun _ => 0))), (q_3, .inl (cI, 1500, .inl (fun _ => 0)))] := hD
  refine W.widen (k := 3) (n := 4500) (by decide) (by decide) ?_
  refine r_putF (v := .ref q_3) C hP hD hS okX5 0 2 rfl (by decide) fl_X5_19 rfl rfl rfl rfl rfl rfl (Nat.le_of_ble_eq_true rfl) dX5_init_28 (fun H locs hP hD hS => ?_)
  have hP : va_P D vwCl [(an, .inr (6, [.ref q_1, .ref q_2, .ref q_3, .null, .int 0, .int 0, .null, .null, .null, .null, .null, .int 0, .long 0])), (q_1, .inl (cJ, 1500, .inr (.inl (fun _ => 0)))), (q_2, .inl (cI, 1500, .inl (fun _ => 0))), (q_3, .inl (cI, 1500, .inl (fun _ => 0)))] H := hP
  have hD : va_D A [(an, .inr (6, [.ref q_1, .ref q_2, .ref q_3, .null, .int 0, .int 0, .null, .null, .null, .null, .null, .int 0, .long 0])), (q_1, .inl (cJ, 1500, .inr (.inl (fun _ => 0)))), (q_2, .inl (cI, 1500, .inl (fun _ => 0))), (q_3, .inl (cI, 1500, .inl (fun _ => 0)))] := hD
  refine lv_aload_n hx hb dX5_init_31 rfl (lv_at hl 0 rfl) ?_
  refine lv_sipush (v := 1500) hx hb dX5_init_32 (by decide) ?_
  refine va_newa (atype := .int) (a0 := (1500, .inl (fun _ => 0))) (N' := 1500) hx hb (hts _ ac_int) rfl hK hP hD hS hA (fun _ => rfl) (by decide) (by decide +kernel) (by decide) (by decide) (by decide) dX5_init_35 (fun q_4 cA H hK' hP hD hS => ?_)
  obtain rfl : cI = cA := (va_sameI hK').symm
  have hP : va_P D vwCl [(an, .inr (6, [.ref q_1, .ref q_2, .ref q_3, .null, .int 0, .int 0, .null, .null, .null, .null, .null, .int 0, .long 0])), (q_1, .inl (cJ, 1500, .inr (.inl (fun _ => 0)))), (q_2, .inl (cI, 1500, .inl (fun _ => 0))), (q_3, .inl (cI, 1500, .inl (fun _ => 0))), (q_4, .inl (cI, 1500, .inl (fun _ => 0)))] H := hP
  have hD : va_D A [(an, .inr (6, [.ref q_1, .ref q_2, .ref q_3, .null, .int 0, .int 0, .null, .null, .null, .null, .null, .int 0, .long 0])), (q_1, .inl (cJ, 1500, .inr (.inl (fun _ => 0)))), (q_2, .inl (cI, 1500, .inl (fun _ => 0))), (q_3, .inl (cI, 1500, .inl (fun _ => 0))), (q_4, .inl (cI, 1500, .inl (fun _ => 0)))] := hD
  refine W.widen (k := 4) (n := 6000) (by decide) (by decide) ?_
  refine r_putF (v := .ref q_4) C hP hD hS okX5 0 3 rfl (by decide) fl_X5_22 rfl rfl rfl rfl rfl rfl (Nat.le_of_ble_eq_true rfl) dX5_init_37 (fun H locs hP hD hS => ?_)
  have hP : va_P D vwCl [(an, .inr (6, [.ref q_1, .ref q_2, .ref q_3, .ref q_4, .int 0, .int 0, .null, .null, .null, .null, .null, .int 0, .long 0])), (q_1, .inl (cJ, 1500, .inr (.inl (fun _ => 0)))), (q_2, .inl (cI, 1500, .inl (fun _ => 0))), (q_3, .inl (cI, 1500, .inl (fun _ => 0))), (q_4, .inl (cI, 1500, .inl (fun _ => 0)))] H := hP
  have hD : va_D A [(an, .inr (6, [.ref q_1, .ref q_2, .ref q_3, .ref q_4, .int 0, .int 0, .null, .null, .null, .null, .null, .int 0, .long 0])), (q_1, .inl (cJ, 1500, .inr (.inl (fun _ => 0)))), (q_2, .inl (cI, 1500, .inl (fun _ => 0))), (q_3, .inl (cI, 1500, .inl (fun _ => 0))), (q_4, .inl (cI, 1500, .inl (fun _ => 0)))] := hD
  refine lv_aload_n hx hb dX5_init_40 rfl (lv_at hl 0 rfl) ?_
  refine lv_sipush (v := 1500) hx hb dX5_init_41 (by decide) ?_
  refine va_newa (atype := .int) (a0 := (1500, .inl (fun _ => 0))) (N' := 1500) hx hb (hts _ ac_int) rfl hK hP hD hS hA (fun _ => rfl) (by decide) (by decide +kernel) (by decide) (by decide) (by decide) dX5_init_44 (fun q_5 cA H hK' hP hD hS => ?_)
  obtain rfl : cI = cA := (va_sameI hK').symm
  have hP : va_P D vwCl [(an, .inr (6, [.ref q_1, .ref q_2, .ref q_3, .ref q_4, .int 0, .int 0, .null, .null, .null, .null, .null, .int 0, .long 0])), (q_1, .inl (cJ, 1500, .inr (.inl (fun _ => 0)))), (q_2, .inl (cI, 1500, .inl (fun _ => 0))), (q_3, .inl (cI, 1500, .inl (fun _ => 0))), (q_4, .inl (cI, 1500, .inl (fun _ => 0))), (q_5, .inl (cI, 1500, .inl (fun _ => 0)))] H := hP
  have hD : va_D A [(an, .inr (6, [.ref q_1, .ref q_2, .ref q_3, .ref q_4, .int 0, .int 0, .null, .null, .null, .null, .null, .int 0, .long 0])), (q_1, .inl (cJ, 1500, .inr (.inl (fun _ => 0)))), (q_2, .inl (cI, 1500, .inl (fun _ => 0))), (q_3, .inl (cI, 1500, .inl (fun _ => 0))), (q_4, .inl (cI, 1500, .inl (fun _ => 0))), (q_5, .inl (cI, 1500, .inl (fun _ => 0)))] := hD
  refine W.widen (k := 5) (n := 7500) (by decide) (by decide) ?_
  refine r_putF (v := .ref q_5) C hP hD hS okX5 0 6 rfl (by decide) fl_X5_25 rfl rfl rfl rfl rfl rfl (Nat.le_of_ble_eq_true rfl) dX5_init_46 (fun H locs hP hD hS => ?_)
  have hP : va_P D vwCl [(an, .inr (6, [.ref q_1, .ref q_2, .ref q_3, .ref q_4, .int 0, .int 0, .ref q_5, .null, .null, .null, .null, .int 0, .long 0])), (q_1, .inl (cJ, 1500, .inr (.inl (fun _ => 0)))), (q_2, .inl (cI, 1500, .inl (fun _ => 0))), (q_3, .inl (cI, 1500, .inl (fun _ => 0))), (q_4, .inl (cI, 1500, .inl (fun _ => 0))), (q_5, .inl (cI, 1500, .inl (fun _ => 0)))] H := hP
  have hD : va_D A [(an, .inr (6, [.ref q_1, .ref q_2, .ref q_3, .ref q_4, .int 0, .int 0, .ref q_5, .null, .null, .null, .null, .int 0, .long 0])), (q_1, .inl (cJ, 1500, .inr (.inl (fun _ => 0)))), (q_2, .inl (cI, 1500, .inl (fun _ => 0))), (q_3, .inl (cI, 1500, .inl (fun _ => 0))), (q_4, .inl (cI, 1500, .inl (fun _ => 0))), (q_5, .inl (cI, 1500, .inl (fun _ => 0)))] := hD
  refine lv_aload_n hx hb dX5_init_49 rfl (lv_at hl 0 rfl) ?_
  refine lv_sipush (v := 1500) hx hb dX5_init_50 (by decide) ?_
  refine va_newa (atype := .int) (a0 := (1500, .inl (fun _ => 0))) (N' := 1500) hx hb (hts _ ac_int) rfl hK hP hD hS hA (fun _ => rfl) (by decide) (by decide +kernel) (by decide) (by decide) (by decide) dX5_init_53 (fun q_6 cA H hK' hP hD hS => ?_)
  obtain rfl : cI = cA := (va_sameI hK').symm
  have hP : va_P D vwCl [(an, .inr (6, [.ref q_1, .ref q_2, .ref q_3, .ref q_4, .int 0, .int 0, .ref q_5, .null, .null, .null, .null, .int 0, .long 0])), (q_1, .inl (cJ, 1500, .inr (.inl (fun _ => 0)))), (q_2, .inl (cI, 1500, .inl (fun _ => 0))), (q_3, .inl (cI, 1500, .inl (fun _ => 0))), (q_4, .inl (cI, 1500, .inl (fun _ => 0))), (q_5, .inl (cI, 1500, .inl (fun _ => 0))), (q_6, .inl (cI, 1500, .inl (fun _ => 0)))] H := hP
  have hD : va_D A [(an, .inr (6, [.ref q_1, .ref q_2, .ref q_3, .ref q_4, .int 0, .int 0, .ref q_5, .null, .null, .null, .null, .int 0, .long 0])), (q_1, .inl (cJ, 1500, .inr (.inl (fun _ => 0)))), (q_2, .inl (cI, 1500, .inl (fun _ => 0))), (q_3, .inl (cI, 1500, .inl (fun _ => 0))), (q_4, .inl (cI, 1500, .inl (fun _ => 0))), (q_5, .inl (cI, 1500, .inl (fun _ => 0))), (q_6, .inl (cI, 1500, .inl (fun _ => 0)))] := hD
  refine W.widen (k := 6) (n := 9000) (by decide) (by decide) ?_
  refine r_putF (v := .ref q_6) C hP hD hS okX5 0 7 rfl (by decide) fl_X5_28 rfl rfl rfl rfl rfl rfl (Nat.le_of_ble_eq_true rfl) dX5_init_55 (fun H locs hP hD hS => ?_)
  have hP : va_P D vwCl [(an, .inr (6, [.ref q_1, .ref q_2, .ref q_3, .ref q_4, .int 0, .int 0, .ref q_5, .ref q_6, .null, .null, .null, .int 0, .long 0])), (q_1, .inl (cJ, 1500, .inr (.inl (fun _ => 0)))), (q_2, .inl (cI, 1500, .inl (fun _ => 0))), (q_3, .inl (cI, 1500, .inl (fun _ => 0))), (q_4, .inl (cI, 1500, .inl (fun _ => 0))), (q_5, .inl (cI, 1500, .inl (fun _ => 0))), (q_6, .inl (cI, 1500, .inl (fun _ => 0)))] H := hP
  have hD : va_D A [(an, .inr (6, [.ref q_1, .ref q_2, .ref q_3, .ref q_4, .int 0, .int 0, .ref q_5, .ref q_6, .null, .null, .null, .int 0, .long 0])), (q_1, .inl (cJ, 1500, .inr (.inl (fun _ => 0)))), (q_2, .inl (cI, 1500, .inl (fun _ => 0))), (q_3, .inl (cI, 1500, .inl (fun _ => 0))), (q_4, .inl (cI, 1500, .inl (fun _ => 0))), (q_5, .inl (cI, 1500, .inl (fun _ => 0))), (q_6, .inl (cI, 1500, .inl (fun _ => 0)))] := hD
  refine lv_aload_n hx hb dX5_init_58 rfl (lv_at hl 0 rfl) ?_
  refine lv_sipush (v := 1500) hx hb dX5_init_59 (by decide) ?_
  refine va_newa (atype := .boolean) (a0 := (1500, .inl (fun _ => 0))) (N' := 1500) hx hb (hts _ ac_boolean) rfl hK hP hD hS hA (fun _ => rfl) (by decide) (by decide +kernel) (by decide) (by decide) (by decide) dX5_init_62 (fun q_7 cA H hK' hP hD hS => ?_)
  obtain rfl : cZ = cA := (va_sameZ hK').symm
  have hP : va_P D vwCl [(an, .inr (6, [.ref q_1, .ref q_2, .ref q_3, .ref q_4, .int 0, .int 0, .ref q_5, .ref q_6, .null, .null, .null, .int 0, .long 0])), (q_1, .inl (cJ, 1500, .inr (.inl (fun _ => 0)))), (q_2, .inl (cI, 1500, .inl (fun _ => 0))), (q_3, .inl (cI, 1500, .inl (fun _ => 0))), (q_4, .inl (cI, 1500, .inl (fun _ => 0))), (q_5, .inl (cI, 1500, .inl (fun _ => 0))), (q_6, .inl (cI, 1500, .inl (fun _ => 0))), (q_7, .inl (cZ, 1500, .inl (fun _ => 0)))] H := hP
  have hD : va_D A [(an, .inr (6, [.ref q_1, .ref q_2, .ref q_3, .ref q_4, .int 0, .int 0, .ref q_5, .ref q_6, .null, .null, .null, .int 0, .long 0])), (q_1, .inl (cJ, 1500, .inr (.inl (fun _ => 0)))), (q_2, .inl (cI, 1500, .inl (fun _ => 0))), (q_3, .inl (cI, 1500, .inl (fun _ => 0))), (q_4, .inl (cI, 1500, .inl (fun _ => 0))), (q_5, .inl (cI, 1500, .inl (fun _ => 0))), (q_6, .inl (cI, 1500, .inl (fun _ => 0))), (q_7, .inl (cZ, 1500, .inl (fun _ => 0)))] := hD
  refine W.widen (k := 7) (n := 10500) (by decide) (by decide) ?_
  refine r_putF (v := .ref q_7) C hP hD hS okX5 0 8 rfl (by decide) fl_X5_31 rfl rfl rfl rfl rfl rfl (Nat.le_of_ble_eq_true rfl) dX5_init_64 (fun H locs hP hD hS => ?_)
  have hP : va_P D vwCl [(an, .inr (6, [.ref q_1, .ref q_2, .ref q_3, .ref q_4, .int 0, .int 0, .ref q_5, .ref q_6, .ref q_7, .null, .null, .int 0, .long 0])), (q_1, .inl (cJ, 1500, .inr (.inl (fun _ => 0)))), (q_2, .inl (cI, 1500, .inl (fun _ => 0))), (q_3, .inl (cI, 1500, .inl (fun _ => 0))), (q_4, .inl (cI, 1500, .inl (fun _ => 0))), (q_5, .inl (cI, 1500, .inl (fun _ => 0))), (q_6, .inl (cI, 1500, .inl (fun _ => 0))), (q_7, .inl (cZ, 1500, .inl (fun _ => 0)))] H := hP
  have hD : va_D A [(an, .inr (6, [.ref q_1, .ref q_2, .ref q_3, .ref q_4, .int 0, .int 0, .ref q_5, .ref q_6, .ref q_7, .null, .null, .int 0, .long 0])), (q_1, .inl (cJ, 1500, .inr (.inl (fun _ => 0)))), (q_2, .inl (cI, 1500, .inl (fun _ => 0))), (q_3, .inl (cI, 1500, .inl (fun _ => 0))), (q_4, .inl (cI, 1500, .inl (fun _ => 0))), (q_5, .inl (cI, 1500, .inl (fun _ => 0))), (q_6, .inl (cI, 1500, .inl (fun _ => 0))), (q_7, .inl (cZ, 1500, .inl (fun _ => 0)))] := hD
  refine lv_aload_n hx hb dX5_init_67 rfl (lv_at hl 0 rfl) ?_
  refine lv_sipush (v := 1500) hx hb dX5_init_68 (by decide) ?_
  refine va_newa (atype := .boolean) (a0 := (1500, .inl (fun _ => 0))) (N' := 1500) hx hb (hts _ ac_boolean) rfl hK hP hD hS hA (fun _ => rfl) (by decide) (by decide +kernel) (by decide) (by decide) (by decide) dX5_init_71 (fun q_8 cA H hK' hP hD hS => ?_)
  obtain rfl : cZ = cA := (va_sameZ hK').symm
  have hP : va_P D vwCl [(an, .inr (6, [.ref q_1, .ref q_2, .ref q_3, .ref q_4, .int 0, .int 0, .ref q_5, .ref q_6, .ref q_7, .null, .null, .int 0, .long 0])), (q_1, .inl (cJ, 1500, .inr (.inl (fun _ => 0)))), (q_2, .inl (cI, 1500, .inl (fun _ => 0))), (q_3, .inl (cI, 1500, .inl (fun _ => 0))), (q_4, .inl (cI, 1500, .inl (fun _ => 0))), (q_5, .inl (cI, 1500, .inl (fun _ => 0))), (q_6, .inl (cI, 1500, .inl (fun _ => 0))), (q_7, .inl (cZ, 1500, .inl (fun _ => 0))), (q_8, .inl (cZ, 1500, .inl (fun _ => 0)))] H := hP
  have hD : va_D A [(an, .inr (6, [.ref q_1, .ref q_2, .ref q_3, .ref q_4, .int 0, .int 0, .ref q_5, .ref q_6, .ref q_7, .null, .null, .int 0, .long 0])), (q_1, .inl (cJ, 1500, .inr (.inl (fun _ => 0)))), (q_2, .inl (cI, 1500, .inl (fun _ => 0))), (q_3, .inl (cI, 1500, .inl (fun _ => 0))), (q_4, .inl (cI, 1500, .inl (fun _ => 0))), (q_5, .inl (cI, 1500, .inl (fun _ => 0))), (q_6, .inl (cI, 1500, .inl (fun _ => 0))), (q_7, .inl (cZ, 1500, .inl (fun _ => 0))), (q_8, .inl (cZ, 1500, .inl (fun _ => 0)))] := hD
  refine W.widen (k := 8) (n := 12000) (by decide) (by decide) ?_
  refine r_putF (v := .ref q_8) C hP hD hS okX5 0 9 rfl (by decide) fl_X5_35 rfl rfl rfl rfl rfl rfl (Nat.le_of_ble_eq_true rfl) dX5_init_73 (fun H locs hP hD hS => ?_)
  have hP : va_P D vwCl [(an, .inr (6, [.ref q_1, .ref q_2, .ref q_3, .ref q_4, .int 0, .int 0, .ref q_5, .ref q_6, .ref q_7, .ref q_8, .null, .int 0, .long 0])), (q_1, .inl (cJ, 1500, .inr (.inl (fun _ => 0)))), (q_2, .inl (cI, 1500, .inl (fun _ => 0))), (q_3, .inl (cI, 1500, .inl (fun _ => 0))), (q_4, .inl (cI, 1500, .inl (fun _ => 0))), (q_5, .inl (cI, 1500, .inl (fun _ => 0))), (q_6, .inl (cI, 1500, .inl (fun _ => 0))), (q_7, .inl (cZ, 1500, .inl (fun _ => 0))), (q_8, .inl (cZ, 1500, .inl (fun _ => 0)))] H := hP
  have hD : va_D A [(an, .inr (6, [.ref q_1, .ref q_2, .ref q_3, .ref q_4, .int 0, .int 0, .ref q_5, .ref q_6, .ref q_7, .ref q_8, .null, .int 0, .long 0])), (q_1, .inl (cJ, 1500, .inr (.inl (fun _ => 0)))), (q_2, .inl (cI, 1500, .inl (fun _ => 0))), (q_3, .inl (cI, 1500, .inl (fun _ => 0))), (q_4, .inl (cI, 1500, .inl (fun _ => 0))), (q_5, .inl (cI, 1500, .inl (fun _ => 0))), (q_6, .inl (cI, 1500, .inl (fun _ => 0))), (q_7, .inl (cZ, 1500, .inl (fun _ => 0))), (q_8, .inl (cZ, 1500, .inl (fun _ => 0)))] := hD
  refine lv_aload_n hx hb dX5_init_76 rfl (lv_at hl 0 rfl) ?_
  refine lv_sipush (v := 4096) hx hb dX5_init_77 (by decide) ?_
  refine va_newa (atype := .int) (a0 := (4096, .inl (fun _ => 0))) (N' := 4096) hx hb (hts _ ac_int) rfl hK hP hD hS hA (fun _ => rfl) (by decide) (by decide +kernel) (by decide) (by decide) (by decide) dX5_init_80 (fun q_9 cA H hK' hP hD hS => ?_)
  obtain rfl : cI = cA := (va_sameI hK').symm
  have hP : va_P D vwCl [(an, .inr (6, [.ref q_1, .ref q_2, .ref q_3, .ref q_4, .int 0, .int 0, .ref q_5, .ref q_6, .ref q_7, .ref q_8, .null, .int 0, .long 0])), (q_1, .inl (cJ, 1500, .inr (.inl (fun _ => 0)))), (q_2, .inl (cI, 1500, .inl (fun _ => 0))), (q_3, .inl (cI, 1500, .inl (fun _ => 0))), (q_4, .inl (cI, 1500, .inl (fun _ => 0))), (q_5, .inl (cI, 1500, .inl (fun _ => 0))), (q_6, .inl (cI, 1500, .inl (fun _ => 0))), (q_7, .inl (cZ, 1500, .inl (fun _ => 0))), (q_8, .inl (cZ, 1500, .inl (fun _ => 0))), (q_9, .inl (cI, 4096, .inl (fun _ => 0)))] H := hP
  have hD : va_D A [(an, .inr (6, [.ref q_1, .ref q_2, .ref q_3, .ref q_4, .int 0, .int 0, .ref q_5, .ref q_6, .ref q_7, .ref q_8, .null, .int 0, .long 0])), (q_1, .inl (cJ, 1500, .inr (.inl (fun _ => 0)))), (q_2, .inl (cI, 1500, .inl (fun _ => 0))), (q_3, .inl (cI, 1500, .inl (fun _ => 0))), (q_4, .inl (cI, 1500, .inl (fun _ => 0))), (q_5, .inl (cI, 1500, .inl (fun _ => 0))), (q_6, .inl (cI, 1500, .inl (fun _ => 0))), (q_7, .inl (cZ, 1500, .inl (fun _ => 0))), (q_8, .inl (cZ, 1500, .inl (fun _ => 0))), (q_9, .inl (cI, 4096, .inl (fun _ => 0)))] := hD
  refine W.widen (k := 9) (n := 16096) (by decide) (by decide) ?_
  refine r_putF (v := .ref q_9) C hP hD hS okX5 0 10 rfl (by decide) fl_X5_38 rfl rfl rfl rfl rfl rfl (Nat.le_of_ble_eq_true rfl) dX5_init_82 (fun H locs hP hD hS => ?_)
  have hP : va_P D vwCl [(an, .inr (6, [.ref q_1, .ref q_2, .ref q_3, .ref q_4, .int 0, .int 0, .ref q_5, .ref q_6, .ref q_7, .ref q_8, .ref q_9, .int 0, .long 0])), (q_1, .inl (cJ, 1500, .inr (.inl (fun _ => 0)))), (q_2, .inl (cI, 1500, .inl (fun _ => 0))), (q_3, .inl (cI, 1500, .inl (fun _ => 0))), (q_4, .inl (cI, 1500, .inl (fun _ => 0))), (q_5, .inl (cI, 1500, .inl (fun _ => 0))), (q_6, .inl (cI, 1500, .inl (fun _ => 0))), (q_7, .inl (cZ, 1500, .inl (fun _ => 0))), (q_8, .inl (cZ, 1500, .inl (fun _ => 0))), (q_9, .inl (cI, 4096, .inl (fun _ => 0)))] H := hP
  have hD : va_D A [(an, .inr (6, [.ref q_1, .ref q_2, .ref q_3, .ref q_4, .int 0, .int 0, .ref q_5, .ref q_6, .ref q_7, .ref q_8, .ref q_9, .int 0, .long 0])), (q_1, .inl (cJ, 1500, .inr (.inl (fun _ => 0)))), (q_2, .inl (cI, 1500, .inl (fun _ => 0))), (q_3, .inl (cI, 1500, .inl (fun _ => 0))), (q_4, .inl (cI, 1500, .inl (fun _ => 0))), (q_5, .inl (cI, 1500, .inl (fun _ => 0))), (q_6, .inl (cI, 1500, .inl (fun _ => 0))), (q_7, .inl (cZ, 1500, .inl (fun _ => 0))), (q_8, .inl (cZ, 1500, .inl (fun _ => 0))), (q_9, .inl (cI, 4096, .inl (fun _ => 0)))] := hD
  exact rt_v C hQ (hP.sub (ws' := [(an, .inr (6, [.ref q_1, .ref q_2, .ref q_3, .ref q_4, .int 0, .int 0, .ref q_5, .ref q_6, .ref q_7, .ref q_8, .ref q_9, .int 0, .long 0])), (q_1, .inl (cJ, 1500, .inr (.inl (fun _ => 0)))), (q_2, .inl (cI, 1500, .inl (fun _ => 0))), (q_3, .inl (cI, 1500, .inl (fun _ => 0))), (q_4, .inl (cI, 1500, .inl (fun _ => 0))), (q_5, .inl (cI, 1500, .inl (fun _ => 0))), (q_6, .inl (cI, 1500, .inl (fun _ => 0))), (q_7, .inl (cZ, 1500, .inl (fun _ => 0))), (q_8, .inl (cZ, 1500, .inl (fun _ => 0))), (q_9, .inl (cI, 4096, .inl (fun _ => 0)))]) [0, 1, 2, 3, 4, 5, 6, 7, 8, 9] rfl) (hD.sub [0, 1, 2, 3, 4, 5, 6, 7, 8, 9] (by decide) rfl) hS ⟨q_1, q_2, q_3, q_4, q_5, q_6, q_7, q_8, q_9, rfl, rfl⟩ (by decide) (by decide) dX5_init_85
set_option maxHeartbeats 4000000 in
set_option maxRecDepth 100000 in
theorem c_X5_has (l : Launch) (D : va_G) (cI cJ cZ : ClassId) (an : Nat) (u0 : Nat) (u1 : Nat) (u2 : Nat) (u3 : Nat) (u4 : Nat) (u5 : Nat) (u6 : Nat) (u7 : Nat) (u8 : Nat) (nn : Nat) (ndd : Nat) (ncc : Nat) (ncl : Int64) (k : Int32) (hnn : nn ≤ 1500) : Ctr l D cI cJ cZ yX5_has cX5_has 2 (some .boolean) ({ frames := 1, cells := 0, slots := 0, locals := 22 } : Room) [.ref an, .int k] [(an, .inr (6, [.ref u0, .ref u1, .ref u2, .ref u3, .int (nI nn), .int (nI ndd), .ref u4, .ref u5, .ref u6, .ref u7, .ref u8, .int (nI ncc), .long ncl]))] (fun r W => ((r = some (.int 1) ∧ (inR k nn = true)) ∨ (r = some (.int 0) ∧ ¬ (inR k nn = true))) ∧ W = [(an, .inr (6, [.ref u0, .ref u1, .ref u2, .ref u3, .int (nI nn), .int (nI ndd), .ref u4, .ref u5, .ref u6, .ref u7, .ref u8, .int (nI ncc), .long ncl]))]) := by
  refine Ctr.start (by decide +kernel) (Nat.le_of_ble_eq_true rfl) ?_
  intro p e s m below meth c A Q ls H C hQ hA hP hD hS hl
  obtain ⟨hx, hb, hr, hml, hts, hown, hlk, hnm, hK, hN⟩ := id C
  have hl : lv_has ls 2 [(0, .ref an), (1, .int k)] := hl
  refine lv_iload_n hx hb dX5_has_0 rfl (lv_at hl 1 rfl) ?_
  refine lv_iconst (v := 0) hx hb dX5_has_1 (by decide) ?_
  refine lv_aload_n hx hb dX5_has_2 rfl (lv_at hl 0 rfl) ?_
  refine r_get (v := .int (nI nn)) C hP okX5 0 4 rfl (by decide) fl_X5_41 rfl rfl dX5_has_3 ?_
  refine lv_iconst (v := 1) hx hb dX5_has_6 (by decide) ?_
  refine lv_isub hx hb dX5_has_7 ?_
  refine cl_sn C (c_X9_isWithin l D cI cJ cZ k 0 ((nI nn) - 1)) cd_X9_isWithin (by decide +kernel) st_X9_isWithin in_X9 hd_X9_isWithin ⟨by decide, by decide⟩ hP hD hS hA (WR := [(an, .inr (6, [.ref u0, .ref u1, .ref u2, .ref u3, .int (nI nn), .int (nI ndd), .ref u4, .ref u5, .ref u6, .ref u7, .ref u8, .int (nI ncc), .long ncl]))]) [] [0] rfl rfl rfl rfl (by decide) hl.1 rfl (Nat.le_of_ble_eq_true rfl) dX5_has_8 ⟨by decide, by decide⟩ (fun r W H locs hp hP hD hS => ?_)
  rcases hp with ⟨⟨rfl, hb_8⟩ | ⟨rfl, hb_8⟩, rfl⟩
  · -- yes 8
    refine W.eq (g2 := F0 m 11 ls [.int 1]) rfl ?_
    have hP : va_P D vwCl [(an, .inr (6, [.ref u0, .ref u1, .ref u2, .ref u3, .int (nI nn), .int (nI ndd), .ref u4, .ref u5, .ref u6, .ref u7, .ref u8, .int (nI ncc), .long ncl]))] H := hP
    have hD : va_D A [(an, .inr (6, [.ref u0, .ref u1, .ref u2, .ref u3, .int (nI nn), .int (nI ndd), .ref u4, .ref u5, .ref u6, .ref u7, .ref u8, .int (nI ncc), .long ncl]))] := hD
    exact rt_z C hQ (by decide) (hP.sub (ws' := [(an, .inr (6, [.ref u0, .ref u1, .ref u2, .ref u3, .int (nI nn), .int (nI ndd), .ref u4, .ref u5, .ref u6, .ref u7, .ref u8, .int (nI ncc), .long ncl]))]) [0] rfl) (hD.sub [0] (by decide) rfl) hS ⟨Or.inl ⟨rfl, (by first | exact q_inR (by omega) hb_8 | exact q_ninR (by omega) hb_8)⟩, rfl⟩ (by decide) (by decide) dX5_has_11
  · -- no 8
    refine W.eq (g2 := F0 m 11 ls [.int 0]) rfl ?_
    have hP : va_P D vwCl [(an, .inr (6, [.ref u0, .ref u1, .ref u2, .ref u3, .int (nI nn), .int (nI ndd), .ref u4, .ref u5, .ref u6, .ref u7, .ref u8, .int (nI ncc), .long ncl]))] H := hP
    have hD : va_D A [(an, .inr (6, [.ref u0, .ref u1, .ref u2, .ref u3, .int (nI nn), .int (nI ndd), .ref u4, .ref u5, .ref u6, .ref u7, .ref u8, .int (nI ncc), .long ncl]))] := hD
    exact rt_z C hQ (by decide) (hP.sub (ws' := [(an, .inr (6, [.ref u0, .ref u1, .ref u2, .ref u3, .int (nI nn), .int (nI ndd), .ref u4, .ref u5, .ref u6, .ref u7, .ref u8, .int (nI ncc), .long ncl]))]) [0] rfl) (hD.sub [0] (by decide) rfl) hS ⟨Or.inr ⟨rfl, (by first | exact q_inR (by omega) hb_8 | exact q_ninR (by omega) hb_8)⟩, rfl⟩ (by decide) (by decide) dX5_has_11
set_option maxHeartbeats 4000000 in
set_option maxRecDepth 100000 in
theorem c_X5_isAlike (l : Launch) (D : va_G) (cI cJ cZ : ClassId) (an : Nat) (u0 : Nat) (u1 : Nat) (u2 : Nat) (u3 : Nat) (u4 : Nat) (u5 : Nat) (u6 : Nat) (u7 : Nat) (u8 : Nat) (nn : Nat) (ndd : Nat) (ncc : Nat) (ncl : Int64) (nw : Nat → Int64) (ne : Nat → Int32) (am : Nat) (w : Int64) (en : Int32) (lt : Int32) (sh : Int32) (j : Nat) (hj : j < 1500) : Ctr l D cI cJ cZ yX5_isAlike cX5_isAlike 3 (some .boolean) ({ frames := 0, cells := 0, slots := 0, locals := 0 } : Room) [.ref an, .int (nI j), .ref am] [(an, .inr (6, [.ref u0, .ref u1, .ref u2, .ref u3, .int (nI nn), .int (nI ndd), .ref u4, .ref u5, .ref u6, .ref u7, .ref u8, .int (nI ncc), .long ncl])), (u0, .inl (cJ, 1500, .inr (.inl nw))), (u4, .inl (cI, 1500, .inl ne)), (am, .inr (4, [.long w, .int en, .int lt, .int sh]))] (fun r W => ((r = some (.int 1) ∧ (f_alike nw ne ncl w en j = true)) ∨ (r = some (.int 0) ∧ ¬ (f_alike nw ne ncl w en j = true))) ∧ W = [(an, .inr (6, [.ref u0, .ref u1, .ref u2, .ref u3, .int (nI nn), .int (nI ndd), .ref u4, .ref u5, .ref u6, .ref u7, .ref u8, .int (nI ncc), .long ncl])), (u0, .inl (cJ, 1500, .inr (.inl nw))), (u4, .inl (cI, 1500, .inl ne)), (am, .inr (4, [.long w, .int en, .int lt, .int sh]))]) := by
  refine Ctr.start (by decide +kernel) (Nat.le_of_ble_eq_true rfl) ?_
  intro p e s m below meth c A Q ls H C hQ hA hP hD hS hl
  obtain ⟨hx, hb, hr, hml, hts, hown, hlk, hnm, hK, hN⟩ := id C
  have hl : lv_has ls 3 [(0, .ref an), (1, .int (nI j)), (2, .ref am)] := hl
  refine lv_aload_n hx hb dX5_isAlike_0 rfl (lv_at hl 0 rfl) ?_
  refine r_get (v := .ref u0) C hP okX5 0 0 rfl (by decide) fl_X5_9 rfl rfl dX5_isAlike_1 ?_
  refine lv_iload_n hx hb dX5_isAlike_4 rfl (lv_at hl 1 rfl) ?_
  refine r_lald (j := j) C hP 1 rfl (by omega) (by decide) dX5_isAlike_5 ?_
  refine lv_aload_n hx hb dX5_isAlike_6 rfl (lv_at hl 2 rfl) ?_
  refine r_get (v := .long w) C hP okX3 3 0 rfl (by decide) fl_X5_73 rfl rfl dX5_isAlike_7 ?_
  refine lv_lxor hx hb dX5_isAlike_10 ?_
  refine lv_aload_n hx hb dX5_isAlike_11 rfl (lv_at hl 0 rfl) ?_
  refine r_get (v := .long ncl) C hP okX5 0 12 rfl (by decide) fl_X5_68 rfl rfl dX5_isAlike_12 ?_
  refine lv_land hx hb dX5_isAlike_15 ?_
  refine lv_lconst (v := 0) hx hb dX5_isAlike_16 (by decide) ?_
  refine W.lcmp hx hb dX5_isAlike_17 ?_
  refine lv_if_ne (tgt := 38) hx hb dX5_isAlike_18 (by decide) (fun c_18 => ?_) (fun c_18 => ?_)
  · -- taken 18
    have c_18 : ¬ (((nw j) ^^^ w) &&& ncl = 0) := fun z => c_18 ((lg_cmp_eq _ _).mpr z)
    refine lv_iconst (v := 0) hx hb dX5_isAlike_38 (by decide) ?_
    exact rt_z C hQ (by decide) (hP.sub (ws' := [(an, .inr (6, [.ref u0, .ref u1, .ref u2, .ref u3, .int (nI nn), .int (nI ndd), .ref u4, .ref u5, .ref u6, .ref u7, .ref u8, .int (nI ncc), .long ncl])), (u0, .inl (cJ, 1500, .inr (.inl nw))), (u4, .inl (cI, 1500, .inl ne)), (am, .inr (4, [.long w, .int en, .int lt, .int sh]))]) [0, 1, 2, 3] rfl) (hD.sub [0, 1, 2, 3] (by decide) rfl) hS ⟨Or.inr ⟨rfl, by simp only [f_alike, Bool.and_eq_true, decide_eq_true_eq]; first | exact fun z => c_18 z.1 | exact fun z => c_31 z.2⟩, rfl⟩ (by decide) (by decide) dX5_isAlike_39
  · -- not taken 18
    have c_18 : ((nw j) ^^^ w) &&& ncl = 0 := (lg_cmp_eq _ _).mp c_18
    refine lv_aload_n hx hb dX5_isAlike_21 rfl (lv_at hl 0 rfl) ?_
    refine r_get (v := .ref u4) C hP okX5 0 6 rfl (by decide) fl_X5_25 rfl rfl dX5_isAlike_22 ?_
    refine lv_iload_n hx hb dX5_isAlike_25 rfl (lv_at hl 1 rfl) ?_
    refine r_iald (j := j) C hP 2 rfl (by omega) (by decide) dX5_isAlike_26 ?_
    refine lv_aload_n hx hb dX5_isAlike_27 rfl (lv_at hl 2 rfl) ?_
    refine r_get (v := .int en) C hP okX3 3 1 rfl (by decide) fl_X5_78 rfl rfl dX5_isAlike_28 ?_
    refine lv_icmp_ne (tgt := 38) hx hb dX5_isAlike_31 (by decide) (fun c_31 => ?_) (fun c_31 => ?_)
    · -- taken 31
      refine lv_iconst (v := 0) hx hb dX5_isAlike_38 (by decide) ?_
      exact rt_z C hQ (by decide) (hP.sub (ws' := [(an, .inr (6, [.ref u0, .ref u1, .ref u2, .ref u3, .int (nI nn), .int (nI ndd), .ref u4, .ref u5, .ref u6, .ref u7, .ref u8, .int (nI ncc), .long ncl])), (u0, .inl (cJ, 1500, .inr (.inl nw))), (u4, .inl (cI, 1500, .inl ne)), (am, .inr (4, [.long w, .int en, .int lt, .int sh]))]) [0, 1, 2, 3] rfl) (hD.sub [0, 1, 2, 3] (by decide) rfl) hS ⟨Or.inr ⟨rfl, by simp only [f_alike, Bool.and_eq_true, decide_eq_true_eq]; first | exact fun z => c_18 z.1 | exact fun z => c_31 z.2⟩, rfl⟩ (by decide) (by decide) dX5_isAlike_39
    · -- not taken 31
      refine lv_iconst (v := 1) hx hb dX5_isAlike_34 (by decide) ?_
      refine lv_goto (tgt := 39) hx hb dX5_isAlike_35 (by decide) ?_
      exact rt_z C hQ (by decide) (hP.sub (ws' := [(an, .inr (6, [.ref u0, .ref u1, .ref u2, .ref u3, .int (nI nn), .int (nI ndd), .ref u4, .ref u5, .ref u6, .ref u7, .ref u8, .int (nI ncc), .long ncl])), (u0, .inl (cJ, 1500, .inr (.inl nw))), (u4, .inl (cI, 1500, .inl ne)), (am, .inr (4, [.long w, .int en, .int lt, .int sh]))]) [0, 1, 2, 3] rfl) (hD.sub [0, 1, 2, 3] (by decide) rfl) hS ⟨Or.inl ⟨rfl, by simp [f_alike, c_18, c_31]⟩, rfl⟩ (by decide) (by decide) dX5_isAlike_39
set_option maxHeartbeats 4000000 in
set_option maxRecDepth 100000 in
theorem lp_X5_slotFor_33 (l : Launch) (D : va_G) (cI cJ cZ : ClassId) (an : Nat) (u0 : Nat) (u1 : Nat) (u2 : Nat) (u3 : Nat) (u4 : Nat) (u5 : Nat) (u6 : Nat) (u7 : Nat) (u8 : Nat) (nn : Nat) (ndd : Nat) (ncc : Nat) (ncl : Int64) (nw : Nat → Int64) (ne : Nat → Int32) (sl : Nat → Int32) (am : Nat) (w : Int64) (en : Int32) (lt : Int32) (sh : Int32) (hsl : slOK sl)   {p : Program} {e : Env} {s : State} {m : MethodId} {below : List Frame} {meth : Method} {c : Code} {A : Nat → Prop} {Q : State → Prop} (C : Cx D cI cJ cZ p s m ([.ref an, .ref am] : List Value).toArray meth c yX5_slotFor cX5_slotFor 7 (some .int)) (hQ : QOK Q below s ([.ref an, .ref am] : List Value).toArray D A (fun r W => r = some (.int (nI (f_slot sl nw ne ncl w en))) ∧ W = [(an, .inr (6, [.ref u0, .ref u1, .ref u2, .ref u3, .int (nI nn), .int (nI ndd), .ref u4, .ref u5, .ref u6, .ref u7, .ref u8, .int (nI ncc), .long ncl])), (u0, .inl (cJ, 1500, .inr (.inl nw))), (u4, .inl (cI, 1500, .inl ne)), (u8, .inl (cI, 4096, .inl sl)), (am, .inr (4, [.long w, .int en, .int lt, .int sh]))]) 0 0) (hA : ∀ q, s.heap.size ≤ q → A q) : ∀ (ku : Nat) (i : Nat) (sx : Nat) (hi : i ≤ 4096) (hs : sx < 4096) (hp : f_probe (f_alike nw ne ncl w en) sl (4096 - i) sx = f_slot sl nw ne ncl w en), (4096 - i) < ku → ∀ (H : Heap) (locs : List Loc) (ls : Array Slot), va_P D vwCl [(an, .inr (6, [.ref u0, .ref u1, .ref u2, .ref u3, .int (nI nn), .int (nI ndd), .ref u4, .ref u5, .ref u6, .ref u7, .ref u8, .int (nI ncc), .long ncl])), (u0, .inl (cJ, 1500, .inr (.inl nw))), (u4, .inl (cI, 1500, .inl ne)), (u8, .inl (cI, 4096, .inl sl)), (am, .inr (4, [.long w, .int en, .int lt, .int sh]))] H → va_D A [(an, .inr (6, [.ref u0, .ref u1, .ref u2, .ref u3, .int (nI nn), .int (nI ndd), .ref u4, .ref u5, .ref u6, .ref u7, .ref u8, .int (nI ncc), .long ncl])), (u0, .inl (cJ, 1500, .inr (.inl nw))), (u4, .inl (cI, 1500, .inl ne)), (u8, .inl (cI, 4096, .inl sl)), (am, .inr (4, [.long w, .int en, .int lt, .int sh]))] → va_S A s.heap H locs → lv_has ls 7 [(0, .ref an), (1, .ref am), (4, .int (nI sx)), (5, .int (nI i))] → W p l e ({ frames := 1, cells := 0, slots := 0, locals := 22 } : Room) s m ([.ref an, .ref am] : List Value).toArray below meth c H locs 0 0 Q (F0 m 33 ls []) := by
  obtain ⟨hx, hb, hr, hml, hts, hown, hlk, hnm, hK, hN⟩ := id C
  intro ku
  induction ku with
  | zero =>
    intro i sx hi hs hp hku
    exact absurd hku (Nat.not_lt_zero _)
  | succ ku ih =>
    intro i sx hi hs hp hku H locs ls hP hD hS hl
    refine lv_iload hx hb dX5_slotFor_33 (lv_at hl 3 rfl) ?_
    refine lv_sipush (v := 4096) hx hb dX5_slotFor_35 (by decide) ?_
    refine lv_icmp_ge (tgt := 85) hx hb dX5_slotFor_38 (by decide) (fun c_38 => ?_) (fun c_38 => ?_)
    · -- taken 38
      have c_38 : 4096 ≤ i := (nI_leI (a := 4096) (b := i) (by omega) (by omega)).mp c_38
      refine lv_iload hx hb dX5_slotFor_85 (lv_at hl 2 rfl) ?_
      exact rt_i C hQ (hP.sub (ws' := [(an, .inr (6, [.ref u0, .ref u1, .ref u2, .ref u3, .int (nI nn), .int (nI ndd), .ref u4, .ref u5, .ref u6, .ref u7, .ref u8, .int (nI ncc), .long ncl])), (u0, .inl (cJ, 1500, .inr (.inl nw))), (u4, .inl (cI, 1500, .inl ne)), (u8, .inl (cI, 4096, .inl sl)), (am, .inr (4, [.long w, .int en, .int lt, .int sh]))]) [0, 1, 2, 3, 4] rfl) (hD.sub [0, 1, 2, 3, 4] (by decide) rfl) hS ⟨by rw [← hp, show 4096 - i = 0 by omega]; rfl, rfl⟩ (by decide) (by decide) dX5_slotFor_87
    · -- not taken 38
      have c_38 : ¬ (4096 ≤ i) := fun z => c_38 ((nI_leI (a := 4096) (b := i) (by omega) (by omega)).mpr z)
      refine lv_aload_n hx hb dX5_slotFor_41 rfl (lv_at hl 0 rfl) ?_
      refine r_get (v := .ref u8) C hP okX5 0 10 rfl (by decide) fl_X5_38 rfl rfl dX5_slotFor_42 ?_
      refine lv_iload hx hb dX5_slotFor_45 (lv_at hl 2 rfl) ?_
      refine r_iald (j := sx) C hP 3 rfl (by omega) (by decide) dX5_slotFor_47 ?_
      refine lv_istore (lv' := [(6, .int (sl sx)), (0, .ref an), (1, .ref am), (4, .int (nI sx)), (5, .int (nI i))]) hx hb dX5_slotFor_48 hl (by decide) rfl (fun ls hl => ?_)
      refine lv_iload hx hb dX5_slotFor_50 (lv_at hl 0 rfl) ?_
      refine lv_iconst (v := (-1)) hx hb dX5_slotFor_52 (by decide) ?_
      refine lv_icmp_eq (tgt := 66) hx hb dX5_slotFor_53 (by decide) (fun c_53 => ?_) (fun c_53 => ?_)
      · -- taken 53
        refine lv_iload hx hb dX5_slotFor_66 (lv_at hl 3 rfl) ?_
        exact rt_i C hQ (hP.sub (ws' := [(an, .inr (6, [.ref u0, .ref u1, .ref u2, .ref u3, .int (nI nn), .int (nI ndd), .ref u4, .ref u5, .ref u6, .ref u7, .ref u8, .int (nI ncc), .long ncl])), (u0, .inl (cJ, 1500, .inr (.inl nw))), (u4, .inl (cI, 1500, .inl ne)), (u8, .inl (cI, 4096, .inl sl)), (am, .inr (4, [.long w, .int en, .int lt, .int sh]))]) [0, 1, 2, 3, 4] rfl) (hD.sub [0, 1, 2, 3, 4] (by decide) rfl) hS ⟨by rw [← hp, f_probe_1 (by omega) c_53], rfl⟩ (by decide) (by decide) dX5_slotFor_68
      · -- not taken 53
        refine lv_aload_n hx hb dX5_slotFor_56 rfl (lv_at hl 1 rfl) ?_
        refine lv_iload hx hb dX5_slotFor_57 (lv_at hl 0 rfl) ?_
        obtain ⟨j, hj, ej⟩ : ∃ j, j < 1500 ∧ sl sx = nI j := (hsl sx hs).resolve_left c_53
        refine r_top ej ?_
        refine lv_aload_n hx hb dX5_slotFor_59 rfl (lv_at hl 2 rfl) ?_
        refine cl_v C (c_X5_isAlike l D cI cJ cZ an u0 u1 u2 u3 u4 u5 u6 u7 u8 nn ndd ncc ncl nw ne am w en lt sh j (by omega)) cd_X5_isAlike ml_X5_83 im_X5_isAlike se_X5_isAlike in_X5 hd_X5_isAlike ⟨by decide, by decide⟩ hP hD hS hA (WR := [(u8, .inl (cI, 4096, .inl sl))]) [0, 1, 2, 4] [3] rfl rfl rfl rfl (by decide) (ci := 6) (q0 := 0) rfl rfl hl.1 rfl (Nat.le_of_ble_eq_true rfl) dX5_slotFor_60 ⟨by decide, by decide⟩ (fun r W H locs hp hP hD hS => ?_)
        rcases hp with ⟨⟨rfl, hb_60⟩ | ⟨rfl, hb_60⟩, rfl⟩
        · -- yes 60
          refine W.eq (g2 := F0 m 63 ls [.int 1]) rfl ?_
          have hP : va_P D vwCl [(u8, .inl (cI, 4096, .inl sl)), (an, .inr (6, [.ref u0, .ref u1, .ref u2, .ref u3, .int (nI nn), .int (nI ndd), .ref u4, .ref u5, .ref u6, .ref u7, .ref u8, .int (nI ncc), .long ncl])), (u0, .inl (cJ, 1500, .inr (.inl nw))), (u4, .inl (cI, 1500, .inl ne)), (am, .inr (4, [.long w, .int en, .int lt, .int sh]))] H := hP
          have hD : va_D A [(u8, .inl (cI, 4096, .inl sl)), (an, .inr (6, [.ref u0, .ref u1, .ref u2, .ref u3, .int (nI nn), .int (nI ndd), .ref u4, .ref u5, .ref u6, .ref u7, .ref u8, .int (nI ncc), .long ncl])), (u0, .inl (cJ, 1500, .inr (.inl nw))), (u4, .inl (cI, 1500, .inl ne)), (am, .inr (4, [.long w, .int en, .int lt, .int sh]))] := hD
          refine lv_if_eq (tgt := 69) hx hb dX5_slotFor_63 (by decide) (fun c_63 => ?_) (fun c_63 => ?_)
          · exact absurd c_63 (by decide)
          refine lv_iload hx hb dX5_slotFor_66 (lv_at hl 3 rfl) ?_
          exact rt_i C hQ (hP.sub (ws' := [(an, .inr (6, [.ref u0, .ref u1, .ref u2, .ref u3, .int (nI nn), .int (nI ndd), .ref u4, .ref u5, .ref u6, .ref u7, .ref u8, .int (nI ncc), .long ncl])), (u0, .inl (cJ, 1500, .inr (.inl nw))), (u4, .inl (cI, 1500, .inl ne)), (u8, .inl (cI, 4096, .inl sl)), (am, .inr (4, [.long w, .int en, .int lt, .int sh]))]) [1, 2, 3, 0, 4] rfl) (hD.sub [1, 2, 3, 0, 4] (by decide) rfl) hS ⟨by rw [← hp, f_probe_2 (by omega) c_53 hj ej hb_60], rfl⟩ (by decide) (by decide) dX5_slotFor_68
        · -- no 60
          refine W.eq (g2 := F0 m 63 ls [.int 0]) rfl ?_
          have hP : va_P D vwCl [(u8, .inl (cI, 4096, .inl sl)), (an, .inr (6, [.ref u0, .ref u1, .ref u2, .ref u3, .int (nI nn), .int (nI ndd), .ref u4, .ref u5, .ref u6, .ref u7, .ref u8, .int (nI ncc), .long ncl])), (u0, .inl (cJ, 1500, .inr (.inl nw))), (u4, .inl (cI, 1500, .inl ne)), (am, .inr (4, [.long w, .int en, .int lt, .int sh]))] H := hP
          have hD : va_D A [(u8, .inl (cI, 4096, .inl sl)), (an, .inr (6, [.ref u0, .ref u1, .ref u2, .ref u3, .int (nI nn), .int (nI ndd), .ref u4, .ref u5, .ref u6, .ref u7, .ref u8, .int (nI ncc), .long ncl])), (u0, .inl (cJ, 1500, .inr (.inl nw))), (u4, .inl (cI, 1500, .inl ne)), (am, .inr (4, [.long w, .int en, .int lt, .int sh]))] := hD
          refine lv_if_eq (tgt := 69) hx hb dX5_slotFor_63 (by decide) (fun c_63 => ?_) (fun c_63 => ?_)
          rotate_left
          · exact absurd c_63 (by decide)
          refine lv_iload hx hb dX5_slotFor_69 (lv_at hl 3 rfl) ?_
          refine lv_iconst (v := 1) hx hb dX5_slotFor_71 (by decide) ?_
          refine lv_iadd hx hb dX5_slotFor_72 ?_
          refine r_top (x' := nI (sx + 1)) (nI_add sx 1) ?_
          refine lv_sipush (v := 4096) hx hb dX5_slotFor_73 (by decide) ?_
          refine lv_irem hx hb dX5_slotFor_76 (by decide) ?_
          refine r_top (x' := nI ((sx + 1) % 4096)) (pk_rem (a := sx + 1) (d := 4096) (by omega) (by omega) (by omega)) ?_
          refine lv_istore (lv' := [(4, .int (nI ((sx + 1) % 4096))), (6, .int (sl sx)), (0, .ref an), (1, .ref am), (5, .int (nI i))]) hx hb dX5_slotFor_77 hl (by decide) rfl (fun ls hl => ?_)
          refine lv_iinc (v := nI (i + 1)) (lv' := [(5, .int (nI (i + 1))), (4, .int (nI ((sx + 1) % 4096))), (6, .int (sl sx)), (0, .ref an), (1, .ref am)]) hx hb dX5_slotFor_79 hl (k := 4) rfl (nI_1 _) (by decide) rfl (fun ls hl => ?_)
          refine lv_goto (tgt := 33) hx hb dX5_slotFor_82 (by decide) ?_
          exact ih (i + 1) ((sx + 1) % 4096) (by omega) (Nat.mod_lt _ (by decide)) (by rw [← hp, f_probe_3 (k := 4096 - i) (by omega) c_53 hj ej hb_60, show 4096 - (i + 1) = 4096 - i - 1 by omega]) (by omega) _ _ _ (hP.sub [1, 2, 3, 0, 4] rfl) (hD.sub [1, 2, 3, 0, 4] (by decide) rfl) hS (lv_sub hl [3, 4, 1, 0] rfl)
set_option maxHeartbeats 4000000 in
set_option maxRecDepth 100000 in
theorem c_X5_slotFor (l : Launch) (D : va_G) (cI cJ cZ : ClassId) (an : Nat) (u0 : Nat) (u1 : Nat) (u2 : Nat) (u3 : Nat) (u4 : Nat) (u5 : Nat) (u6 : Nat) (u7 : Nat) (u8 : Nat) (nn : Nat) (ndd : Nat) (ncc : Nat) (ncl : Int64) (nw : Nat → Int64) (ne : Nat → Int32) (sl : Nat → Int32) (am : Nat) (w : Int64) (en : Int32) (lt : Int32) (sh : Int32) (hsl : slOK sl) : Ctr l D cI cJ cZ yX5_slotFor cX5_slotFor 7 (some .int) ({ frames := 1, cells := 0, slots := 0, locals := 22 } : Room) [.ref an, .ref am] [(an, .inr (6, [.ref u0, .ref u1, .ref u2, .ref u3, .int (nI nn), .int (nI ndd), .ref u4, .ref u5, .ref u6, .ref u7, .ref u8, .int (nI ncc), .long ncl])), (u0, .inl (cJ, 1500, .inr (.inl nw))), (u4, .inl (cI, 1500, .inl ne)), (u8, .inl (cI, 4096, .inl sl)), (am, .inr (4, [.long w, .int en, .int lt, .int sh]))] (fun r W => r = some (.int (nI (f_slot sl nw ne ncl w en))) ∧ W = [(an, .inr (6, [.ref u0, .ref u1, .ref u2, .ref u3, .int (nI nn), .int (nI ndd), .ref u4, .ref u5, .ref u6, .ref u7, .ref u8, .int (nI ncc), .long ncl])), (u0, .inl (cJ, 1500, .inr (.inl nw))), (u4, .inl (cI, 1500, .inl ne)), (u8, .inl (cI, 4096, .inl sl)), (am, .inr (4, [.long w, .int en, .int lt, .int sh]))]) := by
  refine Ctr.start (by decide +kernel) (Nat.le_of_ble_eq_true rfl) ?_
  intro p e s m below meth c A Q ls H C hQ hA hP hD hS hl
  obtain ⟨hx, hb, hr, hml, hts, hown, hlk, hnm, hK, hN⟩ := id C
  have hl : lv_has ls 7 [(0, .ref an), (1, .ref am)] := hl
  refine lv_aload_n hx hb dX5_slotFor_0 rfl (lv_at hl 1 rfl) ?_
  refine r_get (v := .long w) C hP okX3 4 0 rfl (by decide) fl_X5_73 rfl rfl dX5_slotFor_1 ?_
  refine lv_aload_n hx hb dX5_slotFor_4 rfl (lv_at hl 0 rfl) ?_
  refine r_get (v := .long ncl) C hP okX5 0 12 rfl (by decide) fl_X5_68 rfl rfl dX5_slotFor_5 ?_
  refine lv_land hx hb dX5_slotFor_8 ?_
  refine lv_aload_n hx hb dX5_slotFor_9 rfl (lv_at hl 1 rfl) ?_
  refine r_get (v := .int en) C hP okX3 4 1 rfl (by decide) fl_X5_78 rfl rfl dX5_slotFor_10 ?_
  refine lv_i2l (v := en.toInt64) hx hb dX5_slotFor_13 rfl ?_
  refine lv_bipush (v := 40) hx hb dX5_slotFor_14 (by decide) ?_
  refine lv_lshl (v := en.toInt64 <<< ((40 : Int32).toInt64 &&& 63)) hx hb dX5_slotFor_16 rfl ?_
  refine lv_lor hx hb dX5_slotFor_17 ?_
  refine lv_lstore_n (lv' := [(2, .long ((w &&& ncl) ||| (en.toInt64 <<< ((40 : Int32).toInt64 &&& 63)))), (0, .ref an), (1, .ref am)]) hx hb dX5_slotFor_18 rfl hl (by decide) rfl (fun ls hl => ?_)
  refine lv_lload_n hx hb dX5_slotFor_19 rfl (lv_at hl 0 rfl) ?_
  refine lv_ldc2 (v := (-7046029254386353131)) hx hb hown (hts _ cn_X5_81) dX5_slotFor_20 ?_
  refine lv_lmul hx hb dX5_slotFor_23 ?_
  refine lv_bipush (v := 52) hx hb dX5_slotFor_24 (by decide) ?_
  refine lv_lushr (v := ((((w &&& ncl) ||| (en.toInt64 <<< ((40 : Int32).toInt64 &&& 63))) * (-7046029254386353131)).toUInt64 >>> ((52 : Int32).toInt64.toUInt64 &&& Int64.toUInt64 63)).toInt64) hx hb dX5_slotFor_26 rfl ?_
  refine lv_l2i (v := (((((w &&& ncl) ||| (en.toInt64 <<< ((40 : Int32).toInt64 &&& 63))) * (-7046029254386353131)).toUInt64 >>> ((52 : Int32).toInt64.toUInt64 &&& Int64.toUInt64 63)).toInt64).toInt32) hx hb dX5_slotFor_27 rfl ?_
  refine r_top (x' := nI (f_hash w ncl en)) (f_hashN_eq _) ?_
  refine lv_istore (lv' := [(4, .int (nI (f_hash w ncl en))), (2, .long ((w &&& ncl) ||| (en.toInt64 <<< ((40 : Int32).toInt64 &&& 63)))), (0, .ref an), (1, .ref am)]) hx hb dX5_slotFor_28 hl (by decide) rfl (fun ls hl => ?_)
  refine lv_iconst (v := 0) hx hb dX5_slotFor_30 (by decide) ?_
  refine lv_istore (lv' := [(5, .int 0), (4, .int (nI (f_hash w ncl en))), (2, .long ((w &&& ncl) ||| (en.toInt64 <<< ((40 : Int32).toInt64 &&& 63)))), (0, .ref an), (1, .ref am)]) hx hb dX5_slotFor_31 hl (by decide) rfl (fun ls hl => ?_)
  exact lp_X5_slotFor_33 l D cI cJ cZ an u0 u1 u2 u3 u4 u5 u6 u7 u8 nn ndd ncc ncl nw ne sl am w en lt sh hsl   C hQ hA _ 0 (f_hash w ncl en) (by omega) (f_hashN_lt _) rfl (Nat.lt_succ_self _) _ _ _ (hP.sub [0, 1, 2, 3, 4] rfl) (hD.sub [0, 1, 2, 3, 4] (by decide) rfl) hS (lv_sub hl [3, 4, 1, 0] rfl)
set_option maxHeartbeats 4000000 in
set_option maxRecDepth 100000 in
theorem c_X5_hasAlike (l : Launch) (D : va_G) (cI cJ cZ : ClassId) (an : Nat) (u0 : Nat) (u1 : Nat) (u2 : Nat) (u3 : Nat) (u4 : Nat) (u5 : Nat) (u6 : Nat) (u7 : Nat) (u8 : Nat) (nn : Nat) (ndd : Nat) (ncc : Nat) (ncl : Int64) (nw : Nat → Int64) (ne : Nat → Int32) (sl : Nat → Int32) (am : Nat) (w : Int64) (en : Int32) (lt : Int32) (sh : Int32) (hsl : slOK sl) : Ctr l D cI cJ cZ yX5_hasAlike cX5_hasAlike 2 (some .boolean) ({ frames := 2, cells := 0, slots := 0, locals := 48 } : Room) [.ref an, .ref am] [(an, .inr (6, [.ref u0, .ref u1, .ref u2, .ref u3, .int (nI nn), .int (nI ndd), .ref u4, .ref u5, .ref u6, .ref u7, .ref u8, .int (nI ncc), .long ncl])), (u0, .inl (cJ, 1500, .inr (.inl nw))), (u4, .inl (cI, 1500, .inl ne)), (u8, .inl (cI, 4096, .inl sl)), (am, .inr (4, [.long w, .int en, .int lt, .int sh]))] (fun r W => ((r = some (.int 1) ∧ (¬ sl (f_slot sl nw ne ncl w en) = -1)) ∨ (r = some (.int 0) ∧ ¬ (¬ sl (f_slot sl nw ne ncl w en) = -1))) ∧ W = [(an, .inr (6, [.ref u0, .ref u1, .ref u2, .ref u3, .int (nI nn), .int (nI ndd), .ref u4, .ref u5, .ref u6, .ref u7, .ref u8, .int (nI ncc), .long ncl])), (u0, .inl (cJ, 1500, .inr (.inl nw))), (u4, .inl (cI, 1500, .inl ne)), (u8, .inl (cI, 4096, .inl sl)), (am, .inr (4, [.long w, .int en, .int lt, .int sh]))]) := by
  refine Ctr.start (by decide +kernel) (Nat.le_of_ble_eq_true rfl) ?_
  intro p e s m below meth c A Q ls H C hQ hA hP hD hS hl
  obtain ⟨hx, hb, hr, hml, hts, hown, hlk, hnm, hK, hN⟩ := id C
  have hl : lv_has ls 2 [(0, .ref an), (1, .ref am)] := hl
  refine lv_aload_n hx hb dX5_hasAlike_0 rfl (lv_at hl 0 rfl) ?_
  refine r_get (v := .ref u8) C hP okX5 0 10 rfl (by decide) fl_X5_38 rfl rfl dX5_hasAlike_1 ?_
  refine lv_aload_n hx hb dX5_hasAlike_4 rfl (lv_at hl 0 rfl) ?_
  refine lv_aload_n hx hb dX5_hasAlike_5 rfl (lv_at hl 1 rfl) ?_
  refine cl_v C (c_X5_slotFor l D cI cJ cZ an u0 u1 u2 u3 u4 u5 u6 u7 u8 nn ndd ncc ncl nw ne sl am w en lt sh hsl) cd_X5_slotFor ml_X5_69 im_X5_slotFor se_X5_slotFor in_X5 hd_X5_slotFor ⟨by decide, by decide⟩ hP hD hS hA (WR := []) [0, 1, 2, 3, 4] [] rfl rfl rfl rfl (by decide) (ci := 6) (q0 := 0) rfl rfl hl.1 rfl (Nat.le_of_ble_eq_true rfl) dX5_hasAlike_6 ⟨by decide, by decide⟩ (fun r W H locs hp hP hD hS => ?_)
  obtain ⟨rfl, rfl⟩ := hp
  refine W.eq (g2 := F0 m 9 ls [.int (nI (f_slot sl nw ne ncl w en)), .ref u8]) rfl ?_
  have hP : va_P D vwCl [(an, .inr (6, [.ref u0, .ref u1, .ref u2, .ref u3, .int (nI nn), .int (nI ndd), .ref u4, .ref u5, .ref u6, .ref u7, .ref u8, .int (nI ncc), .long ncl])), (u0, .inl (cJ, 1500, .inr (.inl nw))), (u4, .inl (cI, 1500, .inl ne)), (u8, .inl (cI, 4096, .inl sl)), (am, .inr (4, [.long w, .int en, .int lt, .int sh]))] H := hP
  have hD : va_D A [(an, .inr (6, [.ref u0, .ref u1, .ref u2, .ref u3, .int (nI nn), .int (nI ndd), .ref u4, .ref u5, .ref u6, .ref u7, .ref u8, .int (nI ncc), .long ncl])), (u0, .inl (cJ, 1500, .inr (.inl nw))), (u4, .inl (cI, 1500, .inl ne)), (u8, .inl (cI, 4096, .inl sl)), (am, .inr (4, [.long w, .int en, .int lt, .int sh]))] := hD
  refine r_iald (j := f_slot sl nw ne ncl w en) C hP 3 rfl (f_slot_lt _ _ _ _ _ _) (by decide) dX5_hasAlike_9 ?_
  refine lv_iconst (v := (-1)) hx hb dX5_hasAlike_10 (by decide) ?_
  refine lv_icmp_eq (tgt := 18) hx hb dX5_hasAlike_11 (by decide) (fun c_11 => ?_) (fun c_11 => ?_)
  · -- taken 11
    refine lv_iconst (v := 0) hx hb dX5_hasAlike_18 (by decide) ?_
    exact rt_z C hQ (by decide) (hP.sub (ws' := [(an, .inr (6, [.ref u0, .ref u1, .ref u2, .ref u3, .int (nI nn), .int (nI ndd), .ref u4, .ref u5, .ref u6, .ref u7, .ref u8, .int (nI ncc), .long ncl])), (u0, .inl (cJ, 1500, .inr (.inl nw))), (u4, .inl (cI, 1500, .inl ne)), (u8, .inl (cI, 4096, .inl sl)), (am, .inr (4, [.long w, .int en, .int lt, .int sh]))]) [0, 1, 2, 3, 4] rfl) (hD.sub [0, 1, 2, 3, 4] (by decide) rfl) hS ⟨Or.inr ⟨rfl, (by first | exact c_11 | exact fun z => z c_11)⟩, rfl⟩ (by decide) (by decide) dX5_hasAlike_19
  · -- not taken 11
    refine lv_iconst (v := 1) hx hb dX5_hasAlike_14 (by decide) ?_
    refine lv_goto (tgt := 19) hx hb dX5_hasAlike_15 (by decide) ?_
    exact rt_z C hQ (by decide) (hP.sub (ws' := [(an, .inr (6, [.ref u0, .ref u1, .ref u2, .ref u3, .int (nI nn), .int (nI ndd), .ref u4, .ref u5, .ref u6, .ref u7, .ref u8, .int (nI ncc), .long ncl])), (u0, .inl (cJ, 1500, .inr (.inl nw))), (u4, .inl (cI, 1500, .inl ne)), (u8, .inl (cI, 4096, .inl sl)), (am, .inr (4, [.long w, .int en, .int lt, .int sh]))]) [0, 1, 2, 3, 4] rfl) (hD.sub [0, 1, 2, 3, 4] (by decide) rfl) hS ⟨Or.inl ⟨rfl, (by first | exact c_11 | exact fun z => z c_11)⟩, rfl⟩ (by decide) (by decide) dX5_hasAlike_19
set_option maxHeartbeats 4000000 in
set_option maxRecDepth 100000 in
theorem c_X5_add (l : Launch) (D : va_G) (cI cJ cZ : ClassId) (an : Nat) (u0 : Nat) (u1 : Nat) (u2 : Nat) (u3 : Nat) (u4 : Nat) (u5 : Nat) (u6 : Nat) (u7 : Nat) (u8 : Nat) (nn : Nat) (ndd : Nat) (ncc : Nat) (ncl : Int64) (nw : Nat → Int64) (nb : Nat → Int32) (ns : Nat → Int32) (ndp : Nat → Nat) (ne : Nat → Int32) (nsc : Nat → Int32) (ntk : Nat → Int32) (nde : Nat → Int32) (sl : Nat → Int32) (am : Nat) (w : Int64) (en : Int32) (lt : Int32) (sh : Int32) (bf : Int32) (sp : Int32) (sco : Int32) (hnn : nn < 1500) (hsl : slOK sl) (hbf : bfOK bf) : Ctr l D cI cJ cZ yX5_add cX5_add 6 none ({ frames := 2, cells := 0, slots := 0, locals := 48 } : Room) [.ref an, .int bf, .int sp, .ref am, .int sco] [(an, .inr (6, [.ref u0, .ref u1, .ref u2, .ref u3, .int (nI nn), .int (nI ndd), .ref u4, .ref u5, .ref u6, .ref u7, .ref u8, .int (nI ncc), .long ncl])), (u0, .inl (cJ, 1500, .inr (.inl nw))), (u1, .inl (cI, 1500, .inl nb)), (u2, .inl (cI, 1500, .inl ns)), (u3, .inl (cI, 1500, .inl (nF ndp))), (u4, .inl (cI, 1500, .inl ne)), (u5, .inl (cI, 1500, .inl nsc)), (u6, .inl (cZ, 1500, .inl ntk)), (u7, .inl (cZ, 1500, .inl nde)), (u8, .inl (cI, 4096, .inl sl)), (am, .inr (4, [.long w, .int en, .int lt, .int sh]))] (fun r W => r = none ∧ W = [(an, .inr (6, [.ref u0, .ref u1, .ref u2, .ref u3, .int (nI (nn + 1)), .int (nI ndd), .ref u4, .ref u5, .ref u6, .ref u7, .ref u8, .int (nI ncc), .long ncl])), (u0, .inl (cJ, 1500, .inr (.inl (vp_updL nw nn w)))), (u1, .inl (cI, 1500, .inl (upd nb nn bf))), (u2, .inl (cI, 1500, .inl (upd ns nn sp))), (u3, .inl (cI, 1500, .inl (nF (updN ndp nn (f_dep ndp bf))))), (u4, .inl (cI, 1500, .inl (upd ne nn en))), (u5, .inl (cI, 1500, .inl (upd nsc nn sco))), (u6, .inl (cZ, 1500, .inl (upd ntk nn 0))), (u7, .inl (cZ, 1500, .inl (upd nde nn 0))), (u8, .inl (cI, 4096, .inl (if sl (f_slot sl nw ne ncl w en) = -1 then upd sl (f_slot sl nw ne ncl w en) (nI nn) else sl))), (am, .inr (4, [.long w, .int en, .int lt, .int sh]))]) := by
  refine Ctr.start (by decide +kernel) (Nat.le_of_ble_eq_true rfl) ?_
  intro p e s m below meth c A Q ls H C hQ hA hP hD hS hl
  obtain ⟨hx, hb, hr, hml, hts, hown, hlk, hnm, hK, hN⟩ := id C
  have hl : lv_has ls 6 [(0, .ref an), (1, .int bf), (2, .int sp), (3, .ref am), (4, .int sco)] := hl
  refine lv_aload_n hx hb dX5_add_0 rfl (lv_at hl 0 rfl) ?_
  refine lv_aload_n hx hb dX5_add_1 rfl (lv_at hl 3 rfl) ?_
  refine cl_v C (c_X5_slotFor l D cI cJ cZ an u0 u1 u2 u3 u4 u5 u6 u7 u8 nn ndd ncc ncl nw ne sl am w en lt sh hsl) cd_X5_slotFor ml_X5_69 im_X5_slotFor se_X5_slotFor in_X5 hd_X5_slotFor ⟨by decide, by decide⟩ hP hD hS hA (WR := [(u1, .inl (cI, 1500, .inl nb)), (u2, .inl (cI, 1500, .inl ns)), (u3, .inl (cI, 1500, .inl (nF ndp))), (u5, .inl (cI, 1500, .inl nsc)), (u6, .inl (cZ, 1500, .inl ntk)), (u7, .inl (cZ, 1500, .inl nde))]) [0, 1, 5, 9, 10] [2, 3, 4, 6, 7, 8] rfl rfl rfl rfl (by decide) (ci := 6) (q0 := 0) rfl rfl hl.1 rfl (Nat.le_of_ble_eq_true rfl) dX5_add_2 ⟨by decide, by decide⟩ (fun r W H locs hp hP hD hS => ?_)
  obtain ⟨rfl, rfl⟩ := hp
  refine W.eq (g2 := F0 m 5 ls [.int (nI (f_slot sl nw ne ncl w en))]) rfl ?_
  have hP : va_P D vwCl [(u1, .inl (cI, 1500, .inl nb)), (u2, .inl (cI, 1500, .inl ns)), (u3, .inl (cI, 1500, .inl (nF ndp))), (u5, .inl (cI, 1500, .inl nsc)), (u6, .inl (cZ, 1500, .inl ntk)), (u7, .inl (cZ, 1500, .inl nde)), (an, .inr (6, [.ref u0, .ref u1, .ref u2, .ref u3, .int (nI nn), .int (nI ndd), .ref u4, .ref u5, .ref u6, .ref u7, .ref u8, .int (nI ncc), .long ncl])), (u0, .inl (cJ, 1500, .inr (.inl nw))), (u4, .inl (cI, 1500, .inl ne)), (u8, .inl (cI, 4096, .inl sl)), (am, .inr (4, [.long w, .int en, .int lt, .int sh]))] H := hP
  have hD : va_D A [(u1, .inl (cI, 1500, .inl nb)), (u2, .inl (cI, 1500, .inl ns)), (u3, .inl (cI, 1500, .inl (nF ndp))), (u5, .inl (cI, 1500, .inl nsc)), (u6, .inl (cZ, 1500, .inl ntk)), (u7, .inl (cZ, 1500, .inl nde)), (an, .inr (6, [.ref u0, .ref u1, .ref u2, .ref u3, .int (nI nn), .int (nI ndd), .ref u4, .ref u5, .ref u6, .ref u7, .ref u8, .int (nI ncc), .long ncl])), (u0, .inl (cJ, 1500, .inr (.inl nw))), (u4, .inl (cI, 1500, .inl ne)), (u8, .inl (cI, 4096, .inl sl)), (am, .inr (4, [.long w, .int en, .int lt, .int sh]))] := hD
  refine lv_istore (lv' := [(5, .int (nI (f_slot sl nw ne ncl w en))), (0, .ref an), (1, .int bf), (2, .int sp), (3, .ref am), (4, .int sco)]) hx hb dX5_add_5 hl (by decide) rfl (fun ls hl => ?_)
  refine lv_aload_n hx hb dX5_add_7 rfl (lv_at hl 1 rfl) ?_
  refine r_get (v := .ref u8) C hP okX5 6 10 rfl (by decide) fl_X5_38 rfl rfl dX5_add_8 ?_
  refine lv_iload hx hb dX5_add_11 (lv_at hl 0 rfl) ?_
  refine r_iald (j := f_slot sl nw ne ncl w en) C hP 9 rfl (f_slot_lt _ _ _ _ _ _) (by decide) dX5_add_13 ?_
  refine lv_iconst (v := (-1)) hx hb dX5_add_14 (by decide) ?_
  refine lv_icmp_ne (tgt := 29) hx hb dX5_add_15 (by decide) (fun c_15 => ?_) (fun c_15 => ?_)
  · -- taken 15
    refine lv_aload_n hx hb dX5_add_29 rfl (lv_at hl 1 rfl) ?_
    refine r_get (v := .ref u0) C hP okX5 6 0 rfl (by decide) fl_X5_9 rfl rfl dX5_add_30 ?_
    refine lv_aload_n hx hb dX5_add_33 rfl (lv_at hl 1 rfl) ?_
    refine r_get (v := .int (nI nn)) C hP okX5 6 4 rfl (by decide) fl_X5_41 rfl rfl dX5_add_34 ?_
    refine lv_aload_n hx hb dX5_add_37 rfl (lv_at hl 4 rfl) ?_
    refine r_get (v := .long w) C hP okX3 10 0 rfl (by decide) fl_X5_73 rfl rfl dX5_add_38 ?_
    refine r_last (j := nn) C hP hD hS 7 rfl (by omega) (by decide) dX5_add_41 (fun H locs hP hD hS => ?_)
    have hP : va_P D vwCl [(u1, .inl (cI, 1500, .inl nb)), (u2, .inl (cI, 1500, .inl ns)), (u3, .inl (cI, 1500, .inl (nF ndp))), (u5, .inl (cI, 1500, .inl nsc)), (u6, .inl (cZ, 1500, .inl ntk)), (u7, .inl (cZ, 1500, .inl nde)), (an, .inr (6, [.ref u0, .ref u1, .ref u2, .ref u3, .int (nI nn), .int (nI ndd), .ref u4, .ref u5, .ref u6, .ref u7, .ref u8, .int (nI ncc), .long ncl])), (u0, .inl (cJ, 1500, .inr (.inl (vp_updL nw nn w)))), (u4, .inl (cI, 1500, .inl ne)), (u8, .inl (cI, 4096, .inl sl)), (am, .inr (4, [.long w, .int en, .int lt, .int sh]))] H := hP
    have hD : va_D A [(u1, .inl (cI, 1500, .inl nb)), (u2, .inl (cI, 1500, .inl ns)), (u3, .inl (cI, 1500, .inl (nF ndp))), (u5, .inl (cI, 1500, .inl nsc)), (u6, .inl (cZ, 1500, .inl ntk)), (u7, .inl (cZ, 1500, .inl nde)), (an, .inr (6, [.ref u0, .ref u1, .ref u2, .ref u3, .int (nI nn), .int (nI ndd), .ref u4, .ref u5, .ref u6, .ref u7, .ref u8, .int (nI ncc), .long ncl])), (u0, .inl (cJ, 1500, .inr (.inl (vp_updL nw nn w)))), (u4, .inl (cI, 1500, .inl ne)), (u8, .inl (cI, 4096, .inl sl)), (am, .inr (4, [.long w, .int en, .int lt, .int sh]))] := hD
    refine lv_aload_n hx hb dX5_add_42 rfl (lv_at hl 1 rfl) ?_
    refine r_get (v := .ref u4) C hP okX5 6 6 rfl (by decide) fl_X5_25 rfl rfl dX5_add_43 ?_
    refine lv_aload_n hx hb dX5_add_46 rfl (lv_at hl 1 rfl) ?_
    refine r_get (v := .int (nI nn)) C hP okX5 6 4 rfl (by decide) fl_X5_41 rfl rfl dX5_add_47 ?_
    refine lv_aload_n hx hb dX5_add_50 rfl (lv_at hl 4 rfl) ?_
    refine r_get (v := .int en) C hP okX3 10 1 rfl (by decide) fl_X5_78 rfl rfl dX5_add_51 ?_
    refine r_iast (j := nn) C hP hD hS 8 rfl (by omega) (by decide) dX5_add_54 (fun H locs hP hD hS => ?_)
    have hP : va_P D vwCl [(u1, .inl (cI, 1500, .inl nb)), (u2, .inl (cI, 1500, .inl ns)), (u3, .inl (cI, 1500, .inl (nF ndp))), (u5, .inl (cI, 1500, .inl nsc)), (u6, .inl (cZ, 1500, .inl ntk)), (u7, .inl (cZ, 1500, .inl nde)), (an, .inr (6, [.ref u0, .ref u1, .ref u2, .ref u3, .int (nI nn), .int (nI ndd), .ref u4, .ref u5, .ref u6, .ref u7, .ref u8, .int (nI ncc), .long ncl])), (u0, .inl (cJ, 1500, .inr (.inl (vp_updL nw nn w)))), (u4, .inl (cI, 1500, .inl (upd ne nn en))), (u8, .inl (cI, 4096, .inl sl)), (am, .inr (4, [.long w, .int en, .int lt, .int sh]))] H := hP
    have hD : va_D A [(u1, .inl (cI, 1500, .inl nb)), (u2, .inl (cI, 1500, .inl ns)), (u3, .inl (cI, 1500, .inl (nF ndp))), (u5, .inl (cI, 1500, .inl nsc)), (u6, .inl (cZ, 1500, .inl ntk)), (u7, .inl (cZ, 1500, .inl nde)), (an, .inr (6, [.ref u0, .ref u1, .ref u2, .ref u3, .int (nI nn), .int (nI ndd), .ref u4, .ref u5, .ref u6, .ref u7, .ref u8, .int (nI ncc), .long ncl])), (u0, .inl (cJ, 1500, .inr (.inl (vp_updL nw nn w)))), (u4, .inl (cI, 1500, .inl (upd ne nn en))), (u8, .inl (cI, 4096, .inl sl)), (am, .inr (4, [.long w, .int en, .int lt, .int sh]))] := hD
    refine lv_aload_n hx hb dX5_add_55 rfl (lv_at hl 1 rfl) ?_
    refine r_get (v := .ref u1) C hP okX5 6 1 rfl (by decide) fl_X5_15 rfl rfl dX5_add_56 ?_
    refine lv_aload_n hx hb dX5_add_59 rfl (lv_at hl 1 rfl) ?_
    refine r_get (v := .int (nI nn)) C hP okX5 6 4 rfl (by decide) fl_X5_41 rfl rfl dX5_add_60 ?_
    refine lv_iload_n hx hb dX5_add_63 rfl (lv_at hl 2 rfl) ?_
    refine r_iast (j := nn) C hP hD hS 0 rfl (by omega) (by decide) dX5_add_64 (fun H locs hP hD hS => ?_)
    have hP : va_P D vwCl [(u1, .inl (cI, 1500, .inl (upd nb nn bf))), (u2, .inl (cI, 1500, .inl ns)), (u3, .inl (cI, 1500, .inl (nF ndp))), (u5, .inl (cI, 1500, .inl nsc)), (u6, .inl (cZ, 1500, .inl ntk)), (u7, .inl (cZ, 1500, .inl nde)), (an, .inr (6, [.ref u0, .ref u1, .ref u2, .ref u3, .int (nI nn), .int (nI ndd), .ref u4, .ref u5, .ref u6, .ref u7, .ref u8, .int (nI ncc), .long ncl])), (u0, .inl (cJ, 1500, .inr (.inl (vp_updL nw nn w)))), (u4, .inl (cI, 1500, .inl (upd ne nn en))), (u8, .inl (cI, 4096, .inl sl)), (am, .inr (4, [.long w, .int en, .int lt, .int sh]))] H := hP
    have hD : va_D A [(u1, .inl (cI, 1500, .inl (upd nb nn bf))), (u2, .inl (cI, 1500, .inl ns)), (u3, .inl (cI, 1500, .inl (nF ndp))), (u5, .inl (cI, 1500, .inl nsc)), (u6, .inl (cZ, 1500, .inl ntk)), (u7, .inl (cZ, 1500, .inl nde)), (an, .inr (6, [.ref u0, .ref u1, .ref u2, .ref u3, .int (nI nn), .int (nI ndd), .ref u4, .ref u5, .ref u6, .ref u7, .ref u8, .int (nI ncc), .long ncl])), (u0, .inl (cJ, 1500, .inr (.inl (vp_updL nw nn w)))), (u4, .inl (cI, 1500, .inl (upd ne nn en))), (u8, .inl (cI, 4096, .inl sl)), (am, .inr (4, [.long w, .int en, .int lt, .int sh]))] := hD
    refine lv_aload_n hx hb dX5_add_65 rfl (lv_at hl 1 rfl) ?_
    refine r_get (v := .ref u2) C hP okX5 6 2 rfl (by decide) fl_X5_19 rfl rfl dX5_add_66 ?_
    refine lv_aload_n hx hb dX5_add_69 rfl (lv_at hl 1 rfl) ?_
    refine r_get (v := .int (nI nn)) C hP okX5 6 4 rfl (by decide) fl_X5_41 rfl rfl dX5_add_70 ?_
    refine lv_iload_n hx hb dX5_add_73 rfl (lv_at hl 3 rfl) ?_
    refine r_iast (j := nn) C hP hD hS 1 rfl (by omega) (by decide) dX5_add_74 (fun H locs hP hD hS => ?_)
    have hP : va_P D vwCl [(u1, .inl (cI, 1500, .inl (upd nb nn bf))), (u2, .inl (cI, 1500, .inl (upd ns nn sp))), (u3, .inl (cI, 1500, .inl (nF ndp))), (u5, .inl (cI, 1500, .inl nsc)), (u6, .inl (cZ, 1500, .inl ntk)), (u7, .inl (cZ, 1500, .inl nde)), (an, .inr (6, [.ref u0, .ref u1, .ref u2, .ref u3, .int (nI nn), .int (nI ndd), .ref u4, .ref u5, .ref u6, .ref u7, .ref u8, .int (nI ncc), .long ncl])), (u0, .inl (cJ, 1500, .inr (.inl (vp_updL nw nn w)))), (u4, .inl (cI, 1500, .inl (upd ne nn en))), (u8, .inl (cI, 4096, .inl sl)), (am, .inr (4, [.long w, .int en, .int lt, .int sh]))] H := hP
    have hD : va_D A [(u1, .inl (cI, 1500, .inl (upd nb nn bf))), (u2, .inl (cI, 1500, .inl (upd ns nn sp))), (u3, .inl (cI, 1500, .inl (nF ndp))), (u5, .inl (cI, 1500, .inl nsc)), (u6, .inl (cZ, 1500, .inl ntk)), (u7, .inl (cZ, 1500, .inl nde)), (an, .inr (6, [.ref u0, .ref u1, .ref u2, .ref u3, .int (nI nn), .int (nI ndd), .ref u4, .ref u5, .ref u6, .ref u7, .ref u8, .int (nI ncc), .long ncl])), (u0, .inl (cJ, 1500, .inr (.inl (vp_updL nw nn w)))), (u4, .inl (cI, 1500, .inl (upd ne nn en))), (u8, .inl (cI, 4096, .inl sl)), (am, .inr (4, [.long w, .int en, .int lt, .int sh]))] := hD
    refine lv_aload_n hx hb dX5_add_75 rfl (lv_at hl 1 rfl) ?_
    refine r_get (v := .ref u3) C hP okX5 6 3 rfl (by decide) fl_X5_22 rfl rfl dX5_add_76 ?_
    refine lv_aload_n hx hb dX5_add_79 rfl (lv_at hl 1 rfl) ?_
    refine r_get (v := .int (nI nn)) C hP okX5 6 4 rfl (by decide) fl_X5_41 rfl rfl dX5_add_80 ?_
    refine lv_iload_n hx hb dX5_add_83 rfl (lv_at hl 2 rfl) ?_
    refine lv_iconst (v := (-1)) hx hb dX5_add_84 (by decide) ?_
    refine lv_icmp_ne (tgt := 92) hx hb dX5_add_85 (by decide) (fun c_85 => ?_) (fun c_85 => ?_)
    · -- taken 85
      refine lv_aload_n hx hb dX5_add_92 rfl (lv_at hl 1 rfl) ?_
      refine r_get (v := .ref u3) C hP okX5 6 3 rfl (by decide) fl_X5_22 rfl rfl dX5_add_93 ?_
      refine lv_iload_n hx hb dX5_add_96 rfl (lv_at hl 2 rfl) ?_
      obtain ⟨b, hb2, eb⟩ := hbf.resolve_left c_85
      refine r_top eb ?_
      refine r_iald (j := b) C hP 2 rfl (by omega) (by decide) dX5_add_97 ?_
      refine r_top (x' := nI (ndp b)) rfl ?_
      refine lv_iconst (v := 1) hx hb dX5_add_98 (by decide) ?_
      refine lv_iadd hx hb dX5_add_99 ?_
      refine r_top (x' := nI ((ndp b) + 1)) (nI_add (ndp b) 1) ?_
      refine r_iast (j := nn) C hP hD hS 2 rfl (by omega) (by decide) dX5_add_100 (fun H locs hP hD hS => ?_)
      rw [nF_upd] at hP hD
      have hP : va_P D vwCl [(u1, .inl (cI, 1500, .inl (upd nb nn bf))), (u2, .inl (cI, 1500, .inl (upd ns nn sp))), (u3, .inl (cI, 1500, .inl (nF (updN ndp nn ((ndp b) + 1))))), (u5, .inl (cI, 1500, .inl nsc)), (u6, .inl (cZ, 1500, .inl ntk)), (u7, .inl (cZ, 1500, .inl nde)), (an, .inr (6, [.ref u0, .ref u1, .ref u2, .ref u3, .int (nI nn), .int (nI ndd), .ref u4, .ref u5, .ref u6, .ref u7, .ref u8, .int (nI ncc), .long ncl])), (u0, .inl (cJ, 1500, .inr (.inl (vp_updL nw nn w)))), (u4, .inl (cI, 1500, .inl (upd ne nn en))), (u8, .inl (cI, 4096, .inl sl)), (am, .inr (4, [.long w, .int en, .int lt, .int sh]))] H := hP
      have hD : va_D A [(u1, .inl (cI, 1500, .inl (upd nb nn bf))), (u2, .inl (cI, 1500, .inl (upd ns nn sp))), (u3, .inl (cI, 1500, .inl (nF (updN ndp nn ((ndp b) + 1))))), (u5, .inl (cI, 1500, .inl nsc)), (u6, .inl (cZ, 1500, .inl ntk)), (u7, .inl (cZ, 1500, .inl nde)), (an, .inr (6, [.ref u0, .ref u1, .ref u2, .ref u3, .int (nI nn), .int (nI ndd), .ref u4, .ref u5, .ref u6, .ref u7, .ref u8, .int (nI ncc), .long ncl])), (u0, .inl (cJ, 1500, .inr (.inl (vp_updL nw nn w)))), (u4, .inl (cI, 1500, .inl (upd ne nn en))), (u8, .inl (cI, 4096, .inl sl)), (am, .inr (4, [.long w, .int en, .int lt, .int sh]))] := hD
      refine lv_aload_n hx hb dX5_add_101 rfl (lv_at hl 1 rfl) ?_
      refine r_get (v := .ref u5) C hP okX5 6 7 rfl (by decide) fl_X5_28 rfl rfl dX5_add_102 ?_
      refine lv_aload_n hx hb dX5_add_105 rfl (lv_at hl 1 rfl) ?_
      refine r_get (v := .int (nI nn)) C hP okX5 6 4 rfl (by decide) fl_X5_41 rfl rfl dX5_add_106 ?_
      refine lv_iload hx hb dX5_add_109 (lv_at hl 5 rfl) ?_
      refine r_iast (j := nn) C hP hD hS 3 rfl (by omega) (by decide) dX5_add_111 (fun H locs hP hD hS => ?_)
      have hP : va_P D vwCl [(u1, .inl (cI, 1500, .inl (upd nb nn bf))), (u2, .inl (cI, 1500, .inl (upd ns nn sp))), (u3, .inl (cI, 1500, .inl (nF (updN ndp nn ((ndp b) + 1))))), (u5, .inl (cI, 1500, .inl (upd nsc nn sco))), (u6, .inl (cZ, 1500, .inl ntk)), (u7, .inl (cZ, 1500, .inl nde)), (an, .inr (6, [.ref u0, .ref u1, .ref u2, .ref u3, .int (nI nn), .int (nI ndd), .ref u4, .ref u5, .ref u6, .ref u7, .ref u8, .int (nI ncc), .long ncl])), (u0, .inl (cJ, 1500, .inr (.inl (vp_updL nw nn w)))), (u4, .inl (cI, 1500, .inl (upd ne nn en))), (u8, .inl (cI, 4096, .inl sl)), (am, .inr (4, [.long w, .int en, .int lt, .int sh]))] H := hP
      have hD : va_D A [(u1, .inl (cI, 1500, .inl (upd nb nn bf))), (u2, .inl (cI, 1500, .inl (upd ns nn sp))), (u3, .inl (cI, 1500, .inl (nF (updN ndp nn ((ndp b) + 1))))), (u5, .inl (cI, 1500, .inl (upd nsc nn sco))), (u6, .inl (cZ, 1500, .inl ntk)), (u7, .inl (cZ, 1500, .inl nde)), (an, .inr (6, [.ref u0, .ref u1, .ref u2, .ref u3, .int (nI nn), .int (nI ndd), .ref u4, .ref u5, .ref u6, .ref u7, .ref u8, .int (nI ncc), .long ncl])), (u0, .inl (cJ, 1500, .inr (.inl (vp_updL nw nn w)))), (u4, .inl (cI, 1500, .inl (upd ne nn en))), (u8, .inl (cI, 4096, .inl sl)), (am, .inr (4, [.long w, .int en, .int lt, .int sh]))] := hD
      refine lv_aload_n hx hb dX5_add_112 rfl (lv_at hl 1 rfl) ?_
      refine r_get (v := .ref u6) C hP okX5 6 8 rfl (by decide) fl_X5_31 rfl rfl dX5_add_113 ?_
      refine lv_aload_n hx hb dX5_add_116 rfl (lv_at hl 1 rfl) ?_
      refine r_get (v := .int (nI nn)) C hP okX5 6 4 rfl (by decide) fl_X5_41 rfl rfl dX5_add_117 ?_
      refine lv_iconst (v := 0) hx hb dX5_add_120 (by decide) ?_
      refine r_zast (j := nn) (x' := 0) C hP hD hS 4 rfl (by omega) (by decide) (by decide) dX5_add_121 (fun H locs hP hD hS => ?_)
      have hP : va_P D vwCl [(u1, .inl (cI, 1500, .inl (upd nb nn bf))), (u2, .inl (cI, 1500, .inl (upd ns nn sp))), (u3, .inl (cI, 1500, .inl (nF (updN ndp nn ((ndp b) + 1))))), (u5, .inl (cI, 1500, .inl (upd nsc nn sco))), (u6, .inl (cZ, 1500, .inl (upd ntk nn 0))), (u7, .inl (cZ, 1500, .inl nde)), (an, .inr (6, [.ref u0, .ref u1, .ref u2, .ref u3, .int (nI nn), .int (nI ndd), .ref u4, .ref u5, .ref u6, .ref u7, .ref u8, .int (nI ncc), .long ncl])), (u0, .inl (cJ, 1500, .inr (.inl (vp_updL nw nn w)))), (u4, .inl (cI, 1500, .inl (upd ne nn en))), (u8, .inl (cI, 4096, .inl sl)), (am, .inr (4, [.long w, .int en, .int lt, .int sh]))] H := hP
      have hD : va_D A [(u1, .inl (cI, 1500, .inl (upd nb nn bf))), (u2, .inl (cI, 1500, .inl (upd ns nn sp))), (u3, .inl (cI, 1500, .inl (nF (updN ndp nn ((ndp b) + 1))))), (u5, .inl (cI, 1500, .inl (upd nsc nn sco))), (u6, .inl (cZ, 1500, .inl (upd ntk nn 0))), (u7, .inl (cZ, 1500, .inl nde)), (an, .inr (6, [.ref u0, .ref u1, .ref u2, .ref u3, .int (nI nn), .int (nI ndd), .ref u4, .ref u5, .ref u6, .ref u7, .ref u8, .int (nI ncc), .long ncl])), (u0, .inl (cJ, 1500, .inr (.inl (vp_updL nw nn w)))), (u4, .inl (cI, 1500, .inl (upd ne nn en))), (u8, .inl (cI, 4096, .inl sl)), (am, .inr (4, [.long w, .int en, .int lt, .int sh]))] := hD
      refine lv_aload_n hx hb dX5_add_122 rfl (lv_at hl 1 rfl) ?_
      refine r_get (v := .ref u7) C hP okX5 6 9 rfl (by decide) fl_X5_35 rfl rfl dX5_add_123 ?_
      refine lv_aload_n hx hb dX5_add_126 rfl (lv_at hl 1 rfl) ?_
      refine r_get (v := .int (nI nn)) C hP okX5 6 4 rfl (by decide) fl_X5_41 rfl rfl dX5_add_127 ?_
      refine lv_iconst (v := 0) hx hb dX5_add_130 (by decide) ?_
      refine r_zast (j := nn) (x' := 0) C hP hD hS 5 rfl (by omega) (by decide) (by decide) dX5_add_131 (fun H locs hP hD hS => ?_)
      have hP : va_P D vwCl [(u1, .inl (cI, 1500, .inl (upd nb nn bf))), (u2, .inl (cI, 1500, .inl (upd ns nn sp))), (u3, .inl (cI, 1500, .inl (nF (updN ndp nn ((ndp b) + 1))))), (u5, .inl (cI, 1500, .inl (upd nsc nn sco))), (u6, .inl (cZ, 1500, .inl (upd ntk nn 0))), (u7, .inl (cZ, 1500, .inl (upd nde nn 0))), (an, .inr (6, [.ref u0, .ref u1, .ref u2, .ref u3, .int (nI nn), .int (nI ndd), .ref u4, .ref u5, .ref u6, .ref u7, .ref u8, .int (nI ncc), .long ncl])), (u0, .inl (cJ, 1500, .inr (.inl (vp_updL nw nn w)))), (u4, .inl (cI, 1500, .inl (upd ne nn en))), (u8, .inl (cI, 4096, .inl sl)), (am, .inr (4, [.long w, .int en, .int lt, .int sh]))] H := hP
      have hD : va_D A [(u1, .inl (cI, 1500, .inl (upd nb nn bf))), (u2, .inl (cI, 1500, .inl (upd ns nn sp))), (u3, .inl (cI, 1500, .inl (nF (updN ndp nn ((ndp b) + 1))))), (u5, .inl (cI, 1500, .inl (upd nsc nn sco))), (u6, .inl (cZ, 1500, .inl (upd ntk nn 0))), (u7, .inl (cZ, 1500, .inl (upd nde nn 0))), (an, .inr (6, [.ref u0, .ref u1, .ref u2, .ref u3, .int (nI nn), .int (nI ndd), .ref u4, .ref u5, .ref u6, .ref u7, .ref u8, .int (nI ncc), .long ncl])), (u0, .inl (cJ, 1500, .inr (.inl (vp_updL nw nn w)))), (u4, .inl (cI, 1500, .inl (upd ne nn en))), (u8, .inl (cI, 4096, .inl sl)), (am, .inr (4, [.long w, .int en, .int lt, .int sh]))] := hD
      refine lv_aload_n hx hb dX5_add_132 rfl (lv_at hl 1 rfl) ?_
      refine lv_dup hx hb dX5_add_133 rfl ?_
      refine r_get (v := .int (nI nn)) C hP okX5 6 4 rfl (by decide) fl_X5_41 rfl rfl dX5_add_134 ?_
      refine lv_iconst (v := 1) hx hb dX5_add_137 (by decide) ?_
      refine lv_iadd hx hb dX5_add_138 ?_
      refine r_top (x' := nI (nn + 1)) (nI_add nn 1) ?_
      refine r_put (v := .int (nI (nn + 1))) C hP hD hS okX5 6 4 rfl (by decide) fl_X5_41 rfl rfl rfl rfl (Nat.le_of_ble_eq_true rfl) dX5_add_139 (fun H locs hP hD hS => ?_)
      have hP : va_P D vwCl [(u1, .inl (cI, 1500, .inl (upd nb nn bf))), (u2, .inl (cI, 1500, .inl (upd ns nn sp))), (u3, .inl (cI, 1500, .inl (nF (updN ndp nn ((ndp b) + 1))))), (u5, .inl (cI, 1500, .inl (upd nsc nn sco))), (u6, .inl (cZ, 1500, .inl (upd ntk nn 0))), (u7, .inl (cZ, 1500, .inl (upd nde nn 0))), (an, .inr (6, [.ref u0, .ref u1, .ref u2, .ref u3, .int (nI (nn + 1)), .int (nI ndd), .ref u4, .ref u5, .ref u6, .ref u7, .ref u8, .int (nI ncc), .long ncl])), (u0, .inl (cJ, 1500, .inr (.inl (vp_updL nw nn w)))), (u4, .inl (cI, 1500, .inl (upd ne nn en))), (u8, .inl (cI, 4096, .inl sl)), (am, .inr (4, [.long w, .int en, .int lt, .int sh]))] H := hP
      have hD : va_D A [(u1, .inl (cI, 1500, .inl (upd nb nn bf))), (u2, .inl (cI, 1500, .inl (upd ns nn sp))), (u3, .inl (cI, 1500, .inl (nF (updN ndp nn ((ndp b) + 1))))), (u5, .inl (cI, 1500, .inl (upd nsc nn sco))), (u6, .inl (cZ, 1500, .inl (upd ntk nn 0))), (u7, .inl (cZ, 1500, .inl (upd nde nn 0))), (an, .inr (6, [.ref u0, .ref u1, .ref u2, .ref u3, .int (nI (nn + 1)), .int (nI ndd), .ref u4, .ref u5, .ref u6, .ref u7, .ref u8, .int (nI ncc), .long ncl])), (u0, .inl (cJ, 1500, .inr (.inl (vp_updL nw nn w)))), (u4, .inl (cI, 1500, .inl (upd ne nn en))), (u8, .inl (cI, 4096, .inl sl)), (am, .inr (4, [.long w, .int en, .int lt, .int sh]))] := hD
      exact rt_v C hQ (hP.sub (ws' := [(an, .inr (6, [.ref u0, .ref u1, .ref u2, .ref u3, .int (nI (nn + 1)), .int (nI ndd), .ref u4, .ref u5, .ref u6, .ref u7, .ref u8, .int (nI ncc), .long ncl])), (u0, .inl (cJ, 1500, .inr (.inl (vp_updL nw nn w)))), (u1, .inl (cI, 1500, .inl (upd nb nn bf))), (u2, .inl (cI, 1500, .inl (upd ns nn sp))), (u3, .inl (cI, 1500, .inl (nF (updN ndp nn ((ndp b) + 1))))), (u4, .inl (cI, 1500, .inl (upd ne nn en))), (u5, .inl (cI, 1500, .inl (upd nsc nn sco))), (u6, .inl (cZ, 1500, .inl (upd ntk nn 0))), (u7, .inl (cZ, 1500, .inl (upd nde nn 0))), (u8, .inl (cI, 4096, .inl sl)), (am, .inr (4, [.long w, .int en, .int lt, .int sh]))]) [6, 7, 0, 1, 2, 8, 3, 4, 5, 9, 10] rfl) (hD.sub [6, 7, 0, 1, 2, 8, 3, 4, 5, 9, 10] (by decide) rfl) hS ⟨rfl, by have ed : f_dep ndp bf = ndp b + 1 := (by simp only [f_dep]; rw [if_neg c_85, eb, nI_clamp (by omega)]); rw [ed, if_neg c_15]⟩ (by decide) (by decide) dX5_add_142
    · -- not taken 85
      refine lv_iconst (v := 0) hx hb dX5_add_88 (by decide) ?_
      refine lv_goto (tgt := 100) hx hb dX5_add_89 (by decide) ?_
      refine r_iast (j := nn) C hP hD hS 2 rfl (by omega) (by decide) dX5_add_100 (fun H locs hP hD hS => ?_)
      rw [show (0 : Int32) = nI 0 from rfl] at hP hD
      rw [nF_upd] at hP hD
      have hP : va_P D vwCl [(u1, .inl (cI, 1500, .inl (upd nb nn bf))), (u2, .inl (cI, 1500, .inl (upd ns nn sp))), (u3, .inl (cI, 1500, .inl (nF (updN ndp nn 0)))), (u5, .inl (cI, 1500, .inl nsc)), (u6, .inl (cZ, 1500, .inl ntk)), (u7, .inl (cZ, 1500, .inl nde)), (an, .inr (6, [.ref u0, .ref u1, .ref u2, .ref u3, .int (nI nn), .int (nI ndd), .ref u4, .ref u5, .ref u6, .ref u7, .ref u8, .int (nI ncc), .long ncl])), (u0, .inl (cJ, 1500, .inr (.inl (vp_updL nw nn w)))), (u4, .inl (cI, 1500, .inl (upd ne nn en))), (u8, .inl (cI, 4096, .inl sl)), (am, .inr (4, [.long w, .int en, .int lt, .int sh]))] H := hP
      have hD : va_D A [(u1, .inl (cI, 1500, .inl (upd nb nn bf))), (u2, .inl (cI, 1500, .inl (upd ns nn sp))), (u3, .inl (cI, 1500, .inl (nF (updN ndp nn 0)))), (u5, .inl (cI, 1500, .inl nsc)), (u6, .inl (cZ, 1500, .inl ntk)), (u7, .inl (cZ, 1500, .inl nde)), (an, .inr (6, [.ref u0, .ref u1, .ref u2, .ref u3, .int (nI nn), .int (nI ndd), .ref u4, .ref u5, .ref u6, .ref u7, .ref u8, .int (nI ncc), .long ncl])), (u0, .inl (cJ, 1500, .inr (.inl (vp_updL nw nn w)))), (u4, .inl (cI, 1500, .inl (upd ne nn en))), (u8, .inl (cI, 4096, .inl sl)), (am, .inr (4, [.long w, .int en, .int lt, .int sh]))] := hD
      refine lv_aload_n hx hb dX5_add_101 rfl (lv_at hl 1 rfl) ?_
      refine r_get (v := .ref u5) C hP okX5 6 7 rfl (by decide) fl_X5_28 rfl rfl dX5_add_102 ?_
      refine lv_aload_n hx hb dX5_add_105 rfl (lv_at hl 1 rfl) ?_
      refine r_get (v := .int (nI nn)) C hP okX5 6 4 rfl (by decide) fl_X5_41 rfl rfl dX5_add_106 ?_
      refine lv_iload hx hb dX5_add_109 (lv_at hl 5 rfl) ?_
      refine r_iast (j := nn) C hP hD hS 3 rfl (by omega) (by decide) dX5_add_111 (fun H locs hP hD hS => ?_)
      have hP : va_P D vwCl [(u1, .inl (cI, 1500, .inl (upd nb nn bf))), (u2, .inl (cI, 1500, .inl (upd ns nn sp))), (u3, .inl (cI, 1500, .inl (nF (updN ndp nn 0)))), (u5, .inl (cI, 1500, .inl (upd nsc nn sco))), (u6, .inl (cZ, 1500, .inl ntk)), (u7, .inl (cZ, 1500, .inl nde)), (an, .inr (6, [.ref u0, .ref u1, .ref u2, .ref u3, .int (nI nn), .int (nI ndd), .ref u4, .ref u5, .ref u6, .ref u7, .ref u8, .int (nI ncc), .long ncl])), (u0, .inl (cJ, 1500, .inr (.inl (vp_updL nw nn w)))), (u4, .inl (cI, 1500, .inl (upd ne nn en))), (u8, .inl (cI, 4096, .inl sl)), (am, .inr (4, [.long w, .int en, .int lt, .int sh]))] H := hP
      have hD : va_D A [(u1, .inl (cI, 1500, .inl (upd nb nn bf))), (u2, .inl (cI, 1500, .inl (upd ns nn sp))), (u3, .inl (cI, 1500, .inl (nF (updN ndp nn 0)))), (u5, .inl (cI, 1500, .inl (upd nsc nn sco))), (u6, .inl (cZ, 1500, .inl ntk)), (u7, .inl (cZ, 1500, .inl nde)), (an, .inr (6, [.ref u0, .ref u1, .ref u2, .ref u3, .int (nI nn), .int (nI ndd), .ref u4, .ref u5, .ref u6, .ref u7, .ref u8, .int (nI ncc), .long ncl])), (u0, .inl (cJ, 1500, .inr (.inl (vp_updL nw nn w)))), (u4, .inl (cI, 1500, .inl (upd ne nn en))), (u8, .inl (cI, 4096, .inl sl)), (am, .inr (4, [.long w, .int en, .int lt, .int sh]))] := hD
      refine lv_aload_n hx hb dX5_add_112 rfl (lv_at hl 1 rfl) ?_
      refine r_get (v := .ref u6) C hP okX5 6 8 rfl (by decide) fl_X5_31 rfl rfl dX5_add_113 ?_
      refine lv_aload_n hx hb dX5_add_116 rfl (lv_at hl 1 rfl) ?_
      refine r_get (v := .int (nI nn)) C hP okX5 6 4 rfl (by decide) fl_X5_41 rfl rfl dX5_add_117 ?_
      refine lv_iconst (v := 0) hx hb dX5_add_120 (by decide) ?_
      refine r_zast (j := nn) (x' := 0) C hP hD hS 4 rfl (by omega) (by decide) (by decide) dX5_add_121 (fun H locs hP hD hS => ?_)
      have hP : va_P D vwCl [(u1, .inl (cI, 1500, .inl (upd nb nn bf))), (u2, .inl (cI, 1500, .inl (upd ns nn sp))), (u3, .inl (cI, 1500, .inl (nF (updN ndp nn 0)))), (u5, .inl (cI, 1500, .inl (upd nsc nn sco))), (u6, .inl (cZ, 1500, .inl (upd ntk nn 0))), (u7, .inl (cZ, 1500, .inl nde)), (an, .inr (6, [.ref u0, .ref u1, .ref u2, .ref u3, .int (nI nn), .int (nI ndd), .ref u4, .ref u5, .ref u6, .ref u7, .ref u8, .int (nI ncc), .long ncl])), (u0, .inl (cJ, 1500, .inr (.inl (vp_updL nw nn w)))), (u4, .inl (cI, 1500, .inl (upd ne nn en))), (u8, .inl (cI, 4096, .inl sl)), (am, .inr (4, [.long w, .int en, .int lt, .int sh]))] H := hP
      have hD : va_D A [(u1, .inl (cI, 1500, .inl (upd nb nn bf))), (u2, .inl (cI, 1500, .inl (upd ns nn sp))), (u3, .inl (cI, 1500, .inl (nF (updN ndp nn 0)))), (u5, .inl (cI, 1500, .inl (upd nsc nn sco))), (u6, .inl (cZ, 1500, .inl (upd ntk nn 0))), (u7, .inl (cZ, 1500, .inl nde)), (an, .inr (6, [.ref u0, .ref u1, .ref u2, .ref u3, .int (nI nn), .int (nI ndd), .ref u4, .ref u5, .ref u6, .ref u7, .ref u8, .int (nI ncc), .long ncl])), (u0, .inl (cJ, 1500, .inr (.inl (vp_updL nw nn w)))), (u4, .inl (cI, 1500, .inl (upd ne nn en))), (u8, .inl (cI, 4096, .inl sl)), (am, .inr (4, [.long w, .int en, .int lt, .int sh]))] := hD
      refine lv_aload_n hx hb dX5_add_122 rfl (lv_at hl 1 rfl) ?_
      refine r_get (v := .ref u7) C hP okX5 6 9 rfl (by decide) fl_X5_35 rfl rfl dX5_add_123 ?_
      refine lv_aload_n hx hb dX5_add_126 rfl (lv_at hl 1 rfl) ?_
      refine r_get (v := .int (nI nn)) C hP okX5 6 4 rfl (by decide) fl_X5_41 rfl rfl dX5_add_127 ?_
      refine lv_iconst (v := 0) hx hb dX5_add_130 (by decide) ?_
      refine r_zast (j := nn) (x' := 0) C hP hD hS 5 rfl (by omega) (by decide) (by decide) dX5_add_131 (fun H locs hP hD hS => ?_)
      have hP : va_P D vwCl [(u1, .inl (cI, 1500, .inl (upd nb nn bf))), (u2, .inl (cI, 1500, .inl (upd ns nn sp))), (u3, .inl (cI, 1500, .inl (nF (updN ndp nn 0)))), (u5, .inl (cI, 1500, .inl (upd nsc nn sco))), (u6, .inl (cZ, 1500, .inl (upd ntk nn 0))), (u7, .inl (cZ, 1500, .inl (upd nde nn 0))), (an, .inr (6, [.ref u0, .ref u1, .ref u2, .ref u3, .int (nI nn), .int (nI ndd), .ref u4, .ref u5, .ref u6, .ref u7, .ref u8, .int (nI ncc), .long ncl])), (u0, .inl (cJ, 1500, .inr (.inl (vp_updL nw nn w)))), (u4, .inl (cI, 1500, .inl (upd ne nn en))), (u8, .inl (cI, 4096, .inl sl)), (am, .inr (4, [.long w, .int en, .int lt, .int sh]))] H := hP
      have hD : va_D A [(u1, .inl (cI, 1500, .inl (upd nb nn bf))), (u2, .inl (cI, 1500, .inl (upd ns nn sp))), (u3, .inl (cI, 1500, .inl (nF (updN ndp nn 0)))), (u5, .inl (cI, 1500, .inl (upd nsc nn sco))), (u6, .inl (cZ, 1500, .inl (upd ntk nn 0))), (u7, .inl (cZ, 1500, .inl (upd nde nn 0))), (an, .inr (6, [.ref u0, .ref u1, .ref u2, .ref u3, .int (nI nn), .int (nI ndd), .ref u4, .ref u5, .ref u6, .ref u7, .ref u8, .int (nI ncc), .long ncl])), (u0, .inl (cJ, 1500, .inr (.inl (vp_updL nw nn w)))), (u4, .inl (cI, 1500, .inl (upd ne nn en))), (u8, .inl (cI, 4096, .inl sl)), (am, .inr (4, [.long w, .int en, .int lt, .int sh]))] := hD
      refine lv_aload_n hx hb dX5_add_132 rfl (lv_at hl 1 rfl) ?_
      refine lv_dup hx hb dX5_add_133 rfl ?_
      refine r_get (v := .int (nI nn)) C hP okX5 6 4 rfl (by decide) fl_X5_41 rfl rfl dX5_add_134 ?_
      refine lv_iconst (v := 1) hx hb dX5_add_137 (by decide) ?_
      refine lv_iadd hx hb dX5_add_138 ?_
      refine r_top (x' := nI (nn + 1)) (nI_add nn 1) ?_
      refine r_put (v := .int (nI (nn + 1))) C hP hD hS okX5 6 4 rfl (by decide) fl_X5_41 rfl rfl rfl rfl (Nat.le_of_ble_eq_true rfl) dX5_add_139 (fun H locs hP hD hS => ?_)
      have hP : va_P D vwCl [(u1, .inl (cI, 1500, .inl (upd nb nn bf))), (u2, .inl (cI, 1500, .inl (upd ns nn sp))), (u3, .inl (cI, 1500, .inl (nF (updN ndp nn 0)))), (u5, .inl (cI, 1500, .inl (upd nsc nn sco))), (u6, .inl (cZ, 1500, .inl (upd ntk nn 0))), (u7, .inl (cZ, 1500, .inl (upd nde nn 0))), (an, .inr (6, [.ref u0, .ref u1, .ref u2, .ref u3, .int (nI (nn + 1)), .int (nI ndd), .ref u4, .ref u5, .ref u6, .ref u7, .ref u8, .int (nI ncc), .long ncl])), (u0, .inl (cJ, 1500, .inr (.inl (vp_updL nw nn w)))), (u4, .inl (cI, 1500, .inl (upd ne nn en))), (u8, .inl (cI, 4096, .inl sl)), (am, .inr (4, [.long w, .int en, .int lt, .int sh]))] H := hP
      have hD : va_D A [(u1, .inl (cI, 1500, .inl (upd nb nn bf))), (u2, .inl (cI, 1500, .inl (upd ns nn sp))), (u3, .inl (cI, 1500, .inl (nF (updN ndp nn 0)))), (u5, .inl (cI, 1500, .inl (upd nsc nn sco))), (u6, .inl (cZ, 1500, .inl (upd ntk nn 0))), (u7, .inl (cZ, 1500, .inl (upd nde nn 0))), (an, .inr (6, [.ref u0, .ref u1, .ref u2, .ref u3, .int (nI (nn + 1)), .int (nI ndd), .ref u4, .ref u5, .ref u6, .ref u7, .ref u8, .int (nI ncc), .long ncl])), (u0, .inl (cJ, 1500, .inr (.inl (vp_updL nw nn w)))), (u4, .inl (cI, 1500, .inl (upd ne nn en))), (u8, .inl (cI, 4096, .inl sl)), (am, .inr (4, [.long w, .int en, .int lt, .int sh]))] := hD
      exact rt_v C hQ (hP.sub (ws' := [(an, .inr (6, [.ref u0, .ref u1, .ref u2, .ref u3, .int (nI (nn + 1)), .int (nI ndd), .ref u4, .ref u5, .ref u6, .ref u7, .ref u8, .int (nI ncc), .long ncl])), (u0, .inl (cJ, 1500, .inr (.inl (vp_updL nw nn w)))), (u1, .inl (cI, 1500, .inl (upd nb nn bf))), (u2, .inl (cI, 1500, .inl (upd ns nn sp))), (u3, .inl (cI, 1500, .inl (nF (updN ndp nn 0)))), (u4, .inl (cI, 1500, .inl (upd ne nn en))), (u5, .inl (cI, 1500, .inl (upd nsc nn sco))), (u6, .inl (cZ, 1500, .inl (upd ntk nn 0))), (u7, .inl (cZ, 1500, .inl (upd nde nn 0))), (u8, .inl (cI, 4096, .inl sl)), (am, .inr (4, [.long w, .int en, .int lt, .int sh]))]) [6, 7, 0, 1, 2, 8, 3, 4, 5, 9, 10] rfl) (hD.sub [6, 7, 0, 1, 2, 8, 3, 4, 5, 9, 10] (by decide) rfl) hS ⟨rfl, by have ed : f_dep ndp bf = 0 := (by simp only [f_dep]; rw [if_pos c_85]); rw [ed, if_neg c_15]⟩ (by decide) (by decide) dX5_add_142
  · -- not taken 15
    refine lv_aload_n hx hb dX5_add_18 rfl (lv_at hl 1 rfl) ?_
    refine r_get (v := .ref u8) C hP okX5 6 10 rfl (by decide) fl_X5_38 rfl rfl dX5_add_19 ?_
    refine lv_iload hx hb dX5_add_22 (lv_at hl 0 rfl) ?_
    refine lv_aload_n hx hb dX5_add_24 rfl (lv_at hl 1 rfl) ?_
    refine r_get (v := .int (nI nn)) C hP okX5 6 4 rfl (by decide) fl_X5_41 rfl rfl dX5_add_25 ?_
    refine r_iast (j := f_slot sl nw ne ncl w en) C hP hD hS 9 rfl (f_slot_lt _ _ _ _ _ _) (by decide) dX5_add_28 (fun H locs hP hD hS => ?_)
    have hP : va_P D vwCl [(u1, .inl (cI, 1500, .inl nb)), (u2, .inl (cI, 1500, .inl ns)), (u3, .inl (cI, 1500, .inl (nF ndp))), (u5, .inl (cI, 1500, .inl nsc)), (u6, .inl (cZ, 1500, .inl ntk)), (u7, .inl (cZ, 1500, .inl nde)), (an, .inr (6, [.ref u0, .ref u1, .ref u2, .ref u3, .int (nI nn), .int (nI ndd), .ref u4, .ref u5, .ref u6, .ref u7, .ref u8, .int (nI ncc), .long ncl])), (u0, .inl (cJ, 1500, .inr (.inl nw))), (u4, .inl (cI, 1500, .inl ne)), (u8, .inl (cI, 4096, .inl (upd sl (f_slot sl nw ne ncl w en) (nI nn)))), (am, .inr (4, [.long w, .int en, .int lt, .int sh]))] H := hP
    have hD : va_D A [(u1, .inl (cI, 1500, .inl nb)), (u2, .inl (cI, 1500, .inl ns)), (u3, .inl (cI, 1500, .inl (nF ndp))), (u5, .inl (cI, 1500, .inl nsc)), (u6, .inl (cZ, 1500, .inl ntk)), (u7, .inl (cZ, 1500, .inl nde)), (an, .inr (6, [.ref u0, .ref u1, .ref u2, .ref u3, .int (nI nn), .int (nI ndd), .ref u4, .ref u5, .ref u6, .ref u7, .ref u8, .int (nI ncc), .long ncl])), (u0, .inl (cJ, 1500, .inr (.inl nw))), (u4, .inl (cI, 1500, .inl ne)), (u8, .inl (cI, 4096, .inl (upd sl (f_slot sl nw ne ncl w en) (nI nn)))), (am, .inr (4, [.long w, .int en, .int lt, .int sh]))] := hD
    refine lv_aload_n hx hb dX5_add_29 rfl (lv_at hl 1 rfl) ?_
    refine r_get (v := .ref u0) C hP okX5 6 0 rfl (by decide) fl_X5_9 rfl rfl dX5_add_30 ?_
    refine lv_aload_n hx hb dX5_add_33 rfl (lv_at hl 1 rfl) ?_
    refine r_get (v := .int (nI nn)) C hP okX5 6 4 rfl (by decide) fl_X5_41 rfl rfl dX5_add_34 ?_
    refine lv_aload_n hx hb dX5_add_37 rfl (lv_at hl 4 rfl) ?_
    refine r_get (v := .long w) C hP okX3 10 0 rfl (by decide) fl_X5_73 rfl rfl dX5_add_38 ?_
    refine r_last (j := nn) C hP hD hS 7 rfl (by omega) (by decide) dX5_add_41 (fun H locs hP hD hS => ?_)
    have hP : va_P D vwCl [(u1, .inl (cI, 1500, .inl nb)), (u2, .inl (cI, 1500, .inl ns)), (u3, .inl (cI, 1500, .inl (nF ndp))), (u5, .inl (cI, 1500, .inl nsc)), (u6, .inl (cZ, 1500, .inl ntk)), (u7, .inl (cZ, 1500, .inl nde)), (an, .inr (6, [.ref u0, .ref u1, .ref u2, .ref u3, .int (nI nn), .int (nI ndd), .ref u4, .ref u5, .ref u6, .ref u7, .ref u8, .int (nI ncc), .long ncl])), (u0, .inl (cJ, 1500, .inr (.inl (vp_updL nw nn w)))), (u4, .inl (cI, 1500, .inl ne)), (u8, .inl (cI, 4096, .inl (upd sl (f_slot sl nw ne ncl w en) (nI nn)))), (am, .inr (4, [.long w, .int en, .int lt, .int sh]))] H := hP
    have hD : va_D A [(u1, .inl (cI, 1500, .inl nb)), (u2, .inl (cI, 1500, .inl ns)), (u3, .inl (cI, 1500, .inl (nF ndp))), (u5, .inl (cI, 1500, .inl nsc)), (u6, .inl (cZ, 1500, .inl ntk)), (u7, .inl (cZ, 1500, .inl nde)), (an, .inr (6, [.ref u0, .ref u1, .ref u2, .ref u3, .int (nI nn), .int (nI ndd), .ref u4, .ref u5, .ref u6, .ref u7, .ref u8, .int (nI ncc), .long ncl])), (u0, .inl (cJ, 1500, .inr (.inl (vp_updL nw nn w)))), (u4, .inl (cI, 1500, .inl ne)), (u8, .inl (cI, 4096, .inl (upd sl (f_slot sl nw ne ncl w en) (nI nn)))), (am, .inr (4, [.long w, .int en, .int lt, .int sh]))] := hD
    refine lv_aload_n hx hb dX5_add_42 rfl (lv_at hl 1 rfl) ?_
    refine r_get (v := .ref u4) C hP okX5 6 6 rfl (by decide) fl_X5_25 rfl rfl dX5_add_43 ?_
    refine lv_aload_n hx hb dX5_add_46 rfl (lv_at hl 1 rfl) ?_
    refine r_get (v := .int (nI nn)) C hP okX5 6 4 rfl (by decide) fl_X5_41 rfl rfl dX5_add_47 ?_
    refine lv_aload_n hx hb dX5_add_50 rfl (lv_at hl 4 rfl) ?_
    refine r_get (v := .int en) C hP okX3 10 1 rfl (by decide) fl_X5_78 rfl rfl dX5_add_51 ?_
    refine r_iast (j := nn) C hP hD hS 8 rfl (by omega) (by decide) dX5_add_54 (fun H locs hP hD hS => ?_)
    have hP : va_P D vwCl [(u1, .inl (cI, 1500, .inl nb)), (u2, .inl (cI, 1500, .inl ns)), (u3, .inl (cI, 1500, .inl (nF ndp))), (u5, .inl (cI, 1500, .inl nsc)), (u6, .inl (cZ, 1500, .inl ntk)), (u7, .inl (cZ, 1500, .inl nde)), (an, .inr (6, [.ref u0, .ref u1, .ref u2, .ref u3, .int (nI nn), .int (nI ndd), .ref u4, .ref u5, .ref u6, .ref u7, .ref u8, .int (nI ncc), .long ncl])), (u0, .inl (cJ, 1500, .inr (.inl (vp_updL nw nn w)))), (u4, .inl (cI, 1500, .inl (upd ne nn en))), (u8, .inl (cI, 4096, .inl (upd sl (f_slot sl nw ne ncl w en) (nI nn)))), (am, .inr (4, [.long w, .int en, .int lt, .int sh]))] H := hP
    have hD : va_D A [(u1, .inl (cI, 1500, .inl nb)), (u2, .inl (cI, 1500, .inl ns)), (u3, .inl (cI, 1500, .inl (nF ndp))), (u5, .inl (cI, 1500, .inl nsc)), (u6, .inl (cZ, 1500, .inl ntk)), (u7, .inl (cZ, 1500, .inl nde)), (an, .inr (6, [.ref u0, .ref u1, .ref u2, .ref u3, .int (nI nn), .int (nI ndd), .ref u4, .ref u5, .ref u6, .ref u7, .ref u8, .int (nI ncc), .long ncl])), (u0, .inl (cJ, 1500, .inr (.inl (vp_updL nw nn w)))), (u4, .inl (cI, 1500, .inl (upd ne nn en))), (u8, .inl (cI, 4096, .inl (upd sl (f_slot sl nw ne ncl w en) (nI nn)))), (am, .inr (4, [.long w, .int en, .int lt, .int sh]))] := hD
    refine lv_aload_n hx hb dX5_add_55 rfl (lv_at hl 1 rfl) ?_
    refine r_get (v := .ref u1) C hP okX5 6 1 rfl (by decide) fl_X5_15 rfl rfl dX5_add_56 ?_
    refine lv_aload_n hx hb dX5_add_59 rfl (lv_at hl 1 rfl) ?_
    refine r_get (v := .int (nI nn)) C hP okX5 6 4 rfl (by decide) fl_X5_41 rfl rfl dX5_add_60 ?_
    refine lv_iload_n hx hb dX5_add_63 rfl (lv_at hl 2 rfl) ?_
    refine r_iast (j := nn) C hP hD hS 0 rfl (by omega) (by decide) dX5_add_64 (fun H locs hP hD hS => ?_)
    have hP : va_P D vwCl [(u1, .inl (cI, 1500, .inl (upd nb nn bf))), (u2, .inl (cI, 1500, .inl ns)), (u3, .inl (cI, 1500, .inl (nF ndp))), (u5, .inl (cI, 1500, .inl nsc)), (u6, .inl (cZ, 1500, .inl ntk)), (u7, .inl (cZ, 1500, .inl nde)), (an, .inr (6, [.ref u0, .ref u1, .ref u2, .ref u3, .int (nI nn), .int (nI ndd), .ref u4, .ref u5, .ref u6, .ref u7, .ref u8, .int (nI ncc), .long ncl])), (u0, .inl (cJ, 1500, .inr (.inl (vp_updL nw nn w)))), (u4, .inl (cI, 1500, .inl (upd ne nn en))), (u8, .inl (cI, 4096, .inl (upd sl (f_slot sl nw ne ncl w en) (nI nn)))), (am, .inr (4, [.long w, .int en, .int lt, .int sh]))] H := hP
    have hD : va_D A [(u1, .inl (cI, 1500, .inl (upd nb nn bf))), (u2, .inl (cI, 1500, .inl ns)), (u3, .inl (cI, 1500, .inl (nF ndp))), (u5, .inl (cI, 1500, .inl nsc)), (u6, .inl (cZ, 1500, .inl ntk)), (u7, .inl (cZ, 1500, .inl nde)), (an, .inr (6, [.ref u0, .ref u1, .ref u2, .ref u3, .int (nI nn), .int (nI ndd), .ref u4, .ref u5, .ref u6, .ref u7, .ref u8, .int (nI ncc), .long ncl])), (u0, .inl (cJ, 1500, .inr (.inl (vp_updL nw nn w)))), (u4, .inl (cI, 1500, .inl (upd ne nn en))), (u8, .inl (cI, 4096, .inl (upd sl (f_slot sl nw ne ncl w en) (nI nn)))), (am, .inr (4, [.long w, .int en, .int lt, .int sh]))] := hD
    refine lv_aload_n hx hb dX5_add_65 rfl (lv_at hl 1 rfl) ?_
    refine r_get (v := .ref u2) C hP okX5 6 2 rfl (by decide) fl_X5_19 rfl rfl dX5_add_66 ?_
    refine lv_aload_n hx hb dX5_add_69 rfl (lv_at hl 1 rfl) ?_
    refine r_get (v := .int (nI nn)) C hP okX5 6 4 rfl (by decide) fl_X5_41 rfl rfl dX5_add_70 ?_
    refine lv_iload_n hx hb dX5_add_73 rfl (lv_at hl 3 rfl) ?_
    refine r_iast (j := nn) C hP hD hS 1 rfl (by omega) (by decide) dX5_add_74 (fun H locs hP hD hS => ?_)
    have hP : va_P D vwCl [(u1, .inl (cI, 1500, .inl (upd nb nn bf))), (u2, .inl (cI, 1500, .inl (upd ns nn sp))), (u3, .inl (cI, 1500, .inl (nF ndp))), (u5, .inl (cI, 1500, .inl nsc)), (u6, .inl (cZ, 1500, .inl ntk)), (u7, .inl (cZ, 1500, .inl nde)), (an, .inr (6, [.ref u0, .ref u1, .ref u2, .ref u3, .int (nI nn), .int (nI ndd), .ref u4, .ref u5, .ref u6, .ref u7, .ref u8, .int (nI ncc), .long ncl])), (u0, .inl (cJ, 1500, .inr (.inl (vp_updL nw nn w)))), (u4, .inl (cI, 1500, .inl (upd ne nn en))), (u8, .inl (cI, 4096, .inl (upd sl (f_slot sl nw ne ncl w en) (nI nn)))), (am, .inr (4, [.long w, .int en, .int lt, .int sh]))] H := hP
    have hD : va_D A [(u1, .inl (cI, 1500, .inl (upd nb nn bf))), (u2, .inl (cI, 1500, .inl (upd ns nn sp))), (u3, .inl (cI, 1500, .inl (nF ndp))), (u5, .inl (cI, 1500, .inl nsc)), (u6, .inl (cZ, 1500, .inl ntk)), (u7, .inl (cZ, 1500, .inl nde)), (an, .inr (6, [.ref u0, .ref u1, .ref u2, .ref u3, .int (nI nn), .int (nI ndd), .ref u4, .ref u5, .ref u6, .ref u7, .ref u8, .int (nI ncc), .long ncl])), (u0, .inl (cJ, 1500, .inr (.inl (vp_updL nw nn w)))), (u4, .inl (cI, 1500, .inl (upd ne nn en))), (u8, .inl (cI, 4096, .inl (upd sl (f_slot sl nw ne ncl w en) (nI nn)))), (am, .inr (4, [.long w, .int en, .int lt, .int sh]))] := hD
    refine lv_aload_n hx hb dX5_add_75 rfl (lv_at hl 1 rfl) ?_
    refine r_get (v := .ref u3) C hP okX5 6 3 rfl (by decide) fl_X5_22 rfl rfl dX5_add_76 ?_
    refine lv_aload_n hx hb dX5_add_79 rfl (lv_at hl 1 rfl) ?_
    refine r_get (v := .int (nI nn)) C hP okX5 6 4 rfl (by decide) fl_X5_41 rfl rfl dX5_add_80 ?_
    refine lv_iload_n hx hb dX5_add_83 rfl (lv_at hl 2 rfl) ?_
    refine lv_iconst (v := (-1)) hx hb dX5_add_84 (by decide) ?_
    refine lv_icmp_ne (tgt := 92) hx hb dX5_add_85 (by decide) (fun c_85 => ?_) (fun c_85 => ?_)
    · -- taken 85
      refine lv_aload_n hx hb dX5_add_92 rfl (lv_at hl 1 rfl) ?_
      refine r_get (v := .ref u3) C hP okX5 6 3 rfl (by decide) fl_X5_22 rfl rfl dX5_add_93 ?_
      refine lv_iload_n hx hb dX5_add_96 rfl (lv_at hl 2 rfl) ?_
      obtain ⟨b, hb2, eb⟩ := hbf.resolve_left c_85
      refine r_top eb ?_
      refine r_iald (j := b) C hP 2 rfl (by omega) (by decide) dX5_add_97 ?_
      refine r_top (x' := nI (ndp b)) rfl ?_
      refine lv_iconst (v := 1) hx hb dX5_add_98 (by decide) ?_
      refine lv_iadd hx hb dX5_add_99 ?_
      refine r_top (x' := nI ((ndp b) + 1)) (nI_add (ndp b) 1) ?_
      refine r_iast (j := nn) C hP hD hS 2 rfl (by omega) (by decide) dX5_add_100 (fun H locs hP hD hS => ?_)
      rw [nF_upd] at hP hD
      have hP : va_P D vwCl [(u1, .inl (cI, 1500, .inl (upd nb nn bf))), (u2, .inl (cI, 1500, .inl (upd ns nn sp))), (u3, .inl (cI, 1500, .inl (nF (updN ndp nn ((ndp b) + 1))))), (u5, .inl (cI, 1500, .inl nsc)), (u6, .inl (cZ, 1500, .inl ntk)), (u7, .inl (cZ, 1500, .inl nde)), (an, .inr (6, [.ref u0, .ref u1, .ref u2, .ref u3, .int (nI nn), .int (nI ndd), .ref u4, .ref u5, .ref u6, .ref u7, .ref u8, .int (nI ncc), .long ncl])), (u0, .inl (cJ, 1500, .inr (.inl (vp_updL nw nn w)))), (u4, .inl (cI, 1500, .inl (upd ne nn en))), (u8, .inl (cI, 4096, .inl (upd sl (f_slot sl nw ne ncl w en) (nI nn)))), (am, .inr (4, [.long w, .int en, .int lt, .int sh]))] H := hP
      have hD : va_D A [(u1, .inl (cI, 1500, .inl (upd nb nn bf))), (u2, .inl (cI, 1500, .inl (upd ns nn sp))), (u3, .inl (cI, 1500, .inl (nF (updN ndp nn ((ndp b) + 1))))), (u5, .inl (cI, 1500, .inl nsc)), (u6, .inl (cZ, 1500, .inl ntk)), (u7, .inl (cZ, 1500, .inl nde)), (an, .inr (6, [.ref u0, .ref u1, .ref u2, .ref u3, .int (nI nn), .int (nI ndd), .ref u4, .ref u5, .ref u6, .ref u7, .ref u8, .int (nI ncc), .long ncl])), (u0, .inl (cJ, 1500, .inr (.inl (vp_updL nw nn w)))), (u4, .inl (cI, 1500, .inl (upd ne nn en))), (u8, .inl (cI, 4096, .inl (upd sl (f_slot sl nw ne ncl w en) (nI nn)))), (am, .inr (4, [.long w, .int en, .int lt, .int sh]))] := hD
      refine lv_aload_n hx hb dX5_add_101 rfl (lv_at hl 1 rfl) ?_
      refine r_get (v := .ref u5) C hP okX5 6 7 rfl (by decide) fl_X5_28 rfl rfl dX5_add_102 ?_
      refine lv_aload_n hx hb dX5_add_105 rfl (lv_at hl 1 rfl) ?_
      refine r_get (v := .int (nI nn)) C hP okX5 6 4 rfl (by decide) fl_X5_41 rfl rfl dX5_add_106 ?_
      refine lv_iload hx hb dX5_add_109 (lv_at hl 5 rfl) ?_
      refine r_iast (j := nn) C hP hD hS 3 rfl (by omega) (by decide) dX5_add_111 (fun H locs hP hD hS => ?_)
      have hP : va_P D vwCl [(u1, .inl (cI, 1500, .inl (upd nb nn bf))), (u2, .inl (cI, 1500, .inl (upd ns nn sp))), (u3, .inl (cI, 1500, .inl (nF (updN ndp nn ((ndp b) + 1))))), (u5, .inl (cI, 1500, .inl (upd nsc nn sco))), (u6, .inl (cZ, 1500, .inl ntk)), (u7, .inl (cZ, 1500, .inl nde)), (an, .inr (6, [.ref u0, .ref u1, .ref u2, .ref u3, .int (nI nn), .int (nI ndd), .ref u4, .ref u5, .ref u6, .ref u7, .ref u8, .int (nI ncc), .long ncl])), (u0, .inl (cJ, 1500, .inr (.inl (vp_updL nw nn w)))), (u4, .inl (cI, 1500, .inl (upd ne nn en))), (u8, .inl (cI, 4096, .inl (upd sl (f_slot sl nw ne ncl w en) (nI nn)))), (am, .inr (4, [.long w, .int en, .int lt, .int sh]))] H := hP
      have hD : va_D A [(u1, .inl (cI, 1500, .inl (upd nb nn bf))), (u2, .inl (cI, 1500, .inl (upd ns nn sp))), (u3, .inl (cI, 1500, .inl (nF (updN ndp nn ((ndp b) + 1))))), (u5, .inl (cI, 1500, .inl (upd nsc nn sco))), (u6, .inl (cZ, 1500, .inl ntk)), (u7, .inl (cZ, 1500, .inl nde)), (an, .inr (6, [.ref u0, .ref u1, .ref u2, .ref u3, .int (nI nn), .int (nI ndd), .ref u4, .ref u5, .ref u6, .ref u7, .ref u8, .int (nI ncc), .long ncl])), (u0, .inl (cJ, 1500, .inr (.inl (vp_updL nw nn w)))), (u4, .inl (cI, 1500, .inl (upd ne nn en))), (u8, .inl (cI, 4096, .inl (upd sl (f_slot sl nw ne ncl w en) (nI nn)))), (am, .inr (4, [.long w, .int en, .int lt, .int sh]))] := hD
      refine lv_aload_n hx hb dX5_add_112 rfl (lv_at hl 1 rfl) ?_
      refine r_get (v := .ref u6) C hP okX5 6 8 rfl (by decide) fl_X5_31 rfl rfl dX5_add_113 ?_
      refine lv_aload_n hx hb dX5_add_116 rfl (lv_at hl 1 rfl) ?_
      refine r_get (v := .int (nI nn)) C hP okX5 6 4 rfl (by decide) fl_X5_41 rfl rfl dX5_add_117 ?_
      refine lv_iconst (v := 0) hx hb dX5_add_120 (by decide) ?_
      refine r_zast (j := nn) (x' := 0) C hP hD hS 4 rfl (by omega) (by decide) (by decide) dX5_add_121 (fun H locs hP hD hS => ?_)
      have hP : va_P D vwCl [(u1, .inl (cI, 1500, .inl (upd nb nn bf))), (u2, .inl (cI, 1500, .inl (upd ns nn sp))), (u3, .inl (cI, 1500, .inl (nF (updN ndp nn ((ndp b) + 1))))), (u5, .inl (cI, 1500, .inl (upd nsc nn sco))), (u6, .inl (cZ, 1500, .inl (upd ntk nn 0))), (u7, .inl (cZ, 1500, .inl nde)), (an, .inr (6, [.ref u0, .ref u1, .ref u2, .ref u3, .int (nI nn), .int (nI ndd), .ref u4, .ref u5, .ref u6, .ref u7, .ref u8, .int (nI ncc), .long ncl])), (u0, .inl (cJ, 1500, .inr (.inl (vp_updL nw nn w)))), (u4, .inl (cI, 1500, .inl (upd ne nn en))), (u8, .inl (cI, 4096, .inl (upd sl (f_slot sl nw ne ncl w en) (nI nn)))), (am, .inr (4, [.long w, .int en, .int lt, .int sh]))] H := hP
      have hD : va_D A [(u1, .inl (cI, 1500, .inl (upd nb nn bf))), (u2, .inl (cI, 1500, .inl (upd ns nn sp))), (u3, .inl (cI, 1500, .inl (nF (updN ndp nn ((ndp b) + 1))))), (u5, .inl (cI, 1500, .inl (upd nsc nn sco))), (u6, .inl (cZ, 1500, .inl (upd ntk nn 0))), (u7, .inl (cZ, 1500, .inl nde)), (an, .inr (6, [.ref u0, .ref u1, .ref u2, .ref u3, .int (nI nn), .int (nI ndd), .ref u4, .ref u5, .ref u6, .ref u7, .ref u8, .int (nI ncc), .long ncl])), (u0, .inl (cJ, 1500, .inr (.inl (vp_updL nw nn w)))), (u4, .inl (cI, 1500, .inl (upd ne nn en))), (u8, .inl (cI, 4096, .inl (upd sl (f_slot sl nw ne ncl w en) (nI nn)))), (am, .inr (4, [.long w, .int en, .int lt, .int sh]))] := hD
      refine lv_aload_n hx hb dX5_add_122 rfl (lv_at hl 1 rfl) ?_
      refine r_get (v := .ref u7) C hP okX5 6 9 rfl (by decide) fl_X5_35 rfl rfl dX5_add_123 ?_
      refine lv_aload_n hx hb dX5_add_126 rfl (lv_at hl 1 rfl) ?_
      refine r_get (v := .int (nI nn)) C hP okX5 6 4 rfl (by decide) fl_X5_41 rfl rfl dX5_add_127 ?_
      refine lv_iconst (v := 0) hx hb dX5_add_130 (by decide) ?_
      refine r_zast (j := nn) (x' := 0) C hP hD hS 5 rfl (by omega) (by decide) (by decide) dX5_add_131 (fun H locs hP hD hS => ?_)
      have hP : va_P D vwCl [(u1, .inl (cI, 1500, .inl (upd nb nn bf))), (u2, .inl (cI, 1500, .inl (upd ns nn sp))), (u3, .inl (cI, 1500, .inl (nF (updN ndp nn ((ndp b) + 1))))), (u5, .inl (cI, 1500, .inl (upd nsc nn sco))), (u6, .inl (cZ, 1500, .inl (upd ntk nn 0))), (u7, .inl (cZ, 1500, .inl (upd nde nn 0))), (an, .inr (6, [.ref u0, .ref u1, .ref u2, .ref u3, .int (nI nn), .int (nI ndd), .ref u4, .ref u5, .ref u6, .ref u7, .ref u8, .int (nI ncc), .long ncl])), (u0, .inl (cJ, 1500, .inr (.inl (vp_updL nw nn w)))), (u4, .inl (cI, 1500, .inl (upd ne nn en))), (u8, .inl (cI, 4096, .inl (upd sl (f_slot sl nw ne ncl w en) (nI nn)))), (am, .inr (4, [.long w, .int en, .int lt, .int sh]))] H := hP
      have hD : va_D A [(u1, .inl (cI, 1500, .inl (upd nb nn bf))), (u2, .inl (cI, 1500, .inl (upd ns nn sp))), (u3, .inl (cI, 1500, .inl (nF (updN ndp nn ((ndp b) + 1))))), (u5, .inl (cI, 1500, .inl (upd nsc nn sco))), (u6, .inl (cZ, 1500, .inl (upd ntk nn 0))), (u7, .inl (cZ, 1500, .inl (upd nde nn 0))), (an, .inr (6, [.ref u0, .ref u1, .ref u2, .ref u3, .int (nI nn), .int (nI ndd), .ref u4, .ref u5, .ref u6, .ref u7, .ref u8, .int (nI ncc), .long ncl])), (u0, .inl (cJ, 1500, .inr (.inl (vp_updL nw nn w)))), (u4, .inl (cI, 1500, .inl (upd ne nn en))), (u8, .inl (cI, 4096, .inl (upd sl (f_slot sl nw ne ncl w en) (nI nn)))), (am, .inr (4, [.long w, .int en, .int lt, .int sh]))] := hD
      refine lv_aload_n hx hb dX5_add_132 rfl (lv_at hl 1 rfl) ?_
      refine lv_dup hx hb dX5_add_133 rfl ?_
      refine r_get (v := .int (nI nn)) C hP okX5 6 4 rfl (by decide) fl_X5_41 rfl rfl dX5_add_134 ?_
      refine lv_iconst (v := 1) hx hb dX5_add_137 (by decide) ?_
      refine lv_iadd hx hb dX5_add_138 ?_
      refine r_top (x' := nI (nn + 1)) (nI_add nn 1) ?_
      refine r_put (v := .int (nI (nn + 1))) C hP hD hS okX5 6 4 rfl (by decide) fl_X5_41 rfl rfl rfl rfl (Nat.le_of_ble_eq_true rfl) dX5_add_139 (fun H locs hP hD hS => ?_)
      have hP : va_P D vwCl [(u1, .inl (cI, 1500, .inl (upd nb nn bf))), (u2, .inl (cI, 1500, .inl (upd ns nn sp))), (u3, .inl (cI, 1500, .inl (nF (updN ndp nn ((ndp b) + 1))))), (u5, .inl (cI, 1500, .inl (upd nsc nn sco))), (u6, .inl (cZ, 1500, .inl (upd ntk nn 0))), (u7, .inl (cZ, 1500, .inl (upd nde nn 0))), (an, .inr (6, [.ref u0, .ref u1, .ref u2, .ref u3, .int (nI (nn + 1)), .int (nI ndd), .ref u4, .ref u5, .ref u6, .ref u7, .ref u8, .int (nI ncc), .long ncl])), (u0, .inl (cJ, 1500, .inr (.inl (vp_updL nw nn w)))), (u4, .inl (cI, 1500, .inl (upd ne nn en))), (u8, .inl (cI, 4096, .inl (upd sl (f_slot sl nw ne ncl w en) (nI nn)))), (am, .inr (4, [.long w, .int en, .int lt, .int sh]))] H := hP
      have hD : va_D A [(u1, .inl (cI, 1500, .inl (upd nb nn bf))), (u2, .inl (cI, 1500, .inl (upd ns nn sp))), (u3, .inl (cI, 1500, .inl (nF (updN ndp nn ((ndp b) + 1))))), (u5, .inl (cI, 1500, .inl (upd nsc nn sco))), (u6, .inl (cZ, 1500, .inl (upd ntk nn 0))), (u7, .inl (cZ, 1500, .inl (upd nde nn 0))), (an, .inr (6, [.ref u0, .ref u1, .ref u2, .ref u3, .int (nI (nn + 1)), .int (nI ndd), .ref u4, .ref u5, .ref u6, .ref u7, .ref u8, .int (nI ncc), .long ncl])), (u0, .inl (cJ, 1500, .inr (.inl (vp_updL nw nn w)))), (u4, .inl (cI, 1500, .inl (upd ne nn en))), (u8, .inl (cI, 4096, .inl (upd sl (f_slot sl nw ne ncl w en) (nI nn)))), (am, .inr (4, [.long w, .int en, .int lt, .int sh]))] := hD
      exact rt_v C hQ (hP.sub (ws' := [(an, .inr (6, [.ref u0, .ref u1, .ref u2, .ref u3, .int (nI (nn + 1)), .int (nI ndd), .ref u4, .ref u5, .ref u6, .ref u7, .ref u8, .int (nI ncc), .long ncl])), (u0, .inl (cJ, 1500, .inr (.inl (vp_updL nw nn w)))), (u1, .inl (cI, 1500, .inl (upd nb nn bf))), (u2, .inl (cI, 1500, .inl (upd ns nn sp))), (u3, .inl (cI, 1500, .inl (nF (updN ndp nn ((ndp b) + 1))))), (u4, .inl (cI, 1500, .inl (upd ne nn en))), (u5, .inl (cI, 1500, .inl (upd nsc nn sco))), (u6, .inl (cZ, 1500, .inl (upd ntk nn 0))), (u7, .inl (cZ, 1500, .inl (upd nde nn 0))), (u8, .inl (cI, 4096, .inl (upd sl (f_slot sl nw ne ncl w en) (nI nn)))), (am, .inr (4, [.long w, .int en, .int lt, .int sh]))]) [6, 7, 0, 1, 2, 8, 3, 4, 5, 9, 10] rfl) (hD.sub [6, 7, 0, 1, 2, 8, 3, 4, 5, 9, 10] (by decide) rfl) hS ⟨rfl, by have ed : f_dep ndp bf = ndp b + 1 := (by simp only [f_dep]; rw [if_neg c_85, eb, nI_clamp (by omega)]); rw [ed, if_pos c_15]⟩ (by decide) (by decide) dX5_add_142
    · -- not taken 85
      refine lv_iconst (v := 0) hx hb dX5_add_88 (by decide) ?_
      refine lv_goto (tgt := 100) hx hb dX5_add_89 (by decide) ?_
      refine r_iast (j := nn) C hP hD hS 2 rfl (by omega) (by decide) dX5_add_100 (fun H locs hP hD hS => ?_)
      rw [show (0 : Int32) = nI 0 from rfl] at hP hD
      rw [nF_upd] at hP hD
      have hP : va_P D vwCl [(u1, .inl (cI, 1500, .inl (upd nb nn bf))), (u2, .inl (cI, 1500, .inl (upd ns nn sp))), (u3, .inl (cI, 1500, .inl (nF (updN ndp nn 0)))), (u5, .inl (cI, 1500, .inl nsc)), (u6, .inl (cZ, 1500, .inl ntk)), (u7, .inl (cZ, 1500, .inl nde)), (an, .inr (6, [.ref u0, .ref u1, .ref u2, .ref u3, .int (nI nn), .int (nI ndd), .ref u4, .ref u5, .ref u6, .ref u7, .ref u8, .int (nI ncc), .long ncl])), (u0, .inl (cJ, 1500, .inr (.inl (vp_updL nw nn w)))), (u4, .inl (cI, 1500, .inl (upd ne nn en))), (u8, .inl (cI, 4096, .inl (upd sl (f_slot sl nw ne ncl w en) (nI nn)))), (am, .inr (4, [.long w, .int en, .int lt, .int sh]))] H := hP
      have hD : va_D A [(u1, .inl (cI, 1500, .inl (upd nb nn bf))), (u2, .inl (cI, 1500, .inl (upd ns nn sp))), (u3, .inl (cI, 1500, .inl (nF (updN ndp nn 0)))), (u5, .inl (cI, 1500, .inl nsc)), (u6, .inl (cZ, 1500, .inl ntk)), (u7, .inl (cZ, 1500, .inl nde)), (an, .inr (6, [.ref u0, .ref u1, .ref u2, .ref u3, .int (nI nn), .int (nI ndd), .ref u4, .ref u5, .ref u6, .ref u7, .ref u8, .int (nI ncc), .long ncl])), (u0, .inl (cJ, 1500, .inr (.inl (vp_updL nw nn w)))), (u4, .inl (cI, 1500, .inl (upd ne nn en))), (u8, .inl (cI, 4096, .inl (upd sl (f_slot sl nw ne ncl w en) (nI nn)))), (am, .inr (4, [.long w, .int en, .int lt, .int sh]))] := hD
      refine lv_aload_n hx hb dX5_add_101 rfl (lv_at hl 1 rfl) ?_
      refine r_get (v := .ref u5) C hP okX5 6 7 rfl (by decide) fl_X5_28 rfl rfl dX5_add_102 ?_
      refine lv_aload_n hx hb dX5_add_105 rfl (lv_at hl 1 rfl) ?_
      refine r_get (v := .int (nI nn)) C hP okX5 6 4 rfl (by decide) fl_X5_41 rfl rfl dX5_add_106 ?_
      refine lv_iload hx hb dX5_add_109 (lv_at hl 5 rfl) ?_
      refine r_iast (j := nn) C hP hD hS 3 rfl (by omega) (by decide) dX5_add_111 (fun H locs hP hD hS => ?_)
      have hP : va_P D vwCl [(u1, .inl (cI, 1500, .inl (upd nb nn bf))), (u2, .inl (cI, 1500, .inl (upd ns nn sp))), (u3, .inl (cI, 1500, .inl (nF (updN ndp nn 0)))), (u5, .inl (cI, 1500, .inl (upd nsc nn sco))), (u6, .inl (cZ, 1500, .inl ntk)), (u7, .inl (cZ, 1500, .inl nde)), (an, .inr (6, [.ref u0, .ref u1, .ref u2, .ref u3, .int (nI nn), .int (nI ndd), .ref u4, .ref u5, .ref u6, .ref u7, .ref u8, .int (nI ncc), .long ncl])), (u0, .inl (cJ, 1500, .inr (.inl (vp_updL nw nn w)))), (u4, .inl (cI, 1500, .inl (upd ne nn en))), (u8, .inl (cI, 4096, .inl (upd sl (f_slot sl nw ne ncl w en) (nI nn)))), (am, .inr (4, [.long w, .int en, .int lt, .int sh]))] H := hP
      have hD : va_D A [(u1, .inl (cI, 1500, .inl (upd nb nn bf))), (u2, .inl (cI, 1500, .inl (upd ns nn sp))), (u3, .inl (cI, 1500, .inl (nF (updN ndp nn 0)))), (u5, .inl (cI, 1500, .inl (upd nsc nn sco))), (u6, .inl (cZ, 1500, .inl ntk)), (u7, .inl (cZ, 1500, .inl nde)), (an, .inr (6, [.ref u0, .ref u1, .ref u2, .ref u3, .int (nI nn), .int (nI ndd), .ref u4, .ref u5, .ref u6, .ref u7, .ref u8, .int (nI ncc), .long ncl])), (u0, .inl (cJ, 1500, .inr (.inl (vp_updL nw nn w)))), (u4, .inl (cI, 1500, .inl (upd ne nn en))), (u8, .inl (cI, 4096, .inl (upd sl (f_slot sl nw ne ncl w en) (nI nn)))), (am, .inr (4, [.long w, .int en, .int lt, .int sh]))] := hD
      refine lv_aload_n hx hb dX5_add_112 rfl (lv_at hl 1 rfl) ?_
      refine r_get (v := .ref u6) C hP okX5 6 8 rfl (by decide) fl_X5_31 rfl rfl dX5_add_113 ?_
      refine lv_aload_n hx hb dX5_add_116 rfl (lv_at hl 1 rfl) ?_
      refine r_get (v := .int (nI nn)) C hP okX5 6 4 rfl (by decide) fl_X5_41 rfl rfl dX5_add_117 ?_
      refine lv_iconst (v := 0) hx hb dX5_add_120 (by decide) ?_
      refine r_zast (j := nn) (x' := 0) C hP hD hS 4 rfl (by omega) (by decide) (by decide) dX5_add_121 (fun H locs hP hD hS => ?_)
      have hP : va_P D vwCl [(u1, .inl (cI, 1500, .inl (upd nb nn bf))), (u2, .inl (cI, 1500, .inl (upd ns nn sp))), (u3, .inl (cI, 1500, .inl (nF (updN ndp nn 0)))), (u5, .inl (cI, 1500, .inl (upd nsc nn sco))), (u6, .inl (cZ, 1500, .inl (upd ntk nn 0))), (u7, .inl (cZ, 1500, .inl nde)), (an, .inr (6, [.ref u0, .ref u1, .ref u2, .ref u3, .int (nI nn), .int (nI ndd), .ref u4, .ref u5, .ref u6, .ref u7, .ref u8, .int (nI ncc), .long ncl])), (u0, .inl (cJ, 1500, .inr (.inl (vp_updL nw nn w)))), (u4, .inl (cI, 1500, .inl (upd ne nn en))), (u8, .inl (cI, 4096, .inl (upd sl (f_slot sl nw ne ncl w en) (nI nn)))), (am, .inr (4, [.long w, .int en, .int lt, .int sh]))] H := hP
      have hD : va_D A [(u1, .inl (cI, 1500, .inl (upd nb nn bf))), (u2, .inl (cI, 1500, .inl (upd ns nn sp))), (u3, .inl (cI, 1500, .inl (nF (updN ndp nn 0)))), (u5, .inl (cI, 1500, .inl (upd nsc nn sco))), (u6, .inl (cZ, 1500, .inl (upd ntk nn 0))), (u7, .inl (cZ, 1500, .inl nde)), (an, .inr (6, [.ref u0, .ref u1, .ref u2, .ref u3, .int (nI nn), .int (nI ndd), .ref u4, .ref u5, .ref u6, .ref u7, .ref u8, .int (nI ncc), .long ncl])), (u0, .inl (cJ, 1500, .inr (.inl (vp_updL nw nn w)))), (u4, .inl (cI, 1500, .inl (upd ne nn en))), (u8, .inl (cI, 4096, .inl (upd sl (f_slot sl nw ne ncl w en) (nI nn)))), (am, .inr (4, [.long w, .int en, .int lt, .int sh]))] := hD
      refine lv_aload_n hx hb dX5_add_122 rfl (lv_at hl 1 rfl) ?_
      refine r_get (v := .ref u7) C hP okX5 6 9 rfl (by decide) fl_X5_35 rfl rfl dX5_add_123 ?_
      refine lv_aload_n hx hb dX5_add_126 rfl (lv_at hl 1 rfl) ?_
      refine r_get (v := .int (nI nn)) C hP okX5 6 4 rfl (by decide) fl_X5_41 rfl rfl dX5_add_127 ?_
      refine lv_iconst (v := 0) hx hb dX5_add_130 (by decide) ?_
      refine r_zast (j := nn) (x' := 0) C hP hD hS 5 rfl (by omega) (by decide) (by decide) dX5_add_131 (fun H locs hP hD hS => ?_)
      have hP : va_P D vwCl [(u1, .inl (cI, 1500, .inl (upd nb nn bf))), (u2, .inl (cI, 1500, .inl (upd ns nn sp))), (u3, .inl (cI, 1500, .inl (nF (updN ndp nn 0)))), (u5, .inl (cI, 1500, .inl (upd nsc nn sco))), (u6, .inl (cZ, 1500, .inl (upd ntk nn 0))), (u7, .inl (cZ, 1500, .inl (upd nde nn 0))), (an, .inr (6, [.ref u0, .ref u1, .ref u2, .ref u3, .int (nI nn), .int (nI ndd), .ref u4, .ref u5, .ref u6, .ref u7, .ref u8, .int (nI ncc), .long ncl])), (u0, .inl (cJ, 1500, .inr (.inl (vp_updL nw nn w)))), (u4, .inl (cI, 1500, .inl (upd ne nn en))), (u8, .inl (cI, 4096, .inl (upd sl (f_slot sl nw ne ncl w en) (nI nn)))), (am, .inr (4, [.long w, .int en, .int lt, .int sh]))] H := hP
      have hD : va_D A [(u1, .inl (cI, 1500, .inl (upd nb nn bf))), (u2, .inl (cI, 1500, .inl (upd ns nn sp))), (u3, .inl (cI, 1500, .inl (nF (updN ndp nn 0)))), (u5, .inl (cI, 1500, .inl (upd nsc nn sco))), (u6, .inl (cZ, 1500, .inl (upd ntk nn 0))), (u7, .inl (cZ, 1500, .inl (upd nde nn 0))), (an, .inr (6, [.ref u0, .ref u1, .ref u2, .ref u3, .int (nI nn), .int (nI ndd), .ref u4, .ref u5, .ref u6, .ref u7, .ref u8, .int (nI ncc), .long ncl])), (u0, .inl (cJ, 1500, .inr (.inl (vp_updL nw nn w)))), (u4, .inl (cI, 1500, .inl (upd ne nn en))), (u8, .inl (cI, 4096, .inl (upd sl (f_slot sl nw ne ncl w en) (nI nn)))), (am, .inr (4, [.long w, .int en, .int lt, .int sh]))] := hD
      refine lv_aload_n hx hb dX5_add_132 rfl (lv_at hl 1 rfl) ?_
      refine lv_dup hx hb dX5_add_133 rfl ?_
      refine r_get (v := .int (nI nn)) C hP okX5 6 4 rfl (by decide) fl_X5_41 rfl rfl dX5_add_134 ?_
      refine lv_iconst (v := 1) hx hb dX5_add_137 (by decide) ?_
      refine lv_iadd hx hb dX5_add_138 ?_
      refine r_top (x' := nI (nn + 1)) (nI_add nn 1) ?_
      refine r_put (v := .int (nI (nn + 1))) C hP hD hS okX5 6 4 rfl (by decide) fl_X5_41 rfl rfl rfl rfl (Nat.le_of_ble_eq_true rfl) dX5_add_139 (fun H locs hP hD hS => ?_)
      have hP : va_P D vwCl [(u1, .inl (cI, 1500, .inl (upd nb nn bf))), (u2, .inl (cI, 1500, .inl (upd ns nn sp))), (u3, .inl (cI, 1500, .inl (nF (updN ndp nn 0)))), (u5, .inl (cI, 1500, .inl (upd nsc nn sco))), (u6, .inl (cZ, 1500, .inl (upd ntk nn 0))), (u7, .inl (cZ, 1500, .inl (upd nde nn 0))), (an, .inr (6, [.ref u0, .ref u1, .ref u2, .ref u3, .int (nI (nn + 1)), .int (nI ndd), .ref u4, .ref u5, .ref u6, .ref u7, .ref u8, .int (nI ncc), .long ncl])), (u0, .inl (cJ, 1500, .inr (.inl (vp_updL nw nn w)))), (u4, .inl (cI, 1500, .inl (upd ne nn en))), (u8, .inl (cI, 4096, .inl (upd sl (f_slot sl nw ne ncl w en) (nI nn)))), (am, .inr (4, [.long w, .int en, .int lt, .int sh]))] H := hP
      have hD : va_D A [(u1, .inl (cI, 1500, .inl (upd nb nn bf))), (u2, .inl (cI, 1500, .inl (upd ns nn sp))), (u3, .inl (cI, 1500, .inl (nF (updN ndp nn 0)))), (u5, .inl (cI, 1500, .inl (upd nsc nn sco))), (u6, .inl (cZ, 1500, .inl (upd ntk nn 0))), (u7, .inl (cZ, 1500, .inl (upd nde nn 0))), (an, .inr (6, [.ref u0, .ref u1, .ref u2, .ref u3, .int (nI (nn + 1)), .int (nI ndd), .ref u4, .ref u5, .ref u6, .ref u7, .ref u8, .int (nI ncc), .long ncl])), (u0, .inl (cJ, 1500, .inr (.inl (vp_updL nw nn w)))), (u4, .inl (cI, 1500, .inl (upd ne nn en))), (u8, .inl (cI, 4096, .inl (upd sl (f_slot sl nw ne ncl w en) (nI nn)))), (am, .inr (4, [.long w, .int en, .int lt, .int sh]))] := hD
      exact rt_v C hQ (hP.sub (ws' := [(an, .inr (6, [.ref u0, .ref u1, .ref u2, .ref u3, .int (nI (nn + 1)), .int (nI ndd), .ref u4, .ref u5, .ref u6, .ref u7, .ref u8, .int (nI ncc), .long ncl])), (u0, .inl (cJ, 1500, .inr (.inl (vp_updL nw nn w)))), (u1, .inl (cI, 1500, .inl (upd nb nn bf))), (u2, .inl (cI, 1500, .inl (upd ns nn sp))), (u3, .inl (cI, 1500, .inl (nF (updN ndp nn 0)))), (u4, .inl (cI, 1500, .inl (upd ne nn en))), (u5, .inl (cI, 1500, .inl (upd nsc nn sco))), (u6, .inl (cZ, 1500, .inl (upd ntk nn 0))), (u7, .inl (cZ, 1500, .inl (upd nde nn 0))), (u8, .inl (cI, 4096, .inl (upd sl (f_slot sl nw ne ncl w en) (nI nn)))), (am, .inr (4, [.long w, .int en, .int lt, .int sh]))]) [6, 7, 0, 1, 2, 8, 3, 4, 5, 9, 10] rfl) (hD.sub [6, 7, 0, 1, 2, 8, 3, 4, 5, 9, 10] (by decide) rfl) hS ⟨rfl, by have ed : f_dep ndp bf = 0 := (by simp only [f_dep]; rw [if_pos c_85]); rw [ed, if_pos c_15]⟩ (by decide) (by decide) dX5_add_142
set_option maxHeartbeats 4000000 in
set_option maxRecDepth 100000 in
theorem c_X5_isOpen (l : Launch) (D : va_G) (cI cJ cZ : ClassId) (an : Nat) (u0 : Nat) (u1 : Nat) (u2 : Nat) (u3 : Nat) (u4 : Nat) (u5 : Nat) (u6 : Nat) (u7 : Nat) (u8 : Nat) (nn : Nat) (ndd : Nat) (ncc : Nat) (ncl : Int64) (ne : Nat → Int32) (ntk : Nat → Int32) (j : Nat) (hj : j < 1500) : Ctr l D cI cJ cZ yX5_isOpen cX5_isOpen 2 (some .boolean) ({ frames := 0, cells := 0, slots := 0, locals := 0 } : Room) [.ref an, .int (nI j)] [(an, .inr (6, [.ref u0, .ref u1, .ref u2, .ref u3, .int (nI nn), .int (nI ndd), .ref u4, .ref u5, .ref u6, .ref u7, .ref u8, .int (nI ncc), .long ncl])), (u4, .inl (cI, 1500, .inl ne)), (u6, .inl (cZ, 1500, .inl ntk))] (fun r W => ((r = some (.int 1) ∧ (f_open ntk ne j = true)) ∨ (r = some (.int 0) ∧ ¬ (f_open ntk ne j = true))) ∧ W = [(an, .inr (6, [.ref u0, .ref u1, .ref u2, .ref u3, .int (nI nn), .int (nI ndd), .ref u4, .ref u5, .ref u6, .ref u7, .ref u8, .int (nI ncc), .long ncl])), (u4, .inl (cI, 1500, .inl ne)), (u6, .inl (cZ, 1500, .inl ntk))]) := by
  refine Ctr.start (by decide +kernel) (Nat.le_of_ble_eq_true rfl) ?_
  intro p e s m below meth c A Q ls H C hQ hA hP hD hS hl
  obtain ⟨hx, hb, hr, hml, hts, hown, hlk, hnm, hK, hN⟩ := id C
  have hl : lv_has ls 2 [(0, .ref an), (1, .int (nI j))] := hl
  refine lv_aload_n hx hb dX5_isOpen_0 rfl (lv_at hl 0 rfl) ?_
  refine r_get (v := .ref u6) C hP okX5 0 8 rfl (by decide) fl_X5_31 rfl rfl dX5_isOpen_1 ?_
  refine lv_iload_n hx hb dX5_isOpen_4 rfl (lv_at hl 1 rfl) ?_
  refine r_zald (j := j) C hP 2 rfl (by omega) (by decide) dX5_isOpen_5 ?_
  refine lv_if_ne (tgt := 22) hx hb dX5_isOpen_6 (by decide) (fun c_6 => ?_) (fun c_6 => ?_)
  · -- taken 6
    refine lv_iconst (v := 0) hx hb dX5_isOpen_22 (by decide) ?_
    exact rt_z C hQ (by decide) (hP.sub (ws' := [(an, .inr (6, [.ref u0, .ref u1, .ref u2, .ref u3, .int (nI nn), .int (nI ndd), .ref u4, .ref u5, .ref u6, .ref u7, .ref u8, .int (nI ncc), .long ncl])), (u4, .inl (cI, 1500, .inl ne)), (u6, .inl (cZ, 1500, .inl ntk))]) [0, 1, 2] rfl) (hD.sub [0, 1, 2] (by decide) rfl) hS ⟨Or.inr ⟨rfl, by simp only [f_open, Bool.and_eq_true, decide_eq_true_eq]; first | exact fun z => c_6 z.1 | exact fun z => c_15 z.2⟩, rfl⟩ (by decide) (by decide) dX5_isOpen_23
  · -- not taken 6
    refine lv_aload_n hx hb dX5_isOpen_9 rfl (lv_at hl 0 rfl) ?_
    refine r_get (v := .ref u4) C hP okX5 0 6 rfl (by decide) fl_X5_25 rfl rfl dX5_isOpen_10 ?_
    refine lv_iload_n hx hb dX5_isOpen_13 rfl (lv_at hl 1 rfl) ?_
    refine r_iald (j := j) C hP 1 rfl (by omega) (by decide) dX5_isOpen_14 ?_
    refine lv_if_ne (tgt := 22) hx hb dX5_isOpen_15 (by decide) (fun c_15 => ?_) (fun c_15 => ?_)
    · -- taken 15
      refine lv_iconst (v := 0) hx hb dX5_isOpen_22 (by decide) ?_
      exact rt_z C hQ (by decide) (hP.sub (ws' := [(an, .inr (6, [.ref u0, .ref u1, .ref u2, .ref u3, .int (nI nn), .int (nI ndd), .ref u4, .ref u5, .ref u6, .ref u7, .ref u8, .int (nI ncc), .long ncl])), (u4, .inl (cI, 1500, .inl ne)), (u6, .inl (cZ, 1500, .inl ntk))]) [0, 1, 2] rfl) (hD.sub [0, 1, 2] (by decide) rfl) hS ⟨Or.inr ⟨rfl, by simp only [f_open, Bool.and_eq_true, decide_eq_true_eq]; first | exact fun z => c_6 z.1 | exact fun z => c_15 z.2⟩, rfl⟩ (by decide) (by decide) dX5_isOpen_23
    · -- not taken 15
      refine lv_iconst (v := 1) hx hb dX5_isOpen_18 (by decide) ?_
      refine lv_goto (tgt := 23) hx hb dX5_isOpen_19 (by decide) ?_
      exact rt_z C hQ (by decide) (hP.sub (ws' := [(an, .inr (6, [.ref u0, .ref u1, .ref u2, .ref u3, .int (nI nn), .int (nI ndd), .ref u4, .ref u5, .ref u6, .ref u7, .ref u8, .int (nI ncc), .long ncl])), (u4, .inl (cI, 1500, .inl ne)), (u6, .inl (cZ, 1500, .inl ntk))]) [0, 1, 2] rfl) (hD.sub [0, 1, 2] (by decide) rfl) hS ⟨Or.inl ⟨rfl, by simp [f_open, c_6, c_15]⟩, rfl⟩ (by decide) (by decide) dX5_isOpen_23
set_option maxHeartbeats 4000000 in
set_option maxRecDepth 100000 in
theorem lp_X5_leastOpen_2 (l : Launch) (D : va_G) (cI cJ cZ : ClassId) (an : Nat) (u0 : Nat) (u1 : Nat) (u2 : Nat) (u3 : Nat) (u4 : Nat) (u5 : Nat) (u6 : Nat) (u7 : Nat) (u8 : Nat) (nn : Nat) (ndd : Nat) (ncc : Nat) (ncl : Int64) (ne : Nat → Int32) (ntk : Nat → Int32) (fr : Nat) (hnn : nn ≤ 1500) (hfr : fr < 2 ^ 31)   {p : Program} {e : Env} {s : State} {m : MethodId} {below : List Frame} {meth : Method} {c : Code} {A : Nat → Prop} {Q : State → Prop} (C : Cx D cI cJ cZ p s m ([.ref an, .int (nI fr)] : List Value).toArray meth c yX5_leastOpen cX5_leastOpen 3 (some .int)) (hQ : QOK Q below s ([.ref an, .int (nI fr)] : List Value).toArray D A (fun r W => r = some (.int (f_least (f_open ntk ne) (nn - fr) fr)) ∧ W = [(an, .inr (6, [.ref u0, .ref u1, .ref u2, .ref u3, .int (nI nn), .int (nI ndd), .ref u4, .ref u5, .ref u6, .ref u7, .ref u8, .int (nI ncc), .long ncl])), (u4, .inl (cI, 1500, .inl ne)), (u6, .inl (cZ, 1500, .inl ntk))]) 0 0) (hA : ∀ q, s.heap.size ≤ q → A q) : ∀ (ku : Nat) (i : Nat) (hi : i < 2 ^ 31) (hp : f_least (f_open ntk ne) (nn - i) i = f_least (f_open ntk ne) (nn - fr) fr), (nn - i) < ku → ∀ (H : Heap) (locs : List Loc) (ls : Array Slot), va_P D vwCl [(an, .inr (6, [.ref u0, .ref u1, .ref u2, .ref u3, .int (nI nn), .int (nI ndd), .ref u4, .ref u5, .ref u6, .ref u7, .ref u8, .int (nI ncc), .long ncl])), (u4, .inl (cI, 1500, .inl ne)), (u6, .inl (cZ, 1500, .inl ntk))] H → va_D A [(an, .inr (6, [.ref u0, .ref u1, .ref u2, .ref u3, .int (nI nn), .int (nI ndd), .ref u4, .ref u5, .ref u6, .ref u7, .ref u8, .int (nI ncc), .long ncl])), (u4, .inl (cI, 1500, .inl ne)), (u6, .inl (cZ, 1500, .inl ntk))] → va_S A s.heap H locs → lv_has ls 3 [(0, .ref an), (2, .int (nI i))] → W p l e ({ frames := 1, cells := 0, slots := 0, locals := 21 } : Room) s m ([.ref an, .int (nI fr)] : List Value).toArray below meth c H locs 0 0 Q (F0 m 2 ls []) := by
  obtain ⟨hx, hb, hr, hml, hts, hown, hlk, hnm, hK, hN⟩ := id C
  intro ku
  induction ku with
  | zero =>
    intro i hi hp hku
    exact absurd hku (Nat.not_lt_zero _)
  | succ ku ih =>
    intro i hi hp hku H locs ls hP hD hS hl
    refine lv_iload_n hx hb dX5_leastOpen_2 rfl (lv_at hl 1 rfl) ?_
    refine lv_aload_n hx hb dX5_leastOpen_3 rfl (lv_at hl 0 rfl) ?_
    refine r_get (v := .int (nI nn)) C hP okX5 0 4 rfl (by decide) fl_X5_41 rfl rfl dX5_leastOpen_4 ?_
    refine lv_icmp_ge (tgt := 26) hx hb dX5_leastOpen_7 (by decide) (fun c_7 => ?_) (fun c_7 => ?_)
    · -- taken 7
      have c_7 : nn ≤ i := (nI_leI (a := nn) (b := i) (by omega) (by omega)).mp c_7
      refine lv_iconst (v := (-1)) hx hb dX5_leastOpen_26 (by decide) ?_
      exact rt_i C hQ (hP.sub (ws' := [(an, .inr (6, [.ref u0, .ref u1, .ref u2, .ref u3, .int (nI nn), .int (nI ndd), .ref u4, .ref u5, .ref u6, .ref u7, .ref u8, .int (nI ncc), .long ncl])), (u4, .inl (cI, 1500, .inl ne)), (u6, .inl (cZ, 1500, .inl ntk))]) [0, 1, 2] rfl) (hD.sub [0, 1, 2] (by decide) rfl) hS ⟨by rw [← hp, show nn - i = 0 by omega]; rfl, rfl⟩ (by decide) (by decide) dX5_leastOpen_27
    · -- not taken 7
      have c_7 : ¬ (nn ≤ i) := fun z => c_7 ((nI_leI (a := nn) (b := i) (by omega) (by omega)).mpr z)
      refine lv_aload_n hx hb dX5_leastOpen_10 rfl (lv_at hl 0 rfl) ?_
      refine lv_iload_n hx hb dX5_leastOpen_11 rfl (lv_at hl 1 rfl) ?_
      refine cl_v C (c_X5_isOpen l D cI cJ cZ an u0 u1 u2 u3 u4 u5 u6 u7 u8 nn ndd ncc ncl ne ntk i (by omega)) cd_X5_isOpen ml_X5_87 im_X5_isOpen se_X5_isOpen in_X5 hd_X5_isOpen ⟨by decide, by decide⟩ hP hD hS hA (WR := []) [0, 1, 2] [] rfl rfl rfl rfl (by decide) (ci := 6) (q0 := 0) rfl rfl hl.1 rfl (Nat.le_of_ble_eq_true rfl) dX5_leastOpen_12 ⟨by decide, by decide⟩ (fun r W H locs hp hP hD hS => ?_)
      rcases hp with ⟨⟨rfl, hb_12⟩ | ⟨rfl, hb_12⟩, rfl⟩
      · -- yes 12
        refine W.eq (g2 := F0 m 15 ls [.int 1]) rfl ?_
        have hP : va_P D vwCl [(an, .inr (6, [.ref u0, .ref u1, .ref u2, .ref u3, .int (nI nn), .int (nI ndd), .ref u4, .ref u5, .ref u6, .ref u7, .ref u8, .int (nI ncc), .long ncl])), (u4, .inl (cI, 1500, .inl ne)), (u6, .inl (cZ, 1500, .inl ntk))] H := hP
        have hD : va_D A [(an, .inr (6, [.ref u0, .ref u1, .ref u2, .ref u3, .int (nI nn), .int (nI ndd), .ref u4, .ref u5, .ref u6, .ref u7, .ref u8, .int (nI ncc), .long ncl])), (u4, .inl (cI, 1500, .inl ne)), (u6, .inl (cZ, 1500, .inl ntk))] := hD
        refine lv_if_eq (tgt := 20) hx hb dX5_leastOpen_15 (by decide) (fun c_15 => ?_) (fun c_15 => ?_)
        · exact absurd c_15 (by decide)
        refine lv_iload_n hx hb dX5_leastOpen_18 rfl (lv_at hl 1 rfl) ?_
        exact rt_i C hQ (hP.sub (ws' := [(an, .inr (6, [.ref u0, .ref u1, .ref u2, .ref u3, .int (nI nn), .int (nI ndd), .ref u4, .ref u5, .ref u6, .ref u7, .ref u8, .int (nI ncc), .long ncl])), (u4, .inl (cI, 1500, .inl ne)), (u6, .inl (cZ, 1500, .inl ntk))]) [0, 1, 2] rfl) (hD.sub [0, 1, 2] (by decide) rfl) hS ⟨by rw [← hp, f_least_1 (by omega) hb_12], rfl⟩ (by decide) (by decide) dX5_leastOpen_19
      · -- no 12
        refine W.eq (g2 := F0 m 15 ls [.int 0]) rfl ?_
        have hP : va_P D vwCl [(an, .inr (6, [.ref u0, .ref u1, .ref u2, .ref u3, .int (nI nn), .int (nI ndd), .ref u4, .ref u5, .ref u6, .ref u7, .ref u8, .int (nI ncc), .long ncl])), (u4, .inl (cI, 1500, .inl ne)), (u6, .inl (cZ, 1500, .inl ntk))] H := hP
        have hD : va_D A [(an, .inr (6, [.ref u0, .ref u1, .ref u2, .ref u3, .int (nI nn), .int (nI ndd), .ref u4, .ref u5, .ref u6, .ref u7, .ref u8, .int (nI ncc), .long ncl])), (u4, .inl (cI, 1500, .inl ne)), (u6, .inl (cZ, 1500, .inl ntk))] := hD
        refine lv_if_eq (tgt := 20) hx hb dX5_leastOpen_15 (by decide) (fun c_15 => ?_) (fun c_15 => ?_)
        rotate_left
        · exact absurd c_15 (by decide)
        refine lv_iinc (v := nI (i + 1)) (lv' := [(2, .int (nI (i + 1))), (0, .ref an)]) hx hb dX5_leastOpen_20 hl (k := 1) rfl (nI_1 _) (by decide) rfl (fun ls hl => ?_)
        refine lv_goto (tgt := 2) hx hb dX5_leastOpen_23 (by decide) ?_
        exact ih (i + 1) (by omega) (by rw [← hp, f_least_2 (k := nn - i) (by omega) hb_12, show nn - (i + 1) = nn - i - 1 by omega]) (by omega) _ _ _ (hP.sub [0, 1, 2] rfl) (hD.sub [0, 1, 2] (by decide) rfl) hS (lv_sub hl [1, 0] rfl)
set_option maxHeartbeats 4000000 in
set_option maxRecDepth 100000 in
theorem c_X5_leastOpen (l : Launch) (D : va_G) (cI cJ cZ : ClassId) (an : Nat) (u0 : Nat) (u1 : Nat) (u2 : Nat) (u3 : Nat) (u4 : Nat) (u5 : Nat) (u6 : Nat) (u7 : Nat) (u8 : Nat) (nn : Nat) (ndd : Nat) (ncc : Nat) (ncl : Int64) (ne : Nat → Int32) (ntk : Nat → Int32) (fr : Nat) (hnn : nn ≤ 1500) (hfr : fr < 2 ^ 31) : Ctr l D cI cJ cZ yX5_leastOpen cX5_leastOpen 3 (some .int) ({ frames := 1, cells := 0, slots := 0, locals := 21 } : Room) [.ref an, .int (nI fr)] [(an, .inr (6, [.ref u0, .ref u1, .ref u2, .ref u3, .int (nI nn), .int (nI ndd), .ref u4, .ref u5, .ref u6, .ref u7, .ref u8, .int (nI ncc), .long ncl])), (u4, .inl (cI, 1500, .inl ne)), (u6, .inl (cZ, 1500, .inl ntk))] (fun r W => r = some (.int (f_least (f_open ntk ne) (nn - fr) fr)) ∧ W = [(an, .inr (6, [.ref u0, .ref u1, .ref u2, .ref u3, .int (nI nn), .int (nI ndd), .ref u4, .ref u5, .ref u6, .ref u7, .ref u8, .int (nI ncc), .long ncl])), (u4, .inl (cI, 1500, .inl ne)), (u6, .inl (cZ, 1500, .inl ntk))]) := by
  refine Ctr.start (by decide +kernel) (Nat.le_of_ble_eq_true rfl) ?_
  intro p e s m below meth c A Q ls H C hQ hA hP hD hS hl
  obtain ⟨hx, hb, hr, hml, hts, hown, hlk, hnm, hK, hN⟩ := id C
  have hl : lv_has ls 3 [(0, .ref an), (1, .int (nI fr))] := hl
  refine lv_iload_n hx hb dX5_leastOpen_0 rfl (lv_at hl 1 rfl) ?_
  refine lv_istore_n (lv' := [(2, .int (nI fr)), (0, .ref an), (1, .int (nI fr))]) hx hb dX5_leastOpen_1 rfl hl (by decide) rfl (fun ls hl => ?_)
  exact lp_X5_leastOpen_2 l D cI cJ cZ an u0 u1 u2 u3 u4 u5 u6 u7 u8 nn ndd ncc ncl ne ntk fr hnn hfr   C hQ hA _ fr hfr rfl (Nat.lt_succ_self _) _ _ _ (hP.sub [0, 1, 2] rfl) (hD.sub [0, 1, 2] (by decide) rfl) hS (lv_sub hl [1, 0] rfl)
set_option maxHeartbeats 4000000 in
set_option maxRecDepth 100000 in
theorem lp_X5_bestOpen_4 (l : Launch) (D : va_G) (cI cJ cZ : ClassId) (an : Nat) (u0 : Nat) (u1 : Nat) (u2 : Nat) (u3 : Nat) (u4 : Nat) (u5 : Nat) (u6 : Nat) (u7 : Nat) (u8 : Nat) (nn : Nat) (ndd : Nat) (ncc : Nat) (ncl : Int64) (ne : Nat → Int32) (nsc : Nat → Int32) (ntk : Nat → Int32) (hnn : nn ≤ 1500)   {p : Program} {e : Env} {s : State} {m : MethodId} {below : List Frame} {meth : Method} {c : Code} {A : Nat → Prop} {Q : State → Prop} (C : Cx D cI cJ cZ p s m ([.ref an] : List Value).toArray meth c yX5_bestOpen cX5_bestOpen 3 (some .int)) (hQ : QOK Q below s ([.ref an] : List Value).toArray D A (fun r W => r = some (.int (oI (f_best (f_open ntk ne) nsc nn))) ∧ W = [(an, .inr (6, [.ref u0, .ref u1, .ref u2, .ref u3, .int (nI nn), .int (nI ndd), .ref u4, .ref u5, .ref u6, .ref u7, .ref u8, .int (nI ncc), .long ncl])), (u4, .inl (cI, 1500, .inl ne)), (u5, .inl (cI, 1500, .inl nsc)), (u6, .inl (cZ, 1500, .inl ntk))]) 0 0) (hA : ∀ q, s.heap.size ≤ q → A q) : ∀ (ku : Nat) (i : Nat) (bo : Int32) (hi : i ≤ nn) (hbo : bo = oI (f_best (f_open ntk ne) nsc i)), (nn - i) < ku → ∀ (H : Heap) (locs : List Loc) (ls : Array Slot), va_P D vwCl [(an, .inr (6, [.ref u0, .ref u1, .ref u2, .ref u3, .int (nI nn), .int (nI ndd), .ref u4, .ref u5, .ref u6, .ref u7, .ref u8, .int (nI ncc), .long ncl])), (u4, .inl (cI, 1500, .inl ne)), (u5, .inl (cI, 1500, .inl nsc)), (u6, .inl (cZ, 1500, .inl ntk))] H → va_D A [(an, .inr (6, [.ref u0, .ref u1, .ref u2, .ref u3, .int (nI nn), .int (nI ndd), .ref u4, .ref u5, .ref u6, .ref u7, .ref u8, .int (nI ncc), .long ncl])), (u4, .inl (cI, 1500, .inl ne)), (u5, .inl (cI, 1500, .inl nsc)), (u6, .inl (cZ, 1500, .inl ntk))] → va_S A s.heap H locs → lv_has ls 3 [(0, .ref an), (1, .int bo), (2, .int (nI i))] → W p l e ({ frames := 1, cells := 0, slots := 0, locals := 21 } : Room) s m ([.ref an] : List Value).toArray below meth c H locs 0 0 Q (F0 m 4 ls []) := by
  obtain ⟨hx, hb, hr, hml, hts, hown, hlk, hnm, hK, hN⟩ := id C
  intro ku
  induction ku with
  | zero =>
    intro i bo hi hbo hku
    exact absurd hku (Nat.not_lt_zero _)
  | succ ku ih =>
    intro i bo hi hbo hku H locs ls hP hD hS hl
    refine lv_iload_n hx hb dX5_bestOpen_4 rfl (lv_at hl 2 rfl) ?_
    refine lv_aload_n hx hb dX5_bestOpen_5 rfl (lv_at hl 0 rfl) ?_
    refine r_get (v := .int (nI nn)) C hP okX5 0 4 rfl (by decide) fl_X5_41 rfl rfl dX5_bestOpen_6 ?_
    refine lv_icmp_ge (tgt := 48) hx hb dX5_bestOpen_9 (by decide) (fun c_9 => ?_) (fun c_9 => ?_)
    · -- taken 9
      have c_9 : nn ≤ i := (nI_leI (a := nn) (b := i) (by omega) (by omega)).mp c_9
      refine lv_iload_n hx hb dX5_bestOpen_48 rfl (lv_at hl 1 rfl) ?_
      exact rt_i C hQ (hP.sub (ws' := [(an, .inr (6, [.ref u0, .ref u1, .ref u2, .ref u3, .int (nI nn), .int (nI ndd), .ref u4, .ref u5, .ref u6, .ref u7, .ref u8, .int (nI ncc), .long ncl])), (u4, .inl (cI, 1500, .inl ne)), (u5, .inl (cI, 1500, .inl nsc)), (u6, .inl (cZ, 1500, .inl ntk))]) [0, 1, 2, 3] rfl) (hD.sub [0, 1, 2, 3] (by decide) rfl) hS ⟨by rw [hbo, show i = nn by omega], rfl⟩ (by decide) (by decide) dX5_bestOpen_49
    · -- not taken 9
      have c_9 : ¬ (nn ≤ i) := fun z => c_9 ((nI_leI (a := nn) (b := i) (by omega) (by omega)).mpr z)
      refine lv_aload_n hx hb dX5_bestOpen_12 rfl (lv_at hl 0 rfl) ?_
      refine lv_iload_n hx hb dX5_bestOpen_13 rfl (lv_at hl 2 rfl) ?_
      refine cl_v C (c_X5_isOpen l D cI cJ cZ an u0 u1 u2 u3 u4 u5 u6 u7 u8 nn ndd ncc ncl ne ntk i (by omega)) cd_X5_isOpen ml_X5_87 im_X5_isOpen se_X5_isOpen in_X5 hd_X5_isOpen ⟨by decide, by decide⟩ hP hD hS hA (WR := [(u5, .inl (cI, 1500, .inl nsc))]) [0, 1, 3] [2] rfl rfl rfl rfl (by decide) (ci := 6) (q0 := 0) rfl rfl hl.1 rfl (Nat.le_of_ble_eq_true rfl) dX5_bestOpen_14 ⟨by decide, by decide⟩ (fun r W H locs hp hP hD hS => ?_)
      rcases hp with ⟨⟨rfl, hb_14⟩ | ⟨rfl, hb_14⟩, rfl⟩
      · -- yes 14
        refine W.eq (g2 := F0 m 17 ls [.int 1]) rfl ?_
        have hP : va_P D vwCl [(u5, .inl (cI, 1500, .inl nsc)), (an, .inr (6, [.ref u0, .ref u1, .ref u2, .ref u3, .int (nI nn), .int (nI ndd), .ref u4, .ref u5, .ref u6, .ref u7, .ref u8, .int (nI ncc), .long ncl])), (u4, .inl (cI, 1500, .inl ne)), (u6, .inl (cZ, 1500, .inl ntk))] H := hP
        have hD : va_D A [(u5, .inl (cI, 1500, .inl nsc)), (an, .inr (6, [.ref u0, .ref u1, .ref u2, .ref u3, .int (nI nn), .int (nI ndd), .ref u4, .ref u5, .ref u6, .ref u7, .ref u8, .int (nI ncc), .long ncl])), (u4, .inl (cI, 1500, .inl ne)), (u6, .inl (cZ, 1500, .inl ntk))] := hD
        refine lv_if_eq (tgt := 42) hx hb dX5_bestOpen_17 (by decide) (fun c_17 => ?_) (fun c_17 => ?_)
        · exact absurd c_17 (by decide)
        refine lv_iload_n hx hb dX5_bestOpen_20 rfl (lv_at hl 1 rfl) ?_
        refine lv_iconst (v := (-1)) hx hb dX5_bestOpen_21 (by decide) ?_
        refine lv_icmp_eq (tgt := 40) hx hb dX5_bestOpen_22 (by decide) (fun c_22 => ?_) (fun c_22 => ?_)
        · -- taken 22
          refine lv_iload_n hx hb dX5_bestOpen_40 rfl (lv_at hl 2 rfl) ?_
          refine lv_istore_n (lv' := [(1, .int (nI i)), (0, .ref an), (2, .int (nI i))]) hx hb dX5_bestOpen_41 rfl hl (by decide) rfl (fun ls hl => ?_)
          refine lv_iinc (v := nI (i + 1)) (lv' := [(2, .int (nI (i + 1))), (1, .int (nI i)), (0, .ref an)]) hx hb dX5_bestOpen_42 hl (k := 2) rfl (nI_1 _) (by decide) rfl (fun ls hl => ?_)
          refine lv_goto (tgt := 4) hx hb dX5_bestOpen_45 (by decide) ?_
          exact ih (i + 1) (nI i) (by omega) (by cases hz : f_best (f_open ntk ne) nsc i with | none => simp only [f_best, hz]; rw [if_pos hb_14]; rfl | some b => exact absurd (by rw [hbo, hz] at c_22; exact c_22) (nI_ne_m1 (by have := f_best_lt i b hz; omega))) (by omega) _ _ _ (hP.sub [1, 2, 0, 3] rfl) (hD.sub [1, 2, 0, 3] (by decide) rfl) hS (lv_sub hl [2, 1, 0] rfl)
        · -- not taken 22
          refine lv_aload_n hx hb dX5_bestOpen_25 rfl (lv_at hl 0 rfl) ?_
          refine r_get (v := .ref u5) C hP okX5 1 7 rfl (by decide) fl_X5_28 rfl rfl dX5_bestOpen_26 ?_
          refine lv_iload_n hx hb dX5_bestOpen_29 rfl (lv_at hl 2 rfl) ?_
          refine r_iald (j := i) C hP 0 rfl (by omega) (by decide) dX5_bestOpen_30 ?_
          refine lv_aload_n hx hb dX5_bestOpen_31 rfl (lv_at hl 0 rfl) ?_
          refine r_get (v := .ref u5) C hP okX5 1 7 rfl (by decide) fl_X5_28 rfl rfl dX5_bestOpen_32 ?_
          refine lv_iload_n hx hb dX5_bestOpen_35 rfl (lv_at hl 1 rfl) ?_
          obtain ⟨b, eb⟩ : ∃ b, f_best (f_open ntk ne) nsc i = some b := by cases hz : f_best (f_open ntk ne) nsc i with | none => exact absurd (by rw [hbo, hz]; rfl) c_22 | some b => exact ⟨b, rfl⟩
          have hb3 := f_best_lt i b eb
          refine r_top (x' := nI b) (by rw [hbo, eb]; rfl) ?_
          refine r_iald (j := b) C hP 0 rfl (by omega) (by decide) dX5_bestOpen_36 ?_
          refine lv_icmp_le (tgt := 42) hx hb dX5_bestOpen_37 (by decide) (fun c_37 => ?_) (fun c_37 => ?_)
          · -- taken 37
            refine lv_iinc (v := nI (i + 1)) (lv' := [(2, .int (nI (i + 1))), (0, .ref an), (1, .int bo)]) hx hb dX5_bestOpen_42 hl (k := 2) rfl (nI_1 _) (by decide) rfl (fun ls hl => ?_)
            refine lv_goto (tgt := 4) hx hb dX5_bestOpen_45 (by decide) ?_
            exact ih (i + 1) bo (by omega) (by simp only [f_best, eb]; rw [if_neg (fun z => absurd c_37 (Int32.not_le.mpr z.2)), hbo, eb]) (by omega) _ _ _ (hP.sub [1, 2, 0, 3] rfl) (hD.sub [1, 2, 0, 3] (by decide) rfl) hS (lv_sub hl [1, 2, 0] rfl)
          · -- not taken 37
            refine lv_iload_n hx hb dX5_bestOpen_40 rfl (lv_at hl 2 rfl) ?_
            refine lv_istore_n (lv' := [(1, .int (nI i)), (0, .ref an), (2, .int (nI i))]) hx hb dX5_bestOpen_41 rfl hl (by decide) rfl (fun ls hl => ?_)
            refine lv_iinc (v := nI (i + 1)) (lv' := [(2, .int (nI (i + 1))), (1, .int (nI i)), (0, .ref an)]) hx hb dX5_bestOpen_42 hl (k := 2) rfl (nI_1 _) (by decide) rfl (fun ls hl => ?_)
            refine lv_goto (tgt := 4) hx hb dX5_bestOpen_45 (by decide) ?_
            exact ih (i + 1) (nI i) (by omega) (by simp only [f_best, eb]; rw [if_pos ⟨hb_14, Int32.not_le.mp c_37⟩]; rfl) (by omega) _ _ _ (hP.sub [1, 2, 0, 3] rfl) (hD.sub [1, 2, 0, 3] (by decide) rfl) hS (lv_sub hl [2, 1, 0] rfl)
      · -- no 14
        refine W.eq (g2 := F0 m 17 ls [.int 0]) rfl ?_
        have hP : va_P D vwCl [(u5, .inl (cI, 1500, .inl nsc)), (an, .inr (6, [.ref u0, .ref u1, .ref u2, .ref u3, .int (nI nn), .int (nI ndd), .ref u4, .ref u5, .ref u6, .ref u7, .ref u8, .int (nI ncc), .long ncl])), (u4, .inl (cI, 1500, .inl ne)), (u6, .inl (cZ, 1500, .inl ntk))] H := hP
        have hD : va_D A [(u5, .inl (cI, 1500, .inl nsc)), (an, .inr (6, [.ref u0, .ref u1, .ref u2, .ref u3, .int (nI nn), .int (nI ndd), .ref u4, .ref u5, .ref u6, .ref u7, .ref u8, .int (nI ncc), .long ncl])), (u4, .inl (cI, 1500, .inl ne)), (u6, .inl (cZ, 1500, .inl ntk))] := hD
        refine lv_if_eq (tgt := 42) hx hb dX5_bestOpen_17 (by decide) (fun c_17 => ?_) (fun c_17 => ?_)
        rotate_left
        · exact absurd c_17 (by decide)
        refine lv_iinc (v := nI (i + 1)) (lv' := [(2, .int (nI (i + 1))), (0, .ref an), (1, .int bo)]) hx hb dX5_bestOpen_42 hl (k := 2) rfl (nI_1 _) (by decide) rfl (fun ls hl => ?_)
        refine lv_goto (tgt := 4) hx hb dX5_bestOpen_45 (by decide) ?_
        exact ih (i + 1) bo (by omega) (by rw [f_best_no hb_14, hbo]) (by omega) _ _ _ (hP.sub [1, 2, 0, 3] rfl) (hD.sub [1, 2, 0, 3] (by decide) rfl) hS (lv_sub hl [1, 2, 0] rfl)
set_option maxHeartbeats 4000000 in
set_option maxRecDepth 100000 in
theorem c_X5_bestOpen (l : Launch) (D : va_G) (cI cJ cZ : ClassId) (an : Nat) (u0 : Nat) (u1 : Nat) (u2 : Nat) (u3 : Nat) (u4 : Nat) (u5 : Nat) (u6 : Nat) (u7 : Nat) (u8 : Nat) (nn : Nat) (ndd : Nat) (ncc : Nat) (ncl : Int64) (ne : Nat → Int32) (nsc : Nat → Int32) (ntk : Nat → Int32) (hnn : nn ≤ 1500) : Ctr l D cI cJ cZ yX5_bestOpen cX5_bestOpen 3 (some .int) ({ frames := 1, cells := 0, slots := 0, locals := 21 } : Room) [.ref an] [(an, .inr (6, [.ref u0, .ref u1, .ref u2, .ref u3, .int (nI nn), .int (nI ndd), .ref u4, .ref u5, .ref u6, .ref u7, .ref u8, .int (nI ncc), .long ncl])), (u4, .inl (cI, 1500, .inl ne)), (u5, .inl (cI, 1500, .inl nsc)), (u6, .inl (cZ, 1500, .inl ntk))] (fun r W => r = some (.int (oI (f_best (f_open ntk ne) nsc nn))) ∧ W = [(an, .inr (6, [.ref u0, .ref u1, .ref u2, .ref u3, .int (nI nn), .int (nI ndd), .ref u4, .ref u5, .ref u6, .ref u7, .ref u8, .int (nI ncc), .long ncl])), (u4, .inl (cI, 1500, .inl ne)), (u5, .inl (cI, 1500, .inl nsc)), (u6, .inl (cZ, 1500, .inl ntk))]) := by
  refine Ctr.start (by decide +kernel) (Nat.le_of_ble_eq_true rfl) ?_
  intro p e s m below meth c A Q ls H C hQ hA hP hD hS hl
  obtain ⟨hx, hb, hr, hml, hts, hown, hlk, hnm, hK, hN⟩ := id C
  have hl : lv_has ls 3 [(0, .ref an)] := hl
  refine lv_iconst (v := (-1)) hx hb dX5_bestOpen_0 (by decide) ?_
  refine lv_istore_n (lv' := [(1, .int (-1)), (0, .ref an)]) hx hb dX5_bestOpen_1 rfl hl (by decide) rfl (fun ls hl => ?_)
  refine lv_iconst (v := 0) hx hb dX5_bestOpen_2 (by decide) ?_
  refine lv_istore_n (lv' := [(2, .int 0), (1, .int (-1)), (0, .ref an)]) hx hb dX5_bestOpen_3 rfl hl (by decide) rfl (fun ls hl => ?_)
  exact lp_X5_bestOpen_4 l D cI cJ cZ an u0 u1 u2 u3 u4 u5 u6 u7 u8 nn ndd ncc ncl ne nsc ntk hnn   C hQ hA _ 0 (-1) (by omega) rfl (Nat.lt_succ_self _) _ _ _ (hP.sub [0, 1, 2, 3] rfl) (hD.sub [0, 1, 2, 3] (by decide) rfl) hS (lv_sub hl [2, 1, 0] rfl)
set_option maxHeartbeats 4000000 in
set_option maxRecDepth 100000 in
theorem c_X5_take (l : Launch) (D : va_G) (cI cJ cZ : ClassId) (an : Nat) (u0 : Nat) (u1 : Nat) (u2 : Nat) (u3 : Nat) (u4 : Nat) (u5 : Nat) (u6 : Nat) (u7 : Nat) (u8 : Nat) (nn : Nat) (ndd : Nat) (ncc : Nat) (ncl : Int64) (ntk : Nat → Int32) (j : Nat) (hj : j < 1500) : Ctr l D cI cJ cZ yX5_take cX5_take 2 none ({ frames := 0, cells := 0, slots := 0, locals := 0 } : Room) [.ref an, .int (nI j)] [(an, .inr (6, [.ref u0, .ref u1, .ref u2, .ref u3, .int (nI nn), .int (nI ndd), .ref u4, .ref u5, .ref u6, .ref u7, .ref u8, .int (nI ncc), .long ncl])), (u6, .inl (cZ, 1500, .inl ntk))] (fun r W => r = none ∧ W = [(an, .inr (6, [.ref u0, .ref u1, .ref u2, .ref u3, .int (nI nn), .int (nI ndd), .ref u4, .ref u5, .ref u6, .ref u7, .ref u8, .int (nI ncc), .long ncl])), (u6, .inl (cZ, 1500, .inl (upd ntk j 1)))]) := by
  refine Ctr.start (by decide +kernel) (Nat.le_of_ble_eq_true rfl) ?_
  intro p e s m below meth c A Q ls H C hQ hA hP hD hS hl
  obtain ⟨hx, hb, hr, hml, hts, hown, hlk, hnm, hK, hN⟩ := id C
  have hl : lv_has ls 2 [(0, .ref an), (1, .int (nI j))] := hl
  refine lv_aload_n hx hb dX5_take_0 rfl (lv_at hl 0 rfl) ?_
  refine r_get (v := .ref u6) C hP okX5 0 8 rfl (by decide) fl_X5_31 rfl rfl dX5_take_1 ?_
  refine lv_iload_n hx hb dX5_take_4 rfl (lv_at hl 1 rfl) ?_
  refine lv_iconst (v := 1) hx hb dX5_take_5 (by decide) ?_
  refine r_zast (j := j) (x' := 1) C hP hD hS 1 rfl (by omega) (by decide) (by decide) dX5_take_6 (fun H locs hP hD hS => ?_)
  have hP : va_P D vwCl [(an, .inr (6, [.ref u0, .ref u1, .ref u2, .ref u3, .int (nI nn), .int (nI ndd), .ref u4, .ref u5, .ref u6, .ref u7, .ref u8, .int (nI ncc), .long ncl])), (u6, .inl (cZ, 1500, .inl (upd ntk j 1)))] H := hP
  have hD : va_D A [(an, .inr (6, [.ref u0, .ref u1, .ref u2, .ref u3, .int (nI nn), .int (nI ndd), .ref u4, .ref u5, .ref u6, .ref u7, .ref u8, .int (nI ncc), .long ncl])), (u6, .inl (cZ, 1500, .inl (upd ntk j 1)))] := hD
  exact rt_v C hQ (hP.sub (ws' := [(an, .inr (6, [.ref u0, .ref u1, .ref u2, .ref u3, .int (nI nn), .int (nI ndd), .ref u4, .ref u5, .ref u6, .ref u7, .ref u8, .int (nI ncc), .long ncl])), (u6, .inl (cZ, 1500, .inl (upd ntk j 1)))]) [0, 1] rfl) (hD.sub [0, 1] (by decide) rfl) hS ⟨rfl, rfl⟩ (by decide) (by decide) dX5_take_7
set_option maxHeartbeats 4000000 in
set_option maxRecDepth 100000 in
theorem c_X5_markDead (l : Launch) (D : va_G) (cI cJ cZ : ClassId) (an : Nat) (u0 : Nat) (u1 : Nat) (u2 : Nat) (u3 : Nat) (u4 : Nat) (u5 : Nat) (u6 : Nat) (u7 : Nat) (u8 : Nat) (nn : Nat) (ndd : Nat) (ncc : Nat) (ncl : Int64) (nde : Nat → Int32) (j : Nat) (hj : j < 1500) : Ctr l D cI cJ cZ yX5_markDead cX5_markDead 2 none ({ frames := 0, cells := 0, slots := 0, locals := 0 } : Room) [.ref an, .int (nI j)] [(an, .inr (6, [.ref u0, .ref u1, .ref u2, .ref u3, .int (nI nn), .int (nI ndd), .ref u4, .ref u5, .ref u6, .ref u7, .ref u8, .int (nI ncc), .long ncl])), (u7, .inl (cZ, 1500, .inl nde))] (fun r W => r = none ∧ W = [(an, .inr (6, [.ref u0, .ref u1, .ref u2, .ref u3, .int (nI nn), .int (nI (ndd + 1)), .ref u4, .ref u5, .ref u6, .ref u7, .ref u8, .int (nI ncc), .long ncl])), (u7, .inl (cZ, 1500, .inl (upd nde j 1)))]) := by
  refine Ctr.start (by decide +kernel) (Nat.le_of_ble_eq_true rfl) ?_
  intro p e s m below meth c A Q ls H C hQ hA hP hD hS hl
  obtain ⟨hx, hb, hr, hml, hts, hown, hlk, hnm, hK, hN⟩ := id C
  have hl : lv_has ls 2 [(0, .ref an), (1, .int (nI j))] := hl
  refine lv_aload_n hx hb dX5_markDead_0 rfl (lv_at hl 0 rfl) ?_
  refine r_get (v := .ref u7) C hP okX5 0 9 rfl (by decide) fl_X5_35 rfl rfl dX5_markDead_1 ?_
  refine lv_iload_n hx hb dX5_markDead_4 rfl (lv_at hl 1 rfl) ?_
  refine lv_iconst (v := 1) hx hb dX5_markDead_5 (by decide) ?_
  refine r_zast (j := j) (x' := 1) C hP hD hS 1 rfl (by omega) (by decide) (by decide) dX5_markDead_6 (fun H locs hP hD hS => ?_)
  have hP : va_P D vwCl [(an, .inr (6, [.ref u0, .ref u1, .ref u2, .ref u3, .int (nI nn), .int (nI ndd), .ref u4, .ref u5, .ref u6, .ref u7, .ref u8, .int (nI ncc), .long ncl])), (u7, .inl (cZ, 1500, .inl (upd nde j 1)))] H := hP
  have hD : va_D A [(an, .inr (6, [.ref u0, .ref u1, .ref u2, .ref u3, .int (nI nn), .int (nI ndd), .ref u4, .ref u5, .ref u6, .ref u7, .ref u8, .int (nI ncc), .long ncl])), (u7, .inl (cZ, 1500, .inl (upd nde j 1)))] := hD
  refine lv_aload_n hx hb dX5_markDead_7 rfl (lv_at hl 0 rfl) ?_
  refine lv_dup hx hb dX5_markDead_8 rfl ?_
  refine r_get (v := .int (nI ndd)) C hP okX5 0 5 rfl (by decide) fl_X5_55 rfl rfl dX5_markDead_9 ?_
  refine lv_iconst (v := 1) hx hb dX5_markDead_12 (by decide) ?_
  refine lv_iadd hx hb dX5_markDead_13 ?_
  refine r_top (x' := nI (ndd + 1)) (nI_add ndd 1) ?_
  refine r_put (v := .int (nI (ndd + 1))) C hP hD hS okX5 0 5 rfl (by decide) fl_X5_55 rfl rfl rfl rfl (Nat.le_of_ble_eq_true rfl) dX5_markDead_14 (fun H locs hP hD hS => ?_)
  have hP : va_P D vwCl [(an, .inr (6, [.ref u0, .ref u1, .ref u2, .ref u3, .int (nI nn), .int (nI (ndd + 1)), .ref u4, .ref u5, .ref u6, .ref u7, .ref u8, .int (nI ncc), .long ncl])), (u7, .inl (cZ, 1500, .inl (upd nde j 1)))] H := hP
  have hD : va_D A [(an, .inr (6, [.ref u0, .ref u1, .ref u2, .ref u3, .int (nI nn), .int (nI (ndd + 1)), .ref u4, .ref u5, .ref u6, .ref u7, .ref u8, .int (nI ncc), .long ncl])), (u7, .inl (cZ, 1500, .inl (upd nde j 1)))] := hD
  exact rt_v C hQ (hP.sub (ws' := [(an, .inr (6, [.ref u0, .ref u1, .ref u2, .ref u3, .int (nI nn), .int (nI (ndd + 1)), .ref u4, .ref u5, .ref u6, .ref u7, .ref u8, .int (nI ncc), .long ncl])), (u7, .inl (cZ, 1500, .inl (upd nde j 1)))]) [0, 1] rfl) (hD.sub [0, 1] (by decide) rfl) hS ⟨rfl, rfl⟩ (by decide) (by decide) dX5_markDead_17
set_option maxHeartbeats 4000000 in
set_option maxRecDepth 100000 in
theorem c_X5_tell (l : Launch) (D : va_G) (cI cJ cZ : ClassId) (an : Nat) (u0 : Nat) (u1 : Nat) (u2 : Nat) (u3 : Nat) (u4 : Nat) (u5 : Nat) (u6 : Nat) (u7 : Nat) (u8 : Nat) (nn : Nat) (ndd : Nat) (ncc : Nat) (ncl : Int64) (nw : Nat → Int64) (nb : Nat → Int32) (ns : Nat → Int32) (ndp : Nat → Nat) (ne : Nat → Int32) (nsc : Nat → Int32) (ntk : Nat → Int32) (nde : Nat → Int32) (j : Nat) (what : Int32) (hj : j < 1500) (hcc : ncc ≤ 10) : Ctr l D cI cJ cZ yX5_tell cX5_tell 3 (some .int) ({ frames := 2, cells := 0, slots := 0, locals := 46 } : Room) [.ref an, .int (nI j), .int what] [(an, .inr (6, [.ref u0, .ref u1, .ref u2, .ref u3, .int (nI nn), .int (nI ndd), .ref u4, .ref u5, .ref u6, .ref u7, .ref u8, .int (nI ncc), .long ncl])), (u0, .inl (cJ, 1500, .inr (.inl nw))), (u1, .inl (cI, 1500, .inl nb)), (u2, .inl (cI, 1500, .inl ns)), (u3, .inl (cI, 1500, .inl (nF ndp))), (u4, .inl (cI, 1500, .inl ne)), (u5, .inl (cI, 1500, .inl nsc)), (u6, .inl (cZ, 1500, .inl ntk)), (u7, .inl (cZ, 1500, .inl nde))] (fun r W => r = some (.int (f_tell nw nb ns ndp ne nsc ntk nde ncc j what)) ∧ W = [(an, .inr (6, [.ref u0, .ref u1, .ref u2, .ref u3, .int (nI nn), .int (nI ndd), .ref u4, .ref u5, .ref u6, .ref u7, .ref u8, .int (nI ncc), .long ncl])), (u0, .inl (cJ, 1500, .inr (.inl nw))), (u1, .inl (cI, 1500, .inl nb)), (u2, .inl (cI, 1500, .inl ns)), (u3, .inl (cI, 1500, .inl (nF ndp))), (u4, .inl (cI, 1500, .inl ne)), (u5, .inl (cI, 1500, .inl nsc)), (u6, .inl (cZ, 1500, .inl ntk)), (u7, .inl (cZ, 1500, .inl nde))]) := by
  refine Ctr.start (by decide +kernel) (Nat.le_of_ble_eq_true rfl) ?_
  intro p e s m below meth c A Q ls H C hQ hA hP hD hS hl
  obtain ⟨hx, hb, hr, hml, hts, hown, hlk, hnm, hK, hN⟩ := id C
  have hl : lv_has ls 3 [(0, .ref an), (1, .int (nI j)), (2, .int what)] := hl
  refine lv_iload_n hx hb dX5_tell_0 rfl (lv_at hl 2 rfl) ?_
  by_cases w_1_0 : what = 0
  · refine r_top w_1_0 ?_
    refine lv_tableIn (off := 43) (tgt := 44) hx hb dX5_tell_1 (by decide) (by decide) (by decide +kernel) (by decide) ?_
    refine lv_aload_n hx hb dX5_tell_44 rfl (lv_at hl 0 rfl) ?_
    refine r_get (v := .ref u1) C hP okX5 0 1 rfl (by decide) fl_X5_15 rfl rfl dX5_tell_45 ?_
    refine lv_iload_n hx hb dX5_tell_48 rfl (lv_at hl 1 rfl) ?_
    refine r_iald (j := j) C hP 2 rfl (by omega) (by decide) dX5_tell_49 ?_
    exact rt_i C hQ (hP.sub (ws' := [(an, .inr (6, [.ref u0, .ref u1, .ref u2, .ref u3, .int (nI nn), .int (nI ndd), .ref u4, .ref u5, .ref u6, .ref u7, .ref u8, .int (nI ncc), .long ncl])), (u0, .inl (cJ, 1500, .inr (.inl nw))), (u1, .inl (cI, 1500, .inl nb)), (u2, .inl (cI, 1500, .inl ns)), (u3, .inl (cI, 1500, .inl (nF ndp))), (u4, .inl (cI, 1500, .inl ne)), (u5, .inl (cI, 1500, .inl nsc)), (u6, .inl (cZ, 1500, .inl ntk)), (u7, .inl (cZ, 1500, .inl nde))]) [0, 1, 2, 3, 4, 5, 6, 7, 8] rfl) (hD.sub [0, 1, 2, 3, 4, 5, 6, 7, 8] (by decide) rfl) hS ⟨by simp only [f_tell]; rw [if_pos w_1_0], rfl⟩ (by decide) (by decide) dX5_tell_50
  by_cases w_1_1 : what = 1
  · refine r_top w_1_1 ?_
    refine lv_tableIn (off := 50) (tgt := 51) hx hb dX5_tell_1 (by decide) (by decide) (by decide +kernel) (by decide) ?_
    refine lv_aload_n hx hb dX5_tell_51 rfl (lv_at hl 0 rfl) ?_
    refine r_get (v := .ref u2) C hP okX5 0 2 rfl (by decide) fl_X5_19 rfl rfl dX5_tell_52 ?_
    refine lv_iload_n hx hb dX5_tell_55 rfl (lv_at hl 1 rfl) ?_
    refine r_iald (j := j) C hP 3 rfl (by omega) (by decide) dX5_tell_56 ?_
    exact rt_i C hQ (hP.sub (ws' := [(an, .inr (6, [.ref u0, .ref u1, .ref u2, .ref u3, .int (nI nn), .int (nI ndd), .ref u4, .ref u5, .ref u6, .ref u7, .ref u8, .int (nI ncc), .long ncl])), (u0, .inl (cJ, 1500, .inr (.inl nw))), (u1, .inl (cI, 1500, .inl nb)), (u2, .inl (cI, 1500, .inl ns)), (u3, .inl (cI, 1500, .inl (nF ndp))), (u4, .inl (cI, 1500, .inl ne)), (u5, .inl (cI, 1500, .inl nsc)), (u6, .inl (cZ, 1500, .inl ntk)), (u7, .inl (cZ, 1500, .inl nde))]) [0, 1, 2, 3, 4, 5, 6, 7, 8] rfl) (hD.sub [0, 1, 2, 3, 4, 5, 6, 7, 8] (by decide) rfl) hS ⟨by simp only [f_tell]; rw [if_neg w_1_0, if_pos w_1_1], rfl⟩ (by decide) (by decide) dX5_tell_57
  by_cases w_1_2 : what = 2
  · refine r_top w_1_2 ?_
    refine lv_tableIn (off := 57) (tgt := 58) hx hb dX5_tell_1 (by decide) (by decide) (by decide +kernel) (by decide) ?_
    refine lv_aload_n hx hb dX5_tell_58 rfl (lv_at hl 0 rfl) ?_
    refine r_get (v := .ref u5) C hP okX5 0 7 rfl (by decide) fl_X5_28 rfl rfl dX5_tell_59 ?_
    refine lv_iload_n hx hb dX5_tell_62 rfl (lv_at hl 1 rfl) ?_
    refine r_iald (j := j) C hP 6 rfl (by omega) (by decide) dX5_tell_63 ?_
    exact rt_i C hQ (hP.sub (ws' := [(an, .inr (6, [.ref u0, .ref u1, .ref u2, .ref u3, .int (nI nn), .int (nI ndd), .ref u4, .ref u5, .ref u6, .ref u7, .ref u8, .int (nI ncc), .long ncl])), (u0, .inl (cJ, 1500, .inr (.inl nw))), (u1, .inl (cI, 1500, .inl nb)), (u2, .inl (cI, 1500, .inl ns)), (u3, .inl (cI, 1500, .inl (nF ndp))), (u4, .inl (cI, 1500, .inl ne)), (u5, .inl (cI, 1500, .inl nsc)), (u6, .inl (cZ, 1500, .inl ntk)), (u7, .inl (cZ, 1500, .inl nde))]) [0, 1, 2, 3, 4, 5, 6, 7, 8] rfl) (hD.sub [0, 1, 2, 3, 4, 5, 6, 7, 8] (by decide) rfl) hS ⟨by simp only [f_tell]; rw [if_neg w_1_0, if_neg w_1_1, if_pos w_1_2], rfl⟩ (by decide) (by decide) dX5_tell_64
  by_cases w_1_3 : what = 3
  · refine r_top w_1_3 ?_
    refine lv_tableIn (off := 64) (tgt := 65) hx hb dX5_tell_1 (by decide) (by decide) (by decide +kernel) (by decide) ?_
    refine lv_aload_n hx hb dX5_tell_65 rfl (lv_at hl 0 rfl) ?_
    refine r_get (v := .ref u4) C hP okX5 0 6 rfl (by decide) fl_X5_25 rfl rfl dX5_tell_66 ?_
    refine lv_iload_n hx hb dX5_tell_69 rfl (lv_at hl 1 rfl) ?_
    refine r_iald (j := j) C hP 5 rfl (by omega) (by decide) dX5_tell_70 ?_
    exact rt_i C hQ (hP.sub (ws' := [(an, .inr (6, [.ref u0, .ref u1, .ref u2, .ref u3, .int (nI nn), .int (nI ndd), .ref u4, .ref u5, .ref u6, .ref u7, .ref u8, .int (nI ncc), .long ncl])), (u0, .inl (cJ, 1500, .inr (.inl nw))), (u1, .inl (cI, 1500, .inl nb)), (u2, .inl (cI, 1500, .inl ns)), (u3, .inl (cI, 1500, .inl (nF ndp))), (u4, .inl (cI, 1500, .inl ne)), (u5, .inl (cI, 1500, .inl nsc)), (u6, .inl (cZ, 1500, .inl ntk)), (u7, .inl (cZ, 1500, .inl nde))]) [0, 1, 2, 3, 4, 5, 6, 7, 8] rfl) (hD.sub [0, 1, 2, 3, 4, 5, 6, 7, 8] (by decide) rfl) hS ⟨by simp only [f_tell]; rw [if_neg w_1_0, if_neg w_1_1, if_neg w_1_2, if_pos w_1_3], rfl⟩ (by decide) (by decide) dX5_tell_71
  by_cases w_1_4 : what = 4
  · refine r_top w_1_4 ?_
    refine lv_tableIn (off := 71) (tgt := 72) hx hb dX5_tell_1 (by decide) (by decide) (by decide +kernel) (by decide) ?_
    refine lv_aload_n hx hb dX5_tell_72 rfl (lv_at hl 0 rfl) ?_
    refine r_get (v := .ref u6) C hP okX5 0 8 rfl (by decide) fl_X5_31 rfl rfl dX5_tell_73 ?_
    refine lv_iload_n hx hb dX5_tell_76 rfl (lv_at hl 1 rfl) ?_
    refine r_zald (j := j) C hP 7 rfl (by omega) (by decide) dX5_tell_77 ?_
    refine lv_if_eq (tgt := 85) hx hb dX5_tell_78 (by decide) (fun c_78 => ?_) (fun c_78 => ?_)
    · -- taken 78
      refine lv_iconst (v := 0) hx hb dX5_tell_85 (by decide) ?_
      exact rt_i C hQ (hP.sub (ws' := [(an, .inr (6, [.ref u0, .ref u1, .ref u2, .ref u3, .int (nI nn), .int (nI ndd), .ref u4, .ref u5, .ref u6, .ref u7, .ref u8, .int (nI ncc), .long ncl])), (u0, .inl (cJ, 1500, .inr (.inl nw))), (u1, .inl (cI, 1500, .inl nb)), (u2, .inl (cI, 1500, .inl ns)), (u3, .inl (cI, 1500, .inl (nF ndp))), (u4, .inl (cI, 1500, .inl ne)), (u5, .inl (cI, 1500, .inl nsc)), (u6, .inl (cZ, 1500, .inl ntk)), (u7, .inl (cZ, 1500, .inl nde))]) [0, 1, 2, 3, 4, 5, 6, 7, 8] rfl) (hD.sub [0, 1, 2, 3, 4, 5, 6, 7, 8] (by decide) rfl) hS ⟨by simp only [f_tell]; rw [if_neg w_1_0, if_neg w_1_1, if_neg w_1_2, if_neg w_1_3, if_pos w_1_4]; simp only [b01]; rw [if_pos c_78], rfl⟩ (by decide) (by decide) dX5_tell_86
    · -- not taken 78
      refine lv_iconst (v := 1) hx hb dX5_tell_81 (by decide) ?_
      refine lv_goto (tgt := 86) hx hb dX5_tell_82 (by decide) ?_
      exact rt_i C hQ (hP.sub (ws' := [(an, .inr (6, [.ref u0, .ref u1, .ref u2, .ref u3, .int (nI nn), .int (nI ndd), .ref u4, .ref u5, .ref u6, .ref u7, .ref u8, .int (nI ncc), .long ncl])), (u0, .inl (cJ, 1500, .inr (.inl nw))), (u1, .inl (cI, 1500, .inl nb)), (u2, .inl (cI, 1500, .inl ns)), (u3, .inl (cI, 1500, .inl (nF ndp))), (u4, .inl (cI, 1500, .inl ne)), (u5, .inl (cI, 1500, .inl nsc)), (u6, .inl (cZ, 1500, .inl ntk)), (u7, .inl (cZ, 1500, .inl nde))]) [0, 1, 2, 3, 4, 5, 6, 7, 8] rfl) (hD.sub [0, 1, 2, 3, 4, 5, 6, 7, 8] (by decide) rfl) hS ⟨by simp only [f_tell]; rw [if_neg w_1_0, if_neg w_1_1, if_neg w_1_2, if_neg w_1_3, if_pos w_1_4]; simp only [b01]; rw [if_neg c_78], rfl⟩ (by decide) (by decide) dX5_tell_86
  by_cases w_1_5 : what = 5
  · refine r_top w_1_5 ?_
    refine lv_tableIn (off := 86) (tgt := 87) hx hb dX5_tell_1 (by decide) (by decide) (by decide +kernel) (by decide) ?_
    refine lv_aload_n hx hb dX5_tell_87 rfl (lv_at hl 0 rfl) ?_
    refine r_get (v := .ref u7) C hP okX5 0 9 rfl (by decide) fl_X5_35 rfl rfl dX5_tell_88 ?_
    refine lv_iload_n hx hb dX5_tell_91 rfl (lv_at hl 1 rfl) ?_
    refine r_zald (j := j) C hP 8 rfl (by omega) (by decide) dX5_tell_92 ?_
    refine lv_if_eq (tgt := 100) hx hb dX5_tell_93 (by decide) (fun c_93 => ?_) (fun c_93 => ?_)
    · -- taken 93
      refine lv_iconst (v := 0) hx hb dX5_tell_100 (by decide) ?_
      exact rt_i C hQ (hP.sub (ws' := [(an, .inr (6, [.ref u0, .ref u1, .ref u2, .ref u3, .int (nI nn), .int (nI ndd), .ref u4, .ref u5, .ref u6, .ref u7, .ref u8, .int (nI ncc), .long ncl])), (u0, .inl (cJ, 1500, .inr (.inl nw))), (u1, .inl (cI, 1500, .inl nb)), (u2, .inl (cI, 1500, .inl ns)), (u3, .inl (cI, 1500, .inl (nF ndp))), (u4, .inl (cI, 1500, .inl ne)), (u5, .inl (cI, 1500, .inl nsc)), (u6, .inl (cZ, 1500, .inl ntk)), (u7, .inl (cZ, 1500, .inl nde))]) [0, 1, 2, 3, 4, 5, 6, 7, 8] rfl) (hD.sub [0, 1, 2, 3, 4, 5, 6, 7, 8] (by decide) rfl) hS ⟨by simp only [f_tell]; rw [if_neg w_1_0, if_neg w_1_1, if_neg w_1_2, if_neg w_1_3, if_neg w_1_4, if_pos w_1_5]; simp only [b01]; rw [if_pos c_93], rfl⟩ (by decide) (by decide) dX5_tell_101
    · -- not taken 93
      refine lv_iconst (v := 1) hx hb dX5_tell_96 (by decide) ?_
      refine lv_goto (tgt := 101) hx hb dX5_tell_97 (by decide) ?_
      exact rt_i C hQ (hP.sub (ws' := [(an, .inr (6, [.ref u0, .ref u1, .ref u2, .ref u3, .int (nI nn), .int (nI ndd), .ref u4, .ref u5, .ref u6, .ref u7, .ref u8, .int (nI ncc), .long ncl])), (u0, .inl (cJ, 1500, .inr (.inl nw))), (u1, .inl (cI, 1500, .inl nb)), (u2, .inl (cI, 1500, .inl ns)), (u3, .inl (cI, 1500, .inl (nF ndp))), (u4, .inl (cI, 1500, .inl ne)), (u5, .inl (cI, 1500, .inl nsc)), (u6, .inl (cZ, 1500, .inl ntk)), (u7, .inl (cZ, 1500, .inl nde))]) [0, 1, 2, 3, 4, 5, 6, 7, 8] rfl) (hD.sub [0, 1, 2, 3, 4, 5, 6, 7, 8] (by decide) rfl) hS ⟨by simp only [f_tell]; rw [if_neg w_1_0, if_neg w_1_1, if_neg w_1_2, if_neg w_1_3, if_neg w_1_4, if_pos w_1_5]; simp only [b01]; rw [if_neg c_93], rfl⟩ (by decide) (by decide) dX5_tell_101
  by_cases w_1_6 : what = 6
  · refine r_top w_1_6 ?_
    refine lv_tableIn (off := 101) (tgt := 102) hx hb dX5_tell_1 (by decide) (by decide) (by decide +kernel) (by decide) ?_
    refine lv_aload_n hx hb dX5_tell_102 rfl (lv_at hl 0 rfl) ?_
    refine r_get (v := .ref u3) C hP okX5 0 3 rfl (by decide) fl_X5_22 rfl rfl dX5_tell_103 ?_
    refine lv_iload_n hx hb dX5_tell_106 rfl (lv_at hl 1 rfl) ?_
    refine r_iald (j := j) C hP 4 rfl (by omega) (by decide) dX5_tell_107 ?_
    refine r_top (x' := nI (ndp j)) rfl ?_
    exact rt_i C hQ (hP.sub (ws' := [(an, .inr (6, [.ref u0, .ref u1, .ref u2, .ref u3, .int (nI nn), .int (nI ndd), .ref u4, .ref u5, .ref u6, .ref u7, .ref u8, .int (nI ncc), .long ncl])), (u0, .inl (cJ, 1500, .inr (.inl nw))), (u1, .inl (cI, 1500, .inl nb)), (u2, .inl (cI, 1500, .inl ns)), (u3, .inl (cI, 1500, .inl (nF ndp))), (u4, .inl (cI, 1500, .inl ne)), (u5, .inl (cI, 1500, .inl nsc)), (u6, .inl (cZ, 1500, .inl ntk)), (u7, .inl (cZ, 1500, .inl nde))]) [0, 1, 2, 3, 4, 5, 6, 7, 8] rfl) (hD.sub [0, 1, 2, 3, 4, 5, 6, 7, 8] (by decide) rfl) hS ⟨by simp only [f_tell]; rw [if_neg w_1_0, if_neg w_1_1, if_neg w_1_2, if_neg w_1_3, if_neg w_1_4, if_neg w_1_5, if_pos w_1_6], rfl⟩ (by decide) (by decide) dX5_tell_108
  refine lv_tableOut (tgt := 109) hx hb dX5_tell_1 (sw_out 6 (by decide) (fun k hk => by match k, hk with | 0, _ => exact w_1_0 | 1, _ => exact w_1_1 | 2, _ => exact w_1_2 | 3, _ => exact w_1_3 | 4, _ => exact w_1_4 | 5, _ => exact w_1_5 | 6, _ => exact w_1_6 | k + 7, hk => exact absurd hk (by omega))) (by decide) ?_
  refine lv_aload_n hx hb dX5_tell_109 rfl (lv_at hl 0 rfl) ?_
  refine r_get (v := .ref u0) C hP okX5 0 0 rfl (by decide) fl_X5_9 rfl rfl dX5_tell_110 ?_
  refine lv_iload_n hx hb dX5_tell_113 rfl (lv_at hl 1 rfl) ?_
  refine r_lald (j := j) C hP 1 rfl (by omega) (by decide) dX5_tell_114 ?_
  refine lv_iload_n hx hb dX5_tell_115 rfl (lv_at hl 2 rfl) ?_
  refine lv_aload_n hx hb dX5_tell_116 rfl (lv_at hl 0 rfl) ?_
  refine r_get (v := .int (nI ncc)) C hP okX5 0 11 rfl (by decide) fl_X5_61 rfl rfl dX5_tell_117 ?_
  refine cl_sn C (c_X9_valueAsked l D cI cJ cZ (nw j) what ncc hcc) cd_X9_valueAsked (by decide +kernel) st_X9_valueAsked in_X9 hd_X9_valueAsked ⟨by decide, by decide⟩ hP hD hS hA (WR := [(an, .inr (6, [.ref u0, .ref u1, .ref u2, .ref u3, .int (nI nn), .int (nI ndd), .ref u4, .ref u5, .ref u6, .ref u7, .ref u8, .int (nI ncc), .long ncl])), (u0, .inl (cJ, 1500, .inr (.inl nw))), (u1, .inl (cI, 1500, .inl nb)), (u2, .inl (cI, 1500, .inl ns)), (u3, .inl (cI, 1500, .inl (nF ndp))), (u4, .inl (cI, 1500, .inl ne)), (u5, .inl (cI, 1500, .inl nsc)), (u6, .inl (cZ, 1500, .inl ntk)), (u7, .inl (cZ, 1500, .inl nde))]) [] [0, 1, 2, 3, 4, 5, 6, 7, 8] rfl rfl rfl rfl (by decide) hl.1 rfl (Nat.le_of_ble_eq_true rfl) dX5_tell_120 ⟨by decide, by decide⟩ (fun r W H locs hp hP hD hS => ?_)
  obtain ⟨rfl, rfl⟩ := hp
  refine W.eq (g2 := F0 m 123 ls [.int (f_asked (nw j) what ncc)]) rfl ?_
  have hP : va_P D vwCl [(an, .inr (6, [.ref u0, .ref u1, .ref u2, .ref u3, .int (nI nn), .int (nI ndd), .ref u4, .ref u5, .ref u6, .ref u7, .ref u8, .int (nI ncc), .long ncl])), (u0, .inl (cJ, 1500, .inr (.inl nw))), (u1, .inl (cI, 1500, .inl nb)), (u2, .inl (cI, 1500, .inl ns)), (u3, .inl (cI, 1500, .inl (nF ndp))), (u4, .inl (cI, 1500, .inl ne)), (u5, .inl (cI, 1500, .inl nsc)), (u6, .inl (cZ, 1500, .inl ntk)), (u7, .inl (cZ, 1500, .inl nde))] H := hP
  have hD : va_D A [(an, .inr (6, [.ref u0, .ref u1, .ref u2, .ref u3, .int (nI nn), .int (nI ndd), .ref u4, .ref u5, .ref u6, .ref u7, .ref u8, .int (nI ncc), .long ncl])), (u0, .inl (cJ, 1500, .inr (.inl nw))), (u1, .inl (cI, 1500, .inl nb)), (u2, .inl (cI, 1500, .inl ns)), (u3, .inl (cI, 1500, .inl (nF ndp))), (u4, .inl (cI, 1500, .inl ne)), (u5, .inl (cI, 1500, .inl nsc)), (u6, .inl (cZ, 1500, .inl ntk)), (u7, .inl (cZ, 1500, .inl nde))] := hD
  exact rt_i C hQ (hP.sub (ws' := [(an, .inr (6, [.ref u0, .ref u1, .ref u2, .ref u3, .int (nI nn), .int (nI ndd), .ref u4, .ref u5, .ref u6, .ref u7, .ref u8, .int (nI ncc), .long ncl])), (u0, .inl (cJ, 1500, .inr (.inl nw))), (u1, .inl (cI, 1500, .inl nb)), (u2, .inl (cI, 1500, .inl ns)), (u3, .inl (cI, 1500, .inl (nF ndp))), (u4, .inl (cI, 1500, .inl ne)), (u5, .inl (cI, 1500, .inl nsc)), (u6, .inl (cZ, 1500, .inl ntk)), (u7, .inl (cZ, 1500, .inl nde))]) [0, 1, 2, 3, 4, 5, 6, 7, 8] rfl) (hD.sub [0, 1, 2, 3, 4, 5, 6, 7, 8] (by decide) rfl) hS ⟨by simp only [f_tell]; rw [if_neg w_1_0, if_neg w_1_1, if_neg w_1_2, if_neg w_1_3, if_neg w_1_4, if_neg w_1_5, if_neg w_1_6], rfl⟩ (by decide) (by decide) dX5_tell_123
