/-! Cells, Moment, Macros, Goal (written by s2.py) -/
def f_nc (nc : Int64) (b : Int32) (n : Nat) : Int64 := if b = 0 then nc ||| ((15 : Int64) <<< ((nI (4 * n)).toInt64 &&& 63)) else nc
def f_hc (hc b : Int32) : Int32 := if b = 0 then hc else 1
def f_score (wt : Nat → Int32) (w : Int64) : Nat → Int32
  | 0 => 0
  | k + 1 => f_score wt w k + f_valueIn w (nI k) * wt k
def f_hear (sh t : Int32) : Int32 := if t = -1 then sh else sh ||| (1 <<< (t &&& 31))
set_option maxHeartbeats 4000000 in
set_option maxRecDepth 100000 in
theorem c_X0_init (l : Launch) (D : va_G) (cI cJ cZ : ClassId) (ac : Nat)  : Ctr l D cI cJ cZ yX0_init cX0_init 1 none ({ frames := 1, cells := 1, slots := 10, locals := 12 } : Room) [.ref ac] [(ac, .inr (1, [.null, .int 0, .long 0, .long 0, .int 0]))] (fun r W => ∃ (qw : Nat), r = none ∧ W = [(ac, .inr (1, [.ref qw, .int 0, .long 0, .long 0, .int 0])), (qw, .inl (cI, 10, .inl (fun _ => 0)))]) := by
  refine Ctr.start (by decide +kernel) (Nat.le_of_ble_eq_true rfl) ?_
  intro p e s m below meth c A Q ls H C hQ hA hP hD hS hl
  obtain ⟨hx, hb, hr, hml, hts, hown, hlk, hnm, hK, hN⟩ := id C
  have hl : lv_has ls 1 [(0, .ref ac)] := hl
  refine lv_aload_n hx hb dX0_init_0 rfl (lv_at hl 0 rfl) ?_
  refine W.objInit hx hb hown (hts _ ml_X0_3) (hts _ im_objectInit) (hts _ cd_objectInit) rfl (by rw [hml]; exact hl.1) rfl dX0_init_1 (by decide) (Nat.le_of_ble_eq_true rfl) ?_
  refine W.eq (g2 := F0 m 4 ls []) rfl ?_
  refine lv_aload_n hx hb dX0_init_4 rfl (lv_at hl 0 rfl) ?_
  refine lv_bipush (v := 10) hx hb dX0_init_5 (by decide) ?_
  refine va_newa (atype := .int) (a0 := (10, .inl (fun _ => 0))) (N' := 10) hx hb (hts _ ac_int) rfl hK hP hD hS hA (fun _ => rfl) (by decide) (by decide +kernel) (by decide) (by decide) (by decide) dX0_init_7 (fun q_1 cA H hK' hP hD hS => ?_)
  obtain rfl : cI = cA := (va_sameI hK').symm
  have hP : va_P D vwCl [(ac, .inr (1, [.null, .int 0, .long 0, .long 0, .int 0])), (q_1, .inl (cI, 10, .inl (fun _ => 0)))] H := hP
  have hD : va_D A [(ac, .inr (1, [.null, .int 0, .long 0, .long 0, .int 0])), (q_1, .inl (cI, 10, .inl (fun _ => 0)))] := hD
  refine W.widen (k := 1) (n := 10) (by decide) (by decide) ?_
  refine r_putF (v := .ref q_1) C hP hD hS okX0 0 0 rfl (by decide) fl_X0_9 rfl rfl rfl rfl rfl rfl (Nat.le_of_ble_eq_true rfl) dX0_init_9 (fun H locs hP hD hS => ?_)
  have hP : va_P D vwCl [(ac, .inr (1, [.ref q_1, .int 0, .long 0, .long 0, .int 0])), (q_1, .inl (cI, 10, .inl (fun _ => 0)))] H := hP
  have hD : va_D A [(ac, .inr (1, [.ref q_1, .int 0, .long 0, .long 0, .int 0])), (q_1, .inl (cI, 10, .inl (fun _ => 0)))] := hD
  exact rt_v C hQ (hP.sub (ws' := [(ac, .inr (1, [.ref q_1, .int 0, .long 0, .long 0, .int 0])), (q_1, .inl (cI, 10, .inl (fun _ => 0)))]) [0, 1] rfl) (hD.sub [0, 1] (by decide) rfl) hS ⟨q_1, rfl, rfl⟩ (by decide) (by decide) dX0_init_12
set_option maxHeartbeats 4000000 in
set_option maxRecDepth 100000 in
theorem c_X0_has (l : Launch) (D : va_G) (cI cJ cZ : ClassId) (ac : Nat) (aw : Nat) (n : Nat) (fw : Int64) (nc : Int64) (hc : Int32) (k : Int32) (hn : n ≤ 10) : Ctr l D cI cJ cZ yX0_has cX0_has 2 (some .boolean) ({ frames := 1, cells := 0, slots := 0, locals := 22 } : Room) [.ref ac, .int k] [(ac, .inr (1, [.ref aw, .int (nI n), .long fw, .long nc, .int hc]))] (fun r W => ((r = some (.int 1) ∧ (inR k n = true)) ∨ (r = some (.int 0) ∧ ¬ (inR k n = true))) ∧ W = [(ac, .inr (1, [.ref aw, .int (nI n), .long fw, .long nc, .int hc]))]) := by
  refine Ctr.start (by decide +kernel) (Nat.le_of_ble_eq_true rfl) ?_
  intro p e s m below meth c A Q ls H C hQ hA hP hD hS hl
  obtain ⟨hx, hb, hr, hml, hts, hown, hlk, hnm, hK, hN⟩ := id C
  have hl : lv_has ls 2 [(0, .ref ac), (1, .int k)] := hl
  refine lv_iload_n hx hb dX0_has_0 rfl (lv_at hl 1 rfl) ?_
  refine lv_iconst (v := 0) hx hb dX0_has_1 (by decide) ?_
  refine lv_aload_n hx hb dX0_has_2 rfl (lv_at hl 0 rfl) ?_
  refine r_get (v := .int (nI n)) C hP okX0 0 1 rfl (by decide) fl_X0_15 rfl rfl dX0_has_3 ?_
  refine lv_iconst (v := 1) hx hb dX0_has_6 (by decide) ?_
  refine lv_isub hx hb dX0_has_7 ?_
  refine cl_sn C (c_X9_isWithin l D cI cJ cZ k 0 ((nI n) - 1)) cd_X9_isWithin (by decide +kernel) st_X9_isWithin in_X9 hd_X9_isWithin ⟨by decide, by decide⟩ hP hD hS hA (WR := [(ac, .inr (1, [.ref aw, .int (nI n), .long fw, .long nc, .int hc]))]) [] [0] rfl rfl rfl rfl (by decide) hl.1 rfl (Nat.le_of_ble_eq_true rfl) dX0_has_8 ⟨by decide, by decide⟩ (fun r W H locs hp hP hD hS => ?_)
  rcases hp with ⟨⟨rfl, hb_8⟩ | ⟨rfl, hb_8⟩, rfl⟩
  · -- yes 8
    refine W.eq (g2 := F0 m 11 ls [.int 1]) rfl ?_
    have hP : va_P D vwCl [(ac, .inr (1, [.ref aw, .int (nI n), .long fw, .long nc, .int hc]))] H := hP
    have hD : va_D A [(ac, .inr (1, [.ref aw, .int (nI n), .long fw, .long nc, .int hc]))] := hD
    exact rt_z C hQ (by decide) (hP.sub (ws' := [(ac, .inr (1, [.ref aw, .int (nI n), .long fw, .long nc, .int hc]))]) [0] rfl) (hD.sub [0] (by decide) rfl) hS ⟨Or.inl ⟨rfl, (by first | exact q_inR (by omega) hb_8 | exact q_ninR (by omega) hb_8)⟩, rfl⟩ (by decide) (by decide) dX0_has_11
  · -- no 8
    refine W.eq (g2 := F0 m 11 ls [.int 0]) rfl ?_
    have hP : va_P D vwCl [(ac, .inr (1, [.ref aw, .int (nI n), .long fw, .long nc, .int hc]))] H := hP
    have hD : va_D A [(ac, .inr (1, [.ref aw, .int (nI n), .long fw, .long nc, .int hc]))] := hD
    exact rt_z C hQ (by decide) (hP.sub (ws' := [(ac, .inr (1, [.ref aw, .int (nI n), .long fw, .long nc, .int hc]))]) [0] rfl) (hD.sub [0] (by decide) rfl) hS ⟨Or.inr ⟨rfl, (by first | exact q_inR (by omega) hb_8 | exact q_ninR (by omega) hb_8)⟩, rfl⟩ (by decide) (by decide) dX0_has_11
set_option maxHeartbeats 4000000 in
set_option maxRecDepth 100000 in
theorem c_X0_add (l : Launch) (D : va_G) (cI cJ cZ : ClassId) (ac : Nat) (aw : Nat) (n : Nat) (fw : Int64) (nc : Int64) (hc : Int32) (v : Int32) (b : Int32)  : Ctr l D cI cJ cZ yX0_add cX0_add 3 (some .int) ({ frames := 1, cells := 0, slots := 0, locals := 25 } : Room) [.ref ac, .int v, .int b] [(ac, .inr (1, [.ref aw, .int (nI n), .long fw, .long nc, .int hc]))] (fun r W => r = some (.int (nI n)) ∧ W = [(ac, .inr (1, [.ref aw, .int (nI (n + 1)), .long (f_withValue fw (nI n) v), .long (f_nc nc b n), .int (f_hc hc b)]))]) := by
  refine Ctr.start (by decide +kernel) (Nat.le_of_ble_eq_true rfl) ?_
  intro p e s m below meth c A Q ls H C hQ hA hP hD hS hl
  obtain ⟨hx, hb, hr, hml, hts, hown, hlk, hnm, hK, hN⟩ := id C
  have hl : lv_has ls 3 [(0, .ref ac), (1, .int v), (2, .int b)] := hl
  refine lv_aload_n hx hb dX0_add_0 rfl (lv_at hl 0 rfl) ?_
  refine lv_aload_n hx hb dX0_add_1 rfl (lv_at hl 0 rfl) ?_
  refine r_get (v := .long fw) C hP okX0 0 2 rfl (by decide) fl_X0_23 rfl rfl dX0_add_2 ?_
  refine lv_aload_n hx hb dX0_add_5 rfl (lv_at hl 0 rfl) ?_
  refine r_get (v := .int (nI n)) C hP okX0 0 1 rfl (by decide) fl_X0_15 rfl rfl dX0_add_6 ?_
  refine lv_iload_n hx hb dX0_add_9 rfl (lv_at hl 1 rfl) ?_
  refine cl_sn C (c_X9_withValue l D cI cJ cZ fw (nI n) v) cd_X9_withValue (by decide +kernel) st_X9_withValue in_X9 hd_X9_withValue ⟨by decide, by decide⟩ hP hD hS hA (WR := [(ac, .inr (1, [.ref aw, .int (nI n), .long fw, .long nc, .int hc]))]) [] [0] rfl rfl rfl rfl (by decide) hl.1 rfl (Nat.le_of_ble_eq_true rfl) dX0_add_10 ⟨by decide, by decide⟩ (fun r W H locs hp hP hD hS => ?_)
  obtain ⟨rfl, rfl⟩ := hp
  refine W.eq (g2 := F0 m 13 ls [.long (f_withValue fw (nI n) v), .ref ac]) rfl ?_
  have hP : va_P D vwCl [(ac, .inr (1, [.ref aw, .int (nI n), .long fw, .long nc, .int hc]))] H := hP
  have hD : va_D A [(ac, .inr (1, [.ref aw, .int (nI n), .long fw, .long nc, .int hc]))] := hD
  refine r_put (v := .long (f_withValue fw (nI n) v)) C hP hD hS okX0 0 2 rfl (by decide) fl_X0_23 rfl rfl rfl rfl (Nat.le_of_ble_eq_true rfl) dX0_add_13 (fun H locs hP hD hS => ?_)
  have hP : va_P D vwCl [(ac, .inr (1, [.ref aw, .int (nI n), .long (f_withValue fw (nI n) v), .long nc, .int hc]))] H := hP
  have hD : va_D A [(ac, .inr (1, [.ref aw, .int (nI n), .long (f_withValue fw (nI n) v), .long nc, .int hc]))] := hD
  refine lv_iload_n hx hb dX0_add_16 rfl (lv_at hl 2 rfl) ?_
  refine lv_if_eq (tgt := 28) hx hb dX0_add_17 (by decide) (fun c_17 => ?_) (fun c_17 => ?_)
  · -- taken 17
    refine lv_aload_n hx hb dX0_add_28 rfl (lv_at hl 0 rfl) ?_
    refine lv_dup hx hb dX0_add_29 rfl ?_
    refine r_get (v := .long nc) C hP okX0 0 3 rfl (by decide) fl_X0_35 rfl rfl dX0_add_30 ?_
    refine lv_ldc2 (v := (15)) hx hb hown (hts _ cn_X0_38) dX0_add_33 ?_
    refine lv_iconst (v := 4) hx hb dX0_add_36 (by decide) ?_
    refine lv_aload_n hx hb dX0_add_37 rfl (lv_at hl 0 rfl) ?_
    refine r_get (v := .int (nI n)) C hP okX0 0 1 rfl (by decide) fl_X0_15 rfl rfl dX0_add_38 ?_
    refine lv_imul hx hb dX0_add_41 ?_
    refine r_top (x' := nI (4 * n)) (pk_mul 4 n) ?_
    refine lv_lshl (v := (15 : Int64) <<< ((nI (4 * n)).toInt64 &&& 63)) hx hb dX0_add_42 rfl ?_
    refine lv_lor hx hb dX0_add_43 ?_
    refine r_put (v := .long (nc ||| ((15 : Int64) <<< ((nI (4 * n)).toInt64 &&& 63)))) C hP hD hS okX0 0 3 rfl (by decide) fl_X0_35 rfl rfl rfl rfl (Nat.le_of_ble_eq_true rfl) dX0_add_44 (fun H locs hP hD hS => ?_)
    have hP : va_P D vwCl [(ac, .inr (1, [.ref aw, .int (nI n), .long (f_withValue fw (nI n) v), .long (nc ||| ((15 : Int64) <<< ((nI (4 * n)).toInt64 &&& 63))), .int hc]))] H := hP
    have hD : va_D A [(ac, .inr (1, [.ref aw, .int (nI n), .long (f_withValue fw (nI n) v), .long (nc ||| ((15 : Int64) <<< ((nI (4 * n)).toInt64 &&& 63))), .int hc]))] := hD
    refine lv_aload_n hx hb dX0_add_47 rfl (lv_at hl 0 rfl) ?_
    refine lv_dup hx hb dX0_add_48 rfl ?_
    refine r_get (v := .int (nI n)) C hP okX0 0 1 rfl (by decide) fl_X0_15 rfl rfl dX0_add_49 ?_
    refine lv_dup_x1 hx hb dX0_add_52 rfl rfl ?_
    refine lv_iconst (v := 1) hx hb dX0_add_53 (by decide) ?_
    refine lv_iadd hx hb dX0_add_54 ?_
    refine r_top (x' := nI (n + 1)) (nI_add n 1) ?_
    refine r_put (v := .int (nI (n + 1))) C hP hD hS okX0 0 1 rfl (by decide) fl_X0_15 rfl rfl rfl rfl (Nat.le_of_ble_eq_true rfl) dX0_add_55 (fun H locs hP hD hS => ?_)
    have hP : va_P D vwCl [(ac, .inr (1, [.ref aw, .int (nI (n + 1)), .long (f_withValue fw (nI n) v), .long (nc ||| ((15 : Int64) <<< ((nI (4 * n)).toInt64 &&& 63))), .int hc]))] H := hP
    have hD : va_D A [(ac, .inr (1, [.ref aw, .int (nI (n + 1)), .long (f_withValue fw (nI n) v), .long (nc ||| ((15 : Int64) <<< ((nI (4 * n)).toInt64 &&& 63))), .int hc]))] := hD
    exact rt_i C hQ (hP.sub (ws' := [(ac, .inr (1, [.ref aw, .int (nI (n + 1)), .long (f_withValue fw (nI n) v), .long (nc ||| ((15 : Int64) <<< ((nI (4 * n)).toInt64 &&& 63))), .int hc]))]) [0] rfl) (hD.sub [0] (by decide) rfl) hS ⟨rfl, by simp only [f_nc, f_hc, c_17, if_true, if_false, if_pos, if_neg]⟩ (by decide) (by decide) dX0_add_58
  · -- not taken 17
    refine lv_aload_n hx hb dX0_add_20 rfl (lv_at hl 0 rfl) ?_
    refine lv_iconst (v := 1) hx hb dX0_add_21 (by decide) ?_
    refine r_put (v := .int 1) C hP hD hS okX0 0 4 rfl (by decide) fl_X0_31 rfl rfl (by decide) (by decide) (Nat.le_of_ble_eq_true rfl) dX0_add_22 (fun H locs hP hD hS => ?_)
    have hP : va_P D vwCl [(ac, .inr (1, [.ref aw, .int (nI n), .long (f_withValue fw (nI n) v), .long nc, .int 1]))] H := hP
    have hD : va_D A [(ac, .inr (1, [.ref aw, .int (nI n), .long (f_withValue fw (nI n) v), .long nc, .int 1]))] := hD
    refine lv_goto (tgt := 47) hx hb dX0_add_25 (by decide) ?_
    refine lv_aload_n hx hb dX0_add_47 rfl (lv_at hl 0 rfl) ?_
    refine lv_dup hx hb dX0_add_48 rfl ?_
    refine r_get (v := .int (nI n)) C hP okX0 0 1 rfl (by decide) fl_X0_15 rfl rfl dX0_add_49 ?_
    refine lv_dup_x1 hx hb dX0_add_52 rfl rfl ?_
    refine lv_iconst (v := 1) hx hb dX0_add_53 (by decide) ?_
    refine lv_iadd hx hb dX0_add_54 ?_
    refine r_top (x' := nI (n + 1)) (nI_add n 1) ?_
    refine r_put (v := .int (nI (n + 1))) C hP hD hS okX0 0 1 rfl (by decide) fl_X0_15 rfl rfl rfl rfl (Nat.le_of_ble_eq_true rfl) dX0_add_55 (fun H locs hP hD hS => ?_)
    have hP : va_P D vwCl [(ac, .inr (1, [.ref aw, .int (nI (n + 1)), .long (f_withValue fw (nI n) v), .long nc, .int 1]))] H := hP
    have hD : va_D A [(ac, .inr (1, [.ref aw, .int (nI (n + 1)), .long (f_withValue fw (nI n) v), .long nc, .int 1]))] := hD
    exact rt_i C hQ (hP.sub (ws' := [(ac, .inr (1, [.ref aw, .int (nI (n + 1)), .long (f_withValue fw (nI n) v), .long nc, .int 1]))]) [0] rfl) (hD.sub [0] (by decide) rfl) hS ⟨rfl, by simp only [f_nc, f_hc, c_17, if_true, if_false, if_pos, if_neg]⟩ (by decide) (by decide) dX0_add_58
set_option maxHeartbeats 4000000 in
set_option maxRecDepth 100000 in
theorem lp_X0_score_5 (l : Launch) (D : va_G) (cI cJ cZ : ClassId) (ac : Nat) (aw : Nat) (n : Nat) (fw : Int64) (nc : Int64) (hc : Int32) (wt : Nat → Int32) (w : Int64) (hn : n ≤ 10)   {p : Program} {e : Env} {s : State} {m : MethodId} {below : List Frame} {meth : Method} {c : Code} {A : Nat → Prop} {Q : State → Prop} (C : Cx D cI cJ cZ p s m ([.ref ac, .long w] : List Value).toArray meth c yX0_score cX0_score 5 (some .int)) (hQ : QOK Q below s ([.ref ac, .long w] : List Value).toArray D A (fun r W => r = some (.int (f_score wt w n)) ∧ W = [(ac, .inr (1, [.ref aw, .int (nI n), .long fw, .long nc, .int hc])), (aw, .inl (cI, 10, .inl wt))]) 0 0) (hA : ∀ q, s.heap.size ≤ q → A q) : ∀ (ku : Nat) (i : Nat) (hi : i ≤ n), (n - i) < ku → ∀ (H : Heap) (locs : List Loc) (ls : Array Slot), va_P D vwCl [(ac, .inr (1, [.ref aw, .int (nI n), .long fw, .long nc, .int hc])), (aw, .inl (cI, 10, .inl wt))] H → va_D A [(ac, .inr (1, [.ref aw, .int (nI n), .long fw, .long nc, .int hc])), (aw, .inl (cI, 10, .inl wt))] → va_S A s.heap H locs → lv_has ls 5 [(0, .ref ac), (1, .long w), (3, .int (f_score wt w i)), (4, .int (nI i))] → W p l e ({ frames := 1, cells := 0, slots := 0, locals := 22 } : Room) s m ([.ref ac, .long w] : List Value).toArray below meth c H locs 0 0 Q (F0 m 5 ls []) := by
  obtain ⟨hx, hb, hr, hml, hts, hown, hlk, hnm, hK, hN⟩ := id C
  intro ku
  induction ku with
  | zero =>
    intro i hi hku
    exact absurd hku (Nat.not_lt_zero _)
  | succ ku ih =>
    intro i hi hku H locs ls hP hD hS hl
    refine lv_iload hx hb dX0_score_5 (lv_at hl 3 rfl) ?_
    refine lv_aload_n hx hb dX0_score_7 rfl (lv_at hl 0 rfl) ?_
    refine r_get (v := .int (nI n)) C hP okX0 0 1 rfl (by decide) fl_X0_15 rfl rfl dX0_score_8 ?_
    refine lv_icmp_ge (tgt := 37) hx hb dX0_score_11 (by decide) (fun c_11 => ?_) (fun c_11 => ?_)
    · -- taken 11
      have c_11 : n ≤ i := (nI_leI (a := n) (b := i) (by omega) (by omega)).mp c_11
      refine lv_iload_n hx hb dX0_score_37 rfl (lv_at hl 2 rfl) ?_
      exact rt_i C hQ (hP.sub (ws' := [(ac, .inr (1, [.ref aw, .int (nI n), .long fw, .long nc, .int hc])), (aw, .inl (cI, 10, .inl wt))]) [0, 1] rfl) (hD.sub [0, 1] (by decide) rfl) hS ⟨by rw [show i = n by omega], rfl⟩ (by decide) (by decide) dX0_score_38
    · -- not taken 11
      have c_11 : ¬ (n ≤ i) := fun z => c_11 ((nI_leI (a := n) (b := i) (by omega) (by omega)).mpr z)
      refine lv_iload_n hx hb dX0_score_14 rfl (lv_at hl 2 rfl) ?_
      refine lv_lload_n hx hb dX0_score_15 rfl (lv_at hl 1 rfl) ?_
      refine lv_iload hx hb dX0_score_16 (lv_at hl 3 rfl) ?_
      refine cl_sn C (c_X9_valueIn l D cI cJ cZ w (nI i)) cd_X9_valueIn (by decide +kernel) st_X9_valueIn in_X9 hd_X9_valueIn ⟨by decide, by decide⟩ hP hD hS hA (WR := [(ac, .inr (1, [.ref aw, .int (nI n), .long fw, .long nc, .int hc])), (aw, .inl (cI, 10, .inl wt))]) [] [0, 1] rfl rfl rfl rfl (by decide) hl.1 rfl (Nat.le_of_ble_eq_true rfl) dX0_score_18 ⟨by decide, by decide⟩ (fun r W H locs hp hP hD hS => ?_)
      obtain ⟨rfl, rfl⟩ := hp
      refine W.eq (g2 := F0 m 21 ls [.int (f_valueIn w (nI i)), .int (f_score wt w i)]) rfl ?_
      have hP : va_P D vwCl [(ac, .inr (1, [.ref aw, .int (nI n), .long fw, .long nc, .int hc])), (aw, .inl (cI, 10, .inl wt))] H := hP
      have hD : va_D A [(ac, .inr (1, [.ref aw, .int (nI n), .long fw, .long nc, .int hc])), (aw, .inl (cI, 10, .inl wt))] := hD
      refine lv_aload_n hx hb dX0_score_21 rfl (lv_at hl 0 rfl) ?_
      refine r_get (v := .ref aw) C hP okX0 0 0 rfl (by decide) fl_X0_9 rfl rfl dX0_score_22 ?_
      refine lv_iload hx hb dX0_score_25 (lv_at hl 3 rfl) ?_
      refine r_iald (j := i) C hP 1 rfl (by omega) (by decide) dX0_score_27 ?_
      refine lv_imul hx hb dX0_score_28 ?_
      refine lv_iadd hx hb dX0_score_29 ?_
      refine lv_istore_n (lv' := [(3, .int ((f_score wt w i) + ((f_valueIn w (nI i)) * (wt i)))), (0, .ref ac), (1, .long w), (4, .int (nI i))]) hx hb dX0_score_30 rfl hl (by decide) rfl (fun ls hl => ?_)
      refine lv_iinc (v := nI (i + 1)) (lv' := [(4, .int (nI (i + 1))), (3, .int ((f_score wt w i) + ((f_valueIn w (nI i)) * (wt i)))), (0, .ref ac), (1, .long w)]) hx hb dX0_score_31 hl (k := 3) rfl (nI_1 _) (by decide) rfl (fun ls hl => ?_)
      refine lv_goto (tgt := 5) hx hb dX0_score_34 (by decide) ?_
      exact ih (i + 1) (by omega) (by omega) _ _ _ (hP.sub [0, 1] rfl) (hD.sub [0, 1] (by decide) rfl) hS (lv_sub hl [2, 3, 1, 0] rfl)
set_option maxHeartbeats 4000000 in
set_option maxRecDepth 100000 in
theorem c_X0_score (l : Launch) (D : va_G) (cI cJ cZ : ClassId) (ac : Nat) (aw : Nat) (n : Nat) (fw : Int64) (nc : Int64) (hc : Int32) (wt : Nat → Int32) (w : Int64) (hn : n ≤ 10) : Ctr l D cI cJ cZ yX0_score cX0_score 5 (some .int) ({ frames := 1, cells := 0, slots := 0, locals := 22 } : Room) [.ref ac, .long w] [(ac, .inr (1, [.ref aw, .int (nI n), .long fw, .long nc, .int hc])), (aw, .inl (cI, 10, .inl wt))] (fun r W => r = some (.int (f_score wt w n)) ∧ W = [(ac, .inr (1, [.ref aw, .int (nI n), .long fw, .long nc, .int hc])), (aw, .inl (cI, 10, .inl wt))]) := by
  refine Ctr.start (by decide +kernel) (Nat.le_of_ble_eq_true rfl) ?_
  intro p e s m below meth c A Q ls H C hQ hA hP hD hS hl
  obtain ⟨hx, hb, hr, hml, hts, hown, hlk, hnm, hK, hN⟩ := id C
  have hl : lv_has ls 5 [(0, .ref ac), (1, .long w)] := hl
  refine lv_iconst (v := 0) hx hb dX0_score_0 (by decide) ?_
  refine lv_istore_n (lv' := [(3, .int 0), (0, .ref ac), (1, .long w)]) hx hb dX0_score_1 rfl hl (by decide) rfl (fun ls hl => ?_)
  refine lv_iconst (v := 0) hx hb dX0_score_2 (by decide) ?_
  refine lv_istore (lv' := [(4, .int 0), (3, .int 0), (0, .ref ac), (1, .long w)]) hx hb dX0_score_3 hl (by decide) rfl (fun ls hl => ?_)
  exact lp_X0_score_5 l D cI cJ cZ ac aw n fw nc hc wt w hn   C hQ hA _ 0 (by omega) (Nat.lt_succ_self _) _ _ _ (hP.sub [0, 1] rfl) (hD.sub [0, 1] (by decide) rfl) hS (lv_sub hl [2, 3, 1, 0] rfl)
