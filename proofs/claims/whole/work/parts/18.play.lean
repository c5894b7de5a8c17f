/-! Arrays.fill, Nodes.startWith, Play (written by s8.py) -/
def f_fill (z : Int32) (i : Nat) (f : Nat → Int32) : Nat → Int32 := fun k => if k < i then z else f k
theorem f_fill_s (z : Int32) (i : Nat) (f : Nat → Int32) : upd (f_fill z i f) i z = f_fill z (i + 1) f := by
  funext k
  simp only [upd, f_fill]
  by_cases h : k = i
  · rw [if_pos h, if_pos (by omega)]
  · rw [if_neg h]
    by_cases h2 : k < i
    · rw [if_pos h2, if_pos (by omega)]
    · rw [if_neg h2, if_neg (by omega)]
theorem f_fill_0 (z : Int32) (f : Nat → Int32) : f_fill z 0 f = f := rfl
def f_at (lo : Option Nat) (pv : Nat → Int32) (p0 : Nat) (i : Int32) : Int32 := match lo with
  | none => -1
  | some L => if inR i L = true then pv (p0 + i.toNatClampNeg) else -1
theorem q_at {lo : Option Nat} {i : Int32} (hl : ∀ L, lo = some L → L < 2 ^ 31) (h : 0 ≤ i ∧ i ≤ oI lo - 1) : ∃ L, lo = some L ∧ ∃ j, j < L ∧ i = nI j := by
  cases lo with
  | none =>
    exfalso
    have h1 : (0 : Int32) ≤ oI none - 1 := by
      have := h.1
      rw [Int32.le_iff_toInt_le] at this ⊢
      have := h.2
      rw [Int32.le_iff_toInt_le] at this
      omega
    exact absurd h1 (by decide)
  | some L => exact ⟨L, rfl, (q_rng (hl L rfl)).mp h⟩
theorem q_nat {lo : Option Nat} {i : Int32} {pv : Nat → Int32} {p0 : Nat} (hl : ∀ L, lo = some L → L < 2 ^ 31) (h : ¬ (0 ≤ i ∧ i ≤ oI lo - 1)) : f_at lo pv p0 i = -1 := by
  cases lo with
  | none => rfl
  | some L =>
    simp only [f_at]
    rw [if_neg (q_ninR (hl L rfl) h)]
set_option maxHeartbeats 4000000 in
set_option maxRecDepth 100000 in
theorem lp_J7_fill_53178_5 (l : Launch) (D : va_G) (cI cJ cZ : ClassId) (a0 : Nat) (N0 : Nat) (f0 : Nat → Int32) (z : Int32) (hN0 : N0 < 2 ^ 31)   {p : Program} {e : Env} {s : State} {m : MethodId} {below : List Frame} {meth : Method} {c : Code} {A : Nat → Prop} {Q : State → Prop} (C : Cx D cI cJ cZ p s m ([.ref a0, .int z] : List Value).toArray meth c yJ7_fill_53178 cJ7_fill_53178 4 none) (hQ : QOK Q below s ([.ref a0, .int z] : List Value).toArray D A (fun r W => r = none ∧ W = [(a0, .inl (cI, N0, .inl (f_fill z N0 f0)))]) 0 0) (hA : ∀ q, s.heap.size ≤ q → A q) : ∀ (ku : Nat) (i : Nat) (g : Nat → Int32) (hi : i ≤ N0) (hg : g = f_fill z i f0), (N0 - i) < ku → ∀ (H : Heap) (locs : List Loc) (ls : Array Slot), va_P D vwCl [(a0, .inl (cI, N0, .inl g))] H → va_D A [(a0, .inl (cI, N0, .inl g))] → va_S A s.heap H locs → lv_has ls 4 [(0, .ref a0), (1, .int z), (2, .int (nI i)), (3, .int (nI N0))] → W p l e ({ frames := 0, cells := 0, slots := 0, locals := 0 } : Room) s m ([.ref a0, .int z] : List Value).toArray below meth c H locs 0 0 Q (F0 m 5 ls []) := by
  obtain ⟨hx, hb, hr, hml, hts, hown, hlk, hnm, hK, hN⟩ := id C
  intro ku
  induction ku with
  | zero =>
    intro i g hi hg hku
    exact absurd hku (Nat.not_lt_zero _)
  | succ ku ih =>
    intro i g hi hg hku H locs ls hP hD hS hl
    refine lv_iload_n hx hb dJ7_fill_53178_5 rfl (lv_at hl 2 rfl) ?_
    refine lv_iload_n hx hb dJ7_fill_53178_6 rfl (lv_at hl 3 rfl) ?_
    refine lv_icmp_ge (tgt := 20) hx hb dJ7_fill_53178_7 (by decide) (fun c_7 => ?_) (fun c_7 => ?_)
    · -- taken 7
      have c_7 : N0 ≤ i := (nI_leI (a := N0) (b := i) (by omega) (by omega)).mp c_7
      exact rt_v C hQ (hP.sub (ws' := [(a0, .inl (cI, N0, .inl g))]) [0] rfl) (hD.sub [0] (by decide) rfl) hS ⟨rfl, by rw [hg, show i = N0 by omega]⟩ (by decide) (by decide) dJ7_fill_53178_20
    · -- not taken 7
      have c_7 : ¬ (N0 ≤ i) := fun z => c_7 ((nI_leI (a := N0) (b := i) (by omega) (by omega)).mpr z)
      refine lv_aload_n hx hb dJ7_fill_53178_10 rfl (lv_at hl 0 rfl) ?_
      refine lv_iload_n hx hb dJ7_fill_53178_11 rfl (lv_at hl 2 rfl) ?_
      refine lv_iload_n hx hb dJ7_fill_53178_12 rfl (lv_at hl 1 rfl) ?_
      refine r_iast (j := i) C hP hD hS 0 rfl (by omega) hN0 dJ7_fill_53178_13 (fun H locs hP hD hS => ?_)
      have hP : va_P D vwCl [(a0, .inl (cI, N0, .inl (upd g i z)))] H := hP
      have hD : va_D A [(a0, .inl (cI, N0, .inl (upd g i z)))] := hD
      refine lv_iinc (v := nI (i + 1)) (lv' := [(2, .int (nI (i + 1))), (0, .ref a0), (1, .int z), (3, .int (nI N0))]) hx hb dJ7_fill_53178_14 hl (k := 2) rfl (nI_1 _) (by decide) rfl (fun ls hl => ?_)
      refine lv_goto (tgt := 5) hx hb dJ7_fill_53178_17 (by decide) ?_
      exact ih (i + 1) (upd g i z) (by omega) (by rw [hg, f_fill_s]) (by omega) _ _ _ (hP.sub [0] rfl) (hD.sub [0] (by decide) rfl) hS (lv_sub hl [1, 2, 0, 3] rfl)
set_option maxHeartbeats 4000000 in
set_option maxRecDepth 100000 in
theorem c_J7_fill_53178 (l : Launch) (D : va_G) (cI cJ cZ : ClassId) (a0 : Nat) (N0 : Nat) (f0 : Nat → Int32) (z : Int32) (hN0 : N0 < 2 ^ 31) : Ctr l D cI cJ cZ yJ7_fill_53178 cJ7_fill_53178 4 none ({ frames := 0, cells := 0, slots := 0, locals := 0 } : Room) [.ref a0, .int z] [(a0, .inl (cI, N0, .inl f0))] (fun r W => r = none ∧ W = [(a0, .inl (cI, N0, .inl (f_fill z N0 f0)))]) := by
  refine Ctr.startF (by decide +kernel) (Nat.le_of_ble_eq_true rfl) ?_
  intro p e s m below meth c A Q ls H C hQ hA hP hD hS hl
  obtain ⟨hx, hb, hr, hml, hts, hown, hlk, hnm, hK, hN⟩ := id C
  have hl : lv_has ls 4 [(0, .ref a0), (1, .int z)] := hl
  refine lv_iconst (v := 0) hx hb dJ7_fill_53178_0 (by decide) ?_
  refine lv_istore_n (lv' := [(2, .int 0), (0, .ref a0), (1, .int z)]) hx hb dJ7_fill_53178_1 rfl hl (by decide) rfl (fun ls hl => ?_)
  refine lv_aload_n hx hb dJ7_fill_53178_2 rfl (lv_at hl 1 rfl) ?_
  refine r_alen C hP 0 rfl dJ7_fill_53178_3 ?_
  refine lv_istore_n (lv' := [(3, .int (nI N0)), (2, .int 0), (0, .ref a0), (1, .int z)]) hx hb dJ7_fill_53178_4 rfl hl (by decide) rfl (fun ls hl => ?_)
  exact lp_J7_fill_53178_5 l D cI cJ cZ a0 N0 f0 z hN0   C hQ hA _ 0 f0 (by omega) rfl (Nat.lt_succ_self _) _ _ _ (hP.sub [0] rfl) (hD.sub [0] (by decide) rfl) hS (lv_sub hl [2, 3, 1, 0] rfl)
set_option maxHeartbeats 4000000 in
set_option maxRecDepth 100000 in
theorem c_X5_startWith (l : Launch) (D : va_G) (cI cJ cZ : ClassId) (an : Nat) (u0 : Nat) (u1 : Nat) (u2 : Nat) (u3 : Nat) (u4 : Nat) (u5 : Nat) (u6 : Nat) (u7 : Nat) (u8 : Nat) (nn : Nat) (ndd : Nat) (ncc : Nat) (ncl : Int64) (sl : Nat → Int32) (ac : Nat) (aw : Nat) (n : Nat) (fw : Int64) (nc : Int64) (hc : Int32)  : Ctr l D cI cJ cZ yX5_startWith cX5_startWith 2 none ({ frames := 1, cells := 0, slots := 0, locals := 23 } : Room) [.ref an, .ref ac] [(an, .inr (6, [.ref u0, .ref u1, .ref u2, .ref u3, .int (nI nn), .int (nI ndd), .ref u4, .ref u5, .ref u6, .ref u7, .ref u8, .int (nI ncc), .long ncl])), (u8, .inl (cI, 4096, .inl sl)), (ac, .inr (1, [.ref aw, .int (nI n), .long fw, .long nc, .int hc]))] (fun r W => r = none ∧ W = [(an, .inr (6, [.ref u0, .ref u1, .ref u2, .ref u3, .int (nI 0), .int (nI 0), .ref u4, .ref u5, .ref u6, .ref u7, .ref u8, .int (nI n), .long nc])), (u8, .inl (cI, 4096, .inl (f_fill (-1) 4096 sl))), (ac, .inr (1, [.ref aw, .int (nI n), .long fw, .long nc, .int hc]))]) := by
  refine Ctr.start (by decide +kernel) (Nat.le_of_ble_eq_true rfl) ?_
  intro p e s m below meth c A Q ls H C hQ hA hP hD hS hl
  obtain ⟨hx, hb, hr, hml, hts, hown, hlk, hnm, hK, hN⟩ := id C
  have hl : lv_has ls 2 [(0, .ref an), (1, .ref ac)] := hl
  refine lv_aload_n hx hb dX5_startWith_0 rfl (lv_at hl 0 rfl) ?_
  refine r_get (v := .ref u8) C hP okX5 0 10 rfl (by decide) fl_X5_38 rfl rfl dX5_startWith_1 ?_
  refine lv_iconst (v := (-1)) hx hb dX5_startWith_4 (by decide) ?_
  refine cl_s C (c_J7_fill_53178 l D cI cJ cZ u8 4096 sl (-1) (by omega)) cd_J7_fill_53178 ml_X5_49 st_J7_fill_53178 in_J7 hd_J7_fill_53178 ⟨by decide, by decide⟩ hP hD hS hA (WR := [(an, .inr (6, [.ref u0, .ref u1, .ref u2, .ref u3, .int (nI nn), .int (nI ndd), .ref u4, .ref u5, .ref u6, .ref u7, .ref u8, .int (nI ncc), .long ncl])), (ac, .inr (1, [.ref aw, .int (nI n), .long fw, .long nc, .int hc]))]) [1] [0, 2] rfl rfl rfl rfl (by decide) hl.1 rfl (Nat.le_of_ble_eq_true rfl) dX5_startWith_5 ⟨by decide, by decide⟩ (fun r W H locs hp hP hD hS => ?_)
  obtain ⟨rfl, rfl⟩ := hp
  refine W.eq (g2 := F0 m 8 ls []) rfl ?_
  have hP : va_P D vwCl [(an, .inr (6, [.ref u0, .ref u1, .ref u2, .ref u3, .int (nI nn), .int (nI ndd), .ref u4, .ref u5, .ref u6, .ref u7, .ref u8, .int (nI ncc), .long ncl])), (ac, .inr (1, [.ref aw, .int (nI n), .long fw, .long nc, .int hc])), (u8, .inl (cI, 4096, .inl (f_fill (-1) 4096 sl)))] H := hP
  have hD : va_D A [(an, .inr (6, [.ref u0, .ref u1, .ref u2, .ref u3, .int (nI nn), .int (nI ndd), .ref u4, .ref u5, .ref u6, .ref u7, .ref u8, .int (nI ncc), .long ncl])), (ac, .inr (1, [.ref aw, .int (nI n), .long fw, .long nc, .int hc])), (u8, .inl (cI, 4096, .inl (f_fill (-1) 4096 sl)))] := hD
  refine lv_aload_n hx hb dX5_startWith_8 rfl (lv_at hl 0 rfl) ?_
  refine lv_iconst (v := 0) hx hb dX5_startWith_9 (by decide) ?_
  refine r_put (v := .int 0) C hP hD hS okX5 0 4 rfl (by decide) fl_X5_41 rfl rfl rfl rfl (Nat.le_of_ble_eq_true rfl) dX5_startWith_10 (fun H locs hP hD hS => ?_)
  have hP : va_P D vwCl [(an, .inr (6, [.ref u0, .ref u1, .ref u2, .ref u3, .int 0, .int (nI ndd), .ref u4, .ref u5, .ref u6, .ref u7, .ref u8, .int (nI ncc), .long ncl])), (ac, .inr (1, [.ref aw, .int (nI n), .long fw, .long nc, .int hc])), (u8, .inl (cI, 4096, .inl (f_fill (-1) 4096 sl)))] H := hP
  have hD : va_D A [(an, .inr (6, [.ref u0, .ref u1, .ref u2, .ref u3, .int 0, .int (nI ndd), .ref u4, .ref u5, .ref u6, .ref u7, .ref u8, .int (nI ncc), .long ncl])), (ac, .inr (1, [.ref aw, .int (nI n), .long fw, .long nc, .int hc])), (u8, .inl (cI, 4096, .inl (f_fill (-1) 4096 sl)))] := hD
  refine lv_aload_n hx hb dX5_startWith_13 rfl (lv_at hl 0 rfl) ?_
  refine lv_iconst (v := 0) hx hb dX5_startWith_14 (by decide) ?_
  refine r_put (v := .int 0) C hP hD hS okX5 0 5 rfl (by decide) fl_X5_55 rfl rfl rfl rfl (Nat.le_of_ble_eq_true rfl) dX5_startWith_15 (fun H locs hP hD hS => ?_)
  have hP : va_P D vwCl [(an, .inr (6, [.ref u0, .ref u1, .ref u2, .ref u3, .int 0, .int 0, .ref u4, .ref u5, .ref u6, .ref u7, .ref u8, .int (nI ncc), .long ncl])), (ac, .inr (1, [.ref aw, .int (nI n), .long fw, .long nc, .int hc])), (u8, .inl (cI, 4096, .inl (f_fill (-1) 4096 sl)))] H := hP
  have hD : va_D A [(an, .inr (6, [.ref u0, .ref u1, .ref u2, .ref u3, .int 0, .int 0, .ref u4, .ref u5, .ref u6, .ref u7, .ref u8, .int (nI ncc), .long ncl])), (ac, .inr (1, [.ref aw, .int (nI n), .long fw, .long nc, .int hc])), (u8, .inl (cI, 4096, .inl (f_fill (-1) 4096 sl)))] := hD
  refine lv_aload_n hx hb dX5_startWith_18 rfl (lv_at hl 0 rfl) ?_
  refine lv_aload_n hx hb dX5_startWith_19 rfl (lv_at hl 1 rfl) ?_
  refine r_get (v := .int (nI n)) C hP okX0 1 1 rfl (by decide) fl_X5_58 rfl rfl dX5_startWith_20 ?_
  refine r_put (v := .int (nI n)) C hP hD hS okX5 0 11 rfl (by decide) fl_X5_61 rfl rfl rfl rfl (Nat.le_of_ble_eq_true rfl) dX5_startWith_23 (fun H locs hP hD hS => ?_)
  have hP : va_P D vwCl [(an, .inr (6, [.ref u0, .ref u1, .ref u2, .ref u3, .int 0, .int 0, .ref u4, .ref u5, .ref u6, .ref u7, .ref u8, .int (nI n), .long ncl])), (ac, .inr (1, [.ref aw, .int (nI n), .long fw, .long nc, .int hc])), (u8, .inl (cI, 4096, .inl (f_fill (-1) 4096 sl)))] H := hP
  have hD : va_D A [(an, .inr (6, [.ref u0, .ref u1, .ref u2, .ref u3, .int 0, .int 0, .ref u4, .ref u5, .ref u6, .ref u7, .ref u8, .int (nI n), .long ncl])), (ac, .inr (1, [.ref aw, .int (nI n), .long fw, .long nc, .int hc])), (u8, .inl (cI, 4096, .inl (f_fill (-1) 4096 sl)))] := hD
  refine lv_aload_n hx hb dX5_startWith_26 rfl (lv_at hl 0 rfl) ?_
  refine lv_aload_n hx hb dX5_startWith_27 rfl (lv_at hl 1 rfl) ?_
  refine r_get (v := .long nc) C hP okX0 1 3 rfl (by decide) fl_X5_64 rfl rfl dX5_startWith_28 ?_
  refine r_put (v := .long nc) C hP hD hS okX5 0 12 rfl (by decide) fl_X5_68 rfl rfl rfl rfl (Nat.le_of_ble_eq_true rfl) dX5_startWith_31 (fun H locs hP hD hS => ?_)
  have hP : va_P D vwCl [(an, .inr (6, [.ref u0, .ref u1, .ref u2, .ref u3, .int 0, .int 0, .ref u4, .ref u5, .ref u6, .ref u7, .ref u8, .int (nI n), .long nc])), (ac, .inr (1, [.ref aw, .int (nI n), .long fw, .long nc, .int hc])), (u8, .inl (cI, 4096, .inl (f_fill (-1) 4096 sl)))] H := hP
  have hD : va_D A [(an, .inr (6, [.ref u0, .ref u1, .ref u2, .ref u3, .int 0, .int 0, .ref u4, .ref u5, .ref u6, .ref u7, .ref u8, .int (nI n), .long nc])), (ac, .inr (1, [.ref aw, .int (nI n), .long fw, .long nc, .int hc])), (u8, .inl (cI, 4096, .inl (f_fill (-1) 4096 sl)))] := hD
  exact rt_v C hQ (hP.sub (ws' := [(an, .inr (6, [.ref u0, .ref u1, .ref u2, .ref u3, .int 0, .int 0, .ref u4, .ref u5, .ref u6, .ref u7, .ref u8, .int (nI n), .long nc])), (u8, .inl (cI, 4096, .inl (f_fill (-1) 4096 sl))), (ac, .inr (1, [.ref aw, .int (nI n), .long fw, .long nc, .int hc]))]) [0, 2, 1] rfl) (hD.sub [0, 2, 1] (by decide) rfl) hS ⟨rfl, rfl⟩ (by decide) (by decide) dX5_startWith_34
set_option maxHeartbeats 4000000 in
set_option maxRecDepth 100000 in
theorem c_X6_init (l : Launch) (D : va_G) (cI cJ cZ : ClassId) (ap : Nat)  : Ctr l D cI cJ cZ yX6_init cX6_init 1 none ({ frames := 1, cells := 1, slots := 9000, locals := 12 } : Room) [.ref ap] [(ap, .inr (7, [.int 0, .null, .int 0]))] (fun r W => ∃ (q1 : Nat), r = none ∧ W = [(ap, .inr (7, [.int (-1), .ref q1, .int 0])), (q1, .inl (cI, 9000, .inl (fun _ => 0)))]) := by
  refine Ctr.start (by decide +kernel) (Nat.le_of_ble_eq_true rfl) ?_
  intro p e s m below meth c A Q ls H C hQ hA hP hD hS hl
  obtain ⟨hx, hb, hr, hml, hts, hown, hlk, hnm, hK, hN⟩ := id C
  have hl : lv_has ls 1 [(0, .ref ap)] := hl
  refine lv_aload_n hx hb dX6_init_0 rfl (lv_at hl 0 rfl) ?_
  refine W.objInit hx hb hown (hts _ ml_X6_3) (hts _ im_objectInit) (hts _ cd_objectInit) rfl (by rw [hml]; exact hl.1) rfl dX6_init_1 (by decide) (Nat.le_of_ble_eq_true rfl) ?_
  refine W.eq (g2 := F0 m 4 ls []) rfl ?_
  refine lv_aload_n hx hb dX6_init_4 rfl (lv_at hl 0 rfl) ?_
  refine lv_iconst (v := (-1)) hx hb dX6_init_5 (by decide) ?_
  refine r_put (v := .int (-1)) C hP hD hS okX6 0 0 rfl (by decide) fl_X6_9 rfl rfl rfl rfl (Nat.le_of_ble_eq_true rfl) dX6_init_6 (fun H locs hP hD hS => ?_)
  have hP : va_P D vwCl [(ap, .inr (7, [.int (-1), .null, .int 0]))] H := hP
  have hD : va_D A [(ap, .inr (7, [.int (-1), .null, .int 0]))] := hD
  refine lv_aload_n hx hb dX6_init_9 rfl (lv_at hl 0 rfl) ?_
  refine lv_sipush (v := 9000) hx hb dX6_init_10 (by decide) ?_
  refine va_newa (atype := .int) (a0 := (9000, .inl (fun _ => 0))) (N' := 9000) hx hb (hts _ ac_int) rfl hK hP hD hS hA (fun _ => rfl) (by decide) (by decide +kernel) (by decide) (by decide) (by decide) dX6_init_13 (fun q_1 cA H hK' hP hD hS => ?_)
  obtain rfl : cI = cA := (va_sameI hK').symm
  have hP : va_P D vwCl [(ap, .inr (7, [.int (-1), .null, .int 0])), (q_1, .inl (cI, 9000, .inl (fun _ => 0)))] H := hP
  have hD : va_D A [(ap, .inr (7, [.int (-1), .null, .int 0])), (q_1, .inl (cI, 9000, .inl (fun _ => 0)))] := hD
  refine W.widen (k := 1) (n := 9000) (by decide) (by decide) ?_
  refine r_putF (v := .ref q_1) C hP hD hS okX6 0 1 rfl (by decide) fl_X6_15 rfl rfl rfl rfl rfl rfl (Nat.le_of_ble_eq_true rfl) dX6_init_15 (fun H locs hP hD hS => ?_)
  have hP : va_P D vwCl [(ap, .inr (7, [.int (-1), .ref q_1, .int 0])), (q_1, .inl (cI, 9000, .inl (fun _ => 0)))] H := hP
  have hD : va_D A [(ap, .inr (7, [.int (-1), .ref q_1, .int 0])), (q_1, .inl (cI, 9000, .inl (fun _ => 0)))] := hD
  exact rt_v C hQ (hP.sub (ws' := [(ap, .inr (7, [.int (-1), .ref q_1, .int 0])), (q_1, .inl (cI, 9000, .inl (fun _ => 0)))]) [0, 1] rfl) (hD.sub [0, 1] (by decide) rfl) hS ⟨q_1, rfl, rfl⟩ (by decide) (by decide) dX6_init_18
set_option maxHeartbeats 4000000 in
set_option maxRecDepth 100000 in
theorem c_X6_forget (l : Launch) (D : va_G) (cI cJ cZ : ClassId) (ap : Nat) (lo : Option Nat) (pm : Nat) (p0 : Nat)  : Ctr l D cI cJ cZ yX6_forget cX6_forget 1 none ({ frames := 0, cells := 0, slots := 0, locals := 0 } : Room) [.ref ap] [(ap, .inr (7, [.int (oI lo), .ref pm, .int (nI p0)]))] (fun r W => r = none ∧ W = [(ap, .inr (7, [.int (oI none), .ref pm, .int (nI p0)]))]) := by
  refine Ctr.start (by decide +kernel) (Nat.le_of_ble_eq_true rfl) ?_
  intro p e s m below meth c A Q ls H C hQ hA hP hD hS hl
  obtain ⟨hx, hb, hr, hml, hts, hown, hlk, hnm, hK, hN⟩ := id C
  have hl : lv_has ls 1 [(0, .ref ap)] := hl
  refine lv_aload_n hx hb dX6_forget_0 rfl (lv_at hl 0 rfl) ?_
  refine lv_iconst (v := (-1)) hx hb dX6_forget_1 (by decide) ?_
  refine r_put (v := .int (-1)) C hP hD hS okX6 0 0 rfl (by decide) fl_X6_9 rfl rfl rfl rfl (Nat.le_of_ble_eq_true rfl) dX6_forget_2 (fun H locs hP hD hS => ?_)
  have hP : va_P D vwCl [(ap, .inr (7, [.int (-1), .ref pm, .int (nI p0)]))] H := hP
  have hD : va_D A [(ap, .inr (7, [.int (-1), .ref pm, .int (nI p0)]))] := hD
  exact rt_v C hQ (hP.sub (ws' := [(ap, .inr (7, [.int (-1), .ref pm, .int (nI p0)]))]) [0] rfl) (hD.sub [0] (by decide) rfl) hS ⟨rfl, rfl⟩ (by decide) (by decide) dX6_forget_5
set_option maxHeartbeats 4000000 in
set_option maxRecDepth 100000 in
theorem c_X6_moveAt (l : Launch) (D : va_G) (cI cJ cZ : ClassId) (ap : Nat) (lo : Option Nat) (pm : Nat) (p0 : Nat) (pv : Nat → Int32) (i : Int32) (hlo : ∀ L, lo = some L → p0 + L ≤ 9000) : Ctr l D cI cJ cZ yX6_moveAt cX6_moveAt 2 (some .int) ({ frames := 1, cells := 0, slots := 0, locals := 22 } : Room) [.ref ap, .int i] [(ap, .inr (7, [.int (oI lo), .ref pm, .int (nI p0)])), (pm, .inl (cI, 9000, .inl pv))] (fun r W => r = some (.int (f_at lo pv p0 i)) ∧ W = [(ap, .inr (7, [.int (oI lo), .ref pm, .int (nI p0)])), (pm, .inl (cI, 9000, .inl pv))]) := by
  refine Ctr.start (by decide +kernel) (Nat.le_of_ble_eq_true rfl) ?_
  intro p e s m below meth c A Q ls H C hQ hA hP hD hS hl
  obtain ⟨hx, hb, hr, hml, hts, hown, hlk, hnm, hK, hN⟩ := id C
  have hl : lv_has ls 2 [(0, .ref ap), (1, .int i)] := hl
  refine lv_iload_n hx hb dX6_moveAt_0 rfl (lv_at hl 1 rfl) ?_
  refine lv_iconst (v := 0) hx hb dX6_moveAt_1 (by decide) ?_
  refine lv_aload_n hx hb dX6_moveAt_2 rfl (lv_at hl 0 rfl) ?_
  refine r_get (v := .int (oI lo)) C hP okX6 0 0 rfl (by decide) fl_X6_9 rfl rfl dX6_moveAt_3 ?_
  refine lv_iconst (v := 1) hx hb dX6_moveAt_6 (by decide) ?_
  refine lv_isub hx hb dX6_moveAt_7 ?_
  refine cl_sn C (c_X9_isWithin l D cI cJ cZ i 0 ((oI lo) - 1)) cd_X9_isWithin (by decide +kernel) st_X9_isWithin in_X9 hd_X9_isWithin ⟨by decide, by decide⟩ hP hD hS hA (WR := [(ap, .inr (7, [.int (oI lo), .ref pm, .int (nI p0)])), (pm, .inl (cI, 9000, .inl pv))]) [] [0, 1] rfl rfl rfl rfl (by decide) hl.1 rfl (Nat.le_of_ble_eq_true rfl) dX6_moveAt_8 ⟨by decide, by decide⟩ (fun r W H locs hp hP hD hS => ?_)
  rcases hp with ⟨⟨rfl, hb_8⟩ | ⟨rfl, hb_8⟩, rfl⟩
  · -- yes 8
    refine W.eq (g2 := F0 m 11 ls [.int 1]) rfl ?_
    have hP : va_P D vwCl [(ap, .inr (7, [.int (oI lo), .ref pm, .int (nI p0)])), (pm, .inl (cI, 9000, .inl pv))] H := hP
    have hD : va_D A [(ap, .inr (7, [.int (oI lo), .ref pm, .int (nI p0)])), (pm, .inl (cI, 9000, .inl pv))] := hD
    obtain ⟨L, rfl, j, hj, rfl⟩ := q_at (fun L h => by have := hlo L h; omega) hb_8
    have hL := hlo L rfl
    refine lv_if_eq (tgt := 28) hx hb dX6_moveAt_11 (by decide) (fun c_11 => ?_) (fun c_11 => ?_)
    · exact absurd c_11 (by decide)
    refine lv_aload_n hx hb dX6_moveAt_14 rfl (lv_at hl 0 rfl) ?_
    refine r_get (v := .ref pm) C hP okX6 0 1 rfl (by decide) fl_X6_15 rfl rfl dX6_moveAt_15 ?_
    refine lv_aload_n hx hb dX6_moveAt_18 rfl (lv_at hl 0 rfl) ?_
    refine r_get (v := .int (nI p0)) C hP okX6 0 2 rfl (by decide) fl_X6_19 rfl rfl dX6_moveAt_19 ?_
    refine lv_iload_n hx hb dX6_moveAt_22 rfl (lv_at hl 1 rfl) ?_
    refine lv_iadd hx hb dX6_moveAt_23 ?_
    refine r_top (x' := nI (p0 + j)) (nI_add p0 j) ?_
    refine r_iald (j := p0 + j) C hP 1 rfl (by omega) (by decide) dX6_moveAt_24 ?_
    refine lv_goto (tgt := 29) hx hb dX6_moveAt_25 (by decide) ?_
    exact rt_i C hQ (hP.sub (ws' := [(ap, .inr (7, [.int (oI (some L)), .ref pm, .int (nI p0)])), (pm, .inl (cI, 9000, .inl pv))]) [0, 1] rfl) (hD.sub [0, 1] (by decide) rfl) hS ⟨by simp only [f_at]; rw [if_pos (inR_nI hj (by omega)), nI_clamp (by omega)], rfl⟩ (by decide) (by decide) dX6_moveAt_29
  · -- no 8
    refine W.eq (g2 := F0 m 11 ls [.int 0]) rfl ?_
    have hP : va_P D vwCl [(ap, .inr (7, [.int (oI lo), .ref pm, .int (nI p0)])), (pm, .inl (cI, 9000, .inl pv))] H := hP
    have hD : va_D A [(ap, .inr (7, [.int (oI lo), .ref pm, .int (nI p0)])), (pm, .inl (cI, 9000, .inl pv))] := hD
    refine lv_if_eq (tgt := 28) hx hb dX6_moveAt_11 (by decide) (fun c_11 => ?_) (fun c_11 => ?_)
    rotate_left
    · exact absurd c_11 (by decide)
    refine lv_iconst (v := (-1)) hx hb dX6_moveAt_28 (by decide) ?_
    exact rt_i C hQ (hP.sub (ws' := [(ap, .inr (7, [.int (oI lo), .ref pm, .int (nI p0)])), (pm, .inl (cI, 9000, .inl pv))]) [0, 1] rfl) (hD.sub [0, 1] (by decide) rfl) hS ⟨by rw [q_nat (fun L h => by have := hlo L h; omega) hb_8], rfl⟩ (by decide) (by decide) dX6_moveAt_29
