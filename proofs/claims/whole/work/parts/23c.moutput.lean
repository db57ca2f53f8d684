def jN (n : Nat) : Int64 := (nI n).toInt64
theorem jN_toInt {n : Nat} (h : n < 2 ^ 31) : (jN n).toInt = (n : Int) := by
  unfold jN
  rw [Int32.toInt_toInt64, nI_toInt h]
theorem jN_of {x : Int64} {n : Nat} (h : n < 2 ^ 31) (e : x.toInt = (n : Int)) : x = jN n := by
  apply Int64.toInt.inj
  rw [jN_toInt h, e]
theorem bm64 {a : Int} (h1 : -(2 ^ 62) ≤ a) (h2 : a < 2 ^ 62) : a.bmod (2 ^ 64) = a := Int.bmod_eq_of_le (by omega) (by omega)
theorem jN_div {a b : Nat} (ha : a < 2 ^ 31) (hb : b < 2 ^ 31) : jN a / jN b = jN (a / b) := by
  have h0 : a / b ≤ a := Nat.div_le_self a b
  have h6 : 0 ≤ ((a : Int) / (b : Int)) := Int.ediv_nonneg (by omega) (by omega)
  apply jN_of (by omega)
  rw [Int64.toInt_div, jN_toInt ha, jN_toInt hb, Int.tdiv_eq_ediv_of_nonneg (by omega), ← Int.natCast_ediv]
  exact bm64 (by omega) (by omega)
theorem jN_mul {a b : Nat} (ha : a < 2 ^ 31) (hb : b < 2 ^ 31) (h : a * b < 2 ^ 31) : jN a * jN b = jN (a * b) := by
  apply jN_of h
  rw [Int64.toInt_mul, jN_toInt ha, jN_toInt hb, ← Int.natCast_mul]
  exact bm64 (by omega) (by omega)
theorem jN_mod {a b : Nat} (ha : a < 2 ^ 31) (hb : b < 2 ^ 31) : jN a - jN a / jN b * jN b = jN (a % b) := by
  have h1 : a / b * b ≤ a := Nat.div_mul_le_self a b
  have h2 := Nat.div_add_mod a b
  rw [Nat.mul_comm] at h2
  have h3 : a / b ≤ a := Nat.div_le_self a b
  have h4 : a % b ≤ a := Nat.mod_le a b
  rw [jN_div ha hb, jN_mul (by omega) hb (by omega)]
  apply jN_of (by omega)
  rw [Int64.toInt_sub, jN_toInt ha, jN_toInt (by omega), show ((a : Int) - ((a / b * b : Nat) : Int)) = ((a % b : Nat) : Int) by omega]
  exact bm64 (by omega) (by omega)
theorem jN_add {a b : Nat} (ha : a < 2 ^ 30) (hb : b < 2 ^ 30) : jN a + jN b = jN (a + b) := by
  apply jN_of (by omega)
  rw [Int64.toInt_add, jN_toInt (by omega), jN_toInt (by omega), ← Int.natCast_add]
  exact bm64 (by omega) (by omega)
theorem jN_ne0 {a : Nat} (h0 : 0 < a) (ha : a < 2 ^ 31) : ¬ jN a = 0 := fun e => by
  have := congrArg Int64.toInt e
  rw [jN_toInt ha] at this
  have h2 : (0 : Int64).toInt = 0 := rfl
  rw [h2] at this
  omega
theorem jN_lt9 {a : Nat} (ha : a < 2 ^ 31) : (9 : Int64) < jN a ↔ 9 < a := by
  rw [Int64.lt_iff_toInt_lt, jN_toInt ha]
  show (9 : Int) < _ ↔ _
  omega
theorem jN_lt0 {a : Nat} (ha : a < 2 ^ 31) : (0 : Int64) < jN a ↔ 0 < a := by
  rw [Int64.lt_iff_toInt_lt, jN_toInt ha]
  show (0 : Int) < _ ↔ _
  omega
def dg (v : Nat) : Nat := if v < 10 then 0 else if v < 100 then 1 else if v < 1000 then 2 else if v < 10000 then 3 else if v < 100000 then 4 else if v < 1000000 then 5 else if v < 10000000 then 6 else if v < 100000000 then 7 else 8
theorem dg_sp {v : Nat} (h1 : 1 ≤ v) (h : v ≤ 100000000) : dg v ≤ 8 ∧ 10 ^ dg v ≤ v ∧ v < 10 ^ (dg v + 1) := by
  unfold dg
  repeat' split
  all_goals (refine ⟨by omega, ?_, ?_⟩ <;> (simp only [Nat.reducePow, Nat.reduceAdd]; omega))
theorem dg_lt {v t : Nat} (h1 : 1 ≤ v) (h : v ≤ 100000000) (ht : t < dg v) : 9 < v / 10 ^ t ∧ 10 ^ t ≤ 10000000 := by
  obtain ⟨a, b, _⟩ := dg_sp h1 h
  have h2 : 10 ^ (t + 1) ≤ 10 ^ dg v := Nat.pow_le_pow_right (by decide) ht
  have h3 : 10 ^ t ≤ 10 ^ 7 := Nat.pow_le_pow_right (by decide) (by omega)
  have h4 : 10 * 10 ^ t ≤ v := by rw [Nat.pow_succ] at h2; omega
  exact ⟨(Nat.le_div_iff_mul_le (Nat.pow_pos (by decide))).mpr h4, h3⟩
theorem dg_end {v : Nat} (h1 : 1 ≤ v) (h : v ≤ 100000000) : v / 10 ^ dg v ≤ 9 ∧ 10 ^ dg v ≤ 100000000 := by
  obtain ⟨a, b, c⟩ := dg_sp h1 h
  refine ⟨?_, Nat.le_trans b h⟩
  have : v / 10 ^ dg v < 10 := (Nat.div_lt_iff_lt_mul (Nat.pow_pos (by decide))).mpr (by rw [Nat.pow_succ] at c; omega)
  omega
theorem un_pow : ∀ {s : Nat}, s < 9 → un s = 10 ^ (8 - s) := by
  intro s hs
  have : ∀ s : Nat, s < 9 → un s = 10 ^ (8 - s) := by decide +kernel
  exact this s hs
theorem un_dg {v : Nat} (h1 : 1 ≤ v) (h : v ≤ 100000000) : jN (10 ^ dg v) = jN (un (8 - dg v)) := by
  obtain ⟨a, _, _⟩ := dg_sp h1 h
  rw [un_pow (by omega), show 8 - (8 - dg v) = dg v by omega]
theorem wn_skip {v : Nat} {b : BV} : ∀ {s : Nat}, (∀ k, k < s → v < un k) → it (wnF v) s b = b
  | 0, _ => rfl
  | s + 1, h => by
    rw [it_succ, wn_skip (fun k hk => h k (by omega))]
    exact if_neg (Nat.not_le.mpr (h s (by omega)))
theorem wn_0 {v : Nat} {b : BV} (h1 : 1 ≤ v) (h : v ≤ 100000000) : it (wnF v) (8 - dg v) b = b := by
  obtain ⟨a, _, c⟩ := dg_sp h1 h
  refine wn_skip fun k hk => ?_
  rw [un_pow (by omega)]
  exact Nat.lt_of_lt_of_le c (Nat.pow_le_pow_right (by decide) (by omega))
theorem wn_in {v t : Nat} (h1 : 1 ≤ v) (h : v ≤ 100000000) (ht : t < dg v + 1) : un (8 - dg v + t) ≤ v ∧ 0 < un (8 - dg v + t) := by
  obtain ⟨a, b, _⟩ := dg_sp h1 h
  refine ⟨?_, un_pos (by omega)⟩
  rw [un_pow (by omega)]
  exact Nat.le_trans (Nat.pow_le_pow_right (by decide) (by omega)) b
theorem wn_s {v s : Nat} {b : BV} (h : un s ≤ v) : it (wnF v) (s + 1) b = wput (48 + v / un s % 10) (it (wnF v) s b) := if_pos h
theorem wn_end {v : Nat} (h1 : 1 ≤ v) (h : v ≤ 100000000) : 8 - dg v + (dg v + 1) = 9 := by
  obtain ⟨a, _, _⟩ := dg_sp h1 h
  omega
theorem t64_0 {x : Int32} : x.toInt64 = 0 ↔ x = 0 := by
  constructor
  · intro e
    have := congrArg Int64.toInt e
    rw [Int32.toInt_toInt64] at this
    exact Int32.toInt.inj this
  · intro e; subst e; rfl
theorem t64_ge {x : Int32} : 0 ≤ x.toInt64 ↔ 0 ≤ x := by
  rw [Int64.le_iff_toInt_le, Int32.toInt_toInt64, Int32.le_iff_toInt_le]
  exact Iff.rfl
theorem abL_nat {x : Int32} (h : rgI x) : abL x.toInt64 = jN x.toInt.natAbs := by
  obtain ⟨h1, h2⟩ := h
  apply jN_of (by omega)
  unfold abL
  by_cases q : 0 ≤ x.toInt64
  · rw [if_pos q, Int32.toInt_toInt64]
    have := Int64.le_iff_toInt_le.mp q
    rw [Int32.toInt_toInt64] at this
    have h3 : (0 : Int) ≤ x.toInt := this
    omega
  · rw [if_neg q, Int64.toInt_neg, Int32.toInt_toInt64]
    have h3 : x.toInt64.toInt < (0 : Int64).toInt := Int64.lt_iff_toInt_lt.mp (Int64.not_le.mp q)
    rw [Int32.toInt_toInt64] at h3
    have h4 : x.toInt < (0 : Int) := h3
    rw [bm64 (by omega) (by omega)]
    omega
theorem bt_n {w : Nat} {y : Int32} (hw : w < 2 ^ 31) (hb : btw y.toInt64 0 (nI w - nI 1).toInt64 = true) : ∃ k : Nat, y = nI k ∧ k < w := by
  by_cases h0 : w = 0
  · subst h0
    unfold btw at hb
    rw [Bool.and_eq_true] at hb
    have h1 := Int64.le_iff_toInt_le.mp (of_decide_eq_true hb.1)
    have h2 := Int64.le_iff_toInt_le.mp (of_decide_eq_true hb.2)
    have h3 : ((nI 0 - nI 1 : Int32)).toInt64.toInt = -1 := by decide +kernel
    rw [h3] at h2
    have h4 : (0 : Int) ≤ y.toInt64.toInt := h1
    omega
  · rw [show nI w - nI 1 = nI (w - 1) from pk_sub (by omega)] at hb
    rw [btw_hix (n := w) (by omega) (n1_toInt (by omega) (by omega))] at hb
    exact hix_nat hb (by omega)
def qOut (z : MZ) (x : Int32) : Int32 := bif btw x.toInt64 0 (nI z.2.2.2.2.2.2.2.1 - nI 1).toInt64 then z.2.2.2.2.2.2.2.2.2.2.2.2.2.2.2.2.2.2.2.2.2.2.2.2.2.2.1 (iN x) else -7
def qFmt (z : MZ) (rg : Nat → Nat → Int32) (x : Int32) : Int32 × MZ := bif hix 6 x then (nI (wser (rg (iN x)) z.1 z.2.2.2.2.2.2.2.2.2.2.2.2.2.2.2.2.2.2.2.2.2.2.2.2.2.2.1).1, s_wr2 z (wser (rg (iN x)) z.1 z.2.2.2.2.2.2.2.2.2.2.2.2.2.2.2.2.2.2.2.2.2.2.2.2.2.2.1).2 (wser (rg (iN x)) z.1 z.2.2.2.2.2.2.2.2.2.2.2.2.2.2.2.2.2.2.2.2.2.2.2.2.2.2.1).1) else (-2, z)
set_option maxHeartbeats 4000000 in
set_option maxRecDepth 100000 in
theorem c_X8_write2 {S : ST} {E : ET} {g : Nat → va_E} {z : MZ} {b : BV} (ho : Ce E g 286 (.inr (8, [.int (nI z.1), .int (nI z.2.1), .int z.2.2.1, .int (nI z.2.2.2.1), .ref (E.1 287), .ref (E.1 288), .ref (E.1 289), .ref (E.1 290), .ref (E.1 291), .ref (E.1 292), .ref (E.1 293), .ref (E.1 294), .ref (E.1 295), .ref (E.1 296), .ref (E.1 297), .ref (E.1 298), .int (nI z.2.2.2.2.1), .ref (E.1 299), .ref (E.1 300), .ref (E.1 301), .ref (E.1 302), .int (nI z.2.2.2.2.2.1), .int (nI z.2.2.2.2.2.2.1), .int (nI b.1), .ref (E.1 303), .ref (E.1 304), .ref (E.1 305), .ref (E.1 306), .ref (E.1 307), .int (nI z.2.2.2.2.2.2.2.2.1), .int (b2i z.2.2.2.2.2.2.2.2.2.1), .int (b2i z.2.2.2.2.2.2.2.2.2.2.1)]))) (hf : Ce E g 302 (xI S 400 b.2)) (c : Nat) (hw : b.1 < 400) : CtV S E yX8_write cX8_write 2 none rmX8_write [.ref (E.1 286), .int (nI c)] g (fun g' => g' = va_up (va_up g 302 (xI S 400 (wput c b).2)) 286 (.inr (8, [.int (nI z.1), .int (nI z.2.1), .int z.2.2.1, .int (nI z.2.2.2.1), .ref (E.1 287), .ref (E.1 288), .ref (E.1 289), .ref (E.1 290), .ref (E.1 291), .ref (E.1 292), .ref (E.1 293), .ref (E.1 294), .ref (E.1 295), .ref (E.1 296), .ref (E.1 297), .ref (E.1 298), .int (nI z.2.2.2.2.1), .ref (E.1 299), .ref (E.1 300), .ref (E.1 301), .ref (E.1 302), .int (nI z.2.2.2.2.2.1), .int (nI z.2.2.2.2.2.2.1), .int (nI ((wput c b).1)), .ref (E.1 303), .ref (E.1 304), .ref (E.1 305), .ref (E.1 306), .ref (E.1 307), .int (nI z.2.2.2.2.2.2.2.2.1), .int (b2i z.2.2.2.2.2.2.2.2.2.1), .int (b2i z.2.2.2.2.2.2.2.2.2.2.1)]))) := by
  refine Ct.of RX8 (by decide +kernel) rfl (Nat.le_of_ble_eq_true rfl) (fun M C Z => ?_)
  refine G.eq (pc' := 0) (vs' := [some (.ref (E.1 286)), some (.int (nI c))]) (st' := []) ?_
  refine r_aload_n (pc := 0) C dX8_write_0 rfl ?_
  refine r_getf (pc := 1) C dX8_write_1 fl_RX8_68 ho rfl ?_
  refine r_aload_n (pc := 4) C dX8_write_4 rfl ?_
  refine r_getf (pc := 5) C dX8_write_5 fl_RX8_274 ho rfl ?_
  refine r_iload_n (pc := 8) C dX8_write_8 rfl ?_
  refine r_iast (pc := 9) C dX8_write_9 hf rfl (by omega) (by omega) ?_
  refine r_aload_n (pc := 10) C dX8_write_10 rfl ?_
  refine r_dup (pc := 11) C dX8_write_11 rfl ?_
  refine r_getf (pc := 12) C dX8_write_12 fl_RX8_274 (Ce.up ho (by decide)) rfl ?_
  refine r_iconst (pc := 15) (v := nI 1) C dX8_write_15 (by decide +kernel) ?_
  refine r_iadd (pc := 16) C dX8_write_16 ?_
  refine r_ti (nI (b.1 + 1)) (nI_add _ _) ?_
  refine r_putf (pc := 17) C dX8_write_17 fp_RX8_274 (Ce.up ho (by decide)) rfl rfl (Nat.le_of_ble_eq_true rfl) ?_
  exact r_vret (pc := 20) C Z dX8_write_20 rfl
set_option maxHeartbeats 4000000 in
set_option maxRecDepth 100000 in
theorem c_X8_writeNumber {S : ST} {E : ET} {g : Nat → va_E} {z : MZ} {b : BV} (ho : Ce E g 286 (.inr (8, [.int (nI z.1), .int (nI z.2.1), .int z.2.2.1, .int (nI z.2.2.2.1), .ref (E.1 287), .ref (E.1 288), .ref (E.1 289), .ref (E.1 290), .ref (E.1 291), .ref (E.1 292), .ref (E.1 293), .ref (E.1 294), .ref (E.1 295), .ref (E.1 296), .ref (E.1 297), .ref (E.1 298), .int (nI z.2.2.2.2.1), .ref (E.1 299), .ref (E.1 300), .ref (E.1 301), .ref (E.1 302), .int (nI z.2.2.2.2.2.1), .int (nI z.2.2.2.2.2.2.1), .int (nI b.1), .ref (E.1 303), .ref (E.1 304), .ref (E.1 305), .ref (E.1 306), .ref (E.1 307), .int (nI z.2.2.2.2.2.2.2.2.1), .int (b2i z.2.2.2.2.2.2.2.2.2.1), .int (b2i z.2.2.2.2.2.2.2.2.2.2.1)]))) (hf : Ce E g 302 (xI S 400 b.2)) (v : Nat) (hv1 : 1 ≤ v) (hv : v ≤ 100000000) (hb : b.1 + 9 ≤ 400) : CtV S E yX8_writeNumber cX8_writeNumber 7 none rmX8_writeNumber [.ref (E.1 286), .long (jN v)] g (fun g' => g' = va_up (va_up g 302 (xI S 400 (wnum v b).2)) 286 (.inr (8, [.int (nI z.1), .int (nI z.2.1), .int z.2.2.1, .int (nI z.2.2.2.1), .ref (E.1 287), .ref (E.1 288), .ref (E.1 289), .ref (E.1 290), .ref (E.1 291), .ref (E.1 292), .ref (E.1 293), .ref (E.1 294), .ref (E.1 295), .ref (E.1 296), .ref (E.1 297), .ref (E.1 298), .int (nI z.2.2.2.2.1), .ref (E.1 299), .ref (E.1 300), .ref (E.1 301), .ref (E.1 302), .int (nI z.2.2.2.2.2.1), .int (nI z.2.2.2.2.2.2.1), .int (nI ((wnum v b).1)), .ref (E.1 303), .ref (E.1 304), .ref (E.1 305), .ref (E.1 306), .ref (E.1 307), .int (nI z.2.2.2.2.2.2.2.2.1), .int (b2i z.2.2.2.2.2.2.2.2.2.1), .int (b2i z.2.2.2.2.2.2.2.2.2.2.1)]))) := by
  refine Ct.of RX8 (by decide +kernel) rfl (Nat.le_of_ble_eq_true rfl) (fun M C Z => ?_)
  refine G.eq (pc' := 0) (vs' := [some (.ref (E.1 286)), some (.long (jN v)), none, none, none, none, none]) (st' := []) ?_
  have hsp := dg_sp hv1 hv
  refine r_lconst (pc := 0) (v := 1) C dX8_writeNumber_0 rfl ?_
  refine r_lstore_n (pc := 1) C dX8_writeNumber_1 (by decide) ?_
  refine G.eq (pc' := 2) (vs' := [some (.ref (E.1 286)), some (.long (jN v)), none, some (.long 1), none, none, none]) (st' := []) ?_
  refine bk (P := fun t => G M S E (0, 0) g 2 [some (.ref (E.1 286)), some (.long (jN v)), none, some (.long (jN (10 ^ t))), none, none, none] []) (T := dg v) ?_ (fun t ht ih => ?_)
  · show G M S E (0, 0) g 2 [some (.ref (E.1 286)), some (.long (jN v)), none, some (.long (jN (10 ^ (dg v)))), none, none, none] []
    have hq := dg_end hv1 hv
    refine r_lload_n (pc := 2) C dX8_writeNumber_2 rfl ?_
    refine r_lload_n (pc := 3) C dX8_writeNumber_3 rfl ?_
    refine r_ldiv (pc := 4) C dX8_writeNumber_4 (jN_ne0 (Nat.pow_pos (by decide)) (by omega)) ?_
    refine r_tl (jN (v / 10 ^ (dg v))) (jN_div (by omega) (by omega)) ?_
    refine r_ldc2 (pc := 5) C dX8_writeNumber_5 qK_RX8_127 ?_
    refine r_lcmp (pc := 8) C dX8_writeNumber_8 ?_
    refine r_if_le (pc := 9) (tgt := 21) C dX8_writeNumber_9 (by decide) (fun h9 => ?_) (fun h9 => ?_)
    · have h9 := k_le h9
      rw [un_dg hv1 hv]
      show G M S E (0, 0) g 21 [some (.ref (E.1 286)), some (.long (jN v)), none, some (.long (jN (un (8 - dg v)))), none, none, none] []
      refine r_lload_n (pc := 21) C dX8_writeNumber_21 rfl ?_
      refine r_lstore (pc := 22) C dX8_writeNumber_22 (by decide) ?_
      refine G.eq (pc' := 24) (vs' := [some (.ref (E.1 286)), some (.long (jN v)), none, some (.long (jN (un (8 - dg v)))), none, some (.long (jN (un (8 - dg v)))), none]) (st' := []) ?_
      refine G.heap (Ce.id ho) ?_
      refine G.heap (Ce.id (Ce.up hf (by decide))) ?_
      refine G.heap (show (va_up (va_up g 286 (.inr (8, [.int (nI z.1), .int (nI z.2.1), .int z.2.2.1, .int (nI z.2.2.2.1), .ref (E.1 287), .ref (E.1 288), .ref (E.1 289), .ref (E.1 290), .ref (E.1 291), .ref (E.1 292), .ref (E.1 293), .ref (E.1 294), .ref (E.1 295), .ref (E.1 296), .ref (E.1 297), .ref (E.1 298), .int (nI z.2.2.2.2.1), .ref (E.1 299), .ref (E.1 300), .ref (E.1 301), .ref (E.1 302), .int (nI z.2.2.2.2.2.1), .int (nI z.2.2.2.2.2.2.1), .int (nI b.1), .ref (E.1 303), .ref (E.1 304), .ref (E.1 305), .ref (E.1 306), .ref (E.1 307), .int (nI z.2.2.2.2.2.2.2.2.1), .int (b2i z.2.2.2.2.2.2.2.2.2.1), .int (b2i z.2.2.2.2.2.2.2.2.2.2.1)]))) 302 (xI S 400 b.2)) = (va_up (va_up g 286 (.inr (8, [.int (nI z.1), .int (nI z.2.1), .int z.2.2.1, .int (nI z.2.2.2.1), .ref (E.1 287), .ref (E.1 288), .ref (E.1 289), .ref (E.1 290), .ref (E.1 291), .ref (E.1 292), .ref (E.1 293), .ref (E.1 294), .ref (E.1 295), .ref (E.1 296), .ref (E.1 297), .ref (E.1 298), .int (nI z.2.2.2.2.1), .ref (E.1 299), .ref (E.1 300), .ref (E.1 301), .ref (E.1 302), .int (nI z.2.2.2.2.2.1), .int (nI z.2.2.2.2.2.2.1), .int (nI ((it (wnF v) (8 - dg v) b).1)), .ref (E.1 303), .ref (E.1 304), .ref (E.1 305), .ref (E.1 306), .ref (E.1 307), .int (nI z.2.2.2.2.2.2.2.2.1), .int (b2i z.2.2.2.2.2.2.2.2.2.1), .int (b2i z.2.2.2.2.2.2.2.2.2.2.1)]))) 302 (xI S 400 ((it (wnF v) (8 - dg v) b).2))) from by rw [wn_0 hv1 hv]) ?_
      refine bk (P := fun t2 => G M S E (0, 0) (va_up (va_up g 286 (.inr (8, [.int (nI z.1), .int (nI z.2.1), .int z.2.2.1, .int (nI z.2.2.2.1), .ref (E.1 287), .ref (E.1 288), .ref (E.1 289), .ref (E.1 290), .ref (E.1 291), .ref (E.1 292), .ref (E.1 293), .ref (E.1 294), .ref (E.1 295), .ref (E.1 296), .ref (E.1 297), .ref (E.1 298), .int (nI z.2.2.2.2.1), .ref (E.1 299), .ref (E.1 300), .ref (E.1 301), .ref (E.1 302), .int (nI z.2.2.2.2.2.1), .int (nI z.2.2.2.2.2.2.1), .int (nI ((it (wnF v) (8 - dg v + t2) b).1)), .ref (E.1 303), .ref (E.1 304), .ref (E.1 305), .ref (E.1 306), .ref (E.1 307), .int (nI z.2.2.2.2.2.2.2.2.1), .int (b2i z.2.2.2.2.2.2.2.2.2.1), .int (b2i z.2.2.2.2.2.2.2.2.2.2.1)]))) 302 (xI S 400 ((it (wnF v) (8 - dg v + t2) b).2))) 24 [some (.ref (E.1 286)), some (.long (jN v)), none, some (.long (jN (un (8 - dg v)))), none, some (.long (jN (un (8 - dg v + t2)))), none] []) (T := dg v + 1) ?_ (fun t2 ht ih => ?_)
      · show G M S E (0, 0) (va_up (va_up g 286 (.inr (8, [.int (nI z.1), .int (nI z.2.1), .int z.2.2.1, .int (nI z.2.2.2.1), .ref (E.1 287), .ref (E.1 288), .ref (E.1 289), .ref (E.1 290), .ref (E.1 291), .ref (E.1 292), .ref (E.1 293), .ref (E.1 294), .ref (E.1 295), .ref (E.1 296), .ref (E.1 297), .ref (E.1 298), .int (nI z.2.2.2.2.1), .ref (E.1 299), .ref (E.1 300), .ref (E.1 301), .ref (E.1 302), .int (nI z.2.2.2.2.2.1), .int (nI z.2.2.2.2.2.2.1), .int (nI ((it (wnF v) (8 - dg v + (dg v + 1)) b).1)), .ref (E.1 303), .ref (E.1 304), .ref (E.1 305), .ref (E.1 306), .ref (E.1 307), .int (nI z.2.2.2.2.2.2.2.2.1), .int (b2i z.2.2.2.2.2.2.2.2.2.1), .int (b2i z.2.2.2.2.2.2.2.2.2.2.1)]))) 302 (xI S 400 ((it (wnF v) (8 - dg v + (dg v + 1)) b).2))) 24 [some (.ref (E.1 286)), some (.long (jN v)), none, some (.long (jN (un (8 - dg v)))), none, some (.long (jN (un (8 - dg v + (dg v + 1))))), none] []
        have he9 := wn_end hv1 hv
        refine r_lload (pc := 24) C dX8_writeNumber_24 rfl ?_
        refine r_lconst (pc := 26) (v := 0) C dX8_writeNumber_26 rfl ?_
        refine r_lcmp (pc := 27) C dX8_writeNumber_27 ?_
        refine r_if_le (pc := 28) (tgt := 59) C dX8_writeNumber_28 (by decide) (fun h28 => ?_) (fun h28 => ?_)
        · have h28 := k_le h28
          exact r_vret (pc := 59) C Z dX8_writeNumber_59 (by unfold wnum; rw [he9]; exact up_comm (by decide))
        · have h28 := k_nle h28
          rw [he9, un_9] at h28; exact absurd h28 (by decide)
      · show G M S E (0, 0) (va_up (va_up g 286 (.inr (8, [.int (nI z.1), .int (nI z.2.1), .int z.2.2.1, .int (nI z.2.2.2.1), .ref (E.1 287), .ref (E.1 288), .ref (E.1 289), .ref (E.1 290), .ref (E.1 291), .ref (E.1 292), .ref (E.1 293), .ref (E.1 294), .ref (E.1 295), .ref (E.1 296), .ref (E.1 297), .ref (E.1 298), .int (nI z.2.2.2.2.1), .ref (E.1 299), .ref (E.1 300), .ref (E.1 301), .ref (E.1 302), .int (nI z.2.2.2.2.2.1), .int (nI z.2.2.2.2.2.2.1), .int (nI ((it (wnF v) (8 - dg v + t2) b).1)), .ref (E.1 303), .ref (E.1 304), .ref (E.1 305), .ref (E.1 306), .ref (E.1 307), .int (nI z.2.2.2.2.2.2.2.2.1), .int (b2i z.2.2.2.2.2.2.2.2.2.1), .int (b2i z.2.2.2.2.2.2.2.2.2.2.1)]))) 302 (xI S 400 ((it (wnF v) (8 - dg v + t2) b).2))) 24 [some (.ref (E.1 286)), some (.long (jN v)), none, some (.long (jN (un (8 - dg v)))), none, some (.long (jN (un (8 - dg v + t2)))), none] []
        have hin := wn_in hv1 hv ht
        have hul := un_le (8 - dg v + t2)
        refine r_lload (pc := 24) C dX8_writeNumber_24 rfl ?_
        refine r_lconst (pc := 26) (v := 0) C dX8_writeNumber_26 rfl ?_
        refine r_lcmp (pc := 27) C dX8_writeNumber_27 ?_
        refine r_if_le (pc := 28) (tgt := 59) C dX8_writeNumber_28 (by decide) (fun h28 => ?_) (fun h28 => ?_)
        · have h28 := k_le h28
          exact absurd ((jN_lt0 (by omega)).mpr hin.2) h28
        · have h28 := k_nle h28
          refine r_aload_n (pc := 31) C dX8_writeNumber_31 rfl ?_
          refine r_ldc2 (pc := 32) C dX8_writeNumber_32 qK_RX8_258 ?_
          refine r_lload_n (pc := 35) C dX8_writeNumber_35 rfl ?_
          refine r_lload (pc := 36) C dX8_writeNumber_36 rfl ?_
          refine r_ldiv (pc := 38) C dX8_writeNumber_38 (jN_ne0 hin.2 (by omega)) ?_
          refine r_tl (jN (v / un (8 - dg v + t2))) (jN_div (by omega) (by omega)) ?_
          have hdv : v / un (8 - dg v + t2) ≤ v := Nat.div_le_self _ _
          have hmd : v / un (8 - dg v + t2) % 10 < 10 := Nat.mod_lt _ (by decide)
          refine r_ldc2 (pc := 39) C dX8_writeNumber_39 qK_RX8_277 ?_
          refine r_lrem (pc := 42) C dX8_writeNumber_42 (by decide +kernel) ?_
          refine r_tl (jN (v / un (8 - dg v + t2) % 10)) (jN_mod (b := 10) (by omega) (by decide)) ?_
          refine r_ladd (pc := 43) C dX8_writeNumber_43 ?_
          refine r_tl (jN (48 + v / un (8 - dg v + t2) % 10)) (jN_add (a := 48) (by decide) (by omega)) ?_
          refine r_l2i (pc := 44) C dX8_writeNumber_44 ?_
          refine r_ti (nI (48 + v / un (8 - dg v + t2) % 10)) (Int32.toInt32_toInt64 _) ?_
          have hln := wnI_len v b (8 - dg v + t2)
          refine r_callV (pc := 45) C dX8_writeNumber_45 cv_RX8_279 (c_X8_write2 (b := it (wnF v) (8 - dg v + t2) b) (Ce.up (Ce.new ho) (by decide)) (Ce.new (Ce.up hf (by decide))) (48 + v / un (8 - dg v + t2) % 10) (by omega)) ⟨rfl, rfl, by decide, by decide⟩ (Ce.up (Ce.new ho) (by decide)) rfl rfl (Nat.le_of_ble_eq_true rfl) ⟨Nat.zero_le _, Nat.zero_le _⟩ ?_
          rintro _ _ ⟨rfl, rfl⟩
          show G M S E (0, 0) (va_up (va_up (va_up (va_up g 286 (.inr (8, [.int (nI z.1), .int (nI z.2.1), .int z.2.2.1, .int (nI z.2.2.2.1), .ref (E.1 287), .ref (E.1 288), .ref (E.1 289), .ref (E.1 290), .ref (E.1 291), .ref (E.1 292), .ref (E.1 293), .ref (E.1 294), .ref (E.1 295), .ref (E.1 296), .ref (E.1 297), .ref (E.1 298), .int (nI z.2.2.2.2.1), .ref (E.1 299), .ref (E.1 300), .ref (E.1 301), .ref (E.1 302), .int (nI z.2.2.2.2.2.1), .int (nI z.2.2.2.2.2.2.1), .int (nI ((it (wnF v) (8 - dg v + t2) b).1)), .ref (E.1 303), .ref (E.1 304), .ref (E.1 305), .ref (E.1 306), .ref (E.1 307), .int (nI z.2.2.2.2.2.2.2.2.1), .int (b2i z.2.2.2.2.2.2.2.2.2.1), .int (b2i z.2.2.2.2.2.2.2.2.2.2.1)]))) 302 (xI S 400 ((it (wnF v) (8 - dg v + t2) b).2))) 302 (xI S 400 ((wput (48 + v / un (8 - dg v + t2) % 10) (it (wnF v) (8 - dg v + t2) b)).2))) 286 (.inr (8, [.int (nI z.1), .int (nI z.2.1), .int z.2.2.1, .int (nI z.2.2.2.1), .ref (E.1 287), .ref (E.1 288), .ref (E.1 289), .ref (E.1 290), .ref (E.1 291), .ref (E.1 292), .ref (E.1 293), .ref (E.1 294), .ref (E.1 295), .ref (E.1 296), .ref (E.1 297), .ref (E.1 298), .int (nI z.2.2.2.2.1), .ref (E.1 299), .ref (E.1 300), .ref (E.1 301), .ref (E.1 302), .int (nI z.2.2.2.2.2.1), .int (nI z.2.2.2.2.2.2.1), .int (nI ((wput (48 + v / un (8 - dg v + t2) % 10) (it (wnF v) (8 - dg v + t2) b)).1)), .ref (E.1 303), .ref (E.1 304), .ref (E.1 305), .ref (E.1 306), .ref (E.1 307), .int (nI z.2.2.2.2.2.2.2.2.1), .int (b2i z.2.2.2.2.2.2.2.2.2.1), .int (b2i z.2.2.2.2.2.2.2.2.2.2.1)]))) 48 [some (.ref (E.1 286)), some (.long (jN v)), none, some (.long (jN (un (8 - dg v)))), none, some (.long (jN (un (8 - dg v + t2)))), none] []
          refine G.heap (show (va_up (va_up (va_up (va_up g 286 (.inr (8, [.int (nI z.1), .int (nI z.2.1), .int z.2.2.1, .int (nI z.2.2.2.1), .ref (E.1 287), .ref (E.1 288), .ref (E.1 289), .ref (E.1 290), .ref (E.1 291), .ref (E.1 292), .ref (E.1 293), .ref (E.1 294), .ref (E.1 295), .ref (E.1 296), .ref (E.1 297), .ref (E.1 298), .int (nI z.2.2.2.2.1), .ref (E.1 299), .ref (E.1 300), .ref (E.1 301), .ref (E.1 302), .int (nI z.2.2.2.2.2.1), .int (nI z.2.2.2.2.2.2.1), .int (nI ((it (wnF v) (8 - dg v + t2) b).1)), .ref (E.1 303), .ref (E.1 304), .ref (E.1 305), .ref (E.1 306), .ref (E.1 307), .int (nI z.2.2.2.2.2.2.2.2.1), .int (b2i z.2.2.2.2.2.2.2.2.2.1), .int (b2i z.2.2.2.2.2.2.2.2.2.2.1)]))) 302 (xI S 400 ((it (wnF v) (8 - dg v + t2) b).2))) 302 (xI S 400 ((wput (48 + v / un (8 - dg v + t2) % 10) (it (wnF v) (8 - dg v + t2) b)).2))) 286 (.inr (8, [.int (nI z.1), .int (nI z.2.1), .int z.2.2.1, .int (nI z.2.2.2.1), .ref (E.1 287), .ref (E.1 288), .ref (E.1 289), .ref (E.1 290), .ref (E.1 291), .ref (E.1 292), .ref (E.1 293), .ref (E.1 294), .ref (E.1 295), .ref (E.1 296), .ref (E.1 297), .ref (E.1 298), .int (nI z.2.2.2.2.1), .ref (E.1 299), .ref (E.1 300), .ref (E.1 301), .ref (E.1 302), .int (nI z.2.2.2.2.2.1), .int (nI z.2.2.2.2.2.2.1), .int (nI ((wput (48 + v / un (8 - dg v + t2) % 10) (it (wnF v) (8 - dg v + t2) b)).1)), .ref (E.1 303), .ref (E.1 304), .ref (E.1 305), .ref (E.1 306), .ref (E.1 307), .int (nI z.2.2.2.2.2.2.2.2.1), .int (b2i z.2.2.2.2.2.2.2.2.2.1), .int (b2i z.2.2.2.2.2.2.2.2.2.2.1)]))) = (va_up (va_up g 286 (.inr (8, [.int (nI z.1), .int (nI z.2.1), .int z.2.2.1, .int (nI z.2.2.2.1), .ref (E.1 287), .ref (E.1 288), .ref (E.1 289), .ref (E.1 290), .ref (E.1 291), .ref (E.1 292), .ref (E.1 293), .ref (E.1 294), .ref (E.1 295), .ref (E.1 296), .ref (E.1 297), .ref (E.1 298), .int (nI z.2.2.2.2.1), .ref (E.1 299), .ref (E.1 300), .ref (E.1 301), .ref (E.1 302), .int (nI z.2.2.2.2.2.1), .int (nI z.2.2.2.2.2.2.1), .int (nI ((wput (48 + v / un (8 - dg v + t2) % 10) (it (wnF v) (8 - dg v + t2) b)).1)), .ref (E.1 303), .ref (E.1 304), .ref (E.1 305), .ref (E.1 306), .ref (E.1 307), .int (nI z.2.2.2.2.2.2.2.2.1), .int (b2i z.2.2.2.2.2.2.2.2.2.1), .int (b2i z.2.2.2.2.2.2.2.2.2.2.1)]))) 302 (xI S 400 ((wput (48 + v / un (8 - dg v + t2) % 10) (it (wnF v) (8 - dg v + t2) b)).2))) from by funext q; simp only [va_up]; (repeat' split) <;> first | rfl | omega) ?_
          refine r_lload (pc := 48) C dX8_writeNumber_48 rfl ?_
          refine r_ldc2 (pc := 50) C dX8_writeNumber_50 qK_RX8_277 ?_
          refine r_ldiv (pc := 53) C dX8_writeNumber_53 (by decide +kernel) ?_
          refine r_tl (jN (un (8 - dg v + (t2 + 1)))) ((jN_div (b := 10) (by omega) (by decide)).trans (congrArg jN (un_s _))) ?_
          refine r_lstore (pc := 54) C dX8_writeNumber_54 (by decide) ?_
          refine G.eq (pc' := 56) (vs' := [some (.ref (E.1 286)), some (.long (jN v)), none, some (.long (jN (un (8 - dg v)))), none, some (.long (jN (un (8 - dg v + (t2 + 1))))), none]) (st' := []) ?_
          refine r_goto (pc := 56) (tgt := 24) C dX8_writeNumber_56 (by decide) ?_
          have e3 : it (wnF v) (8 - dg v + (t2 + 1)) b = wput (48 + v / un (8 - dg v + t2) % 10) (it (wnF v) (8 - dg v + t2) b) := wn_s hin.1
          rw [e3] at ih
          exact ih
    · have h9 := k_nle h9
      have := (jN_lt9 (by omega)).mp h9; omega
  · show G M S E (0, 0) g 2 [some (.ref (E.1 286)), some (.long (jN v)), none, some (.long (jN (10 ^ t))), none, none, none] []
    have hq := dg_lt hv1 hv ht
    have hdv : v / 10 ^ t ≤ v := Nat.div_le_self _ _
    refine r_lload_n (pc := 2) C dX8_writeNumber_2 rfl ?_
    refine r_lload_n (pc := 3) C dX8_writeNumber_3 rfl ?_
    refine r_ldiv (pc := 4) C dX8_writeNumber_4 (jN_ne0 (Nat.pow_pos (by decide)) (by omega)) ?_
    refine r_tl (jN (v / 10 ^ t)) (jN_div (by omega) (by omega)) ?_
    refine r_ldc2 (pc := 5) C dX8_writeNumber_5 qK_RX8_127 ?_
    refine r_lcmp (pc := 8) C dX8_writeNumber_8 ?_
    refine r_if_le (pc := 9) (tgt := 21) C dX8_writeNumber_9 (by decide) (fun h9 => ?_) (fun h9 => ?_)
    · have h9 := k_le h9
      exact absurd ((jN_lt9 (by omega)).mpr hq.1) h9
    · have h9 := k_nle h9
      refine r_lload_n (pc := 12) C dX8_writeNumber_12 rfl ?_
      refine r_ldc2 (pc := 13) C dX8_writeNumber_13 qK_RX8_277 ?_
      refine r_lmul (pc := 16) C dX8_writeNumber_16 ?_
      refine r_tl (jN (10 ^ (t + 1))) (jN_mul (b := 10) (by omega) (by decide) (by omega)) ?_
      refine r_lstore_n (pc := 17) C dX8_writeNumber_17 (by decide) ?_
      refine G.eq (pc' := 18) (vs' := [some (.ref (E.1 286)), some (.long (jN v)), none, some (.long (jN (10 ^ (t + 1)))), none, none, none]) (st' := []) ?_
      refine r_goto (pc := 18) (tgt := 2) C dX8_writeNumber_18 (by decide) ?_
      exact ih
set_option maxHeartbeats 4000000 in
set_option maxRecDepth 100000 in
theorem c_X8_outputByte {S : ST} {E : ET} {g : Nat → va_E} {z : MZ} (hM : MC S E g z) (hw : z.2.2.2.2.2.2.2.1 ≤ 400) (x : Int32) : CtI S E yX8_outputByte cX8_outputByte 2 (Option.some FieldType.int) rmX8_outputByte [.ref (E.1 286), .int x] g (fun u g' => u = qOut z x ∧ g = g') := by
  refine Ct.of RX8 (by decide +kernel) rfl (Nat.le_of_ble_eq_true rfl) (fun M C Z => ?_)
  refine G.eq (pc' := 0) (vs' := [some (.ref (E.1 286)), some (.int x)]) (st' := []) ?_
  refine r_iload_n (pc := 0) C dX8_outputByte_0 rfl ?_
  refine r_i2l (pc := 1) C dX8_outputByte_1 ?_
  refine r_lconst (pc := 2) (v := 0) C dX8_outputByte_2 rfl ?_
  refine r_aload_n (pc := 3) C dX8_outputByte_3 rfl ?_
  refine r_getf (pc := 4) C dX8_outputByte_4 fl_RX8_274 hM.1 rfl ?_
  refine r_iconst (pc := 7) (v := nI 1) C dX8_outputByte_7 (by decide +kernel) ?_
  refine r_isub (pc := 8) C dX8_outputByte_8 ?_
  refine r_i2l (pc := 9) C dX8_outputByte_9 ?_
  refine r_callS (pc := 10) C dX8_outputByte_10 cs_RX8_7 (c_X8_isBetween x.toInt64 0 ((nI z.2.2.2.2.2.2.2.1 - nI 1).toInt64)) ⟨rfl, rfl, by decide, by decide⟩ rfl rfl (Nat.le_of_ble_eq_true rfl) ⟨Nat.zero_le _, Nat.zero_le _⟩ ?_
  rintro _ _ ⟨_, rfl, rfl, rfl⟩
  show G M S E (0, 0) g 13 [some (.ref (E.1 286)), some (.int x)] [.int (b2i (btw x.toInt64 0 ((nI z.2.2.2.2.2.2.2.1 - nI 1).toInt64)))]
  refine r_if_eq (pc := 13) (tgt := 25) C dX8_outputByte_13 (by decide) (fun h13 => ?_) (fun h13 => ?_)
  · have h13 := b_f h13
    refine r_bipush (pc := 25) (v := (-7)) C dX8_outputByte_25 (by decide +kernel) ?_
    exact r_iret (pc := 27) C Z dX8_outputByte_27 rfl (by rw [show qOut z x = -7 by simp only [qOut, h13, cond_true, cond_false, if_true, if_false, not_true_eq_false, not_false_eq_true, ↓reduceIte]]; exact ⟨rfl, rfl⟩)
  · have h13 := b_t h13
    obtain ⟨k, rfl, hk⟩ := bt_n (by omega) h13
    refine r_aload_n (pc := 16) C dX8_outputByte_16 rfl ?_
    refine r_getf (pc := 17) C dX8_outputByte_17 fl_RX8_68 hM.1 rfl ?_
    refine r_iload_n (pc := 20) C dX8_outputByte_20 rfl ?_
    refine r_iald (pc := 21) C dX8_outputByte_21 hM.2.2.2.2.2.2.2.2.2.2.2.2.2.2.2.2.1 rfl (by omega) (by omega) ?_
    refine r_goto (pc := 22) (tgt := 27) C dX8_outputByte_22 (by decide) ?_
    exact r_iret (pc := 27) C Z dX8_outputByte_27 rfl (by rw [show qOut z (nI k) = z.2.2.2.2.2.2.2.2.2.2.2.2.2.2.2.2.2.2.2.2.2.2.2.2.2.2.1 k by simp only [qOut, h13, iN_nI (show k < 2 ^ 31 by omega), cond_true, cond_false, if_true, if_false, not_true_eq_false, not_false_eq_true, ↓reduceIte]]; exact ⟨rfl, rfl⟩)
set_option maxHeartbeats 4000000 in
set_option maxRecDepth 100000 in
theorem c_X8_format {S : ST} {E : ET} {g : Nat → va_E} {z : MZ} (hM : MC S E g z) (h4 : 4 ≤ z.1) (hN : z.1 ≤ 24) {rg : Nat → Nat → Int32} (hA : ∀ t k : Nat, t < 6 → k < 24 → z.2.2.2.2.2.2.2.2.2.2.2.1 (24 * t + k) = (rg t k).toInt64 ∧ rgI (rg t k)) (x : Int32) : CtI S E yX8_format cX8_format 5 (Option.some FieldType.int) rmX8_format [.ref (E.1 286), .int x] g (fun u g' => u = (qFmt z rg x).1 ∧ MC S E g' (qFmt z rg x).2 ∧ Fr g g' 286 308) := by
  refine Ct.of RX8 (by decide +kernel) rfl (Nat.le_of_ble_eq_true rfl) (fun M C Z => ?_)
  refine G.eq (pc' := 0) (vs' := [some (.ref (E.1 286)), some (.int x), none, none, none]) (st' := []) ?_
  refine r_iload_n (pc := 0) C dX8_format_0 rfl ?_
  refine r_callS (pc := 1) C dX8_format_1 cs_RX8_112 (c_X8_isRegister x) ⟨rfl, rfl, by decide, by decide⟩ rfl rfl (Nat.le_of_ble_eq_true rfl) ⟨Nat.zero_le _, Nat.zero_le _⟩ ?_
  rintro _ _ ⟨_, rfl, rfl, rfl⟩
  show G M S E (0, 0) g 4 [some (.ref (E.1 286)), some (.int x), none, none, none] [.int (b2i (hix 6 x))]
  refine r_if_ne (pc := 4) (tgt := 10) C dX8_format_4 (by decide) (fun h4 => ?_) (fun h4 => ?_)
  · have h4 := b_t h4
    obtain ⟨t, rfl, ht⟩ := hix_nat h4 (by omega)
    refine r_aload_n (pc := 10) C dX8_format_10 rfl ?_
    refine r_iconst (pc := 11) (v := nI 0) C dX8_format_11 (by decide +kernel) ?_
    refine r_putf (pc := 12) C dX8_format_12 fp_RX8_274 hM.1 rfl rfl (Nat.le_of_ble_eq_true rfl) ?_
    refine r_iconst (pc := 15) (v := nI 0) C dX8_format_15 (by decide +kernel) ?_
    refine r_istore_n (pc := 16) C dX8_format_16 (by decide) ?_
    refine G.eq (pc' := 17) (vs' := [some (.ref (E.1 286)), some (.int (nI t)), some (.int (nI 0)), none, none]) (st' := []) ?_
    refine G.heap (Ce.id (Ce.up hM.2.2.2.2.2.2.2.2.2.2.2.2.2.2.2.2.1 (by decide))) ?_
    have ht0 := ht
    refine bk (P := fun t2 => G M S E (0, 0) (va_up (va_up g 286 (.inr (8, [.int (nI z.1), .int (nI z.2.1), .int z.2.2.1, .int (nI z.2.2.2.1), .ref (E.1 287), .ref (E.1 288), .ref (E.1 289), .ref (E.1 290), .ref (E.1 291), .ref (E.1 292), .ref (E.1 293), .ref (E.1 294), .ref (E.1 295), .ref (E.1 296), .ref (E.1 297), .ref (E.1 298), .int (nI z.2.2.2.2.1), .ref (E.1 299), .ref (E.1 300), .ref (E.1 301), .ref (E.1 302), .int (nI z.2.2.2.2.2.1), .int (nI z.2.2.2.2.2.2.1), .int (nI ((it (wsF (rg t)) t2 (0, z.2.2.2.2.2.2.2.2.2.2.2.2.2.2.2.2.2.2.2.2.2.2.2.2.2.2.1)).1)), .ref (E.1 303), .ref (E.1 304), .ref (E.1 305), .ref (E.1 306), .ref (E.1 307), .int (nI z.2.2.2.2.2.2.2.2.1), .int (b2i z.2.2.2.2.2.2.2.2.2.1), .int (b2i z.2.2.2.2.2.2.2.2.2.2.1)]))) 302 (xI S 400 ((it (wsF (rg t)) t2 (0, z.2.2.2.2.2.2.2.2.2.2.2.2.2.2.2.2.2.2.2.2.2.2.2.2.2.2.1)).2))) 17 [some (.ref (E.1 286)), some (.int (nI t)), some (.int (nI t2)), none, none] []) (T := z.1) ?_ (fun t2 ht ih => ?_)
    · show G M S E (0, 0) (va_up (va_up g 286 (.inr (8, [.int (nI z.1), .int (nI z.2.1), .int z.2.2.1, .int (nI z.2.2.2.1), .ref (E.1 287), .ref (E.1 288), .ref (E.1 289), .ref (E.1 290), .ref (E.1 291), .ref (E.1 292), .ref (E.1 293), .ref (E.1 294), .ref (E.1 295), .ref (E.1 296), .ref (E.1 297), .ref (E.1 298), .int (nI z.2.2.2.2.1), .ref (E.1 299), .ref (E.1 300), .ref (E.1 301), .ref (E.1 302), .int (nI z.2.2.2.2.2.1), .int (nI z.2.2.2.2.2.2.1), .int (nI ((it (wsF (rg t)) z.1 (0, z.2.2.2.2.2.2.2.2.2.2.2.2.2.2.2.2.2.2.2.2.2.2.2.2.2.2.1)).1)), .ref (E.1 303), .ref (E.1 304), .ref (E.1 305), .ref (E.1 306), .ref (E.1 307), .int (nI z.2.2.2.2.2.2.2.2.1), .int (b2i z.2.2.2.2.2.2.2.2.2.1), .int (b2i z.2.2.2.2.2.2.2.2.2.2.1)]))) 302 (xI S 400 ((it (wsF (rg t)) z.1 (0, z.2.2.2.2.2.2.2.2.2.2.2.2.2.2.2.2.2.2.2.2.2.2.2.2.2.2.1)).2))) 17 [some (.ref (E.1 286)), some (.int (nI t)), some (.int (nI z.1)), none, none] []
      refine r_iload_n (pc := 17) C dX8_format_17 rfl ?_
      refine r_aload_n (pc := 18) C dX8_format_18 rfl ?_
      refine r_getf (pc := 19) C dX8_format_19 fl_RX8_17 (Ce.up (Ce.new hM.1) (by decide)) rfl ?_
      refine r_icmp_ge (pc := 22) (tgt := 128) C dX8_format_22 (by decide) (fun h22 => ?_) (fun h22 => ?_)
      · have h22 := c_le (by omega) (by omega) h22
        have hln := wsI_len (rg t) z.2.2.2.2.2.2.2.2.2.2.2.2.2.2.2.2.2.2.2.2.2.2.2.2.2.2.1 z.1 hN
        refine r_aload_n (pc := 128) C dX8_format_128 rfl ?_
        refine r_getf (pc := 129) C dX8_format_129 fl_RX8_274 (Ce.up (Ce.new hM.1) (by decide)) rfl ?_
        refine r_if_ne (pc := 132) (tgt := 141) C dX8_format_132 (by decide) (fun h132 => ?_) (fun h132 => ?_)
        · have h132 := z_ne (by omega) h132
          refine r_aload_n (pc := 141) C dX8_format_141 rfl ?_
          refine r_getf (pc := 142) C dX8_format_142 fl_RX8_274 (Ce.up (Ce.new hM.1) (by decide)) rfl ?_
          have e7 : wser (rg t) z.1 z.2.2.2.2.2.2.2.2.2.2.2.2.2.2.2.2.2.2.2.2.2.2.2.2.2.2.1 = it (wsF (rg t)) z.1 (0, z.2.2.2.2.2.2.2.2.2.2.2.2.2.2.2.2.2.2.2.2.2.2.2.2.2.2.1) := if_neg h132
          exact r_iret (pc := 145) C Z dX8_format_145 rfl (by rw [show qFmt z rg (nI t) = (nI (wser (rg t) z.1 z.2.2.2.2.2.2.2.2.2.2.2.2.2.2.2.2.2.2.2.2.2.2.2.2.2.2.1).1, s_wr2 z (wser (rg t) z.1 z.2.2.2.2.2.2.2.2.2.2.2.2.2.2.2.2.2.2.2.2.2.2.2.2.2.2.1).2 (wser (rg t) z.1 z.2.2.2.2.2.2.2.2.2.2.2.2.2.2.2.2.2.2.2.2.2.2.2.2.2.2.1).1) by simp only [qFmt, h4, h132, iN_nI (show t < 2 ^ 31 by omega), cond_true, cond_false, if_true, if_false, not_true_eq_false, not_false_eq_true, ↓reduceIte]]; exact (by rw [e7]; exact ⟨rfl, (by simp only [MC, s_n, s_r, s_len, s_rem, s_pc, s_hd, s_at_, s_wr, s_cu, s_hs, s_sv, s_fr, s_fa, s_fb, s_fe, s_f1, s_f2, s_f3, s_f4, s_f5, s_f6, s_fp, s_fc, s_wd, s_bg, s_fi, s_fo, s_st, s_ss, s_fl, s_fm, s_fs, s_tnp, s_scr, s_f12, s_wr2]; exact ⟨(Ce.up (Ce.new hM.1) (by decide)), (Ce.up (Ce.up hM.2.1 (by decide)) (by decide)), (Ce.up (Ce.up hM.2.2.1 (by decide)) (by decide)), (Ce.up (Ce.up hM.2.2.2.1 (by decide)) (by decide)), (Ce.up (Ce.up hM.2.2.2.2.1 (by decide)) (by decide)), (Ce.up (Ce.up hM.2.2.2.2.2.1 (by decide)) (by decide)), (Ce.up (Ce.up hM.2.2.2.2.2.2.1 (by decide)) (by decide)), (Ce.up (Ce.up hM.2.2.2.2.2.2.2.1 (by decide)) (by decide)), (Ce.up (Ce.up hM.2.2.2.2.2.2.2.2.1 (by decide)) (by decide)), (Ce.up (Ce.up hM.2.2.2.2.2.2.2.2.2.1 (by decide)) (by decide)), (Ce.up (Ce.up hM.2.2.2.2.2.2.2.2.2.2.1 (by decide)) (by decide)), (Ce.up (Ce.up hM.2.2.2.2.2.2.2.2.2.2.2.1 (by decide)) (by decide)), (Ce.up (Ce.up hM.2.2.2.2.2.2.2.2.2.2.2.2.1 (by decide)) (by decide)), (Ce.up (Ce.up hM.2.2.2.2.2.2.2.2.2.2.2.2.2.1 (by decide)) (by decide)), (Ce.up (Ce.up hM.2.2.2.2.2.2.2.2.2.2.2.2.2.2.1 (by decide)) (by decide)), (Ce.up (Ce.up hM.2.2.2.2.2.2.2.2.2.2.2.2.2.2.2.1 (by decide)) (by decide)), (Ce.new (Ce.up hM.2.2.2.2.2.2.2.2.2.2.2.2.2.2.2.2.1 (by decide))), (Ce.up (Ce.up hM.2.2.2.2.2.2.2.2.2.2.2.2.2.2.2.2.2.1 (by decide)) (by decide)), (Ce.up (Ce.up hM.2.2.2.2.2.2.2.2.2.2.2.2.2.2.2.2.2.2.1 (by decide)) (by decide)), (Ce.up (Ce.up hM.2.2.2.2.2.2.2.2.2.2.2.2.2.2.2.2.2.2.2.1 (by decide)) (by decide)), (Ce.up (Ce.up hM.2.2.2.2.2.2.2.2.2.2.2.2.2.2.2.2.2.2.2.2.1 (by decide)) (by decide)), (Ce.up (Ce.up hM.2.2.2.2.2.2.2.2.2.2.2.2.2.2.2.2.2.2.2.2.2 (by decide)) (by decide))⟩), ((Fr.rf.up (by omega) (by omega)).up (by omega) (by omega))⟩))
        · have h132 := z_eq (by omega) h132
          refine r_aload_n (pc := 135) C dX8_format_135 rfl ?_
          refine r_bipush (pc := 136) (v := nI 48) C dX8_format_136 (by decide +kernel) ?_
          refine r_callV (pc := 138) C dX8_format_138 cv_RX8_279 (c_X8_write2 (b := it (wsF (rg t)) z.1 (0, z.2.2.2.2.2.2.2.2.2.2.2.2.2.2.2.2.2.2.2.2.2.2.2.2.2.2.1)) (Ce.up (Ce.new hM.1) (by decide)) (Ce.new (Ce.up hM.2.2.2.2.2.2.2.2.2.2.2.2.2.2.2.2.1 (by decide))) 48 (by omega)) ⟨rfl, rfl, by decide, by decide⟩ (Ce.up (Ce.new hM.1) (by decide)) rfl rfl (Nat.le_of_ble_eq_true rfl) ⟨Nat.zero_le _, Nat.zero_le _⟩ ?_
          rintro _ _ ⟨rfl, rfl⟩
          show G M S E (0, 0) (va_up (va_up (va_up (va_up g 286 (.inr (8, [.int (nI z.1), .int (nI z.2.1), .int z.2.2.1, .int (nI z.2.2.2.1), .ref (E.1 287), .ref (E.1 288), .ref (E.1 289), .ref (E.1 290), .ref (E.1 291), .ref (E.1 292), .ref (E.1 293), .ref (E.1 294), .ref (E.1 295), .ref (E.1 296), .ref (E.1 297), .ref (E.1 298), .int (nI z.2.2.2.2.1), .ref (E.1 299), .ref (E.1 300), .ref (E.1 301), .ref (E.1 302), .int (nI z.2.2.2.2.2.1), .int (nI z.2.2.2.2.2.2.1), .int (nI ((it (wsF (rg t)) z.1 (0, z.2.2.2.2.2.2.2.2.2.2.2.2.2.2.2.2.2.2.2.2.2.2.2.2.2.2.1)).1)), .ref (E.1 303), .ref (E.1 304), .ref (E.1 305), .ref (E.1 306), .ref (E.1 307), .int (nI z.2.2.2.2.2.2.2.2.1), .int (b2i z.2.2.2.2.2.2.2.2.2.1), .int (b2i z.2.2.2.2.2.2.2.2.2.2.1)]))) 302 (xI S 400 ((it (wsF (rg t)) z.1 (0, z.2.2.2.2.2.2.2.2.2.2.2.2.2.2.2.2.2.2.2.2.2.2.2.2.2.2.1)).2))) 302 (xI S 400 ((wput 48 (it (wsF (rg t)) z.1 (0, z.2.2.2.2.2.2.2.2.2.2.2.2.2.2.2.2.2.2.2.2.2.2.2.2.2.2.1))).2))) 286 (.inr (8, [.int (nI z.1), .int (nI z.2.1), .int z.2.2.1, .int (nI z.2.2.2.1), .ref (E.1 287), .ref (E.1 288), .ref (E.1 289), .ref (E.1 290), .ref (E.1 291), .ref (E.1 292), .ref (E.1 293), .ref (E.1 294), .ref (E.1 295), .ref (E.1 296), .ref (E.1 297), .ref (E.1 298), .int (nI z.2.2.2.2.1), .ref (E.1 299), .ref (E.1 300), .ref (E.1 301), .ref (E.1 302), .int (nI z.2.2.2.2.2.1), .int (nI z.2.2.2.2.2.2.1), .int (nI ((wput 48 (it (wsF (rg t)) z.1 (0, z.2.2.2.2.2.2.2.2.2.2.2.2.2.2.2.2.2.2.2.2.2.2.2.2.2.2.1))).1)), .ref (E.1 303), .ref (E.1 304), .ref (E.1 305), .ref (E.1 306), .ref (E.1 307), .int (nI z.2.2.2.2.2.2.2.2.1), .int (b2i z.2.2.2.2.2.2.2.2.2.1), .int (b2i z.2.2.2.2.2.2.2.2.2.2.1)]))) 141 [some (.ref (E.1 286)), some (.int (nI t)), some (.int (nI z.1)), none, none] []
          refine G.heap (show (va_up (va_up (va_up (va_up g 286 (.inr (8, [.int (nI z.1), .int (nI z.2.1), .int z.2.2.1, .int (nI z.2.2.2.1), .ref (E.1 287), .ref (E.1 288), .ref (E.1 289), .ref (E.1 290), .ref (E.1 291), .ref (E.1 292), .ref (E.1 293), .ref (E.1 294), .ref (E.1 295), .ref (E.1 296), .ref (E.1 297), .ref (E.1 298), .int (nI z.2.2.2.2.1), .ref (E.1 299), .ref (E.1 300), .ref (E.1 301), .ref (E.1 302), .int (nI z.2.2.2.2.2.1), .int (nI z.2.2.2.2.2.2.1), .int (nI ((it (wsF (rg t)) z.1 (0, z.2.2.2.2.2.2.2.2.2.2.2.2.2.2.2.2.2.2.2.2.2.2.2.2.2.2.1)).1)), .ref (E.1 303), .ref (E.1 304), .ref (E.1 305), .ref (E.1 306), .ref (E.1 307), .int (nI z.2.2.2.2.2.2.2.2.1), .int (b2i z.2.2.2.2.2.2.2.2.2.1), .int (b2i z.2.2.2.2.2.2.2.2.2.2.1)]))) 302 (xI S 400 ((it (wsF (rg t)) z.1 (0, z.2.2.2.2.2.2.2.2.2.2.2.2.2.2.2.2.2.2.2.2.2.2.2.2.2.2.1)).2))) 302 (xI S 400 ((wput 48 (it (wsF (rg t)) z.1 (0, z.2.2.2.2.2.2.2.2.2.2.2.2.2.2.2.2.2.2.2.2.2.2.2.2.2.2.1))).2))) 286 (.inr (8, [.int (nI z.1), .int (nI z.2.1), .int z.2.2.1, .int (nI z.2.2.2.1), .ref (E.1 287), .ref (E.1 288), .ref (E.1 289), .ref (E.1 290), .ref (E.1 291), .ref (E.1 292), .ref (E.1 293), .ref (E.1 294), .ref (E.1 295), .ref (E.1 296), .ref (E.1 297), .ref (E.1 298), .int (nI z.2.2.2.2.1), .ref (E.1 299), .ref (E.1 300), .ref (E.1 301), .ref (E.1 302), .int (nI z.2.2.2.2.2.1), .int (nI z.2.2.2.2.2.2.1), .int (nI ((wput 48 (it (wsF (rg t)) z.1 (0, z.2.2.2.2.2.2.2.2.2.2.2.2.2.2.2.2.2.2.2.2.2.2.2.2.2.2.1))).1)), .ref (E.1 303), .ref (E.1 304), .ref (E.1 305), .ref (E.1 306), .ref (E.1 307), .int (nI z.2.2.2.2.2.2.2.2.1), .int (b2i z.2.2.2.2.2.2.2.2.2.1), .int (b2i z.2.2.2.2.2.2.2.2.2.2.1)]))) = (va_up (va_up g 286 (.inr (8, [.int (nI z.1), .int (nI z.2.1), .int z.2.2.1, .int (nI z.2.2.2.1), .ref (E.1 287), .ref (E.1 288), .ref (E.1 289), .ref (E.1 290), .ref (E.1 291), .ref (E.1 292), .ref (E.1 293), .ref (E.1 294), .ref (E.1 295), .ref (E.1 296), .ref (E.1 297), .ref (E.1 298), .int (nI z.2.2.2.2.1), .ref (E.1 299), .ref (E.1 300), .ref (E.1 301), .ref (E.1 302), .int (nI z.2.2.2.2.2.1), .int (nI z.2.2.2.2.2.2.1), .int (nI ((wput 48 (it (wsF (rg t)) z.1 (0, z.2.2.2.2.2.2.2.2.2.2.2.2.2.2.2.2.2.2.2.2.2.2.2.2.2.2.1))).1)), .ref (E.1 303), .ref (E.1 304), .ref (E.1 305), .ref (E.1 306), .ref (E.1 307), .int (nI z.2.2.2.2.2.2.2.2.1), .int (b2i z.2.2.2.2.2.2.2.2.2.1), .int (b2i z.2.2.2.2.2.2.2.2.2.2.1)]))) 302 (xI S 400 ((wput 48 (it (wsF (rg t)) z.1 (0, z.2.2.2.2.2.2.2.2.2.2.2.2.2.2.2.2.2.2.2.2.2.2.2.2.2.2.1))).2))) from by funext q; simp only [va_up]; (repeat' split) <;> first | rfl | omega) ?_
          have e7 : wser (rg t) z.1 z.2.2.2.2.2.2.2.2.2.2.2.2.2.2.2.2.2.2.2.2.2.2.2.2.2.2.1 = wput 48 (it (wsF (rg t)) z.1 (0, z.2.2.2.2.2.2.2.2.2.2.2.2.2.2.2.2.2.2.2.2.2.2.2.2.2.2.1)) := if_pos h132
          refine r_aload_n (pc := 141) C dX8_format_141 rfl ?_
          refine r_getf (pc := 142) C dX8_format_142 fl_RX8_274 (Ce.up (Ce.new hM.1) (by decide)) rfl ?_
          exact r_iret (pc := 145) C Z dX8_format_145 rfl (by rw [show qFmt z rg (nI t) = (nI (wser (rg t) z.1 z.2.2.2.2.2.2.2.2.2.2.2.2.2.2.2.2.2.2.2.2.2.2.2.2.2.2.1).1, s_wr2 z (wser (rg t) z.1 z.2.2.2.2.2.2.2.2.2.2.2.2.2.2.2.2.2.2.2.2.2.2.2.2.2.2.1).2 (wser (rg t) z.1 z.2.2.2.2.2.2.2.2.2.2.2.2.2.2.2.2.2.2.2.2.2.2.2.2.2.2.1).1) by simp only [qFmt, h4, h132, iN_nI (show t < 2 ^ 31 by omega), cond_true, cond_false, if_true, if_false, not_true_eq_false, not_false_eq_true, ↓reduceIte]]; exact (by rw [e7]; exact ⟨rfl, (by simp only [MC, s_n, s_r, s_len, s_rem, s_pc, s_hd, s_at_, s_wr, s_cu, s_hs, s_sv, s_fr, s_fa, s_fb, s_fe, s_f1, s_f2, s_f3, s_f4, s_f5, s_f6, s_fp, s_fc, s_wd, s_bg, s_fi, s_fo, s_st, s_ss, s_fl, s_fm, s_fs, s_tnp, s_scr, s_f12, s_wr2]; exact ⟨(Ce.up (Ce.new hM.1) (by decide)), (Ce.up (Ce.up hM.2.1 (by decide)) (by decide)), (Ce.up (Ce.up hM.2.2.1 (by decide)) (by decide)), (Ce.up (Ce.up hM.2.2.2.1 (by decide)) (by decide)), (Ce.up (Ce.up hM.2.2.2.2.1 (by decide)) (by decide)), (Ce.up (Ce.up hM.2.2.2.2.2.1 (by decide)) (by decide)), (Ce.up (Ce.up hM.2.2.2.2.2.2.1 (by decide)) (by decide)), (Ce.up (Ce.up hM.2.2.2.2.2.2.2.1 (by decide)) (by decide)), (Ce.up (Ce.up hM.2.2.2.2.2.2.2.2.1 (by decide)) (by decide)), (Ce.up (Ce.up hM.2.2.2.2.2.2.2.2.2.1 (by decide)) (by decide)), (Ce.up (Ce.up hM.2.2.2.2.2.2.2.2.2.2.1 (by decide)) (by decide)), (Ce.up (Ce.up hM.2.2.2.2.2.2.2.2.2.2.2.1 (by decide)) (by decide)), (Ce.up (Ce.up hM.2.2.2.2.2.2.2.2.2.2.2.2.1 (by decide)) (by decide)), (Ce.up (Ce.up hM.2.2.2.2.2.2.2.2.2.2.2.2.2.1 (by decide)) (by decide)), (Ce.up (Ce.up hM.2.2.2.2.2.2.2.2.2.2.2.2.2.2.1 (by decide)) (by decide)), (Ce.up (Ce.up hM.2.2.2.2.2.2.2.2.2.2.2.2.2.2.2.1 (by decide)) (by decide)), (Ce.new (Ce.up hM.2.2.2.2.2.2.2.2.2.2.2.2.2.2.2.2.1 (by decide))), (Ce.up (Ce.up hM.2.2.2.2.2.2.2.2.2.2.2.2.2.2.2.2.2.1 (by decide)) (by decide)), (Ce.up (Ce.up hM.2.2.2.2.2.2.2.2.2.2.2.2.2.2.2.2.2.2.1 (by decide)) (by decide)), (Ce.up (Ce.up hM.2.2.2.2.2.2.2.2.2.2.2.2.2.2.2.2.2.2.2.1 (by decide)) (by decide)), (Ce.up (Ce.up hM.2.2.2.2.2.2.2.2.2.2.2.2.2.2.2.2.2.2.2.2.1 (by decide)) (by decide)), (Ce.up (Ce.up hM.2.2.2.2.2.2.2.2.2.2.2.2.2.2.2.2.2.2.2.2.2 (by decide)) (by decide))⟩), ((Fr.rf.up (by omega) (by omega)).up (by omega) (by omega))⟩))
      · have h22 := c_nle (by omega) (by omega) h22
        omega
    · show G M S E (0, 0) (va_up (va_up g 286 (.inr (8, [.int (nI z.1), .int (nI z.2.1), .int z.2.2.1, .int (nI z.2.2.2.1), .ref (E.1 287), .ref (E.1 288), .ref (E.1 289), .ref (E.1 290), .ref (E.1 291), .ref (E.1 292), .ref (E.1 293), .ref (E.1 294), .ref (E.1 295), .ref (E.1 296), .ref (E.1 297), .ref (E.1 298), .int (nI z.2.2.2.2.1), .ref (E.1 299), .ref (E.1 300), .ref (E.1 301), .ref (E.1 302), .int (nI z.2.2.2.2.2.1), .int (nI z.2.2.2.2.2.2.1), .int (nI ((it (wsF (rg t)) t2 (0, z.2.2.2.2.2.2.2.2.2.2.2.2.2.2.2.2.2.2.2.2.2.2.2.2.2.2.1)).1)), .ref (E.1 303), .ref (E.1 304), .ref (E.1 305), .ref (E.1 306), .ref (E.1 307), .int (nI z.2.2.2.2.2.2.2.2.1), .int (b2i z.2.2.2.2.2.2.2.2.2.1), .int (b2i z.2.2.2.2.2.2.2.2.2.2.1)]))) 302 (xI S 400 ((it (wsF (rg t)) t2 (0, z.2.2.2.2.2.2.2.2.2.2.2.2.2.2.2.2.2.2.2.2.2.2.2.2.2.2.1)).2))) 17 [some (.ref (E.1 286)), some (.int (nI t)), some (.int (nI t2)), none, none] []
      refine r_iload_n (pc := 17) C dX8_format_17 rfl ?_
      refine r_aload_n (pc := 18) C dX8_format_18 rfl ?_
      refine r_getf (pc := 19) C dX8_format_19 fl_RX8_17 (Ce.up (Ce.new hM.1) (by decide)) rfl ?_
      refine r_icmp_ge (pc := 22) (tgt := 128) C dX8_format_22 (by decide) (fun h22 => ?_) (fun h22 => ?_)
      · have h22 := c_le (by omega) (by omega) h22
        omega
      · have h22 := c_nle (by omega) (by omega) h22
        have hln := wsI_len (rg t) z.2.2.2.2.2.2.2.2.2.2.2.2.2.2.2.2.2.2.2.2.2.2.2.2.2.2.1 t2 (by omega)
        have hA2 := hA t t2 ht0 (by omega)
        have hab : (rg t t2).toInt.natAbs ≤ 100000000 := by have h1 := hA2.2.1; have h2 := hA2.2.2; omega
        refine r_aload_n (pc := 25) C dX8_format_25 rfl ?_
        refine r_getf (pc := 26) C dX8_format_26 fl_RX8_21 (Ce.up (Ce.new hM.1) (by decide)) rfl ?_
        refine r_bipush (pc := 29) (v := nI 24) C dX8_format_29 (by decide +kernel) ?_
        refine r_iload_n (pc := 31) C dX8_format_31 rfl ?_
        refine r_imul (pc := 32) C dX8_format_32 ?_
        refine r_ti (nI (24 * t)) (pk_mul _ _) ?_
        refine r_iload_n (pc := 33) C dX8_format_33 rfl ?_
        refine r_iadd (pc := 34) C dX8_format_34 ?_
        refine r_ti (nI (24 * t + t2)) (nI_add _ _) ?_
        refine r_lald (pc := 35) C dX8_format_35 (Ce.up (Ce.up hM.2.1 (by decide)) (by decide)) rfl (by omega) (by omega) ?_
        refine r_tl ((rg t t2).toInt64) hA2.1 ?_
        refine r_lstore_n (pc := 36) C dX8_format_36 (by decide) ?_
        refine G.eq (pc' := 37) (vs' := [some (.ref (E.1 286)), some (.int (nI t)), some (.int (nI t2)), some (.long ((rg t t2).toInt64)), none]) (st' := []) ?_
        refine r_lload_n (pc := 37) C dX8_format_37 rfl ?_
        refine r_lconst (pc := 38) (v := 0) C dX8_format_38 rfl ?_
        refine r_lcmp (pc := 39) C dX8_format_39 ?_
        refine r_if_ne (pc := 40) (tgt := 46) C dX8_format_40 (by decide) (fun h40 => ?_) (fun h40 => ?_)
        · have h40 := k_ne h40
          have hz : ¬ rg t t2 = 0 := fun e => h40 (t64_0.mpr e)
          have hab1 : 1 ≤ (rg t t2).toInt.natAbs := by have : (rg t t2).toInt ≠ 0 := fun e => hz (Int32.toInt.inj e); omega
          have hl1 := tm1_len (rg t t2) (it (wsF (rg t)) t2 (0, z.2.2.2.2.2.2.2.2.2.2.2.2.2.2.2.2.2.2.2.2.2.2.2.2.2.2.1))
          have hl2 := tm2_len (rg t t2).toInt.natAbs t2 (tm1 (rg t t2) (it (wsF (rg t)) t2 (0, z.2.2.2.2.2.2.2.2.2.2.2.2.2.2.2.2.2.2.2.2.2.2.2.2.2.2.1)))
          have hl3 := tm3_len t2 (tm2 (rg t t2).toInt.natAbs t2 (tm1 (rg t t2) (it (wsF (rg t)) t2 (0, z.2.2.2.2.2.2.2.2.2.2.2.2.2.2.2.2.2.2.2.2.2.2.2.2.2.2.1))))
          have k122 : G M S E (0, 0) (va_up (va_up g 286 (.inr (8, [.int (nI z.1), .int (nI z.2.1), .int z.2.2.1, .int (nI z.2.2.2.1), .ref (E.1 287), .ref (E.1 288), .ref (E.1 289), .ref (E.1 290), .ref (E.1 291), .ref (E.1 292), .ref (E.1 293), .ref (E.1 294), .ref (E.1 295), .ref (E.1 296), .ref (E.1 297), .ref (E.1 298), .int (nI z.2.2.2.2.1), .ref (E.1 299), .ref (E.1 300), .ref (E.1 301), .ref (E.1 302), .int (nI z.2.2.2.2.2.1), .int (nI z.2.2.2.2.2.2.1), .int (nI ((tm4 t2 (tm3 t2 (tm2 (rg t t2).toInt.natAbs t2 (tm1 (rg t t2) (it (wsF (rg t)) t2 (0, z.2.2.2.2.2.2.2.2.2.2.2.2.2.2.2.2.2.2.2.2.2.2.2.2.2.2.1)))))).1)), .ref (E.1 303), .ref (E.1 304), .ref (E.1 305), .ref (E.1 306), .ref (E.1 307), .int (nI z.2.2.2.2.2.2.2.2.1), .int (b2i z.2.2.2.2.2.2.2.2.2.1), .int (b2i z.2.2.2.2.2.2.2.2.2.2.1)]))) 302 (xI S 400 ((tm4 t2 (tm3 t2 (tm2 (rg t t2).toInt.natAbs t2 (tm1 (rg t t2) (it (wsF (rg t)) t2 (0, z.2.2.2.2.2.2.2.2.2.2.2.2.2.2.2.2.2.2.2.2.2.2.2.2.2.2.1)))))).2))) 122 [some (.ref (E.1 286)), some (.int (nI t)), some (.int (nI t2)), some (.long ((rg t t2).toInt64)), none] [] := by
            refine r_iinc (pc := 122) (v := nI (t2 + 1)) C dX8_format_122 rfl (nI_i1 _) (by decide) ?_
            refine G.eq (pc' := 125) (vs' := [some (.ref (E.1 286)), some (.int (nI t)), some (.int (nI (t2 + 1))), some (.long ((rg t t2).toInt64)), none]) (st' := []) ?_
            refine r_goto (pc := 125) (tgt := 17) C dX8_format_125 (by decide) ?_
            have e3 : it (wsF (rg t)) (t2 + 1) (0, z.2.2.2.2.2.2.2.2.2.2.2.2.2.2.2.2.2.2.2.2.2.2.2.2.2.2.1) = tm4 t2 (tm3 t2 (tm2 (rg t t2).toInt.natAbs t2 (tm1 (rg t t2) (it (wsF (rg t)) t2 (0, z.2.2.2.2.2.2.2.2.2.2.2.2.2.2.2.2.2.2.2.2.2.2.2.2.2.2.1))))) := if_neg hz
            rw [e3] at ih
            refine G.wk (vs' := [some (.ref (E.1 286)), some (.int (nI t)), some (.int (nI (t2 + 1))), none, none]) ⟨rfl, rfl, rfl, trivial⟩ ?_
            exact ih
          have k95 : G M S E (0, 0) (va_up (va_up g 286 (.inr (8, [.int (nI z.1), .int (nI z.2.1), .int z.2.2.1, .int (nI z.2.2.2.1), .ref (E.1 287), .ref (E.1 288), .ref (E.1 289), .ref (E.1 290), .ref (E.1 291), .ref (E.1 292), .ref (E.1 293), .ref (E.1 294), .ref (E.1 295), .ref (E.1 296), .ref (E.1 297), .ref (E.1 298), .int (nI z.2.2.2.2.1), .ref (E.1 299), .ref (E.1 300), .ref (E.1 301), .ref (E.1 302), .int (nI z.2.2.2.2.2.1), .int (nI z.2.2.2.2.2.2.1), .int (nI ((tm2 (rg t t2).toInt.natAbs t2 (tm1 (rg t t2) (it (wsF (rg t)) t2 (0, z.2.2.2.2.2.2.2.2.2.2.2.2.2.2.2.2.2.2.2.2.2.2.2.2.2.2.1)))).1)), .ref (E.1 303), .ref (E.1 304), .ref (E.1 305), .ref (E.1 306), .ref (E.1 307), .int (nI z.2.2.2.2.2.2.2.2.1), .int (b2i z.2.2.2.2.2.2.2.2.2.1), .int (b2i z.2.2.2.2.2.2.2.2.2.2.1)]))) 302 (xI S 400 ((tm2 (rg t t2).toInt.natAbs t2 (tm1 (rg t t2) (it (wsF (rg t)) t2 (0, z.2.2.2.2.2.2.2.2.2.2.2.2.2.2.2.2.2.2.2.2.2.2.2.2.2.2.1)))).2))) 95 [some (.ref (E.1 286)), some (.int (nI t)), some (.int (nI t2)), some (.long ((rg t t2).toInt64)), none] [] := by
            refine r_iload_n (pc := 95) C dX8_format_95 rfl ?_
            refine r_if_le (pc := 96) (tgt := 105) C dX8_format_96 (by decide) (fun h96 => ?_) (fun h96 => ?_)
            · have h96 := z_le (by omega) h96
              refine r_iload_n (pc := 105) C dX8_format_105 rfl ?_
              refine r_iconst (pc := 106) (v := nI 1) C dX8_format_106 (by decide +kernel) ?_
              refine r_icmp_le (pc := 107) (tgt := 122) C dX8_format_107 (by decide) (fun h107 => ?_) (fun h107 => ?_)
              · have h107 := c_le (by omega) (by omega) h107
                have e5 : tm4 t2 (tm3 t2 (tm2 (rg t t2).toInt.natAbs t2 (tm1 (rg t t2) (it (wsF (rg t)) t2 (0, z.2.2.2.2.2.2.2.2.2.2.2.2.2.2.2.2.2.2.2.2.2.2.2.2.2.2.1))))) = tm2 (rg t t2).toInt.natAbs t2 (tm1 (rg t t2) (it (wsF (rg t)) t2 (0, z.2.2.2.2.2.2.2.2.2.2.2.2.2.2.2.2.2.2.2.2.2.2.2.2.2.2.1))) := by unfold tm4 tm3; rw [if_neg (by omega), if_neg (by omega)]
                rw [e5] at k122
                exact k122
              · have h107 := c_nle (by omega) (by omega) h107
                omega
            · have h96 := z_nle (by omega) h96
              refine r_aload_n (pc := 99) C dX8_format_99 rfl ?_
              refine r_bipush (pc := 100) (v := nI 113) C dX8_format_100 (by decide +kernel) ?_
              refine r_callV (pc := 102) C dX8_format_102 cv_RX8_279 (c_X8_write2 (b := tm2 (rg t t2).toInt.natAbs t2 (tm1 (rg t t2) (it (wsF (rg t)) t2 (0, z.2.2.2.2.2.2.2.2.2.2.2.2.2.2.2.2.2.2.2.2.2.2.2.2.2.2.1)))) (Ce.up (Ce.new hM.1) (by decide)) (Ce.new (Ce.up hM.2.2.2.2.2.2.2.2.2.2.2.2.2.2.2.2.1 (by decide))) 113 (by omega)) ⟨rfl, rfl, by decide, by decide⟩ (Ce.up (Ce.new hM.1) (by decide)) rfl rfl (Nat.le_of_ble_eq_true rfl) ⟨Nat.zero_le _, Nat.zero_le _⟩ ?_
              rintro _ _ ⟨rfl, rfl⟩
              show G M S E (0, 0) (va_up (va_up (va_up (va_up g 286 (.inr (8, [.int (nI z.1), .int (nI z.2.1), .int z.2.2.1, .int (nI z.2.2.2.1), .ref (E.1 287), .ref (E.1 288), .ref (E.1 289), .ref (E.1 290), .ref (E.1 291), .ref (E.1 292), .ref (E.1 293), .ref (E.1 294), .ref (E.1 295), .ref (E.1 296), .ref (E.1 297), .ref (E.1 298), .int (nI z.2.2.2.2.1), .ref (E.1 299), .ref (E.1 300), .ref (E.1 301), .ref (E.1 302), .int (nI z.2.2.2.2.2.1), .int (nI z.2.2.2.2.2.2.1), .int (nI ((tm2 (rg t t2).toInt.natAbs t2 (tm1 (rg t t2) (it (wsF (rg t)) t2 (0, z.2.2.2.2.2.2.2.2.2.2.2.2.2.2.2.2.2.2.2.2.2.2.2.2.2.2.1)))).1)), .ref (E.1 303), .ref (E.1 304), .ref (E.1 305), .ref (E.1 306), .ref (E.1 307), .int (nI z.2.2.2.2.2.2.2.2.1), .int (b2i z.2.2.2.2.2.2.2.2.2.1), .int (b2i z.2.2.2.2.2.2.2.2.2.2.1)]))) 302 (xI S 400 ((tm2 (rg t t2).toInt.natAbs t2 (tm1 (rg t t2) (it (wsF (rg t)) t2 (0, z.2.2.2.2.2.2.2.2.2.2.2.2.2.2.2.2.2.2.2.2.2.2.2.2.2.2.1)))).2))) 302 (xI S 400 ((wput 113 (tm2 (rg t t2).toInt.natAbs t2 (tm1 (rg t t2) (it (wsF (rg t)) t2 (0, z.2.2.2.2.2.2.2.2.2.2.2.2.2.2.2.2.2.2.2.2.2.2.2.2.2.2.1))))).2))) 286 (.inr (8, [.int (nI z.1), .int (nI z.2.1), .int z.2.2.1, .int (nI z.2.2.2.1), .ref (E.1 287), .ref (E.1 288), .ref (E.1 289), .ref (E.1 290), .ref (E.1 291), .ref (E.1 292), .ref (E.1 293), .ref (E.1 294), .ref (E.1 295), .ref (E.1 296), .ref (E.1 297), .ref (E.1 298), .int (nI z.2.2.2.2.1), .ref (E.1 299), .ref (E.1 300), .ref (E.1 301), .ref (E.1 302), .int (nI z.2.2.2.2.2.1), .int (nI z.2.2.2.2.2.2.1), .int (nI ((wput 113 (tm2 (rg t t2).toInt.natAbs t2 (tm1 (rg t t2) (it (wsF (rg t)) t2 (0, z.2.2.2.2.2.2.2.2.2.2.2.2.2.2.2.2.2.2.2.2.2.2.2.2.2.2.1))))).1)), .ref (E.1 303), .ref (E.1 304), .ref (E.1 305), .ref (E.1 306), .ref (E.1 307), .int (nI z.2.2.2.2.2.2.2.2.1), .int (b2i z.2.2.2.2.2.2.2.2.2.1), .int (b2i z.2.2.2.2.2.2.2.2.2.2.1)]))) 105 [some (.ref (E.1 286)), some (.int (nI t)), some (.int (nI t2)), some (.long ((rg t t2).toInt64)), none] []
              refine G.heap (show (va_up (va_up (va_up (va_up g 286 (.inr (8, [.int (nI z.1), .int (nI z.2.1), .int z.2.2.1, .int (nI z.2.2.2.1), .ref (E.1 287), .ref (E.1 288), .ref (E.1 289), .ref (E.1 290), .ref (E.1 291), .ref (E.1 292), .ref (E.1 293), .ref (E.1 294), .ref (E.1 295), .ref (E.1 296), .ref (E.1 297), .ref (E.1 298), .int (nI z.2.2.2.2.1), .ref (E.1 299), .ref (E.1 300), .ref (E.1 301), .ref (E.1 302), .int (nI z.2.2.2.2.2.1), .int (nI z.2.2.2.2.2.2.1), .int (nI ((tm2 (rg t t2).toInt.natAbs t2 (tm1 (rg t t2) (it (wsF (rg t)) t2 (0, z.2.2.2.2.2.2.2.2.2.2.2.2.2.2.2.2.2.2.2.2.2.2.2.2.2.2.1)))).1)), .ref (E.1 303), .ref (E.1 304), .ref (E.1 305), .ref (E.1 306), .ref (E.1 307), .int (nI z.2.2.2.2.2.2.2.2.1), .int (b2i z.2.2.2.2.2.2.2.2.2.1), .int (b2i z.2.2.2.2.2.2.2.2.2.2.1)]))) 302 (xI S 400 ((tm2 (rg t t2).toInt.natAbs t2 (tm1 (rg t t2) (it (wsF (rg t)) t2 (0, z.2.2.2.2.2.2.2.2.2.2.2.2.2.2.2.2.2.2.2.2.2.2.2.2.2.2.1)))).2))) 302 (xI S 400 ((wput 113 (tm2 (rg t t2).toInt.natAbs t2 (tm1 (rg t t2) (it (wsF (rg t)) t2 (0, z.2.2.2.2.2.2.2.2.2.2.2.2.2.2.2.2.2.2.2.2.2.2.2.2.2.2.1))))).2))) 286 (.inr (8, [.int (nI z.1), .int (nI z.2.1), .int z.2.2.1, .int (nI z.2.2.2.1), .ref (E.1 287), .ref (E.1 288), .ref (E.1 289), .ref (E.1 290), .ref (E.1 291), .ref (E.1 292), .ref (E.1 293), .ref (E.1 294), .ref (E.1 295), .ref (E.1 296), .ref (E.1 297), .ref (E.1 298), .int (nI z.2.2.2.2.1), .ref (E.1 299), .ref (E.1 300), .ref (E.1 301), .ref (E.1 302), .int (nI z.2.2.2.2.2.1), .int (nI z.2.2.2.2.2.2.1), .int (nI ((wput 113 (tm2 (rg t t2).toInt.natAbs t2 (tm1 (rg t t2) (it (wsF (rg t)) t2 (0, z.2.2.2.2.2.2.2.2.2.2.2.2.2.2.2.2.2.2.2.2.2.2.2.2.2.2.1))))).1)), .ref (E.1 303), .ref (E.1 304), .ref (E.1 305), .ref (E.1 306), .ref (E.1 307), .int (nI z.2.2.2.2.2.2.2.2.1), .int (b2i z.2.2.2.2.2.2.2.2.2.1), .int (b2i z.2.2.2.2.2.2.2.2.2.2.1)]))) = (va_up (va_up g 286 (.inr (8, [.int (nI z.1), .int (nI z.2.1), .int z.2.2.1, .int (nI z.2.2.2.1), .ref (E.1 287), .ref (E.1 288), .ref (E.1 289), .ref (E.1 290), .ref (E.1 291), .ref (E.1 292), .ref (E.1 293), .ref (E.1 294), .ref (E.1 295), .ref (E.1 296), .ref (E.1 297), .ref (E.1 298), .int (nI z.2.2.2.2.1), .ref (E.1 299), .ref (E.1 300), .ref (E.1 301), .ref (E.1 302), .int (nI z.2.2.2.2.2.1), .int (nI z.2.2.2.2.2.2.1), .int (nI ((wput 113 (tm2 (rg t t2).toInt.natAbs t2 (tm1 (rg t t2) (it (wsF (rg t)) t2 (0, z.2.2.2.2.2.2.2.2.2.2.2.2.2.2.2.2.2.2.2.2.2.2.2.2.2.2.1))))).1)), .ref (E.1 303), .ref (E.1 304), .ref (E.1 305), .ref (E.1 306), .ref (E.1 307), .int (nI z.2.2.2.2.2.2.2.2.1), .int (b2i z.2.2.2.2.2.2.2.2.2.1), .int (b2i z.2.2.2.2.2.2.2.2.2.2.1)]))) 302 (xI S 400 ((wput 113 (tm2 (rg t t2).toInt.natAbs t2 (tm1 (rg t t2) (it (wsF (rg t)) t2 (0, z.2.2.2.2.2.2.2.2.2.2.2.2.2.2.2.2.2.2.2.2.2.2.2.2.2.2.1))))).2))) from by funext q; simp only [va_up]; (repeat' split) <;> first | rfl | omega) ?_
              have e6 : tm3 t2 (tm2 (rg t t2).toInt.natAbs t2 (tm1 (rg t t2) (it (wsF (rg t)) t2 (0, z.2.2.2.2.2.2.2.2.2.2.2.2.2.2.2.2.2.2.2.2.2.2.2.2.2.2.1)))) = wput 113 (tm2 (rg t t2).toInt.natAbs t2 (tm1 (rg t t2) (it (wsF (rg t)) t2 (0, z.2.2.2.2.2.2.2.2.2.2.2.2.2.2.2.2.2.2.2.2.2.2.2.2.2.2.1)))) := if_pos h96
              have hl6 := hl3
              rw [e6] at hl6
              refine r_iload_n (pc := 105) C dX8_format_105 rfl ?_
              refine r_iconst (pc := 106) (v := nI 1) C dX8_format_106 (by decide +kernel) ?_
              refine r_icmp_le (pc := 107) (tgt := 122) C dX8_format_107 (by decide) (fun h107 => ?_) (fun h107 => ?_)
              · have h107 := c_le (by omega) (by omega) h107
                have e5 : tm4 t2 (tm3 t2 (tm2 (rg t t2).toInt.natAbs t2 (tm1 (rg t t2) (it (wsF (rg t)) t2 (0, z.2.2.2.2.2.2.2.2.2.2.2.2.2.2.2.2.2.2.2.2.2.2.2.2.2.2.1))))) = wput 113 (tm2 (rg t t2).toInt.natAbs t2 (tm1 (rg t t2) (it (wsF (rg t)) t2 (0, z.2.2.2.2.2.2.2.2.2.2.2.2.2.2.2.2.2.2.2.2.2.2.2.2.2.2.1)))) := by rw [e6]; exact if_neg (by omega)
                rw [e5] at k122
                exact k122
              · have h107 := c_nle (by omega) (by omega) h107
                refine r_aload_n (pc := 110) C dX8_format_110 rfl ?_
                refine r_bipush (pc := 111) (v := nI 94) C dX8_format_111 (by decide +kernel) ?_
                refine r_callV (pc := 113) C dX8_format_113 cv_RX8_279 (c_X8_write2 (b := wput 113 (tm2 (rg t t2).toInt.natAbs t2 (tm1 (rg t t2) (it (wsF (rg t)) t2 (0, z.2.2.2.2.2.2.2.2.2.2.2.2.2.2.2.2.2.2.2.2.2.2.2.2.2.2.1))))) (Ce.up (Ce.new hM.1) (by decide)) (Ce.new (Ce.up hM.2.2.2.2.2.2.2.2.2.2.2.2.2.2.2.2.1 (by decide))) 94 (by omega)) ⟨rfl, rfl, by decide, by decide⟩ (Ce.up (Ce.new hM.1) (by decide)) rfl rfl (Nat.le_of_ble_eq_true rfl) ⟨Nat.zero_le _, Nat.zero_le _⟩ ?_
                rintro _ _ ⟨rfl, rfl⟩
                show G M S E (0, 0) (va_up (va_up (va_up (va_up g 286 (.inr (8, [.int (nI z.1), .int (nI z.2.1), .int z.2.2.1, .int (nI z.2.2.2.1), .ref (E.1 287), .ref (E.1 288), .ref (E.1 289), .ref (E.1 290), .ref (E.1 291), .ref (E.1 292), .ref (E.1 293), .ref (E.1 294), .ref (E.1 295), .ref (E.1 296), .ref (E.1 297), .ref (E.1 298), .int (nI z.2.2.2.2.1), .ref (E.1 299), .ref (E.1 300), .ref (E.1 301), .ref (E.1 302), .int (nI z.2.2.2.2.2.1), .int (nI z.2.2.2.2.2.2.1), .int (nI ((wput 113 (tm2 (rg t t2).toInt.natAbs t2 (tm1 (rg t t2) (it (wsF (rg t)) t2 (0, z.2.2.2.2.2.2.2.2.2.2.2.2.2.2.2.2.2.2.2.2.2.2.2.2.2.2.1))))).1)), .ref (E.1 303), .ref (E.1 304), .ref (E.1 305), .ref (E.1 306), .ref (E.1 307), .int (nI z.2.2.2.2.2.2.2.2.1), .int (b2i z.2.2.2.2.2.2.2.2.2.1), .int (b2i z.2.2.2.2.2.2.2.2.2.2.1)]))) 302 (xI S 400 ((wput 113 (tm2 (rg t t2).toInt.natAbs t2 (tm1 (rg t t2) (it (wsF (rg t)) t2 (0, z.2.2.2.2.2.2.2.2.2.2.2.2.2.2.2.2.2.2.2.2.2.2.2.2.2.2.1))))).2))) 302 (xI S 400 ((wput 94 (wput 113 (tm2 (rg t t2).toInt.natAbs t2 (tm1 (rg t t2) (it (wsF (rg t)) t2 (0, z.2.2.2.2.2.2.2.2.2.2.2.2.2.2.2.2.2.2.2.2.2.2.2.2.2.2.1)))))).2))) 286 (.inr (8, [.int (nI z.1), .int (nI z.2.1), .int z.2.2.1, .int (nI z.2.2.2.1), .ref (E.1 287), .ref (E.1 288), .ref (E.1 289), .ref (E.1 290), .ref (E.1 291), .ref (E.1 292), .ref (E.1 293), .ref (E.1 294), .ref (E.1 295), .ref (E.1 296), .ref (E.1 297), .ref (E.1 298), .int (nI z.2.2.2.2.1), .ref (E.1 299), .ref (E.1 300), .ref (E.1 301), .ref (E.1 302), .int (nI z.2.2.2.2.2.1), .int (nI z.2.2.2.2.2.2.1), .int (nI ((wput 94 (wput 113 (tm2 (rg t t2).toInt.natAbs t2 (tm1 (rg t t2) (it (wsF (rg t)) t2 (0, z.2.2.2.2.2.2.2.2.2.2.2.2.2.2.2.2.2.2.2.2.2.2.2.2.2.2.1)))))).1)), .ref (E.1 303), .ref (E.1 304), .ref (E.1 305), .ref (E.1 306), .ref (E.1 307), .int (nI z.2.2.2.2.2.2.2.2.1), .int (b2i z.2.2.2.2.2.2.2.2.2.1), .int (b2i z.2.2.2.2.2.2.2.2.2.2.1)]))) 116 [some (.ref (E.1 286)), some (.int (nI t)), some (.int (nI t2)), some (.long ((rg t t2).toInt64)), none] []
                refine G.heap (show (va_up (va_up (va_up (va_up g 286 (.inr (8, [.int (nI z.1), .int (nI z.2.1), .int z.2.2.1, .int (nI z.2.2.2.1), .ref (E.1 287), .ref (E.1 288), .ref (E.1 289), .ref (E.1 290), .ref (E.1 291), .ref (E.1 292), .ref (E.1 293), .ref (E.1 294), .ref (E.1 295), .ref (E.1 296), .ref (E.1 297), .ref (E.1 298), .int (nI z.2.2.2.2.1), .ref (E.1 299), .ref (E.1 300), .ref (E.1 301), .ref (E.1 302), .int (nI z.2.2.2.2.2.1), .int (nI z.2.2.2.2.2.2.1), .int (nI ((wput 113 (tm2 (rg t t2).toInt.natAbs t2 (tm1 (rg t t2) (it (wsF (rg t)) t2 (0, z.2.2.2.2.2.2.2.2.2.2.2.2.2.2.2.2.2.2.2.2.2.2.2.2.2.2.1))))).1)), .ref (E.1 303), .ref (E.1 304), .ref (E.1 305), .ref (E.1 306), .ref (E.1 307), .int (nI z.2.2.2.2.2.2.2.2.1), .int (b2i z.2.2.2.2.2.2.2.2.2.1), .int (b2i z.2.2.2.2.2.2.2.2.2.2.1)]))) 302 (xI S 400 ((wput 113 (tm2 (rg t t2).toInt.natAbs t2 (tm1 (rg t t2) (it (wsF (rg t)) t2 (0, z.2.2.2.2.2.2.2.2.2.2.2.2.2.2.2.2.2.2.2.2.2.2.2.2.2.2.1))))).2))) 302 (xI S 400 ((wput 94 (wput 113 (tm2 (rg t t2).toInt.natAbs t2 (tm1 (rg t t2) (it (wsF (rg t)) t2 (0, z.2.2.2.2.2.2.2.2.2.2.2.2.2.2.2.2.2.2.2.2.2.2.2.2.2.2.1)))))).2))) 286 (.inr (8, [.int (nI z.1), .int (nI z.2.1), .int z.2.2.1, .int (nI z.2.2.2.1), .ref (E.1 287), .ref (E.1 288), .ref (E.1 289), .ref (E.1 290), .ref (E.1 291), .ref (E.1 292), .ref (E.1 293), .ref (E.1 294), .ref (E.1 295), .ref (E.1 296), .ref (E.1 297), .ref (E.1 298), .int (nI z.2.2.2.2.1), .ref (E.1 299), .ref (E.1 300), .ref (E.1 301), .ref (E.1 302), .int (nI z.2.2.2.2.2.1), .int (nI z.2.2.2.2.2.2.1), .int (nI ((wput 94 (wput 113 (tm2 (rg t t2).toInt.natAbs t2 (tm1 (rg t t2) (it (wsF (rg t)) t2 (0, z.2.2.2.2.2.2.2.2.2.2.2.2.2.2.2.2.2.2.2.2.2.2.2.2.2.2.1)))))).1)), .ref (E.1 303), .ref (E.1 304), .ref (E.1 305), .ref (E.1 306), .ref (E.1 307), .int (nI z.2.2.2.2.2.2.2.2.1), .int (b2i z.2.2.2.2.2.2.2.2.2.1), .int (b2i z.2.2.2.2.2.2.2.2.2.2.1)]))) = (va_up (va_up g 286 (.inr (8, [.int (nI z.1), .int (nI z.2.1), .int z.2.2.1, .int (nI z.2.2.2.1), .ref (E.1 287), .ref (E.1 288), .ref (E.1 289), .ref (E.1 290), .ref (E.1 291), .ref (E.1 292), .ref (E.1 293), .ref (E.1 294), .ref (E.1 295), .ref (E.1 296), .ref (E.1 297), .ref (E.1 298), .int (nI z.2.2.2.2.1), .ref (E.1 299), .ref (E.1 300), .ref (E.1 301), .ref (E.1 302), .int (nI z.2.2.2.2.2.1), .int (nI z.2.2.2.2.2.2.1), .int (nI ((wput 94 (wput 113 (tm2 (rg t t2).toInt.natAbs t2 (tm1 (rg t t2) (it (wsF (rg t)) t2 (0, z.2.2.2.2.2.2.2.2.2.2.2.2.2.2.2.2.2.2.2.2.2.2.2.2.2.2.1)))))).1)), .ref (E.1 303), .ref (E.1 304), .ref (E.1 305), .ref (E.1 306), .ref (E.1 307), .int (nI z.2.2.2.2.2.2.2.2.1), .int (b2i z.2.2.2.2.2.2.2.2.2.1), .int (b2i z.2.2.2.2.2.2.2.2.2.2.1)]))) 302 (xI S 400 ((wput 94 (wput 113 (tm2 (rg t t2).toInt.natAbs t2 (tm1 (rg t t2) (it (wsF (rg t)) t2 (0, z.2.2.2.2.2.2.2.2.2.2.2.2.2.2.2.2.2.2.2.2.2.2.2.2.2.2.1)))))).2))) from by funext q; simp only [va_up]; (repeat' split) <;> first | rfl | omega) ?_
                refine r_aload_n (pc := 116) C dX8_format_116 rfl ?_
                refine r_iload_n (pc := 117) C dX8_format_117 rfl ?_
                refine r_i2l (pc := 118) C dX8_format_118 ?_
                refine r_tl (jN t2) rfl ?_
                have hl7 : (wput 94 (wput 113 (tm2 (rg t t2).toInt.natAbs t2 (tm1 (rg t t2) (it (wsF (rg t)) t2 (0, z.2.2.2.2.2.2.2.2.2.2.2.2.2.2.2.2.2.2.2.2.2.2.2.2.2.2.1)))))).1 = (wput 113 (tm2 (rg t t2).toInt.natAbs t2 (tm1 (rg t t2) (it (wsF (rg t)) t2 (0, z.2.2.2.2.2.2.2.2.2.2.2.2.2.2.2.2.2.2.2.2.2.2.2.2.2.2.1))))).1 + 1 := rfl
                refine r_callV (pc := 119) C dX8_format_119 cv_RX8_283 (c_X8_writeNumber (b := wput 94 (wput 113 (tm2 (rg t t2).toInt.natAbs t2 (tm1 (rg t t2) (it (wsF (rg t)) t2 (0, z.2.2.2.2.2.2.2.2.2.2.2.2.2.2.2.2.2.2.2.2.2.2.2.2.2.2.1)))))) (Ce.up (Ce.new hM.1) (by decide)) (Ce.new (Ce.up hM.2.2.2.2.2.2.2.2.2.2.2.2.2.2.2.2.1 (by decide))) t2 (by omega) (by omega) (by omega)) ⟨rfl, rfl, by decide, by decide⟩ (Ce.up (Ce.new hM.1) (by decide)) rfl rfl (Nat.le_of_ble_eq_true rfl) ⟨Nat.zero_le _, Nat.zero_le _⟩ ?_
                rintro _ _ ⟨rfl, rfl⟩
                show G M S E (0, 0) (va_up (va_up (va_up (va_up g 286 (.inr (8, [.int (nI z.1), .int (nI z.2.1), .int z.2.2.1, .int (nI z.2.2.2.1), .ref (E.1 287), .ref (E.1 288), .ref (E.1 289), .ref (E.1 290), .ref (E.1 291), .ref (E.1 292), .ref (E.1 293), .ref (E.1 294), .ref (E.1 295), .ref (E.1 296), .ref (E.1 297), .ref (E.1 298), .int (nI z.2.2.2.2.1), .ref (E.1 299), .ref (E.1 300), .ref (E.1 301), .ref (E.1 302), .int (nI z.2.2.2.2.2.1), .int (nI z.2.2.2.2.2.2.1), .int (nI ((wput 94 (wput 113 (tm2 (rg t t2).toInt.natAbs t2 (tm1 (rg t t2) (it (wsF (rg t)) t2 (0, z.2.2.2.2.2.2.2.2.2.2.2.2.2.2.2.2.2.2.2.2.2.2.2.2.2.2.1)))))).1)), .ref (E.1 303), .ref (E.1 304), .ref (E.1 305), .ref (E.1 306), .ref (E.1 307), .int (nI z.2.2.2.2.2.2.2.2.1), .int (b2i z.2.2.2.2.2.2.2.2.2.1), .int (b2i z.2.2.2.2.2.2.2.2.2.2.1)]))) 302 (xI S 400 ((wput 94 (wput 113 (tm2 (rg t t2).toInt.natAbs t2 (tm1 (rg t t2) (it (wsF (rg t)) t2 (0, z.2.2.2.2.2.2.2.2.2.2.2.2.2.2.2.2.2.2.2.2.2.2.2.2.2.2.1)))))).2))) 302 (xI S 400 ((wnum t2 (wput 94 (wput 113 (tm2 (rg t t2).toInt.natAbs t2 (tm1 (rg t t2) (it (wsF (rg t)) t2 (0, z.2.2.2.2.2.2.2.2.2.2.2.2.2.2.2.2.2.2.2.2.2.2.2.2.2.2.1))))))).2))) 286 (.inr (8, [.int (nI z.1), .int (nI z.2.1), .int z.2.2.1, .int (nI z.2.2.2.1), .ref (E.1 287), .ref (E.1 288), .ref (E.1 289), .ref (E.1 290), .ref (E.1 291), .ref (E.1 292), .ref (E.1 293), .ref (E.1 294), .ref (E.1 295), .ref (E.1 296), .ref (E.1 297), .ref (E.1 298), .int (nI z.2.2.2.2.1), .ref (E.1 299), .ref (E.1 300), .ref (E.1 301), .ref (E.1 302), .int (nI z.2.2.2.2.2.1), .int (nI z.2.2.2.2.2.2.1), .int (nI ((wnum t2 (wput 94 (wput 113 (tm2 (rg t t2).toInt.natAbs t2 (tm1 (rg t t2) (it (wsF (rg t)) t2 (0, z.2.2.2.2.2.2.2.2.2.2.2.2.2.2.2.2.2.2.2.2.2.2.2.2.2.2.1))))))).1)), .ref (E.1 303), .ref (E.1 304), .ref (E.1 305), .ref (E.1 306), .ref (E.1 307), .int (nI z.2.2.2.2.2.2.2.2.1), .int (b2i z.2.2.2.2.2.2.2.2.2.1), .int (b2i z.2.2.2.2.2.2.2.2.2.2.1)]))) 122 [some (.ref (E.1 286)), some (.int (nI t)), some (.int (nI t2)), some (.long ((rg t t2).toInt64)), none] []
                refine G.heap (show (va_up (va_up (va_up (va_up g 286 (.inr (8, [.int (nI z.1), .int (nI z.2.1), .int z.2.2.1, .int (nI z.2.2.2.1), .ref (E.1 287), .ref (E.1 288), .ref (E.1 289), .ref (E.1 290), .ref (E.1 291), .ref (E.1 292), .ref (E.1 293), .ref (E.1 294), .ref (E.1 295), .ref (E.1 296), .ref (E.1 297), .ref (E.1 298), .int (nI z.2.2.2.2.1), .ref (E.1 299), .ref (E.1 300), .ref (E.1 301), .ref (E.1 302), .int (nI z.2.2.2.2.2.1), .int (nI z.2.2.2.2.2.2.1), .int (nI ((wput 94 (wput 113 (tm2 (rg t t2).toInt.natAbs t2 (tm1 (rg t t2) (it (wsF (rg t)) t2 (0, z.2.2.2.2.2.2.2.2.2.2.2.2.2.2.2.2.2.2.2.2.2.2.2.2.2.2.1)))))).1)), .ref (E.1 303), .ref (E.1 304), .ref (E.1 305), .ref (E.1 306), .ref (E.1 307), .int (nI z.2.2.2.2.2.2.2.2.1), .int (b2i z.2.2.2.2.2.2.2.2.2.1), .int (b2i z.2.2.2.2.2.2.2.2.2.2.1)]))) 302 (xI S 400 ((wput 94 (wput 113 (tm2 (rg t t2).toInt.natAbs t2 (tm1 (rg t t2) (it (wsF (rg t)) t2 (0, z.2.2.2.2.2.2.2.2.2.2.2.2.2.2.2.2.2.2.2.2.2.2.2.2.2.2.1)))))).2))) 302 (xI S 400 ((wnum t2 (wput 94 (wput 113 (tm2 (rg t t2).toInt.natAbs t2 (tm1 (rg t t2) (it (wsF (rg t)) t2 (0, z.2.2.2.2.2.2.2.2.2.2.2.2.2.2.2.2.2.2.2.2.2.2.2.2.2.2.1))))))).2))) 286 (.inr (8, [.int (nI z.1), .int (nI z.2.1), .int z.2.2.1, .int (nI z.2.2.2.1), .ref (E.1 287), .ref (E.1 288), .ref (E.1 289), .ref (E.1 290), .ref (E.1 291), .ref (E.1 292), .ref (E.1 293), .ref (E.1 294), .ref (E.1 295), .ref (E.1 296), .ref (E.1 297), .ref (E.1 298), .int (nI z.2.2.2.2.1), .ref (E.1 299), .ref (E.1 300), .ref (E.1 301), .ref (E.1 302), .int (nI z.2.2.2.2.2.1), .int (nI z.2.2.2.2.2.2.1), .int (nI ((wnum t2 (wput 94 (wput 113 (tm2 (rg t t2).toInt.natAbs t2 (tm1 (rg t t2) (it (wsF (rg t)) t2 (0, z.2.2.2.2.2.2.2.2.2.2.2.2.2.2.2.2.2.2.2.2.2.2.2.2.2.2.1))))))).1)), .ref (E.1 303), .ref (E.1 304), .ref (E.1 305), .ref (E.1 306), .ref (E.1 307), .int (nI z.2.2.2.2.2.2.2.2.1), .int (b2i z.2.2.2.2.2.2.2.2.2.1), .int (b2i z.2.2.2.2.2.2.2.2.2.2.1)]))) = (va_up (va_up g 286 (.inr (8, [.int (nI z.1), .int (nI z.2.1), .int z.2.2.1, .int (nI z.2.2.2.1), .ref (E.1 287), .ref (E.1 288), .ref (E.1 289), .ref (E.1 290), .ref (E.1 291), .ref (E.1 292), .ref (E.1 293), .ref (E.1 294), .ref (E.1 295), .ref (E.1 296), .ref (E.1 297), .ref (E.1 298), .int (nI z.2.2.2.2.1), .ref (E.1 299), .ref (E.1 300), .ref (E.1 301), .ref (E.1 302), .int (nI z.2.2.2.2.2.1), .int (nI z.2.2.2.2.2.2.1), .int (nI ((wnum t2 (wput 94 (wput 113 (tm2 (rg t t2).toInt.natAbs t2 (tm1 (rg t t2) (it (wsF (rg t)) t2 (0, z.2.2.2.2.2.2.2.2.2.2.2.2.2.2.2.2.2.2.2.2.2.2.2.2.2.2.1))))))).1)), .ref (E.1 303), .ref (E.1 304), .ref (E.1 305), .ref (E.1 306), .ref (E.1 307), .int (nI z.2.2.2.2.2.2.2.2.1), .int (b2i z.2.2.2.2.2.2.2.2.2.1), .int (b2i z.2.2.2.2.2.2.2.2.2.2.1)]))) 302 (xI S 400 ((wnum t2 (wput 94 (wput 113 (tm2 (rg t t2).toInt.natAbs t2 (tm1 (rg t t2) (it (wsF (rg t)) t2 (0, z.2.2.2.2.2.2.2.2.2.2.2.2.2.2.2.2.2.2.2.2.2.2.2.2.2.2.1))))))).2))) from by funext q; simp only [va_up]; (repeat' split) <;> first | rfl | omega) ?_
                have e5 : tm4 t2 (tm3 t2 (tm2 (rg t t2).toInt.natAbs t2 (tm1 (rg t t2) (it (wsF (rg t)) t2 (0, z.2.2.2.2.2.2.2.2.2.2.2.2.2.2.2.2.2.2.2.2.2.2.2.2.2.2.1))))) = wnum t2 (wput 94 (wput 113 (tm2 (rg t t2).toInt.natAbs t2 (tm1 (rg t t2) (it (wsF (rg t)) t2 (0, z.2.2.2.2.2.2.2.2.2.2.2.2.2.2.2.2.2.2.2.2.2.2.2.2.2.2.1)))))) := by rw [e6]; exact if_pos (by omega)
                rw [e5] at k122
                exact k122
          have k74 : G M S E (0, 0) (va_up (va_up g 286 (.inr (8, [.int (nI z.1), .int (nI z.2.1), .int z.2.2.1, .int (nI z.2.2.2.1), .ref (E.1 287), .ref (E.1 288), .ref (E.1 289), .ref (E.1 290), .ref (E.1 291), .ref (E.1 292), .ref (E.1 293), .ref (E.1 294), .ref (E.1 295), .ref (E.1 296), .ref (E.1 297), .ref (E.1 298), .int (nI z.2.2.2.2.1), .ref (E.1 299), .ref (E.1 300), .ref (E.1 301), .ref (E.1 302), .int (nI z.2.2.2.2.2.1), .int (nI z.2.2.2.2.2.2.1), .int (nI ((tm1 (rg t t2) (it (wsF (rg t)) t2 (0, z.2.2.2.2.2.2.2.2.2.2.2.2.2.2.2.2.2.2.2.2.2.2.2.2.2.2.1))).1)), .ref (E.1 303), .ref (E.1 304), .ref (E.1 305), .ref (E.1 306), .ref (E.1 307), .int (nI z.2.2.2.2.2.2.2.2.1), .int (b2i z.2.2.2.2.2.2.2.2.2.1), .int (b2i z.2.2.2.2.2.2.2.2.2.2.1)]))) 302 (xI S 400 ((tm1 (rg t t2) (it (wsF (rg t)) t2 (0, z.2.2.2.2.2.2.2.2.2.2.2.2.2.2.2.2.2.2.2.2.2.2.2.2.2.2.1))).2))) 74 [some (.ref (E.1 286)), some (.int (nI t)), some (.int (nI t2)), some (.long ((rg t t2).toInt64)), none] [] := by
            refine r_iload_n (pc := 74) C dX8_format_74 rfl ?_
            refine r_if_eq (pc := 75) (tgt := 87) C dX8_format_75 (by decide) (fun h75 => ?_) (fun h75 => ?_)
            · have h75 := z_eq (by omega) h75
              refine r_aload_n (pc := 87) C dX8_format_87 rfl ?_
              refine r_lload_n (pc := 88) C dX8_format_88 rfl ?_
              refine r_callS (pc := 89) C dX8_format_89 cs_RX8_169 (c_X8_absolute ((rg t t2).toInt64)) ⟨rfl, rfl, by decide, by decide⟩ rfl rfl (Nat.le_of_ble_eq_true rfl) ⟨Nat.zero_le _, Nat.zero_le _⟩ ?_
              rintro _ _ ⟨_, rfl, rfl, rfl⟩
              show G M S E (0, 0) (va_up (va_up g 286 (.inr (8, [.int (nI z.1), .int (nI z.2.1), .int z.2.2.1, .int (nI z.2.2.2.1), .ref (E.1 287), .ref (E.1 288), .ref (E.1 289), .ref (E.1 290), .ref (E.1 291), .ref (E.1 292), .ref (E.1 293), .ref (E.1 294), .ref (E.1 295), .ref (E.1 296), .ref (E.1 297), .ref (E.1 298), .int (nI z.2.2.2.2.1), .ref (E.1 299), .ref (E.1 300), .ref (E.1 301), .ref (E.1 302), .int (nI z.2.2.2.2.2.1), .int (nI z.2.2.2.2.2.2.1), .int (nI ((tm1 (rg t t2) (it (wsF (rg t)) t2 (0, z.2.2.2.2.2.2.2.2.2.2.2.2.2.2.2.2.2.2.2.2.2.2.2.2.2.2.1))).1)), .ref (E.1 303), .ref (E.1 304), .ref (E.1 305), .ref (E.1 306), .ref (E.1 307), .int (nI z.2.2.2.2.2.2.2.2.1), .int (b2i z.2.2.2.2.2.2.2.2.2.1), .int (b2i z.2.2.2.2.2.2.2.2.2.2.1)]))) 302 (xI S 400 ((tm1 (rg t t2) (it (wsF (rg t)) t2 (0, z.2.2.2.2.2.2.2.2.2.2.2.2.2.2.2.2.2.2.2.2.2.2.2.2.2.2.1))).2))) 92 [some (.ref (E.1 286)), some (.int (nI t)), some (.int (nI t2)), some (.long ((rg t t2).toInt64)), none] [.long (abL ((rg t t2).toInt64)), .ref (E.1 286)]
              refine r_tl (jN (rg t t2).toInt.natAbs) (abL_nat hA2.2) ?_
              refine r_callV (pc := 92) C dX8_format_92 cv_RX8_283 (c_X8_writeNumber (b := tm1 (rg t t2) (it (wsF (rg t)) t2 (0, z.2.2.2.2.2.2.2.2.2.2.2.2.2.2.2.2.2.2.2.2.2.2.2.2.2.2.1))) (Ce.up (Ce.new hM.1) (by decide)) (Ce.new (Ce.up hM.2.2.2.2.2.2.2.2.2.2.2.2.2.2.2.2.1 (by decide))) ((rg t t2).toInt.natAbs) hab1 hab (by omega)) ⟨rfl, rfl, by decide, by decide⟩ (Ce.up (Ce.new hM.1) (by decide)) rfl rfl (Nat.le_of_ble_eq_true rfl) ⟨Nat.zero_le _, Nat.zero_le _⟩ ?_
              rintro _ _ ⟨rfl, rfl⟩
              show G M S E (0, 0) (va_up (va_up (va_up (va_up g 286 (.inr (8, [.int (nI z.1), .int (nI z.2.1), .int z.2.2.1, .int (nI z.2.2.2.1), .ref (E.1 287), .ref (E.1 288), .ref (E.1 289), .ref (E.1 290), .ref (E.1 291), .ref (E.1 292), .ref (E.1 293), .ref (E.1 294), .ref (E.1 295), .ref (E.1 296), .ref (E.1 297), .ref (E.1 298), .int (nI z.2.2.2.2.1), .ref (E.1 299), .ref (E.1 300), .ref (E.1 301), .ref (E.1 302), .int (nI z.2.2.2.2.2.1), .int (nI z.2.2.2.2.2.2.1), .int (nI ((tm1 (rg t t2) (it (wsF (rg t)) t2 (0, z.2.2.2.2.2.2.2.2.2.2.2.2.2.2.2.2.2.2.2.2.2.2.2.2.2.2.1))).1)), .ref (E.1 303), .ref (E.1 304), .ref (E.1 305), .ref (E.1 306), .ref (E.1 307), .int (nI z.2.2.2.2.2.2.2.2.1), .int (b2i z.2.2.2.2.2.2.2.2.2.1), .int (b2i z.2.2.2.2.2.2.2.2.2.2.1)]))) 302 (xI S 400 ((tm1 (rg t t2) (it (wsF (rg t)) t2 (0, z.2.2.2.2.2.2.2.2.2.2.2.2.2.2.2.2.2.2.2.2.2.2.2.2.2.2.1))).2))) 302 (xI S 400 ((wnum ((rg t t2).toInt.natAbs) (tm1 (rg t t2) (it (wsF (rg t)) t2 (0, z.2.2.2.2.2.2.2.2.2.2.2.2.2.2.2.2.2.2.2.2.2.2.2.2.2.2.1)))).2))) 286 (.inr (8, [.int (nI z.1), .int (nI z.2.1), .int z.2.2.1, .int (nI z.2.2.2.1), .ref (E.1 287), .ref (E.1 288), .ref (E.1 289), .ref (E.1 290), .ref (E.1 291), .ref (E.1 292), .ref (E.1 293), .ref (E.1 294), .ref (E.1 295), .ref (E.1 296), .ref (E.1 297), .ref (E.1 298), .int (nI z.2.2.2.2.1), .ref (E.1 299), .ref (E.1 300), .ref (E.1 301), .ref (E.1 302), .int (nI z.2.2.2.2.2.1), .int (nI z.2.2.2.2.2.2.1), .int (nI ((wnum ((rg t t2).toInt.natAbs) (tm1 (rg t t2) (it (wsF (rg t)) t2 (0, z.2.2.2.2.2.2.2.2.2.2.2.2.2.2.2.2.2.2.2.2.2.2.2.2.2.2.1)))).1)), .ref (E.1 303), .ref (E.1 304), .ref (E.1 305), .ref (E.1 306), .ref (E.1 307), .int (nI z.2.2.2.2.2.2.2.2.1), .int (b2i z.2.2.2.2.2.2.2.2.2.1), .int (b2i z.2.2.2.2.2.2.2.2.2.2.1)]))) 95 [some (.ref (E.1 286)), some (.int (nI t)), some (.int (nI t2)), some (.long ((rg t t2).toInt64)), none] []
              refine G.heap (show (va_up (va_up (va_up (va_up g 286 (.inr (8, [.int (nI z.1), .int (nI z.2.1), .int z.2.2.1, .int (nI z.2.2.2.1), .ref (E.1 287), .ref (E.1 288), .ref (E.1 289), .ref (E.1 290), .ref (E.1 291), .ref (E.1 292), .ref (E.1 293), .ref (E.1 294), .ref (E.1 295), .ref (E.1 296), .ref (E.1 297), .ref (E.1 298), .int (nI z.2.2.2.2.1), .ref (E.1 299), .ref (E.1 300), .ref (E.1 301), .ref (E.1 302), .int (nI z.2.2.2.2.2.1), .int (nI z.2.2.2.2.2.2.1), .int (nI ((tm1 (rg t t2) (it (wsF (rg t)) t2 (0, z.2.2.2.2.2.2.2.2.2.2.2.2.2.2.2.2.2.2.2.2.2.2.2.2.2.2.1))).1)), .ref (E.1 303), .ref (E.1 304), .ref (E.1 305), .ref (E.1 306), .ref (E.1 307), .int (nI z.2.2.2.2.2.2.2.2.1), .int (b2i z.2.2.2.2.2.2.2.2.2.1), .int (b2i z.2.2.2.2.2.2.2.2.2.2.1)]))) 302 (xI S 400 ((tm1 (rg t t2) (it (wsF (rg t)) t2 (0, z.2.2.2.2.2.2.2.2.2.2.2.2.2.2.2.2.2.2.2.2.2.2.2.2.2.2.1))).2))) 302 (xI S 400 ((wnum ((rg t t2).toInt.natAbs) (tm1 (rg t t2) (it (wsF (rg t)) t2 (0, z.2.2.2.2.2.2.2.2.2.2.2.2.2.2.2.2.2.2.2.2.2.2.2.2.2.2.1)))).2))) 286 (.inr (8, [.int (nI z.1), .int (nI z.2.1), .int z.2.2.1, .int (nI z.2.2.2.1), .ref (E.1 287), .ref (E.1 288), .ref (E.1 289), .ref (E.1 290), .ref (E.1 291), .ref (E.1 292), .ref (E.1 293), .ref (E.1 294), .ref (E.1 295), .ref (E.1 296), .ref (E.1 297), .ref (E.1 298), .int (nI z.2.2.2.2.1), .ref (E.1 299), .ref (E.1 300), .ref (E.1 301), .ref (E.1 302), .int (nI z.2.2.2.2.2.1), .int (nI z.2.2.2.2.2.2.1), .int (nI ((wnum ((rg t t2).toInt.natAbs) (tm1 (rg t t2) (it (wsF (rg t)) t2 (0, z.2.2.2.2.2.2.2.2.2.2.2.2.2.2.2.2.2.2.2.2.2.2.2.2.2.2.1)))).1)), .ref (E.1 303), .ref (E.1 304), .ref (E.1 305), .ref (E.1 306), .ref (E.1 307), .int (nI z.2.2.2.2.2.2.2.2.1), .int (b2i z.2.2.2.2.2.2.2.2.2.1), .int (b2i z.2.2.2.2.2.2.2.2.2.2.1)]))) = (va_up (va_up g 286 (.inr (8, [.int (nI z.1), .int (nI z.2.1), .int z.2.2.1, .int (nI z.2.2.2.1), .ref (E.1 287), .ref (E.1 288), .ref (E.1 289), .ref (E.1 290), .ref (E.1 291), .ref (E.1 292), .ref (E.1 293), .ref (E.1 294), .ref (E.1 295), .ref (E.1 296), .ref (E.1 297), .ref (E.1 298), .int (nI z.2.2.2.2.1), .ref (E.1 299), .ref (E.1 300), .ref (E.1 301), .ref (E.1 302), .int (nI z.2.2.2.2.2.1), .int (nI z.2.2.2.2.2.2.1), .int (nI ((wnum ((rg t t2).toInt.natAbs) (tm1 (rg t t2) (it (wsF (rg t)) t2 (0, z.2.2.2.2.2.2.2.2.2.2.2.2.2.2.2.2.2.2.2.2.2.2.2.2.2.2.1)))).1)), .ref (E.1 303), .ref (E.1 304), .ref (E.1 305), .ref (E.1 306), .ref (E.1 307), .int (nI z.2.2.2.2.2.2.2.2.1), .int (b2i z.2.2.2.2.2.2.2.2.2.1), .int (b2i z.2.2.2.2.2.2.2.2.2.2.1)]))) 302 (xI S 400 ((wnum ((rg t t2).toInt.natAbs) (tm1 (rg t t2) (it (wsF (rg t)) t2 (0, z.2.2.2.2.2.2.2.2.2.2.2.2.2.2.2.2.2.2.2.2.2.2.2.2.2.2.1)))).2))) from by funext q; simp only [va_up]; (repeat' split) <;> first | rfl | omega) ?_
              have e5 : tm2 (rg t t2).toInt.natAbs t2 (tm1 (rg t t2) (it (wsF (rg t)) t2 (0, z.2.2.2.2.2.2.2.2.2.2.2.2.2.2.2.2.2.2.2.2.2.2.2.2.2.2.1))) = wnum ((rg t t2).toInt.natAbs) (tm1 (rg t t2) (it (wsF (rg t)) t2 (0, z.2.2.2.2.2.2.2.2.2.2.2.2.2.2.2.2.2.2.2.2.2.2.2.2.2.2.1))) := if_neg (by omega)
              rw [e5] at k95
              exact k95
            · have h75 := z_ne (by omega) h75
              refine r_lload_n (pc := 78) C dX8_format_78 rfl ?_
              refine r_callS (pc := 79) C dX8_format_79 cs_RX8_169 (c_X8_absolute ((rg t t2).toInt64)) ⟨rfl, rfl, by decide, by decide⟩ rfl rfl (Nat.le_of_ble_eq_true rfl) ⟨Nat.zero_le _, Nat.zero_le _⟩ ?_
              rintro _ _ ⟨_, rfl, rfl, rfl⟩
              show G M S E (0, 0) (va_up (va_up g 286 (.inr (8, [.int (nI z.1), .int (nI z.2.1), .int z.2.2.1, .int (nI z.2.2.2.1), .ref (E.1 287), .ref (E.1 288), .ref (E.1 289), .ref (E.1 290), .ref (E.1 291), .ref (E.1 292), .ref (E.1 293), .ref (E.1 294), .ref (E.1 295), .ref (E.1 296), .ref (E.1 297), .ref (E.1 298), .int (nI z.2.2.2.2.1), .ref (E.1 299), .ref (E.1 300), .ref (E.1 301), .ref (E.1 302), .int (nI z.2.2.2.2.2.1), .int (nI z.2.2.2.2.2.2.1), .int (nI ((tm1 (rg t t2) (it (wsF (rg t)) t2 (0, z.2.2.2.2.2.2.2.2.2.2.2.2.2.2.2.2.2.2.2.2.2.2.2.2.2.2.1))).1)), .ref (E.1 303), .ref (E.1 304), .ref (E.1 305), .ref (E.1 306), .ref (E.1 307), .int (nI z.2.2.2.2.2.2.2.2.1), .int (b2i z.2.2.2.2.2.2.2.2.2.1), .int (b2i z.2.2.2.2.2.2.2.2.2.2.1)]))) 302 (xI S 400 ((tm1 (rg t t2) (it (wsF (rg t)) t2 (0, z.2.2.2.2.2.2.2.2.2.2.2.2.2.2.2.2.2.2.2.2.2.2.2.2.2.2.1))).2))) 82 [some (.ref (E.1 286)), some (.int (nI t)), some (.int (nI t2)), some (.long ((rg t t2).toInt64)), none] [.long (abL ((rg t t2).toInt64))]
              refine r_tl (jN (rg t t2).toInt.natAbs) (abL_nat hA2.2) ?_
              refine r_lconst (pc := 82) (v := 1) C dX8_format_82 rfl ?_
              refine r_lcmp (pc := 83) C dX8_format_83 ?_
              refine r_if_eq (pc := 84) (tgt := 95) C dX8_format_84 (by decide) (fun h84 => ?_) (fun h84 => ?_)
              · have h84 := k_eq h84
                have h1a : (rg t t2).toInt.natAbs = 1 := by have := congrArg Int64.toInt h84; rw [jN_toInt (by omega)] at this; have e1 : (1 : Int64).toInt = 1 := rfl; omega
                have e5 : tm2 (rg t t2).toInt.natAbs t2 (tm1 (rg t t2) (it (wsF (rg t)) t2 (0, z.2.2.2.2.2.2.2.2.2.2.2.2.2.2.2.2.2.2.2.2.2.2.2.2.2.2.1))) = tm1 (rg t t2) (it (wsF (rg t)) t2 (0, z.2.2.2.2.2.2.2.2.2.2.2.2.2.2.2.2.2.2.2.2.2.2.2.2.2.2.1)) := if_pos ⟨h1a, by omega⟩
                rw [e5] at k95
                exact k95
              · have h84 := k_ne h84
                have h1a : ¬ (rg t t2).toInt.natAbs = 1 := fun e => h84 (by rw [e]; rfl)
                refine r_aload_n (pc := 87) C dX8_format_87 rfl ?_
                refine r_lload_n (pc := 88) C dX8_format_88 rfl ?_
                refine r_callS (pc := 89) C dX8_format_89 cs_RX8_169 (c_X8_absolute ((rg t t2).toInt64)) ⟨rfl, rfl, by decide, by decide⟩ rfl rfl (Nat.le_of_ble_eq_true rfl) ⟨Nat.zero_le _, Nat.zero_le _⟩ ?_
                rintro _ _ ⟨_, rfl, rfl, rfl⟩
                show G M S E (0, 0) (va_up (va_up g 286 (.inr (8, [.int (nI z.1), .int (nI z.2.1), .int z.2.2.1, .int (nI z.2.2.2.1), .ref (E.1 287), .ref (E.1 288), .ref (E.1 289), .ref (E.1 290), .ref (E.1 291), .ref (E.1 292), .ref (E.1 293), .ref (E.1 294), .ref (E.1 295), .ref (E.1 296), .ref (E.1 297), .ref (E.1 298), .int (nI z.2.2.2.2.1), .ref (E.1 299), .ref (E.1 300), .ref (E.1 301), .ref (E.1 302), .int (nI z.2.2.2.2.2.1), .int (nI z.2.2.2.2.2.2.1), .int (nI ((tm1 (rg t t2) (it (wsF (rg t)) t2 (0, z.2.2.2.2.2.2.2.2.2.2.2.2.2.2.2.2.2.2.2.2.2.2.2.2.2.2.1))).1)), .ref (E.1 303), .ref (E.1 304), .ref (E.1 305), .ref (E.1 306), .ref (E.1 307), .int (nI z.2.2.2.2.2.2.2.2.1), .int (b2i z.2.2.2.2.2.2.2.2.2.1), .int (b2i z.2.2.2.2.2.2.2.2.2.2.1)]))) 302 (xI S 400 ((tm1 (rg t t2) (it (wsF (rg t)) t2 (0, z.2.2.2.2.2.2.2.2.2.2.2.2.2.2.2.2.2.2.2.2.2.2.2.2.2.2.1))).2))) 92 [some (.ref (E.1 286)), some (.int (nI t)), some (.int (nI t2)), some (.long ((rg t t2).toInt64)), none] [.long (abL ((rg t t2).toInt64)), .ref (E.1 286)]
                refine r_tl (jN (rg t t2).toInt.natAbs) (abL_nat hA2.2) ?_
                refine r_callV (pc := 92) C dX8_format_92 cv_RX8_283 (c_X8_writeNumber (b := tm1 (rg t t2) (it (wsF (rg t)) t2 (0, z.2.2.2.2.2.2.2.2.2.2.2.2.2.2.2.2.2.2.2.2.2.2.2.2.2.2.1))) (Ce.up (Ce.new hM.1) (by decide)) (Ce.new (Ce.up hM.2.2.2.2.2.2.2.2.2.2.2.2.2.2.2.2.1 (by decide))) ((rg t t2).toInt.natAbs) hab1 hab (by omega)) ⟨rfl, rfl, by decide, by decide⟩ (Ce.up (Ce.new hM.1) (by decide)) rfl rfl (Nat.le_of_ble_eq_true rfl) ⟨Nat.zero_le _, Nat.zero_le _⟩ ?_
                rintro _ _ ⟨rfl, rfl⟩
                show G M S E (0, 0) (va_up (va_up (va_up (va_up g 286 (.inr (8, [.int (nI z.1), .int (nI z.2.1), .int z.2.2.1, .int (nI z.2.2.2.1), .ref (E.1 287), .ref (E.1 288), .ref (E.1 289), .ref (E.1 290), .ref (E.1 291), .ref (E.1 292), .ref (E.1 293), .ref (E.1 294), .ref (E.1 295), .ref (E.1 296), .ref (E.1 297), .ref (E.1 298), .int (nI z.2.2.2.2.1), .ref (E.1 299), .ref (E.1 300), .ref (E.1 301), .ref (E.1 302), .int (nI z.2.2.2.2.2.1), .int (nI z.2.2.2.2.2.2.1), .int (nI ((tm1 (rg t t2) (it (wsF (rg t)) t2 (0, z.2.2.2.2.2.2.2.2.2.2.2.2.2.2.2.2.2.2.2.2.2.2.2.2.2.2.1))).1)), .ref (E.1 303), .ref (E.1 304), .ref (E.1 305), .ref (E.1 306), .ref (E.1 307), .int (nI z.2.2.2.2.2.2.2.2.1), .int (b2i z.2.2.2.2.2.2.2.2.2.1), .int (b2i z.2.2.2.2.2.2.2.2.2.2.1)]))) 302 (xI S 400 ((tm1 (rg t t2) (it (wsF (rg t)) t2 (0, z.2.2.2.2.2.2.2.2.2.2.2.2.2.2.2.2.2.2.2.2.2.2.2.2.2.2.1))).2))) 302 (xI S 400 ((wnum ((rg t t2).toInt.natAbs) (tm1 (rg t t2) (it (wsF (rg t)) t2 (0, z.2.2.2.2.2.2.2.2.2.2.2.2.2.2.2.2.2.2.2.2.2.2.2.2.2.2.1)))).2))) 286 (.inr (8, [.int (nI z.1), .int (nI z.2.1), .int z.2.2.1, .int (nI z.2.2.2.1), .ref (E.1 287), .ref (E.1 288), .ref (E.1 289), .ref (E.1 290), .ref (E.1 291), .ref (E.1 292), .ref (E.1 293), .ref (E.1 294), .ref (E.1 295), .ref (E.1 296), .ref (E.1 297), .ref (E.1 298), .int (nI z.2.2.2.2.1), .ref (E.1 299), .ref (E.1 300), .ref (E.1 301), .ref (E.1 302), .int (nI z.2.2.2.2.2.1), .int (nI z.2.2.2.2.2.2.1), .int (nI ((wnum ((rg t t2).toInt.natAbs) (tm1 (rg t t2) (it (wsF (rg t)) t2 (0, z.2.2.2.2.2.2.2.2.2.2.2.2.2.2.2.2.2.2.2.2.2.2.2.2.2.2.1)))).1)), .ref (E.1 303), .ref (E.1 304), .ref (E.1 305), .ref (E.1 306), .ref (E.1 307), .int (nI z.2.2.2.2.2.2.2.2.1), .int (b2i z.2.2.2.2.2.2.2.2.2.1), .int (b2i z.2.2.2.2.2.2.2.2.2.2.1)]))) 95 [some (.ref (E.1 286)), some (.int (nI t)), some (.int (nI t2)), some (.long ((rg t t2).toInt64)), none] []
                refine G.heap (show (va_up (va_up (va_up (va_up g 286 (.inr (8, [.int (nI z.1), .int (nI z.2.1), .int z.2.2.1, .int (nI z.2.2.2.1), .ref (E.1 287), .ref (E.1 288), .ref (E.1 289), .ref (E.1 290), .ref (E.1 291), .ref (E.1 292), .ref (E.1 293), .ref (E.1 294), .ref (E.1 295), .ref (E.1 296), .ref (E.1 297), .ref (E.1 298), .int (nI z.2.2.2.2.1), .ref (E.1 299), .ref (E.1 300), .ref (E.1 301), .ref (E.1 302), .int (nI z.2.2.2.2.2.1), .int (nI z.2.2.2.2.2.2.1), .int (nI ((tm1 (rg t t2) (it (wsF (rg t)) t2 (0, z.2.2.2.2.2.2.2.2.2.2.2.2.2.2.2.2.2.2.2.2.2.2.2.2.2.2.1))).1)), .ref (E.1 303), .ref (E.1 304), .ref (E.1 305), .ref (E.1 306), .ref (E.1 307), .int (nI z.2.2.2.2.2.2.2.2.1), .int (b2i z.2.2.2.2.2.2.2.2.2.1), .int (b2i z.2.2.2.2.2.2.2.2.2.2.1)]))) 302 (xI S 400 ((tm1 (rg t t2) (it (wsF (rg t)) t2 (0, z.2.2.2.2.2.2.2.2.2.2.2.2.2.2.2.2.2.2.2.2.2.2.2.2.2.2.1))).2))) 302 (xI S 400 ((wnum ((rg t t2).toInt.natAbs) (tm1 (rg t t2) (it (wsF (rg t)) t2 (0, z.2.2.2.2.2.2.2.2.2.2.2.2.2.2.2.2.2.2.2.2.2.2.2.2.2.2.1)))).2))) 286 (.inr (8, [.int (nI z.1), .int (nI z.2.1), .int z.2.2.1, .int (nI z.2.2.2.1), .ref (E.1 287), .ref (E.1 288), .ref (E.1 289), .ref (E.1 290), .ref (E.1 291), .ref (E.1 292), .ref (E.1 293), .ref (E.1 294), .ref (E.1 295), .ref (E.1 296), .ref (E.1 297), .ref (E.1 298), .int (nI z.2.2.2.2.1), .ref (E.1 299), .ref (E.1 300), .ref (E.1 301), .ref (E.1 302), .int (nI z.2.2.2.2.2.1), .int (nI z.2.2.2.2.2.2.1), .int (nI ((wnum ((rg t t2).toInt.natAbs) (tm1 (rg t t2) (it (wsF (rg t)) t2 (0, z.2.2.2.2.2.2.2.2.2.2.2.2.2.2.2.2.2.2.2.2.2.2.2.2.2.2.1)))).1)), .ref (E.1 303), .ref (E.1 304), .ref (E.1 305), .ref (E.1 306), .ref (E.1 307), .int (nI z.2.2.2.2.2.2.2.2.1), .int (b2i z.2.2.2.2.2.2.2.2.2.1), .int (b2i z.2.2.2.2.2.2.2.2.2.2.1)]))) = (va_up (va_up g 286 (.inr (8, [.int (nI z.1), .int (nI z.2.1), .int z.2.2.1, .int (nI z.2.2.2.1), .ref (E.1 287), .ref (E.1 288), .ref (E.1 289), .ref (E.1 290), .ref (E.1 291), .ref (E.1 292), .ref (E.1 293), .ref (E.1 294), .ref (E.1 295), .ref (E.1 296), .ref (E.1 297), .ref (E.1 298), .int (nI z.2.2.2.2.1), .ref (E.1 299), .ref (E.1 300), .ref (E.1 301), .ref (E.1 302), .int (nI z.2.2.2.2.2.1), .int (nI z.2.2.2.2.2.2.1), .int (nI ((wnum ((rg t t2).toInt.natAbs) (tm1 (rg t t2) (it (wsF (rg t)) t2 (0, z.2.2.2.2.2.2.2.2.2.2.2.2.2.2.2.2.2.2.2.2.2.2.2.2.2.2.1)))).1)), .ref (E.1 303), .ref (E.1 304), .ref (E.1 305), .ref (E.1 306), .ref (E.1 307), .int (nI z.2.2.2.2.2.2.2.2.1), .int (b2i z.2.2.2.2.2.2.2.2.2.1), .int (b2i z.2.2.2.2.2.2.2.2.2.2.1)]))) 302 (xI S 400 ((wnum ((rg t t2).toInt.natAbs) (tm1 (rg t t2) (it (wsF (rg t)) t2 (0, z.2.2.2.2.2.2.2.2.2.2.2.2.2.2.2.2.2.2.2.2.2.2.2.2.2.2.1)))).2))) from by funext q; simp only [va_up]; (repeat' split) <;> first | rfl | omega) ?_
                have e5 : tm2 (rg t t2).toInt.natAbs t2 (tm1 (rg t t2) (it (wsF (rg t)) t2 (0, z.2.2.2.2.2.2.2.2.2.2.2.2.2.2.2.2.2.2.2.2.2.2.2.2.2.2.1))) = wnum ((rg t t2).toInt.natAbs) (tm1 (rg t t2) (it (wsF (rg t)) t2 (0, z.2.2.2.2.2.2.2.2.2.2.2.2.2.2.2.2.2.2.2.2.2.2.2.2.2.2.1))) := if_neg (by omega)
                rw [e5] at k95
                exact k95
          refine r_lload_n (pc := 46) C dX8_format_46 rfl ?_
          refine r_lconst (pc := 47) (v := 0) C dX8_format_47 rfl ?_
          refine r_lcmp (pc := 48) C dX8_format_48 ?_
          refine r_if_ge (pc := 49) (tgt := 61) C dX8_format_49 (by decide) (fun h49 => ?_) (fun h49 => ?_)
          · have h49 := k_ge h49
            have h0 := t64_ge.mp h49
            refine r_aload_n (pc := 61) C dX8_format_61 rfl ?_
            refine r_getf (pc := 62) C dX8_format_62 fl_RX8_274 (Ce.up (Ce.new hM.1) (by decide)) rfl ?_
            refine r_if_le (pc := 65) (tgt := 74) C dX8_format_65 (by decide) (fun h65 => ?_) (fun h65 => ?_)
            · have h65 := z_le (by omega) h65
              have e5 : tm1 (rg t t2) (it (wsF (rg t)) t2 (0, z.2.2.2.2.2.2.2.2.2.2.2.2.2.2.2.2.2.2.2.2.2.2.2.2.2.2.1)) = it (wsF (rg t)) t2 (0, z.2.2.2.2.2.2.2.2.2.2.2.2.2.2.2.2.2.2.2.2.2.2.2.2.2.2.1) := by unfold tm1; rw [if_pos h0, if_pos h65]
              rw [e5] at k74
              exact k74
            · have h65 := z_nle (by omega) h65
              refine r_aload_n (pc := 68) C dX8_format_68 rfl ?_
              refine r_bipush (pc := 69) (v := nI 43) C dX8_format_69 (by decide +kernel) ?_
              refine r_callV (pc := 71) C dX8_format_71 cv_RX8_279 (c_X8_write2 (b := it (wsF (rg t)) t2 (0, z.2.2.2.2.2.2.2.2.2.2.2.2.2.2.2.2.2.2.2.2.2.2.2.2.2.2.1)) (Ce.up (Ce.new hM.1) (by decide)) (Ce.new (Ce.up hM.2.2.2.2.2.2.2.2.2.2.2.2.2.2.2.2.1 (by decide))) 43 (by omega)) ⟨rfl, rfl, by decide, by decide⟩ (Ce.up (Ce.new hM.1) (by decide)) rfl rfl (Nat.le_of_ble_eq_true rfl) ⟨Nat.zero_le _, Nat.zero_le _⟩ ?_
              rintro _ _ ⟨rfl, rfl⟩
              show G M S E (0, 0) (va_up (va_up (va_up (va_up g 286 (.inr (8, [.int (nI z.1), .int (nI z.2.1), .int z.2.2.1, .int (nI z.2.2.2.1), .ref (E.1 287), .ref (E.1 288), .ref (E.1 289), .ref (E.1 290), .ref (E.1 291), .ref (E.1 292), .ref (E.1 293), .ref (E.1 294), .ref (E.1 295), .ref (E.1 296), .ref (E.1 297), .ref (E.1 298), .int (nI z.2.2.2.2.1), .ref (E.1 299), .ref (E.1 300), .ref (E.1 301), .ref (E.1 302), .int (nI z.2.2.2.2.2.1), .int (nI z.2.2.2.2.2.2.1), .int (nI ((it (wsF (rg t)) t2 (0, z.2.2.2.2.2.2.2.2.2.2.2.2.2.2.2.2.2.2.2.2.2.2.2.2.2.2.1)).1)), .ref (E.1 303), .ref (E.1 304), .ref (E.1 305), .ref (E.1 306), .ref (E.1 307), .int (nI z.2.2.2.2.2.2.2.2.1), .int (b2i z.2.2.2.2.2.2.2.2.2.1), .int (b2i z.2.2.2.2.2.2.2.2.2.2.1)]))) 302 (xI S 400 ((it (wsF (rg t)) t2 (0, z.2.2.2.2.2.2.2.2.2.2.2.2.2.2.2.2.2.2.2.2.2.2.2.2.2.2.1)).2))) 302 (xI S 400 ((wput 43 (it (wsF (rg t)) t2 (0, z.2.2.2.2.2.2.2.2.2.2.2.2.2.2.2.2.2.2.2.2.2.2.2.2.2.2.1))).2))) 286 (.inr (8, [.int (nI z.1), .int (nI z.2.1), .int z.2.2.1, .int (nI z.2.2.2.1), .ref (E.1 287), .ref (E.1 288), .ref (E.1 289), .ref (E.1 290), .ref (E.1 291), .ref (E.1 292), .ref (E.1 293), .ref (E.1 294), .ref (E.1 295), .ref (E.1 296), .ref (E.1 297), .ref (E.1 298), .int (nI z.2.2.2.2.1), .ref (E.1 299), .ref (E.1 300), .ref (E.1 301), .ref (E.1 302), .int (nI z.2.2.2.2.2.1), .int (nI z.2.2.2.2.2.2.1), .int (nI ((wput 43 (it (wsF (rg t)) t2 (0, z.2.2.2.2.2.2.2.2.2.2.2.2.2.2.2.2.2.2.2.2.2.2.2.2.2.2.1))).1)), .ref (E.1 303), .ref (E.1 304), .ref (E.1 305), .ref (E.1 306), .ref (E.1 307), .int (nI z.2.2.2.2.2.2.2.2.1), .int (b2i z.2.2.2.2.2.2.2.2.2.1), .int (b2i z.2.2.2.2.2.2.2.2.2.2.1)]))) 74 [some (.ref (E.1 286)), some (.int (nI t)), some (.int (nI t2)), some (.long ((rg t t2).toInt64)), none] []
              refine G.heap (show (va_up (va_up (va_up (va_up g 286 (.inr (8, [.int (nI z.1), .int (nI z.2.1), .int z.2.2.1, .int (nI z.2.2.2.1), .ref (E.1 287), .ref (E.1 288), .ref (E.1 289), .ref (E.1 290), .ref (E.1 291), .ref (E.1 292), .ref (E.1 293), .ref (E.1 294), .ref (E.1 295), .ref (E.1 296), .ref (E.1 297), .ref (E.1 298), .int (nI z.2.2.2.2.1), .ref (E.1 299), .ref (E.1 300), .ref (E.1 301), .ref (E.1 302), .int (nI z.2.2.2.2.2.1), .int (nI z.2.2.2.2.2.2.1), .int (nI ((it (wsF (rg t)) t2 (0, z.2.2.2.2.2.2.2.2.2.2.2.2.2.2.2.2.2.2.2.2.2.2.2.2.2.2.1)).1)), .ref (E.1 303), .ref (E.1 304), .ref (E.1 305), .ref (E.1 306), .ref (E.1 307), .int (nI z.2.2.2.2.2.2.2.2.1), .int (b2i z.2.2.2.2.2.2.2.2.2.1), .int (b2i z.2.2.2.2.2.2.2.2.2.2.1)]))) 302 (xI S 400 ((it (wsF (rg t)) t2 (0, z.2.2.2.2.2.2.2.2.2.2.2.2.2.2.2.2.2.2.2.2.2.2.2.2.2.2.1)).2))) 302 (xI S 400 ((wput 43 (it (wsF (rg t)) t2 (0, z.2.2.2.2.2.2.2.2.2.2.2.2.2.2.2.2.2.2.2.2.2.2.2.2.2.2.1))).2))) 286 (.inr (8, [.int (nI z.1), .int (nI z.2.1), .int z.2.2.1, .int (nI z.2.2.2.1), .ref (E.1 287), .ref (E.1 288), .ref (E.1 289), .ref (E.1 290), .ref (E.1 291), .ref (E.1 292), .ref (E.1 293), .ref (E.1 294), .ref (E.1 295), .ref (E.1 296), .ref (E.1 297), .ref (E.1 298), .int (nI z.2.2.2.2.1), .ref (E.1 299), .ref (E.1 300), .ref (E.1 301), .ref (E.1 302), .int (nI z.2.2.2.2.2.1), .int (nI z.2.2.2.2.2.2.1), .int (nI ((wput 43 (it (wsF (rg t)) t2 (0, z.2.2.2.2.2.2.2.2.2.2.2.2.2.2.2.2.2.2.2.2.2.2.2.2.2.2.1))).1)), .ref (E.1 303), .ref (E.1 304), .ref (E.1 305), .ref (E.1 306), .ref (E.1 307), .int (nI z.2.2.2.2.2.2.2.2.1), .int (b2i z.2.2.2.2.2.2.2.2.2.1), .int (b2i z.2.2.2.2.2.2.2.2.2.2.1)]))) = (va_up (va_up g 286 (.inr (8, [.int (nI z.1), .int (nI z.2.1), .int z.2.2.1, .int (nI z.2.2.2.1), .ref (E.1 287), .ref (E.1 288), .ref (E.1 289), .ref (E.1 290), .ref (E.1 291), .ref (E.1 292), .ref (E.1 293), .ref (E.1 294), .ref (E.1 295), .ref (E.1 296), .ref (E.1 297), .ref (E.1 298), .int (nI z.2.2.2.2.1), .ref (E.1 299), .ref (E.1 300), .ref (E.1 301), .ref (E.1 302), .int (nI z.2.2.2.2.2.1), .int (nI z.2.2.2.2.2.2.1), .int (nI ((wput 43 (it (wsF (rg t)) t2 (0, z.2.2.2.2.2.2.2.2.2.2.2.2.2.2.2.2.2.2.2.2.2.2.2.2.2.2.1))).1)), .ref (E.1 303), .ref (E.1 304), .ref (E.1 305), .ref (E.1 306), .ref (E.1 307), .int (nI z.2.2.2.2.2.2.2.2.1), .int (b2i z.2.2.2.2.2.2.2.2.2.1), .int (b2i z.2.2.2.2.2.2.2.2.2.2.1)]))) 302 (xI S 400 ((wput 43 (it (wsF (rg t)) t2 (0, z.2.2.2.2.2.2.2.2.2.2.2.2.2.2.2.2.2.2.2.2.2.2.2.2.2.2.1))).2))) from by funext q; simp only [va_up]; (repeat' split) <;> first | rfl | omega) ?_
              have e5 : tm1 (rg t t2) (it (wsF (rg t)) t2 (0, z.2.2.2.2.2.2.2.2.2.2.2.2.2.2.2.2.2.2.2.2.2.2.2.2.2.2.1)) = wput 43 (it (wsF (rg t)) t2 (0, z.2.2.2.2.2.2.2.2.2.2.2.2.2.2.2.2.2.2.2.2.2.2.2.2.2.2.1)) := by unfold tm1; rw [if_pos h0, if_neg (by omega)]
              rw [e5] at k74
              exact k74
          · have h49 := k_nge h49
            have h0 : ¬ 0 ≤ rg t t2 := fun e => h49 (t64_ge.mpr e)
            refine r_aload_n (pc := 52) C dX8_format_52 rfl ?_
            refine r_bipush (pc := 53) (v := nI 45) C dX8_format_53 (by decide +kernel) ?_
            refine r_callV (pc := 55) C dX8_format_55 cv_RX8_279 (c_X8_write2 (b := it (wsF (rg t)) t2 (0, z.2.2.2.2.2.2.2.2.2.2.2.2.2.2.2.2.2.2.2.2.2.2.2.2.2.2.1)) (Ce.up (Ce.new hM.1) (by decide)) (Ce.new (Ce.up hM.2.2.2.2.2.2.2.2.2.2.2.2.2.2.2.2.1 (by decide))) 45 (by omega)) ⟨rfl, rfl, by decide, by decide⟩ (Ce.up (Ce.new hM.1) (by decide)) rfl rfl (Nat.le_of_ble_eq_true rfl) ⟨Nat.zero_le _, Nat.zero_le _⟩ ?_
            rintro _ _ ⟨rfl, rfl⟩
            show G M S E (0, 0) (va_up (va_up (va_up (va_up g 286 (.inr (8, [.int (nI z.1), .int (nI z.2.1), .int z.2.2.1, .int (nI z.2.2.2.1), .ref (E.1 287), .ref (E.1 288), .ref (E.1 289), .ref (E.1 290), .ref (E.1 291), .ref (E.1 292), .ref (E.1 293), .ref (E.1 294), .ref (E.1 295), .ref (E.1 296), .ref (E.1 297), .ref (E.1 298), .int (nI z.2.2.2.2.1), .ref (E.1 299), .ref (E.1 300), .ref (E.1 301), .ref (E.1 302), .int (nI z.2.2.2.2.2.1), .int (nI z.2.2.2.2.2.2.1), .int (nI ((it (wsF (rg t)) t2 (0, z.2.2.2.2.2.2.2.2.2.2.2.2.2.2.2.2.2.2.2.2.2.2.2.2.2.2.1)).1)), .ref (E.1 303), .ref (E.1 304), .ref (E.1 305), .ref (E.1 306), .ref (E.1 307), .int (nI z.2.2.2.2.2.2.2.2.1), .int (b2i z.2.2.2.2.2.2.2.2.2.1), .int (b2i z.2.2.2.2.2.2.2.2.2.2.1)]))) 302 (xI S 400 ((it (wsF (rg t)) t2 (0, z.2.2.2.2.2.2.2.2.2.2.2.2.2.2.2.2.2.2.2.2.2.2.2.2.2.2.1)).2))) 302 (xI S 400 ((wput 45 (it (wsF (rg t)) t2 (0, z.2.2.2.2.2.2.2.2.2.2.2.2.2.2.2.2.2.2.2.2.2.2.2.2.2.2.1))).2))) 286 (.inr (8, [.int (nI z.1), .int (nI z.2.1), .int z.2.2.1, .int (nI z.2.2.2.1), .ref (E.1 287), .ref (E.1 288), .ref (E.1 289), .ref (E.1 290), .ref (E.1 291), .ref (E.1 292), .ref (E.1 293), .ref (E.1 294), .ref (E.1 295), .ref (E.1 296), .ref (E.1 297), .ref (E.1 298), .int (nI z.2.2.2.2.1), .ref (E.1 299), .ref (E.1 300), .ref (E.1 301), .ref (E.1 302), .int (nI z.2.2.2.2.2.1), .int (nI z.2.2.2.2.2.2.1), .int (nI ((wput 45 (it (wsF (rg t)) t2 (0, z.2.2.2.2.2.2.2.2.2.2.2.2.2.2.2.2.2.2.2.2.2.2.2.2.2.2.1))).1)), .ref (E.1 303), .ref (E.1 304), .ref (E.1 305), .ref (E.1 306), .ref (E.1 307), .int (nI z.2.2.2.2.2.2.2.2.1), .int (b2i z.2.2.2.2.2.2.2.2.2.1), .int (b2i z.2.2.2.2.2.2.2.2.2.2.1)]))) 58 [some (.ref (E.1 286)), some (.int (nI t)), some (.int (nI t2)), some (.long ((rg t t2).toInt64)), none] []
            refine G.heap (show (va_up (va_up (va_up (va_up g 286 (.inr (8, [.int (nI z.1), .int (nI z.2.1), .int z.2.2.1, .int (nI z.2.2.2.1), .ref (E.1 287), .ref (E.1 288), .ref (E.1 289), .ref (E.1 290), .ref (E.1 291), .ref (E.1 292), .ref (E.1 293), .ref (E.1 294), .ref (E.1 295), .ref (E.1 296), .ref (E.1 297), .ref (E.1 298), .int (nI z.2.2.2.2.1), .ref (E.1 299), .ref (E.1 300), .ref (E.1 301), .ref (E.1 302), .int (nI z.2.2.2.2.2.1), .int (nI z.2.2.2.2.2.2.1), .int (nI ((it (wsF (rg t)) t2 (0, z.2.2.2.2.2.2.2.2.2.2.2.2.2.2.2.2.2.2.2.2.2.2.2.2.2.2.1)).1)), .ref (E.1 303), .ref (E.1 304), .ref (E.1 305), .ref (E.1 306), .ref (E.1 307), .int (nI z.2.2.2.2.2.2.2.2.1), .int (b2i z.2.2.2.2.2.2.2.2.2.1), .int (b2i z.2.2.2.2.2.2.2.2.2.2.1)]))) 302 (xI S 400 ((it (wsF (rg t)) t2 (0, z.2.2.2.2.2.2.2.2.2.2.2.2.2.2.2.2.2.2.2.2.2.2.2.2.2.2.1)).2))) 302 (xI S 400 ((wput 45 (it (wsF (rg t)) t2 (0, z.2.2.2.2.2.2.2.2.2.2.2.2.2.2.2.2.2.2.2.2.2.2.2.2.2.2.1))).2))) 286 (.inr (8, [.int (nI z.1), .int (nI z.2.1), .int z.2.2.1, .int (nI z.2.2.2.1), .ref (E.1 287), .ref (E.1 288), .ref (E.1 289), .ref (E.1 290), .ref (E.1 291), .ref (E.1 292), .ref (E.1 293), .ref (E.1 294), .ref (E.1 295), .ref (E.1 296), .ref (E.1 297), .ref (E.1 298), .int (nI z.2.2.2.2.1), .ref (E.1 299), .ref (E.1 300), .ref (E.1 301), .ref (E.1 302), .int (nI z.2.2.2.2.2.1), .int (nI z.2.2.2.2.2.2.1), .int (nI ((wput 45 (it (wsF (rg t)) t2 (0, z.2.2.2.2.2.2.2.2.2.2.2.2.2.2.2.2.2.2.2.2.2.2.2.2.2.2.1))).1)), .ref (E.1 303), .ref (E.1 304), .ref (E.1 305), .ref (E.1 306), .ref (E.1 307), .int (nI z.2.2.2.2.2.2.2.2.1), .int (b2i z.2.2.2.2.2.2.2.2.2.1), .int (b2i z.2.2.2.2.2.2.2.2.2.2.1)]))) = (va_up (va_up g 286 (.inr (8, [.int (nI z.1), .int (nI z.2.1), .int z.2.2.1, .int (nI z.2.2.2.1), .ref (E.1 287), .ref (E.1 288), .ref (E.1 289), .ref (E.1 290), .ref (E.1 291), .ref (E.1 292), .ref (E.1 293), .ref (E.1 294), .ref (E.1 295), .ref (E.1 296), .ref (E.1 297), .ref (E.1 298), .int (nI z.2.2.2.2.1), .ref (E.1 299), .ref (E.1 300), .ref (E.1 301), .ref (E.1 302), .int (nI z.2.2.2.2.2.1), .int (nI z.2.2.2.2.2.2.1), .int (nI ((wput 45 (it (wsF (rg t)) t2 (0, z.2.2.2.2.2.2.2.2.2.2.2.2.2.2.2.2.2.2.2.2.2.2.2.2.2.2.1))).1)), .ref (E.1 303), .ref (E.1 304), .ref (E.1 305), .ref (E.1 306), .ref (E.1 307), .int (nI z.2.2.2.2.2.2.2.2.1), .int (b2i z.2.2.2.2.2.2.2.2.2.1), .int (b2i z.2.2.2.2.2.2.2.2.2.2.1)]))) 302 (xI S 400 ((wput 45 (it (wsF (rg t)) t2 (0, z.2.2.2.2.2.2.2.2.2.2.2.2.2.2.2.2.2.2.2.2.2.2.2.2.2.2.1))).2))) from by funext q; simp only [va_up]; (repeat' split) <;> first | rfl | omega) ?_
            refine r_goto (pc := 58) (tgt := 74) C dX8_format_58 (by decide) ?_
            have e5 : tm1 (rg t t2) (it (wsF (rg t)) t2 (0, z.2.2.2.2.2.2.2.2.2.2.2.2.2.2.2.2.2.2.2.2.2.2.2.2.2.2.1)) = wput 45 (it (wsF (rg t)) t2 (0, z.2.2.2.2.2.2.2.2.2.2.2.2.2.2.2.2.2.2.2.2.2.2.2.2.2.2.1)) := by unfold tm1; rw [if_neg h0]
            rw [e5] at k74
            exact k74
        · have h40 := k_eq h40
          have hz := t64_0.mp h40
          refine r_goto (pc := 43) (tgt := 122) C dX8_format_43 (by decide) ?_
          refine r_iinc (pc := 122) (v := nI (t2 + 1)) C dX8_format_122 rfl (nI_i1 _) (by decide) ?_
          refine G.eq (pc' := 125) (vs' := [some (.ref (E.1 286)), some (.int (nI t)), some (.int (nI (t2 + 1))), some (.long ((rg t t2).toInt64)), none]) (st' := []) ?_
          refine r_goto (pc := 125) (tgt := 17) C dX8_format_125 (by decide) ?_
          have e3 : it (wsF (rg t)) (t2 + 1) (0, z.2.2.2.2.2.2.2.2.2.2.2.2.2.2.2.2.2.2.2.2.2.2.2.2.2.2.1) = it (wsF (rg t)) t2 (0, z.2.2.2.2.2.2.2.2.2.2.2.2.2.2.2.2.2.2.2.2.2.2.2.2.2.2.1) := if_pos hz
          rw [e3] at ih
          refine G.wk (vs' := [some (.ref (E.1 286)), some (.int (nI t)), some (.int (nI (t2 + 1))), none, none]) ⟨rfl, rfl, rfl, trivial⟩ ?_
          exact ih
  · have h4 := b_f h4
    refine r_bipush (pc := 7) (v := (-2)) C dX8_format_7 (by decide +kernel) ?_
    exact r_iret (pc := 9) C Z dX8_format_9 rfl (by rw [show qFmt z rg x = (-2, z) by simp only [qFmt, h4, cond_true, cond_false, if_true, if_false, not_true_eq_false, not_false_eq_true, ↓reduceIte]]; exact ⟨rfl, hM, Fr.rf⟩)
