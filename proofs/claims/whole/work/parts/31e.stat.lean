/-! value, statistic, rank, both sides -/
theorem bm63 {a : Int} (h1 : -(2 ^ 63) ≤ a) (h2 : a < 2 ^ 63) : a.bmod (2 ^ 64) = a := Int.bmod_eq_of_le (by omega) (by omega)
theorem rm_i64 (x : Int64) : (x - x / 1000003 * 1000003).toInt = x.toInt.tmod 1000003 := by
  have hx1 := x.le_toInt
  have hx2 := x.toInt_lt
  have h3 : (1000003 : Int64).toInt = 1000003 := by decide
  have a := Int.mul_tdiv_add_tmod x.toInt 1000003
  have b := Int.tmod_lt_of_pos x.toInt (show (0 : Int) < 1000003 by decide)
  have c := Int.lt_tmod_of_pos x.toInt (show (0 : Int) < 1000003 by decide)
  have q1 : (x / 1000003).toInt = x.toInt.tdiv 1000003 := by
    rw [Int64.toInt_div, h3]
    exact bm63 (by omega) (by omega)
  have q2 : (x / 1000003 * 1000003).toInt = x.toInt.tdiv 1000003 * 1000003 := by
    rw [Int64.toInt_mul, h3, q1]
    have s1 : 0 ≤ x.toInt → 0 ≤ x.toInt.tmod 1000003 := fun h => Int.tmod_nonneg _ h
    have s2 : x.toInt ≤ 0 → x.toInt.tmod 1000003 ≤ 0 := fun h => by
      have := Int.tmod_nonneg 1000003 (show 0 ≤ -x.toInt by omega)
      rw [Int.neg_tmod] at this
      omega
    exact bm63 (by omega) (by omega)
  rw [Int64.toInt_sub, q2]
  rw [show x.toInt - x.toInt.tdiv 1000003 * 1000003 = x.toInt.tmod 1000003 by omega]
  exact bm63 (by omega) (by omega)
theorem xor_neg (x : Int64) : (x ^^^ 1000003) < 0 ↔ x < 0 := by
  rw [Int64.lt_iff_toInt_lt, Int64.lt_iff_toInt_lt, show (0 : Int64).toInt = 0 by decide]
  have e : ∀ y : Int64, y.toInt < 0 ↔ y.toBitVec.msb = true := fun y => by
    rw [BitVec.msb_eq_toInt, decide_eq_true_eq]
    exact Iff.rfl
  rw [e, e, Int64.toBitVec_xor, BitVec.msb_xor, show (1000003 : Int64).toBitVec.msb = false by decide, Bool.xor_false]
theorem mod_eq (x : Int64) : flM x 1000003 = rmL x := by
  have hr := rm_i64 x
  have s1 : 0 ≤ x.toInt → 0 ≤ x.toInt.tmod 1000003 := fun h => Int.tmod_nonneg _ h
  have s2 : x.toInt ≤ 0 → x.toInt.tmod 1000003 ≤ 0 := fun h => by
    have := Int.tmod_nonneg 1000003 (show 0 ≤ -x.toInt by omega)
    rw [Int.neg_tmod] at this
    omega
  unfold flM rmL
  by_cases h : x < 0
  · rw [if_pos ((xor_neg x).mpr h)]
    rw [Int64.lt_iff_toInt_lt, show (0 : Int64).toInt = 0 by decide] at h
    by_cases e : x - x / 1000003 * 1000003 = 0
    · rw [if_pos e, if_pos (by rw [e]; decide)]
    · rw [if_neg e, if_neg (fun q => e (by
        rw [Int64.le_iff_toInt_le, hr, show (0 : Int64).toInt = 0 by decide] at q
        apply Int64.toInt_inj.mp
        rw [hr, show (0 : Int64).toInt = 0 by decide]
        have := s2 (by omega)
        omega))]
  · rw [if_neg (fun q => h ((xor_neg x).mp q)), if_pos (by
      rw [Int64.le_iff_toInt_le, hr, show (0 : Int64).toInt = 0 by decide]
      rw [Int64.lt_iff_toInt_lt, show (0 : Int64).toInt = 0 by decide] at h
      exact s1 (by omega))]
theorem val_eq {N : Nat} {a : Nat → Int32} {f : Nat → Int64} {i : Nat} {y : Int32} (hN : N ≤ 24) (ha : ∀ k, k < 24 → f (24 * i + k) = (a k).toInt64) : vaF N a (flM y.toInt64 1000003) N = vaZ N f i y N := by
  unfold vaF vaZ
  rw [mod_eq]
  generalize rmL y.toInt64 = p
  refine it_cong (fun j s hj => ?_)
  rw [ha (N - j - 1) (by omega)]
  exact mod_eq _
theorem rr_val {K : KV} {z : MZ} (h : RR K z) (x y : Int32) : oVal K x y = qVal z x y := by
  unfold oVal qVal
  rw [h.n]
  cases hx : hix 6 x with
  | false => rw [cond_false, cond_false]
  | true =>
    have hn := h.n24
    rw [cond_true, cond_true]
    rw [val_eq hn (fun k hk => h.fr _ k (hx6 hx) hk)]
/-! statistics -/
theorem jN_s {n : Nat} (h : n < 2 ^ 29) : jN n + 1 = jN (n + 1) := by
  rw [show (1 : Int64) = jN 1 by decide]
  exact jN_add (by omega) (by decide)
theorem jN_b {n : Nat} {b : Bool} (h : n < 2 ^ 29) : jN n + (bif b then 1 else 0) = jN (bif b then n + 1 else n) := by
  cases b with
  | true => exact jN_s h
  | false => exact Int64.add_zero _
theorem cntN_s {p : Nat → Bool} {n : Nat} : cntN p (n + 1) = bif p n then cntN p n + 1 else cntN p n := rfl
theorem cntN_le {p : Nat → Bool} : ∀ {n : Nat}, cntN p n ≤ n
  | 0 => Nat.le_refl _
  | n + 1 => by
    have := cntN_le (p := p) (n := n)
    show cntF p n (cntN p n) ≤ n + 1
    unfold cntF
    cases p n <;> simp <;> omega
theorem lt64 {x y : Int32} : x.toInt64 < y.toInt64 ↔ x < y := by
  rw [Int64.lt_iff_toInt_lt, Int32.toInt_toInt64, Int32.toInt_toInt64, Int32.lt_iff_toInt_lt]
theorem le64 {x y : Int32} : x.toInt64 ≤ y.toInt64 ↔ x ≤ y := by
  rw [Int64.le_iff_toInt_le, Int32.toInt_toInt64, Int32.toInt_toInt64, Int32.le_iff_toInt_le]
theorem lt_nle {x y : Int32} : x < y ↔ ¬ y ≤ x := by
  rw [Int32.lt_iff_toInt_lt, Int32.le_iff_toInt_le]; omega
theorem staC_0 (c l g n : Int64) : staC 0 c l g n = n + (bif decide (¬ c = 0) then 1 else 0) := rfl
theorem staC_1 (c l g n : Int64) : staC 1 c l g n = n + (bif decide (¬ 0 ≤ c) then 1 else 0) := rfl
theorem staC_2 (c l g n : Int64) : staC 2 c l g n = n + (bif chB c l then 1 else 0) := rfl
theorem staC_3 (c l g n : Int64) : staC 3 c l g n = if n < abL c then abL c else n := rfl
theorem staC_4 (c l g n : Int64) : staC 4 c l g n = n + (bif decide (g < c) then 1 else 0) := rfl
theorem sta0 {a : Nat → Int32} {f : Nat → Int64} {i : Nat} (ha : ∀ k, k < 24 → f (24 * i + k) = (a k).toInt64) : ∀ {n : Nat}, n ≤ 24 → (staZ f i 0 n).1 = jN (cntN (fun k => decide (¬ a k = 0)) n)
  | 0, _ => rfl
  | n + 1, h => by
    have ih := sta0 ha (n := n) (by omega)
    have hc := cntN_le (p := fun k => decide (¬ a k = 0)) (n := n)
    show staC 0 (f (24 * i + n)) _ _ (staZ f i 0 n).1 = _
    rw [staC_0, ih, jN_b (by omega), ha n (by omega)]
    refine congrArg jN ?_
    rw [cntN_s]
    rw [show decide (¬ (a n).toInt64 = 0) = decide (¬ a n = 0) from decide_eq_decide.mpr (not_congr i64_0)]
theorem sta1 {a : Nat → Int32} {f : Nat → Int64} {i : Nat} (ha : ∀ k, k < 24 → f (24 * i + k) = (a k).toInt64) : ∀ {n : Nat}, n ≤ 24 → (staZ f i 1 n).1 = jN (cntN (fun k => decide (a k < 0)) n)
  | 0, _ => rfl
  | n + 1, h => by
    have ih := sta1 ha (n := n) (by omega)
    have hc := cntN_le (p := fun k => decide (a k < 0)) (n := n)
    show staC 1 (f (24 * i + n)) _ _ (staZ f i 1 n).1 = _
    rw [staC_1, ih, jN_b (by omega), ha n (by omega)]
    refine congrArg jN ?_
    rw [cntN_s]
    rw [show decide (¬ 0 ≤ (a n).toInt64) = decide (a n < 0) from decide_eq_decide.mpr (by
      rw [show (0 : Int64) = (0 : Int32).toInt64 by decide, le64, lt_nle])]
theorem cmp0 (x : Int32) : cmpI x (nI 0) = if 0 ≤ x then (if x = 0 then 0 else 1) else -1 := rfl
theorem sta2 {a : Nat → Int32} {f : Nat → Int64} {i : Nat} (ha : ∀ k, k < 24 → f (24 * i + k) = (a k).toInt64) : ∀ {n : Nat}, n ≤ 24 → (it (sgF a) n (0, nI 0)).1 ≤ n ∧ (staZ f i 2 n).1 = jN (it (sgF a) n (0, nI 0)).1 ∧ ∃ l : Int32, (staZ f i 2 n).2.1 = l.toInt64 ∧ (it (sgF a) n (0, nI 0)).2 = cmpI l (nI 0)
  | 0, _ => ⟨Nat.le_refl _, rfl, 0, rfl, rfl⟩
  | n + 1, h => by
    obtain ⟨i1, i2, l, i3, i4⟩ := sta2 ha (n := n) (by omega)
    show (sgF a n (it (sgF a) n (0, nI 0))).1 ≤ n + 1 ∧ staC 2 (f (24 * i + n)) (staZ f i 2 n).2.1 _ (staZ f i 2 n).1 = jN (sgF a n (it (sgF a) n (0, nI 0))).1 ∧ ∃ l' : Int32, (if f (24 * i + n) = 0 then (staZ f i 2 n).2.1 else f (24 * i + n)) = l'.toInt64 ∧ (sgF a n (it (sgF a) n (0, nI 0))).2 = cmpI l' (nI 0)
    rw [ha n (by omega), i2, i3]
    revert i1 i4
    generalize it (sgF a) n (0, nI 0) = s
    obtain ⟨s1, s2⟩ := s
    intro i1 i4
    have i4 : s2 = cmpI l (nI 0) := i4
    have i1 : s1 ≤ n := i1
    subst i4
    rw [staC_2]
    unfold sgF
    show ((if cmpI (a n) (nI 0) = 0 then (s1, cmpI l (nI 0)) else (if cmpI (a n) (nI 0) = -cmpI l (nI 0) then s1 + 1 else s1, cmpI (a n) (nI 0))).1 ≤ n + 1) ∧ jN s1 + (bif chB (a n).toInt64 l.toInt64 then 1 else 0) = jN _ ∧ _
    rw [jN_b (by omega)]
    have c0 : (0 : Int64) = (0 : Int32).toInt64 := by decide
    have hch : chB (a n).toInt64 l.toInt64 = ((decide (¬ 0 ≤ a n) && decide (0 < l)) || (decide (0 < a n) && decide (¬ 0 ≤ l))) := by
      unfold chB
      rw [c0, show decide (¬ (0 : Int32).toInt64 ≤ (a n).toInt64) = decide (¬ 0 ≤ a n) from decide_eq_decide.mpr (not_congr le64), show decide ((0 : Int32).toInt64 < l.toInt64) = decide (0 < l) from decide_eq_decide.mpr lt64, show decide ((0 : Int32).toInt64 < (a n).toInt64) = decide (0 < a n) from decide_eq_decide.mpr lt64, show decide (¬ (0 : Int32).toInt64 ≤ l.toInt64) = decide (¬ 0 ≤ l) from decide_eq_decide.mpr (not_congr le64)]
    by_cases e0 : a n = 0
    · have k1 : cmpI (a n) (nI 0) = 0 := by rw [e0]; decide
      rw [if_pos k1, hch, e0, show decide (¬ (0 : Int32) ≤ 0) = false by decide, show decide ((0 : Int32) < 0) = false by decide, Bool.false_and, Bool.false_and]
      refine ⟨by show s1 ≤ n + 1; omega, rfl, l, ?_, rfl⟩
      rw [if_pos (i64_0.mpr rfl)]
    · have k0 : ¬ (a n).toInt64 = 0 := fun q => e0 (i64_0.mp q)
      rw [if_neg k0]
      have hne : (a n).toInt ≠ 0 := fun q => e0 (Int32.toInt_inj.mp q)
      have z0 : (0 : Int32).toInt = 0 := by decide
      by_cases hp : 0 ≤ a n
      · have k1 : cmpI (a n) (nI 0) = 1 := by rw [cmp0, if_pos hp, if_neg e0]
        have hp2 : 0 < a n := by
          rw [Int32.lt_iff_toInt_lt, z0]; rw [Int32.le_iff_toInt_le, z0] at hp; omega
        rw [k1, if_neg (by decide), hch, show decide (¬ 0 ≤ a n) = false from decide_eq_false (fun q => q hp), show decide (0 < a n) = true from decide_eq_true hp2, Bool.false_and, Bool.false_or, Bool.true_and]
        by_cases hl : 0 ≤ l
        · have k2 : ¬ (1 : Int32) = -cmpI l (nI 0) := by
            rw [cmp0, if_pos hl]
            by_cases q : l = 0
            · rw [if_pos q]; decide
            · rw [if_neg q]; decide
          rw [if_neg k2, show decide (¬ 0 ≤ l) = false from decide_eq_false (fun q => q hl)]
          exact ⟨by show s1 ≤ n + 1; omega, rfl, a n, rfl, k1.symm⟩
        · have k2 : (1 : Int32) = -cmpI l (nI 0) := by rw [cmp0, if_neg hl]; decide
          rw [if_pos k2, show decide (¬ 0 ≤ l) = true from decide_eq_true hl]
          exact ⟨by show s1 + 1 ≤ n + 1; omega, rfl, a n, rfl, k1.symm⟩
      · have k1 : cmpI (a n) (nI 0) = -1 := by rw [cmp0, if_neg hp]
        have hp2 : ¬ 0 < a n := by
          rw [Int32.lt_iff_toInt_lt, z0]; rw [Int32.le_iff_toInt_le, z0] at hp; omega
        rw [k1, if_neg (by decide), hch, show decide (¬ 0 ≤ a n) = true from decide_eq_true hp, show decide (0 < a n) = false from decide_eq_false hp2, Bool.false_and, Bool.or_false, Bool.true_and]
        by_cases hl : 0 < l
        · have hl2 : 0 ≤ l := by rw [Int32.le_iff_toInt_le, z0]; rw [Int32.lt_iff_toInt_lt, z0] at hl; omega
          have hl3 : ¬ l = 0 := fun q => by rw [q] at hl; exact absurd hl (by decide)
          have k2 : (-1 : Int32) = -cmpI l (nI 0) := by rw [cmp0, if_pos hl2, if_neg hl3]
          rw [if_pos k2, show decide (0 < l) = true from decide_eq_true hl]
          exact ⟨by show s1 + 1 ≤ n + 1; omega, rfl, a n, rfl, k1.symm⟩
        · have k2 : ¬ (-1 : Int32) = -cmpI l (nI 0) := by
            rw [cmp0]
            by_cases q : 0 ≤ l
            · have q2 : l = 0 := by
                apply Int32.toInt_inj.mp
                rw [z0]
                rw [Int32.le_iff_toInt_le, z0] at q
                rw [Int32.lt_iff_toInt_lt, z0] at hl
                omega
              rw [if_pos q, if_pos q2]; decide
            · rw [if_neg q]; decide
          rw [if_neg k2, show decide (0 < l) = false from decide_eq_false hl]
          exact ⟨by show s1 ≤ n + 1; omega, rfl, a n, rfl, k1.symm⟩
theorem sta3 {a : Nat → Int32} {f : Nat → Int64} {i : Nat} (ha : ∀ k, k < 24 → f (24 * i + k) = (a k).toInt64) (hr : ∀ k, rgI (a k)) : ∀ {n : Nat}, n ≤ 24 → (staZ f i 3 n).1 = (it (laF a) n (nI 0)).toInt64
  | 0, _ => rfl
  | n + 1, h => by
    have ih := sta3 ha hr (n := n) (by omega)
    show staC 3 (f (24 * i + n)) (staZ f i 3 n).2.1 (staZ f i 3 n).2.2 (staZ f i 3 n).1 = (laF a n (it (laF a) n (nI 0))).toInt64
    have e : abL (a n).toInt64 = (absI (a n)).toInt64 := by rw [abL_nat (hr n), absI_nI (hr n)]; rfl
    rw [staC_3]
    show _ = (if it (laF a) n (nI 0) < absI (a n) then absI (a n) else it (laF a) n (nI 0)).toInt64
    rw [ih, ha n (by omega), e]
    by_cases q : it (laF a) n (nI 0) < absI (a n)
    · rw [if_pos q, if_pos (lt64.mpr q)]
    · rw [if_neg q, if_neg (fun s => q (lt64.mp s))]
theorem sta4 {a : Nat → Int32} {f : Nat → Int64} {i : Nat} (ha : ∀ k, k < 24 → f (24 * i + k) = (a k).toInt64) : ∀ {n : Nat}, n < 24 → (it (rcF a) n (1, a 0)).1 ≤ n + 1 ∧ (staZ f i 4 (n + 1)).1 = jN (it (rcF a) n (1, a 0)).1 ∧ (staZ f i 4 (n + 1)).2.2 = (it (rcF a) n (1, a 0)).2.toInt64
  | 0, _ => by
    have l0 : (-9223372036854775808 : Int64) < (a 0).toInt64 := by
      rw [Int64.lt_iff_toInt_lt, Int32.toInt_toInt64, show (-9223372036854775808 : Int64).toInt = -9223372036854775808 by decide]
      have := (a 0).le_toInt
      omega
    refine ⟨Nat.le_refl _, ?_, ?_⟩
    · show staC 4 (f (24 * i + 0)) 0 (-9223372036854775808) 0 = jN 1
      rw [staC_4, ha 0 (by decide), show decide ((-9223372036854775808 : Int64) < (a 0).toInt64) = true from decide_eq_true l0]
      decide
    · show (if (-9223372036854775808 : Int64) < f (24 * i + 0) then f (24 * i + 0) else _) = (a 0).toInt64
      rw [ha 0 (by decide), if_pos l0]
  | n + 1, h => by
    obtain ⟨i1, i2, i3⟩ := sta4 ha (n := n) (by omega)
    show (rcF a n (it (rcF a) n (1, a 0))).1 ≤ n + 1 + 1 ∧ staC 4 (f (24 * i + (n + 1))) (staZ f i 4 (n + 1)).2.1 (staZ f i 4 (n + 1)).2.2 (staZ f i 4 (n + 1)).1 = jN (rcF a n (it (rcF a) n (1, a 0))).1 ∧ (if (staZ f i 4 (n + 1)).2.2 < f (24 * i + (n + 1)) then f (24 * i + (n + 1)) else (staZ f i 4 (n + 1)).2.2) = (rcF a n (it (rcF a) n (1, a 0))).2.toInt64
    rw [ha (n + 1) (by omega), i2, i3]
    revert i1
    generalize it (rcF a) n (1, a 0) = s
    intro i1
    rw [staC_4]
    unfold rcF
    rw [jN_b (by omega), Nat.add_comm 1 n]
    by_cases q : a (n + 1) ≤ s.2
    · rw [if_pos q, if_neg (fun w => lt_nle.mp (lt64.mp w) q), show decide (s.2.toInt64 < (a (n + 1)).toInt64) = false from decide_eq_false (fun w => lt_nle.mp (lt64.mp w) q)]
      exact ⟨by omega, rfl, rfl⟩
    · rw [if_neg q, if_pos (lt64.mpr (lt_nle.mpr q)), show decide (s.2.toInt64 < (a (n + 1)).toInt64) = true from decide_eq_true (lt64.mpr (lt_nle.mpr q))]
      exact ⟨by show s.1 + 1 ≤ _; omega, rfl, rfl⟩
theorem jN_32 (n : Nat) : (jN n).toInt32 = nI n := Int32.toInt32_toInt64 _
theorem rr_sta {K : KV} {z : MZ} (h : RR K z) (x y : Int32) : oSta K x y = qSta z x y := by
  have hn := h.n24
  have hn4 := h.n4
  unfold oSta qSta
  rw [h.n]
  cases hx : hix 6 x with
  | false => rfl
  | true =>
    have ha := fun k hk => h.fr _ k (hx6 hx) hk
    cases hy : btw y.toInt64 0 4 with
    | false =>
      simp only [cond_true, cond_false]
      have e : ∀ t : Nat, t ≤ 4 → ¬ y = nI t := fun t ht q => by
        have hb : btw (nI t).toInt64 0 4 = true := by rw [btw_hix (n := 5) (by decide) (by decide)]; exact nI_hix (by omega) (by decide)
        rw [q, hb] at hy
        exact absurd hy (by decide)
      rw [if_neg (e 0 (by omega)), if_neg (e 1 (by omega)), if_neg (e 2 (by omega)), if_neg (e 3 (by omega)), if_neg (e 4 (by omega))]
    | true =>
      simp only [cond_true]
      rw [btw_hix (n := 5) (by decide) (by decide)] at hy
      obtain ⟨t, rfl, ht⟩ := hix_nat hy (by decide)
      rw [iN_nI (t := t) (by omega)]
      match t, ht with
      | 0, _ => rw [if_pos rfl, sta0 ha hn, jN_32]; rfl
      | 1, _ => rw [if_neg (by decide), if_pos rfl, sta1 ha hn, jN_32]
      | 2, _ => rw [if_neg (by decide), if_neg (by decide), if_pos rfl, (sta2 ha hn).2.1, jN_32]
      | 3, _ => rw [if_neg (by decide), if_neg (by decide), if_neg (by decide), if_pos rfl, sta3 ha (h.row (hx6 hx)).2 hn, Int32.toInt32_toInt64]
      | 4, _ =>
        have e := (sta4 ha (n := K.2.1.1 - 1) (by omega)).2.1
        rw [show K.2.1.1 - 1 + 1 = K.2.1.1 by omega] at e
        rw [if_neg (by decide), if_neg (by decide), if_neg (by decide), if_neg (by decide), if_pos rfl, e, jN_32]
      | t + 5, ht => omega
