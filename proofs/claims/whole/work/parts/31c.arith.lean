/-! the arithmetic of registers, both sides -/
abbrev Sm (K : KV) (z : MZ) (a : Int32 × KV) (b : Int32 × MZ) : Prop := a.1 = b.1 ∧ RR a.2 b.2
theorem Sm.same {K : KV} {z : MZ} (h : RR K z) (x : Int32) : Sm K z (x, K) (x, z) := ⟨rfl, h⟩
theorem hx6 {x : Int32} (h : hix 6 x = true) : iN x < 6 := by
  obtain ⟨t, rfl, ht⟩ := hix_nat h (by decide)
  rw [iN_nI (by omega)]; exact ht
theorem hx5 {x : Int32} (h : hix 5 x = true) : iN x < 5 := by
  obtain ⟨t, rfl, ht⟩ := hix_nat h (by decide)
  rw [iN_nI (by omega)]; exact ht
theorem btw_rg {x : Int32} {a b : Int64} {p q : Int32} (ha : p.toInt64 = a) (hb : q.toInt64 = b) {α : Type} {u v : α} : (bif btw x.toInt64 a b then u else v) = (if x < p then v else if x ≤ q then u else v) := by
  unfold btw
  subst ha hb
  by_cases h1 : x < p
  · rw [if_pos h1, show decide (p.toInt64 ≤ x.toInt64) = false from decide_eq_false (fun h => by
      rw [Int64.le_iff_toInt_le, Int32.toInt_toInt64, Int32.toInt_toInt64] at h
      rw [Int32.lt_iff_toInt_lt] at h1; omega)]
    rfl
  · rw [if_neg h1, show decide (p.toInt64 ≤ x.toInt64) = true from decide_eq_true (by
      rw [Int64.le_iff_toInt_le, Int32.toInt_toInt64, Int32.toInt_toInt64]
      rw [Int32.lt_iff_toInt_lt] at h1; omega)]
    by_cases h2 : x ≤ q
    · rw [if_pos h2, show decide (x.toInt64 ≤ q.toInt64) = true from decide_eq_true (by
        rw [Int64.le_iff_toInt_le, Int32.toInt_toInt64, Int32.toInt_toInt64]
        exact Int32.le_iff_toInt_le.mp h2)]
      rfl
    · rw [if_neg h2, show decide (x.toInt64 ≤ q.toInt64) = false from decide_eq_false (fun h => by
        rw [Int64.le_iff_toInt_le, Int32.toInt_toInt64, Int32.toInt_toInt64] at h
        exact h2 (Int32.le_iff_toInt_le.mpr h))]
      rfl
theorem one64 (x : Int64) : (0 : Int64) + (nI 1).toInt64 * x = x := by
  rw [show (nI 1).toInt64 = 1 from by decide, Int64.one_mul, Int64.zero_add]
theorem add_eq {N : Nat} {a b : Nat → Int32} {f : Nat → Int64} {p q : Nat} {w : Int32} (hN : N ≤ 24) (ha : ∀ k, k < 24 → f (24 * p + k) = (a k).toInt64) (hb : ∀ k, k < 24 → f (24 * q + k) = (b k).toInt64) : EQ N (plR N b w (plR N a (nI 1) (fun _ => 0))) (adZ N f p q w N) := by
  have key : ∀ k, adZ N f p q w N k = if k < N then ldF N f (24 * p) k + w.toInt64 * f (24 * q + k) else ldF N f (24 * p) k := fun k => it_map (fun t x => x + w.toInt64 * f (24 * q + t)) N k
  refine ⟨fun k hk => ?_, fun k hk _ => ?_⟩
  · rw [key, if_pos hk, plR_at, if_pos hk, plR_at, if_pos hk, one64, hb k (by omega)]
    unfold ldF
    rw [if_pos hk, ha k (by omega)]
  · rw [key, if_neg (by omega)]
    unfold ldF
    rw [if_neg (by omega)]
theorem rr_add {K : KV} {z : MZ} (h : RR K z) (x y p f : Int32) : Sm K z (oAdd K x y p f) (qAdd z x y p f) := by
  unfold oAdd qAdd
  rw [btw_rg (p := -9) (q := nI 9) (by decide) (by decide), h.n]
  cases hx : hix 6 x with
  | false => exact .same h _
  | true =>
    cases hy : hix 6 y with
    | false => exact .same h _
    | true =>
      cases hp : hix 6 p with
      | false => exact .same h _
      | true =>
        simp only [cond_true]
        by_cases h1 : f < -9
        · rw [if_pos h1, if_pos h1]; exact .same h _
        · rw [if_neg h1, if_neg h1]
          by_cases h2 : f ≤ nI 9
          · rw [if_pos h2, if_pos h2]
            exact sto_rr h (add_eq h.n24 (fun k hk => h.fr _ k (hx6 hy) hk) (fun k hk => h.fr _ k (hx6 hp) hk))
          · rw [if_neg h2, if_neg h2]; exact .same h _
theorem mul_eq {N : Nat} {a b : Nat → Int32} {f : Nat → Int64} {p q : Nat} (hN : N ≤ 24) (ha : ∀ k, k < 24 → f (24 * p + k) = (a k).toInt64) (hb : ∀ k, k < 24 → f (24 * q + k) = (b k).toInt64) : EQ N (prF N a b) (muZ N f p q N) := by
  have key : muZ N f p q N = prF N a b := it_cong (fun i s hi => it_cong (fun t g ht => by rw [ha i (by omega), hb t (by omega), show i + t - i = t by omega]))
  refine ⟨fun k _ => by rw [key], fun k hk _ => ?_⟩
  rw [key]
  exact it_keep (N := N) (fun i g hi k hk => it_keep (N := N) (fun t g ht k hk => pk_uLn (by omega)) k hk) k hk
theorem rr_mul {K : KV} {z : MZ} (h : RR K z) (x y p : Int32) : Sm K z (oMul K x y p) (qMul z x y p) := by
  unfold oMul qMul
  rw [h.n]
  cases hx : hix 6 x with
  | false => exact .same h _
  | true =>
    cases hy : hix 6 y with
    | false => exact .same h _
    | true =>
      cases hp : hix 6 p with
      | false => exact .same h _
      | true => exact sto_rr h (mul_eq h.n24 (fun k hk => h.fr _ k (hx6 hy) hk) (fun k hk => h.fr _ k (hx6 hp) hk))
theorem i64_src (a b c : Int64) : a - b - c = a - c - b := by
  simp only [Int64.sub_eq_add_neg, Int64.add_assoc]
  rw [Int64.add_comm (-b)]
theorem it_front {σ : Type} (f : Nat → σ → σ) : ∀ (n : Nat) (s : σ), it f (n + 1) s = it (fun t => f (t + 1)) n (f 0 s)
  | 0, _ => rfl
  | n + 1, s => by rw [it_succ, it_front f n s, it_succ]
theorem it_subc (x : Nat → Int64) (y : Int64) : ∀ (n : Nat) (s : Int64), it (fun t v => v - x t) n (s - y) = it (fun t v => v - x t) n s - y
  | 0, _ => rfl
  | n + 1, s => by rw [it_succ, it_succ, it_subc x y n s, i64_src]
theorem it_rev (x : Nat → Int64) : ∀ (n : Nat) (s : Int64), it (fun t v => v - x (n - 1 - t)) n s = it (fun t v => v - x t) n s
  | 0, _ => rfl
  | n + 1, s => by
    rw [it_front, it_succ]
    have e : it (fun t v => v - x (n + 1 - 1 - (t + 1))) n (s - x (n + 1 - 1 - 0)) = it (fun t v => v - x (n - 1 - t)) n (s - x n) := by
      rw [show n + 1 - 1 - 0 = n by omega]
      exact it_cong (fun t v ht => by rw [show n + 1 - 1 - (t + 1) = n - 1 - t by omega])
    rw [e, it_rev x n, it_subc]
theorem div_key {a b : Nat → Int32} {f : Nat → Int64} {p q : Nat} (ha : ∀ k, k < 24 → f (24 * p + k) = (a k).toInt64) (hb : ∀ k, k < 24 → f (24 * q + k) = (b k).toInt64) {t : Nat} (ht : t ≤ 24) : diZ f p q t = quF a b t := by
  refine it_cong (fun k c hk => ?_)
  have e : diR f c p q k k = quR a b c k := by
    unfold diR quR
    rw [← it_rev, ha k (by omega)]
    refine it_cong (fun j v hj => ?_)
    show v - c (k - 1 - j) * f (24 * q + k - (k - 1 - j)) = _
    rw [show 24 * q + k - (k - 1 - j) = 24 * q + (1 + j) by omega, hb (1 + j) (by omega), show k - 1 - j = k - (1 + j) by omega, Int64.mul_comm]
  rw [e, show f (24 * q) = (b 0).toInt64 from hb 0 (by decide), Int64.mul_comm]
theorem div_eq {N : Nat} {a b : Nat → Int32} {f : Nat → Int64} {p q : Nat} (hN : N ≤ 24) (ha : ∀ k, k < 24 → f (24 * p + k) = (a k).toInt64) (hb : ∀ k, k < 24 → f (24 * q + k) = (b k).toInt64) : diB f p q N = quB a b N ∧ EQ N (quF a b N) (diZ f p q N) := by
  refine ⟨allB_cong (fun k hk => by rw [div_key ha hb (by omega)]), fun k _ => by rw [div_key ha hb hN], fun k hk _ => ?_⟩
  rw [div_key ha hb hN]
  exact it_keep (N := N) (fun t g ht k hk => pk_uLn (by omega)) k hk
theorem rr_div1 {K : KV} {z : MZ} (h : RR K z) {x y p : Int32} (hy : hix 6 y = true) (hp : hix 6 p = true) : Sm K z (oDiv1 K x y p) (qDiv1 z x y p) := by
  have e := div_eq h.n24 (fun k hk => h.fr _ k (hx6 hy) hk) (fun k hk => h.fr _ k (hx6 hp) hk)
  unfold oDiv1 qDiv1
  rw [h.n, e.1]
  cases quB (K.2.1.2.1 (iN y)) (K.2.1.2.1 (iN p)) K.2.1.1 with
  | false => exact .same h _
  | true => exact sto_rr h e.2
theorem rr_div {K : KV} {z : MZ} (h : RR K z) (x y p : Int32) : Sm K z (oDiv K x y p) (qDiv z x y p) := by
  unfold oDiv qDiv
  cases hx : hix 6 x with
  | false => exact .same h _
  | true =>
    cases hy : hix 6 y with
    | false => exact .same h _
    | true =>
      cases hp : hix 6 p with
      | false => exact .same h _
      | true =>
        simp only [cond_true]
        have e : z.2.2.2.2.2.2.2.2.2.2.2.1 (24 * iN p) = (K.2.1.2.1 (iN p) 0).toInt64 := h.fr _ 0 (hx6 hp) (by decide)
        rw [e]
        have q1 : ((K.2.1.2.1 (iN p) 0).toInt64 = 1) ↔ K.2.1.2.1 (iN p) 0 = nI 1 := by rw [show (1 : Int64) = (nI 1).toInt64 by decide]; exact i64_inj
        have q2 : ((K.2.1.2.1 (iN p) 0).toInt64 = -1) ↔ K.2.1.2.1 (iN p) 0 = -1 := by rw [show (-1 : Int64) = (-1 : Int32).toInt64 by decide]; exact i64_inj
        by_cases h1 : K.2.1.2.1 (iN p) 0 = nI 1
        · rw [if_pos h1, if_pos (q1.mpr h1)]; exact rr_div1 h hy hp
        · rw [if_neg h1, if_neg (fun h => h1 (q1.mp h))]
          by_cases h2 : K.2.1.2.1 (iN p) 0 = -1
          · rw [if_pos h2, if_pos (q2.mpr h2)]; exact rr_div1 h hy hp
          · rw [if_neg h2, if_neg (fun h => h2 (q2.mp h))]; exact .same h _
theorem shi_eq {N : Nat} {a : Nat → Int32} {f : Nat → Int64} {i p : Nat} (hN : N ≤ 24) (ha : ∀ k, k < 24 → f (24 * i + k) = (a k).toInt64) : EQ N (plS N a p (fun _ => 0)) (swZ N p f i) := by
  refine ⟨fun k hk => ?_, fun k hk _ => ?_⟩
  · rw [swZ_at, if_pos hk, plS_at]
    by_cases q : p ≤ k
    · rw [if_pos q, if_pos ⟨q, hk⟩, ha (k - p) (by omega), Int64.zero_add]
    · rw [if_neg q, if_neg (fun h => q h.1)]
  · rw [swZ_at, if_neg (by omega)]
theorem rr_shi {K : KV} {z : MZ} (h : RR K z) (x y p : Int32) : Sm K z (oShi K x y p) (qShi z x y p) := by
  unfold oShi qShi
  rw [btw_rg (p := 0) (q := nI 23) (by decide) (by decide), h.n]
  cases hx : hix 6 x with
  | false => exact .same h _
  | true =>
    cases hy : hix 6 y with
    | false => exact .same h _
    | true =>
      simp only [cond_true]
      by_cases h1 : p < 0
      · rw [if_pos h1, if_pos h1]; exact .same h _
      · rw [if_neg h1, if_neg h1]
        have e : p < nI 24 ↔ p ≤ nI 23 := by
          rw [Int32.lt_iff_toInt_lt, Int32.le_iff_toInt_le, show (nI 24).toInt = 24 by decide, show (nI 23).toInt = 23 by decide]
          omega
        by_cases h2 : p ≤ nI 23
        · rw [if_pos h2, if_pos (e.mpr h2)]
          exact sto_rr h (shi_eq h.n24 (fun k hk => h.fr _ k (hx6 hy) hk))
        · rw [if_neg h2, if_neg (fun h => h2 (e.mp h))]; exact .same h _
theorem sbT_lt {N p j : Nat} (hp : 1 ≤ p) (h : j < sbT N p) : p * j < N := by
  unfold sbT at h
  have h1 := Nat.div_mul_le_self (N + p - 1) p
  have h2 : (j + 1) * p ≤ (N + p - 1) / p * p := Nat.mul_le_mul_right p h
  rw [Nat.add_mul, Nat.one_mul] at h2
  rw [Nat.mul_comm]
  omega
theorem sbT_ge {N p j : Nat} (hp : 1 ≤ p) (h : sbT N p ≤ j) : N ≤ p * j := by
  unfold sbT at h
  have h1 := Nat.lt_mul_div_succ (N + p - 1) (show 0 < p from hp)
  have h2 : p * ((N + p - 1) / p) ≤ p * j := Nat.mul_le_mul_left p h
  rw [Nat.mul_add, Nat.mul_one] at h1
  omega
theorem sub_eq {N : Nat} {a : Nat → Int32} {f : Nat → Int64} {i p : Nat} (hN : N ≤ 24) (hp : 1 ≤ p) (ha : ∀ k, k < 24 → f (24 * i + k) = (a k).toInt64) : EQ N (sbF N a p N) (sbZ f i p (sbT N p)) := by
  have hT : sbT N p ≤ N := by
    by_cases h : sbT N p ≤ N
    · exact h
    · have := sbT_lt (N := N) hp (show N < sbT N p by omega)
      have : 1 * N ≤ p * N := Nat.mul_le_mul_right N hp
      omega
  have e1 : sbF N a p N = sbF N a p (sbT N p) := by
    have := it_id (f := fun j f => plT N (j * p) (a j) f) (a := sbT N p) (fun t s ht => by
      unfold plT
      rw [if_neg (by have := sbT_ge hp ht; rw [Nat.mul_comm]; omega)]) (N - sbT N p) (fun _ => 0)
    rw [show sbT N p + (N - sbT N p) = N by omega] at this
    exact this
  have e2 : ∀ t, t ≤ sbT N p → sbZ f i p t = sbF N a p t ∧ ∀ k, p * t ≤ k → sbF N a p t k = 0 := by
    intro t
    induction t with
    | zero => intro _; exact ⟨rfl, fun _ _ => rfl⟩
    | succ t ih =>
      intro ht
      obtain ⟨i1, i2⟩ := ih (by omega)
      have hl := sbT_lt (N := N) hp (show t < sbT N p by omega)
      have ht24 : t < 24 := by
        have : 1 * t ≤ p * t := Nat.mul_le_mul_right t hp
        omega
      have e3 : sbF N a p (t + 1) = vp_updL (sbF N a p t) (p * t) (a t).toInt64 := by
        show plT N (t * p) (a t) (sbF N a p t) = _
        unfold plT
        rw [Nat.mul_comm t p, if_pos hl, i2 _ (Nat.le_refl _), Int64.zero_add]
      refine ⟨?_, fun k hk => ?_⟩
      · rw [e3, ← i1]
        show vp_updL (sbZ f i p t) (p * t) (f (24 * i + t)) = _
        rw [ha t ht24]
      · rw [Nat.mul_add, Nat.mul_one] at hk
        rw [e3, pk_uLn (by omega), i2 k (by omega)]
  have e3 := (e2 (sbT N p) (Nat.le_refl _)).1
  refine ⟨fun k _ => by rw [e1, e3], fun k hk _ => ?_⟩
  exact it_keep (N := N) (fun t g ht k hk => pk_uLn (by have := sbT_lt (N := N) hp ht; omega)) k hk
theorem rr_sub {K : KV} {z : MZ} (h : RR K z) (x y p : Int32) : Sm K z (oSub K x y p) (qSub z x y p) := by
  unfold oSub qSub
  rw [btw_rg (p := nI 1) (q := nI 6) (by decide) (by decide), h.n]
  cases hx : hix 6 x with
  | false => exact .same h _
  | true =>
    cases hy : hix 6 y with
    | false => exact .same h _
    | true =>
      simp only [cond_true]
      by_cases h1 : p < nI 1
      · rw [if_pos h1, if_pos h1]; exact .same h _
      · rw [if_neg h1, if_neg h1]
        by_cases h2 : p ≤ nI 6
        · rw [if_pos h2, if_pos h2]
          refine sto_rr h (sub_eq h.n24 ?_ (fun k hk => h.fr _ k (hx6 hy) hk))
          rw [Int32.lt_iff_toInt_lt, show (nI 1).toInt = 1 by decide] at h1
          unfold iN
          omega
        · rw [if_neg h2, if_neg h2]; exact .same h _
