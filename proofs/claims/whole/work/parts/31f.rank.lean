/-! rank, both sides -/
theorem pig : ∀ (n : Nat) (f : Nat → Nat), (∀ i, i < n → f i < n) → (∀ i j, i < n → j < n → f i = f j → i = j) → ∀ x, x < n → ∃ i, i < n ∧ f i = x
  | 0, _, _, _, x, hx => absurd hx (Nat.not_lt_zero x)
  | n + 1, f, hf, hi, x, hx => by
    by_cases hm : f n = n
    · by_cases e : x = n
      · exact ⟨n, by omega, by omega⟩
      · obtain ⟨i, h1, h2⟩ := pig n f (fun i hi' => by
          have := hf i (by omega)
          have : f i ≠ n := fun q => by
            have := hi i n (by omega) (by omega) (by omega)
            omega
          omega) (fun i j h1 h2 => hi i j (by omega) (by omega)) x (by omega)
        exact ⟨i, by omega, h2⟩
    · have hfn := hf n (by omega)
      have ih := pig n (fun i => if f i = n then f n else f i) (fun i h => by
        show (if f i = n then f n else f i) < n
        have := hf i (by omega)
        by_cases q : f i = n
        · rw [if_pos q]; omega
        · rw [if_neg q]; omega) (fun i j h1 h2 e => by
        have e : (if f i = n then f n else f i) = (if f j = n then f n else f j) := e
        by_cases q1 : f i = n
        · by_cases q2 : f j = n
          · exact hi i j (by omega) (by omega) (by omega)
          · rw [if_pos q1, if_neg q2] at e
            have := hi n j (by omega) (by omega) e
            omega
        · by_cases q2 : f j = n
          · rw [if_neg q1, if_pos q2] at e
            have := hi i n (by omega) (by omega) e
            omega
          · rw [if_neg q1, if_neg q2] at e
            exact hi i j (by omega) (by omega) e)
      by_cases e : x = n
      · obtain ⟨i, h1, h2⟩ := ih (f n) (by omega)
        have h2 : (if f i = n then f n else f i) = f n := h2
        by_cases q : f i = n
        · exact ⟨i, by omega, by omega⟩
        · rw [if_neg q] at h2
          have := hi i n (by omega) (by omega) h2
          omega
      · by_cases e2 : x = f n
        · exact ⟨n, by omega, e2.symm⟩
        · obtain ⟨i, h1, h2⟩ := ih x (by omega)
          have h2 : (if f i = n then f n else f i) = x := h2
          by_cases q : f i = n
          · rw [if_pos q] at h2; omega
          · rw [if_neg q] at h2; exact ⟨i, by omega, h2⟩
theorem cnt_le {p q : Nat → Bool} : ∀ {n : Nat}, (∀ k, k < n → p k = true → q k = true) → cntN p n ≤ cntN q n
  | 0, _ => Nat.le_refl _
  | n + 1, h => by
    have ih := cnt_le (n := n) (fun k hk => h k (by omega))
    rw [cntN_s, cntN_s]
    cases e : p n with
    | false => cases q n <;> simp <;> omega
    | true => rw [h n (by omega) e]; simp; omega
theorem cnt_lt {p q : Nat → Bool} {j : Nat} (h1 : p j = false) (h2 : q j = true) : ∀ {n : Nat}, j < n → (∀ k, k < n → p k = true → q k = true) → cntN p n < cntN q n
  | 0, hj, _ => absurd hj (Nat.not_lt_zero j)
  | n + 1, hj, h => by
    rw [cntN_s, cntN_s]
    by_cases e : j = n
    · have := cnt_le (n := n) (fun k hk => h k (by omega))
      rw [← e, h1, h2, e]; simp; omega
    · have ih := cnt_lt h1 h2 (n := n) (by omega) (fun k hk => h k (by omega))
      cases e : p n with
      | false => cases q n <;> simp <;> omega
      | true => rw [h n (by omega) e]; simp; omega
theorem cnt_all {p : Nat → Bool} {n j : Nat} (hj : j < n) (h : p j = false) : cntN p n < n := by
  have := cnt_lt (p := p) (q := fun _ => true) h rfl hj (fun _ _ _ => rfl)
  have h2 : ∀ n, cntN (fun _ => true) n = n := fun n => by
    induction n with
    | zero => rfl
    | succ n ih => rw [cntN_s, ih]; rfl
  rw [h2] at this
  exact this
theorem low_rg (N : Nat) (hN : N ≤ 24) (f : Nat → Int64) (t : Nat) : (lowZ N f t).toInt = -7 ∨ (0 ≤ (lowZ N f t).toInt ∧ (lowZ N f t).toInt ≤ 23) := by
  rcases fd_cases (fun k => decide (¬ f (24 * t + k) = 0)) (-7) N 0 with h | ⟨w, _, h2, h3, _⟩
  · left; unfold lowZ; rw [h]; decide
  · right; unfold lowZ; rw [h3, nI_toInt (by omega)]; omega
theorem hi_rg (f : Nat → Int64) (t : Nat) : ∀ N : Nat, N ≤ 24 → (-7 ≤ (hiZ f t N).toInt ∧ (hiZ f t N).toInt ≤ 23)
  | 0, _ => by show -7 ≤ (-7 : Int32).toInt ∧ (-7 : Int32).toInt ≤ 23; decide
  | N + 1, h => by
    have ih := hi_rg f t N (by omega)
    unfold hiZ at ih ⊢
    rw [it_succ]
    by_cases e : f (24 * t + N) = 0
    · rw [if_pos e]; exact ih
    · rw [if_neg e, nI_toInt (by omega)]; omega
/-- one number for the order of registers -/
def keyZ (N : Nat) (f : Nat → Int64) (t : Nat) : Int := (if (lowZ N f t).toInt = -7 then 24 else (lowZ N f t).toInt) * 100000 + (100 - (hiZ f t N).toInt) * 100 + t
theorem loZ_i {N : Nat} {f : Nat → Int64} {t : Nat} (hN : N ≤ 24) : (loZ N f t).toInt = if (lowZ N f t).toInt = -7 then 24 else (lowZ N f t).toInt := by
  unfold loZ
  rcases low_rg N hN f t with h | h
  · rw [if_pos h, if_neg (by rw [Int32.le_iff_toInt_le, h]; decide)]; decide
  · rw [if_pos (show (0 : Int32) ≤ lowZ N f t by rw [Int32.le_iff_toInt_le, show (0 : Int32).toInt = 0 by decide]; exact h.1), if_neg (show ¬ (lowZ N f t).toInt = -7 by omega)]
theorem rk_key {N : Nat} {f : Nat → Int64} {a b : Nat} (hN : N ≤ 24) (ha : a < 6) (hb : b < 6) : rkZ N f a b = decide (keyZ N f a < keyZ N f b) := by
  have la := low_rg N hN f a
  have lb := low_rg N hN f b
  have ga := hi_rg f a N hN
  have gb := hi_rg f b N hN
  have ea := loZ_i (f := f) (t := a) hN
  have eb := loZ_i (f := f) (t := b) hN
  have iff_eq : ∀ x y : Int32, x = y ↔ x.toInt = y.toInt := fun x y => Int32.toInt_inj.symm
  unfold rkZ keyZ
  rw [← ea, ← eb]
  have la2 : 0 ≤ (loZ N f a).toInt ∧ (loZ N f a).toInt ≤ 24 := by rw [ea]; split <;> omega
  have lb2 : 0 ≤ (loZ N f b).toInt ∧ (loZ N f b).toInt ≤ 24 := by rw [eb]; split <;> omega
  by_cases h1 : loZ N f a = loZ N f b
  · rw [if_pos h1]
    rw [iff_eq] at h1
    by_cases h2 : hiZ f a N = hiZ f b N
    · rw [if_pos h2]
      rw [iff_eq] at h2
      exact decide_eq_decide.mpr (by omega)
    · rw [if_neg h2]
      rw [iff_eq] at h2
      exact decide_eq_decide.mpr (by rw [Int32.le_iff_toInt_le]; omega)
  · rw [if_neg h1]
    rw [iff_eq] at h1
    exact decide_eq_decide.mpr (by rw [Int32.le_iff_toInt_le]; omega)
theorem cb_key {N : Nat} {a b : Nat → Int32} {f : Nat → Int64} {p q : Nat} (hN : N ≤ 24) (hp : p < 6) (hq : q < 6) (ha : ∀ k, k < 24 → f (24 * p + k) = (a k).toInt64) (hb : ∀ k, k < 24 → f (24 * q + k) = (b k).toInt64) : cbB N a b p q = decide (keyZ N f p < keyZ N f q) := by
  have la := low_rg N hN f p
  have lb := low_rg N hN f q
  have ga := hi_rg f p N hN
  have gb := hi_rg f q N hN
  have iff_eq : ∀ x y : Int32, x = y ↔ x.toInt = y.toInt := fun x y => Int32.toInt_inj.symm
  unfold cbB keyZ
  rw [low_eq hN ha, low_eq hN hb, hi_eq ha hN, hi_eq hb hN]
  by_cases h1 : lowZ N f p = lowZ N f q
  · rw [show decide (lowZ N f p = lowZ N f q) = true from decide_eq_true h1, cond_true]
    rw [iff_eq] at h1
    rw [h1]
    by_cases h2 : hiZ f p N = hiZ f q N
    · rw [show decide (hiZ f p N = hiZ f q N) = true from decide_eq_true h2, cond_true, h2]
      exact decide_eq_decide.mpr (by omega)
    · rw [show decide (hiZ f p N = hiZ f q N) = false from decide_eq_false h2, cond_false]
      rw [iff_eq] at h2
      exact decide_eq_decide.mpr (by rw [Int32.le_iff_toInt_le]; omega)
  · rw [show decide (lowZ N f p = lowZ N f q) = false from decide_eq_false h1, cond_false]
    rw [iff_eq] at h1
    rw [show decide (¬ lowZ N f p = -7) = decide (¬ (lowZ N f p).toInt = -7) from decide_eq_decide.mpr (by rw [iff_eq]; exact Iff.rfl), show decide (lowZ N f q = -7) = decide ((lowZ N f q).toInt = -7) from decide_eq_decide.mpr (by rw [iff_eq]; exact Iff.rfl), show decide (¬ lowZ N f q ≤ lowZ N f p) = decide (¬ (lowZ N f q).toInt ≤ (lowZ N f p).toInt) from decide_eq_decide.mpr (by rw [Int32.le_iff_toInt_le])]
    rw [← Bool.decide_or, ← Bool.decide_and]
    exact decide_eq_decide.mpr (by split <;> split <;> omega)
theorem key_inj {N : Nat} {f : Nat → Int64} {a b : Nat} (hN : N ≤ 24) (ha : a < 6) (hb : b < 6) (h : keyZ N f a = keyZ N f b) : a = b := by
  have ga := hi_rg f a N hN
  have gb := hi_rg f b N hN
  have la := low_rg N hN f a
  have lb := low_rg N hN f b
  unfold keyZ at h
  revert h
  split <;> split <;> omega
/-- how many stand before -/
def rkN (N : Nat) (f : Nat → Int64) (p : Nat) : Nat := cntN (fun j => decide (keyZ N f j < keyZ N f p)) 6
theorem rk_lt {N : Nat} {f : Nat → Int64} {a b : Nat} (ha : a < 6) (h : keyZ N f a < keyZ N f b) : rkN N f a < rkN N f b := cnt_lt (j := a) (decide_eq_false (by omega)) (decide_eq_true h) ha (fun k _ hk => decide_eq_true (by have := of_decide_eq_true hk; omega))
theorem rk_6 {N : Nat} {f : Nat → Int64} {a : Nat} (ha : a < 6) : rkN N f a < 6 := cnt_all ha (decide_eq_false (by omega))
theorem rk_inj {N : Nat} {f : Nat → Int64} (hN : N ≤ 24) {a b : Nat} (ha : a < 6) (hb : b < 6) (h : rkN N f a = rkN N f b) : a = b := by
  refine key_inj (f := f) hN ha hb ?_
  by_cases h1 : keyZ N f a < keyZ N f b
  · have := rk_lt ha h1; omega
  · by_cases h2 : keyZ N f b < keyZ N f a
    · have := rk_lt hb h2; omega
    · omega
theorem rr_rnk {K : KV} {z : MZ} (h : RR K z) (x : Int32) : oRnk K x = qRnk z x := by
  have hn := h.n24
  unfold oRnk qRnk
  rw [btw_rg (p := 0) (q := nI 5) (by decide) (by decide), h.n]
  have e : x < nI 6 ↔ x ≤ nI 5 := by
    rw [Int32.lt_iff_toInt_lt, Int32.le_iff_toInt_le, show (nI 6).toInt = 6 by decide, show (nI 5).toInt = 5 by decide]
    omega
  by_cases h1 : x < 0
  · rw [if_pos h1, if_pos h1]
  · rw [if_neg h1, if_neg h1]
    by_cases h2 : x ≤ nI 5
    · rw [if_pos h2, if_pos (e.mpr h2)]
      have hx : hix 6 x = true := by
        unfold hix
        rw [Bool.and_eq_true]
        refine ⟨decide_eq_true h1, decide_eq_true ?_⟩
        have := e.mpr h2
        rw [lt_nle] at this
        exact this
      obtain ⟨t, rfl, ht⟩ := hix_nat hx (by decide)
      obtain ⟨p, hp, hpt⟩ := pig 6 (rkN K.2.1.1 z.2.2.2.2.2.2.2.2.2.2.2.1) (fun i hi => rk_6 hi) (fun i j hi hj => rk_inj hn hi hj) t ht
      have r1 : ∀ q, q < 6 → cntN (fun j => cbB K.2.1.1 (K.2.1.2.1 j) (K.2.1.2.1 q) j q) 6 = rkN K.2.1.1 z.2.2.2.2.2.2.2.2.2.2.2.1 q := fun q hq => cntN_cg (fun j hj => cb_key hn hj hq (fun k hk => h.fr j k hj hk) (fun k hk => h.fr q k hq hk))
      have r2 : ∀ q, q < 6 → cntN (rkP K.2.1.1 z.2.2.2.2.2.2.2.2.2.2.2.1 q) 6 = rkN K.2.1.1 z.2.2.2.2.2.2.2.2.2.2.2.1 q := fun q hq => cntN_cg (fun j hj => by
        unfold rkP
        rw [rk_key hn hj hq]
        by_cases e : j = q
        · rw [e, show decide (¬ q = q) = false by simp, Bool.false_and]
          exact (decide_eq_false (by omega)).symm
        · rw [show decide (¬ j = q) = true from decide_eq_true e, Bool.true_and])
      have un : ∀ q, q < 6 → (nI (rkN K.2.1.1 z.2.2.2.2.2.2.2.2.2.2.2.1 q) = nI t ↔ q = p) := fun q hq => by
        constructor
        · intro w
          have w2 := congrArg Int32.toInt w
          have := rk_6 (N := K.2.1.1) (f := z.2.2.2.2.2.2.2.2.2.2.2.1) hq
          rw [nI_toInt (by omega), nI_toInt (by omega)] at w2
          exact rk_inj (f := z.2.2.2.2.2.2.2.2.2.2.2.1) hn hq hp (by omega)
        · intro w; rw [w, hpt]
      have o1 : fd (fun q => decide (nI (cntN (fun j => cbB K.2.1.1 (K.2.1.2.1 j) (K.2.1.2.1 q) j q) 6) = nI t)) (-1) 6 0 = nI p := by
        refine fd_first (fun j _ hj => decide_eq_false ?_) (decide_eq_true ?_) (Nat.zero_le _) (by omega)
        · rw [r1 j (by omega), un j (by omega)]; omega
        · rw [r1 p hp, un p hp]
      have o2 : ∀ T, T ≤ 6 → rnZ K.2.1.1 z.2.2.2.2.2.2.2.2.2.2.2.1 (nI t) T = if p < T then nI p else -7 := by
        intro T
        induction T with
        | zero => intro _; rw [if_neg (by omega)]; rfl
        | succ T ih =>
          intro hT
          have ih := ih (by omega)
          unfold rnZ at ih ⊢
          rw [it_succ, ih, r2 T (by omega)]
          by_cases w : T = p
          · rw [if_pos ((un T (by omega)).mpr w), if_pos (by omega), w]
          · rw [if_neg (fun q => w ((un T (by omega)).mp q))]
            by_cases w2 : p < T
            · rw [if_pos w2, if_pos (by omega)]
            · rw [if_neg w2, if_neg (by omega)]
      rw [o1, o2 6 (Nat.le_refl _), if_pos hp]
    · rw [if_neg h2, if_neg (fun w => h2 (e.mp w))]
