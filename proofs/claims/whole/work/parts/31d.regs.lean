/-! registers, both sides: product, sums, copies, parse, single coefficients -/
theorem bit01 (y : Int32) : y &&& 1 = 0 ∨ y &&& 1 = 1 := by
  have h : (y &&& 1).toBitVec.toNat = y.toBitVec.toNat % 2 := by
    rw [Int32.toBitVec_and, BitVec.toNat_and]
    exact Nat.and_one_is_mod _
  have h2 : y.toBitVec.toNat % 2 = 0 ∨ y.toBitVec.toNat % 2 = 1 := by omega
  rcases h2 with h2 | h2
  · left
    apply Int32.toBitVec_inj.mp
    apply BitVec.eq_of_toNat_eq
    rw [h, h2]; rfl
  · right
    apply Int32.toBitVec_inj.mp
    apply BitVec.eq_of_toNat_eq
    rw [h, h2]; rfl
theorem bit_eq {k m x : Int32} (hm : ¬ m < 1) : inS k m x = bitB k m x := by
  unfold inS bitB
  rw [show decide (¬ m < 1) = true from decide_eq_true hm, Bool.true_and]
  refine decide_eq_decide.mpr ?_
  rw [show nI 1 = 1 from rfl]
  rcases bit01 (x >>> ((k - k / m * m) &&& 31)) with h | h
  · rw [h]; exact ⟨fun e => absurd e (by decide), fun e => absurd rfl e⟩
  · rw [h]; exact ⟨fun _ => by decide, fun _ => rfl⟩
theorem rs_case {t : Nat} {x : Int32} (h : nI (2 ^ t) = (1 : Int32) <<< (nI t &&& 31)) (h2 : ((nI (2 ^ t)) - nI 1).toInt64.toInt = ((2 ^ t : Nat) : Int) - 1) (ht : 2 ^ t < 2 ^ 31) : btw x.toInt64 0 ((1 : Int32) <<< (nI t &&& 31) - nI 1).toInt64 = (decide (¬ x < 0) && decide (¬ (1 : Int32) <<< (nI t &&& 31) ≤ x)) := by
  rw [← h, btw_hix ht h2]
  rfl
theorem rs_eq {m x : Int32} : rsZ m x = rsB m x := by
  by_cases hm : btw m.toInt64 1 12 = true
  · obtain ⟨t, rfl, h1, h2, _⟩ := btw_nat hm (p := 1) (q := 12) (by decide) (by decide)
    unfold rsZ rsB
    rw [hm, Bool.true_and]
    have a1 : decide (¬ nI t < 1) = true := by
      refine decide_eq_true ?_
      rw [Int32.lt_iff_toInt_lt, nI_toInt (by omega), show (1 : Int32).toInt = 1 by decide]; omega
    have a2 : decide (¬ 12 < nI t) = true := by
      refine decide_eq_true ?_
      rw [Int32.lt_iff_toInt_lt, nI_toInt (by omega), show (12 : Int32).toInt = 12 by decide]; omega
    rw [a1, a2, Bool.true_and, Bool.true_and]
    match t, h1, h2 with
    | 1, _, _ => exact rs_case (by decide) (by decide) (by decide)
    | 2, _, _ => exact rs_case (by decide) (by decide) (by decide)
    | 3, _, _ => exact rs_case (by decide) (by decide) (by decide)
    | 4, _, _ => exact rs_case (by decide) (by decide) (by decide)
    | 5, _, _ => exact rs_case (by decide) (by decide) (by decide)
    | 6, _, _ => exact rs_case (by decide) (by decide) (by decide)
    | 7, _, _ => exact rs_case (by decide) (by decide) (by decide)
    | 8, _, _ => exact rs_case (by decide) (by decide) (by decide)
    | 9, _, _ => exact rs_case (by decide) (by decide) (by decide)
    | 10, _, _ => exact rs_case (by decide) (by decide) (by decide)
    | 11, _, _ => exact rs_case (by decide) (by decide) (by decide)
    | 12, _, _ => exact rs_case (by decide) (by decide) (by decide)
    | t + 13, _, h => omega
  · have hm2 : btw m.toInt64 1 12 = false := by
      cases e : btw m.toInt64 1 12 with
      | true => exact absurd e hm
      | false => rfl
    unfold rsZ rsB
    rw [hm2, Bool.false_and]
    have e : (bif btw m.toInt64 1 12 then true else false) = (if m < 1 then false else if m ≤ 12 then true else false) := btw_rg (by decide) (by decide)
    rw [hm2] at e
    by_cases h1 : m < 1
    · rw [show decide (¬ m < 1) = false from decide_eq_false (fun h => h h1), Bool.false_and]
    · rw [if_neg h1] at e
      by_cases h2 : m ≤ 12
      · rw [if_pos h2] at e; exact absurd e (by decide)
      · have h3 : 12 < m := by
          rw [Int32.lt_iff_toInt_lt]
          rw [Int32.le_iff_toInt_le] at h2
          omega
        rw [show decide (¬ 12 < m) = false from decide_eq_false (fun h => h h3), Bool.false_and, Bool.and_false]
theorem rs_m {m x : Int32} (h : rsB m x = true) : ¬ m < 1 := by
  unfold rsB at h
  rw [Bool.and_eq_true] at h
  exact of_decide_eq_true h.1
theorem tE_keep {N p : Nat} {f : Int32} {c : Nat → Int64} {k : Nat} (hk : N ≤ k) : tE N p f c k = c k := by
  unfold tE
  by_cases q : 0 ≤ f
  · rw [if_pos q]; exact it_keep (N := N) (fun t h _ k hk => tmF_keep hk) k hk
  · rw [if_neg q]; exact it_keep (N := N) (fun t h _ k hk => ovF_keep hk) k hk
theorem one_eq {N : Nat} (h : 4 ≤ N) : plT N 0 (nI 1) (fun _ => 0) = oneF := by
  unfold plT
  rw [if_pos (by omega)]
  funext k
  unfold oneF
  by_cases e : k = 0
  · subst e; rw [pk_uLs, if_pos rfl]; decide
  · rw [pk_uLn e, if_neg e]
theorem pro_eq {N : Nat} {m x f : Int32} (h4 : 4 ≤ N) (hm : ¬ m < 1) : EQ N (pdF N m x f (N - 1)) (pdZ N m x f (N - 1)) := by
  have key : pdZ N m x f (N - 1) = pdF N m x f (N - 1) := by
    unfold pdZ pdF
    rw [one_eq h4]
    exact it_cong (fun j c _ => by rw [bit_eq hm])
  refine ⟨fun k _ => by rw [key], fun k hk _ => ?_⟩
  have : pdZ N m x f (N - 1) k = oneF k := it_keep (N := N) (fun t h _ k hk => by
    cases bitB (nI (1 + t)) m x with
    | false => rfl
    | true => exact tE_keep hk) k hk
  rw [this]
  unfold oneF
  rw [if_neg (by omega)]
theorem rr_pro {K : KV} {z : MZ} (h : RR K z) (x m y f : Int32) : Sm K z (oPro K x m y f) (qPro z x m y f) := by
  unfold oPro qPro
  rw [btw_rg (p := -3) (q := nI 3) (by decide) (by decide), h.n, rs_eq]
  cases hx : hix 6 x with
  | false => exact .same h _
  | true =>
    cases hr : rsB m y with
    | false => exact .same h _
    | true =>
      simp only [cond_true]
      by_cases h1 : f < -3
      · rw [if_pos h1, if_pos h1]; exact .same h _
      · rw [if_neg h1, if_neg h1]
        by_cases h2 : f ≤ nI 3
        · rw [if_pos h2, if_pos h2]; exact sto_rr h (pro_eq h.n4 (rs_m hr))
        · rw [if_neg h2, if_neg h2]; exact .same h _
/-- weighted sums -/
theorem adW_keep {N : Nat} {b c : Nat → Int64} {k : Nat} (hk : N ≤ k) : adW N b c k = c k := by rw [adW_at, if_neg (by omega)]
theorem sum_eq {N r : Nat} {m : Nat → Nat → Int32} {f : Nat → Int64} (hN : N ≤ 24) (hf : Fl 5 m f) : EQ N (swS N r m) (suZ N r f 5) := by
  refine ⟨fun k hk => ?_, fun k hk _ => ?_⟩
  · refine it_agree (N := N) (fun t a b ht hab k hk => ?_) (fun _ _ => rfl) k hk
    have e := (shi_eq (N := N) (p := r * t + t * t) hN (fun k hk => hf t k ht hk)).1 k hk
    rw [adW_at, if_pos hk, e, plS_at, plS_at, hab k hk]
    by_cases q : r * t + t * t ≤ k ∧ k < N
    · rw [if_pos q, if_pos q, Int64.zero_add]
    · rw [if_neg q, if_neg q, Int64.add_zero]
  · exact it_keep (N := N) (fun t g _ k hk => adW_keep hk) k hk
theorem rr_sum {K : KV} {z : MZ} (h : RR K z) (x : Int32) : Sm K z (oSum K x) (qSum z x) := by
  unfold oSum qSum
  rw [h.n, h.r]
  cases hx : hix 6 x with
  | false => exact .same h _
  | true => exact sto_rr h (sum_eq h.n24 h.fb)
theorem prs_eq {N r : Nat} {m : Nat → Nat → Int32} {f : Nat → Int64} (h4 : 4 ≤ N) (hN : N ≤ 24) (hr : r ≤ 1) (hf : Fl 5 m f) : EQ N (ovFs N (r + 1) N (swS N r m)) (psZ N r (suZ N r f 5) (N - (r + 1))) := by
  have e1 : ∀ c : Nat → Int64, psZ N r c (N - (r + 1)) = ovFs N (r + 1) N c := fun c => by
    have e2 : psZ N r c (N - (r + 1)) = ovFs N (r + 1) (N - (r + 1)) c := it_cong (fun j s _ => by rw [show r + (1 + j) = r + 1 + j by omega])
    have := it_id (f := fun t f => ovF N (r + 1 + t) f) (a := N - (r + 1)) (fun t s ht => ovF_big (by omega) s) (r + 1) c
    rw [show N - (r + 1) + (r + 1) = N by omega] at this
    rw [e2]
    exact this.symm
  have e := sum_eq (r := r) hN hf
  rw [e1]
  refine ⟨ovFs_agree e.1, fun k hk h24 => ?_⟩
  rw [ovFs_keep hk]
  exact e.2 k hk h24
theorem rr_prs {K : KV} {z : MZ} (h : RR K z) (x : Int32) : Sm K z (oPrS K x) (qPrS z x) := by
  unfold oPrS qPrS
  rw [h.n, h.r]
  cases hx : hix 6 x with
  | false => exact .same h _
  | true => exact sto_rr h (prs_eq h.n4 h.n24 h.r1 h.fa)
/-- a row of the pair copied -/
theorem inR_of {x : Int32} (h : rgI x) : inR x.toInt64 = true := by
  unfold inR
  rw [Bool.and_eq_true, decide_eq_true_eq, decide_eq_true_eq, Int64.le_iff_toInt_le, Int64.le_iff_toInt_le, Int32.toInt_toInt64]
  exact h
theorem row_wr {N : Nat} {a : Nat → Int32} (h : RowOk N a) : fitB N (fun k => (a k).toInt64) = true ∧ wrT N (fun k => (a k).toInt64) = a := by
  refine ⟨allB_t (fun k _ => inR_of (h.2 k)), ?_⟩
  funext k
  unfold wrT
  by_cases q : k < N
  · rw [if_pos q, Int32.toInt32_toInt64]
  · rw [if_neg q, h.1 k (by omega)]
theorem rr_cpy {K : KV} {z : MZ} (h : RR K z) {m : Nat → Nat → Int32} {f : Nat → Int64} (hf : Fl 5 m f) (hm : ∀ t, t < 5 → RowOk K.2.1.1 (m t)) (x y : Int32) : Sm K z ((cpG K.2.1.1 K.2.1.2.1 x y m).1, kRg K (cpG K.2.1.1 K.2.1.2.1 x y m).2) (qCpy z f x y) := by
  unfold cpG qCpy
  rw [btw_hix (n := 5) (by decide) (by decide), h.n]
  cases hx : hix 6 x with
  | false => exact .same h _
  | true =>
    cases hy : hix 5 y with
    | false => exact .same h _
    | true =>
      have hy5 := hx5 hy
      obtain ⟨w1, w2⟩ := row_wr (hm _ hy5)
      have e : EQ K.2.1.1 (fun k => (m (iN y) k).toInt64) (ldF K.2.1.1 f (24 * iN y)) := by
        refine ⟨fun k hk => ?_, fun k hk _ => ?_⟩
        · unfold ldF; rw [if_pos hk, hf _ k hy5 (by have := h.n24; omega)]
        · unfold ldF; rw [if_neg (by omega)]
      have s := sto_rr h (t := iN x) e
      have e1 : kp K (fun k => (m (iN y) k).toInt64) (iN x) = (nzN K.2.1.1 (m (iN y)), kRg K (va_up K.2.1.2.1 (iN x) (m (iN y)))) := by
        unfold kp kpR
        rw [w1, w2]
        rfl
      rw [e1] at s
      exact s
theorem rr_cpA {K : KV} {z : MZ} (h : RR K z) (x y : Int32) : Sm K z (oCpA K x y) (qCpy z z.2.2.2.2.2.2.2.2.2.2.2.2.1 x y) := rr_cpy h h.fa (fun t ht => (h.pair t ht).1) x y
theorem rr_cpB {K : KV} {z : MZ} (h : RR K z) (x y : Int32) : Sm K z (oCpB K x y) (qCpy z z.2.2.2.2.2.2.2.2.2.2.2.2.2.1 x y) := rr_cpy h h.fb (fun t ht => (h.pair t ht).2) x y
/-- the input -/
theorem RR.setIn {K : KV} {z : MZ} (h : RR K z) {l : Nat} {x : Nat → Nat} (hl : l ≤ 60) (hx : ∀ k, x k < 128) : RR (kIn K (l, x)) (s_in z l x) := by
  obtain ⟨h1, h2, h3, h4, h5, h6, h7, h8⟩ := h
  simp only [RR, kIn, s_in]
  exact ⟨h1, h2, h3, ⟨rfl, rfl, hl, hx⟩, h5, h6, h7, h8⟩
theorem RR.clr {K : KV} {z : MZ} (h : RR K z) : RR (kIn K (0, K.2.2.2.2.2.2.1.2)) (s_hd z 0) := by
  obtain ⟨h1, h2, h3, h4, h5, h6, h7, h8⟩ := h
  simp only [RR, kIn, s_hd]
  exact ⟨h1, h2, h3, ⟨rfl, h4.2.1, Nat.zero_le _, h4.2.2.2⟩, h5, h6, h7, h8⟩
theorem rtC_keep {N : Nat} {neg : Bool} {o : Option (Nat × Nat)} {c : Nat → Int64} {k : Nat} (hk : N ≤ k) : rtC N neg o c k = c k := by
  cases o with
  | none => rfl
  | some q =>
    show plT N q.1 (sgI neg q.2) c k = c k
    unfold plT
    by_cases e : q.1 < N
    · rw [if_pos e, pk_uLn (by omega)]
    · rw [if_neg e]
theorem rs1_keep {N : Nat} {neg : Bool} {o : Option (Nat × Nat) × Nat} {rc : Nat → (Nat → Int64) → RV} (h : ∀ p c k, N ≤ k → (rc p c).2.2 k = c k) {c : Nat → Int64} {k : Nat} (hk : N ≤ k) : (rs1 rc N neg o c).2.2 k = c k := by
  unfold rs1
  cases o.1.isSome with
  | true => exact (h _ _ k hk).trans (rtC_keep hk)
  | false => exact rtC_keep hk
theorem rs_keep {L : Nat} {x : Nat → Nat} {N : Nat} : ∀ (r p : Nat) (c : Nat → Int64) (k : Nat), N ≤ k → (rs L x N r p c).2.2 k = c k
  | 0, _, _, _, _ => rfl
  | r + 1, p, c, k, hk => by
    unfold rs
    cases decide (p < L) with
    | false => rfl
    | true =>
      cases tkB L x 45 p with
      | true => exact rs1_keep (rs_keep r) hk
      | false =>
        cases tkB L x 43 p with
        | true => exact rs1_keep (rs_keep r) hk
        | false => rfl
theorem rser_keep {L : Nat} {x : Nat → Nat} {N : Nat} {c : Nat → Int64} {k : Nat} (hk : N ≤ k) : (rser L x N c).2.2 k = c k := by
  unfold rser
  generalize 60 = n
  exact rs1_keep (rs_keep n) hk
theorem rr_par {K : KV} {z : MZ} (h : RR K z) (x : Int32) : Sm K z (oPar K x) (qPar z x) := by
  have e1 : z.2.2.2.2.2.1 = K.2.2.2.2.2.2.1.1 := h.2.2.2.1.1
  have e2 : z.2.2.2.2.2.2.2.2.2.2.2.2.2.2.2.2.2.2.2.2.2.2.2.2.2.1 = K.2.2.2.2.2.2.1.2 := h.2.2.2.1.2.1
  have hk : ∀ k, K.2.1.1 ≤ k → (rser K.2.2.2.2.2.2.1.1 K.2.2.2.2.2.2.1.2 K.2.1.1 (fun _ => 0)).2.2 k = 0 := fun k hk => rser_keep hk
  unfold oPar qPar
  rw [h.n, e1, e2]
  revert hk
  generalize rser K.2.2.2.2.2.2.1.1 K.2.2.2.2.2.2.1.2 K.2.1.1 (fun _ => 0) = R
  intro hk
  obtain ⟨R1, R2, R3⟩ := R
  cases hx : hix 6 x with
  | false => exact .same h _
  | true =>
    cases R1 with
    | false => exact ⟨rfl, h.clr⟩
    | true => exact sto_rr h.clr (K := kIn K (0, K.2.2.2.2.2.2.1.2)) ⟨fun _ _ => rfl, fun k h1 _ => hk k h1⟩
theorem rr_clr {K : KV} {z : MZ} (h : RR K z) : Sm K z (oClr K) (nI z.2.2.2.2.2.1, s_hd z 0) := by
  have e1 : z.2.2.2.2.2.1 = K.2.2.2.2.2.2.1.1 := h.2.2.2.1.1
  refine ⟨?_, h.clr⟩
  show nI _ = nI _
  rw [e1]
/-- single coefficients -/
theorem Fl.put {rows : Nat → Nat → Int32} {f : Nat → Int64} (h : Fl 6 rows f) {t j : Nat} {v : Int32} (hj : j < 24) : Fl 6 (va_up rows t (upd (rows t) j v)) (vp_updL f (24 * t + j) v.toInt64) := fun s k hs hk => by
  by_cases e : s = t
  · subst e
    rw [va_up_self]
    by_cases e2 : k = j
    · rw [e2, pk_uLs, pk_us]
    · rw [pk_uLn (by omega), pk_un e2]; exact h s k hs hk
  · rw [va_up_ne _ _ e, pk_uLn (by omega)]; exact h s k hs hk
theorem rr_setC {K : KV} {z : MZ} (h : RR K z) (x y v : Int32) : Sm K z (oSetC K x y v) (qSetC z x y v) := by
  have hn4 := h.n4
  have hn := h.n24
  unfold oSetC qSetC
  rw [btw_rg (x := v) (p := -100000000) (q := nI 100000000) (by decide) (by decide), h.n, btw_hix (n := K.2.1.1) (by omega) (n1_toInt (by omega) (by omega))]
  cases hx : hix 6 x with
  | false => exact .same h _
  | true =>
    cases hy : hix K.2.1.1 y with
    | false => exact .same h _
    | true =>
      obtain ⟨j, rfl, hj⟩ := hix_nat hy (by omega)
      rw [iN_nI (by omega)]
      simp only [cond_true]
      have hx := hx6 hx
      by_cases h1 : v < -100000000
      · rw [if_pos h1, if_pos h1]; exact .same h _
      · rw [if_neg h1, if_neg h1]
        by_cases h2 : v ≤ nI 100000000
        · rw [if_pos h2, if_pos h2, h.fr (iN x) j hx (by omega)]
          by_cases e : K.2.1.2.1 (iN x) j = v
          · rw [if_pos e, if_pos (by rw [e])]
            refine ⟨rfl, h.setRg (rg := K.2.1.2.1) (fun s k hs hk => ?_) (fun t ht => h.row ht)⟩
            by_cases q : 24 * s + k = 24 * iN x + j
            · rw [q, pk_uLs, ← e, show s = iN x by omega, show k = j by omega]
            · rw [pk_uLn q]; exact h.fr s k hs hk
          · rw [if_neg e, if_neg (fun q => e (i64_inj.mp q))]
            refine ⟨rfl, h.setRg (h.fr.put (by omega)) (up_ok (fun t ht => h.row ht) ⟨fun k hk => ?_, fun k => ?_⟩)⟩
            · rw [pk_un (by omega)]; exact (h.row hx).1 k hk
            · by_cases q : k = j
              · rw [q, pk_us]
                rw [Int32.lt_iff_toInt_lt, show (-100000000 : Int32).toInt = -100000000 by decide] at h1
                rw [Int32.le_iff_toInt_le, show (nI 100000000).toInt = 100000000 by decide] at h2
                exact ⟨by omega, h2⟩
              · rw [pk_un q]; exact (h.row hx).2 k
        · rw [if_neg h2, if_neg h2]; exact .same h _
theorem rr_coef {K : KV} {z : MZ} (h : RR K z) (x y : Int32) : oCoef K x y = qCoef z x y := by
  have hn4 := h.n4
  have hn := h.n24
  unfold oCoef qCoef
  rw [h.n, btw_hix (n := K.2.1.1) (by omega) (n1_toInt (by omega) (by omega))]
  cases hx : hix 6 x with
  | false => rfl
  | true =>
    cases hy : hix K.2.1.1 y with
    | false => rfl
    | true =>
      obtain ⟨j, rfl, hj⟩ := hix_nat hy (by omega)
      rw [iN_nI (by omega)]
      exact (h.fr (iN x) j (hx6 hx) (by omega)).symm
theorem fd_cg {p p' : Nat → Bool} {d : Int32} : ∀ {r i : Nat}, (∀ k, i ≤ k → k < i + r → p k = p' k) → fd p d r i = fd p' d r i
  | 0, _, _ => rfl
  | r + 1, i, h => by
    unfold fd
    rw [h i (Nat.le_refl _) (by omega), fd_cg (fun k h1 h2 => h k (by omega) (by omega))]
theorem low_eq {N : Nat} {a : Nat → Int32} {f : Nat → Int64} {t : Nat} (hN : N ≤ 24) (ha : ∀ k, k < 24 → f (24 * t + k) = (a k).toInt64) : lowP N a = lowZ N f t := fd_cg (fun k _ hk => by
  rw [ha k (by omega)]
  exact decide_eq_decide.mpr (not_congr i64_0.symm))
theorem hi_eq {a : Nat → Int32} {f : Nat → Int64} {t : Nat} (ha : ∀ k, k < 24 → f (24 * t + k) = (a k).toInt64) : ∀ {N : Nat}, N ≤ 24 → hiN a N = hiZ f t N
  | 0, _ => rfl
  | N + 1, h => by
    have ih := hi_eq ha (N := N) (by omega)
    unfold hiZ at ih ⊢
    rw [it_succ, ← ih, ha N (by omega)]
    show (bif decide (¬ a N = 0) then nI N else hiN a N) = _
    by_cases e : a N = 0
    · rw [if_pos (i64_0.mpr e), show decide (¬ a N = 0) = false from decide_eq_false (fun h => h e)]; rfl
    · rw [if_neg (fun q => e (i64_0.mp q)), show decide (¬ a N = 0) = true from decide_eq_true e]; rfl
theorem rr_ord {K : KV} {z : MZ} (h : RR K z) (x : Int32) : oOrd K x = qOrd z x := by
  unfold oOrd qOrd
  rw [h.n]
  cases hx : hix 6 x with
  | false => rfl
  | true => exact low_eq h.n24 (fun k hk => h.fr _ k (hx6 hx) hk)
theorem rr_deg {K : KV} {z : MZ} (h : RR K z) (x : Int32) : oDeg K x = qDeg z x := by
  unfold oDeg qDeg
  rw [h.n]
  cases hx : hix 6 x with
  | false => rfl
  | true => exact hi_eq (fun k hk => h.fr _ k (hx6 hx) hk) h.n24
theorem rr_dif {K : KV} {z : MZ} (h : RR K z) (x y : Int32) : oDif K x y = qDif z x y := by
  unfold oDif qDif
  rw [h.n]
  cases hx : hix 6 x with
  | false => rfl
  | true =>
    cases hy : hix 6 y with
    | false => rfl
    | true => exact fd_cg (fun k _ hk => by
        have := h.n24
        rw [h.fr _ k (hx6 hx) (by omega), h.fr _ k (hx6 hy) (by omega)]
        exact decide_eq_decide.mpr (not_congr i64_inj.symm))
