/-! slots, output, input, snapshot, both sides -/
theorem RR.s5 {K : KV} {z : MZ} (h : RR K z) : R5 K.2.2.2.2.2.2.2.2 z.2.2.2.2.2.2.2.2.2.2.2.2.2.2.2.2.2.2.2.2.2.2.2.2.2.2.2.1 z.2.2.2.2.2.2.2.2.2.2.2.2.2.2.2.2.2.2.2.2.2.2.2.2.2.2.2.2.1 z.2.2.2.2.2.2.2.2.2.2.2.2.2.2.2.2.2.2.2.2.2.2.2.2.2.2.2.2.2.1 := h.2.2.2.2.2.1
theorem RR.ssOk {K : KV} {z : MZ} (h : RR K z) : SsOk z := fun t ht => by
  obtain ⟨a, b⟩ := h.s5 t ht
  refine ⟨?_, a⟩
  rcases b with ⟨_, b⟩ | ⟨_, b1, b2, _⟩
  · exact .inl b
  · exact .inr ⟨_, b2, b1⟩
theorem RR.slSs {K : KV} {z : MZ} (h : RR K z) {j : Nat} {v : SlV} {ss : Nat → Int32} (h5 : R5 (va_up K.2.2.2.2.2.2.2.2 j v) z.2.2.2.2.2.2.2.2.2.2.2.2.2.2.2.2.2.2.2.2.2.2.2.2.2.2.2.1 ss z.2.2.2.2.2.2.2.2.2.2.2.2.2.2.2.2.2.2.2.2.2.2.2.2.2.2.2.2.2.1) : RR (kSl K j v) (s_ss z ss) := by
  obtain ⟨h1, h2, h3, h4, h5', h6, h7, h8⟩ := h
  simp only [RR, kSl, s_ss]
  exact ⟨h1, h2, h3, h4, h5', h5, h7, h8⟩
theorem RR.idSs {K : KV} {z : MZ} (h : RR K z) {ss : Nat → Int32} (h5 : R5 K.2.2.2.2.2.2.2.2 z.2.2.2.2.2.2.2.2.2.2.2.2.2.2.2.2.2.2.2.2.2.2.2.2.2.2.2.1 ss z.2.2.2.2.2.2.2.2.2.2.2.2.2.2.2.2.2.2.2.2.2.2.2.2.2.2.2.2.2.1) : RR K (s_ss z ss) := by
  obtain ⟨h1, h2, h3, h4, h5', h6, h7, h8⟩ := h
  simp only [RR, s_ss]
  exact ⟨h1, h2, h3, h4, h5', h5, h7, h8⟩
theorem RR.slFl {K : KV} {z : MZ} (h : RR K z) {j : Nat} {v : SlV} {fl : Nat → Int64} (h5 : R5 (va_up K.2.2.2.2.2.2.2.2 j v) z.2.2.2.2.2.2.2.2.2.2.2.2.2.2.2.2.2.2.2.2.2.2.2.2.2.2.2.1 z.2.2.2.2.2.2.2.2.2.2.2.2.2.2.2.2.2.2.2.2.2.2.2.2.2.2.2.2.1 fl) : RR (kSl K j v) (s_fl z fl) := by
  obtain ⟨h1, h2, h3, h4, h5', h6, h7, h8⟩ := h
  simp only [RR, kSl, s_fl]
  exact ⟨h1, h2, h3, h4, h5', h5, h7, h8⟩
theorem RR.slAl {K : KV} {z : MZ} (h : RR K z) {j : Nat} {v : SlV} {st : Nat → Nat} {ss : Nat → Int32} {fl : Nat → Int64} (h5 : R5 (va_up K.2.2.2.2.2.2.2.2 j v) st ss fl) : RR (kSl K j v) (s_al z st ss fl) := by
  obtain ⟨h1, h2, h3, h4, h5', h6, h7, h8⟩ := h
  simp only [RR, kSl, s_al]
  exact ⟨h1, h2, h3, h4, h5', h5, h7, h8⟩
theorem hx4 {x : Int32} (h : hix 4 x = true) : iN x < 4 := by
  obtain ⟨t, rfl, ht⟩ := hix_nat h (by decide)
  rw [iN_nI (by omega)]; exact ht
theorem nI_ge0 {s : Nat} (h : s < 2 ^ 31) : 0 ≤ nI s := by
  rw [Int32.le_iff_toInt_le, nI_toInt h, show (0 : Int32).toInt = 0 by decide]; omega
theorem rr_rel {K : KV} {z : MZ} (h : RR K z) (x : Int32) : Sm K z (oRel K x) (qRel z x) := by
  unfold oRel qRel
  cases hx : hix 4 x with
  | false => exact .same h _
  | true =>
    rw [cond_true, cond_true]
    have h4 := hx4 hx
    obtain ⟨a, b⟩ := h.s5 (iN x) h4
    rcases b with ⟨b0, b⟩ | ⟨b0, b1, b2, b3, b4⟩
    · rw [b0, b, if_neg (by decide), cond_false]
      refine ⟨rfl, h.idSs (fun t ht => ?_)⟩
      obtain ⟨a', b'⟩ := h.s5 t ht
      refine ⟨a', ?_⟩
      by_cases e : t = iN x
      · rw [e, pk_us]; exact .inl ⟨b0, rfl⟩
      · rw [pk_un e]; exact b'
    · rw [b0, b1, if_pos (nI_ge0 (by omega)), cond_true]
      refine ⟨rfl, h.slSs (fun t ht => ?_)⟩
      obtain ⟨a', b'⟩ := h.s5 t ht
      refine ⟨a', ?_⟩
      by_cases e : t = iN x
      · rw [e, pk_us, va_up_self]; exact .inl ⟨rfl, rfl⟩
      · rw [pk_un e, va_up_ne _ _ e]; exact b'
theorem rr_all {K : KV} {z : MZ} (h : RR K z) (x y p : Int32) : Sm K z (oAll K x y p) (qAll z x y p) := by
  unfold oAll qAll
  rw [btw_rg (x := y) (p := 0) (q := nI 3) (by decide) (by decide)]
  cases hx : hix 4 x with
  | false => exact .same h _
  | true =>
    rw [cond_true, cond_true]
    have h4 := hx4 hx
    by_cases h1 : y < 0
    · rw [if_pos h1, if_pos h1]; exact .same h _
    · rw [if_neg h1, if_neg h1]
      by_cases h2 : y ≤ nI 3
      · rw [if_pos h2, if_neg (fun q => lt_nle.mp q h2)]
        by_cases h3 : p ≤ nI 40
        · rw [if_pos h3, if_pos h3]
          by_cases h5 : 0 ≤ p
          · rw [if_pos h5, if_pos h5]
            have hp : p = nI (iN p) ∧ iN p ≤ 40 := by
              rw [Int32.le_iff_toInt_le, show (0 : Int32).toInt = 0 by decide] at h5
              rw [Int32.le_iff_toInt_le, show (nI 40).toInt = 40 by decide] at h3
              unfold iN
              refine ⟨?_, by omega⟩
              apply Int32.toInt_inj.mp
              rw [nI_toInt (by omega)]
              omega
            have hy : iN y < 4 := by
              rw [Int32.le_iff_toInt_le, show (nI 3).toInt = 3 by decide] at h2
              unfold iN
              omega
            refine ⟨rfl, h.slAl (fun t ht => ?_)⟩
            obtain ⟨a', b'⟩ := h.s5 t ht
            by_cases e : t = iN x
            · rw [e, pk_us, va_up_self, va_up_self]
              refine ⟨hy, .inr ⟨rfl, hp.1, hp.2, rfl, fun j hj => ?_⟩⟩
              unfold alE
              rw [if_pos (by omega)]
            · rw [pk_un e, va_up_ne _ _ e, va_up_ne _ _ e]
              refine ⟨a', ?_⟩
              rcases b' with b | ⟨b0, b1, b2, b3, b4⟩
              · exact .inl b
              · refine .inr ⟨b0, b1, b2, b3, fun j hj => ?_⟩
                unfold alE
                rw [if_neg (by omega)]
                exact b4 j hj
          · rw [if_neg h5, if_neg h5]; exact .same h _
        · rw [if_neg h3, if_neg h3]; exact .same h _
      · rw [if_neg h2, if_pos (lt_nle.mpr h2)]; exact .same h _
theorem ss_m1 {s : Nat} (h : s < 2 ^ 30) : (nI s - nI 1).toInt64.toInt = (s : Int) - 1 := by
  rw [Int32.toInt_toInt64, Int32.toInt_sub, nI_toInt (by omega), show (nI 1).toInt = 1 by decide]
  exact Int.bmod_eq_of_le (by omega) (by omega)
theorem rr_put {K : KV} {z : MZ} (h : RR K z) (x y : Int32) (v : Int64) : Sm K z (oPut K x y v) (qPut z x y v) := by
  unfold oPut qPut
  cases hx : hix 4 x with
  | false => exact .same h _
  | true =>
    rw [cond_true, cond_true]
    have h4 := hx4 hx
    obtain ⟨a, b⟩ := h.s5 (iN x) h4
    rcases b with ⟨b0, b⟩ | ⟨b0, b1, b2, b3, b4⟩
    · rw [b0, b, if_neg (by decide), cond_false]; exact .same h _
    · rw [b0, b1, if_pos (nI_ge0 (by omega)), cond_true, btw_hix (by omega) (ss_m1 (by omega))]
      cases hy : hix (K.2.2.2.2.2.2.2.2 (iN x)).2.2.1 y with
      | false => exact .same h _
      | true =>
        obtain ⟨k, rfl, hk⟩ := hix_nat hy (by omega)
        rw [iN_nI (by omega), cond_true, cond_true]
        refine ⟨rfl, h.slFl (fun t ht => ?_)⟩
        obtain ⟨a', b'⟩ := h.s5 t ht
        refine ⟨a', ?_⟩
        by_cases e : t = iN x
        · rw [e, va_up_self]
          refine .inr ⟨rfl, b1, b2, b3, fun j hj => ?_⟩
          by_cases e2 : j = k
          · rw [e2, pk_uLs, b3]; exact pk_uLs.symm
          · rw [pk_uLn (by omega)]
            exact (b4 j hj).trans (pk_uLn e2).symm
        · rw [va_up_ne _ _ e]
          rcases b' with b' | ⟨c0, c1, c2, c3, c4⟩
          · exact .inl b'
          · refine .inr ⟨c0, c1, c2, c3, fun j hj => ?_⟩
            rw [pk_uLn (by omega)]
            exact c4 j hj
theorem btw_none {y : Int32} : btw y.toInt64 0 ((-1 : Int32) - nI 1).toInt64 = false := by
  unfold btw
  rw [Bool.and_eq_false_iff]
  by_cases h : (0 : Int64) ≤ y.toInt64
  · right
    refine decide_eq_false (fun q => ?_)
    rw [Int64.le_iff_toInt_le] at h q
    rw [show ((-1 : Int32) - nI 1).toInt64.toInt = -2 by decide] at q
    rw [show (0 : Int64).toInt = 0 by decide] at h
    omega
  · left
    exact decide_eq_false h
theorem rr_ele {K : KV} {z : MZ} (h : RR K z) (x y : Int32) : oEle K x y = qEle z x y := by
  unfold oEle qEle
  cases hx : hix 4 x with
  | false => rfl
  | true =>
    rw [cond_true, cond_true]
    have h4 := hx4 hx
    obtain ⟨a, b⟩ := h.s5 (iN x) h4
    rcases b with ⟨b0, b⟩ | ⟨b0, b1, b2, b3, b4⟩
    · rw [b0, b, btw_none]; rfl
    · rw [b0, b1, btw_hix (by omega) (ss_m1 (by omega)), cond_true]
      cases hy : hix (K.2.2.2.2.2.2.2.2 (iN x)).2.2.1 y with
      | false => rfl
      | true =>
        obtain ⟨k, rfl, hk⟩ := hix_nat hy (by omega)
        rw [iN_nI (by omega), cond_true, cond_true]
        exact (b4 k (by omega)).symm
theorem hrg_chain {α : Type} {n m : Nat} {a b c : Int32} {X Y : α} : (bif hrg n a c then (bif hrg m b c then X else Y) else Y) = (if a < 0 then Y else if b < 0 then Y else if c < 0 then Y else if (nI n).toInt64 < a.toInt64 + c.toInt64 then Y else if (nI m).toInt64 < b.toInt64 + c.toInt64 then Y else X) := by
  unfold hrg
  by_cases h1 : a < 0 <;> by_cases h2 : b < 0 <;> by_cases h3 : c < 0 <;> by_cases h4 : (nI n).toInt64 < a.toInt64 + c.toInt64 <;> by_cases h5 : (nI m).toInt64 < b.toInt64 + c.toInt64 <;> simp [h1, h2, h3, h4, h5]
theorem hrg_sm {n : Nat} {a c : Int32} (hn : n ≤ 40) (h : hrg n a c = true) : iN a + iN c ≤ n := by
  unfold hrg at h
  rw [Bool.and_eq_true, Bool.and_eq_true] at h
  obtain ⟨p, q, rfl, rfl, hp⟩ := lt_sum (of_decide_eq_true h.1) (of_decide_eq_true h.2.1) hn (of_decide_eq_true h.2.2)
  rw [iN_nI (by omega), iN_nI (by omega)]
  omega
theorem rr_cpE {K : KV} {z : MZ} (h : RR K z) (x a y b c : Int32) : Sm K z (oCpy K x a y b c) (qCpE z x a y b c) := by
  unfold oCpy qCpE
  cases hx : hix 4 x with
  | false => exact .same h _
  | true =>
    cases hy : hix 4 y with
    | false => exact .same h _
    | true =>
      rw [cond_true, cond_true, cond_true, cond_true]
      have hx4' := hx4 hx
      have hy4 := hx4 hy
      obtain ⟨a1, b1⟩ := h.s5 (iN x) hx4'
      rcases b1 with ⟨b0, b1⟩ | ⟨b0, b1, b2, b3, b4⟩
      · rw [b0, b1, cond_false, if_pos (by decide)]; exact .same h _
      · rw [b0, b1, if_neg (fun q => lt_nle.mp q (nI_ge0 (by omega))), cond_true]
        obtain ⟨a2, c1⟩ := h.s5 (iN y) hy4
        rcases c1 with ⟨c0, c1⟩ | ⟨c0, c1, c2, c3, c4⟩
        · rw [c0, c1, cond_false, if_neg (by decide)]; exact .same h _
        · rw [c0, c1, if_pos (nI_ge0 (by omega)), cond_true, b3, c3]
          by_cases ht : (K.2.2.2.2.2.2.2.2 (iN x)).2.1 = (K.2.2.2.2.2.2.2.2 (iN y)).2.1
          · rw [if_pos ht, if_pos ht, ← hrg_chain]
            cases q1 : hrg (K.2.2.2.2.2.2.2.2 (iN x)).2.2.1 a c with
            | false => exact .same h _
            | true =>
              cases q2 : hrg (K.2.2.2.2.2.2.2.2 (iN y)).2.2.1 b c with
              | false => exact .same h _
              | true =>
                have n1 := hrg_sm b2 q1
                have n2 := hrg_sm c2 q2
                rw [cond_true, cond_true, cond_true, cond_true]
                refine ⟨rfl, h.slFl (fun t ht => ?_)⟩
                obtain ⟨a', b'⟩ := h.s5 t ht
                refine ⟨a', ?_⟩
                by_cases e : t = iN y
                · rw [e, va_up_self]
                  refine .inr ⟨rfl, c1, c2, c3, fun j hj => ?_⟩
                  show cpE z.2.2.2.2.2.2.2.2.2.2.2.2.2.2.2.2.2.2.2.2.2.2.2.2.2.2.2.2.2.1 (40 * iN x + iN a) (40 * iN y + iN b) (iN c) (40 * iN y + j) = va_cpy (K.2.2.2.2.2.2.2.2 (iN x)).2.2.2 (K.2.2.2.2.2.2.2.2 (iN y)).2.2.2 (iN a) (iN b) (iN c) j
                  unfold cpE va_cpy
                  by_cases w : iN b ≤ j ∧ j < iN b + iN c
                  · rw [if_pos w, if_pos (by omega), ← b4 _ (by omega), show 40 * iN x + iN a + (40 * iN y + j - (40 * iN y + iN b)) = 40 * iN x + (iN a + (j - iN b)) by omega]
                  · rw [if_neg w, if_neg (by omega)]; exact c4 j hj
                · rw [va_up_ne _ _ e]
                  rcases b' with b' | ⟨d0, d1, d2, d3, d4⟩
                  · exact .inl b'
                  · refine .inr ⟨d0, d1, d2, d3, fun j hj => ?_⟩
                    unfold cpE
                    rw [if_neg (by omega)]
                    exact d4 j hj
          · rw [if_neg ht, if_neg ht]; exact .same h _
theorem rr_cmp {K : KV} {z : MZ} (h : RR K z) (x y : Int32) : oCmp K x y = qCmp z x y := by
  have hn := h.n24
  unfold oCmp qCmp
  cases hx : hix 4 x with
  | false => rw [cond_false, cond_false]
  | true =>
    cases hy : hix 6 y with
    | false => rw [cond_true, cond_true, cond_false, cond_false]
    | true =>
      rw [cond_true, cond_true, cond_true, cond_true]
      obtain ⟨a, b⟩ := h.s5 (iN x) (hx4 hx)
      rcases b with ⟨b0, b⟩ | ⟨b0, b1, b2, b3, b4⟩
      · rw [b0, b, cond_false, if_neg (by decide)]
      · rw [b0, b1, if_pos (nI_ge0 (by omega)), cond_true, iN_nI (by omega), h.n]
        exact fd_cg (fun k _ hk => by rw [b4 k (by omega), h.fr _ k (hx6 hy) (by omega)])
/-- output -/
theorem rr_out {K : KV} {z : MZ} (h : RR K z) (x : Int32) : oOut K x = qOut z x := by
  obtain ⟨e1, e2, e3⟩ := h.2.2.2.2.1
  unfold oOut qOut
  rw [e1, e2, btw_hix (n := K.2.2.2.2.2.2.2.1.1) (by omega) (ss_m1 (by omega))]
  by_cases h1 : x < 0
  · rw [if_pos h1]
    unfold hix
    rw [show decide (¬ x < 0) = false from decide_eq_false (fun q => q h1)]
    rfl
  · rw [if_neg h1]
    cases hx : hix K.2.2.2.2.2.2.2.1.1 x with
    | true =>
      obtain ⟨t, rfl, ht⟩ := hix_nat hx (by omega)
      rw [iN_nI (by omega), if_pos ht]; rfl
    | false =>
      rw [if_neg (fun q => ?_)]; rfl
      unfold hix at hx
      rw [show decide (¬ x < 0) = true from decide_eq_true h1, Bool.true_and] at hx
      have hx := of_decide_eq_false hx
      refine hx (lt_nle.mp ?_)
      rw [Int32.lt_iff_toInt_lt, nI_toInt (by omega)]
      rw [Int32.lt_iff_toInt_lt, show (0 : Int32).toInt = 0 by decide] at h1
      unfold iN at q
      omega
theorem rr_fmt {K : KV} {z : MZ} (h : RR K z) (x : Int32) : Sm K z (oFmt K x) (qFmt z K.2.1.2.1 x) := by
  obtain ⟨h1, h2, h3, h4, ⟨e1, e2, e3⟩, h6, h7, h8⟩ := h
  have hn : z.1 = K.2.1.1 := h1.1
  unfold oFmt qFmt
  rw [e2, hn]
  cases hx : hix 6 x with
  | false => exact ⟨rfl, h1, h2, h3, h4, ⟨e1, e2, e3⟩, h6, h7, h8⟩
  | true =>
    have hw := wser_len (K.2.1.2.1 (iN x)) K.2.1.1 h2.2.1 K.2.2.2.2.2.2.2.1.2
    revert hw
    generalize wser (K.2.1.2.1 (iN x)) K.2.1.1 K.2.2.2.2.2.2.2.1.2 = W
    intro hw
    rw [cond_true, cond_true]
    refine ⟨rfl, ?_⟩
    simp only [RR, kOu, s_wr2]
    exact ⟨h1, h2, h3, h4, ⟨rfl, rfl, hw⟩, h6, h7, h8⟩
/-- input -/
theorem rr_app {K : KV} {z : MZ} (h : RR K z) (x y : Int32) : Sm K z (oApp K x y) (qApp z x y) := by
  obtain ⟨e1, e2, e3, e4⟩ := h.2.2.2.1
  unfold oApp qApp
  rw [btw_rg (x := y) (p := nI 1) (q := nI 4) (by decide) (by decide), e1, e2]
  by_cases h1 : y < nI 1
  · rw [if_pos h1, if_pos h1]; exact .same h _
  · rw [if_neg h1, if_neg h1]
    by_cases h2 : y ≤ nI 4
    · rw [if_pos h2, if_pos h2]
      cases q : allB (fun j => decide (byO x (nI j) ≤ nI 127)) (iN y) with
      | false => exact .same h _
      | true =>
        rw [cond_true, cond_true]
        by_cases h3 : K.2.2.2.2.2.2.1.1 + iN y ≤ 60
        · rw [if_pos h3, if_pos h3]
          have a1 : ∀ t, (apI x (iN y) K.2.2.2.2.2.2.1 t).1 = K.2.2.2.2.2.2.1.1 + t := fun t => by
            induction t with
            | zero => rfl
            | succ t ih =>
              show (apI x (iN y) K.2.2.2.2.2.2.1 t).1 + 1 = _
              rw [ih]; omega
          have a2 := apI_128 (x := x) (c := iN y) (v := K.2.2.2.2.2.2.1) e4 (fun j hj => of_decide_eq_true (allB_iff.mp q j hj)) (iN y) (Nat.le_refl _)
          have a3 := h.setIn (l := (apI x (iN y) K.2.2.2.2.2.2.1 (iN y)).1) (x := (apI x (iN y) K.2.2.2.2.2.2.1 (iN y)).2) (by rw [a1]; exact h3) a2
          exact ⟨rfl, a3⟩
        · rw [if_neg h3, if_neg h3]; exact .same h _
    · rw [if_neg h2, if_neg h2]; exact .same h _
theorem rr_len {K : KV} {z : MZ} (h : RR K z) : K.2.1.2.2.2.1 = z.2.2.1 := h.1.2.2.1.symm
/-- snapshot -/
theorem sv_0 {z : MZ} : svZ z 0 = (nI z.1).toInt64 ∧ svZ z 1 = (nI z.2.1).toInt64 ∧ svZ z 2 = (z.2.2.1).toInt64 ∧ svZ z 3 = (nI z.2.2.2.1).toInt64 := by
  unfold svZ svI
  refine ⟨?_, ?_, ?_, ?_⟩
  · rw [if_neg (by decide), if_neg (by decide), if_neg (by decide), if_neg (by decide), pk_uLn (by decide), pk_uLn (by decide), pk_uLn (by decide), pk_uLs]
  · rw [if_neg (by decide), if_neg (by decide), if_neg (by decide), if_neg (by decide), pk_uLn (by decide), pk_uLn (by decide), pk_uLs]
  · rw [if_neg (by decide), if_neg (by decide), if_neg (by decide), if_neg (by decide), pk_uLn (by decide), pk_uLs]
  · rw [if_neg (by decide), if_neg (by decide), if_neg (by decide), if_neg (by decide), pk_uLs]
theorem sv_fr {z : MZ} {j : Nat} (h : j < 144) : svZ z (4 + j) = z.2.2.2.2.2.2.2.2.2.2.2.1 j := by
  unfold svZ svI
  rw [if_neg (by omega), if_neg (by omega), if_neg (by omega), if_pos (by omega), show 4 + j - 4 = j by omega]
theorem sv_fa {z : MZ} {j : Nat} (h : j < 120) : svZ z (4 + 144 + j) = z.2.2.2.2.2.2.2.2.2.2.2.2.1 j := by
  unfold svZ svI
  rw [if_neg (by omega), if_neg (by omega), if_pos (by omega), show 4 + 144 + j - (4 + 144) = j by omega]
theorem sv_fb {z : MZ} {j : Nat} (h : j < 120) : svZ z (4 + 144 + 120 + j) = z.2.2.2.2.2.2.2.2.2.2.2.2.2.1 j := by
  unfold svZ svI
  rw [if_neg (by omega), if_pos (by omega), show 4 + 144 + 120 + j - (4 + 144 + 120) = j by omega]
theorem sv_fe {z : MZ} {j : Nat} (h : j < 1920) : svZ z (4 + 144 + 120 + 120 + j) = z.2.2.2.2.2.2.2.2.2.2.2.2.2.2.1 j := by
  unfold svZ svI
  rw [if_pos (by omega), show 4 + 144 + 120 + 120 + j - (4 + 144 + 120 + 120) = j by omega]
theorem rr_snp {K : KV} {z : MZ} (h : RR K z) : Sm K z (oSnp K) (qSnp z) := by
  obtain ⟨⟨a0, a1, a2, a3, a4, a5, a6, a7⟩, h2, h3, h4, h5, h6, h7, h8⟩ := h
  have hm := h2.2.2.2.1
  have r6 : R6 true K.2.1 K.2.2.1 true (svZ z) := by
    refine ⟨rfl, fun _ => ⟨h2, ?_, ?_, ?_, ?_, ⟨rfl, rfl, rfl, rfl, ?_, ?_, ?_, ?_⟩⟩⟩
    · rw [sv_0.1, a0]
    · rw [sv_0.2.1, a1]
    · rw [sv_0.2.2.1, a2]
    · rw [sv_0.2.2.2, a3]
    · intro t k ht hk
      show svZ z (4 + (24 * t + k)) = _
      rw [sv_fr (by omega)]; exact a4 t k ht hk
    · intro t k ht hk
      show svZ z (4 + 144 + (24 * t + k)) = _
      rw [sv_fa (by omega)]; exact a5 t k ht hk
    · intro t k ht hk
      show svZ z (4 + 144 + 120 + (24 * t + k)) = _
      rw [sv_fb (by omega)]; exact a6 t k ht hk
    · intro i hi
      obtain ⟨b1, b2⟩ := a7 i hi
      refine ⟨fun t k ht hk => ?_, fun t k ht hk => ?_⟩
      · show svZ z (4 + 144 + 120 + 120 + (240 * i + (24 * t + k))) = _
        rw [sv_fe (by omega)]; exact b1 t k ht hk
      · show svZ z (4 + 144 + 120 + 120 + (240 * i + 120 + (24 * t + k))) = _
        rw [sv_fe (by omega)]; exact b2 t k ht hk
  unfold oSnp qSnp
  generalize svZ z = F at r6
  refine ⟨by show nI _ = nI _; rw [a0], ?_⟩
  simp only [RR, s_fs, s_hs]
  exact ⟨⟨a0, a1, a2, a3, a4, a5, a6, a7⟩, h2, h3, h4, h5, h6, r6, h8⟩
theorem RR.rsOk {K : KV} {z : MZ} (h : RR K z) : z.2.2.2.2.2.2.2.2.2.1 = true → RsOk z K.2.2.2.1.1 K.2.2.2.1.2.2.1.1 K.2.2.2.1.2.2.2.2 K.2.2.2.1.2.2.2.1 := fun hs => by
  obtain ⟨e, f⟩ := h.2.2.2.2.2.2.1
  obtain ⟨_, f0, f1, f2, f3, _⟩ := f (e.symm.trans hs)
  exact ⟨f0, f1, f2, f3⟩
theorem ld_at {f fs : Nat → Int64} {k t j : Nat} (h : j < t) : ldI f fs k t j = fs (k + j) := if_pos h
theorem rr_res {K : KV} {z : MZ} (h : RR K z) : Sm K z (oRes K) (qRst z K.2.2.2.1.1 K.2.2.2.1.2.2.1.1 K.2.2.2.1.2.2.2.2 K.2.2.2.1.2.2.2.1) := by
  obtain ⟨h1, h2, h3, h4, h5, h6, ⟨e, f⟩, h8⟩ := h
  unfold oRes qRst
  rw [e]
  cases hs : K.1 with
  | false => exact ⟨rfl, h1, h2, h3, h4, h5, h6, ⟨e, f⟩, h8⟩
  | true =>
    rw [cond_true, cond_true]
    refine ⟨rfl, ?_⟩
    obtain ⟨g0, g1, g2, g3, g4, ⟨_, _, _, _, a4, a5, a6, a7⟩⟩ := f hs
    have hm := g0.2.2.2.1
    simp only [RR, rsV, s_rv]
    refine ⟨⟨rfl, rfl, rfl, rfl, ?_, ?_, ?_, ?_⟩, g0, h3, h4, h5, h6, ⟨e.trans hs, fun _ => f hs⟩, h8⟩
    · intro t k ht hk
      rw [ld_at (by omega)]; exact a4 t k ht hk
    · intro t k ht hk
      rw [ld_at (by omega)]; exact a5 t k ht hk
    · intro t k ht hk
      rw [ld_at (by omega)]; exact a6 t k ht hk
    · intro i hi
      obtain ⟨b1, b2⟩ := a7 i hi
      refine ⟨fun t k ht hk => ?_, fun t k ht hk => ?_⟩
      · show ldI _ _ _ _ (240 * i + (24 * t + k)) = _
        rw [ld_at (by omega)]; exact b1 t k ht hk
      · show ldI _ _ _ _ (240 * i + 120 + (24 * t + k)) = _
        rw [ld_at (by omega)]; exact b2 t k ht hk
