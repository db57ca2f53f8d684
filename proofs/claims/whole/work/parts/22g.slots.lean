def SsOk (z : MZ) : Prop := ∀ t : Nat, t < 4 → (z.2.2.2.2.2.2.2.2.2.2.2.2.2.2.2.2.2.2.2.2.2.2.2.2.2.2.2.2.1 t = -1 ∨ ∃ s : Nat, s ≤ 40 ∧ z.2.2.2.2.2.2.2.2.2.2.2.2.2.2.2.2.2.2.2.2.2.2.2.2.2.2.2.2.1 t = nI s) ∧ z.2.2.2.2.2.2.2.2.2.2.2.2.2.2.2.2.2.2.2.2.2.2.2.2.2.2.2.1 t < 4
theorem ss_nat {x : Int32} (h : x = -1 ∨ ∃ s : Nat, s ≤ 40 ∧ x = nI s) (h0 : 0 ≤ x) : ∃ s : Nat, s ≤ 40 ∧ x = nI s := by
  rcases h with e | e
  · subst e; exact absurd h0 (by decide)
  · exact e
theorem ss_btw {x y : Int32} (h : x = -1 ∨ ∃ s : Nat, s ≤ 40 ∧ x = nI s) (hb : btw y.toInt64 0 (x - nI 1).toInt64 = true) : ∃ s k : Nat, s ≤ 40 ∧ x = nI s ∧ y = nI k ∧ k < s := by
  rcases h with e | ⟨s, hs, e⟩
  · subst e
    unfold btw at hb
    rw [Bool.and_eq_true] at hb
    have h1 := Int64.le_iff_toInt_le.mp (of_decide_eq_true hb.1)
    have h2 := Int64.le_iff_toInt_le.mp (of_decide_eq_true hb.2)
    have h3 : ((-1 - nI 1 : Int32)).toInt64.toInt = -2 := by decide +kernel
    rw [h3] at h2
    have h4 : (0 : Int) ≤ y.toInt64.toInt := h1
    omega
  · subst e
    by_cases h0 : s = 0
    · subst h0
      unfold btw at hb
      rw [Bool.and_eq_true] at hb
      have h1 := Int64.le_iff_toInt_le.mp (of_decide_eq_true hb.1)
      have h2 := Int64.le_iff_toInt_le.mp (of_decide_eq_true hb.2)
      have h3 : ((nI 0 - nI 1 : Int32)).toInt64.toInt = -1 := by decide +kernel
      rw [h3] at h2
      have h4 : (0 : Int) ≤ y.toInt64.toInt := h1
      omega
    · rw [show nI s - nI 1 = nI (s - 1) from pk_sub (by omega)] at hb
      rw [btw_hix (n := s) (by omega) (n1_toInt (by omega) (by omega))] at hb
      obtain ⟨k, e, hk⟩ := hix_nat hb (by omega)
      exact ⟨s, k, hs, rfl, e, hk⟩
def alE (fl : Nat → Int64) (t j : Nat) : Int64 := if 40 * t ≤ j ∧ j < 40 * t + 40 then 0 else fl j
def cpE (fl : Nat → Int64) (s d c j : Nat) : Int64 := if d ≤ j ∧ j < d + c then fl (s + (j - d)) else fl j
def mvF (fl fm : Nat → Int64) (s c j : Nat) : Int64 := if j < c then fl (s + j) else fm j
def s_al (z : MZ) (x_st : (Nat → Nat)) (x_ss : (Nat → Int32)) (x_fl : (Nat → Int64)) : MZ := (z.1, z.2.1, z.2.2.1, z.2.2.2.1, z.2.2.2.2.1, z.2.2.2.2.2.1, z.2.2.2.2.2.2.1, z.2.2.2.2.2.2.2.1, z.2.2.2.2.2.2.2.2.1, z.2.2.2.2.2.2.2.2.2.1, z.2.2.2.2.2.2.2.2.2.2.1, z.2.2.2.2.2.2.2.2.2.2.2.1, z.2.2.2.2.2.2.2.2.2.2.2.2.1, z.2.2.2.2.2.2.2.2.2.2.2.2.2.1, z.2.2.2.2.2.2.2.2.2.2.2.2.2.2.1, z.2.2.2.2.2.2.2.2.2.2.2.2.2.2.2.1, z.2.2.2.2.2.2.2.2.2.2.2.2.2.2.2.2.1, z.2.2.2.2.2.2.2.2.2.2.2.2.2.2.2.2.2.1, z.2.2.2.2.2.2.2.2.2.2.2.2.2.2.2.2.2.2.1, z.2.2.2.2.2.2.2.2.2.2.2.2.2.2.2.2.2.2.2.1, z.2.2.2.2.2.2.2.2.2.2.2.2.2.2.2.2.2.2.2.2.1, z.2.2.2.2.2.2.2.2.2.2.2.2.2.2.2.2.2.2.2.2.2.1, z.2.2.2.2.2.2.2.2.2.2.2.2.2.2.2.2.2.2.2.2.2.2.1, z.2.2.2.2.2.2.2.2.2.2.2.2.2.2.2.2.2.2.2.2.2.2.2.1, z.2.2.2.2.2.2.2.2.2.2.2.2.2.2.2.2.2.2.2.2.2.2.2.2.1, z.2.2.2.2.2.2.2.2.2.2.2.2.2.2.2.2.2.2.2.2.2.2.2.2.2.1, z.2.2.2.2.2.2.2.2.2.2.2.2.2.2.2.2.2.2.2.2.2.2.2.2.2.2.1, x_st, x_ss, x_fl, z.2.2.2.2.2.2.2.2.2.2.2.2.2.2.2.2.2.2.2.2.2.2.2.2.2.2.2.2.2.2.1, z.2.2.2.2.2.2.2.2.2.2.2.2.2.2.2.2.2.2.2.2.2.2.2.2.2.2.2.2.2.2.2)
def s_fmfl (z : MZ) (x_fm : (Nat → Int64)) (x_fl : (Nat → Int64)) : MZ := (z.1, z.2.1, z.2.2.1, z.2.2.2.1, z.2.2.2.2.1, z.2.2.2.2.2.1, z.2.2.2.2.2.2.1, z.2.2.2.2.2.2.2.1, z.2.2.2.2.2.2.2.2.1, z.2.2.2.2.2.2.2.2.2.1, z.2.2.2.2.2.2.2.2.2.2.1, z.2.2.2.2.2.2.2.2.2.2.2.1, z.2.2.2.2.2.2.2.2.2.2.2.2.1, z.2.2.2.2.2.2.2.2.2.2.2.2.2.1, z.2.2.2.2.2.2.2.2.2.2.2.2.2.2.1, z.2.2.2.2.2.2.2.2.2.2.2.2.2.2.2.1, z.2.2.2.2.2.2.2.2.2.2.2.2.2.2.2.2.1, z.2.2.2.2.2.2.2.2.2.2.2.2.2.2.2.2.2.1, z.2.2.2.2.2.2.2.2.2.2.2.2.2.2.2.2.2.2.1, z.2.2.2.2.2.2.2.2.2.2.2.2.2.2.2.2.2.2.2.1, z.2.2.2.2.2.2.2.2.2.2.2.2.2.2.2.2.2.2.2.2.1, z.2.2.2.2.2.2.2.2.2.2.2.2.2.2.2.2.2.2.2.2.2.1, z.2.2.2.2.2.2.2.2.2.2.2.2.2.2.2.2.2.2.2.2.2.2.1, z.2.2.2.2.2.2.2.2.2.2.2.2.2.2.2.2.2.2.2.2.2.2.2.1, z.2.2.2.2.2.2.2.2.2.2.2.2.2.2.2.2.2.2.2.2.2.2.2.2.1, z.2.2.2.2.2.2.2.2.2.2.2.2.2.2.2.2.2.2.2.2.2.2.2.2.2.1, z.2.2.2.2.2.2.2.2.2.2.2.2.2.2.2.2.2.2.2.2.2.2.2.2.2.2.1, z.2.2.2.2.2.2.2.2.2.2.2.2.2.2.2.2.2.2.2.2.2.2.2.2.2.2.2.1, z.2.2.2.2.2.2.2.2.2.2.2.2.2.2.2.2.2.2.2.2.2.2.2.2.2.2.2.2.1, x_fl, x_fm, z.2.2.2.2.2.2.2.2.2.2.2.2.2.2.2.2.2.2.2.2.2.2.2.2.2.2.2.2.2.2.2)
def qAll (z : MZ) (x y p : Int32) : Int32 × MZ := bif hix 4 x then (bif btw y.toInt64 0 3 then (if p ≤ nI 40 then (if 0 ≤ p then (p, s_al z (va_up z.2.2.2.2.2.2.2.2.2.2.2.2.2.2.2.2.2.2.2.2.2.2.2.2.2.2.2.1 (iN x) (iN y)) (upd z.2.2.2.2.2.2.2.2.2.2.2.2.2.2.2.2.2.2.2.2.2.2.2.2.2.2.2.2.1 (iN x) p) (alE z.2.2.2.2.2.2.2.2.2.2.2.2.2.2.2.2.2.2.2.2.2.2.2.2.2.2.2.2.2.1 (iN x))) else (-14, z)) else (-1, z)) else (-1, z)) else (-1, z)
def qPut (z : MZ) (x y : Int32) (v : Int64) : Int32 × MZ := bif hix 4 x then (if 0 ≤ z.2.2.2.2.2.2.2.2.2.2.2.2.2.2.2.2.2.2.2.2.2.2.2.2.2.2.2.2.1 (iN x) then (bif btw y.toInt64 0 (z.2.2.2.2.2.2.2.2.2.2.2.2.2.2.2.2.2.2.2.2.2.2.2.2.2.2.2.2.1 (iN x) - nI 1).toInt64 then (nI 1, s_fl z (vp_updL z.2.2.2.2.2.2.2.2.2.2.2.2.2.2.2.2.2.2.2.2.2.2.2.2.2.2.2.2.2.1 (40 * iN x + iN y) (nrw (z.2.2.2.2.2.2.2.2.2.2.2.2.2.2.2.2.2.2.2.2.2.2.2.2.2.2.2.1 (iN x)) v))) else (-13, z)) else (-11, z)) else (-1, z)
def qEle (z : MZ) (x y : Int32) : Int64 := bif hix 4 x then (bif btw y.toInt64 0 (z.2.2.2.2.2.2.2.2.2.2.2.2.2.2.2.2.2.2.2.2.2.2.2.2.2.2.2.2.1 (iN x) - nI 1).toInt64 then z.2.2.2.2.2.2.2.2.2.2.2.2.2.2.2.2.2.2.2.2.2.2.2.2.2.2.2.2.2.1 (40 * iN x + iN y) else -9223372036854775808) else -9223372036854775808
def qCpE (z : MZ) (x a y b c : Int32) : Int32 × MZ := bif hix 4 x then (bif hix 4 y then (if z.2.2.2.2.2.2.2.2.2.2.2.2.2.2.2.2.2.2.2.2.2.2.2.2.2.2.2.2.1 (iN x) < 0 then (-11, z) else if 0 ≤ z.2.2.2.2.2.2.2.2.2.2.2.2.2.2.2.2.2.2.2.2.2.2.2.2.2.2.2.2.1 (iN y) then (if z.2.2.2.2.2.2.2.2.2.2.2.2.2.2.2.2.2.2.2.2.2.2.2.2.2.2.2.1 (iN x) = z.2.2.2.2.2.2.2.2.2.2.2.2.2.2.2.2.2.2.2.2.2.2.2.2.2.2.2.1 (iN y) then (if a < 0 then (-13, z) else if b < 0 then (-13, z) else if c < 0 then (-13, z) else if (z.2.2.2.2.2.2.2.2.2.2.2.2.2.2.2.2.2.2.2.2.2.2.2.2.2.2.2.2.1 (iN x)).toInt64 < a.toInt64 + c.toInt64 then (-13, z) else if (z.2.2.2.2.2.2.2.2.2.2.2.2.2.2.2.2.2.2.2.2.2.2.2.2.2.2.2.2.1 (iN y)).toInt64 < b.toInt64 + c.toInt64 then (-13, z) else (c, s_fl z (cpE z.2.2.2.2.2.2.2.2.2.2.2.2.2.2.2.2.2.2.2.2.2.2.2.2.2.2.2.2.2.1 (40 * iN x + iN a) (40 * iN y + iN b) (iN c)))) else (-12, z)) else (-11, z)) else (-1, z)) else (-1, z)
def qCmp (z : MZ) (x y : Int32) : Int32 := bif hix 4 x then (bif hix 6 y then (if 0 ≤ z.2.2.2.2.2.2.2.2.2.2.2.2.2.2.2.2.2.2.2.2.2.2.2.2.2.2.2.2.1 (iN x) then fd (fun j => decide (¬ z.2.2.2.2.2.2.2.2.2.2.2.2.2.2.2.2.2.2.2.2.2.2.2.2.2.2.2.2.2.1 (40 * iN x + j) = z.2.2.2.2.2.2.2.2.2.2.2.1 (24 * iN y + j))) (if iN (z.2.2.2.2.2.2.2.2.2.2.2.2.2.2.2.2.2.2.2.2.2.2.2.2.2.2.2.2.1 (iN x)) = z.1 then -7 else nI (min (iN (z.2.2.2.2.2.2.2.2.2.2.2.2.2.2.2.2.2.2.2.2.2.2.2.2.2.2.2.2.1 (iN x))) z.1)) (min (iN (z.2.2.2.2.2.2.2.2.2.2.2.2.2.2.2.2.2.2.2.2.2.2.2.2.2.2.2.2.1 (iN x))) z.1) 0 else -11) else -2) else -1
theorem le40 {p : Int32} (h : p ≤ nI 40) (h0 : 0 ≤ p) : ∃ s : Nat, p = nI s ∧ s ≤ 40 := by
  obtain ⟨t, e, ht⟩ := nat_ge0 (x := p) (Int32.not_lt.mpr h0)
  subst e
  exact ⟨t, rfl, c_le ht (by decide) h⟩
theorem lt_sum {a c : Int32} {s : Nat} (h1 : ¬ a < 0) (h2 : ¬ c < 0) (hs : s ≤ 40) (h : ¬ (nI s).toInt64 < a.toInt64 + c.toInt64) : ∃ p q : Nat, a = nI p ∧ c = nI q ∧ p + q ≤ s := hrg_nat (n := s) (by unfold hrg; rw [dT h1, dT h2, dT h]; rfl) hs
set_option maxHeartbeats 4000000 in
set_option maxRecDepth 100000 in
theorem c_X8_allocate {S : ST} {E : ET} {g : Nat → va_E} {z : MZ} (hM : MC S E g z) (x y p : Int32) : CtI S E yX8_allocate cX8_allocate 5 (Option.some FieldType.int) rmX8_allocate [.ref (E.1 286), .int x, .int y, .int p] g (fun u g' => u = (qAll z x y p).1 ∧ MC S E g' (qAll z x y p).2 ∧ Fr g g' 286 308) := by
  refine Ct.of RX8 (by decide +kernel) rfl (Nat.le_of_ble_eq_true rfl) (fun M C Z => ?_)
  refine G.eq (pc' := 0) (vs' := [some (.ref (E.1 286)), some (.int x), some (.int y), some (.int p), none]) (st' := []) ?_
  refine r_iload_n (pc := 0) C dX8_allocate_0 rfl ?_
  refine r_callS (pc := 1) C dX8_allocate_1 cs_RX8_287 (c_X8_isSlot x) ⟨rfl, rfl, by decide, by decide⟩ rfl rfl (Nat.le_of_ble_eq_true rfl) ⟨Nat.zero_le _, Nat.zero_le _⟩ ?_
  rintro _ _ ⟨_, rfl, rfl, rfl⟩
  show G M S E (0, 0) g 4 [some (.ref (E.1 286)), some (.int x), some (.int y), some (.int p), none] [.int (b2i (hix 4 x))]
  refine r_if_eq (pc := 4) (tgt := 25) C dX8_allocate_4 (by decide) (fun h4 => ?_) (fun h4 => ?_)
  · have h4 := b_f h4
    refine r_iconst (pc := 25) (v := (-1)) C dX8_allocate_25 (by decide +kernel) ?_
    exact r_iret (pc := 26) C Z dX8_allocate_26 rfl (by rw [show qAll z x y p = (-1, z) by simp only [qAll, h4, cond_true, cond_false, if_true, if_false, not_true_eq_false, not_false_eq_true, ↓reduceIte]]; exact ⟨rfl, hM, Fr.rf⟩)
  · have h4 := b_t h4
    refine r_iload_n (pc := 7) C dX8_allocate_7 rfl ?_
    refine r_i2l (pc := 8) C dX8_allocate_8 ?_
    refine r_lconst (pc := 9) (v := 0) C dX8_allocate_9 rfl ?_
    refine r_ldc2 (pc := 10) C dX8_allocate_10 qK_RX8_158 ?_
    refine r_callS (pc := 13) C dX8_allocate_13 cs_RX8_7 (c_X8_isBetween y.toInt64 0 3) ⟨rfl, rfl, by decide, by decide⟩ rfl rfl (Nat.le_of_ble_eq_true rfl) ⟨Nat.zero_le _, Nat.zero_le _⟩ ?_
    rintro _ _ ⟨_, rfl, rfl, rfl⟩
    show G M S E (0, 0) g 16 [some (.ref (E.1 286)), some (.int x), some (.int y), some (.int p), none] [.int (b2i (btw y.toInt64 0 3))]
    refine r_if_eq (pc := 16) (tgt := 25) C dX8_allocate_16 (by decide) (fun h16 => ?_) (fun h16 => ?_)
    · have h16 := b_f h16
      refine r_iconst (pc := 25) (v := (-1)) C dX8_allocate_25 (by decide +kernel) ?_
      exact r_iret (pc := 26) C Z dX8_allocate_26 rfl (by rw [show qAll z x y p = (-1, z) by simp only [qAll, h4, h16, cond_true, cond_false, if_true, if_false, not_true_eq_false, not_false_eq_true, ↓reduceIte]]; exact ⟨rfl, hM, Fr.rf⟩)
    · have h16 := b_t h16
      refine r_iload_n (pc := 19) C dX8_allocate_19 rfl ?_
      refine r_bipush (pc := 20) (v := nI 40) C dX8_allocate_20 (by decide +kernel) ?_
      refine r_icmp_le (pc := 22) (tgt := 27) C dX8_allocate_22 (by decide) (fun h22 => ?_) (fun h22 => ?_)
      · refine r_iload_n (pc := 27) C dX8_allocate_27 rfl ?_
        refine r_if_ge (pc := 28) (tgt := 34) C dX8_allocate_28 (by decide) (fun h28 => ?_) (fun h28 => ?_)
        · obtain ⟨t, rfl, ht⟩ := hix_nat h4 (by omega)
          obtain ⟨k, rfl, hk0, hk1, hk⟩ := btw_nat (p := 0) (q := 3) h16 (by decide) (by decide)
          obtain ⟨s, rfl, hs⟩ := le40 h22 h28
          refine r_aload_n (pc := 34) C dX8_allocate_34 rfl ?_
          refine r_getf (pc := 35) C dX8_allocate_35 fl_RX8_71 hM.1 rfl ?_
          refine r_iload_n (pc := 38) C dX8_allocate_38 rfl ?_
          refine r_iload_n (pc := 39) C dX8_allocate_39 rfl ?_
          refine r_iast (pc := 40) C dX8_allocate_40 hM.2.2.2.2.2.2.2.2.2.2.2.2.2.2.2.2.2.1 rfl (by omega) (by omega) ?_
          refine G.cI (f' := fun j => nI (va_up z.2.2.2.2.2.2.2.2.2.2.2.2.2.2.2.2.2.2.2.2.2.2.2.2.2.2.2.1 t k j)) (fun j _ => pt_up) ?_
          refine r_aload_n (pc := 41) C dX8_allocate_41 rfl ?_
          refine r_getf (pc := 42) C dX8_allocate_42 fl_RX8_74 (Ce.up hM.1 (by decide)) rfl ?_
          refine r_iload_n (pc := 45) C dX8_allocate_45 rfl ?_
          refine r_iload_n (pc := 46) C dX8_allocate_46 rfl ?_
          refine r_iast (pc := 47) C dX8_allocate_47 (Ce.up hM.2.2.2.2.2.2.2.2.2.2.2.2.2.2.2.2.2.2.1 (by decide)) rfl (by omega) (by omega) ?_
          refine r_iconst (pc := 48) (v := nI 0) C dX8_allocate_48 (by decide +kernel) ?_
          refine r_istore (pc := 49) C dX8_allocate_49 (by decide) ?_
          refine G.eq (pc' := 51) (vs' := [some (.ref (E.1 286)), some (.int (nI t)), some (.int (nI k)), some (.int (nI s)), some (.int (nI 0))]) (st' := []) ?_
          refine G.heap (Ce.id (Ce.up (Ce.up hM.2.2.2.2.2.2.2.2.2.2.2.2.2.2.2.2.2.2.2.1 (by decide)) (by decide))) ?_
          refine bk (P := fun t2 => G M S E (0, 0) (va_up (va_up (va_up g 303 (xI S 4 (fun j => nI (va_up z.2.2.2.2.2.2.2.2.2.2.2.2.2.2.2.2.2.2.2.2.2.2.2.2.2.2.2.1 t k j)))) 304 (xI S 4 (upd z.2.2.2.2.2.2.2.2.2.2.2.2.2.2.2.2.2.2.2.2.2.2.2.2.2.2.2.2.1 t (nI s)))) 305 (xJ S 160 (it (fun k h => vp_updL h (40 * t + k) 0) t2 z.2.2.2.2.2.2.2.2.2.2.2.2.2.2.2.2.2.2.2.2.2.2.2.2.2.2.2.2.2.1))) 51 [some (.ref (E.1 286)), some (.int (nI t)), some (.int (nI k)), some (.int (nI s)), some (.int (nI t2))] []) (T := 40) ?_ (fun t2 ht ih => ?_)
          · show G M S E (0, 0) (va_up (va_up (va_up g 303 (xI S 4 (fun j => nI (va_up z.2.2.2.2.2.2.2.2.2.2.2.2.2.2.2.2.2.2.2.2.2.2.2.2.2.2.2.1 t k j)))) 304 (xI S 4 (upd z.2.2.2.2.2.2.2.2.2.2.2.2.2.2.2.2.2.2.2.2.2.2.2.2.2.2.2.2.1 t (nI s)))) 305 (xJ S 160 (it (fun k h => vp_updL h (40 * t + k) 0) 40 z.2.2.2.2.2.2.2.2.2.2.2.2.2.2.2.2.2.2.2.2.2.2.2.2.2.2.2.2.2.1))) 51 [some (.ref (E.1 286)), some (.int (nI t)), some (.int (nI k)), some (.int (nI s)), some (.int (nI 40))] []
            refine r_iload (pc := 51) C dX8_allocate_51 rfl ?_
            refine r_bipush (pc := 53) (v := nI 40) C dX8_allocate_53 (by decide +kernel) ?_
            refine r_icmp_ge (pc := 55) (tgt := 77) C dX8_allocate_55 (by decide) (fun h55 => ?_) (fun h55 => ?_)
            · have h55 := c_le (by omega) (by omega) h55
              refine G.cJ (f' := alE z.2.2.2.2.2.2.2.2.2.2.2.2.2.2.2.2.2.2.2.2.2.2.2.2.2.2.2.2.2.1 t) (fun j _ => it_st (fun _ => 0) z.2.2.2.2.2.2.2.2.2.2.2.2.2.2.2.2.2.2.2.2.2.2.2.2.2.2.2.2.2.1 (40 * t) 40 j) ?_
              refine r_iload_n (pc := 77) C dX8_allocate_77 rfl ?_
              exact r_iret (pc := 78) C Z dX8_allocate_78 rfl (by rw [show qAll z (nI t) (nI k) (nI s) = (nI s, s_al z (va_up z.2.2.2.2.2.2.2.2.2.2.2.2.2.2.2.2.2.2.2.2.2.2.2.2.2.2.2.1 t k) (upd z.2.2.2.2.2.2.2.2.2.2.2.2.2.2.2.2.2.2.2.2.2.2.2.2.2.2.2.2.1 t (nI s)) (alE z.2.2.2.2.2.2.2.2.2.2.2.2.2.2.2.2.2.2.2.2.2.2.2.2.2.2.2.2.2.1 t)) by simp only [qAll, h4, h16, h22, h28, iN_nI (show t < 2 ^ 31 by omega), iN_nI hk, cond_true, cond_false, if_true, if_false, not_true_eq_false, not_false_eq_true, ↓reduceIte]]; exact ⟨rfl, (by simp only [MC, s_n, s_r, s_len, s_rem, s_pc, s_hd, s_at_, s_wr, s_cu, s_hs, s_sv, s_fr, s_fa, s_fb, s_fe, s_f1, s_f2, s_f3, s_f4, s_f5, s_f6, s_fp, s_fc, s_wd, s_bg, s_fi, s_fo, s_st, s_ss, s_fl, s_fm, s_fs, s_tnp, s_scr, s_f12, s_wr2, s_al, s_fmfl]; exact ⟨(Ce.up (Ce.up (Ce.up hM.1 (by decide)) (by decide)) (by decide)), (Ce.up (Ce.up (Ce.up hM.2.1 (by decide)) (by decide)) (by decide)), (Ce.up (Ce.up (Ce.up hM.2.2.1 (by decide)) (by decide)) (by decide)), (Ce.up (Ce.up (Ce.up hM.2.2.2.1 (by decide)) (by decide)) (by decide)), (Ce.up (Ce.up (Ce.up hM.2.2.2.2.1 (by decide)) (by decide)) (by decide)), (Ce.up (Ce.up (Ce.up hM.2.2.2.2.2.1 (by decide)) (by decide)) (by decide)), (Ce.up (Ce.up (Ce.up hM.2.2.2.2.2.2.1 (by decide)) (by decide)) (by decide)), (Ce.up (Ce.up (Ce.up hM.2.2.2.2.2.2.2.1 (by decide)) (by decide)) (by decide)), (Ce.up (Ce.up (Ce.up hM.2.2.2.2.2.2.2.2.1 (by decide)) (by decide)) (by decide)), (Ce.up (Ce.up (Ce.up hM.2.2.2.2.2.2.2.2.2.1 (by decide)) (by decide)) (by decide)), (Ce.up (Ce.up (Ce.up hM.2.2.2.2.2.2.2.2.2.2.1 (by decide)) (by decide)) (by decide)), (Ce.up (Ce.up (Ce.up hM.2.2.2.2.2.2.2.2.2.2.2.1 (by decide)) (by decide)) (by decide)), (Ce.up (Ce.up (Ce.up hM.2.2.2.2.2.2.2.2.2.2.2.2.1 (by decide)) (by decide)) (by decide)), (Ce.up (Ce.up (Ce.up hM.2.2.2.2.2.2.2.2.2.2.2.2.2.1 (by decide)) (by decide)) (by decide)), (Ce.up (Ce.up (Ce.up hM.2.2.2.2.2.2.2.2.2.2.2.2.2.2.1 (by decide)) (by decide)) (by decide)), (Ce.up (Ce.up (Ce.up hM.2.2.2.2.2.2.2.2.2.2.2.2.2.2.2.1 (by decide)) (by decide)) (by decide)), (Ce.up (Ce.up (Ce.up hM.2.2.2.2.2.2.2.2.2.2.2.2.2.2.2.2.1 (by decide)) (by decide)) (by decide)), (Ce.up (Ce.up (Ce.new hM.2.2.2.2.2.2.2.2.2.2.2.2.2.2.2.2.2.1) (by decide)) (by decide)), (Ce.up (Ce.new (Ce.up hM.2.2.2.2.2.2.2.2.2.2.2.2.2.2.2.2.2.2.1 (by decide))) (by decide)), (Ce.new (Ce.up (Ce.up hM.2.2.2.2.2.2.2.2.2.2.2.2.2.2.2.2.2.2.2.1 (by decide)) (by decide))), (Ce.up (Ce.up (Ce.up hM.2.2.2.2.2.2.2.2.2.2.2.2.2.2.2.2.2.2.2.2.1 (by decide)) (by decide)) (by decide)), (Ce.up (Ce.up (Ce.up hM.2.2.2.2.2.2.2.2.2.2.2.2.2.2.2.2.2.2.2.2.2 (by decide)) (by decide)) (by decide))⟩), (((Fr.rf.up (by omega) (by omega)).up (by omega) (by omega)).up (by omega) (by omega))⟩)
            · have h55 := c_nle (by omega) (by omega) h55
              omega
          · show G M S E (0, 0) (va_up (va_up (va_up g 303 (xI S 4 (fun j => nI (va_up z.2.2.2.2.2.2.2.2.2.2.2.2.2.2.2.2.2.2.2.2.2.2.2.2.2.2.2.1 t k j)))) 304 (xI S 4 (upd z.2.2.2.2.2.2.2.2.2.2.2.2.2.2.2.2.2.2.2.2.2.2.2.2.2.2.2.2.1 t (nI s)))) 305 (xJ S 160 (it (fun k h => vp_updL h (40 * t + k) 0) t2 z.2.2.2.2.2.2.2.2.2.2.2.2.2.2.2.2.2.2.2.2.2.2.2.2.2.2.2.2.2.1))) 51 [some (.ref (E.1 286)), some (.int (nI t)), some (.int (nI k)), some (.int (nI s)), some (.int (nI t2))] []
            refine r_iload (pc := 51) C dX8_allocate_51 rfl ?_
            refine r_bipush (pc := 53) (v := nI 40) C dX8_allocate_53 (by decide +kernel) ?_
            refine r_icmp_ge (pc := 55) (tgt := 77) C dX8_allocate_55 (by decide) (fun h55 => ?_) (fun h55 => ?_)
            · have h55 := c_le (by omega) (by omega) h55
              omega
            · have h55 := c_nle (by omega) (by omega) h55
              refine r_aload_n (pc := 58) C dX8_allocate_58 rfl ?_
              refine r_getf (pc := 59) C dX8_allocate_59 fl_RX8_77 (Ce.up (Ce.up (Ce.up hM.1 (by decide)) (by decide)) (by decide)) rfl ?_
              refine r_bipush (pc := 62) (v := nI 40) C dX8_allocate_62 (by decide +kernel) ?_
              refine r_iload_n (pc := 64) C dX8_allocate_64 rfl ?_
              refine r_imul (pc := 65) C dX8_allocate_65 ?_
              refine r_ti (nI (40 * t)) (pk_mul _ _) ?_
              refine r_iload (pc := 66) C dX8_allocate_66 rfl ?_
              refine r_iadd (pc := 68) C dX8_allocate_68 ?_
              refine r_ti (nI (40 * t + t2)) (nI_add _ _) ?_
              refine r_lconst (pc := 69) (v := 0) C dX8_allocate_69 rfl ?_
              refine r_last2 (pc := 70) C dX8_allocate_70 hM.2.2.2.2.2.2.2.2.2.2.2.2.2.2.2.2.2.2.2.1.1 rfl (by omega) (by omega) ?_
              refine r_iinc (pc := 71) (v := nI (t2 + 1)) C dX8_allocate_71 rfl (nI_i1 _) (by decide) ?_
              refine G.eq (pc' := 74) (vs' := [some (.ref (E.1 286)), some (.int (nI t)), some (.int (nI k)), some (.int (nI s)), some (.int (nI (t2 + 1)))]) (st' := []) ?_
              refine r_goto (pc := 74) (tgt := 51) C dX8_allocate_74 (by decide) ?_
              exact ih
        · refine r_bipush (pc := 31) (v := (-14)) C dX8_allocate_31 (by decide +kernel) ?_
          exact r_iret (pc := 33) C Z dX8_allocate_33 rfl (by rw [show qAll z x y p = (-14, z) by simp only [qAll, h4, h16, h22, h28, cond_true, cond_false, if_true, if_false, not_true_eq_false, not_false_eq_true, ↓reduceIte]]; exact ⟨rfl, hM, Fr.rf⟩)
      · refine r_iconst (pc := 25) (v := (-1)) C dX8_allocate_25 (by decide +kernel) ?_
        exact r_iret (pc := 26) C Z dX8_allocate_26 rfl (by rw [show qAll z x y p = (-1, z) by simp only [qAll, h4, h16, h22, cond_true, cond_false, if_true, if_false, not_true_eq_false, not_false_eq_true, ↓reduceIte]]; exact ⟨rfl, hM, Fr.rf⟩)
set_option maxHeartbeats 4000000 in
set_option maxRecDepth 100000 in
theorem c_X8_putElement {S : ST} {E : ET} {g : Nat → va_E} {z : MZ} (hM : MC S E g z) (hS : SsOk z) (x y : Int32) (v : Int64) : CtI S E yX8_putElement cX8_putElement 5 (Option.some FieldType.int) rmX8_putElement [.ref (E.1 286), .int x, .int y, .long v] g (fun u g' => u = (qPut z x y v).1 ∧ MC S E g' (qPut z x y v).2 ∧ Fr g g' 286 308) := by
  refine Ct.of RX8 (by decide +kernel) rfl (Nat.le_of_ble_eq_true rfl) (fun M C Z => ?_)
  refine G.eq (pc' := 0) (vs' := [some (.ref (E.1 286)), some (.int x), some (.int y), some (.long v), none]) (st' := []) ?_
  refine r_iload_n (pc := 0) C dX8_putElement_0 rfl ?_
  refine r_callS (pc := 1) C dX8_putElement_1 cs_RX8_287 (c_X8_isSlot x) ⟨rfl, rfl, by decide, by decide⟩ rfl rfl (Nat.le_of_ble_eq_true rfl) ⟨Nat.zero_le _, Nat.zero_le _⟩ ?_
  rintro _ _ ⟨_, rfl, rfl, rfl⟩
  show G M S E (0, 0) g 4 [some (.ref (E.1 286)), some (.int x), some (.int y), some (.long v), none] [.int (b2i (hix 4 x))]
  refine r_if_ne (pc := 4) (tgt := 9) C dX8_putElement_4 (by decide) (fun h4 => ?_) (fun h4 => ?_)
  · have h4 := b_t h4
    obtain ⟨t, rfl, ht⟩ := hix_nat h4 (by omega)
    refine r_aload_n (pc := 9) C dX8_putElement_9 rfl ?_
    refine r_getf (pc := 10) C dX8_putElement_10 fl_RX8_74 hM.1 rfl ?_
    refine r_iload_n (pc := 13) C dX8_putElement_13 rfl ?_
    refine r_iald (pc := 14) C dX8_putElement_14 hM.2.2.2.2.2.2.2.2.2.2.2.2.2.2.2.2.2.2.1 rfl (by omega) (by omega) ?_
    refine r_if_ge (pc := 15) (tgt := 21) C dX8_putElement_15 (by decide) (fun h15 => ?_) (fun h15 => ?_)
    · refine r_iload_n (pc := 21) C dX8_putElement_21 rfl ?_
      refine r_i2l (pc := 22) C dX8_putElement_22 ?_
      refine r_lconst (pc := 23) (v := 0) C dX8_putElement_23 rfl ?_
      refine r_aload_n (pc := 24) C dX8_putElement_24 rfl ?_
      refine r_getf (pc := 25) C dX8_putElement_25 fl_RX8_74 hM.1 rfl ?_
      refine r_iload_n (pc := 28) C dX8_putElement_28 rfl ?_
      refine r_iald (pc := 29) C dX8_putElement_29 hM.2.2.2.2.2.2.2.2.2.2.2.2.2.2.2.2.2.2.1 rfl (by omega) (by omega) ?_
      refine r_iconst (pc := 30) (v := nI 1) C dX8_putElement_30 (by decide +kernel) ?_
      refine r_isub (pc := 31) C dX8_putElement_31 ?_
      refine r_i2l (pc := 32) C dX8_putElement_32 ?_
      refine r_callS (pc := 33) C dX8_putElement_33 cs_RX8_7 (c_X8_isBetween y.toInt64 0 ((z.2.2.2.2.2.2.2.2.2.2.2.2.2.2.2.2.2.2.2.2.2.2.2.2.2.2.2.2.1 t - nI 1).toInt64)) ⟨rfl, rfl, by decide, by decide⟩ rfl rfl (Nat.le_of_ble_eq_true rfl) ⟨Nat.zero_le _, Nat.zero_le _⟩ ?_
      rintro _ _ ⟨_, rfl, rfl, rfl⟩
      show G M S E (0, 0) g 36 [some (.ref (E.1 286)), some (.int (nI t)), some (.int y), some (.long v), none] [.int (b2i (btw y.toInt64 0 ((z.2.2.2.2.2.2.2.2.2.2.2.2.2.2.2.2.2.2.2.2.2.2.2.2.2.2.2.2.1 t - nI 1).toInt64)))]
      refine r_if_ne (pc := 36) (tgt := 42) C dX8_putElement_36 (by decide) (fun h36 => ?_) (fun h36 => ?_)
      · have h36 := b_t h36
        obtain ⟨s, k, hs, es, rfl, hk⟩ := ss_btw (hS t ht).1 h36
        refine r_aload_n (pc := 42) C dX8_putElement_42 rfl ?_
        refine r_getf (pc := 43) C dX8_putElement_43 fl_RX8_77 hM.1 rfl ?_
        refine r_bipush (pc := 46) (v := nI 40) C dX8_putElement_46 (by decide +kernel) ?_
        refine r_iload_n (pc := 48) C dX8_putElement_48 rfl ?_
        refine r_imul (pc := 49) C dX8_putElement_49 ?_
        refine r_ti (nI (40 * t)) (pk_mul _ _) ?_
        refine r_iload_n (pc := 50) C dX8_putElement_50 rfl ?_
        refine r_iadd (pc := 51) C dX8_putElement_51 ?_
        refine r_ti (nI (40 * t + k)) (nI_add _ _) ?_
        refine r_aload_n (pc := 52) C dX8_putElement_52 rfl ?_
        refine r_getf (pc := 53) C dX8_putElement_53 fl_RX8_71 hM.1 rfl ?_
        refine r_iload_n (pc := 56) C dX8_putElement_56 rfl ?_
        refine r_iald (pc := 57) C dX8_putElement_57 hM.2.2.2.2.2.2.2.2.2.2.2.2.2.2.2.2.2.1 rfl (by omega) (by omega) ?_
        refine r_ti (nI (z.2.2.2.2.2.2.2.2.2.2.2.2.2.2.2.2.2.2.2.2.2.2.2.2.2.2.2.1 t)) rfl ?_
        refine r_lload_n (pc := 58) C dX8_putElement_58 rfl ?_
        refine r_callS (pc := 59) C dX8_putElement_59 cs_RX8_290 (c_X8_narrow (z.2.2.2.2.2.2.2.2.2.2.2.2.2.2.2.2.2.2.2.2.2.2.2.2.2.2.2.1 t) (hS t ht).2 v) ⟨rfl, rfl, by decide, by decide⟩ rfl rfl (Nat.le_of_ble_eq_true rfl) ⟨Nat.zero_le _, Nat.zero_le _⟩ ?_
        rintro _ _ ⟨_, rfl, rfl, rfl⟩
        show G M S E (0, 0) g 62 [some (.ref (E.1 286)), some (.int (nI t)), some (.int (nI k)), some (.long v), none] [.long (nrw (z.2.2.2.2.2.2.2.2.2.2.2.2.2.2.2.2.2.2.2.2.2.2.2.2.2.2.2.1 t) v), .int (nI (40 * t + k)), .ref (E.1 305)]
        refine r_last (pc := 62) C dX8_putElement_62 hM.2.2.2.2.2.2.2.2.2.2.2.2.2.2.2.2.2.2.2.1 rfl (by omega) (by omega) ?_
        refine r_iconst (pc := 63) (v := nI 1) C dX8_putElement_63 (by decide +kernel) ?_
        exact r_iret (pc := 64) C Z dX8_putElement_64 rfl (by rw [show qPut z (nI t) (nI k) v = (nI 1, s_fl z (vp_updL z.2.2.2.2.2.2.2.2.2.2.2.2.2.2.2.2.2.2.2.2.2.2.2.2.2.2.2.2.2.1 (40 * t + k) (nrw (z.2.2.2.2.2.2.2.2.2.2.2.2.2.2.2.2.2.2.2.2.2.2.2.2.2.2.2.1 t) v))) by simp only [qPut, h4, h15, h36, iN_nI (show t < 2 ^ 31 by omega), iN_nI (show k < 2 ^ 31 by omega), cond_true, cond_false, if_true, if_false, not_true_eq_false, not_false_eq_true, ↓reduceIte]]; exact ⟨rfl, (by simp only [MC, s_n, s_r, s_len, s_rem, s_pc, s_hd, s_at_, s_wr, s_cu, s_hs, s_sv, s_fr, s_fa, s_fb, s_fe, s_f1, s_f2, s_f3, s_f4, s_f5, s_f6, s_fp, s_fc, s_wd, s_bg, s_fi, s_fo, s_st, s_ss, s_fl, s_fm, s_fs, s_tnp, s_scr, s_f12, s_wr2, s_al, s_fmfl]; exact ⟨(Ce.up hM.1 (by decide)), (Ce.up hM.2.1 (by decide)), (Ce.up hM.2.2.1 (by decide)), (Ce.up hM.2.2.2.1 (by decide)), (Ce.up hM.2.2.2.2.1 (by decide)), (Ce.up hM.2.2.2.2.2.1 (by decide)), (Ce.up hM.2.2.2.2.2.2.1 (by decide)), (Ce.up hM.2.2.2.2.2.2.2.1 (by decide)), (Ce.up hM.2.2.2.2.2.2.2.2.1 (by decide)), (Ce.up hM.2.2.2.2.2.2.2.2.2.1 (by decide)), (Ce.up hM.2.2.2.2.2.2.2.2.2.2.1 (by decide)), (Ce.up hM.2.2.2.2.2.2.2.2.2.2.2.1 (by decide)), (Ce.up hM.2.2.2.2.2.2.2.2.2.2.2.2.1 (by decide)), (Ce.up hM.2.2.2.2.2.2.2.2.2.2.2.2.2.1 (by decide)), (Ce.up hM.2.2.2.2.2.2.2.2.2.2.2.2.2.2.1 (by decide)), (Ce.up hM.2.2.2.2.2.2.2.2.2.2.2.2.2.2.2.1 (by decide)), (Ce.up hM.2.2.2.2.2.2.2.2.2.2.2.2.2.2.2.2.1 (by decide)), (Ce.up hM.2.2.2.2.2.2.2.2.2.2.2.2.2.2.2.2.2.1 (by decide)), (Ce.up hM.2.2.2.2.2.2.2.2.2.2.2.2.2.2.2.2.2.2.1 (by decide)), (Ce.new hM.2.2.2.2.2.2.2.2.2.2.2.2.2.2.2.2.2.2.2.1), (Ce.up hM.2.2.2.2.2.2.2.2.2.2.2.2.2.2.2.2.2.2.2.2.1 (by decide)), (Ce.up hM.2.2.2.2.2.2.2.2.2.2.2.2.2.2.2.2.2.2.2.2.2 (by decide))⟩), (Fr.rf.up (by omega) (by omega))⟩)
      · have h36 := b_f h36
        refine r_bipush (pc := 39) (v := (-13)) C dX8_putElement_39 (by decide +kernel) ?_
        exact r_iret (pc := 41) C Z dX8_putElement_41 rfl (by rw [show qPut z (nI t) y v = (-13, z) by simp only [qPut, h4, h15, h36, iN_nI (show t < 2 ^ 31 by omega), cond_true, cond_false, if_true, if_false, not_true_eq_false, not_false_eq_true, ↓reduceIte]]; exact ⟨rfl, hM, Fr.rf⟩)
    · refine r_bipush (pc := 18) (v := (-11)) C dX8_putElement_18 (by decide +kernel) ?_
      exact r_iret (pc := 20) C Z dX8_putElement_20 rfl (by rw [show qPut z (nI t) y v = (-11, z) by simp only [qPut, h4, h15, iN_nI (show t < 2 ^ 31 by omega), cond_true, cond_false, if_true, if_false, not_true_eq_false, not_false_eq_true, ↓reduceIte]]; exact ⟨rfl, hM, Fr.rf⟩)
  · have h4 := b_f h4
    refine r_iconst (pc := 7) (v := (-1)) C dX8_putElement_7 (by decide +kernel) ?_
    exact r_iret (pc := 8) C Z dX8_putElement_8 rfl (by rw [show qPut z x y v = (-1, z) by simp only [qPut, h4, cond_true, cond_false, if_true, if_false, not_true_eq_false, not_false_eq_true, ↓reduceIte]]; exact ⟨rfl, hM, Fr.rf⟩)
set_option maxHeartbeats 4000000 in
set_option maxRecDepth 100000 in
theorem c_X8_element {S : ST} {E : ET} {g : Nat → va_E} {z : MZ} (hM : MC S E g z) (hS : SsOk z) (x y : Int32) : CtL S E yX8_element cX8_element 3 (Option.some FieldType.long) rmX8_element [.ref (E.1 286), .int x, .int y] g (fun u g' => u = qEle z x y ∧ g = g') := by
  refine Ct.of RX8 (by decide +kernel) rfl (Nat.le_of_ble_eq_true rfl) (fun M C Z => ?_)
  refine G.eq (pc' := 0) (vs' := [some (.ref (E.1 286)), some (.int x), some (.int y)]) (st' := []) ?_
  refine r_iload_n (pc := 0) C dX8_element_0 rfl ?_
  refine r_callS (pc := 1) C dX8_element_1 cs_RX8_287 (c_X8_isSlot x) ⟨rfl, rfl, by decide, by decide⟩ rfl rfl (Nat.le_of_ble_eq_true rfl) ⟨Nat.zero_le _, Nat.zero_le _⟩ ?_
  rintro _ _ ⟨_, rfl, rfl, rfl⟩
  show G M S E (0, 0) g 4 [some (.ref (E.1 286)), some (.int x), some (.int y)] [.int (b2i (hix 4 x))]
  refine r_if_eq (pc := 4) (tgt := 39) C dX8_element_4 (by decide) (fun h4 => ?_) (fun h4 => ?_)
  · have h4 := b_f h4
    refine r_ldc2 (pc := 39) C dX8_element_39 qK_RX8_116 ?_
    exact r_lret (pc := 42) C Z dX8_element_42 (by rw [show qEle z x y = (-9223372036854775808) by simp only [qEle, h4, cond_true, cond_false, if_true, if_false, not_true_eq_false, not_false_eq_true, ↓reduceIte]]; exact ⟨rfl, rfl⟩)
  · have h4 := b_t h4
    obtain ⟨t, rfl, ht⟩ := hix_nat h4 (by omega)
    refine r_iload_n (pc := 7) C dX8_element_7 rfl ?_
    refine r_i2l (pc := 8) C dX8_element_8 ?_
    refine r_lconst (pc := 9) (v := 0) C dX8_element_9 rfl ?_
    refine r_aload_n (pc := 10) C dX8_element_10 rfl ?_
    refine r_getf (pc := 11) C dX8_element_11 fl_RX8_74 hM.1 rfl ?_
    refine r_iload_n (pc := 14) C dX8_element_14 rfl ?_
    refine r_iald (pc := 15) C dX8_element_15 hM.2.2.2.2.2.2.2.2.2.2.2.2.2.2.2.2.2.2.1 rfl (by omega) (by omega) ?_
    refine r_iconst (pc := 16) (v := nI 1) C dX8_element_16 (by decide +kernel) ?_
    refine r_isub (pc := 17) C dX8_element_17 ?_
    refine r_i2l (pc := 18) C dX8_element_18 ?_
    refine r_callS (pc := 19) C dX8_element_19 cs_RX8_7 (c_X8_isBetween y.toInt64 0 ((z.2.2.2.2.2.2.2.2.2.2.2.2.2.2.2.2.2.2.2.2.2.2.2.2.2.2.2.2.1 t - nI 1).toInt64)) ⟨rfl, rfl, by decide, by decide⟩ rfl rfl (Nat.le_of_ble_eq_true rfl) ⟨Nat.zero_le _, Nat.zero_le _⟩ ?_
    rintro _ _ ⟨_, rfl, rfl, rfl⟩
    show G M S E (0, 0) g 22 [some (.ref (E.1 286)), some (.int (nI t)), some (.int y)] [.int (b2i (btw y.toInt64 0 ((z.2.2.2.2.2.2.2.2.2.2.2.2.2.2.2.2.2.2.2.2.2.2.2.2.2.2.2.2.1 t - nI 1).toInt64)))]
    refine r_if_eq (pc := 22) (tgt := 39) C dX8_element_22 (by decide) (fun h22 => ?_) (fun h22 => ?_)
    · have h22 := b_f h22
      refine r_ldc2 (pc := 39) C dX8_element_39 qK_RX8_116 ?_
      exact r_lret (pc := 42) C Z dX8_element_42 (by rw [show qEle z (nI t) y = (-9223372036854775808) by simp only [qEle, h4, h22, iN_nI (show t < 2 ^ 31 by omega), cond_true, cond_false, if_true, if_false, not_true_eq_false, not_false_eq_true, ↓reduceIte]]; exact ⟨rfl, rfl⟩)
    · have h22 := b_t h22
      obtain ⟨s, k, hs, es, rfl, hk⟩ := ss_btw (hS t ht).1 h22
      refine r_aload_n (pc := 25) C dX8_element_25 rfl ?_
      refine r_getf (pc := 26) C dX8_element_26 fl_RX8_77 hM.1 rfl ?_
      refine r_bipush (pc := 29) (v := nI 40) C dX8_element_29 (by decide +kernel) ?_
      refine r_iload_n (pc := 31) C dX8_element_31 rfl ?_
      refine r_imul (pc := 32) C dX8_element_32 ?_
      refine r_ti (nI (40 * t)) (pk_mul _ _) ?_
      refine r_iload_n (pc := 33) C dX8_element_33 rfl ?_
      refine r_iadd (pc := 34) C dX8_element_34 ?_
      refine r_ti (nI (40 * t + k)) (nI_add _ _) ?_
      refine r_lald (pc := 35) C dX8_element_35 hM.2.2.2.2.2.2.2.2.2.2.2.2.2.2.2.2.2.2.2.1 rfl (by omega) (by omega) ?_
      refine r_goto (pc := 36) (tgt := 42) C dX8_element_36 (by decide) ?_
      exact r_lret (pc := 42) C Z dX8_element_42 (by rw [show qEle z (nI t) (nI k) = z.2.2.2.2.2.2.2.2.2.2.2.2.2.2.2.2.2.2.2.2.2.2.2.2.2.2.2.2.2.1 (40 * t + k) by simp only [qEle, h4, h22, iN_nI (show t < 2 ^ 31 by omega), iN_nI (show k < 2 ^ 31 by omega), cond_true, cond_false, if_true, if_false, not_true_eq_false, not_false_eq_true, ↓reduceIte]]; exact ⟨rfl, rfl⟩)
theorem cpE_it (fl fm : Nat → Int64) (s d c j : Nat) : it (fun k h => vp_updL h (d + k) (mvF fl fm s c k)) c fl j = cpE fl s d c j := by
  rw [it_st (mvF fl fm s c) fl d c j]
  unfold cpE mvF
  by_cases q : d ≤ j ∧ j < d + c
  · rw [if_pos q, if_pos q, if_pos (by omega)]
  · rw [if_neg q, if_neg q]
set_option maxHeartbeats 4000000 in
set_option maxRecDepth 100000 in
theorem c_X8_copyElements {S : ST} {E : ET} {g : Nat → va_E} {z : MZ} (hM : MC S E g z) (hS : SsOk z) (x a y b c : Int32) : CtI S E yX8_copyElements cX8_copyElements 7 (Option.some FieldType.int) rmX8_copyElements [.ref (E.1 286), .int x, .int a, .int y, .int b, .int c] g (fun u g' => u = (qCpE z x a y b c).1 ∧ (∃ z', MC S E g' z' ∧ Sv z' (qCpE z x a y b c).2) ∧ Fr g g' 286 308) := by
  refine Ct.of RX8 (by decide +kernel) rfl (Nat.le_of_ble_eq_true rfl) (fun M C Z => ?_)
  refine G.eq (pc' := 0) (vs' := [some (.ref (E.1 286)), some (.int x), some (.int a), some (.int y), some (.int b), some (.int c), none]) (st' := []) ?_
  refine r_iload_n (pc := 0) C dX8_copyElements_0 rfl ?_
  refine r_callS (pc := 1) C dX8_copyElements_1 cs_RX8_287 (c_X8_isSlot x) ⟨rfl, rfl, by decide, by decide⟩ rfl rfl (Nat.le_of_ble_eq_true rfl) ⟨Nat.zero_le _, Nat.zero_le _⟩ ?_
  rintro _ _ ⟨_, rfl, rfl, rfl⟩
  show G M S E (0, 0) g 4 [some (.ref (E.1 286)), some (.int x), some (.int a), some (.int y), some (.int b), some (.int c), none] [.int (b2i (hix 4 x))]
  refine r_if_eq (pc := 4) (tgt := 14) C dX8_copyElements_4 (by decide) (fun h4 => ?_) (fun h4 => ?_)
  · have h4 := b_f h4
    refine r_iconst (pc := 14) (v := (-1)) C dX8_copyElements_14 (by decide +kernel) ?_
    exact r_iret (pc := 15) C Z dX8_copyElements_15 rfl (by rw [show qCpE z x a y b c = (-1, z) by simp only [qCpE, h4, cond_true, cond_false, if_true, if_false, not_true_eq_false, not_false_eq_true, ↓reduceIte]]; exact ⟨rfl, ⟨z, hM, Sv.rf⟩, Fr.rf⟩)
  · have h4 := b_t h4
    refine r_iload_n (pc := 7) C dX8_copyElements_7 rfl ?_
    refine r_callS (pc := 8) C dX8_copyElements_8 cs_RX8_287 (c_X8_isSlot y) ⟨rfl, rfl, by decide, by decide⟩ rfl rfl (Nat.le_of_ble_eq_true rfl) ⟨Nat.zero_le _, Nat.zero_le _⟩ ?_
    rintro _ _ ⟨_, rfl, rfl, rfl⟩
    show G M S E (0, 0) g 11 [some (.ref (E.1 286)), some (.int x), some (.int a), some (.int y), some (.int b), some (.int c), none] [.int (b2i (hix 4 y))]
    refine r_if_ne (pc := 11) (tgt := 16) C dX8_copyElements_11 (by decide) (fun h11 => ?_) (fun h11 => ?_)
    · have h11 := b_t h11
      obtain ⟨t, rfl, ht⟩ := hix_nat h4 (by omega)
      obtain ⟨p, rfl, hp⟩ := hix_nat h11 (by omega)
      refine r_aload_n (pc := 16) C dX8_copyElements_16 rfl ?_
      refine r_getf (pc := 17) C dX8_copyElements_17 fl_RX8_74 hM.1 rfl ?_
      refine r_iload_n (pc := 20) C dX8_copyElements_20 rfl ?_
      refine r_iald (pc := 21) C dX8_copyElements_21 hM.2.2.2.2.2.2.2.2.2.2.2.2.2.2.2.2.2.2.1 rfl (by omega) (by omega) ?_
      refine r_if_lt (pc := 22) (tgt := 34) C dX8_copyElements_22 (by decide) (fun h22 => ?_) (fun h22 => ?_)
      · refine r_bipush (pc := 34) (v := (-11)) C dX8_copyElements_34 (by decide +kernel) ?_
        exact r_iret (pc := 36) C Z dX8_copyElements_36 rfl (by rw [show qCpE z (nI t) a (nI p) b c = (-11, z) by simp only [qCpE, h4, h11, h22, iN_nI (show t < 2 ^ 31 by omega), iN_nI (show p < 2 ^ 31 by omega), cond_true, cond_false, if_true, if_false, not_true_eq_false, not_false_eq_true, ↓reduceIte]]; exact ⟨rfl, ⟨z, hM, Sv.rf⟩, Fr.rf⟩)
      · refine r_aload_n (pc := 25) C dX8_copyElements_25 rfl ?_
        refine r_getf (pc := 26) C dX8_copyElements_26 fl_RX8_74 hM.1 rfl ?_
        refine r_iload_n (pc := 29) C dX8_copyElements_29 rfl ?_
        refine r_iald (pc := 30) C dX8_copyElements_30 hM.2.2.2.2.2.2.2.2.2.2.2.2.2.2.2.2.2.2.1 rfl (by omega) (by omega) ?_
        refine r_if_ge (pc := 31) (tgt := 37) C dX8_copyElements_31 (by decide) (fun h31 => ?_) (fun h31 => ?_)
        · have hst1 := (hS t ht).2
          have hst2 := (hS p hp).2
          refine r_aload_n (pc := 37) C dX8_copyElements_37 rfl ?_
          refine r_getf (pc := 38) C dX8_copyElements_38 fl_RX8_71 hM.1 rfl ?_
          refine r_iload_n (pc := 41) C dX8_copyElements_41 rfl ?_
          refine r_iald (pc := 42) C dX8_copyElements_42 hM.2.2.2.2.2.2.2.2.2.2.2.2.2.2.2.2.2.1 rfl (by omega) (by omega) ?_
          refine r_ti (nI (z.2.2.2.2.2.2.2.2.2.2.2.2.2.2.2.2.2.2.2.2.2.2.2.2.2.2.2.1 t)) rfl ?_
          refine r_aload_n (pc := 43) C dX8_copyElements_43 rfl ?_
          refine r_getf (pc := 44) C dX8_copyElements_44 fl_RX8_71 hM.1 rfl ?_
          refine r_iload_n (pc := 47) C dX8_copyElements_47 rfl ?_
          refine r_iald (pc := 48) C dX8_copyElements_48 hM.2.2.2.2.2.2.2.2.2.2.2.2.2.2.2.2.2.1 rfl (by omega) (by omega) ?_
          refine r_ti (nI (z.2.2.2.2.2.2.2.2.2.2.2.2.2.2.2.2.2.2.2.2.2.2.2.2.2.2.2.1 p)) rfl ?_
          refine r_icmp_eq (pc := 49) (tgt := 55) C dX8_copyElements_49 (by decide) (fun h49 => ?_) (fun h49 => ?_)
          · have h49 := c_eq (by omega) (by omega) h49
            refine r_iload_n (pc := 55) C dX8_copyElements_55 rfl ?_
            refine r_if_lt (pc := 56) (tgt := 104) C dX8_copyElements_56 (by decide) (fun h56 => ?_) (fun h56 => ?_)
            · refine r_bipush (pc := 104) (v := (-13)) C dX8_copyElements_104 (by decide +kernel) ?_
              exact r_iret (pc := 106) C Z dX8_copyElements_106 rfl (by rw [show qCpE z (nI t) a (nI p) b c = (-13, z) by simp only [qCpE, h4, h11, h22, h31, h49, h56, iN_nI (show t < 2 ^ 31 by omega), iN_nI (show p < 2 ^ 31 by omega), cond_true, cond_false, if_true, if_false, not_true_eq_false, not_false_eq_true, ↓reduceIte]]; exact ⟨rfl, ⟨z, hM, Sv.rf⟩, Fr.rf⟩)
            · refine r_iload (pc := 59) C dX8_copyElements_59 rfl ?_
              refine r_if_lt (pc := 61) (tgt := 104) C dX8_copyElements_61 (by decide) (fun h61 => ?_) (fun h61 => ?_)
              · refine r_bipush (pc := 104) (v := (-13)) C dX8_copyElements_104 (by decide +kernel) ?_
                exact r_iret (pc := 106) C Z dX8_copyElements_106 rfl (by rw [show qCpE z (nI t) a (nI p) b c = (-13, z) by simp only [qCpE, h4, h11, h22, h31, h49, h56, h61, iN_nI (show t < 2 ^ 31 by omega), iN_nI (show p < 2 ^ 31 by omega), cond_true, cond_false, if_true, if_false, not_true_eq_false, not_false_eq_true, ↓reduceIte]]; exact ⟨rfl, ⟨z, hM, Sv.rf⟩, Fr.rf⟩)
              · refine r_iload (pc := 64) C dX8_copyElements_64 rfl ?_
                refine r_if_lt (pc := 66) (tgt := 104) C dX8_copyElements_66 (by decide) (fun h66 => ?_) (fun h66 => ?_)
                · refine r_bipush (pc := 104) (v := (-13)) C dX8_copyElements_104 (by decide +kernel) ?_
                  exact r_iret (pc := 106) C Z dX8_copyElements_106 rfl (by rw [show qCpE z (nI t) a (nI p) b c = (-13, z) by simp only [qCpE, h4, h11, h22, h31, h49, h56, h61, h66, iN_nI (show t < 2 ^ 31 by omega), iN_nI (show p < 2 ^ 31 by omega), cond_true, cond_false, if_true, if_false, not_true_eq_false, not_false_eq_true, ↓reduceIte]]; exact ⟨rfl, ⟨z, hM, Sv.rf⟩, Fr.rf⟩)
                · refine r_iload_n (pc := 69) C dX8_copyElements_69 rfl ?_
                  refine r_i2l (pc := 70) C dX8_copyElements_70 ?_
                  refine r_iload (pc := 71) C dX8_copyElements_71 rfl ?_
                  refine r_i2l (pc := 73) C dX8_copyElements_73 ?_
                  refine r_ladd (pc := 74) C dX8_copyElements_74 ?_
                  refine r_aload_n (pc := 75) C dX8_copyElements_75 rfl ?_
                  refine r_getf (pc := 76) C dX8_copyElements_76 fl_RX8_74 hM.1 rfl ?_
                  refine r_iload_n (pc := 79) C dX8_copyElements_79 rfl ?_
                  refine r_iald (pc := 80) C dX8_copyElements_80 hM.2.2.2.2.2.2.2.2.2.2.2.2.2.2.2.2.2.2.1 rfl (by omega) (by omega) ?_
                  refine r_i2l (pc := 81) C dX8_copyElements_81 ?_
                  refine r_lcmp (pc := 82) C dX8_copyElements_82 ?_
                  refine r_if_gt (pc := 83) (tgt := 104) C dX8_copyElements_83 (by decide) (fun h83 => ?_) (fun h83 => ?_)
                  · have h83 := k_gt h83
                    refine r_bipush (pc := 104) (v := (-13)) C dX8_copyElements_104 (by decide +kernel) ?_
                    exact r_iret (pc := 106) C Z dX8_copyElements_106 rfl (by rw [show qCpE z (nI t) a (nI p) b c = (-13, z) by simp only [qCpE, h4, h11, h22, h31, h49, h56, h61, h66, h83, iN_nI (show t < 2 ^ 31 by omega), iN_nI (show p < 2 ^ 31 by omega), cond_true, cond_false, if_true, if_false, not_true_eq_false, not_false_eq_true, ↓reduceIte]]; exact ⟨rfl, ⟨z, hM, Sv.rf⟩, Fr.rf⟩)
                  · have h83 := k_ngt h83
                    refine r_iload (pc := 86) C dX8_copyElements_86 rfl ?_
                    refine r_i2l (pc := 88) C dX8_copyElements_88 ?_
                    refine r_iload (pc := 89) C dX8_copyElements_89 rfl ?_
                    refine r_i2l (pc := 91) C dX8_copyElements_91 ?_
                    refine r_ladd (pc := 92) C dX8_copyElements_92 ?_
                    refine r_aload_n (pc := 93) C dX8_copyElements_93 rfl ?_
                    refine r_getf (pc := 94) C dX8_copyElements_94 fl_RX8_74 hM.1 rfl ?_
                    refine r_iload_n (pc := 97) C dX8_copyElements_97 rfl ?_
                    refine r_iald (pc := 98) C dX8_copyElements_98 hM.2.2.2.2.2.2.2.2.2.2.2.2.2.2.2.2.2.2.1 rfl (by omega) (by omega) ?_
                    refine r_i2l (pc := 99) C dX8_copyElements_99 ?_
                    refine r_lcmp (pc := 100) C dX8_copyElements_100 ?_
                    refine r_if_le (pc := 101) (tgt := 107) C dX8_copyElements_101 (by decide) (fun h101 => ?_) (fun h101 => ?_)
                    · have h101 := k_le h101
                      obtain ⟨s1, hs1, es1⟩ := ss_nat (hS t ht).1 (Int32.not_lt.mp h22)
                      obtain ⟨s2, hs2, es2⟩ := ss_nat (hS p hp).1 h31
                      have h83b := h83
                      have h101b := h101
                      rw [es1] at h83b
                      rw [es2] at h101b
                      obtain ⟨a1, c1, ea, ec, hac⟩ := lt_sum h56 h66 hs1 h83b
                      obtain ⟨b1, c2, eb, ec2, hbc⟩ := lt_sum h61 h66 hs2 h101b
                      subst ea
                      subst eb
                      subst ec
                      have hcc : c1 = c2 := c_eq (by omega) (by omega) ec2
                      subst hcc
                      refine r_iconst (pc := 107) (v := nI 0) C dX8_copyElements_107 (by decide +kernel) ?_
                      refine r_istore (pc := 108) C dX8_copyElements_108 (by decide) ?_
                      refine G.eq (pc' := 110) (vs' := [some (.ref (E.1 286)), some (.int (nI t)), some (.int (nI a1)), some (.int (nI p)), some (.int (nI b1)), some (.int (nI c1)), some (.int (nI 0))]) (st' := []) ?_
                      refine G.heap (Ce.id hM.2.2.2.2.2.2.2.2.2.2.2.2.2.2.2.2.2.2.2.2.1) ?_
                      refine bk (P := fun t2 => G M S E (0, 0) (va_up g 306 (xJ S 40 (it (fun k h => vp_updL h k (z.2.2.2.2.2.2.2.2.2.2.2.2.2.2.2.2.2.2.2.2.2.2.2.2.2.2.2.2.2.1 (40 * t + a1 + k))) t2 z.2.2.2.2.2.2.2.2.2.2.2.2.2.2.2.2.2.2.2.2.2.2.2.2.2.2.2.2.2.2.1))) 110 [some (.ref (E.1 286)), some (.int (nI t)), some (.int (nI a1)), some (.int (nI p)), some (.int (nI b1)), some (.int (nI c1)), some (.int (nI t2))] []) (T := c1) ?_ (fun t2 ht ih => ?_)
                      · show G M S E (0, 0) (va_up g 306 (xJ S 40 (it (fun k h => vp_updL h k (z.2.2.2.2.2.2.2.2.2.2.2.2.2.2.2.2.2.2.2.2.2.2.2.2.2.2.2.2.2.1 (40 * t + a1 + k))) c1 z.2.2.2.2.2.2.2.2.2.2.2.2.2.2.2.2.2.2.2.2.2.2.2.2.2.2.2.2.2.2.1))) 110 [some (.ref (E.1 286)), some (.int (nI t)), some (.int (nI a1)), some (.int (nI p)), some (.int (nI b1)), some (.int (nI c1)), some (.int (nI c1))] []
                        refine r_iload (pc := 110) C dX8_copyElements_110 rfl ?_
                        refine r_iload (pc := 112) C dX8_copyElements_112 rfl ?_
                        refine r_icmp_ge (pc := 114) (tgt := 144) C dX8_copyElements_114 (by decide) (fun h114 => ?_) (fun h114 => ?_)
                        · have h114 := c_le (by omega) (by omega) h114
                          refine G.cJ (f' := mvF z.2.2.2.2.2.2.2.2.2.2.2.2.2.2.2.2.2.2.2.2.2.2.2.2.2.2.2.2.2.1 z.2.2.2.2.2.2.2.2.2.2.2.2.2.2.2.2.2.2.2.2.2.2.2.2.2.2.2.2.2.2.1 (40 * t + a1) c1) (fun j _ => it_putL (fun k => z.2.2.2.2.2.2.2.2.2.2.2.2.2.2.2.2.2.2.2.2.2.2.2.2.2.2.2.2.2.1 (40 * t + a1 + k)) z.2.2.2.2.2.2.2.2.2.2.2.2.2.2.2.2.2.2.2.2.2.2.2.2.2.2.2.2.2.2.1 c1 j) ?_
                          refine r_iconst (pc := 144) (v := nI 0) C dX8_copyElements_144 (by decide +kernel) ?_
                          refine r_istore (pc := 145) C dX8_copyElements_145 (by decide) ?_
                          refine G.eq (pc' := 147) (vs' := [some (.ref (E.1 286)), some (.int (nI t)), some (.int (nI a1)), some (.int (nI p)), some (.int (nI b1)), some (.int (nI c1)), some (.int (nI 0))]) (st' := []) ?_
                          refine G.heap (Ce.id (Ce.up hM.2.2.2.2.2.2.2.2.2.2.2.2.2.2.2.2.2.2.2.1 (by decide))) ?_
                          refine bk (P := fun t2 => G M S E (0, 0) (va_up (va_up g 306 (xJ S 40 (mvF z.2.2.2.2.2.2.2.2.2.2.2.2.2.2.2.2.2.2.2.2.2.2.2.2.2.2.2.2.2.1 z.2.2.2.2.2.2.2.2.2.2.2.2.2.2.2.2.2.2.2.2.2.2.2.2.2.2.2.2.2.2.1 (40 * t + a1) c1))) 305 (xJ S 160 (it (fun k h => vp_updL h (40 * p + b1 + k) (mvF z.2.2.2.2.2.2.2.2.2.2.2.2.2.2.2.2.2.2.2.2.2.2.2.2.2.2.2.2.2.1 z.2.2.2.2.2.2.2.2.2.2.2.2.2.2.2.2.2.2.2.2.2.2.2.2.2.2.2.2.2.2.1 (40 * t + a1) c1 k)) t2 z.2.2.2.2.2.2.2.2.2.2.2.2.2.2.2.2.2.2.2.2.2.2.2.2.2.2.2.2.2.1))) 147 [some (.ref (E.1 286)), some (.int (nI t)), some (.int (nI a1)), some (.int (nI p)), some (.int (nI b1)), some (.int (nI c1)), some (.int (nI t2))] []) (T := c1) ?_ (fun t2 ht ih => ?_)
                          · show G M S E (0, 0) (va_up (va_up g 306 (xJ S 40 (mvF z.2.2.2.2.2.2.2.2.2.2.2.2.2.2.2.2.2.2.2.2.2.2.2.2.2.2.2.2.2.1 z.2.2.2.2.2.2.2.2.2.2.2.2.2.2.2.2.2.2.2.2.2.2.2.2.2.2.2.2.2.2.1 (40 * t + a1) c1))) 305 (xJ S 160 (it (fun k h => vp_updL h (40 * p + b1 + k) (mvF z.2.2.2.2.2.2.2.2.2.2.2.2.2.2.2.2.2.2.2.2.2.2.2.2.2.2.2.2.2.1 z.2.2.2.2.2.2.2.2.2.2.2.2.2.2.2.2.2.2.2.2.2.2.2.2.2.2.2.2.2.2.1 (40 * t + a1) c1 k)) c1 z.2.2.2.2.2.2.2.2.2.2.2.2.2.2.2.2.2.2.2.2.2.2.2.2.2.2.2.2.2.1))) 147 [some (.ref (E.1 286)), some (.int (nI t)), some (.int (nI a1)), some (.int (nI p)), some (.int (nI b1)), some (.int (nI c1)), some (.int (nI c1))] []
                            refine r_iload (pc := 147) C dX8_copyElements_147 rfl ?_
                            refine r_iload (pc := 149) C dX8_copyElements_149 rfl ?_
                            refine r_icmp_ge (pc := 151) (tgt := 182) C dX8_copyElements_151 (by decide) (fun h151 => ?_) (fun h151 => ?_)
                            · have h151 := c_le (by omega) (by omega) h151
                              refine G.cJ (f' := cpE z.2.2.2.2.2.2.2.2.2.2.2.2.2.2.2.2.2.2.2.2.2.2.2.2.2.2.2.2.2.1 (40 * t + a1) (40 * p + b1) c1) (fun j _ => cpE_it z.2.2.2.2.2.2.2.2.2.2.2.2.2.2.2.2.2.2.2.2.2.2.2.2.2.2.2.2.2.1 z.2.2.2.2.2.2.2.2.2.2.2.2.2.2.2.2.2.2.2.2.2.2.2.2.2.2.2.2.2.2.1 (40 * t + a1) (40 * p + b1) c1 j) ?_
                              refine r_iload (pc := 182) C dX8_copyElements_182 rfl ?_
                              exact r_iret (pc := 184) C Z dX8_copyElements_184 rfl (by rw [show qCpE z (nI t) (nI a1) (nI p) (nI b1) (nI c1) = (nI c1, s_fl z (cpE z.2.2.2.2.2.2.2.2.2.2.2.2.2.2.2.2.2.2.2.2.2.2.2.2.2.2.2.2.2.1 (40 * t + a1) (40 * p + b1) c1)) by simp only [qCpE, h4, h11, h22, h31, h49, h56, h61, h66, h83, h101, iN_nI (show t < 2 ^ 31 by omega), iN_nI (show p < 2 ^ 31 by omega), iN_nI (show a1 < 2 ^ 31 by omega), iN_nI (show b1 < 2 ^ 31 by omega), iN_nI (show c1 < 2 ^ 31 by omega), cond_true, cond_false, if_true, if_false, not_true_eq_false, not_false_eq_true, ↓reduceIte]]; exact ⟨rfl, ⟨s_fmfl z (mvF z.2.2.2.2.2.2.2.2.2.2.2.2.2.2.2.2.2.2.2.2.2.2.2.2.2.2.2.2.2.1 z.2.2.2.2.2.2.2.2.2.2.2.2.2.2.2.2.2.2.2.2.2.2.2.2.2.2.2.2.2.2.1 (40 * t + a1) c1) (cpE z.2.2.2.2.2.2.2.2.2.2.2.2.2.2.2.2.2.2.2.2.2.2.2.2.2.2.2.2.2.1 (40 * t + a1) (40 * p + b1) c1), (by simp only [MC, s_n, s_r, s_len, s_rem, s_pc, s_hd, s_at_, s_wr, s_cu, s_hs, s_sv, s_fr, s_fa, s_fb, s_fe, s_f1, s_f2, s_f3, s_f4, s_f5, s_f6, s_fp, s_fc, s_wd, s_bg, s_fi, s_fo, s_st, s_ss, s_fl, s_fm, s_fs, s_tnp, s_scr, s_f12, s_wr2, s_al, s_fmfl]; exact ⟨(Ce.up (Ce.up hM.1 (by decide)) (by decide)), (Ce.up (Ce.up hM.2.1 (by decide)) (by decide)), (Ce.up (Ce.up hM.2.2.1 (by decide)) (by decide)), (Ce.up (Ce.up hM.2.2.2.1 (by decide)) (by decide)), (Ce.up (Ce.up hM.2.2.2.2.1 (by decide)) (by decide)), (Ce.up (Ce.up hM.2.2.2.2.2.1 (by decide)) (by decide)), (Ce.up (Ce.up hM.2.2.2.2.2.2.1 (by decide)) (by decide)), (Ce.up (Ce.up hM.2.2.2.2.2.2.2.1 (by decide)) (by decide)), (Ce.up (Ce.up hM.2.2.2.2.2.2.2.2.1 (by decide)) (by decide)), (Ce.up (Ce.up hM.2.2.2.2.2.2.2.2.2.1 (by decide)) (by decide)), (Ce.up (Ce.up hM.2.2.2.2.2.2.2.2.2.2.1 (by decide)) (by decide)), (Ce.up (Ce.up hM.2.2.2.2.2.2.2.2.2.2.2.1 (by decide)) (by decide)), (Ce.up (Ce.up hM.2.2.2.2.2.2.2.2.2.2.2.2.1 (by decide)) (by decide)), (Ce.up (Ce.up hM.2.2.2.2.2.2.2.2.2.2.2.2.2.1 (by decide)) (by decide)), (Ce.up (Ce.up hM.2.2.2.2.2.2.2.2.2.2.2.2.2.2.1 (by decide)) (by decide)), (Ce.up (Ce.up hM.2.2.2.2.2.2.2.2.2.2.2.2.2.2.2.1 (by decide)) (by decide)), (Ce.up (Ce.up hM.2.2.2.2.2.2.2.2.2.2.2.2.2.2.2.2.1 (by decide)) (by decide)), (Ce.up (Ce.up hM.2.2.2.2.2.2.2.2.2.2.2.2.2.2.2.2.2.1 (by decide)) (by decide)), (Ce.up (Ce.up hM.2.2.2.2.2.2.2.2.2.2.2.2.2.2.2.2.2.2.1 (by decide)) (by decide)), (Ce.new (Ce.up hM.2.2.2.2.2.2.2.2.2.2.2.2.2.2.2.2.2.2.2.1 (by decide))), (Ce.up (Ce.new hM.2.2.2.2.2.2.2.2.2.2.2.2.2.2.2.2.2.2.2.2.1) (by decide)), (Ce.up (Ce.up hM.2.2.2.2.2.2.2.2.2.2.2.2.2.2.2.2.2.2.2.2.2 (by decide)) (by decide))⟩), (by simp only [Sv, s_n, s_r, s_len, s_rem, s_pc, s_hd, s_at_, s_wr, s_cu, s_hs, s_sv, s_fr, s_fa, s_fb, s_fe, s_f1, s_f2, s_f3, s_f4, s_f5, s_f6, s_fp, s_fc, s_wd, s_bg, s_fi, s_fo, s_st, s_ss, s_fl, s_fm, s_fs, s_tnp, s_scr, s_f12, s_wr2, s_al, s_fmfl, and_self])⟩, ((Fr.rf.up (by omega) (by omega)).up (by omega) (by omega))⟩)
                            · have h151 := c_nle (by omega) (by omega) h151
                              omega
                          · show G M S E (0, 0) (va_up (va_up g 306 (xJ S 40 (mvF z.2.2.2.2.2.2.2.2.2.2.2.2.2.2.2.2.2.2.2.2.2.2.2.2.2.2.2.2.2.1 z.2.2.2.2.2.2.2.2.2.2.2.2.2.2.2.2.2.2.2.2.2.2.2.2.2.2.2.2.2.2.1 (40 * t + a1) c1))) 305 (xJ S 160 (it (fun k h => vp_updL h (40 * p + b1 + k) (mvF z.2.2.2.2.2.2.2.2.2.2.2.2.2.2.2.2.2.2.2.2.2.2.2.2.2.2.2.2.2.1 z.2.2.2.2.2.2.2.2.2.2.2.2.2.2.2.2.2.2.2.2.2.2.2.2.2.2.2.2.2.2.1 (40 * t + a1) c1 k)) t2 z.2.2.2.2.2.2.2.2.2.2.2.2.2.2.2.2.2.2.2.2.2.2.2.2.2.2.2.2.2.1))) 147 [some (.ref (E.1 286)), some (.int (nI t)), some (.int (nI a1)), some (.int (nI p)), some (.int (nI b1)), some (.int (nI c1)), some (.int (nI t2))] []
                            refine r_iload (pc := 147) C dX8_copyElements_147 rfl ?_
                            refine r_iload (pc := 149) C dX8_copyElements_149 rfl ?_
                            refine r_icmp_ge (pc := 151) (tgt := 182) C dX8_copyElements_151 (by decide) (fun h151 => ?_) (fun h151 => ?_)
                            · have h151 := c_le (by omega) (by omega) h151
                              omega
                            · have h151 := c_nle (by omega) (by omega) h151
                              refine r_aload_n (pc := 154) C dX8_copyElements_154 rfl ?_
                              refine r_getf (pc := 155) C dX8_copyElements_155 fl_RX8_77 (Ce.up (Ce.up hM.1 (by decide)) (by decide)) rfl ?_
                              refine r_bipush (pc := 158) (v := nI 40) C dX8_copyElements_158 (by decide +kernel) ?_
                              refine r_iload_n (pc := 160) C dX8_copyElements_160 rfl ?_
                              refine r_imul (pc := 161) C dX8_copyElements_161 ?_
                              refine r_ti (nI (40 * p)) (pk_mul _ _) ?_
                              refine r_iload (pc := 162) C dX8_copyElements_162 rfl ?_
                              refine r_iadd (pc := 164) C dX8_copyElements_164 ?_
                              refine r_ti (nI (40 * p + b1)) (nI_add _ _) ?_
                              refine r_iload (pc := 165) C dX8_copyElements_165 rfl ?_
                              refine r_iadd (pc := 167) C dX8_copyElements_167 ?_
                              refine r_ti (nI (40 * p + b1 + t2)) (nI_add _ _) ?_
                              refine r_aload_n (pc := 168) C dX8_copyElements_168 rfl ?_
                              refine r_getf (pc := 169) C dX8_copyElements_169 fl_RX8_80 (Ce.up (Ce.up hM.1 (by decide)) (by decide)) rfl ?_
                              refine r_iload (pc := 172) C dX8_copyElements_172 rfl ?_
                              refine r_lald (pc := 174) C dX8_copyElements_174 (Ce.up (Ce.new hM.2.2.2.2.2.2.2.2.2.2.2.2.2.2.2.2.2.2.2.2.1) (by decide)) rfl (by omega) (by omega) ?_
                              refine r_last2 (pc := 175) C dX8_copyElements_175 hM.2.2.2.2.2.2.2.2.2.2.2.2.2.2.2.2.2.2.2.1.1 rfl (by omega) (by omega) ?_
                              refine r_iinc (pc := 176) (v := nI (t2 + 1)) C dX8_copyElements_176 rfl (nI_i1 _) (by decide) ?_
                              refine G.eq (pc' := 179) (vs' := [some (.ref (E.1 286)), some (.int (nI t)), some (.int (nI a1)), some (.int (nI p)), some (.int (nI b1)), some (.int (nI c1)), some (.int (nI (t2 + 1)))]) (st' := []) ?_
                              refine r_goto (pc := 179) (tgt := 147) C dX8_copyElements_179 (by decide) ?_
                              exact ih
                        · have h114 := c_nle (by omega) (by omega) h114
                          omega
                      · show G M S E (0, 0) (va_up g 306 (xJ S 40 (it (fun k h => vp_updL h k (z.2.2.2.2.2.2.2.2.2.2.2.2.2.2.2.2.2.2.2.2.2.2.2.2.2.2.2.2.2.1 (40 * t + a1 + k))) t2 z.2.2.2.2.2.2.2.2.2.2.2.2.2.2.2.2.2.2.2.2.2.2.2.2.2.2.2.2.2.2.1))) 110 [some (.ref (E.1 286)), some (.int (nI t)), some (.int (nI a1)), some (.int (nI p)), some (.int (nI b1)), some (.int (nI c1)), some (.int (nI t2))] []
                        refine r_iload (pc := 110) C dX8_copyElements_110 rfl ?_
                        refine r_iload (pc := 112) C dX8_copyElements_112 rfl ?_
                        refine r_icmp_ge (pc := 114) (tgt := 144) C dX8_copyElements_114 (by decide) (fun h114 => ?_) (fun h114 => ?_)
                        · have h114 := c_le (by omega) (by omega) h114
                          omega
                        · have h114 := c_nle (by omega) (by omega) h114
                          refine r_aload_n (pc := 117) C dX8_copyElements_117 rfl ?_
                          refine r_getf (pc := 118) C dX8_copyElements_118 fl_RX8_80 (Ce.up hM.1 (by decide)) rfl ?_
                          refine r_iload (pc := 121) C dX8_copyElements_121 rfl ?_
                          refine r_aload_n (pc := 123) C dX8_copyElements_123 rfl ?_
                          refine r_getf (pc := 124) C dX8_copyElements_124 fl_RX8_77 (Ce.up hM.1 (by decide)) rfl ?_
                          refine r_bipush (pc := 127) (v := nI 40) C dX8_copyElements_127 (by decide +kernel) ?_
                          refine r_iload_n (pc := 129) C dX8_copyElements_129 rfl ?_
                          refine r_imul (pc := 130) C dX8_copyElements_130 ?_
                          refine r_ti (nI (40 * t)) (pk_mul _ _) ?_
                          refine r_iload_n (pc := 131) C dX8_copyElements_131 rfl ?_
                          refine r_iadd (pc := 132) C dX8_copyElements_132 ?_
                          refine r_ti (nI (40 * t + a1)) (nI_add _ _) ?_
                          refine r_iload (pc := 133) C dX8_copyElements_133 rfl ?_
                          refine r_iadd (pc := 135) C dX8_copyElements_135 ?_
                          refine r_ti (nI (40 * t + a1 + t2)) (nI_add _ _) ?_
                          refine r_lald (pc := 136) C dX8_copyElements_136 (Ce.up hM.2.2.2.2.2.2.2.2.2.2.2.2.2.2.2.2.2.2.2.1 (by decide)) rfl (by omega) (by omega) ?_
                          refine r_last2 (pc := 137) C dX8_copyElements_137 hM.2.2.2.2.2.2.2.2.2.2.2.2.2.2.2.2.2.2.2.2.1.1 rfl (by omega) (by omega) ?_
                          refine r_iinc (pc := 138) (v := nI (t2 + 1)) C dX8_copyElements_138 rfl (nI_i1 _) (by decide) ?_
                          refine G.eq (pc' := 141) (vs' := [some (.ref (E.1 286)), some (.int (nI t)), some (.int (nI a1)), some (.int (nI p)), some (.int (nI b1)), some (.int (nI c1)), some (.int (nI (t2 + 1)))]) (st' := []) ?_
                          refine r_goto (pc := 141) (tgt := 110) C dX8_copyElements_141 (by decide) ?_
                          exact ih
                    · have h101 := k_nle h101
                      refine r_bipush (pc := 104) (v := (-13)) C dX8_copyElements_104 (by decide +kernel) ?_
                      exact r_iret (pc := 106) C Z dX8_copyElements_106 rfl (by rw [show qCpE z (nI t) a (nI p) b c = (-13, z) by simp only [qCpE, h4, h11, h22, h31, h49, h56, h61, h66, h83, h101, iN_nI (show t < 2 ^ 31 by omega), iN_nI (show p < 2 ^ 31 by omega), cond_true, cond_false, if_true, if_false, not_true_eq_false, not_false_eq_true, ↓reduceIte]]; exact ⟨rfl, ⟨z, hM, Sv.rf⟩, Fr.rf⟩)
          · have h49 := c_ne (by omega) (by omega) h49
            refine r_bipush (pc := 52) (v := (-12)) C dX8_copyElements_52 (by decide +kernel) ?_
            exact r_iret (pc := 54) C Z dX8_copyElements_54 rfl (by rw [show qCpE z (nI t) a (nI p) b c = (-12, z) by simp only [qCpE, h4, h11, h22, h31, h49, iN_nI (show t < 2 ^ 31 by omega), iN_nI (show p < 2 ^ 31 by omega), cond_true, cond_false, if_true, if_false, not_true_eq_false, not_false_eq_true, ↓reduceIte]]; exact ⟨rfl, ⟨z, hM, Sv.rf⟩, Fr.rf⟩)
        · refine r_bipush (pc := 34) (v := (-11)) C dX8_copyElements_34 (by decide +kernel) ?_
          exact r_iret (pc := 36) C Z dX8_copyElements_36 rfl (by rw [show qCpE z (nI t) a (nI p) b c = (-11, z) by simp only [qCpE, h4, h11, h22, h31, iN_nI (show t < 2 ^ 31 by omega), iN_nI (show p < 2 ^ 31 by omega), cond_true, cond_false, if_true, if_false, not_true_eq_false, not_false_eq_true, ↓reduceIte]]; exact ⟨rfl, ⟨z, hM, Sv.rf⟩, Fr.rf⟩)
    · have h11 := b_f h11
      refine r_iconst (pc := 14) (v := (-1)) C dX8_copyElements_14 (by decide +kernel) ?_
      exact r_iret (pc := 15) C Z dX8_copyElements_15 rfl (by rw [show qCpE z x a y b c = (-1, z) by simp only [qCpE, h4, h11, cond_true, cond_false, if_true, if_false, not_true_eq_false, not_false_eq_true, ↓reduceIte]]; exact ⟨rfl, ⟨z, hM, Sv.rf⟩, Fr.rf⟩)
set_option maxHeartbeats 4000000 in
set_option maxRecDepth 100000 in
theorem c_X8_compareWithArray {S : ST} {E : ET} {g : Nat → va_E} {z : MZ} (hM : MC S E g z) (h4 : 4 ≤ z.1) (hN : z.1 ≤ 24) (hS : SsOk z) (x y : Int32) : CtI S E yX8_compareWithArray cX8_compareWithArray 6 (Option.some FieldType.int) rmX8_compareWithArray [.ref (E.1 286), .int x, .int y] g (fun u g' => u = qCmp z x y ∧ g = g') := by
  refine Ct.of RX8 (by decide +kernel) rfl (Nat.le_of_ble_eq_true rfl) (fun M C Z => ?_)
  refine G.eq (pc' := 0) (vs' := [some (.ref (E.1 286)), some (.int x), some (.int y), none, none, none]) (st' := []) ?_
  refine r_iload_n (pc := 0) C dX8_compareWithArray_0 rfl ?_
  refine r_callS (pc := 1) C dX8_compareWithArray_1 cs_RX8_287 (c_X8_isSlot x) ⟨rfl, rfl, by decide, by decide⟩ rfl rfl (Nat.le_of_ble_eq_true rfl) ⟨Nat.zero_le _, Nat.zero_le _⟩ ?_
  rintro _ _ ⟨_, rfl, rfl, rfl⟩
  show G M S E (0, 0) g 4 [some (.ref (E.1 286)), some (.int x), some (.int y), none, none, none] [.int (b2i (hix 4 x))]
  refine r_if_ne (pc := 4) (tgt := 9) C dX8_compareWithArray_4 (by decide) (fun h4 => ?_) (fun h4 => ?_)
  · have h4 := b_t h4
    refine r_iload_n (pc := 9) C dX8_compareWithArray_9 rfl ?_
    refine r_callS (pc := 10) C dX8_compareWithArray_10 cs_RX8_112 (c_X8_isRegister y) ⟨rfl, rfl, by decide, by decide⟩ rfl rfl (Nat.le_of_ble_eq_true rfl) ⟨Nat.zero_le _, Nat.zero_le _⟩ ?_
    rintro _ _ ⟨_, rfl, rfl, rfl⟩
    show G M S E (0, 0) g 13 [some (.ref (E.1 286)), some (.int x), some (.int y), none, none, none] [.int (b2i (hix 6 y))]
    refine r_if_ne (pc := 13) (tgt := 19) C dX8_compareWithArray_13 (by decide) (fun h13 => ?_) (fun h13 => ?_)
    · have h13 := b_t h13
      obtain ⟨t, rfl, ht⟩ := hix_nat h4 (by omega)
      obtain ⟨p, rfl, hp⟩ := hix_nat h13 (by omega)
      refine r_aload_n (pc := 19) C dX8_compareWithArray_19 rfl ?_
      refine r_getf (pc := 20) C dX8_compareWithArray_20 fl_RX8_74 hM.1 rfl ?_
      refine r_iload_n (pc := 23) C dX8_compareWithArray_23 rfl ?_
      refine r_iald (pc := 24) C dX8_compareWithArray_24 hM.2.2.2.2.2.2.2.2.2.2.2.2.2.2.2.2.2.2.1 rfl (by omega) (by omega) ?_
      refine r_if_ge (pc := 25) (tgt := 31) C dX8_compareWithArray_25 (by decide) (fun h25 => ?_) (fun h25 => ?_)
      · obtain ⟨s, hs, es⟩ := ss_nat (hS t ht).1 h25
        refine r_aload_n (pc := 31) C dX8_compareWithArray_31 rfl ?_
        refine r_getf (pc := 32) C dX8_compareWithArray_32 fl_RX8_74 hM.1 rfl ?_
        refine r_iload_n (pc := 35) C dX8_compareWithArray_35 rfl ?_
        refine r_iald (pc := 36) C dX8_compareWithArray_36 hM.2.2.2.2.2.2.2.2.2.2.2.2.2.2.2.2.2.2.1 rfl (by omega) (by omega) ?_
        refine r_ti (nI s) es ?_
        refine r_istore_n (pc := 37) C dX8_compareWithArray_37 (by decide) ?_
        refine G.eq (pc' := 38) (vs' := [some (.ref (E.1 286)), some (.int (nI t)), some (.int (nI p)), some (.int (nI s)), none, none]) (st' := []) ?_
        refine r_iload_n (pc := 38) C dX8_compareWithArray_38 rfl ?_
        refine r_aload_n (pc := 39) C dX8_compareWithArray_39 rfl ?_
        refine r_getf (pc := 40) C dX8_compareWithArray_40 fl_RX8_17 hM.1 rfl ?_
        refine r_icmp_ge (pc := 43) (tgt := 50) C dX8_compareWithArray_43 (by decide) (fun h43 => ?_) (fun h43 => ?_)
        · have h43 := c_le (by omega) (by omega) h43
          refine r_aload_n (pc := 50) C dX8_compareWithArray_50 rfl ?_
          refine r_getf (pc := 51) C dX8_compareWithArray_51 fl_RX8_17 hM.1 rfl ?_
          refine r_istore (pc := 54) C dX8_compareWithArray_54 (by decide) ?_
          refine G.eq (pc' := 56) (vs' := [some (.ref (E.1 286)), some (.int (nI t)), some (.int (nI p)), some (.int (nI s)), some (.int (nI z.1)), none]) (st' := []) ?_
          refine r_iconst (pc := 56) (v := nI 0) C dX8_compareWithArray_56 (by decide +kernel) ?_
          refine r_istore (pc := 57) C dX8_compareWithArray_57 (by decide) ?_
          refine G.eq (pc' := 59) (vs' := [some (.ref (E.1 286)), some (.int (nI t)), some (.int (nI p)), some (.int (nI s)), some (.int (nI z.1)), some (.int (nI 0))]) (st' := []) ?_
          refine bk (P := fun t2 => (∀ j : Nat, j < t2 → (fun j => decide (¬ z.2.2.2.2.2.2.2.2.2.2.2.2.2.2.2.2.2.2.2.2.2.2.2.2.2.2.2.2.2.1 (40 * t + j) = z.2.2.2.2.2.2.2.2.2.2.2.1 (24 * p + j))) j = false) → G M S E (0, 0) g 59 [some (.ref (E.1 286)), some (.int (nI t)), some (.int (nI p)), some (.int (nI s)), some (.int (nI z.1)), some (.int (nI t2))] []) (T := z.1) (fun hh => ?_) (fun t2 ht ih hh => ?_) (fun j hj => absurd hj (Nat.not_lt_zero j))
          · show G M S E (0, 0) g 59 [some (.ref (E.1 286)), some (.int (nI t)), some (.int (nI p)), some (.int (nI s)), some (.int (nI z.1)), some (.int (nI z.1))] []
            refine r_iload (pc := 59) C dX8_compareWithArray_59 rfl ?_
            refine r_iload (pc := 61) C dX8_compareWithArray_61 rfl ?_
            refine r_icmp_ge (pc := 63) (tgt := 103) C dX8_compareWithArray_63 (by decide) (fun h63 => ?_) (fun h63 => ?_)
            · have h63 := c_le (by omega) (by omega) h63
              refine r_iload_n (pc := 103) C dX8_compareWithArray_103 rfl ?_
              refine r_aload_n (pc := 104) C dX8_compareWithArray_104 rfl ?_
              refine r_getf (pc := 105) C dX8_compareWithArray_105 fl_RX8_17 hM.1 rfl ?_
              refine r_icmp_ne (pc := 108) (tgt := 116) C dX8_compareWithArray_108 (by decide) (fun h108 => ?_) (fun h108 => ?_)
              · have h108 := c_ne (by omega) (by omega) h108
                refine r_iload (pc := 116) C dX8_compareWithArray_116 rfl ?_
                exact r_iret (pc := 118) C Z dX8_compareWithArray_118 rfl (⟨by rw [show qCmp z (nI t) (nI p) = fd (fun j => decide (¬ z.2.2.2.2.2.2.2.2.2.2.2.2.2.2.2.2.2.2.2.2.2.2.2.2.2.2.2.2.2.1 (40 * t + j) = z.2.2.2.2.2.2.2.2.2.2.2.1 (24 * p + j))) (if s = z.1 then -7 else nI z.1) z.1 0 by simp only [qCmp, h4, h13, cond_true, iN_nI (show t < 2 ^ 31 by omega), iN_nI (show p < 2 ^ 31 by omega)]; rw [if_pos h25, es, iN_nI (show s < 2 ^ 31 by omega), show min s z.1 = z.1 by omega], fd_none (fun j _ hj => hh j (by omega)), if_neg h108], rfl⟩)
              · have h108 := c_eq (by omega) (by omega) h108
                refine r_bipush (pc := 111) (v := (-7)) C dX8_compareWithArray_111 (by decide +kernel) ?_
                refine r_goto (pc := 113) (tgt := 118) C dX8_compareWithArray_113 (by decide) ?_
                exact r_iret (pc := 118) C Z dX8_compareWithArray_118 rfl (⟨by rw [show qCmp z (nI t) (nI p) = fd (fun j => decide (¬ z.2.2.2.2.2.2.2.2.2.2.2.2.2.2.2.2.2.2.2.2.2.2.2.2.2.2.2.2.2.1 (40 * t + j) = z.2.2.2.2.2.2.2.2.2.2.2.1 (24 * p + j))) (if s = z.1 then -7 else nI z.1) z.1 0 by simp only [qCmp, h4, h13, cond_true, iN_nI (show t < 2 ^ 31 by omega), iN_nI (show p < 2 ^ 31 by omega)]; rw [if_pos h25, es, iN_nI (show s < 2 ^ 31 by omega), show min s z.1 = z.1 by omega], fd_none (fun j _ hj => hh j (by omega)), if_pos h108], rfl⟩)
            · have h63 := c_nle (by omega) (by omega) h63
              omega
          · show G M S E (0, 0) g 59 [some (.ref (E.1 286)), some (.int (nI t)), some (.int (nI p)), some (.int (nI s)), some (.int (nI z.1)), some (.int (nI t2))] []
            refine r_iload (pc := 59) C dX8_compareWithArray_59 rfl ?_
            refine r_iload (pc := 61) C dX8_compareWithArray_61 rfl ?_
            refine r_icmp_ge (pc := 63) (tgt := 103) C dX8_compareWithArray_63 (by decide) (fun h63 => ?_) (fun h63 => ?_)
            · have h63 := c_le (by omega) (by omega) h63
              omega
            · have h63 := c_nle (by omega) (by omega) h63
              refine r_aload_n (pc := 66) C dX8_compareWithArray_66 rfl ?_
              refine r_getf (pc := 67) C dX8_compareWithArray_67 fl_RX8_77 hM.1 rfl ?_
              refine r_bipush (pc := 70) (v := nI 40) C dX8_compareWithArray_70 (by decide +kernel) ?_
              refine r_iload_n (pc := 72) C dX8_compareWithArray_72 rfl ?_
              refine r_imul (pc := 73) C dX8_compareWithArray_73 ?_
              refine r_ti (nI (40 * t)) (pk_mul _ _) ?_
              refine r_iload (pc := 74) C dX8_compareWithArray_74 rfl ?_
              refine r_iadd (pc := 76) C dX8_compareWithArray_76 ?_
              refine r_ti (nI (40 * t + t2)) (nI_add _ _) ?_
              refine r_lald (pc := 77) C dX8_compareWithArray_77 hM.2.2.2.2.2.2.2.2.2.2.2.2.2.2.2.2.2.2.2.1 rfl (by omega) (by omega) ?_
              refine r_aload_n (pc := 78) C dX8_compareWithArray_78 rfl ?_
              refine r_getf (pc := 79) C dX8_compareWithArray_79 fl_RX8_21 hM.1 rfl ?_
              refine r_bipush (pc := 82) (v := nI 24) C dX8_compareWithArray_82 (by decide +kernel) ?_
              refine r_iload_n (pc := 84) C dX8_compareWithArray_84 rfl ?_
              refine r_imul (pc := 85) C dX8_compareWithArray_85 ?_
              refine r_ti (nI (24 * p)) (pk_mul _ _) ?_
              refine r_iload (pc := 86) C dX8_compareWithArray_86 rfl ?_
              refine r_iadd (pc := 88) C dX8_compareWithArray_88 ?_
              refine r_ti (nI (24 * p + t2)) (nI_add _ _) ?_
              refine r_lald (pc := 89) C dX8_compareWithArray_89 hM.2.1 rfl (by omega) (by omega) ?_
              refine r_lcmp (pc := 90) C dX8_compareWithArray_90 ?_
              refine r_if_eq (pc := 91) (tgt := 97) C dX8_compareWithArray_91 (by decide) (fun h91 => ?_) (fun h91 => ?_)
              · have h91 := k_eq h91
                refine r_iinc (pc := 97) (v := nI (t2 + 1)) C dX8_compareWithArray_97 rfl (nI_i1 _) (by decide) ?_
                refine G.eq (pc' := 100) (vs' := [some (.ref (E.1 286)), some (.int (nI t)), some (.int (nI p)), some (.int (nI s)), some (.int (nI z.1)), some (.int (nI (t2 + 1)))]) (st' := []) ?_
                refine r_goto (pc := 100) (tgt := 59) C dX8_compareWithArray_100 (by decide) ?_
                exact (ih (lt_s hh (decide_eq_false (fun q => q h91))))
              · have h91 := k_ne h91
                refine r_iload (pc := 94) C dX8_compareWithArray_94 rfl ?_
                exact r_iret (pc := 96) C Z dX8_compareWithArray_96 rfl (⟨by rw [show qCmp z (nI t) (nI p) = fd (fun j => decide (¬ z.2.2.2.2.2.2.2.2.2.2.2.2.2.2.2.2.2.2.2.2.2.2.2.2.2.2.2.2.2.1 (40 * t + j) = z.2.2.2.2.2.2.2.2.2.2.2.1 (24 * p + j))) (if s = z.1 then -7 else nI z.1) z.1 0 by simp only [qCmp, h4, h13, cond_true, iN_nI (show t < 2 ^ 31 by omega), iN_nI (show p < 2 ^ 31 by omega)]; rw [if_pos h25, es, iN_nI (show s < 2 ^ 31 by omega), show min s z.1 = z.1 by omega]]; exact (fd_first (p := (fun j => decide (¬ z.2.2.2.2.2.2.2.2.2.2.2.2.2.2.2.2.2.2.2.2.2.2.2.2.2.2.2.2.2.1 (40 * t + j) = z.2.2.2.2.2.2.2.2.2.2.2.1 (24 * p + j)))) (fun j _ hj => hh j hj) (decide_eq_true h91) (Nat.zero_le _) (by omega)).symm, rfl⟩)
        · have h43 := c_nle (by omega) (by omega) h43
          refine r_iload_n (pc := 46) C dX8_compareWithArray_46 rfl ?_
          refine r_goto (pc := 47) (tgt := 54) C dX8_compareWithArray_47 (by decide) ?_
          refine r_istore (pc := 54) C dX8_compareWithArray_54 (by decide) ?_
          refine G.eq (pc' := 56) (vs' := [some (.ref (E.1 286)), some (.int (nI t)), some (.int (nI p)), some (.int (nI s)), some (.int (nI s)), none]) (st' := []) ?_
          refine r_iconst (pc := 56) (v := nI 0) C dX8_compareWithArray_56 (by decide +kernel) ?_
          refine r_istore (pc := 57) C dX8_compareWithArray_57 (by decide) ?_
          refine G.eq (pc' := 59) (vs' := [some (.ref (E.1 286)), some (.int (nI t)), some (.int (nI p)), some (.int (nI s)), some (.int (nI s)), some (.int (nI 0))]) (st' := []) ?_
          refine bk (P := fun t2 => (∀ j : Nat, j < t2 → (fun j => decide (¬ z.2.2.2.2.2.2.2.2.2.2.2.2.2.2.2.2.2.2.2.2.2.2.2.2.2.2.2.2.2.1 (40 * t + j) = z.2.2.2.2.2.2.2.2.2.2.2.1 (24 * p + j))) j = false) → G M S E (0, 0) g 59 [some (.ref (E.1 286)), some (.int (nI t)), some (.int (nI p)), some (.int (nI s)), some (.int (nI s)), some (.int (nI t2))] []) (T := s) (fun hh => ?_) (fun t2 ht ih hh => ?_) (fun j hj => absurd hj (Nat.not_lt_zero j))
          · show G M S E (0, 0) g 59 [some (.ref (E.1 286)), some (.int (nI t)), some (.int (nI p)), some (.int (nI s)), some (.int (nI s)), some (.int (nI s))] []
            refine r_iload (pc := 59) C dX8_compareWithArray_59 rfl ?_
            refine r_iload (pc := 61) C dX8_compareWithArray_61 rfl ?_
            refine r_icmp_ge (pc := 63) (tgt := 103) C dX8_compareWithArray_63 (by decide) (fun h63 => ?_) (fun h63 => ?_)
            · have h63 := c_le (by omega) (by omega) h63
              refine r_iload_n (pc := 103) C dX8_compareWithArray_103 rfl ?_
              refine r_aload_n (pc := 104) C dX8_compareWithArray_104 rfl ?_
              refine r_getf (pc := 105) C dX8_compareWithArray_105 fl_RX8_17 hM.1 rfl ?_
              refine r_icmp_ne (pc := 108) (tgt := 116) C dX8_compareWithArray_108 (by decide) (fun h108 => ?_) (fun h108 => ?_)
              · have h108 := c_ne (by omega) (by omega) h108
                refine r_iload (pc := 116) C dX8_compareWithArray_116 rfl ?_
                exact r_iret (pc := 118) C Z dX8_compareWithArray_118 rfl (⟨by rw [show qCmp z (nI t) (nI p) = fd (fun j => decide (¬ z.2.2.2.2.2.2.2.2.2.2.2.2.2.2.2.2.2.2.2.2.2.2.2.2.2.2.2.2.2.1 (40 * t + j) = z.2.2.2.2.2.2.2.2.2.2.2.1 (24 * p + j))) (if s = z.1 then -7 else nI s) s 0 by simp only [qCmp, h4, h13, cond_true, iN_nI (show t < 2 ^ 31 by omega), iN_nI (show p < 2 ^ 31 by omega)]; rw [if_pos h25, es, iN_nI (show s < 2 ^ 31 by omega), show min s z.1 = s by omega], fd_none (fun j _ hj => hh j (by omega)), if_neg h108], rfl⟩)
              · have h108 := c_eq (by omega) (by omega) h108
                refine r_bipush (pc := 111) (v := (-7)) C dX8_compareWithArray_111 (by decide +kernel) ?_
                refine r_goto (pc := 113) (tgt := 118) C dX8_compareWithArray_113 (by decide) ?_
                exact r_iret (pc := 118) C Z dX8_compareWithArray_118 rfl (⟨by rw [show qCmp z (nI t) (nI p) = fd (fun j => decide (¬ z.2.2.2.2.2.2.2.2.2.2.2.2.2.2.2.2.2.2.2.2.2.2.2.2.2.2.2.2.2.1 (40 * t + j) = z.2.2.2.2.2.2.2.2.2.2.2.1 (24 * p + j))) (if s = z.1 then -7 else nI s) s 0 by simp only [qCmp, h4, h13, cond_true, iN_nI (show t < 2 ^ 31 by omega), iN_nI (show p < 2 ^ 31 by omega)]; rw [if_pos h25, es, iN_nI (show s < 2 ^ 31 by omega), show min s z.1 = s by omega], fd_none (fun j _ hj => hh j (by omega)), if_pos h108], rfl⟩)
            · have h63 := c_nle (by omega) (by omega) h63
              omega
          · show G M S E (0, 0) g 59 [some (.ref (E.1 286)), some (.int (nI t)), some (.int (nI p)), some (.int (nI s)), some (.int (nI s)), some (.int (nI t2))] []
            refine r_iload (pc := 59) C dX8_compareWithArray_59 rfl ?_
            refine r_iload (pc := 61) C dX8_compareWithArray_61 rfl ?_
            refine r_icmp_ge (pc := 63) (tgt := 103) C dX8_compareWithArray_63 (by decide) (fun h63 => ?_) (fun h63 => ?_)
            · have h63 := c_le (by omega) (by omega) h63
              omega
            · have h63 := c_nle (by omega) (by omega) h63
              refine r_aload_n (pc := 66) C dX8_compareWithArray_66 rfl ?_
              refine r_getf (pc := 67) C dX8_compareWithArray_67 fl_RX8_77 hM.1 rfl ?_
              refine r_bipush (pc := 70) (v := nI 40) C dX8_compareWithArray_70 (by decide +kernel) ?_
              refine r_iload_n (pc := 72) C dX8_compareWithArray_72 rfl ?_
              refine r_imul (pc := 73) C dX8_compareWithArray_73 ?_
              refine r_ti (nI (40 * t)) (pk_mul _ _) ?_
              refine r_iload (pc := 74) C dX8_compareWithArray_74 rfl ?_
              refine r_iadd (pc := 76) C dX8_compareWithArray_76 ?_
              refine r_ti (nI (40 * t + t2)) (nI_add _ _) ?_
              refine r_lald (pc := 77) C dX8_compareWithArray_77 hM.2.2.2.2.2.2.2.2.2.2.2.2.2.2.2.2.2.2.2.1 rfl (by omega) (by omega) ?_
              refine r_aload_n (pc := 78) C dX8_compareWithArray_78 rfl ?_
              refine r_getf (pc := 79) C dX8_compareWithArray_79 fl_RX8_21 hM.1 rfl ?_
              refine r_bipush (pc := 82) (v := nI 24) C dX8_compareWithArray_82 (by decide +kernel) ?_
              refine r_iload_n (pc := 84) C dX8_compareWithArray_84 rfl ?_
              refine r_imul (pc := 85) C dX8_compareWithArray_85 ?_
              refine r_ti (nI (24 * p)) (pk_mul _ _) ?_
              refine r_iload (pc := 86) C dX8_compareWithArray_86 rfl ?_
              refine r_iadd (pc := 88) C dX8_compareWithArray_88 ?_
              refine r_ti (nI (24 * p + t2)) (nI_add _ _) ?_
              refine r_lald (pc := 89) C dX8_compareWithArray_89 hM.2.1 rfl (by omega) (by omega) ?_
              refine r_lcmp (pc := 90) C dX8_compareWithArray_90 ?_
              refine r_if_eq (pc := 91) (tgt := 97) C dX8_compareWithArray_91 (by decide) (fun h91 => ?_) (fun h91 => ?_)
              · have h91 := k_eq h91
                refine r_iinc (pc := 97) (v := nI (t2 + 1)) C dX8_compareWithArray_97 rfl (nI_i1 _) (by decide) ?_
                refine G.eq (pc' := 100) (vs' := [some (.ref (E.1 286)), some (.int (nI t)), some (.int (nI p)), some (.int (nI s)), some (.int (nI s)), some (.int (nI (t2 + 1)))]) (st' := []) ?_
                refine r_goto (pc := 100) (tgt := 59) C dX8_compareWithArray_100 (by decide) ?_
                exact (ih (lt_s hh (decide_eq_false (fun q => q h91))))
              · have h91 := k_ne h91
                refine r_iload (pc := 94) C dX8_compareWithArray_94 rfl ?_
                exact r_iret (pc := 96) C Z dX8_compareWithArray_96 rfl (⟨by rw [show qCmp z (nI t) (nI p) = fd (fun j => decide (¬ z.2.2.2.2.2.2.2.2.2.2.2.2.2.2.2.2.2.2.2.2.2.2.2.2.2.2.2.2.2.1 (40 * t + j) = z.2.2.2.2.2.2.2.2.2.2.2.1 (24 * p + j))) (if s = z.1 then -7 else nI s) s 0 by simp only [qCmp, h4, h13, cond_true, iN_nI (show t < 2 ^ 31 by omega), iN_nI (show p < 2 ^ 31 by omega)]; rw [if_pos h25, es, iN_nI (show s < 2 ^ 31 by omega), show min s z.1 = s by omega]]; exact (fd_first (p := (fun j => decide (¬ z.2.2.2.2.2.2.2.2.2.2.2.2.2.2.2.2.2.2.2.2.2.2.2.2.2.2.2.2.2.1 (40 * t + j) = z.2.2.2.2.2.2.2.2.2.2.2.1 (24 * p + j)))) (fun j _ hj => hh j hj) (decide_eq_true h91) (Nat.zero_le _) (by omega)).symm, rfl⟩)
      · refine r_bipush (pc := 28) (v := (-11)) C dX8_compareWithArray_28 (by decide +kernel) ?_
        exact r_iret (pc := 30) C Z dX8_compareWithArray_30 rfl (by rw [show qCmp z (nI t) (nI p) = -11 by simp only [qCmp, h4, h13, h25, iN_nI (show t < 2 ^ 31 by omega), iN_nI (show p < 2 ^ 31 by omega), cond_true, cond_false, if_true, if_false, not_true_eq_false, not_false_eq_true, ↓reduceIte]]; exact ⟨rfl, rfl⟩)
    · have h13 := b_f h13
      refine r_bipush (pc := 16) (v := (-2)) C dX8_compareWithArray_16 (by decide +kernel) ?_
      exact r_iret (pc := 18) C Z dX8_compareWithArray_18 rfl (by rw [show qCmp z x y = -2 by simp only [qCmp, h4, h13, cond_true, cond_false, if_true, if_false, not_true_eq_false, not_false_eq_true, ↓reduceIte]]; exact ⟨rfl, rfl⟩)
  · have h4 := b_f h4
    refine r_iconst (pc := 7) (v := (-1)) C dX8_compareWithArray_7 (by decide +kernel) ?_
    exact r_iret (pc := 8) C Z dX8_compareWithArray_8 rfl (by rw [show qCmp z x y = -1 by simp only [qCmp, h4, cond_true, cond_false, if_true, if_false, not_true_eq_false, not_false_eq_true, ↓reduceIte]]; exact ⟨rfl, rfl⟩)
