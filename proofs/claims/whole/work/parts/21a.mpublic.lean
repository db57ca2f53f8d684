def sto (z : MZ) (c : Nat → Int64) (t : Nat) : Int32 × MZ := (stV (s_f1 z c), stZ (s_f1 z c) t)
theorem btw_nat {x : Int32} {a b : Int64} {p q : Nat} (h : btw x.toInt64 a b = true) (ha : a.toInt = (p : Int)) (hb : b.toInt = (q : Int)) : ∃ t : Nat, x = nI t ∧ p ≤ t ∧ t ≤ q ∧ t < 2 ^ 31 := by
  unfold btw at h
  rw [Bool.and_eq_true] at h
  have h1 := Int64.le_iff_toInt_le.mp (of_decide_eq_true h.1)
  have h2 := Int64.le_iff_toInt_le.mp (of_decide_eq_true h.2)
  rw [Int32.toInt_toInt64] at h1 h2
  rw [ha] at h1
  rw [hb] at h2
  have h3 := x.toInt_lt
  refine ⟨x.toInt.toNat, ?_, by omega, by omega, by omega⟩
  apply Int32.toInt.inj
  rw [nI_toInt (by omega)]
  omega
theorem n1_toInt {n : Nat} (h1 : 1 ≤ n) (h : n < 2 ^ 31) : (nI (n - 1)).toInt64.toInt = (n : Int) - 1 := by
  rw [Int32.toInt_toInt64, nI_toInt (by omega)]
  omega
def qSetC (z : MZ) (x y v : Int32) : Int32 × MZ := bif hix 6 x then (bif btw y.toInt64 0 (nI (z.1 - 1)).toInt64 then (bif btw v.toInt64 (-100000000) 100000000 then (if z.2.2.2.2.2.2.2.2.2.2.2.1 (24 * iN x + iN y) = v.toInt64 then nI 0 else nI 1, s_fr z (vp_updL z.2.2.2.2.2.2.2.2.2.2.2.1 (24 * iN x + iN y) v.toInt64)) else (-3, z)) else (-1, z)) else (-2, z)
def qCoef (z : MZ) (x y : Int32) : Int64 := bif hix 6 x then (bif btw y.toInt64 0 (nI (z.1 - 1)).toInt64 then z.2.2.2.2.2.2.2.2.2.2.2.1 (24 * iN x + iN y) else -9223372036854775808) else -9223372036854775808
def qOrd (z : MZ) (x : Int32) : Int32 := bif hix 6 x then lowZ z.1 z.2.2.2.2.2.2.2.2.2.2.2.1 (iN x) else -2
def qDeg (z : MZ) (x : Int32) : Int32 := bif hix 6 x then hiZ z.2.2.2.2.2.2.2.2.2.2.2.1 (iN x) z.1 else -2
def adZ (n : Nat) (fr : Nat → Int64) (p q : Nat) (f : Int32) (t : Nat) : Nat → Int64 := it (fun k h => vp_updL h k (h k + f.toInt64 * fr (24 * q + k))) t (ldF n fr (24 * p))
def qAdd (z : MZ) (x y p f : Int32) : Int32 × MZ := bif hix 6 x then (bif hix 6 y then (bif hix 6 p then (bif btw f.toInt64 (-9) 9 then sto z (adZ z.1 z.2.2.2.2.2.2.2.2.2.2.2.1 (iN y) (iN p) f z.1) (iN x) else (-1, z)) else (-2, z)) else (-2, z)) else (-2, z)
def muI (fr : Nat → Int64) (p q a : Nat) (c : Nat → Int64) (t : Nat) : Nat → Int64 := it (fun k h => vp_updL h (a + k) (h (a + k) + fr (24 * p + a) * fr (24 * q + k))) t c
def muZ (n : Nat) (fr : Nat → Int64) (p q t : Nat) : Nat → Int64 := it (fun a c => muI fr p q a c (n - a)) t (fun _ => 0)
def qMul (z : MZ) (x y p : Int32) : Int32 × MZ := bif hix 6 x then (bif hix 6 y then (bif hix 6 p then sto z (muZ z.1 z.2.2.2.2.2.2.2.2.2.2.2.1 (iN y) (iN p) z.1) (iN x) else (-2, z)) else (-2, z)) else (-2, z)
def qShi (z : MZ) (x y p : Int32) : Int32 × MZ := bif hix 6 x then (bif hix 6 y then (bif btw p.toInt64 0 23 then sto z (swZ z.1 (iN p) z.2.2.2.2.2.2.2.2.2.2.2.1 (iN y)) (iN x) else (-1, z)) else (-2, z)) else (-2, z)
def qDif (z : MZ) (x y : Int32) : Int32 := bif hix 6 x then (bif hix 6 y then fd (fun k => decide (¬ z.2.2.2.2.2.2.2.2.2.2.2.1 (24 * iN x + k) = z.2.2.2.2.2.2.2.2.2.2.2.1 (24 * iN y + k))) (-7) z.1 0 else -2) else -2
set_option maxHeartbeats 4000000 in
set_option maxRecDepth 100000 in
theorem c_X8_precision {S : ST} {E : ET} {g : Nat → va_E} {z : MZ} (hM : MC S E g z) : CtI S E yX8_precision cX8_precision 1 (Option.some FieldType.int) rmX8_precision [.ref (E.1 286)] g (fun u g' => u = nI z.1 ∧ g = g') := by
  refine Ct.of RX8 (by decide +kernel) rfl (Nat.le_of_ble_eq_true rfl) (fun M C Z => ?_)
  refine G.eq (pc' := 0) (vs' := [some (.ref (E.1 286))]) (st' := []) ?_
  refine r_aload_n (pc := 0) C dX8_precision_0 rfl ?_
  refine r_getf (pc := 1) C dX8_precision_1 fl_RX8_17 hM.1 rfl ?_
  exact r_iret (pc := 4) C Z dX8_precision_4 rfl (⟨rfl, rfl⟩)
set_option maxHeartbeats 4000000 in
set_option maxRecDepth 100000 in
theorem c_X8_chainLength {S : ST} {E : ET} {g : Nat → va_E} {z : MZ} (hM : MC S E g z) : CtI S E yX8_chainLength cX8_chainLength 1 (Option.some FieldType.int) rmX8_chainLength [.ref (E.1 286)] g (fun u g' => u = z.2.2.1 ∧ g = g') := by
  refine Ct.of RX8 (by decide +kernel) rfl (Nat.le_of_ble_eq_true rfl) (fun M C Z => ?_)
  refine G.eq (pc' := 0) (vs' := [some (.ref (E.1 286))]) (st' := []) ?_
  refine r_aload_n (pc := 0) C dX8_chainLength_0 rfl ?_
  refine r_getf (pc := 1) C dX8_chainLength_1 fl_RX8_190 hM.1 rfl ?_
  exact r_iret (pc := 4) C Z dX8_chainLength_4 rfl (⟨rfl, rfl⟩)
set_option maxHeartbeats 4000000 in
set_option maxRecDepth 100000 in
theorem c_X8_setCoefficient {S : ST} {E : ET} {g : Nat → va_E} {z : MZ} (hM : MC S E g z) (h4 : 4 ≤ z.1) (hN : z.1 ≤ 24) (x y v : Int32) : CtI S E yX8_setCoefficient cX8_setCoefficient 6 (Option.some FieldType.int) rmX8_setCoefficient [.ref (E.1 286), .int x, .int y, .int v] g (fun u g' => u = (qSetC z x y v).1 ∧ MC S E g' (qSetC z x y v).2 ∧ Fr g g' 286 308) := by
  refine Ct.of RX8 (by decide +kernel) rfl (Nat.le_of_ble_eq_true rfl) (fun M C Z => ?_)
  refine G.eq (pc' := 0) (vs' := [some (.ref (E.1 286)), some (.int x), some (.int y), some (.int v), none, none]) (st' := []) ?_
  refine r_iload_n (pc := 0) C dX8_setCoefficient_0 rfl ?_
  refine r_callS (pc := 1) C dX8_setCoefficient_1 cs_RX8_112 (c_X8_isRegister x) ⟨rfl, rfl, by decide, by decide⟩ rfl rfl (Nat.le_of_ble_eq_true rfl) ⟨Nat.zero_le _, Nat.zero_le _⟩ ?_
  rintro _ _ ⟨_, rfl, rfl, rfl⟩
  show G M S E (0, 0) g 4 [some (.ref (E.1 286)), some (.int x), some (.int y), some (.int v), none, none] [.int (b2i (hix 6 x))]
  refine r_if_ne (pc := 4) (tgt := 10) C dX8_setCoefficient_4 (by decide) (fun h4 => ?_) (fun h4 => ?_)
  · have h4 := b_t h4
    refine r_iload_n (pc := 10) C dX8_setCoefficient_10 rfl ?_
    refine r_i2l (pc := 11) C dX8_setCoefficient_11 ?_
    refine r_lconst (pc := 12) (v := 0) C dX8_setCoefficient_12 rfl ?_
    refine r_aload_n (pc := 13) C dX8_setCoefficient_13 rfl ?_
    refine r_getf (pc := 14) C dX8_setCoefficient_14 fl_RX8_17 hM.1 rfl ?_
    refine r_iconst (pc := 17) (v := nI 1) C dX8_setCoefficient_17 (by decide +kernel) ?_
    refine r_isub (pc := 18) C dX8_setCoefficient_18 ?_
    refine r_ti (nI (z.1 - 1)) (pk_sub (by omega)) ?_
    refine r_i2l (pc := 19) C dX8_setCoefficient_19 ?_
    refine r_callS (pc := 20) C dX8_setCoefficient_20 cs_RX8_7 (c_X8_isBetween y.toInt64 0 ((nI (z.1 - 1)).toInt64)) ⟨rfl, rfl, by decide, by decide⟩ rfl rfl (Nat.le_of_ble_eq_true rfl) ⟨Nat.zero_le _, Nat.zero_le _⟩ ?_
    rintro _ _ ⟨_, rfl, rfl, rfl⟩
    show G M S E (0, 0) g 23 [some (.ref (E.1 286)), some (.int x), some (.int y), some (.int v), none, none] [.int (b2i (btw y.toInt64 0 ((nI (z.1 - 1)).toInt64)))]
    refine r_if_ne (pc := 23) (tgt := 28) C dX8_setCoefficient_23 (by decide) (fun h23 => ?_) (fun h23 => ?_)
    · have h23 := b_t h23
      refine r_iload_n (pc := 28) C dX8_setCoefficient_28 rfl ?_
      refine r_i2l (pc := 29) C dX8_setCoefficient_29 ?_
      refine r_ldc2 (pc := 30) C dX8_setCoefficient_30 qK_RX8_93 ?_
      refine r_ldc2 (pc := 33) C dX8_setCoefficient_33 qK_RX8_95 ?_
      refine r_callS (pc := 36) C dX8_setCoefficient_36 cs_RX8_7 (c_X8_isBetween v.toInt64 (-100000000) 100000000) ⟨rfl, rfl, by decide, by decide⟩ rfl rfl (Nat.le_of_ble_eq_true rfl) ⟨Nat.zero_le _, Nat.zero_le _⟩ ?_
      rintro _ _ ⟨_, rfl, rfl, rfl⟩
      show G M S E (0, 0) g 39 [some (.ref (E.1 286)), some (.int x), some (.int y), some (.int v), none, none] [.int (b2i (btw v.toInt64 (-100000000) 100000000))]
      refine r_if_ne (pc := 39) (tgt := 45) C dX8_setCoefficient_39 (by decide) (fun h39 => ?_) (fun h39 => ?_)
      · have h39 := b_t h39
        obtain ⟨t, rfl, ht⟩ := hix_nat h4 (by omega)
        have h232 : hix z.1 y = true := by rw [← btw_hix (h := (nI (z.1 - 1)).toInt64) (by omega) (n1_toInt (by omega) (by omega))]; exact h23
        obtain ⟨p, rfl, hp⟩ := hix_nat h232 (by omega)
        refine r_bipush (pc := 45) (v := nI 24) C dX8_setCoefficient_45 (by decide +kernel) ?_
        refine r_iload_n (pc := 47) C dX8_setCoefficient_47 rfl ?_
        refine r_imul (pc := 48) C dX8_setCoefficient_48 ?_
        refine r_ti (nI (24 * t)) (pk_mul _ _) ?_
        refine r_iload_n (pc := 49) C dX8_setCoefficient_49 rfl ?_
        refine r_iadd (pc := 50) C dX8_setCoefficient_50 ?_
        refine r_ti (nI (24 * t + p)) (nI_add _ _) ?_
        refine r_istore (pc := 51) C dX8_setCoefficient_51 (by decide) ?_
        refine G.eq (pc' := 53) (vs' := [some (.ref (E.1 286)), some (.int (nI t)), some (.int (nI p)), some (.int v), some (.int (nI (24 * t + p))), none]) (st' := []) ?_
        refine r_aload_n (pc := 53) C dX8_setCoefficient_53 rfl ?_
        refine r_getf (pc := 54) C dX8_setCoefficient_54 fl_RX8_21 hM.1 rfl ?_
        refine r_iload (pc := 57) C dX8_setCoefficient_57 rfl ?_
        refine r_lald (pc := 59) C dX8_setCoefficient_59 hM.2.1 rfl (by omega) (by omega) ?_
        refine r_iload_n (pc := 60) C dX8_setCoefficient_60 rfl ?_
        refine r_i2l (pc := 61) C dX8_setCoefficient_61 ?_
        refine r_lcmp (pc := 62) C dX8_setCoefficient_62 ?_
        refine r_if_eq (pc := 63) (tgt := 70) C dX8_setCoefficient_63 (by decide) (fun h63 => ?_) (fun h63 => ?_)
        · have h63 := k_eq h63
          refine r_iconst (pc := 70) (v := nI 0) C dX8_setCoefficient_70 (by decide +kernel) ?_
          refine r_istore (pc := 71) C dX8_setCoefficient_71 (by decide) ?_
          refine G.eq (pc' := 73) (vs' := [some (.ref (E.1 286)), some (.int (nI t)), some (.int (nI p)), some (.int v), some (.int (nI (24 * t + p))), some (.int (nI 0))]) (st' := []) ?_
          refine r_aload_n (pc := 73) C dX8_setCoefficient_73 rfl ?_
          refine r_getf (pc := 74) C dX8_setCoefficient_74 fl_RX8_21 hM.1 rfl ?_
          refine r_iload (pc := 77) C dX8_setCoefficient_77 rfl ?_
          refine r_iload_n (pc := 79) C dX8_setCoefficient_79 rfl ?_
          refine r_i2l (pc := 80) C dX8_setCoefficient_80 ?_
          refine r_last (pc := 81) C dX8_setCoefficient_81 hM.2.1 rfl (by omega) (by omega) ?_
          refine r_iload (pc := 82) C dX8_setCoefficient_82 rfl ?_
          exact r_iret (pc := 84) C Z dX8_setCoefficient_84 rfl (by rw [show qSetC z (nI t) (nI p) v = (nI 0, s_fr z (vp_updL z.2.2.2.2.2.2.2.2.2.2.2.1 (24 * t + p) v.toInt64)) by simp only [qSetC, h4, h23, h39, cond_true, iN_nI (show t < 2 ^ 31 by omega), iN_nI (show p < 2 ^ 31 by omega)]; rw [if_pos h63]]; exact ⟨rfl, ⟨(Ce.up hM.1 (by decide)), (Ce.new hM.2.1), (Ce.up hM.2.2.1 (by decide)), (Ce.up hM.2.2.2.1 (by decide)), (Ce.up hM.2.2.2.2.1 (by decide)), (Ce.up hM.2.2.2.2.2.1 (by decide)), (Ce.up hM.2.2.2.2.2.2.1 (by decide)), (Ce.up hM.2.2.2.2.2.2.2.1 (by decide)), (Ce.up hM.2.2.2.2.2.2.2.2.1 (by decide)), (Ce.up hM.2.2.2.2.2.2.2.2.2.1 (by decide)), (Ce.up hM.2.2.2.2.2.2.2.2.2.2.1 (by decide)), (Ce.up hM.2.2.2.2.2.2.2.2.2.2.2.1 (by decide)), (Ce.up hM.2.2.2.2.2.2.2.2.2.2.2.2.1 (by decide)), (Ce.up hM.2.2.2.2.2.2.2.2.2.2.2.2.2.1 (by decide)), (Ce.up hM.2.2.2.2.2.2.2.2.2.2.2.2.2.2.1 (by decide)), (Ce.up hM.2.2.2.2.2.2.2.2.2.2.2.2.2.2.2.1 (by decide)), (Ce.up hM.2.2.2.2.2.2.2.2.2.2.2.2.2.2.2.2.1 (by decide)), (Ce.up hM.2.2.2.2.2.2.2.2.2.2.2.2.2.2.2.2.2.1 (by decide)), (Ce.up hM.2.2.2.2.2.2.2.2.2.2.2.2.2.2.2.2.2.2.1 (by decide)), (Ce.up hM.2.2.2.2.2.2.2.2.2.2.2.2.2.2.2.2.2.2.2.1 (by decide)), (Ce.up hM.2.2.2.2.2.2.2.2.2.2.2.2.2.2.2.2.2.2.2.2.1 (by decide)), (Ce.up hM.2.2.2.2.2.2.2.2.2.2.2.2.2.2.2.2.2.2.2.2.2 (by decide))⟩, (Fr.rf.up (by omega) (by omega))⟩)
        · have h63 := k_ne h63
          refine r_iconst (pc := 66) (v := nI 1) C dX8_setCoefficient_66 (by decide +kernel) ?_
          refine r_goto (pc := 67) (tgt := 71) C dX8_setCoefficient_67 (by decide) ?_
          refine r_istore (pc := 71) C dX8_setCoefficient_71 (by decide) ?_
          refine G.eq (pc' := 73) (vs' := [some (.ref (E.1 286)), some (.int (nI t)), some (.int (nI p)), some (.int v), some (.int (nI (24 * t + p))), some (.int (nI 1))]) (st' := []) ?_
          refine r_aload_n (pc := 73) C dX8_setCoefficient_73 rfl ?_
          refine r_getf (pc := 74) C dX8_setCoefficient_74 fl_RX8_21 hM.1 rfl ?_
          refine r_iload (pc := 77) C dX8_setCoefficient_77 rfl ?_
          refine r_iload_n (pc := 79) C dX8_setCoefficient_79 rfl ?_
          refine r_i2l (pc := 80) C dX8_setCoefficient_80 ?_
          refine r_last (pc := 81) C dX8_setCoefficient_81 hM.2.1 rfl (by omega) (by omega) ?_
          refine r_iload (pc := 82) C dX8_setCoefficient_82 rfl ?_
          exact r_iret (pc := 84) C Z dX8_setCoefficient_84 rfl (by rw [show qSetC z (nI t) (nI p) v = (nI 1, s_fr z (vp_updL z.2.2.2.2.2.2.2.2.2.2.2.1 (24 * t + p) v.toInt64)) by simp only [qSetC, h4, h23, h39, cond_true, iN_nI (show t < 2 ^ 31 by omega), iN_nI (show p < 2 ^ 31 by omega)]; rw [if_neg h63]]; exact ⟨rfl, ⟨(Ce.up hM.1 (by decide)), (Ce.new hM.2.1), (Ce.up hM.2.2.1 (by decide)), (Ce.up hM.2.2.2.1 (by decide)), (Ce.up hM.2.2.2.2.1 (by decide)), (Ce.up hM.2.2.2.2.2.1 (by decide)), (Ce.up hM.2.2.2.2.2.2.1 (by decide)), (Ce.up hM.2.2.2.2.2.2.2.1 (by decide)), (Ce.up hM.2.2.2.2.2.2.2.2.1 (by decide)), (Ce.up hM.2.2.2.2.2.2.2.2.2.1 (by decide)), (Ce.up hM.2.2.2.2.2.2.2.2.2.2.1 (by decide)), (Ce.up hM.2.2.2.2.2.2.2.2.2.2.2.1 (by decide)), (Ce.up hM.2.2.2.2.2.2.2.2.2.2.2.2.1 (by decide)), (Ce.up hM.2.2.2.2.2.2.2.2.2.2.2.2.2.1 (by decide)), (Ce.up hM.2.2.2.2.2.2.2.2.2.2.2.2.2.2.1 (by decide)), (Ce.up hM.2.2.2.2.2.2.2.2.2.2.2.2.2.2.2.1 (by decide)), (Ce.up hM.2.2.2.2.2.2.2.2.2.2.2.2.2.2.2.2.1 (by decide)), (Ce.up hM.2.2.2.2.2.2.2.2.2.2.2.2.2.2.2.2.2.1 (by decide)), (Ce.up hM.2.2.2.2.2.2.2.2.2.2.2.2.2.2.2.2.2.2.1 (by decide)), (Ce.up hM.2.2.2.2.2.2.2.2.2.2.2.2.2.2.2.2.2.2.2.1 (by decide)), (Ce.up hM.2.2.2.2.2.2.2.2.2.2.2.2.2.2.2.2.2.2.2.2.1 (by decide)), (Ce.up hM.2.2.2.2.2.2.2.2.2.2.2.2.2.2.2.2.2.2.2.2.2 (by decide))⟩, (Fr.rf.up (by omega) (by omega))⟩)
      · have h39 := b_f h39
        refine r_bipush (pc := 42) (v := (-3)) C dX8_setCoefficient_42 (by decide +kernel) ?_
        exact r_iret (pc := 44) C Z dX8_setCoefficient_44 rfl (by rw [show qSetC z x y v = (-3, z) by simp only [qSetC, h4, h23, h39, cond_true, cond_false, if_true, if_false, not_true_eq_false, not_false_eq_true, ↓reduceIte]]; exact ⟨rfl, hM, Fr.rf⟩)
    · have h23 := b_f h23
      refine r_iconst (pc := 26) (v := (-1)) C dX8_setCoefficient_26 (by decide +kernel) ?_
      exact r_iret (pc := 27) C Z dX8_setCoefficient_27 rfl (by rw [show qSetC z x y v = (-1, z) by simp only [qSetC, h4, h23, cond_true, cond_false, if_true, if_false, not_true_eq_false, not_false_eq_true, ↓reduceIte]]; exact ⟨rfl, hM, Fr.rf⟩)
  · have h4 := b_f h4
    refine r_bipush (pc := 7) (v := (-2)) C dX8_setCoefficient_7 (by decide +kernel) ?_
    exact r_iret (pc := 9) C Z dX8_setCoefficient_9 rfl (by rw [show qSetC z x y v = (-2, z) by simp only [qSetC, h4, cond_true, cond_false, if_true, if_false, not_true_eq_false, not_false_eq_true, ↓reduceIte]]; exact ⟨rfl, hM, Fr.rf⟩)
set_option maxHeartbeats 4000000 in
set_option maxRecDepth 100000 in
theorem c_X8_coefficient {S : ST} {E : ET} {g : Nat → va_E} {z : MZ} (hM : MC S E g z) (h4 : 4 ≤ z.1) (hN : z.1 ≤ 24) (x y : Int32) : CtL S E yX8_coefficient cX8_coefficient 3 (Option.some FieldType.long) rmX8_coefficient [.ref (E.1 286), .int x, .int y] g (fun u g' => u = qCoef z x y ∧ g = g') := by
  refine Ct.of RX8 (by decide +kernel) rfl (Nat.le_of_ble_eq_true rfl) (fun M C Z => ?_)
  refine G.eq (pc' := 0) (vs' := [some (.ref (E.1 286)), some (.int x), some (.int y)]) (st' := []) ?_
  refine r_iload_n (pc := 0) C dX8_coefficient_0 rfl ?_
  refine r_callS (pc := 1) C dX8_coefficient_1 cs_RX8_112 (c_X8_isRegister x) ⟨rfl, rfl, by decide, by decide⟩ rfl rfl (Nat.le_of_ble_eq_true rfl) ⟨Nat.zero_le _, Nat.zero_le _⟩ ?_
  rintro _ _ ⟨_, rfl, rfl, rfl⟩
  show G M S E (0, 0) g 4 [some (.ref (E.1 286)), some (.int x), some (.int y)] [.int (b2i (hix 6 x))]
  refine r_if_eq (pc := 4) (tgt := 37) C dX8_coefficient_4 (by decide) (fun h4 => ?_) (fun h4 => ?_)
  · have h4 := b_f h4
    refine r_ldc2 (pc := 37) C dX8_coefficient_37 qK_RX8_116 ?_
    exact r_lret (pc := 40) C Z dX8_coefficient_40 (by rw [show qCoef z x y = (-9223372036854775808) by simp only [qCoef, h4, cond_true, cond_false, if_true, if_false, not_true_eq_false, not_false_eq_true, ↓reduceIte]]; exact ⟨rfl, rfl⟩)
  · have h4 := b_t h4
    refine r_iload_n (pc := 7) C dX8_coefficient_7 rfl ?_
    refine r_i2l (pc := 8) C dX8_coefficient_8 ?_
    refine r_lconst (pc := 9) (v := 0) C dX8_coefficient_9 rfl ?_
    refine r_aload_n (pc := 10) C dX8_coefficient_10 rfl ?_
    refine r_getf (pc := 11) C dX8_coefficient_11 fl_RX8_17 hM.1 rfl ?_
    refine r_iconst (pc := 14) (v := nI 1) C dX8_coefficient_14 (by decide +kernel) ?_
    refine r_isub (pc := 15) C dX8_coefficient_15 ?_
    refine r_ti (nI (z.1 - 1)) (pk_sub (by omega)) ?_
    refine r_i2l (pc := 16) C dX8_coefficient_16 ?_
    refine r_callS (pc := 17) C dX8_coefficient_17 cs_RX8_7 (c_X8_isBetween y.toInt64 0 ((nI (z.1 - 1)).toInt64)) ⟨rfl, rfl, by decide, by decide⟩ rfl rfl (Nat.le_of_ble_eq_true rfl) ⟨Nat.zero_le _, Nat.zero_le _⟩ ?_
    rintro _ _ ⟨_, rfl, rfl, rfl⟩
    show G M S E (0, 0) g 20 [some (.ref (E.1 286)), some (.int x), some (.int y)] [.int (b2i (btw y.toInt64 0 ((nI (z.1 - 1)).toInt64)))]
    refine r_if_eq (pc := 20) (tgt := 37) C dX8_coefficient_20 (by decide) (fun h20 => ?_) (fun h20 => ?_)
    · have h20 := b_f h20
      refine r_ldc2 (pc := 37) C dX8_coefficient_37 qK_RX8_116 ?_
      exact r_lret (pc := 40) C Z dX8_coefficient_40 (by rw [show qCoef z x y = (-9223372036854775808) by simp only [qCoef, h4, h20, cond_true, cond_false, if_true, if_false, not_true_eq_false, not_false_eq_true, ↓reduceIte]]; exact ⟨rfl, rfl⟩)
    · have h20 := b_t h20
      obtain ⟨t, rfl, ht⟩ := hix_nat h4 (by omega)
      have h202 : hix z.1 y = true := by rw [← btw_hix (h := (nI (z.1 - 1)).toInt64) (by omega) (n1_toInt (by omega) (by omega))]; exact h20
      obtain ⟨p, rfl, hp⟩ := hix_nat h202 (by omega)
      refine r_aload_n (pc := 23) C dX8_coefficient_23 rfl ?_
      refine r_getf (pc := 24) C dX8_coefficient_24 fl_RX8_21 hM.1 rfl ?_
      refine r_bipush (pc := 27) (v := nI 24) C dX8_coefficient_27 (by decide +kernel) ?_
      refine r_iload_n (pc := 29) C dX8_coefficient_29 rfl ?_
      refine r_imul (pc := 30) C dX8_coefficient_30 ?_
      refine r_ti (nI (24 * t)) (pk_mul _ _) ?_
      refine r_iload_n (pc := 31) C dX8_coefficient_31 rfl ?_
      refine r_iadd (pc := 32) C dX8_coefficient_32 ?_
      refine r_ti (nI (24 * t + p)) (nI_add _ _) ?_
      refine r_lald (pc := 33) C dX8_coefficient_33 hM.2.1 rfl (by omega) (by omega) ?_
      refine r_goto (pc := 34) (tgt := 40) C dX8_coefficient_34 (by decide) ?_
      exact r_lret (pc := 40) C Z dX8_coefficient_40 (by rw [show qCoef z (nI t) (nI p) = z.2.2.2.2.2.2.2.2.2.2.2.1 (24 * t + p) by simp only [qCoef, h4, h20, iN_nI (show t < 2 ^ 31 by omega), iN_nI (show p < 2 ^ 31 by omega), cond_true, cond_false, if_true, if_false, not_true_eq_false, not_false_eq_true, ↓reduceIte]]; exact ⟨rfl, rfl⟩)
set_option maxHeartbeats 4000000 in
set_option maxRecDepth 100000 in
theorem c_X8_order {S : ST} {E : ET} {g : Nat → va_E} {z : MZ} (hM : MC S E g z) (h4 : 4 ≤ z.1) (hN : z.1 ≤ 24) (x : Int32) : CtI S E yX8_order cX8_order 2 (Option.some FieldType.int) rmX8_order [.ref (E.1 286), .int x] g (fun u g' => u = qOrd z x ∧ g = g') := by
  refine Ct.of RX8 (by decide +kernel) rfl (Nat.le_of_ble_eq_true rfl) (fun M C Z => ?_)
  refine G.eq (pc' := 0) (vs' := [some (.ref (E.1 286)), some (.int x)]) (st' := []) ?_
  refine r_iload_n (pc := 0) C dX8_order_0 rfl ?_
  refine r_callS (pc := 1) C dX8_order_1 cs_RX8_112 (c_X8_isRegister x) ⟨rfl, rfl, by decide, by decide⟩ rfl rfl (Nat.le_of_ble_eq_true rfl) ⟨Nat.zero_le _, Nat.zero_le _⟩ ?_
  rintro _ _ ⟨_, rfl, rfl, rfl⟩
  show G M S E (0, 0) g 4 [some (.ref (E.1 286)), some (.int x)] [.int (b2i (hix 6 x))]
  refine r_if_eq (pc := 4) (tgt := 15) C dX8_order_4 (by decide) (fun h4 => ?_) (fun h4 => ?_)
  · have h4 := b_f h4
    refine r_bipush (pc := 15) (v := (-2)) C dX8_order_15 (by decide +kernel) ?_
    exact r_iret (pc := 17) C Z dX8_order_17 rfl (by rw [show qOrd z x = -2 by simp only [qOrd, h4, cond_true, cond_false, if_true, if_false, not_true_eq_false, not_false_eq_true, ↓reduceIte]]; exact ⟨rfl, rfl⟩)
  · have h4 := b_t h4
    obtain ⟨t, rfl, ht⟩ := hix_nat h4 (by omega)
    refine r_aload_n (pc := 7) C dX8_order_7 rfl ?_
    refine r_iload_n (pc := 8) C dX8_order_8 rfl ?_
    refine r_callV (pc := 9) C dX8_order_9 cv_RX8_118 (c_X8_lowest hM hN t ht) ⟨rfl, rfl, by decide, by decide⟩ hM.1 rfl rfl (Nat.le_of_ble_eq_true rfl) ⟨Nat.zero_le _, Nat.zero_le _⟩ ?_
    rintro _ _ ⟨_, rfl, rfl, rfl⟩
    show G M S E (0, 0) g 12 [some (.ref (E.1 286)), some (.int (nI t))] [.int (lowZ z.1 z.2.2.2.2.2.2.2.2.2.2.2.1 t)]
    refine r_goto (pc := 12) (tgt := 17) C dX8_order_12 (by decide) ?_
    exact r_iret (pc := 17) C Z dX8_order_17 rfl (by rw [show qOrd z (nI t) = lowZ z.1 z.2.2.2.2.2.2.2.2.2.2.2.1 t by simp only [qOrd, h4, iN_nI (show t < 2 ^ 31 by omega), cond_true, cond_false, if_true, if_false, not_true_eq_false, not_false_eq_true, ↓reduceIte]]; exact ⟨rfl, rfl⟩)
set_option maxHeartbeats 4000000 in
set_option maxRecDepth 100000 in
theorem c_X8_degree {S : ST} {E : ET} {g : Nat → va_E} {z : MZ} (hM : MC S E g z) (h4 : 4 ≤ z.1) (hN : z.1 ≤ 24) (x : Int32) : CtI S E yX8_degree cX8_degree 2 (Option.some FieldType.int) rmX8_degree [.ref (E.1 286), .int x] g (fun u g' => u = qDeg z x ∧ g = g') := by
  refine Ct.of RX8 (by decide +kernel) rfl (Nat.le_of_ble_eq_true rfl) (fun M C Z => ?_)
  refine G.eq (pc' := 0) (vs' := [some (.ref (E.1 286)), some (.int x)]) (st' := []) ?_
  refine r_iload_n (pc := 0) C dX8_degree_0 rfl ?_
  refine r_callS (pc := 1) C dX8_degree_1 cs_RX8_112 (c_X8_isRegister x) ⟨rfl, rfl, by decide, by decide⟩ rfl rfl (Nat.le_of_ble_eq_true rfl) ⟨Nat.zero_le _, Nat.zero_le _⟩ ?_
  rintro _ _ ⟨_, rfl, rfl, rfl⟩
  show G M S E (0, 0) g 4 [some (.ref (E.1 286)), some (.int x)] [.int (b2i (hix 6 x))]
  refine r_if_eq (pc := 4) (tgt := 15) C dX8_degree_4 (by decide) (fun h4 => ?_) (fun h4 => ?_)
  · have h4 := b_f h4
    refine r_bipush (pc := 15) (v := (-2)) C dX8_degree_15 (by decide +kernel) ?_
    exact r_iret (pc := 17) C Z dX8_degree_17 rfl (by rw [show qDeg z x = -2 by simp only [qDeg, h4, cond_true, cond_false, if_true, if_false, not_true_eq_false, not_false_eq_true, ↓reduceIte]]; exact ⟨rfl, rfl⟩)
  · have h4 := b_t h4
    obtain ⟨t, rfl, ht⟩ := hix_nat h4 (by omega)
    refine r_aload_n (pc := 7) C dX8_degree_7 rfl ?_
    refine r_iload_n (pc := 8) C dX8_degree_8 rfl ?_
    refine r_callV (pc := 9) C dX8_degree_9 cv_RX8_122 (c_X8_highest hM hN t ht) ⟨rfl, rfl, by decide, by decide⟩ hM.1 rfl rfl (Nat.le_of_ble_eq_true rfl) ⟨Nat.zero_le _, Nat.zero_le _⟩ ?_
    rintro _ _ ⟨_, rfl, rfl, rfl⟩
    show G M S E (0, 0) g 12 [some (.ref (E.1 286)), some (.int (nI t))] [.int (hiZ z.2.2.2.2.2.2.2.2.2.2.2.1 t z.1)]
    refine r_goto (pc := 12) (tgt := 17) C dX8_degree_12 (by decide) ?_
    exact r_iret (pc := 17) C Z dX8_degree_17 rfl (by rw [show qDeg z (nI t) = hiZ z.2.2.2.2.2.2.2.2.2.2.2.1 t z.1 by simp only [qDeg, h4, iN_nI (show t < 2 ^ 31 by omega), cond_true, cond_false, if_true, if_false, not_true_eq_false, not_false_eq_true, ↓reduceIte]]; exact ⟨rfl, rfl⟩)
set_option maxHeartbeats 4000000 in
set_option maxRecDepth 100000 in
theorem c_X8_add {S : ST} {E : ET} {g : Nat → va_E} {z : MZ} (hM : MC S E g z) (h4 : 4 ≤ z.1) (hN : z.1 ≤ 24) (x y p f : Int32) : CtI S E yX8_add cX8_add 6 (Option.some FieldType.int) rmX8_add [.ref (E.1 286), .int x, .int y, .int p, .int f] g (fun u g' => u = (qAdd z x y p f).1 ∧ MC S E g' (qAdd z x y p f).2 ∧ Fr g g' 286 308) := by
  refine Ct.of RX8 (by decide +kernel) rfl (Nat.le_of_ble_eq_true rfl) (fun M C Z => ?_)
  refine G.eq (pc' := 0) (vs' := [some (.ref (E.1 286)), some (.int x), some (.int y), some (.int p), some (.int f), none]) (st' := []) ?_
  refine r_iload_n (pc := 0) C dX8_add_0 rfl ?_
  refine r_callS (pc := 1) C dX8_add_1 cs_RX8_112 (c_X8_isRegister x) ⟨rfl, rfl, by decide, by decide⟩ rfl rfl (Nat.le_of_ble_eq_true rfl) ⟨Nat.zero_le _, Nat.zero_le _⟩ ?_
  rintro _ _ ⟨_, rfl, rfl, rfl⟩
  show G M S E (0, 0) g 4 [some (.ref (E.1 286)), some (.int x), some (.int y), some (.int p), some (.int f), none] [.int (b2i (hix 6 x))]
  refine r_if_eq (pc := 4) (tgt := 21) C dX8_add_4 (by decide) (fun h4 => ?_) (fun h4 => ?_)
  · have h4 := b_f h4
    refine r_bipush (pc := 21) (v := (-2)) C dX8_add_21 (by decide +kernel) ?_
    exact r_iret (pc := 23) C Z dX8_add_23 rfl (by rw [show qAdd z x y p f = (-2, z) by simp only [qAdd, h4, cond_true, cond_false, if_true, if_false, not_true_eq_false, not_false_eq_true, ↓reduceIte]]; exact ⟨rfl, hM, Fr.rf⟩)
  · have h4 := b_t h4
    refine r_iload_n (pc := 7) C dX8_add_7 rfl ?_
    refine r_callS (pc := 8) C dX8_add_8 cs_RX8_112 (c_X8_isRegister y) ⟨rfl, rfl, by decide, by decide⟩ rfl rfl (Nat.le_of_ble_eq_true rfl) ⟨Nat.zero_le _, Nat.zero_le _⟩ ?_
    rintro _ _ ⟨_, rfl, rfl, rfl⟩
    show G M S E (0, 0) g 11 [some (.ref (E.1 286)), some (.int x), some (.int y), some (.int p), some (.int f), none] [.int (b2i (hix 6 y))]
    refine r_if_eq (pc := 11) (tgt := 21) C dX8_add_11 (by decide) (fun h11 => ?_) (fun h11 => ?_)
    · have h11 := b_f h11
      refine r_bipush (pc := 21) (v := (-2)) C dX8_add_21 (by decide +kernel) ?_
      exact r_iret (pc := 23) C Z dX8_add_23 rfl (by rw [show qAdd z x y p f = (-2, z) by simp only [qAdd, h4, h11, cond_true, cond_false, if_true, if_false, not_true_eq_false, not_false_eq_true, ↓reduceIte]]; exact ⟨rfl, hM, Fr.rf⟩)
    · have h11 := b_t h11
      refine r_iload_n (pc := 14) C dX8_add_14 rfl ?_
      refine r_callS (pc := 15) C dX8_add_15 cs_RX8_112 (c_X8_isRegister p) ⟨rfl, rfl, by decide, by decide⟩ rfl rfl (Nat.le_of_ble_eq_true rfl) ⟨Nat.zero_le _, Nat.zero_le _⟩ ?_
      rintro _ _ ⟨_, rfl, rfl, rfl⟩
      show G M S E (0, 0) g 18 [some (.ref (E.1 286)), some (.int x), some (.int y), some (.int p), some (.int f), none] [.int (b2i (hix 6 p))]
      refine r_if_ne (pc := 18) (tgt := 24) C dX8_add_18 (by decide) (fun h18 => ?_) (fun h18 => ?_)
      · have h18 := b_t h18
        obtain ⟨t, rfl, ht⟩ := hix_nat h4 (by omega)
        obtain ⟨a, rfl, ha⟩ := hix_nat h11 (by omega)
        obtain ⟨b, rfl, hb⟩ := hix_nat h18 (by omega)
        refine r_iload (pc := 24) C dX8_add_24 rfl ?_
        refine r_i2l (pc := 26) C dX8_add_26 ?_
        refine r_ldc2 (pc := 27) C dX8_add_27 qK_RX8_125 ?_
        refine r_ldc2 (pc := 30) C dX8_add_30 qK_RX8_127 ?_
        refine r_callS (pc := 33) C dX8_add_33 cs_RX8_7 (c_X8_isBetween f.toInt64 (-9) 9) ⟨rfl, rfl, by decide, by decide⟩ rfl rfl (Nat.le_of_ble_eq_true rfl) ⟨Nat.zero_le _, Nat.zero_le _⟩ ?_
        rintro _ _ ⟨_, rfl, rfl, rfl⟩
        show G M S E (0, 0) g 36 [some (.ref (E.1 286)), some (.int (nI t)), some (.int (nI a)), some (.int (nI b)), some (.int f), none] [.int (b2i (btw f.toInt64 (-9) 9))]
        refine r_if_ne (pc := 36) (tgt := 41) C dX8_add_36 (by decide) (fun h36 => ?_) (fun h36 => ?_)
        · have h36 := b_t h36
          refine r_aload_n (pc := 41) C dX8_add_41 rfl ?_
          refine r_aload_n (pc := 42) C dX8_add_42 rfl ?_
          refine r_getf (pc := 43) C dX8_add_43 fl_RX8_21 hM.1 rfl ?_
          refine r_bipush (pc := 46) (v := nI 24) C dX8_add_46 (by decide +kernel) ?_
          refine r_iload_n (pc := 48) C dX8_add_48 rfl ?_
          refine r_imul (pc := 49) C dX8_add_49 ?_
          refine r_ti (nI (24 * a)) (pk_mul _ _) ?_
          refine r_aload_n (pc := 50) C dX8_add_50 rfl ?_
          refine r_getf (pc := 51) C dX8_add_51 fl_RX8_34 hM.1 rfl ?_
          refine r_callV (pc := 54) C dX8_add_54 cv_RX8_129 (c_X8_load hM.1 rfl hN hM.2.2.2.2.2.1 (by decide) hM.2.1 (by decide) (24 * a) (by omega) (by decide)) ⟨rfl, rfl, by decide, by decide⟩ hM.1 rfl rfl (Nat.le_of_ble_eq_true rfl) ⟨Nat.zero_le _, Nat.zero_le _⟩ ?_
          rintro _ _ ⟨rfl, rfl⟩
          show G M S E (0, 0) (va_up g 291 (xJ S 24 (ldF z.1 z.2.2.2.2.2.2.2.2.2.2.2.1 (24 * a)))) 57 [some (.ref (E.1 286)), some (.int (nI t)), some (.int (nI a)), some (.int (nI b)), some (.int f), none] []
          refine r_iconst (pc := 57) (v := nI 0) C dX8_add_57 (by decide +kernel) ?_
          refine r_istore (pc := 58) C dX8_add_58 (by decide) ?_
          refine G.eq (pc' := 60) (vs' := [some (.ref (E.1 286)), some (.int (nI t)), some (.int (nI a)), some (.int (nI b)), some (.int f), some (.int (nI 0))]) (st' := []) ?_
          refine bk (P := fun t2 => G M S E (0, 0) (va_up g 291 (xJ S 24 (adZ z.1 z.2.2.2.2.2.2.2.2.2.2.2.1 a b f t2))) 60 [some (.ref (E.1 286)), some (.int (nI t)), some (.int (nI a)), some (.int (nI b)), some (.int f), some (.int (nI t2))] []) (T := z.1) ?_ (fun t2 ht ih => ?_)
          · show G M S E (0, 0) (va_up g 291 (xJ S 24 (adZ z.1 z.2.2.2.2.2.2.2.2.2.2.2.1 a b f z.1))) 60 [some (.ref (E.1 286)), some (.int (nI t)), some (.int (nI a)), some (.int (nI b)), some (.int f), some (.int (nI z.1))] []
            refine r_iload (pc := 60) C dX8_add_60 rfl ?_
            refine r_aload_n (pc := 62) C dX8_add_62 rfl ?_
            refine r_getf (pc := 63) C dX8_add_63 fl_RX8_17 (Ce.up hM.1 (by decide)) rfl ?_
            refine r_icmp_ge (pc := 66) (tgt := 101) C dX8_add_66 (by decide) (fun h66 => ?_) (fun h66 => ?_)
            · have h66 := c_le (by omega) (by omega) h66
              refine r_aload_n (pc := 101) C dX8_add_101 rfl ?_
              refine r_iload_n (pc := 102) C dX8_add_102 rfl ?_
              have hM1 : MC S E (va_up g 291 (xJ S 24 (adZ z.1 z.2.2.2.2.2.2.2.2.2.2.2.1 a b f z.1))) (s_f1 z (adZ z.1 z.2.2.2.2.2.2.2.2.2.2.2.1 a b f z.1)) := ⟨(Ce.up hM.1 (by decide)), (Ce.up hM.2.1 (by decide)), (Ce.up hM.2.2.1 (by decide)), (Ce.up hM.2.2.2.1 (by decide)), (Ce.up hM.2.2.2.2.1 (by decide)), (Ce.new hM.2.2.2.2.2.1), (Ce.up hM.2.2.2.2.2.2.1 (by decide)), (Ce.up hM.2.2.2.2.2.2.2.1 (by decide)), (Ce.up hM.2.2.2.2.2.2.2.2.1 (by decide)), (Ce.up hM.2.2.2.2.2.2.2.2.2.1 (by decide)), (Ce.up hM.2.2.2.2.2.2.2.2.2.2.1 (by decide)), (Ce.up hM.2.2.2.2.2.2.2.2.2.2.2.1 (by decide)), (Ce.up hM.2.2.2.2.2.2.2.2.2.2.2.2.1 (by decide)), (Ce.up hM.2.2.2.2.2.2.2.2.2.2.2.2.2.1 (by decide)), (Ce.up hM.2.2.2.2.2.2.2.2.2.2.2.2.2.2.1 (by decide)), (Ce.up hM.2.2.2.2.2.2.2.2.2.2.2.2.2.2.2.1 (by decide)), (Ce.up hM.2.2.2.2.2.2.2.2.2.2.2.2.2.2.2.2.1 (by decide)), (Ce.up hM.2.2.2.2.2.2.2.2.2.2.2.2.2.2.2.2.2.1 (by decide)), (Ce.up hM.2.2.2.2.2.2.2.2.2.2.2.2.2.2.2.2.2.2.1 (by decide)), (Ce.up hM.2.2.2.2.2.2.2.2.2.2.2.2.2.2.2.2.2.2.2.1 (by decide)), (Ce.up hM.2.2.2.2.2.2.2.2.2.2.2.2.2.2.2.2.2.2.2.2.1 (by decide)), (Ce.up hM.2.2.2.2.2.2.2.2.2.2.2.2.2.2.2.2.2.2.2.2.2 (by decide))⟩
              have hf1 : Fr g (va_up g 291 (xJ S 24 (adZ z.1 z.2.2.2.2.2.2.2.2.2.2.2.1 a b f z.1))) 286 308 := (Fr.rf.up (by omega) (by omega))
              refine r_callV (pc := 103) C dX8_add_103 cv_RX8_133 (c_X8_store hM1 hN t ht) ⟨rfl, rfl, by decide, by decide⟩ (Ce.up hM.1 (by decide)) rfl rfl (Nat.le_of_ble_eq_true rfl) ⟨Nat.zero_le _, Nat.zero_le _⟩ ?_
              rintro _ g2 ⟨_, rfl, rfl, hM2, hF2⟩
              show G M S E (0, 0) g2 106 [some (.ref (E.1 286)), some (.int (nI t)), some (.int (nI a)), some (.int (nI b)), some (.int f), some (.int (nI z.1))] [.int (stV (s_f1 z (adZ z.1 z.2.2.2.2.2.2.2.2.2.2.2.1 a b f z.1)))]
              exact r_iret (pc := 106) C Z dX8_add_106 rfl (by rw [show qAdd z (nI t) (nI a) (nI b) f = sto z (adZ z.1 z.2.2.2.2.2.2.2.2.2.2.2.1 a b f z.1) t by simp only [qAdd, h4, h11, h18, h36, iN_nI (show t < 2 ^ 31 by omega), iN_nI (show a < 2 ^ 31 by omega), iN_nI (show b < 2 ^ 31 by omega), cond_true, cond_false, if_true, if_false, not_true_eq_false, not_false_eq_true, ↓reduceIte]]; exact ⟨rfl, hM2, hf1.tr hF2 (by omega) (by omega)⟩)
            · have h66 := c_nle (by omega) (by omega) h66
              omega
          · show G M S E (0, 0) (va_up g 291 (xJ S 24 (adZ z.1 z.2.2.2.2.2.2.2.2.2.2.2.1 a b f t2))) 60 [some (.ref (E.1 286)), some (.int (nI t)), some (.int (nI a)), some (.int (nI b)), some (.int f), some (.int (nI t2))] []
            refine r_iload (pc := 60) C dX8_add_60 rfl ?_
            refine r_aload_n (pc := 62) C dX8_add_62 rfl ?_
            refine r_getf (pc := 63) C dX8_add_63 fl_RX8_17 (Ce.up hM.1 (by decide)) rfl ?_
            refine r_icmp_ge (pc := 66) (tgt := 101) C dX8_add_66 (by decide) (fun h66 => ?_) (fun h66 => ?_)
            · have h66 := c_le (by omega) (by omega) h66
              omega
            · have h66 := c_nle (by omega) (by omega) h66
              refine r_aload_n (pc := 69) C dX8_add_69 rfl ?_
              refine r_getf (pc := 70) C dX8_add_70 fl_RX8_34 (Ce.up hM.1 (by decide)) rfl ?_
              refine r_iload (pc := 73) C dX8_add_73 rfl ?_
              refine r_dup2 (pc := 75) C dX8_add_75 rfl rfl ?_
              refine r_lald (pc := 76) C dX8_add_76 (Ce.new hM.2.2.2.2.2.1) rfl (by omega) (by omega) ?_
              refine r_iload (pc := 77) C dX8_add_77 rfl ?_
              refine r_i2l (pc := 79) C dX8_add_79 ?_
              refine r_aload_n (pc := 80) C dX8_add_80 rfl ?_
              refine r_getf (pc := 81) C dX8_add_81 fl_RX8_21 (Ce.up hM.1 (by decide)) rfl ?_
              refine r_bipush (pc := 84) (v := nI 24) C dX8_add_84 (by decide +kernel) ?_
              refine r_iload_n (pc := 86) C dX8_add_86 rfl ?_
              refine r_imul (pc := 87) C dX8_add_87 ?_
              refine r_ti (nI (24 * b)) (pk_mul _ _) ?_
              refine r_iload (pc := 88) C dX8_add_88 rfl ?_
              refine r_iadd (pc := 90) C dX8_add_90 ?_
              refine r_ti (nI (24 * b + t2)) (nI_add _ _) ?_
              refine r_lald (pc := 91) C dX8_add_91 (Ce.up hM.2.1 (by decide)) rfl (by omega) (by omega) ?_
              refine r_lmul (pc := 92) C dX8_add_92 ?_
              refine r_ladd (pc := 93) C dX8_add_93 ?_
              refine r_last2 (pc := 94) C dX8_add_94 hM.2.2.2.2.2.1.1 rfl (by omega) (by omega) ?_
              refine r_iinc (pc := 95) (v := nI (t2 + 1)) C dX8_add_95 rfl (nI_i1 _) (by decide) ?_
              refine G.eq (pc' := 98) (vs' := [some (.ref (E.1 286)), some (.int (nI t)), some (.int (nI a)), some (.int (nI b)), some (.int f), some (.int (nI (t2 + 1)))]) (st' := []) ?_
              refine r_goto (pc := 98) (tgt := 60) C dX8_add_98 (by decide) ?_
              exact ih
        · have h36 := b_f h36
          refine r_iconst (pc := 39) (v := (-1)) C dX8_add_39 (by decide +kernel) ?_
          exact r_iret (pc := 40) C Z dX8_add_40 rfl (by rw [show qAdd z (nI t) (nI a) (nI b) f = (-1, z) by simp only [qAdd, h4, h11, h18, h36, iN_nI (show t < 2 ^ 31 by omega), iN_nI (show a < 2 ^ 31 by omega), iN_nI (show b < 2 ^ 31 by omega), cond_true, cond_false, if_true, if_false, not_true_eq_false, not_false_eq_true, ↓reduceIte]]; exact ⟨rfl, hM, Fr.rf⟩)
      · have h18 := b_f h18
        refine r_bipush (pc := 21) (v := (-2)) C dX8_add_21 (by decide +kernel) ?_
        exact r_iret (pc := 23) C Z dX8_add_23 rfl (by rw [show qAdd z x y p f = (-2, z) by simp only [qAdd, h4, h11, h18, cond_true, cond_false, if_true, if_false, not_true_eq_false, not_false_eq_true, ↓reduceIte]]; exact ⟨rfl, hM, Fr.rf⟩)
set_option maxHeartbeats 4000000 in
set_option maxRecDepth 100000 in
theorem c_X8_multiply {S : ST} {E : ET} {g : Nat → va_E} {z : MZ} (hM : MC S E g z) (h4 : 4 ≤ z.1) (hN : z.1 ≤ 24) (x y p : Int32) : CtI S E yX8_multiply cX8_multiply 6 (Option.some FieldType.int) rmX8_multiply [.ref (E.1 286), .int x, .int y, .int p] g (fun u g' => u = (qMul z x y p).1 ∧ MC S E g' (qMul z x y p).2 ∧ Fr g g' 286 308) := by
  refine Ct.of RX8 (by decide +kernel) rfl (Nat.le_of_ble_eq_true rfl) (fun M C Z => ?_)
  refine G.eq (pc' := 0) (vs' := [some (.ref (E.1 286)), some (.int x), some (.int y), some (.int p), none, none]) (st' := []) ?_
  refine r_iload_n (pc := 0) C dX8_multiply_0 rfl ?_
  refine r_callS (pc := 1) C dX8_multiply_1 cs_RX8_112 (c_X8_isRegister x) ⟨rfl, rfl, by decide, by decide⟩ rfl rfl (Nat.le_of_ble_eq_true rfl) ⟨Nat.zero_le _, Nat.zero_le _⟩ ?_
  rintro _ _ ⟨_, rfl, rfl, rfl⟩
  show G M S E (0, 0) g 4 [some (.ref (E.1 286)), some (.int x), some (.int y), some (.int p), none, none] [.int (b2i (hix 6 x))]
  refine r_if_eq (pc := 4) (tgt := 21) C dX8_multiply_4 (by decide) (fun h4 => ?_) (fun h4 => ?_)
  · have h4 := b_f h4
    refine r_bipush (pc := 21) (v := (-2)) C dX8_multiply_21 (by decide +kernel) ?_
    exact r_iret (pc := 23) C Z dX8_multiply_23 rfl (by rw [show qMul z x y p = (-2, z) by simp only [qMul, h4, cond_true, cond_false, if_true, if_false, not_true_eq_false, not_false_eq_true, ↓reduceIte]]; exact ⟨rfl, hM, Fr.rf⟩)
  · have h4 := b_t h4
    refine r_iload_n (pc := 7) C dX8_multiply_7 rfl ?_
    refine r_callS (pc := 8) C dX8_multiply_8 cs_RX8_112 (c_X8_isRegister y) ⟨rfl, rfl, by decide, by decide⟩ rfl rfl (Nat.le_of_ble_eq_true rfl) ⟨Nat.zero_le _, Nat.zero_le _⟩ ?_
    rintro _ _ ⟨_, rfl, rfl, rfl⟩
    show G M S E (0, 0) g 11 [some (.ref (E.1 286)), some (.int x), some (.int y), some (.int p), none, none] [.int (b2i (hix 6 y))]
    refine r_if_eq (pc := 11) (tgt := 21) C dX8_multiply_11 (by decide) (fun h11 => ?_) (fun h11 => ?_)
    · have h11 := b_f h11
      refine r_bipush (pc := 21) (v := (-2)) C dX8_multiply_21 (by decide +kernel) ?_
      exact r_iret (pc := 23) C Z dX8_multiply_23 rfl (by rw [show qMul z x y p = (-2, z) by simp only [qMul, h4, h11, cond_true, cond_false, if_true, if_false, not_true_eq_false, not_false_eq_true, ↓reduceIte]]; exact ⟨rfl, hM, Fr.rf⟩)
    · have h11 := b_t h11
      refine r_iload_n (pc := 14) C dX8_multiply_14 rfl ?_
      refine r_callS (pc := 15) C dX8_multiply_15 cs_RX8_112 (c_X8_isRegister p) ⟨rfl, rfl, by decide, by decide⟩ rfl rfl (Nat.le_of_ble_eq_true rfl) ⟨Nat.zero_le _, Nat.zero_le _⟩ ?_
      rintro _ _ ⟨_, rfl, rfl, rfl⟩
      show G M S E (0, 0) g 18 [some (.ref (E.1 286)), some (.int x), some (.int y), some (.int p), none, none] [.int (b2i (hix 6 p))]
      refine r_if_ne (pc := 18) (tgt := 24) C dX8_multiply_18 (by decide) (fun h18 => ?_) (fun h18 => ?_)
      · have h18 := b_t h18
        obtain ⟨t, rfl, ht⟩ := hix_nat h4 (by omega)
        obtain ⟨a, rfl, ha⟩ := hix_nat h11 (by omega)
        obtain ⟨b, rfl, hb⟩ := hix_nat h18 (by omega)
        refine r_aload_n (pc := 24) C dX8_multiply_24 rfl ?_
        refine r_aload_n (pc := 25) C dX8_multiply_25 rfl ?_
        refine r_getf (pc := 26) C dX8_multiply_26 fl_RX8_34 hM.1 rfl ?_
        refine r_callV (pc := 29) C dX8_multiply_29 cv_RX8_136 (c_X8_makeZero (iq := 286) hM.2.2.2.2.2.1 (by decide)) ⟨rfl, rfl, by decide, by decide⟩ hM.1 rfl rfl (Nat.le_of_ble_eq_true rfl) ⟨Nat.zero_le _, Nat.zero_le _⟩ ?_
        rintro _ _ ⟨rfl, rfl⟩
        show G M S E (0, 0) (va_up g 291 (xJ S 24 (fun _ => 0))) 32 [some (.ref (E.1 286)), some (.int (nI t)), some (.int (nI a)), some (.int (nI b)), none, none] []
        refine r_iconst (pc := 32) (v := nI 0) C dX8_multiply_32 (by decide +kernel) ?_
        refine r_istore (pc := 33) C dX8_multiply_33 (by decide) ?_
        refine G.eq (pc' := 35) (vs' := [some (.ref (E.1 286)), some (.int (nI t)), some (.int (nI a)), some (.int (nI b)), some (.int (nI 0)), none]) (st' := []) ?_
        refine bk (P := fun t2 => G M S E (0, 0) (va_up g 291 (xJ S 24 (muZ z.1 z.2.2.2.2.2.2.2.2.2.2.2.1 a b t2))) 35 [some (.ref (E.1 286)), some (.int (nI t)), some (.int (nI a)), some (.int (nI b)), some (.int (nI t2)), none] []) (T := z.1) ?_ (fun t2 ht ih => ?_)
        · show G M S E (0, 0) (va_up g 291 (xJ S 24 (muZ z.1 z.2.2.2.2.2.2.2.2.2.2.2.1 a b z.1))) 35 [some (.ref (E.1 286)), some (.int (nI t)), some (.int (nI a)), some (.int (nI b)), some (.int (nI z.1)), none] []
          refine r_iload (pc := 35) C dX8_multiply_35 rfl ?_
          refine r_aload_n (pc := 37) C dX8_multiply_37 rfl ?_
          refine r_getf (pc := 38) C dX8_multiply_38 fl_RX8_17 (Ce.up hM.1 (by decide)) rfl ?_
          refine r_icmp_ge (pc := 41) (tgt := 109) C dX8_multiply_41 (by decide) (fun h41 => ?_) (fun h41 => ?_)
          · have h41 := c_le (by omega) (by omega) h41
            refine r_aload_n (pc := 109) C dX8_multiply_109 rfl ?_
            refine r_iload_n (pc := 110) C dX8_multiply_110 rfl ?_
            have hM1 : MC S E (va_up g 291 (xJ S 24 (muZ z.1 z.2.2.2.2.2.2.2.2.2.2.2.1 a b z.1))) (s_f1 z (muZ z.1 z.2.2.2.2.2.2.2.2.2.2.2.1 a b z.1)) := ⟨(Ce.up hM.1 (by decide)), (Ce.up hM.2.1 (by decide)), (Ce.up hM.2.2.1 (by decide)), (Ce.up hM.2.2.2.1 (by decide)), (Ce.up hM.2.2.2.2.1 (by decide)), (Ce.new hM.2.2.2.2.2.1), (Ce.up hM.2.2.2.2.2.2.1 (by decide)), (Ce.up hM.2.2.2.2.2.2.2.1 (by decide)), (Ce.up hM.2.2.2.2.2.2.2.2.1 (by decide)), (Ce.up hM.2.2.2.2.2.2.2.2.2.1 (by decide)), (Ce.up hM.2.2.2.2.2.2.2.2.2.2.1 (by decide)), (Ce.up hM.2.2.2.2.2.2.2.2.2.2.2.1 (by decide)), (Ce.up hM.2.2.2.2.2.2.2.2.2.2.2.2.1 (by decide)), (Ce.up hM.2.2.2.2.2.2.2.2.2.2.2.2.2.1 (by decide)), (Ce.up hM.2.2.2.2.2.2.2.2.2.2.2.2.2.2.1 (by decide)), (Ce.up hM.2.2.2.2.2.2.2.2.2.2.2.2.2.2.2.1 (by decide)), (Ce.up hM.2.2.2.2.2.2.2.2.2.2.2.2.2.2.2.2.1 (by decide)), (Ce.up hM.2.2.2.2.2.2.2.2.2.2.2.2.2.2.2.2.2.1 (by decide)), (Ce.up hM.2.2.2.2.2.2.2.2.2.2.2.2.2.2.2.2.2.2.1 (by decide)), (Ce.up hM.2.2.2.2.2.2.2.2.2.2.2.2.2.2.2.2.2.2.2.1 (by decide)), (Ce.up hM.2.2.2.2.2.2.2.2.2.2.2.2.2.2.2.2.2.2.2.2.1 (by decide)), (Ce.up hM.2.2.2.2.2.2.2.2.2.2.2.2.2.2.2.2.2.2.2.2.2 (by decide))⟩
            have hf1 : Fr g (va_up g 291 (xJ S 24 (muZ z.1 z.2.2.2.2.2.2.2.2.2.2.2.1 a b z.1))) 286 308 := (Fr.rf.up (by omega) (by omega))
            refine r_callV (pc := 111) C dX8_multiply_111 cv_RX8_133 (c_X8_store hM1 hN t ht) ⟨rfl, rfl, by decide, by decide⟩ (Ce.up hM.1 (by decide)) rfl rfl (Nat.le_of_ble_eq_true rfl) ⟨Nat.zero_le _, Nat.zero_le _⟩ ?_
            rintro _ g2 ⟨_, rfl, rfl, hM2, hF2⟩
            show G M S E (0, 0) g2 114 [some (.ref (E.1 286)), some (.int (nI t)), some (.int (nI a)), some (.int (nI b)), some (.int (nI z.1)), none] [.int (stV (s_f1 z (muZ z.1 z.2.2.2.2.2.2.2.2.2.2.2.1 a b z.1)))]
            exact r_iret (pc := 114) C Z dX8_multiply_114 rfl (by rw [show qMul z (nI t) (nI a) (nI b) = sto z (muZ z.1 z.2.2.2.2.2.2.2.2.2.2.2.1 a b z.1) t by simp only [qMul, h4, h11, h18, iN_nI (show t < 2 ^ 31 by omega), iN_nI (show a < 2 ^ 31 by omega), iN_nI (show b < 2 ^ 31 by omega), cond_true, cond_false, if_true, if_false, not_true_eq_false, not_false_eq_true, ↓reduceIte]]; exact ⟨rfl, hM2, hf1.tr hF2 (by omega) (by omega)⟩)
          · have h41 := c_nle (by omega) (by omega) h41
            omega
        · show G M S E (0, 0) (va_up g 291 (xJ S 24 (muZ z.1 z.2.2.2.2.2.2.2.2.2.2.2.1 a b t2))) 35 [some (.ref (E.1 286)), some (.int (nI t)), some (.int (nI a)), some (.int (nI b)), some (.int (nI t2)), none] []
          refine r_iload (pc := 35) C dX8_multiply_35 rfl ?_
          refine r_aload_n (pc := 37) C dX8_multiply_37 rfl ?_
          refine r_getf (pc := 38) C dX8_multiply_38 fl_RX8_17 (Ce.up hM.1 (by decide)) rfl ?_
          refine r_icmp_ge (pc := 41) (tgt := 109) C dX8_multiply_41 (by decide) (fun h41 => ?_) (fun h41 => ?_)
          · have h41 := c_le (by omega) (by omega) h41
            omega
          · have h41 := c_nle (by omega) (by omega) h41
            refine r_iconst (pc := 44) (v := nI 0) C dX8_multiply_44 (by decide +kernel) ?_
            refine r_istore (pc := 45) C dX8_multiply_45 (by decide) ?_
            refine G.eq (pc' := 47) (vs' := [some (.ref (E.1 286)), some (.int (nI t)), some (.int (nI a)), some (.int (nI b)), some (.int (nI t2)), some (.int (nI 0))]) (st' := []) ?_
            refine bk (P := fun t3 => G M S E (0, 0) (va_up g 291 (xJ S 24 (muI z.2.2.2.2.2.2.2.2.2.2.2.1 a b t2 (muZ z.1 z.2.2.2.2.2.2.2.2.2.2.2.1 a b t2) t3))) 47 [some (.ref (E.1 286)), some (.int (nI t)), some (.int (nI a)), some (.int (nI b)), some (.int (nI t2)), some (.int (nI t3))] []) (T := z.1 - t2) ?_ (fun t3 ht ih => ?_)
            · show G M S E (0, 0) (va_up g 291 (xJ S 24 (muI z.2.2.2.2.2.2.2.2.2.2.2.1 a b t2 (muZ z.1 z.2.2.2.2.2.2.2.2.2.2.2.1 a b t2) (z.1 - t2)))) 47 [some (.ref (E.1 286)), some (.int (nI t)), some (.int (nI a)), some (.int (nI b)), some (.int (nI t2)), some (.int (nI (z.1 - t2)))] []
              refine r_iload (pc := 47) C dX8_multiply_47 rfl ?_
              refine r_iload (pc := 49) C dX8_multiply_49 rfl ?_
              refine r_iadd (pc := 51) C dX8_multiply_51 ?_
              refine r_ti (nI (t2 + (z.1 - t2))) (nI_add _ _) ?_
              refine r_aload_n (pc := 52) C dX8_multiply_52 rfl ?_
              refine r_getf (pc := 53) C dX8_multiply_53 fl_RX8_17 (Ce.up hM.1 (by decide)) rfl ?_
              refine r_icmp_ge (pc := 56) (tgt := 103) C dX8_multiply_56 (by decide) (fun h56 => ?_) (fun h56 => ?_)
              · have h56 := c_le (by omega) (by omega) h56
                refine r_iinc (pc := 103) (v := nI (t2 + 1)) C dX8_multiply_103 rfl (nI_i1 _) (by decide) ?_
                refine G.eq (pc' := 106) (vs' := [some (.ref (E.1 286)), some (.int (nI t)), some (.int (nI a)), some (.int (nI b)), some (.int (nI (t2 + 1))), some (.int (nI (z.1 - t2)))]) (st' := []) ?_
                refine r_goto (pc := 106) (tgt := 35) C dX8_multiply_106 (by decide) ?_
                refine G.wk (vs' := [some (.ref (E.1 286)), some (.int (nI t)), some (.int (nI a)), some (.int (nI b)), some (.int (nI (t2 + 1))), none]) ⟨rfl, rfl, rfl, rfl, rfl, trivial⟩ ?_
                exact ih
              · have h56 := c_nle (by omega) (by omega) h56
                omega
            · show G M S E (0, 0) (va_up g 291 (xJ S 24 (muI z.2.2.2.2.2.2.2.2.2.2.2.1 a b t2 (muZ z.1 z.2.2.2.2.2.2.2.2.2.2.2.1 a b t2) t3))) 47 [some (.ref (E.1 286)), some (.int (nI t)), some (.int (nI a)), some (.int (nI b)), some (.int (nI t2)), some (.int (nI t3))] []
              refine r_iload (pc := 47) C dX8_multiply_47 rfl ?_
              refine r_iload (pc := 49) C dX8_multiply_49 rfl ?_
              refine r_iadd (pc := 51) C dX8_multiply_51 ?_
              refine r_ti (nI (t2 + t3)) (nI_add _ _) ?_
              refine r_aload_n (pc := 52) C dX8_multiply_52 rfl ?_
              refine r_getf (pc := 53) C dX8_multiply_53 fl_RX8_17 (Ce.up hM.1 (by decide)) rfl ?_
              refine r_icmp_ge (pc := 56) (tgt := 103) C dX8_multiply_56 (by decide) (fun h56 => ?_) (fun h56 => ?_)
              · have h56 := c_le (by omega) (by omega) h56
                omega
              · have h56 := c_nle (by omega) (by omega) h56
                refine r_aload_n (pc := 59) C dX8_multiply_59 rfl ?_
                refine r_getf (pc := 60) C dX8_multiply_60 fl_RX8_34 (Ce.up hM.1 (by decide)) rfl ?_
                refine r_iload (pc := 63) C dX8_multiply_63 rfl ?_
                refine r_iload (pc := 65) C dX8_multiply_65 rfl ?_
                refine r_iadd (pc := 67) C dX8_multiply_67 ?_
                refine r_ti (nI (t2 + t3)) (nI_add _ _) ?_
                refine r_dup2 (pc := 68) C dX8_multiply_68 rfl rfl ?_
                refine r_lald (pc := 69) C dX8_multiply_69 (Ce.new hM.2.2.2.2.2.1) rfl (by omega) (by omega) ?_
                refine r_aload_n (pc := 70) C dX8_multiply_70 rfl ?_
                refine r_getf (pc := 71) C dX8_multiply_71 fl_RX8_21 (Ce.up hM.1 (by decide)) rfl ?_
                refine r_bipush (pc := 74) (v := nI 24) C dX8_multiply_74 (by decide +kernel) ?_
                refine r_iload_n (pc := 76) C dX8_multiply_76 rfl ?_
                refine r_imul (pc := 77) C dX8_multiply_77 ?_
                refine r_ti (nI (24 * a)) (pk_mul _ _) ?_
                refine r_iload (pc := 78) C dX8_multiply_78 rfl ?_
                refine r_iadd (pc := 80) C dX8_multiply_80 ?_
                refine r_ti (nI (24 * a + t2)) (nI_add _ _) ?_
                refine r_lald (pc := 81) C dX8_multiply_81 (Ce.up hM.2.1 (by decide)) rfl (by omega) (by omega) ?_
                refine r_aload_n (pc := 82) C dX8_multiply_82 rfl ?_
                refine r_getf (pc := 83) C dX8_multiply_83 fl_RX8_21 (Ce.up hM.1 (by decide)) rfl ?_
                refine r_bipush (pc := 86) (v := nI 24) C dX8_multiply_86 (by decide +kernel) ?_
                refine r_iload_n (pc := 88) C dX8_multiply_88 rfl ?_
                refine r_imul (pc := 89) C dX8_multiply_89 ?_
                refine r_ti (nI (24 * b)) (pk_mul _ _) ?_
                refine r_iload (pc := 90) C dX8_multiply_90 rfl ?_
                refine r_iadd (pc := 92) C dX8_multiply_92 ?_
                refine r_ti (nI (24 * b + t3)) (nI_add _ _) ?_
                refine r_lald (pc := 93) C dX8_multiply_93 (Ce.up hM.2.1 (by decide)) rfl (by omega) (by omega) ?_
                refine r_lmul (pc := 94) C dX8_multiply_94 ?_
                refine r_ladd (pc := 95) C dX8_multiply_95 ?_
                refine r_last2 (pc := 96) C dX8_multiply_96 hM.2.2.2.2.2.1.1 rfl (by omega) (by omega) ?_
                refine r_iinc (pc := 97) (v := nI (t3 + 1)) C dX8_multiply_97 rfl (nI_i1 _) (by decide) ?_
                refine G.eq (pc' := 100) (vs' := [some (.ref (E.1 286)), some (.int (nI t)), some (.int (nI a)), some (.int (nI b)), some (.int (nI t2)), some (.int (nI (t3 + 1)))]) (st' := []) ?_
                refine r_goto (pc := 100) (tgt := 47) C dX8_multiply_100 (by decide) ?_
                exact ih
      · have h18 := b_f h18
        refine r_bipush (pc := 21) (v := (-2)) C dX8_multiply_21 (by decide +kernel) ?_
        exact r_iret (pc := 23) C Z dX8_multiply_23 rfl (by rw [show qMul z x y p = (-2, z) by simp only [qMul, h4, h11, h18, cond_true, cond_false, if_true, if_false, not_true_eq_false, not_false_eq_true, ↓reduceIte]]; exact ⟨rfl, hM, Fr.rf⟩)
