def s_f12 (z : MZ) (x_f1 : (Nat → Int64)) (x_f2 : (Nat → Int64)) : MZ := (z.1, z.2.1, z.2.2.1, z.2.2.2.1, z.2.2.2.2.1, z.2.2.2.2.2.1, z.2.2.2.2.2.2.1, z.2.2.2.2.2.2.2.1, z.2.2.2.2.2.2.2.2.1, z.2.2.2.2.2.2.2.2.2.1, z.2.2.2.2.2.2.2.2.2.2.1, z.2.2.2.2.2.2.2.2.2.2.2.1, z.2.2.2.2.2.2.2.2.2.2.2.2.1, z.2.2.2.2.2.2.2.2.2.2.2.2.2.1, z.2.2.2.2.2.2.2.2.2.2.2.2.2.2.1, x_f1, x_f2, z.2.2.2.2.2.2.2.2.2.2.2.2.2.2.2.2.2.1, z.2.2.2.2.2.2.2.2.2.2.2.2.2.2.2.2.2.2.1, z.2.2.2.2.2.2.2.2.2.2.2.2.2.2.2.2.2.2.2.1, z.2.2.2.2.2.2.2.2.2.2.2.2.2.2.2.2.2.2.2.2.1, z.2.2.2.2.2.2.2.2.2.2.2.2.2.2.2.2.2.2.2.2.2.1, z.2.2.2.2.2.2.2.2.2.2.2.2.2.2.2.2.2.2.2.2.2.2.1, z.2.2.2.2.2.2.2.2.2.2.2.2.2.2.2.2.2.2.2.2.2.2.2.1, z.2.2.2.2.2.2.2.2.2.2.2.2.2.2.2.2.2.2.2.2.2.2.2.2.1, z.2.2.2.2.2.2.2.2.2.2.2.2.2.2.2.2.2.2.2.2.2.2.2.2.2.1, z.2.2.2.2.2.2.2.2.2.2.2.2.2.2.2.2.2.2.2.2.2.2.2.2.2.2.1, z.2.2.2.2.2.2.2.2.2.2.2.2.2.2.2.2.2.2.2.2.2.2.2.2.2.2.2.1, z.2.2.2.2.2.2.2.2.2.2.2.2.2.2.2.2.2.2.2.2.2.2.2.2.2.2.2.2.1, z.2.2.2.2.2.2.2.2.2.2.2.2.2.2.2.2.2.2.2.2.2.2.2.2.2.2.2.2.2.1, z.2.2.2.2.2.2.2.2.2.2.2.2.2.2.2.2.2.2.2.2.2.2.2.2.2.2.2.2.2.2.1, z.2.2.2.2.2.2.2.2.2.2.2.2.2.2.2.2.2.2.2.2.2.2.2.2.2.2.2.2.2.2.2)
def vaZ (n : Nat) (fr : Nat → Int64) (a : Nat) (x : Int32) (t : Nat) : Int64 := it (fun j s => rmL (s * rmL x.toInt64 + fr (24 * a + (n - j - 1)))) t 0
theorem it_succ {σ : Type} (f : Nat → σ → σ) (t : Nat) (s : σ) : it f (t + 1) s = f t (it f t s) := rfl
theorem vaZ_s (n : Nat) (fr : Nat → Int64) (a : Nat) (x : Int32) (t : Nat) : vaZ n fr a x (t + 1) = rmL (vaZ n fr a x t * rmL x.toInt64 + fr (24 * a + (n - t - 1))) := by
  unfold vaZ
  rw [it_succ]
def qVal (z : MZ) (x y : Int32) : Int32 := bif hix 6 x then (vaZ z.1 z.2.2.2.2.2.2.2.2.2.2.2.1 (iN x) y z.1).toInt32 else -2
def diR (fr c : Nat → Int64) (a b k t : Nat) : Int64 := it (fun j v => v - c j * fr (24 * b + k - j)) t (fr (24 * a + k))
def diZ (fr : Nat → Int64) (a b t : Nat) : Nat → Int64 := it (fun k c => vp_updL c k (fr (24 * b) * diR fr c a b k k)) t (fun _ => 0)
def diB (fr : Nat → Int64) (a b n : Nat) : Bool := allB (fun k => inR (diZ fr a b (k + 1) k)) n
def qDiv1 (z : MZ) (x y p : Int32) : Int32 × MZ := bif diB z.2.2.2.2.2.2.2.2.2.2.2.1 (iN y) (iN p) z.1 then sto z (diZ z.2.2.2.2.2.2.2.2.2.2.2.1 (iN y) (iN p) z.1) (iN x) else (-3, z)
def qDiv (z : MZ) (x y p : Int32) : Int32 × MZ := bif hix 6 x then (bif hix 6 y then (bif hix 6 p then (if z.2.2.2.2.2.2.2.2.2.2.2.1 (24 * iN p) = 1 then qDiv1 z x y p else if z.2.2.2.2.2.2.2.2.2.2.2.1 (24 * iN p) = -1 then qDiv1 z x y p else (-4, z)) else (-2, z)) else (-2, z)) else (-2, z)
def qCpy (z : MZ) (f : Nat → Int64) (x y : Int32) : Int32 × MZ := bif hix 6 x then (bif btw y.toInt64 0 4 then sto z (ldF z.1 f (24 * iN y)) (iN x) else (-1, z)) else (-2, z)
def qSum (z : MZ) (x : Int32) : Int32 × MZ := bif hix 6 x then sto z (suZ z.1 z.2.1 z.2.2.2.2.2.2.2.2.2.2.2.2.2.1 5) (iN x) else (-2, z)
def psZ (n r : Nat) (c : Nat → Int64) (t : Nat) : Nat → Int64 := it (fun j f => ovF n (r + (1 + j)) f) t c
def qPrS (z : MZ) (x : Int32) : Int32 × MZ := bif hix 6 x then sto z (psZ z.1 z.2.1 (suZ z.1 z.2.1 z.2.2.2.2.2.2.2.2.2.2.2.2.1 5) (z.1 - (z.2.1 + 1))) (iN x) else (-2, z)
set_option maxHeartbeats 4000000 in
set_option maxRecDepth 100000 in
theorem c_X8_shift {S : ST} {E : ET} {g : Nat → va_E} {z : MZ} (hM : MC S E g z) (h4 : 4 ≤ z.1) (hN : z.1 ≤ 24) (x y p : Int32) : CtI S E yX8_shift cX8_shift 4 (Option.some FieldType.int) rmX8_shift [.ref (E.1 286), .int x, .int y, .int p] g (fun u g' => u = (qShi z x y p).1 ∧ MC S E g' (qShi z x y p).2 ∧ Fr g g' 286 308) := by
  refine Ct.of RX8 (by decide +kernel) rfl (Nat.le_of_ble_eq_true rfl) (fun M C Z => ?_)
  refine G.eq (pc' := 0) (vs' := [some (.ref (E.1 286)), some (.int x), some (.int y), some (.int p)]) (st' := []) ?_
  refine r_iload_n (pc := 0) C dX8_shift_0 rfl ?_
  refine r_callS (pc := 1) C dX8_shift_1 cs_RX8_112 (c_X8_isRegister x) ⟨rfl, rfl, by decide, by decide⟩ rfl rfl (Nat.le_of_ble_eq_true rfl) ⟨Nat.zero_le _, Nat.zero_le _⟩ ?_
  rintro _ _ ⟨_, rfl, rfl, rfl⟩
  show G M S E (0, 0) g 4 [some (.ref (E.1 286)), some (.int x), some (.int y), some (.int p)] [.int (b2i (hix 6 x))]
  refine r_if_eq (pc := 4) (tgt := 14) C dX8_shift_4 (by decide) (fun h4 => ?_) (fun h4 => ?_)
  · have h4 := b_f h4
    refine r_bipush (pc := 14) (v := (-2)) C dX8_shift_14 (by decide +kernel) ?_
    exact r_iret (pc := 16) C Z dX8_shift_16 rfl (by rw [show qShi z x y p = (-2, z) by simp only [qShi, h4, cond_true, cond_false, if_true, if_false, not_true_eq_false, not_false_eq_true, ↓reduceIte]]; exact ⟨rfl, hM, Fr.rf⟩)
  · have h4 := b_t h4
    refine r_iload_n (pc := 7) C dX8_shift_7 rfl ?_
    refine r_callS (pc := 8) C dX8_shift_8 cs_RX8_112 (c_X8_isRegister y) ⟨rfl, rfl, by decide, by decide⟩ rfl rfl (Nat.le_of_ble_eq_true rfl) ⟨Nat.zero_le _, Nat.zero_le _⟩ ?_
    rintro _ _ ⟨_, rfl, rfl, rfl⟩
    show G M S E (0, 0) g 11 [some (.ref (E.1 286)), some (.int x), some (.int y), some (.int p)] [.int (b2i (hix 6 y))]
    refine r_if_ne (pc := 11) (tgt := 17) C dX8_shift_11 (by decide) (fun h11 => ?_) (fun h11 => ?_)
    · have h11 := b_t h11
      obtain ⟨t, rfl, ht⟩ := hix_nat h4 (by omega)
      obtain ⟨a, rfl, ha⟩ := hix_nat h11 (by omega)
      refine r_iload_n (pc := 17) C dX8_shift_17 rfl ?_
      refine r_i2l (pc := 18) C dX8_shift_18 ?_
      refine r_lconst (pc := 19) (v := 0) C dX8_shift_19 rfl ?_
      refine r_ldc2 (pc := 20) C dX8_shift_20 qK_RX8_142 ?_
      refine r_callS (pc := 23) C dX8_shift_23 cs_RX8_7 (c_X8_isBetween p.toInt64 0 23) ⟨rfl, rfl, by decide, by decide⟩ rfl rfl (Nat.le_of_ble_eq_true rfl) ⟨Nat.zero_le _, Nat.zero_le _⟩ ?_
      rintro _ _ ⟨_, rfl, rfl, rfl⟩
      show G M S E (0, 0) g 26 [some (.ref (E.1 286)), some (.int (nI t)), some (.int (nI a)), some (.int p)] [.int (b2i (btw p.toInt64 0 23))]
      refine r_if_ne (pc := 26) (tgt := 31) C dX8_shift_26 (by decide) (fun h26 => ?_) (fun h26 => ?_)
      · have h26 := b_t h26
        obtain ⟨k, rfl, hk0, hk1, hk⟩ := btw_nat (p := 0) (q := 23) h26 (by decide) (by decide)
        refine r_aload_n (pc := 31) C dX8_shift_31 rfl ?_
        refine r_aload_n (pc := 32) C dX8_shift_32 rfl ?_
        refine r_getf (pc := 33) C dX8_shift_33 fl_RX8_21 hM.1 rfl ?_
        refine r_bipush (pc := 36) (v := nI 24) C dX8_shift_36 (by decide +kernel) ?_
        refine r_iload_n (pc := 38) C dX8_shift_38 rfl ?_
        refine r_imul (pc := 39) C dX8_shift_39 ?_
        refine r_ti (nI (24 * a)) (pk_mul _ _) ?_
        refine r_aload_n (pc := 40) C dX8_shift_40 rfl ?_
        refine r_getf (pc := 41) C dX8_shift_41 fl_RX8_34 hM.1 rfl ?_
        refine r_callV (pc := 44) C dX8_shift_44 cv_RX8_129 (c_X8_load hM.1 rfl hN hM.2.2.2.2.2.1 (by decide) hM.2.1 (by decide) (24 * a) (by omega) (by decide)) ⟨rfl, rfl, by decide, by decide⟩ hM.1 rfl rfl (Nat.le_of_ble_eq_true rfl) ⟨Nat.zero_le _, Nat.zero_le _⟩ ?_
        rintro _ _ ⟨rfl, rfl⟩
        show G M S E (0, 0) (va_up g 291 (xJ S 24 (ldF z.1 z.2.2.2.2.2.2.2.2.2.2.2.1 (24 * a)))) 47 [some (.ref (E.1 286)), some (.int (nI t)), some (.int (nI a)), some (.int (nI k))] []
        refine r_aload_n (pc := 47) C dX8_shift_47 rfl ?_
        refine r_aload_n (pc := 48) C dX8_shift_48 rfl ?_
        refine r_getf (pc := 49) C dX8_shift_49 fl_RX8_34 (Ce.up hM.1 (by decide)) rfl ?_
        refine r_iload_n (pc := 52) C dX8_shift_52 rfl ?_
        refine r_callV (pc := 53) C dX8_shift_53 cv_RX8_144 (c_X8_shiftBy (Ce.up hM.1 (by decide)) rfl hN (Ce.new hM.2.2.2.2.2.1) (by decide) k (by omega)) ⟨rfl, rfl, by decide, by decide⟩ (Ce.up hM.1 (by decide)) rfl rfl (Nat.le_of_ble_eq_true rfl) ⟨Nat.zero_le _, Nat.zero_le _⟩ ?_
        rintro _ _ ⟨rfl, rfl⟩
        rw [bx_uu]
        show G M S E (0, 0) (va_up g 291 (xJ S 24 (swZ z.1 k z.2.2.2.2.2.2.2.2.2.2.2.1 a))) 56 [some (.ref (E.1 286)), some (.int (nI t)), some (.int (nI a)), some (.int (nI k))] []
        refine r_aload_n (pc := 56) C dX8_shift_56 rfl ?_
        refine r_iload_n (pc := 57) C dX8_shift_57 rfl ?_
        have hM1 : MC S E (va_up g 291 (xJ S 24 (swZ z.1 k z.2.2.2.2.2.2.2.2.2.2.2.1 a))) (s_f1 z (swZ z.1 k z.2.2.2.2.2.2.2.2.2.2.2.1 a)) := ⟨(Ce.up hM.1 (by decide)), (Ce.up hM.2.1 (by decide)), (Ce.up hM.2.2.1 (by decide)), (Ce.up hM.2.2.2.1 (by decide)), (Ce.up hM.2.2.2.2.1 (by decide)), (Ce.new hM.2.2.2.2.2.1), (Ce.up hM.2.2.2.2.2.2.1 (by decide)), (Ce.up hM.2.2.2.2.2.2.2.1 (by decide)), (Ce.up hM.2.2.2.2.2.2.2.2.1 (by decide)), (Ce.up hM.2.2.2.2.2.2.2.2.2.1 (by decide)), (Ce.up hM.2.2.2.2.2.2.2.2.2.2.1 (by decide)), (Ce.up hM.2.2.2.2.2.2.2.2.2.2.2.1 (by decide)), (Ce.up hM.2.2.2.2.2.2.2.2.2.2.2.2.1 (by decide)), (Ce.up hM.2.2.2.2.2.2.2.2.2.2.2.2.2.1 (by decide)), (Ce.up hM.2.2.2.2.2.2.2.2.2.2.2.2.2.2.1 (by decide)), (Ce.up hM.2.2.2.2.2.2.2.2.2.2.2.2.2.2.2.1 (by decide)), (Ce.up hM.2.2.2.2.2.2.2.2.2.2.2.2.2.2.2.2.1 (by decide)), (Ce.up hM.2.2.2.2.2.2.2.2.2.2.2.2.2.2.2.2.2.1 (by decide)), (Ce.up hM.2.2.2.2.2.2.2.2.2.2.2.2.2.2.2.2.2.2.1 (by decide)), (Ce.up hM.2.2.2.2.2.2.2.2.2.2.2.2.2.2.2.2.2.2.2.1 (by decide)), (Ce.up hM.2.2.2.2.2.2.2.2.2.2.2.2.2.2.2.2.2.2.2.2.1 (by decide)), (Ce.up hM.2.2.2.2.2.2.2.2.2.2.2.2.2.2.2.2.2.2.2.2.2 (by decide))⟩
        have hf1 : Fr g (va_up g 291 (xJ S 24 (swZ z.1 k z.2.2.2.2.2.2.2.2.2.2.2.1 a))) 286 308 := (Fr.rf.up (by omega) (by omega))
        refine r_callV (pc := 58) C dX8_shift_58 cv_RX8_133 (c_X8_store hM1 hN t ht) ⟨rfl, rfl, by decide, by decide⟩ (Ce.up hM.1 (by decide)) rfl rfl (Nat.le_of_ble_eq_true rfl) ⟨Nat.zero_le _, Nat.zero_le _⟩ ?_
        rintro _ g2 ⟨_, rfl, rfl, hM2, hF2⟩
        show G M S E (0, 0) g2 61 [some (.ref (E.1 286)), some (.int (nI t)), some (.int (nI a)), some (.int (nI k))] [.int (stV (s_f1 z (swZ z.1 k z.2.2.2.2.2.2.2.2.2.2.2.1 a)))]
        exact r_iret (pc := 61) C Z dX8_shift_61 rfl (by rw [show qShi z (nI t) (nI a) (nI k) = sto z (swZ z.1 k z.2.2.2.2.2.2.2.2.2.2.2.1 a) t by simp only [qShi, h4, h11, h26, iN_nI (show t < 2 ^ 31 by omega), iN_nI (show a < 2 ^ 31 by omega), iN_nI hk, cond_true, cond_false, if_true, if_false, not_true_eq_false, not_false_eq_true, ↓reduceIte]]; exact ⟨rfl, hM2, hf1.tr hF2 (by omega) (by omega)⟩)
      · have h26 := b_f h26
        refine r_iconst (pc := 29) (v := (-1)) C dX8_shift_29 (by decide +kernel) ?_
        exact r_iret (pc := 30) C Z dX8_shift_30 rfl (by rw [show qShi z (nI t) (nI a) p = (-1, z) by simp only [qShi, h4, h11, h26, iN_nI (show t < 2 ^ 31 by omega), iN_nI (show a < 2 ^ 31 by omega), cond_true, cond_false, if_true, if_false, not_true_eq_false, not_false_eq_true, ↓reduceIte]]; exact ⟨rfl, hM, Fr.rf⟩)
    · have h11 := b_f h11
      refine r_bipush (pc := 14) (v := (-2)) C dX8_shift_14 (by decide +kernel) ?_
      exact r_iret (pc := 16) C Z dX8_shift_16 rfl (by rw [show qShi z x y p = (-2, z) by simp only [qShi, h4, h11, cond_true, cond_false, if_true, if_false, not_true_eq_false, not_false_eq_true, ↓reduceIte]]; exact ⟨rfl, hM, Fr.rf⟩)
set_option maxHeartbeats 4000000 in
set_option maxRecDepth 100000 in
theorem c_X8_firstDifference {S : ST} {E : ET} {g : Nat → va_E} {z : MZ} (hM : MC S E g z) (h4 : 4 ≤ z.1) (hN : z.1 ≤ 24) (x y : Int32) : CtI S E yX8_firstDifference cX8_firstDifference 4 (Option.some FieldType.int) rmX8_firstDifference [.ref (E.1 286), .int x, .int y] g (fun u g' => u = qDif z x y ∧ g = g') := by
  refine Ct.of RX8 (by decide +kernel) rfl (Nat.le_of_ble_eq_true rfl) (fun M C Z => ?_)
  refine G.eq (pc' := 0) (vs' := [some (.ref (E.1 286)), some (.int x), some (.int y), none]) (st' := []) ?_
  refine r_iload_n (pc := 0) C dX8_firstDifference_0 rfl ?_
  refine r_callS (pc := 1) C dX8_firstDifference_1 cs_RX8_112 (c_X8_isRegister x) ⟨rfl, rfl, by decide, by decide⟩ rfl rfl (Nat.le_of_ble_eq_true rfl) ⟨Nat.zero_le _, Nat.zero_le _⟩ ?_
  rintro _ _ ⟨_, rfl, rfl, rfl⟩
  show G M S E (0, 0) g 4 [some (.ref (E.1 286)), some (.int x), some (.int y), none] [.int (b2i (hix 6 x))]
  refine r_if_eq (pc := 4) (tgt := 14) C dX8_firstDifference_4 (by decide) (fun h4 => ?_) (fun h4 => ?_)
  · have h4 := b_f h4
    refine r_bipush (pc := 14) (v := (-2)) C dX8_firstDifference_14 (by decide +kernel) ?_
    exact r_iret (pc := 16) C Z dX8_firstDifference_16 rfl (by rw [show qDif z x y = -2 by simp only [qDif, h4, cond_true, cond_false, if_true, if_false, not_true_eq_false, not_false_eq_true, ↓reduceIte]]; exact ⟨rfl, rfl⟩)
  · have h4 := b_t h4
    refine r_iload_n (pc := 7) C dX8_firstDifference_7 rfl ?_
    refine r_callS (pc := 8) C dX8_firstDifference_8 cs_RX8_112 (c_X8_isRegister y) ⟨rfl, rfl, by decide, by decide⟩ rfl rfl (Nat.le_of_ble_eq_true rfl) ⟨Nat.zero_le _, Nat.zero_le _⟩ ?_
    rintro _ _ ⟨_, rfl, rfl, rfl⟩
    show G M S E (0, 0) g 11 [some (.ref (E.1 286)), some (.int x), some (.int y), none] [.int (b2i (hix 6 y))]
    refine r_if_ne (pc := 11) (tgt := 17) C dX8_firstDifference_11 (by decide) (fun h11 => ?_) (fun h11 => ?_)
    · have h11 := b_t h11
      obtain ⟨t, rfl, ht⟩ := hix_nat h4 (by omega)
      obtain ⟨a, rfl, ha⟩ := hix_nat h11 (by omega)
      refine r_iconst (pc := 17) (v := nI 0) C dX8_firstDifference_17 (by decide +kernel) ?_
      refine r_istore_n (pc := 18) C dX8_firstDifference_18 (by decide) ?_
      refine G.eq (pc' := 19) (vs' := [some (.ref (E.1 286)), some (.int (nI t)), some (.int (nI a)), some (.int (nI 0))]) (st' := []) ?_
      refine bk (P := fun t2 => (∀ j : Nat, j < t2 → (fun k => decide (¬ z.2.2.2.2.2.2.2.2.2.2.2.1 (24 * t + k) = z.2.2.2.2.2.2.2.2.2.2.2.1 (24 * a + k))) j = false) → G M S E (0, 0) g 19 [some (.ref (E.1 286)), some (.int (nI t)), some (.int (nI a)), some (.int (nI t2))] []) (T := z.1) (fun hh => ?_) (fun t2 ht ih hh => ?_) (fun j hj => absurd hj (Nat.not_lt_zero j))
      · show G M S E (0, 0) g 19 [some (.ref (E.1 286)), some (.int (nI t)), some (.int (nI a)), some (.int (nI z.1))] []
        refine r_iload_n (pc := 19) C dX8_firstDifference_19 rfl ?_
        refine r_aload_n (pc := 20) C dX8_firstDifference_20 rfl ?_
        refine r_getf (pc := 21) C dX8_firstDifference_21 fl_RX8_17 hM.1 rfl ?_
        refine r_icmp_ge (pc := 24) (tgt := 61) C dX8_firstDifference_24 (by decide) (fun h24 => ?_) (fun h24 => ?_)
        · have h24 := c_le (by omega) (by omega) h24
          refine r_bipush (pc := 61) (v := (-7)) C dX8_firstDifference_61 (by decide +kernel) ?_
          exact r_iret (pc := 63) C Z dX8_firstDifference_63 rfl (⟨by rw [show qDif z (nI t) (nI a) = fd (fun k => decide (¬ z.2.2.2.2.2.2.2.2.2.2.2.1 (24 * t + k) = z.2.2.2.2.2.2.2.2.2.2.2.1 (24 * a + k))) (-7) z.1 0 by simp only [qDif, h4, h11, cond_true, iN_nI (show t < 2 ^ 31 by omega), iN_nI (show a < 2 ^ 31 by omega)]]; exact (fd_none (fun j _ hj => hh j (by omega))).symm, rfl⟩)
        · have h24 := c_nle (by omega) (by omega) h24
          omega
      · show G M S E (0, 0) g 19 [some (.ref (E.1 286)), some (.int (nI t)), some (.int (nI a)), some (.int (nI t2))] []
        refine r_iload_n (pc := 19) C dX8_firstDifference_19 rfl ?_
        refine r_aload_n (pc := 20) C dX8_firstDifference_20 rfl ?_
        refine r_getf (pc := 21) C dX8_firstDifference_21 fl_RX8_17 hM.1 rfl ?_
        refine r_icmp_ge (pc := 24) (tgt := 61) C dX8_firstDifference_24 (by decide) (fun h24 => ?_) (fun h24 => ?_)
        · have h24 := c_le (by omega) (by omega) h24
          omega
        · have h24 := c_nle (by omega) (by omega) h24
          refine r_aload_n (pc := 27) C dX8_firstDifference_27 rfl ?_
          refine r_getf (pc := 28) C dX8_firstDifference_28 fl_RX8_21 hM.1 rfl ?_
          refine r_bipush (pc := 31) (v := nI 24) C dX8_firstDifference_31 (by decide +kernel) ?_
          refine r_iload_n (pc := 33) C dX8_firstDifference_33 rfl ?_
          refine r_imul (pc := 34) C dX8_firstDifference_34 ?_
          refine r_ti (nI (24 * t)) (pk_mul _ _) ?_
          refine r_iload_n (pc := 35) C dX8_firstDifference_35 rfl ?_
          refine r_iadd (pc := 36) C dX8_firstDifference_36 ?_
          refine r_ti (nI (24 * t + t2)) (nI_add _ _) ?_
          refine r_lald (pc := 37) C dX8_firstDifference_37 hM.2.1 rfl (by omega) (by omega) ?_
          refine r_aload_n (pc := 38) C dX8_firstDifference_38 rfl ?_
          refine r_getf (pc := 39) C dX8_firstDifference_39 fl_RX8_21 hM.1 rfl ?_
          refine r_bipush (pc := 42) (v := nI 24) C dX8_firstDifference_42 (by decide +kernel) ?_
          refine r_iload_n (pc := 44) C dX8_firstDifference_44 rfl ?_
          refine r_imul (pc := 45) C dX8_firstDifference_45 ?_
          refine r_ti (nI (24 * a)) (pk_mul _ _) ?_
          refine r_iload_n (pc := 46) C dX8_firstDifference_46 rfl ?_
          refine r_iadd (pc := 47) C dX8_firstDifference_47 ?_
          refine r_ti (nI (24 * a + t2)) (nI_add _ _) ?_
          refine r_lald (pc := 48) C dX8_firstDifference_48 hM.2.1 rfl (by omega) (by omega) ?_
          refine r_lcmp (pc := 49) C dX8_firstDifference_49 ?_
          refine r_if_eq (pc := 50) (tgt := 55) C dX8_firstDifference_50 (by decide) (fun h50 => ?_) (fun h50 => ?_)
          · have h50 := k_eq h50
            refine r_iinc (pc := 55) (v := nI (t2 + 1)) C dX8_firstDifference_55 rfl (nI_i1 _) (by decide) ?_
            refine G.eq (pc' := 58) (vs' := [some (.ref (E.1 286)), some (.int (nI t)), some (.int (nI a)), some (.int (nI (t2 + 1)))]) (st' := []) ?_
            refine r_goto (pc := 58) (tgt := 19) C dX8_firstDifference_58 (by decide) ?_
            exact (ih (lt_s hh (decide_eq_false (fun q => q h50))))
          · have h50 := k_ne h50
            refine r_iload_n (pc := 53) C dX8_firstDifference_53 rfl ?_
            exact r_iret (pc := 54) C Z dX8_firstDifference_54 rfl (⟨by rw [show qDif z (nI t) (nI a) = fd (fun k => decide (¬ z.2.2.2.2.2.2.2.2.2.2.2.1 (24 * t + k) = z.2.2.2.2.2.2.2.2.2.2.2.1 (24 * a + k))) (-7) z.1 0 by simp only [qDif, h4, h11, cond_true, iN_nI (show t < 2 ^ 31 by omega), iN_nI (show a < 2 ^ 31 by omega)]]; exact (fd_first (p := (fun k => decide (¬ z.2.2.2.2.2.2.2.2.2.2.2.1 (24 * t + k) = z.2.2.2.2.2.2.2.2.2.2.2.1 (24 * a + k)))) (fun j _ hj => hh j hj) (decide_eq_true h50) (Nat.zero_le _) (by omega)).symm, rfl⟩)
    · have h11 := b_f h11
      refine r_bipush (pc := 14) (v := (-2)) C dX8_firstDifference_14 (by decide +kernel) ?_
      exact r_iret (pc := 16) C Z dX8_firstDifference_16 rfl (by rw [show qDif z x y = -2 by simp only [qDif, h4, h11, cond_true, cond_false, if_true, if_false, not_true_eq_false, not_false_eq_true, ↓reduceIte]]; exact ⟨rfl, rfl⟩)
set_option maxHeartbeats 4000000 in
set_option maxRecDepth 100000 in
theorem c_X8_valueAt {S : ST} {E : ET} {g : Nat → va_E} {z : MZ} (hM : MC S E g z) (h4 : 4 ≤ z.1) (hN : z.1 ≤ 24) (x y : Int32) : CtI S E yX8_valueAt cX8_valueAt 6 (Option.some FieldType.int) rmX8_valueAt [.ref (E.1 286), .int x, .int y] g (fun u g' => u = qVal z x y ∧ g = g') := by
  refine Ct.of RX8 (by decide +kernel) rfl (Nat.le_of_ble_eq_true rfl) (fun M C Z => ?_)
  refine G.eq (pc' := 0) (vs' := [some (.ref (E.1 286)), some (.int x), some (.int y), none, none, none]) (st' := []) ?_
  refine r_iload_n (pc := 0) C dX8_valueAt_0 rfl ?_
  refine r_callS (pc := 1) C dX8_valueAt_1 cs_RX8_112 (c_X8_isRegister x) ⟨rfl, rfl, by decide, by decide⟩ rfl rfl (Nat.le_of_ble_eq_true rfl) ⟨Nat.zero_le _, Nat.zero_le _⟩ ?_
  rintro _ _ ⟨_, rfl, rfl, rfl⟩
  show G M S E (0, 0) g 4 [some (.ref (E.1 286)), some (.int x), some (.int y), none, none, none] [.int (b2i (hix 6 x))]
  refine r_if_ne (pc := 4) (tgt := 10) C dX8_valueAt_4 (by decide) (fun h4 => ?_) (fun h4 => ?_)
  · have h4 := b_t h4
    obtain ⟨a, rfl, ha⟩ := hix_nat h4 (by omega)
    refine r_lconst (pc := 10) (v := 0) C dX8_valueAt_10 rfl ?_
    refine r_lstore_n (pc := 11) C dX8_valueAt_11 (by decide) ?_
    refine G.eq (pc' := 12) (vs' := [some (.ref (E.1 286)), some (.int (nI a)), some (.int y), some (.long 0), none, none]) (st' := []) ?_
    refine r_aload_n (pc := 12) C dX8_valueAt_12 rfl ?_
    refine r_getf (pc := 13) C dX8_valueAt_13 fl_RX8_17 hM.1 rfl ?_
    refine r_iconst (pc := 16) (v := nI 1) C dX8_valueAt_16 (by decide +kernel) ?_
    refine r_isub (pc := 17) C dX8_valueAt_17 ?_
    refine r_ti (mI z.1) rfl ?_
    refine r_istore (pc := 18) C dX8_valueAt_18 (by decide) ?_
    refine G.eq (pc' := 20) (vs' := [some (.ref (E.1 286)), some (.int (nI a)), some (.int y), some (.long 0), none, some (.int (mI z.1))]) (st' := []) ?_
    refine bk (P := fun t2 => G M S E (0, 0) g 20 [some (.ref (E.1 286)), some (.int (nI a)), some (.int y), some (.long (vaZ z.1 z.2.2.2.2.2.2.2.2.2.2.2.1 a y t2)), none, some (.int (mI (z.1 - t2)))] []) (T := z.1) ?_ (fun t2 ht ih => ?_)
    · show G M S E (0, 0) g 20 [some (.ref (E.1 286)), some (.int (nI a)), some (.int y), some (.long (vaZ z.1 z.2.2.2.2.2.2.2.2.2.2.2.1 a y z.1)), none, some (.int (mI (z.1 - z.1)))] []
      refine r_iload (pc := 20) C dX8_valueAt_20 rfl ?_
      refine r_if_lt (pc := 22) (tgt := 55) C dX8_valueAt_22 (by decide) (fun h22 => ?_) (fun h22 => ?_)
      · have h22 := m_lt0 (by omega) h22
        refine r_lload_n (pc := 55) C dX8_valueAt_55 rfl ?_
        refine r_l2i (pc := 56) C dX8_valueAt_56 ?_
        exact r_iret (pc := 57) C Z dX8_valueAt_57 rfl (by rw [show qVal z (nI a) y = (vaZ z.1 z.2.2.2.2.2.2.2.2.2.2.2.1 a y z.1).toInt32 by simp only [qVal, h4, iN_nI (show a < 2 ^ 31 by omega), cond_true, cond_false, if_true, if_false, not_true_eq_false, not_false_eq_true, ↓reduceIte]]; exact ⟨rfl, rfl⟩)
      · have h22 := m_nlt0 (by omega) h22
        omega
    · show G M S E (0, 0) g 20 [some (.ref (E.1 286)), some (.int (nI a)), some (.int y), some (.long (vaZ z.1 z.2.2.2.2.2.2.2.2.2.2.2.1 a y t2)), none, some (.int (mI (z.1 - t2)))] []
      refine r_iload (pc := 20) C dX8_valueAt_20 rfl ?_
      refine r_if_lt (pc := 22) (tgt := 55) C dX8_valueAt_22 (by decide) (fun h22 => ?_) (fun h22 => ?_)
      · have h22 := m_lt0 (by omega) h22
        omega
      · have h22 := m_nlt0 (by omega) h22
        rw [show z.1 - t2 = z.1 - t2 - 1 + 1 by omega, mI_s]
        refine r_lload_n (pc := 25) C dX8_valueAt_25 rfl ?_
        refine r_iload_n (pc := 26) C dX8_valueAt_26 rfl ?_
        refine r_i2l (pc := 27) C dX8_valueAt_27 ?_
        refine r_callS (pc := 28) C dX8_valueAt_28 cs_RX8_165 (c_X8_remainder (y.toInt64)) ⟨rfl, rfl, by decide, by decide⟩ rfl rfl (Nat.le_of_ble_eq_true rfl) ⟨Nat.zero_le _, Nat.zero_le _⟩ ?_
        rintro _ _ ⟨_, rfl, rfl, rfl⟩
        show G M S E (0, 0) g 31 [some (.ref (E.1 286)), some (.int (nI a)), some (.int y), some (.long (vaZ z.1 z.2.2.2.2.2.2.2.2.2.2.2.1 a y t2)), none, some (.int (nI (z.1 - t2 - 1)))] [.long (rmL (y.toInt64)), .long (vaZ z.1 z.2.2.2.2.2.2.2.2.2.2.2.1 a y t2)]
        refine r_lmul (pc := 31) C dX8_valueAt_31 ?_
        refine r_aload_n (pc := 32) C dX8_valueAt_32 rfl ?_
        refine r_getf (pc := 33) C dX8_valueAt_33 fl_RX8_21 hM.1 rfl ?_
        refine r_bipush (pc := 36) (v := nI 24) C dX8_valueAt_36 (by decide +kernel) ?_
        refine r_iload_n (pc := 38) C dX8_valueAt_38 rfl ?_
        refine r_imul (pc := 39) C dX8_valueAt_39 ?_
        refine r_ti (nI (24 * a)) (pk_mul _ _) ?_
        refine r_iload (pc := 40) C dX8_valueAt_40 rfl ?_
        refine r_iadd (pc := 42) C dX8_valueAt_42 ?_
        refine r_ti (nI (24 * a + (z.1 - t2 - 1))) (nI_add _ _) ?_
        refine r_lald (pc := 43) C dX8_valueAt_43 hM.2.1 rfl (by omega) (by omega) ?_
        refine r_ladd (pc := 44) C dX8_valueAt_44 ?_
        refine r_callS (pc := 45) C dX8_valueAt_45 cs_RX8_165 (c_X8_remainder (vaZ z.1 z.2.2.2.2.2.2.2.2.2.2.2.1 a y t2 * rmL y.toInt64 + z.2.2.2.2.2.2.2.2.2.2.2.1 (24 * a + (z.1 - t2 - 1)))) ⟨rfl, rfl, by decide, by decide⟩ rfl rfl (Nat.le_of_ble_eq_true rfl) ⟨Nat.zero_le _, Nat.zero_le _⟩ ?_
        rintro _ _ ⟨_, rfl, rfl, rfl⟩
        show G M S E (0, 0) g 48 [some (.ref (E.1 286)), some (.int (nI a)), some (.int y), some (.long (vaZ z.1 z.2.2.2.2.2.2.2.2.2.2.2.1 a y t2)), none, some (.int (nI (z.1 - t2 - 1)))] [.long (rmL (vaZ z.1 z.2.2.2.2.2.2.2.2.2.2.2.1 a y t2 * rmL y.toInt64 + z.2.2.2.2.2.2.2.2.2.2.2.1 (24 * a + (z.1 - t2 - 1))))]
        refine r_lstore_n (pc := 48) C dX8_valueAt_48 (by decide) ?_
        refine G.eq (pc' := 49) (vs' := [some (.ref (E.1 286)), some (.int (nI a)), some (.int y), some (.long (rmL (vaZ z.1 z.2.2.2.2.2.2.2.2.2.2.2.1 a y t2 * rmL y.toInt64 + z.2.2.2.2.2.2.2.2.2.2.2.1 (24 * a + (z.1 - t2 - 1))))), none, some (.int (nI (z.1 - t2 - 1)))]) (st' := []) ?_
        refine r_iinc (pc := 49) (v := mI (z.1 - t2 - 1)) C dX8_valueAt_49 rfl (nI_m1 _) (by decide) ?_
        refine G.eq (pc' := 52) (vs' := [some (.ref (E.1 286)), some (.int (nI a)), some (.int y), some (.long (rmL (vaZ z.1 z.2.2.2.2.2.2.2.2.2.2.2.1 a y t2 * rmL y.toInt64 + z.2.2.2.2.2.2.2.2.2.2.2.1 (24 * a + (z.1 - t2 - 1))))), none, some (.int (mI (z.1 - t2 - 1)))]) (st' := []) ?_
        refine r_goto (pc := 52) (tgt := 20) C dX8_valueAt_52 (by decide) ?_
        rw [vaZ_s] at ih
        exact ih
  · have h4 := b_f h4
    refine r_bipush (pc := 7) (v := (-2)) C dX8_valueAt_7 (by decide +kernel) ?_
    exact r_iret (pc := 9) C Z dX8_valueAt_9 rfl (by rw [show qVal z x y = -2 by simp only [qVal, h4, cond_true, cond_false, if_true, if_false, not_true_eq_false, not_false_eq_true, ↓reduceIte]]; exact ⟨rfl, rfl⟩)
set_option maxHeartbeats 4000000 in
set_option maxRecDepth 100000 in
theorem c_X8_copySeries_288 {S : ST} {E : ET} {g : Nat → va_E} {z : MZ} (hM : MC S E g z) (h4 : 4 ≤ z.1) (hN : z.1 ≤ 24) (x y : Int32) : CtI S E yX8_copySeries cX8_copySeries 4 (Option.some FieldType.int) rmX8_copySeries [.ref (E.1 286), .ref (E.1 288), .int x, .int y] g (fun u g' => u = (qCpy z z.2.2.2.2.2.2.2.2.2.2.2.2.1 x y).1 ∧ MC S E g' (qCpy z z.2.2.2.2.2.2.2.2.2.2.2.2.1 x y).2 ∧ Fr g g' 286 308) := by
  refine Ct.of RX8 (by decide +kernel) rfl (Nat.le_of_ble_eq_true rfl) (fun M C Z => ?_)
  refine G.eq (pc' := 0) (vs' := [some (.ref (E.1 286)), some (.ref (E.1 288)), some (.int x), some (.int y)]) (st' := []) ?_
  refine r_iload_n (pc := 0) C dX8_copySeries_0 rfl ?_
  refine r_callS (pc := 1) C dX8_copySeries_1 cs_RX8_112 (c_X8_isRegister x) ⟨rfl, rfl, by decide, by decide⟩ rfl rfl (Nat.le_of_ble_eq_true rfl) ⟨Nat.zero_le _, Nat.zero_le _⟩ ?_
  rintro _ _ ⟨_, rfl, rfl, rfl⟩
  show G M S E (0, 0) g 4 [some (.ref (E.1 286)), some (.ref (E.1 288)), some (.int x), some (.int y)] [.int (b2i (hix 6 x))]
  refine r_if_ne (pc := 4) (tgt := 10) C dX8_copySeries_4 (by decide) (fun h4 => ?_) (fun h4 => ?_)
  · have h4 := b_t h4
    refine r_iload_n (pc := 10) C dX8_copySeries_10 rfl ?_
    refine r_i2l (pc := 11) C dX8_copySeries_11 ?_
    refine r_lconst (pc := 12) (v := 0) C dX8_copySeries_12 rfl ?_
    refine r_ldc2 (pc := 13) C dX8_copySeries_13 qK_RX8_105 ?_
    refine r_callS (pc := 16) C dX8_copySeries_16 cs_RX8_7 (c_X8_isBetween y.toInt64 0 4) ⟨rfl, rfl, by decide, by decide⟩ rfl rfl (Nat.le_of_ble_eq_true rfl) ⟨Nat.zero_le _, Nat.zero_le _⟩ ?_
    rintro _ _ ⟨_, rfl, rfl, rfl⟩
    show G M S E (0, 0) g 19 [some (.ref (E.1 286)), some (.ref (E.1 288)), some (.int x), some (.int y)] [.int (b2i (btw y.toInt64 0 4))]
    refine r_if_ne (pc := 19) (tgt := 24) C dX8_copySeries_19 (by decide) (fun h19 => ?_) (fun h19 => ?_)
    · have h19 := b_t h19
      obtain ⟨t, rfl, ht⟩ := hix_nat h4 (by omega)
      obtain ⟨k, rfl, hk0, hk1, hk⟩ := btw_nat (p := 0) (q := 4) h19 (by decide) (by decide)
      refine r_aload_n (pc := 24) C dX8_copySeries_24 rfl ?_
      refine r_aload_n (pc := 25) C dX8_copySeries_25 rfl ?_
      refine r_bipush (pc := 26) (v := nI 24) C dX8_copySeries_26 (by decide +kernel) ?_
      refine r_iload_n (pc := 28) C dX8_copySeries_28 rfl ?_
      refine r_imul (pc := 29) C dX8_copySeries_29 ?_
      refine r_ti (nI (24 * k)) (pk_mul _ _) ?_
      refine r_aload_n (pc := 30) C dX8_copySeries_30 rfl ?_
      refine r_getf (pc := 31) C dX8_copySeries_31 fl_RX8_34 hM.1 rfl ?_
      refine r_callV (pc := 34) C dX8_copySeries_34 cv_RX8_129 (c_X8_load hM.1 rfl hN hM.2.2.2.2.2.1 (by decide) hM.2.2.1 (by decide) (24 * k) (by omega) (by decide)) ⟨rfl, rfl, by decide, by decide⟩ hM.1 rfl rfl (Nat.le_of_ble_eq_true rfl) ⟨Nat.zero_le _, Nat.zero_le _⟩ ?_
      rintro _ _ ⟨rfl, rfl⟩
      show G M S E (0, 0) (va_up g 291 (xJ S 24 (ldF z.1 z.2.2.2.2.2.2.2.2.2.2.2.2.1 (24 * k)))) 37 [some (.ref (E.1 286)), some (.ref (E.1 288)), some (.int (nI t)), some (.int (nI k))] []
      refine r_aload_n (pc := 37) C dX8_copySeries_37 rfl ?_
      refine r_iload_n (pc := 38) C dX8_copySeries_38 rfl ?_
      have hM1 : MC S E (va_up g 291 (xJ S 24 (ldF z.1 z.2.2.2.2.2.2.2.2.2.2.2.2.1 (24 * k)))) (s_f1 z (ldF z.1 z.2.2.2.2.2.2.2.2.2.2.2.2.1 (24 * k))) := ⟨(Ce.up hM.1 (by decide)), (Ce.up hM.2.1 (by decide)), (Ce.up hM.2.2.1 (by decide)), (Ce.up hM.2.2.2.1 (by decide)), (Ce.up hM.2.2.2.2.1 (by decide)), (Ce.new hM.2.2.2.2.2.1), (Ce.up hM.2.2.2.2.2.2.1 (by decide)), (Ce.up hM.2.2.2.2.2.2.2.1 (by decide)), (Ce.up hM.2.2.2.2.2.2.2.2.1 (by decide)), (Ce.up hM.2.2.2.2.2.2.2.2.2.1 (by decide)), (Ce.up hM.2.2.2.2.2.2.2.2.2.2.1 (by decide)), (Ce.up hM.2.2.2.2.2.2.2.2.2.2.2.1 (by decide)), (Ce.up hM.2.2.2.2.2.2.2.2.2.2.2.2.1 (by decide)), (Ce.up hM.2.2.2.2.2.2.2.2.2.2.2.2.2.1 (by decide)), (Ce.up hM.2.2.2.2.2.2.2.2.2.2.2.2.2.2.1 (by decide)), (Ce.up hM.2.2.2.2.2.2.2.2.2.2.2.2.2.2.2.1 (by decide)), (Ce.up hM.2.2.2.2.2.2.2.2.2.2.2.2.2.2.2.2.1 (by decide)), (Ce.up hM.2.2.2.2.2.2.2.2.2.2.2.2.2.2.2.2.2.1 (by decide)), (Ce.up hM.2.2.2.2.2.2.2.2.2.2.2.2.2.2.2.2.2.2.1 (by decide)), (Ce.up hM.2.2.2.2.2.2.2.2.2.2.2.2.2.2.2.2.2.2.2.1 (by decide)), (Ce.up hM.2.2.2.2.2.2.2.2.2.2.2.2.2.2.2.2.2.2.2.2.1 (by decide)), (Ce.up hM.2.2.2.2.2.2.2.2.2.2.2.2.2.2.2.2.2.2.2.2.2 (by decide))⟩
      have hf1 : Fr g (va_up g 291 (xJ S 24 (ldF z.1 z.2.2.2.2.2.2.2.2.2.2.2.2.1 (24 * k)))) 286 308 := (Fr.rf.up (by omega) (by omega))
      refine r_callV (pc := 39) C dX8_copySeries_39 cv_RX8_133 (c_X8_store hM1 hN t ht) ⟨rfl, rfl, by decide, by decide⟩ (Ce.up hM.1 (by decide)) rfl rfl (Nat.le_of_ble_eq_true rfl) ⟨Nat.zero_le _, Nat.zero_le _⟩ ?_
      rintro _ g2 ⟨_, rfl, rfl, hM2, hF2⟩
      show G M S E (0, 0) g2 42 [some (.ref (E.1 286)), some (.ref (E.1 288)), some (.int (nI t)), some (.int (nI k))] [.int (stV (s_f1 z (ldF z.1 z.2.2.2.2.2.2.2.2.2.2.2.2.1 (24 * k))))]
      exact r_iret (pc := 42) C Z dX8_copySeries_42 rfl (by rw [show qCpy z z.2.2.2.2.2.2.2.2.2.2.2.2.1 (nI t) (nI k) = sto z (ldF z.1 z.2.2.2.2.2.2.2.2.2.2.2.2.1 (24 * k)) t by simp only [qCpy, h4, h19, iN_nI (show t < 2 ^ 31 by omega), iN_nI hk, cond_true, cond_false, if_true, if_false, not_true_eq_false, not_false_eq_true, ↓reduceIte]]; exact ⟨rfl, hM2, hf1.tr hF2 (by omega) (by omega)⟩)
    · have h19 := b_f h19
      refine r_iconst (pc := 22) (v := (-1)) C dX8_copySeries_22 (by decide +kernel) ?_
      exact r_iret (pc := 23) C Z dX8_copySeries_23 rfl (by rw [show qCpy z z.2.2.2.2.2.2.2.2.2.2.2.2.1 x y = (-1, z) by simp only [qCpy, h4, h19, cond_true, cond_false, if_true, if_false, not_true_eq_false, not_false_eq_true, ↓reduceIte]]; exact ⟨rfl, hM, Fr.rf⟩)
  · have h4 := b_f h4
    refine r_bipush (pc := 7) (v := (-2)) C dX8_copySeries_7 (by decide +kernel) ?_
    exact r_iret (pc := 9) C Z dX8_copySeries_9 rfl (by rw [show qCpy z z.2.2.2.2.2.2.2.2.2.2.2.2.1 x y = (-2, z) by simp only [qCpy, h4, cond_true, cond_false, if_true, if_false, not_true_eq_false, not_false_eq_true, ↓reduceIte]]; exact ⟨rfl, hM, Fr.rf⟩)
set_option maxHeartbeats 4000000 in
set_option maxRecDepth 100000 in
theorem c_X8_copyAlpha {S : ST} {E : ET} {g : Nat → va_E} {z : MZ} (hM : MC S E g z) (h4 : 4 ≤ z.1) (hN : z.1 ≤ 24) (x y : Int32) : CtI S E yX8_copyAlpha cX8_copyAlpha 3 (Option.some FieldType.int) rmX8_copyAlpha [.ref (E.1 286), .int x, .int y] g (fun u g' => u = (qCpy z z.2.2.2.2.2.2.2.2.2.2.2.2.1 x y).1 ∧ MC S E g' (qCpy z z.2.2.2.2.2.2.2.2.2.2.2.2.1 x y).2 ∧ Fr g g' 286 308) := by
  refine Ct.of RX8 (by decide +kernel) rfl (Nat.le_of_ble_eq_true rfl) (fun M C Z => ?_)
  refine G.eq (pc' := 0) (vs' := [some (.ref (E.1 286)), some (.int x), some (.int y)]) (st' := []) ?_
  refine r_aload_n (pc := 0) C dX8_copyAlpha_0 rfl ?_
  refine r_aload_n (pc := 1) C dX8_copyAlpha_1 rfl ?_
  refine r_getf (pc := 2) C dX8_copyAlpha_2 fl_RX8_25 hM.1 rfl ?_
  refine r_iload_n (pc := 5) C dX8_copyAlpha_5 rfl ?_
  refine r_iload_n (pc := 6) C dX8_copyAlpha_6 rfl ?_
  refine r_callV (pc := 7) C dX8_copyAlpha_7 cv_RX8_216 (c_X8_copySeries_288 hM h4 hN x y) ⟨rfl, rfl, by decide, by decide⟩ hM.1 rfl rfl (Nat.le_of_ble_eq_true rfl) ⟨Nat.zero_le _, Nat.zero_le _⟩ ?_
  rintro _ g2 ⟨_, rfl, rfl, hM2, hF2⟩
  show G M S E (0, 0) g2 10 [some (.ref (E.1 286)), some (.int x), some (.int y)] [.int ((qCpy z z.2.2.2.2.2.2.2.2.2.2.2.2.1 x y).1)]
  exact r_iret (pc := 10) C Z dX8_copyAlpha_10 rfl (⟨rfl, hM2, hF2⟩)
set_option maxHeartbeats 4000000 in
set_option maxRecDepth 100000 in
theorem c_X8_copySeries_289 {S : ST} {E : ET} {g : Nat → va_E} {z : MZ} (hM : MC S E g z) (h4 : 4 ≤ z.1) (hN : z.1 ≤ 24) (x y : Int32) : CtI S E yX8_copySeries cX8_copySeries 4 (Option.some FieldType.int) rmX8_copySeries [.ref (E.1 286), .ref (E.1 289), .int x, .int y] g (fun u g' => u = (qCpy z z.2.2.2.2.2.2.2.2.2.2.2.2.2.1 x y).1 ∧ MC S E g' (qCpy z z.2.2.2.2.2.2.2.2.2.2.2.2.2.1 x y).2 ∧ Fr g g' 286 308) := by
  refine Ct.of RX8 (by decide +kernel) rfl (Nat.le_of_ble_eq_true rfl) (fun M C Z => ?_)
  refine G.eq (pc' := 0) (vs' := [some (.ref (E.1 286)), some (.ref (E.1 289)), some (.int x), some (.int y)]) (st' := []) ?_
  refine r_iload_n (pc := 0) C dX8_copySeries_0 rfl ?_
  refine r_callS (pc := 1) C dX8_copySeries_1 cs_RX8_112 (c_X8_isRegister x) ⟨rfl, rfl, by decide, by decide⟩ rfl rfl (Nat.le_of_ble_eq_true rfl) ⟨Nat.zero_le _, Nat.zero_le _⟩ ?_
  rintro _ _ ⟨_, rfl, rfl, rfl⟩
  show G M S E (0, 0) g 4 [some (.ref (E.1 286)), some (.ref (E.1 289)), some (.int x), some (.int y)] [.int (b2i (hix 6 x))]
  refine r_if_ne (pc := 4) (tgt := 10) C dX8_copySeries_4 (by decide) (fun h4 => ?_) (fun h4 => ?_)
  · have h4 := b_t h4
    refine r_iload_n (pc := 10) C dX8_copySeries_10 rfl ?_
    refine r_i2l (pc := 11) C dX8_copySeries_11 ?_
    refine r_lconst (pc := 12) (v := 0) C dX8_copySeries_12 rfl ?_
    refine r_ldc2 (pc := 13) C dX8_copySeries_13 qK_RX8_105 ?_
    refine r_callS (pc := 16) C dX8_copySeries_16 cs_RX8_7 (c_X8_isBetween y.toInt64 0 4) ⟨rfl, rfl, by decide, by decide⟩ rfl rfl (Nat.le_of_ble_eq_true rfl) ⟨Nat.zero_le _, Nat.zero_le _⟩ ?_
    rintro _ _ ⟨_, rfl, rfl, rfl⟩
    show G M S E (0, 0) g 19 [some (.ref (E.1 286)), some (.ref (E.1 289)), some (.int x), some (.int y)] [.int (b2i (btw y.toInt64 0 4))]
    refine r_if_ne (pc := 19) (tgt := 24) C dX8_copySeries_19 (by decide) (fun h19 => ?_) (fun h19 => ?_)
    · have h19 := b_t h19
      obtain ⟨t, rfl, ht⟩ := hix_nat h4 (by omega)
      obtain ⟨k, rfl, hk0, hk1, hk⟩ := btw_nat (p := 0) (q := 4) h19 (by decide) (by decide)
      refine r_aload_n (pc := 24) C dX8_copySeries_24 rfl ?_
      refine r_aload_n (pc := 25) C dX8_copySeries_25 rfl ?_
      refine r_bipush (pc := 26) (v := nI 24) C dX8_copySeries_26 (by decide +kernel) ?_
      refine r_iload_n (pc := 28) C dX8_copySeries_28 rfl ?_
      refine r_imul (pc := 29) C dX8_copySeries_29 ?_
      refine r_ti (nI (24 * k)) (pk_mul _ _) ?_
      refine r_aload_n (pc := 30) C dX8_copySeries_30 rfl ?_
      refine r_getf (pc := 31) C dX8_copySeries_31 fl_RX8_34 hM.1 rfl ?_
      refine r_callV (pc := 34) C dX8_copySeries_34 cv_RX8_129 (c_X8_load hM.1 rfl hN hM.2.2.2.2.2.1 (by decide) hM.2.2.2.1 (by decide) (24 * k) (by omega) (by decide)) ⟨rfl, rfl, by decide, by decide⟩ hM.1 rfl rfl (Nat.le_of_ble_eq_true rfl) ⟨Nat.zero_le _, Nat.zero_le _⟩ ?_
      rintro _ _ ⟨rfl, rfl⟩
      show G M S E (0, 0) (va_up g 291 (xJ S 24 (ldF z.1 z.2.2.2.2.2.2.2.2.2.2.2.2.2.1 (24 * k)))) 37 [some (.ref (E.1 286)), some (.ref (E.1 289)), some (.int (nI t)), some (.int (nI k))] []
      refine r_aload_n (pc := 37) C dX8_copySeries_37 rfl ?_
      refine r_iload_n (pc := 38) C dX8_copySeries_38 rfl ?_
      have hM1 : MC S E (va_up g 291 (xJ S 24 (ldF z.1 z.2.2.2.2.2.2.2.2.2.2.2.2.2.1 (24 * k)))) (s_f1 z (ldF z.1 z.2.2.2.2.2.2.2.2.2.2.2.2.2.1 (24 * k))) := ⟨(Ce.up hM.1 (by decide)), (Ce.up hM.2.1 (by decide)), (Ce.up hM.2.2.1 (by decide)), (Ce.up hM.2.2.2.1 (by decide)), (Ce.up hM.2.2.2.2.1 (by decide)), (Ce.new hM.2.2.2.2.2.1), (Ce.up hM.2.2.2.2.2.2.1 (by decide)), (Ce.up hM.2.2.2.2.2.2.2.1 (by decide)), (Ce.up hM.2.2.2.2.2.2.2.2.1 (by decide)), (Ce.up hM.2.2.2.2.2.2.2.2.2.1 (by decide)), (Ce.up hM.2.2.2.2.2.2.2.2.2.2.1 (by decide)), (Ce.up hM.2.2.2.2.2.2.2.2.2.2.2.1 (by decide)), (Ce.up hM.2.2.2.2.2.2.2.2.2.2.2.2.1 (by decide)), (Ce.up hM.2.2.2.2.2.2.2.2.2.2.2.2.2.1 (by decide)), (Ce.up hM.2.2.2.2.2.2.2.2.2.2.2.2.2.2.1 (by decide)), (Ce.up hM.2.2.2.2.2.2.2.2.2.2.2.2.2.2.2.1 (by decide)), (Ce.up hM.2.2.2.2.2.2.2.2.2.2.2.2.2.2.2.2.1 (by decide)), (Ce.up hM.2.2.2.2.2.2.2.2.2.2.2.2.2.2.2.2.2.1 (by decide)), (Ce.up hM.2.2.2.2.2.2.2.2.2.2.2.2.2.2.2.2.2.2.1 (by decide)), (Ce.up hM.2.2.2.2.2.2.2.2.2.2.2.2.2.2.2.2.2.2.2.1 (by decide)), (Ce.up hM.2.2.2.2.2.2.2.2.2.2.2.2.2.2.2.2.2.2.2.2.1 (by decide)), (Ce.up hM.2.2.2.2.2.2.2.2.2.2.2.2.2.2.2.2.2.2.2.2.2 (by decide))⟩
      have hf1 : Fr g (va_up g 291 (xJ S 24 (ldF z.1 z.2.2.2.2.2.2.2.2.2.2.2.2.2.1 (24 * k)))) 286 308 := (Fr.rf.up (by omega) (by omega))
      refine r_callV (pc := 39) C dX8_copySeries_39 cv_RX8_133 (c_X8_store hM1 hN t ht) ⟨rfl, rfl, by decide, by decide⟩ (Ce.up hM.1 (by decide)) rfl rfl (Nat.le_of_ble_eq_true rfl) ⟨Nat.zero_le _, Nat.zero_le _⟩ ?_
      rintro _ g2 ⟨_, rfl, rfl, hM2, hF2⟩
      show G M S E (0, 0) g2 42 [some (.ref (E.1 286)), some (.ref (E.1 289)), some (.int (nI t)), some (.int (nI k))] [.int (stV (s_f1 z (ldF z.1 z.2.2.2.2.2.2.2.2.2.2.2.2.2.1 (24 * k))))]
      exact r_iret (pc := 42) C Z dX8_copySeries_42 rfl (by rw [show qCpy z z.2.2.2.2.2.2.2.2.2.2.2.2.2.1 (nI t) (nI k) = sto z (ldF z.1 z.2.2.2.2.2.2.2.2.2.2.2.2.2.1 (24 * k)) t by simp only [qCpy, h4, h19, iN_nI (show t < 2 ^ 31 by omega), iN_nI hk, cond_true, cond_false, if_true, if_false, not_true_eq_false, not_false_eq_true, ↓reduceIte]]; exact ⟨rfl, hM2, hf1.tr hF2 (by omega) (by omega)⟩)
    · have h19 := b_f h19
      refine r_iconst (pc := 22) (v := (-1)) C dX8_copySeries_22 (by decide +kernel) ?_
      exact r_iret (pc := 23) C Z dX8_copySeries_23 rfl (by rw [show qCpy z z.2.2.2.2.2.2.2.2.2.2.2.2.2.1 x y = (-1, z) by simp only [qCpy, h4, h19, cond_true, cond_false, if_true, if_false, not_true_eq_false, not_false_eq_true, ↓reduceIte]]; exact ⟨rfl, hM, Fr.rf⟩)
  · have h4 := b_f h4
    refine r_bipush (pc := 7) (v := (-2)) C dX8_copySeries_7 (by decide +kernel) ?_
    exact r_iret (pc := 9) C Z dX8_copySeries_9 rfl (by rw [show qCpy z z.2.2.2.2.2.2.2.2.2.2.2.2.2.1 x y = (-2, z) by simp only [qCpy, h4, cond_true, cond_false, if_true, if_false, not_true_eq_false, not_false_eq_true, ↓reduceIte]]; exact ⟨rfl, hM, Fr.rf⟩)
set_option maxHeartbeats 4000000 in
set_option maxRecDepth 100000 in
theorem c_X8_copyBeta {S : ST} {E : ET} {g : Nat → va_E} {z : MZ} (hM : MC S E g z) (h4 : 4 ≤ z.1) (hN : z.1 ≤ 24) (x y : Int32) : CtI S E yX8_copyBeta cX8_copyBeta 3 (Option.some FieldType.int) rmX8_copyBeta [.ref (E.1 286), .int x, .int y] g (fun u g' => u = (qCpy z z.2.2.2.2.2.2.2.2.2.2.2.2.2.1 x y).1 ∧ MC S E g' (qCpy z z.2.2.2.2.2.2.2.2.2.2.2.2.2.1 x y).2 ∧ Fr g g' 286 308) := by
  refine Ct.of RX8 (by decide +kernel) rfl (Nat.le_of_ble_eq_true rfl) (fun M C Z => ?_)
  refine G.eq (pc' := 0) (vs' := [some (.ref (E.1 286)), some (.int x), some (.int y)]) (st' := []) ?_
  refine r_aload_n (pc := 0) C dX8_copyBeta_0 rfl ?_
  refine r_aload_n (pc := 1) C dX8_copyBeta_1 rfl ?_
  refine r_getf (pc := 2) C dX8_copyBeta_2 fl_RX8_28 hM.1 rfl ?_
  refine r_iload_n (pc := 5) C dX8_copyBeta_5 rfl ?_
  refine r_iload_n (pc := 6) C dX8_copyBeta_6 rfl ?_
  refine r_callV (pc := 7) C dX8_copyBeta_7 cv_RX8_216 (c_X8_copySeries_289 hM h4 hN x y) ⟨rfl, rfl, by decide, by decide⟩ hM.1 rfl rfl (Nat.le_of_ble_eq_true rfl) ⟨Nat.zero_le _, Nat.zero_le _⟩ ?_
  rintro _ g2 ⟨_, rfl, rfl, hM2, hF2⟩
  show G M S E (0, 0) g2 10 [some (.ref (E.1 286)), some (.int x), some (.int y)] [.int ((qCpy z z.2.2.2.2.2.2.2.2.2.2.2.2.2.1 x y).1)]
  exact r_iret (pc := 10) C Z dX8_copyBeta_10 rfl (⟨rfl, hM2, hF2⟩)
