def iN (x : Int32) : Nat := x.toInt.toNat
theorem iN_nI {t : Nat} (h : t < 2 ^ 31) : iN (nI t) = t := nI_tn h
def kRg (k : KV) (rg : Nat → Nat → Int32) : KV := (k.1, (k.2.1.1, rg, k.2.1.2.2), k.2.2)
def kSt (k : KV) (v : SV) : KV := (k.1, v, k.2.2)
def kp (k : KV) (c : Nat → Int64) (t : Nat) : Int32 × KV := ((kpR k.2.1.1 c k.2.1.2.1 t).1, kRg k (kpR k.2.1.1 c k.2.1.2.1 t).2)
def oReset (k : KV) (x : Int32) : Int32 × KV := if x < nI 4 then (-1, k) else if x ≤ nI 24 then (nI k.2.1.1, kSt k (iN x, (fun _ _ => 0), (0, unA (iN x) 0, uBe), nI 0, 0)) else (-1, k)
def oSetC (k : KV) (x y z : Int32) : Int32 × KV := bif hix 6 x then (bif hix k.2.1.1 y then (if z < -100000000 then (-3, k) else if z ≤ nI 100000000 then (if k.2.1.2.1 (iN x) (iN y) = z then (nI 0, k) else (nI 1, kRg k (va_up k.2.1.2.1 (iN x) (upd (k.2.1.2.1 (iN x)) (iN y) z)))) else (-3, k)) else (-1, k)) else (-2, k)
def oCoef (k : KV) (x y : Int32) : Int64 := bif hix 6 x then (bif hix k.2.1.1 y then (k.2.1.2.1 (iN x) (iN y)).toInt64 else -9223372036854775808) else -9223372036854775808
def oOrd (k : KV) (x : Int32) : Int32 := bif hix 6 x then lowP k.2.1.1 (k.2.1.2.1 (iN x)) else -2
def oDeg (k : KV) (x : Int32) : Int32 := bif hix 6 x then hiN (k.2.1.2.1 (iN x)) k.2.1.1 else -2
def oAdd (k : KV) (x y z f : Int32) : Int32 × KV := bif hix 6 x then (bif hix 6 y then (bif hix 6 z then (if f < -9 then (-1, k) else if f ≤ nI 9 then kp k (plR k.2.1.1 (k.2.1.2.1 (iN z)) f (plR k.2.1.1 (k.2.1.2.1 (iN y)) (nI 1) (fun _ => 0))) (iN x) else (-1, k)) else (-2, k)) else (-2, k)) else (-2, k)
def oMul (k : KV) (x y z : Int32) : Int32 × KV := bif hix 6 x then (bif hix 6 y then (bif hix 6 z then kp k (prF k.2.1.1 (k.2.1.2.1 (iN y)) (k.2.1.2.1 (iN z))) (iN x) else (-2, k)) else (-2, k)) else (-2, k)
def oDiv1 (k : KV) (x y z : Int32) : Int32 × KV := bif quB (k.2.1.2.1 (iN y)) (k.2.1.2.1 (iN z)) k.2.1.1 then kp k (quF (k.2.1.2.1 (iN y)) (k.2.1.2.1 (iN z)) k.2.1.1) (iN x) else (-3, k)
def oDiv (k : KV) (x y z : Int32) : Int32 × KV := bif hix 6 x then (bif hix 6 y then (bif hix 6 z then (if k.2.1.2.1 (iN z) 0 = nI 1 then oDiv1 k x y z else if k.2.1.2.1 (iN z) 0 = -1 then oDiv1 k x y z else (-4, k)) else (-2, k)) else (-2, k)) else (-2, k)
def oShi (k : KV) (x y p : Int32) : Int32 × KV := bif hix 6 x then (bif hix 6 y then (if p < 0 then (-1, k) else if p < nI 24 then kp k (plS k.2.1.1 (k.2.1.2.1 (iN y)) (iN p) (fun _ => 0)) (iN x) else (-1, k)) else (-2, k)) else (-2, k)
def sbF (N : Nat) (a : Nat → Int32) (p : Nat) (t : Nat) : Nat → Int64 := it (fun j f => plT N (j * p) (a j) f) t (fun _ => 0)
def oSub (k : KV) (x y p : Int32) : Int32 × KV := bif hix 6 x then (bif hix 6 y then (if p < nI 1 then (-1, k) else if p ≤ nI 6 then kp k (sbF k.2.1.1 (k.2.1.2.1 (iN y)) (iN p) k.2.1.1) (iN x) else (-1, k)) else (-2, k)) else (-2, k)
theorem nat_ge {x : Int32} {a : Nat} (ha : a < 2 ^ 31) (h : ¬ x < nI a) : ∃ t : Nat, x = nI t ∧ a ≤ t ∧ t < 2 ^ 31 := by
  have h2 := Int32.le_iff_toInt_le.mp (Int32.not_lt.mp h)
  rw [nI_toInt ha] at h2
  refine ⟨x.toInt.toNat, ?_, by omega, by have := x.toInt_lt; omega⟩
  apply Int32.toInt.inj
  rw [nI_toInt (by have := x.toInt_lt; omega)]
  omega
set_option maxHeartbeats 4000000 in
set_option maxRecDepth 100000 in
theorem c_X7_reset {S : ST} {E : ET} {g : Nat → va_E} {hsn : Bool} {v v2 : SV} {rem rem2 : Nat → PV} {pt inp : Nat × (Nat → Nat)} {out : BV} {sl : Nat → SlV} (hB : BC S E g (hsn, v, rem, v2, rem2, pt, inp, out, sl)) (hO : SOk v) (hU : UnOk) (x : Int32) : CtI S E yX7_reset cX7_reset 3 (Option.some FieldType.int) rmX7_reset [.ref (E.1 0), .int x] g (fun u g' => u = (oReset (hsn, v, rem, v2, rem2, pt, inp, out, sl) x).1 ∧ BC S E g' (oReset (hsn, v, rem, v2, rem2, pt, inp, out, sl) x).2 ∧ Fr g g' 0 286) := by
  refine Ct.of RX7 (by decide +kernel) rfl (Nat.le_of_ble_eq_true rfl) (fun M C Z => ?_)
  refine G.eq (pc' := 0) (vs' := [some (.ref (E.1 0)), some (.int x), none]) (st' := []) ?_
  obtain ⟨ho, hL, hV, hSc, hWy, hPt, hIn, hOu, hSl⟩ := id hB
  have ho : Ce E g 0 (.inr (7, [.ref (E.1 1), .ref (E.1 127), .int (b2i hsn), .ref (E.1 253), .ref (E.1 266), .ref (E.1 268), .ref (E.1 270), .ref (E.1 271), .ref (E.1 273), .ref (E.1 275), .ref (E.1 277)])) := ho
  have hL : StL S E g 1 v rem := hL
  obtain ⟨pi, ra, hs, hl⟩ := id hL
  obtain ⟨hN4, hN, hr1⟩ := id hO
  refine r_iload_n (pc := 0) C dX7_reset_0 rfl ?_
  refine r_iconst (pc := 1) (v := nI 4) C dX7_reset_1 (by decide +kernel) ?_
  refine r_icmp_lt (pc := 2) (tgt := 11) C dX7_reset_2 (by decide) (fun h2 => ?_) (fun h2 => ?_)
  · refine r_iconst (pc := 11) (v := (-1)) C dX7_reset_11 (by decide +kernel) ?_
    exact r_iret (pc := 12) C Z dX7_reset_12 rfl (by rw [show oReset (hsn, v, rem, v2, rem2, pt, inp, out, sl) x = (-1, (hsn, v, rem, v2, rem2, pt, inp, out, sl)) by simp only [oReset, h2, cond_true, cond_false, if_true, if_false, not_true_eq_false, not_false_eq_true, ↓reduceIte]]; exact ⟨rfl, hB, Fr.rf⟩)
  · refine r_iload_n (pc := 5) C dX7_reset_5 rfl ?_
    refine r_bipush (pc := 6) (v := nI 24) C dX7_reset_6 (by decide +kernel) ?_
    refine r_icmp_le (pc := 8) (tgt := 13) C dX7_reset_8 (by decide) (fun h8 => ?_) (fun h8 => ?_)
    · obtain ⟨N, rfl, hN1, hN2⟩ := nat_ge (by decide) h2
      have hN3 := c_le hN2 (by decide) h8
      refine r_aload_n (pc := 13) C dX7_reset_13 rfl ?_
      refine r_getf (pc := 14) C dX7_reset_14 fl_RX7_14 ho rfl ?_
      refine r_getf (pc := 17) C dX7_reset_17 fl_RX7_78 hs.1 rfl ?_
      refine r_istore_n (pc := 20) C dX7_reset_20 (by decide) ?_
      refine G.eq (pc' := 21) (vs' := [some (.ref (E.1 0)), some (.int (nI N)), some (.int (nI v.1))]) (st' := []) ?_
      refine r_aload_n (pc := 21) C dX7_reset_21 rfl ?_
      refine r_iload_n (pc := 22) C dX7_reset_22 rfl ?_
      refine r_callV (pc := 23) C dX7_reset_23 cv_RX7_74 (c_X7_startAgain hB hO hU N hN1 hN3) ⟨rfl, rfl, by decide, by decide⟩ ho rfl rfl (Nat.le_of_ble_eq_true rfl) ⟨Nat.zero_le _, Nat.zero_le _⟩ ?_
      rintro _ g6 ⟨rfl, hB6, hF6⟩
      show G M S E (0, 0) g6 26 [some (.ref (E.1 0)), some (.int (nI N)), some (.int (nI v.1))] []
      refine r_iload_n (pc := 26) C dX7_reset_26 rfl ?_
      exact r_iret (pc := 27) C Z dX7_reset_27 rfl (by rw [show oReset (hsn, v, rem, v2, rem2, pt, inp, out, sl) (nI N) = (nI v.1, kSt (hsn, v, rem, v2, rem2, pt, inp, out, sl) (N, (fun _ _ => 0), (0, unA N 0, uBe), nI 0, 0)) by simp only [oReset, h2, h8, iN_nI hN2, cond_true, cond_false, if_true, if_false, not_true_eq_false, not_false_eq_true, ↓reduceIte]]; exact ⟨rfl, hB6, hF6.wide (by omega) (by omega)⟩)
    · refine r_iconst (pc := 11) (v := (-1)) C dX7_reset_11 (by decide +kernel) ?_
      exact r_iret (pc := 12) C Z dX7_reset_12 rfl (by rw [show oReset (hsn, v, rem, v2, rem2, pt, inp, out, sl) x = (-1, (hsn, v, rem, v2, rem2, pt, inp, out, sl)) by simp only [oReset, h2, h8, cond_true, cond_false, if_true, if_false, not_true_eq_false, not_false_eq_true, ↓reduceIte]]; exact ⟨rfl, hB, Fr.rf⟩)
set_option maxHeartbeats 4000000 in
set_option maxRecDepth 100000 in
theorem c_X7_precision {S : ST} {E : ET} {g : Nat → va_E} {hsn : Bool} {v v2 : SV} {rem rem2 : Nat → PV} {pt inp : Nat × (Nat → Nat)} {out : BV} {sl : Nat → SlV} (hB : BC S E g (hsn, v, rem, v2, rem2, pt, inp, out, sl)) (hO : SOk v) : CtI S E yX7_precision cX7_precision 1 (Option.some FieldType.int) rmX7_precision [.ref (E.1 0)] g (fun u g' => u = nI v.1 ∧ g = g') := by
  refine Ct.of RX7 (by decide +kernel) rfl (Nat.le_of_ble_eq_true rfl) (fun M C Z => ?_)
  refine G.eq (pc' := 0) (vs' := [some (.ref (E.1 0))]) (st' := []) ?_
  obtain ⟨ho, hL, hV, hSc, hWy, hPt, hIn, hOu, hSl⟩ := id hB
  have ho : Ce E g 0 (.inr (7, [.ref (E.1 1), .ref (E.1 127), .int (b2i hsn), .ref (E.1 253), .ref (E.1 266), .ref (E.1 268), .ref (E.1 270), .ref (E.1 271), .ref (E.1 273), .ref (E.1 275), .ref (E.1 277)])) := ho
  have hL : StL S E g 1 v rem := hL
  obtain ⟨pi, ra, hs, hl⟩ := id hL
  obtain ⟨hN4, hN, hr1⟩ := id hO
  refine r_aload_n (pc := 0) C dX7_precision_0 rfl ?_
  refine r_getf (pc := 1) C dX7_precision_1 fl_RX7_14 ho rfl ?_
  refine r_getf (pc := 4) C dX7_precision_4 fl_RX7_78 hs.1 rfl ?_
  exact r_iret (pc := 7) C Z dX7_precision_7 rfl (⟨rfl, rfl⟩)
set_option maxHeartbeats 4000000 in
set_option maxRecDepth 100000 in
theorem c_X7_chainLength {S : ST} {E : ET} {g : Nat → va_E} {hsn : Bool} {v v2 : SV} {rem rem2 : Nat → PV} {pt inp : Nat × (Nat → Nat)} {out : BV} {sl : Nat → SlV} (hB : BC S E g (hsn, v, rem, v2, rem2, pt, inp, out, sl)) (hO : SOk v) : CtI S E yX7_chainLength cX7_chainLength 1 (Option.some FieldType.int) rmX7_chainLength [.ref (E.1 0)] g (fun u g' => u = v.2.2.2.1 ∧ g = g') := by
  refine Ct.of RX7 (by decide +kernel) rfl (Nat.le_of_ble_eq_true rfl) (fun M C Z => ?_)
  refine G.eq (pc' := 0) (vs' := [some (.ref (E.1 0))]) (st' := []) ?_
  obtain ⟨ho, hL, hV, hSc, hWy, hPt, hIn, hOu, hSl⟩ := id hB
  have ho : Ce E g 0 (.inr (7, [.ref (E.1 1), .ref (E.1 127), .int (b2i hsn), .ref (E.1 253), .ref (E.1 266), .ref (E.1 268), .ref (E.1 270), .ref (E.1 271), .ref (E.1 273), .ref (E.1 275), .ref (E.1 277)])) := ho
  have hL : StL S E g 1 v rem := hL
  obtain ⟨pi, ra, hs, hl⟩ := id hL
  obtain ⟨hN4, hN, hr1⟩ := id hO
  refine r_aload_n (pc := 0) C dX7_chainLength_0 rfl ?_
  refine r_getf (pc := 1) C dX7_chainLength_1 fl_RX7_14 ho rfl ?_
  refine r_getf (pc := 4) C dX7_chainLength_4 fl_RX7_189 hs.1 rfl ?_
  exact r_iret (pc := 7) C Z dX7_chainLength_7 rfl (⟨rfl, rfl⟩)
set_option maxHeartbeats 4000000 in
set_option maxRecDepth 100000 in
theorem c_X7_setCoefficient {S : ST} {E : ET} {g : Nat → va_E} {hsn : Bool} {v v2 : SV} {rem rem2 : Nat → PV} {pt inp : Nat × (Nat → Nat)} {out : BV} {sl : Nat → SlV} (hB : BC S E g (hsn, v, rem, v2, rem2, pt, inp, out, sl)) (hO : SOk v) (x y z : Int32) : CtI S E yX7_setCoefficient cX7_setCoefficient 5 (Option.some FieldType.int) rmX7_setCoefficient [.ref (E.1 0), .int x, .int y, .int z] g (fun u g' => u = (oSetC (hsn, v, rem, v2, rem2, pt, inp, out, sl) x y z).1 ∧ BC S E g' (oSetC (hsn, v, rem, v2, rem2, pt, inp, out, sl) x y z).2 ∧ Fr g g' 0 286) := by
  refine Ct.of RX7 (by decide +kernel) rfl (Nat.le_of_ble_eq_true rfl) (fun M C Z => ?_)
  refine G.eq (pc' := 0) (vs' := [some (.ref (E.1 0)), some (.int x), some (.int y), some (.int z), none]) (st' := []) ?_
  obtain ⟨ho, hL, hV, hSc, hWy, hPt, hIn, hOu, hSl⟩ := id hB
  have ho : Ce E g 0 (.inr (7, [.ref (E.1 1), .ref (E.1 127), .int (b2i hsn), .ref (E.1 253), .ref (E.1 266), .ref (E.1 268), .ref (E.1 270), .ref (E.1 271), .ref (E.1 273), .ref (E.1 275), .ref (E.1 277)])) := ho
  have hL : StL S E g 1 v rem := hL
  obtain ⟨pi, ra, hs, hl⟩ := id hL
  obtain ⟨hN4, hN, hr1⟩ := id hO
  refine r_iload_n (pc := 0) C dX7_setCoefficient_0 rfl ?_
  refine r_callS (pc := 1) C dX7_setCoefficient_1 cs_RX7_82 (c_X7_isRegister x) ⟨rfl, rfl, by decide, by decide⟩ rfl rfl (Nat.le_of_ble_eq_true rfl) ⟨Nat.zero_le _, Nat.zero_le _⟩ ?_
  rintro _ _ ⟨_, rfl, rfl, rfl⟩
  show G M S E (0, 0) g 4 [some (.ref (E.1 0)), some (.int x), some (.int y), some (.int z), none] [.int (b2i (hix 6 x))]
  refine r_if_ne (pc := 4) (tgt := 10) C dX7_setCoefficient_4 (by decide) (fun h4 => ?_) (fun h4 => ?_)
  · have h4 := b_t h4
    refine r_aload_n (pc := 10) C dX7_setCoefficient_10 rfl ?_
    refine r_iload_n (pc := 11) C dX7_setCoefficient_11 rfl ?_
    refine r_callV (pc := 12) C dX7_setCoefficient_12 cv_RX7_86 (c_X7_isPower hB hO y) ⟨rfl, rfl, by decide, by decide⟩ ho rfl rfl (Nat.le_of_ble_eq_true rfl) ⟨Nat.zero_le _, Nat.zero_le _⟩ ?_
    rintro _ _ ⟨_, rfl, rfl, rfl⟩
    show G M S E (0, 0) g 15 [some (.ref (E.1 0)), some (.int x), some (.int y), some (.int z), none] [.int (b2i (hix v.1 y))]
    refine r_if_ne (pc := 15) (tgt := 20) C dX7_setCoefficient_15 (by decide) (fun h15 => ?_) (fun h15 => ?_)
    · have h15 := b_t h15
      refine r_iload_n (pc := 20) C dX7_setCoefficient_20 rfl ?_
      refine r_ldc (pc := 21) C dX7_setCoefficient_21 qK_RX7_89 ?_
      refine r_icmp_lt (pc := 23) (tgt := 32) C dX7_setCoefficient_23 (by decide) (fun h23 => ?_) (fun h23 => ?_)
      · refine r_bipush (pc := 32) (v := (-3)) C dX7_setCoefficient_32 (by decide +kernel) ?_
        exact r_iret (pc := 34) C Z dX7_setCoefficient_34 rfl (by rw [show oSetC (hsn, v, rem, v2, rem2, pt, inp, out, sl) x y z = (-3, (hsn, v, rem, v2, rem2, pt, inp, out, sl)) by simp only [oSetC, h4, h15, h23, cond_true, cond_false, if_true, if_false, not_true_eq_false, not_false_eq_true, ↓reduceIte]]; exact ⟨rfl, hB, Fr.rf⟩)
      · refine r_iload_n (pc := 26) C dX7_setCoefficient_26 rfl ?_
        refine r_ldc (pc := 27) C dX7_setCoefficient_27 qK_RX7_90 ?_
        refine r_ti (nI 100000000) (by decide +kernel) ?_
        refine r_icmp_le (pc := 29) (tgt := 35) C dX7_setCoefficient_29 (by decide) (fun h29 => ?_) (fun h29 => ?_)
        · obtain ⟨t, rfl, ht⟩ := hix_nat h4 (by omega)
          obtain ⟨p, rfl, hp⟩ := hix_nat h15 (by omega)
          refine r_aload_n (pc := 35) C dX7_setCoefficient_35 rfl ?_
          refine r_getf (pc := 36) C dX7_setCoefficient_36 fl_RX7_14 ho rfl ?_
          refine r_getf (pc := 39) C dX7_setCoefficient_39 fl_RX7_91 hs.1 rfl ?_
          refine r_iload_n (pc := 42) C dX7_setCoefficient_42 rfl ?_
          refine r_aald (pc := 43) C dX7_setCoefficient_43 hs.2.1 rfl rfl rfl (by omega) (by omega) rfl ?_
          refine r_astore (pc := 44) C dX7_setCoefficient_44 (by decide) ?_
          refine G.eq (pc' := 46) (vs' := [some (.ref (E.1 0)), some (.int (nI t)), some (.int (nI p)), some (.int z), some (.ref (E.1 (1 + 2 + t)))]) (st' := []) ?_
          refine r_aload (pc := 46) C dX7_setCoefficient_46 rfl ?_
          refine r_iload_n (pc := 48) C dX7_setCoefficient_48 rfl ?_
          refine r_iald (pc := 49) C dX7_setCoefficient_49 (hs.2.2.2.1 t (by omega)) rfl (by omega) (by omega) ?_
          refine r_iload_n (pc := 50) C dX7_setCoefficient_50 rfl ?_
          refine r_icmp_ne (pc := 51) (tgt := 56) C dX7_setCoefficient_51 (by decide) (fun h51 => ?_) (fun h51 => ?_)
          · refine r_aload (pc := 56) C dX7_setCoefficient_56 rfl ?_
            refine r_iload_n (pc := 58) C dX7_setCoefficient_58 rfl ?_
            refine r_iload_n (pc := 59) C dX7_setCoefficient_59 rfl ?_
            refine r_iast (pc := 60) C dX7_setCoefficient_60 (hs.2.2.2.1 t (by omega)) rfl (by omega) (by omega) ?_
            refine r_iconst (pc := 61) (v := nI 1) C dX7_setCoefficient_61 (by decide +kernel) ?_
            have hB2 := hB.st (Fr.up (lo := 1) (hi := 127) Fr.rf (by omega) (by omega)) ⟨pi, ra, hs.reg (upd (v.2.1 t) p z) ht, hl⟩
            exact r_iret (pc := 62) C Z dX7_setCoefficient_62 rfl (by rw [show oSetC (hsn, v, rem, v2, rem2, pt, inp, out, sl) (nI t) (nI p) z = (nI 1, kRg (hsn, v, rem, v2, rem2, pt, inp, out, sl) (va_up v.2.1 t (upd (v.2.1 t) p z))) by simp only [oSetC, h4, h15, h23, h29, h51, iN_nI (show t < 2 ^ 31 by omega), iN_nI (show p < 2 ^ 31 by omega), cond_true, cond_false, if_true, if_false, not_true_eq_false, not_false_eq_true, ↓reduceIte]]; exact ⟨rfl, hB2, Fr.up Fr.rf (by omega) (by omega)⟩)
          · refine r_iconst (pc := 54) (v := nI 0) C dX7_setCoefficient_54 (by decide +kernel) ?_
            exact r_iret (pc := 55) C Z dX7_setCoefficient_55 rfl (by rw [show oSetC (hsn, v, rem, v2, rem2, pt, inp, out, sl) (nI t) (nI p) z = (nI 0, (hsn, v, rem, v2, rem2, pt, inp, out, sl)) by simp only [oSetC, h4, h15, h23, h29, h51, iN_nI (show t < 2 ^ 31 by omega), iN_nI (show p < 2 ^ 31 by omega), cond_true, cond_false, if_true, if_false, not_true_eq_false, not_false_eq_true, ↓reduceIte]]; exact ⟨rfl, hB, Fr.rf⟩)
        · refine r_bipush (pc := 32) (v := (-3)) C dX7_setCoefficient_32 (by decide +kernel) ?_
          exact r_iret (pc := 34) C Z dX7_setCoefficient_34 rfl (by rw [show oSetC (hsn, v, rem, v2, rem2, pt, inp, out, sl) x y z = (-3, (hsn, v, rem, v2, rem2, pt, inp, out, sl)) by simp only [oSetC, h4, h15, h23, h29, cond_true, cond_false, if_true, if_false, not_true_eq_false, not_false_eq_true, ↓reduceIte]]; exact ⟨rfl, hB, Fr.rf⟩)
    · have h15 := b_f h15
      refine r_iconst (pc := 18) (v := (-1)) C dX7_setCoefficient_18 (by decide +kernel) ?_
      exact r_iret (pc := 19) C Z dX7_setCoefficient_19 rfl (by rw [show oSetC (hsn, v, rem, v2, rem2, pt, inp, out, sl) x y z = (-1, (hsn, v, rem, v2, rem2, pt, inp, out, sl)) by simp only [oSetC, h4, h15, cond_true, cond_false, if_true, if_false, not_true_eq_false, not_false_eq_true, ↓reduceIte]]; exact ⟨rfl, hB, Fr.rf⟩)
  · have h4 := b_f h4
    refine r_bipush (pc := 7) (v := (-2)) C dX7_setCoefficient_7 (by decide +kernel) ?_
    exact r_iret (pc := 9) C Z dX7_setCoefficient_9 rfl (by rw [show oSetC (hsn, v, rem, v2, rem2, pt, inp, out, sl) x y z = (-2, (hsn, v, rem, v2, rem2, pt, inp, out, sl)) by simp only [oSetC, h4, cond_true, cond_false, if_true, if_false, not_true_eq_false, not_false_eq_true, ↓reduceIte]]; exact ⟨rfl, hB, Fr.rf⟩)
set_option maxHeartbeats 4000000 in
set_option maxRecDepth 100000 in
theorem c_X7_coefficient {S : ST} {E : ET} {g : Nat → va_E} {hsn : Bool} {v v2 : SV} {rem rem2 : Nat → PV} {pt inp : Nat × (Nat → Nat)} {out : BV} {sl : Nat → SlV} (hB : BC S E g (hsn, v, rem, v2, rem2, pt, inp, out, sl)) (hO : SOk v) (x y : Int32) : CtL S E yX7_coefficient cX7_coefficient 3 (Option.some FieldType.long) rmX7_coefficient [.ref (E.1 0), .int x, .int y] g (fun u g' => u = oCoef (hsn, v, rem, v2, rem2, pt, inp, out, sl) x y ∧ g = g') := by
  refine Ct.of RX7 (by decide +kernel) rfl (Nat.le_of_ble_eq_true rfl) (fun M C Z => ?_)
  refine G.eq (pc' := 0) (vs' := [some (.ref (E.1 0)), some (.int x), some (.int y)]) (st' := []) ?_
  obtain ⟨ho, hL, hV, hSc, hWy, hPt, hIn, hOu, hSl⟩ := id hB
  have ho : Ce E g 0 (.inr (7, [.ref (E.1 1), .ref (E.1 127), .int (b2i hsn), .ref (E.1 253), .ref (E.1 266), .ref (E.1 268), .ref (E.1 270), .ref (E.1 271), .ref (E.1 273), .ref (E.1 275), .ref (E.1 277)])) := ho
  have hL : StL S E g 1 v rem := hL
  obtain ⟨pi, ra, hs, hl⟩ := id hL
  obtain ⟨hN4, hN, hr1⟩ := id hO
  refine r_iload_n (pc := 0) C dX7_coefficient_0 rfl ?_
  refine r_callS (pc := 1) C dX7_coefficient_1 cs_RX7_82 (c_X7_isRegister x) ⟨rfl, rfl, by decide, by decide⟩ rfl rfl (Nat.le_of_ble_eq_true rfl) ⟨Nat.zero_le _, Nat.zero_le _⟩ ?_
  rintro _ _ ⟨_, rfl, rfl, rfl⟩
  show G M S E (0, 0) g 4 [some (.ref (E.1 0)), some (.int x), some (.int y)] [.int (b2i (hix 6 x))]
  refine r_if_eq (pc := 4) (tgt := 15) C dX7_coefficient_4 (by decide) (fun h4 => ?_) (fun h4 => ?_)
  · have h4 := b_f h4
    refine r_ldc2 (pc := 15) C dX7_coefficient_15 qK_RX7_95 ?_
    exact r_lret (pc := 18) C Z dX7_coefficient_18 (by rw [show oCoef (hsn, v, rem, v2, rem2, pt, inp, out, sl) x y = (-9223372036854775808) by simp only [oCoef, h4, cond_true, cond_false, if_true, if_false, not_true_eq_false, not_false_eq_true, ↓reduceIte]]; exact ⟨rfl, rfl⟩)
  · have h4 := b_t h4
    refine r_aload_n (pc := 7) C dX7_coefficient_7 rfl ?_
    refine r_iload_n (pc := 8) C dX7_coefficient_8 rfl ?_
    refine r_callV (pc := 9) C dX7_coefficient_9 cv_RX7_86 (c_X7_isPower hB hO y) ⟨rfl, rfl, by decide, by decide⟩ ho rfl rfl (Nat.le_of_ble_eq_true rfl) ⟨Nat.zero_le _, Nat.zero_le _⟩ ?_
    rintro _ _ ⟨_, rfl, rfl, rfl⟩
    show G M S E (0, 0) g 12 [some (.ref (E.1 0)), some (.int x), some (.int y)] [.int (b2i (hix v.1 y))]
    refine r_if_ne (pc := 12) (tgt := 19) C dX7_coefficient_12 (by decide) (fun h12 => ?_) (fun h12 => ?_)
    · have h12 := b_t h12
      obtain ⟨t, rfl, ht⟩ := hix_nat h4 (by omega)
      obtain ⟨p, rfl, hp⟩ := hix_nat h12 (by omega)
      refine r_aload_n (pc := 19) C dX7_coefficient_19 rfl ?_
      refine r_getf (pc := 20) C dX7_coefficient_20 fl_RX7_14 ho rfl ?_
      refine r_getf (pc := 23) C dX7_coefficient_23 fl_RX7_91 hs.1 rfl ?_
      refine r_iload_n (pc := 26) C dX7_coefficient_26 rfl ?_
      refine r_aald (pc := 27) C dX7_coefficient_27 hs.2.1 rfl rfl rfl (by omega) (by omega) rfl ?_
      refine r_iload_n (pc := 28) C dX7_coefficient_28 rfl ?_
      refine r_iald (pc := 29) C dX7_coefficient_29 (hs.2.2.2.1 t (by omega)) rfl (by omega) (by omega) ?_
      refine r_i2l (pc := 30) C dX7_coefficient_30 ?_
      exact r_lret (pc := 31) C Z dX7_coefficient_31 (by rw [show oCoef (hsn, v, rem, v2, rem2, pt, inp, out, sl) (nI t) (nI p) = (v.2.1 t p).toInt64 by simp only [oCoef, h4, h12, iN_nI (show t < 2 ^ 31 by omega), iN_nI (show p < 2 ^ 31 by omega), cond_true, cond_false, if_true, if_false, not_true_eq_false, not_false_eq_true, ↓reduceIte]]; exact ⟨rfl, rfl⟩)
    · have h12 := b_f h12
      refine r_ldc2 (pc := 15) C dX7_coefficient_15 qK_RX7_95 ?_
      exact r_lret (pc := 18) C Z dX7_coefficient_18 (by rw [show oCoef (hsn, v, rem, v2, rem2, pt, inp, out, sl) x y = (-9223372036854775808) by simp only [oCoef, h4, h12, cond_true, cond_false, if_true, if_false, not_true_eq_false, not_false_eq_true, ↓reduceIte]]; exact ⟨rfl, rfl⟩)
set_option maxHeartbeats 4000000 in
set_option maxRecDepth 100000 in
theorem c_X7_order {S : ST} {E : ET} {g : Nat → va_E} {hsn : Bool} {v v2 : SV} {rem rem2 : Nat → PV} {pt inp : Nat × (Nat → Nat)} {out : BV} {sl : Nat → SlV} (hB : BC S E g (hsn, v, rem, v2, rem2, pt, inp, out, sl)) (hO : SOk v) (x : Int32) : CtI S E yX7_order cX7_order 2 (Option.some FieldType.int) rmX7_order [.ref (E.1 0), .int x] g (fun u g' => u = oOrd (hsn, v, rem, v2, rem2, pt, inp, out, sl) x ∧ g = g') := by
  refine Ct.of RX7 (by decide +kernel) rfl (Nat.le_of_ble_eq_true rfl) (fun M C Z => ?_)
  refine G.eq (pc' := 0) (vs' := [some (.ref (E.1 0)), some (.int x)]) (st' := []) ?_
  obtain ⟨ho, hL, hV, hSc, hWy, hPt, hIn, hOu, hSl⟩ := id hB
  have ho : Ce E g 0 (.inr (7, [.ref (E.1 1), .ref (E.1 127), .int (b2i hsn), .ref (E.1 253), .ref (E.1 266), .ref (E.1 268), .ref (E.1 270), .ref (E.1 271), .ref (E.1 273), .ref (E.1 275), .ref (E.1 277)])) := ho
  have hL : StL S E g 1 v rem := hL
  obtain ⟨pi, ra, hs, hl⟩ := id hL
  obtain ⟨hN4, hN, hr1⟩ := id hO
  refine r_iload_n (pc := 0) C dX7_order_0 rfl ?_
  refine r_callS (pc := 1) C dX7_order_1 cs_RX7_82 (c_X7_isRegister x) ⟨rfl, rfl, by decide, by decide⟩ rfl rfl (Nat.le_of_ble_eq_true rfl) ⟨Nat.zero_le _, Nat.zero_le _⟩ ?_
  rintro _ _ ⟨_, rfl, rfl, rfl⟩
  show G M S E (0, 0) g 4 [some (.ref (E.1 0)), some (.int x)] [.int (b2i (hix 6 x))]
  refine r_if_ne (pc := 4) (tgt := 10) C dX7_order_4 (by decide) (fun h4 => ?_) (fun h4 => ?_)
  · have h4 := b_t h4
    obtain ⟨t, rfl, ht⟩ := hix_nat h4 (by omega)
    refine r_aload_n (pc := 10) C dX7_order_10 rfl ?_
    refine r_aload_n (pc := 11) C dX7_order_11 rfl ?_
    refine r_getf (pc := 12) C dX7_order_12 fl_RX7_14 ho rfl ?_
    refine r_getf (pc := 15) C dX7_order_15 fl_RX7_91 hs.1 rfl ?_
    refine r_iload_n (pc := 18) C dX7_order_18 rfl ?_
    refine r_aald (pc := 19) C dX7_order_19 hs.2.1 rfl rfl rfl (by omega) (by omega) rfl ?_
    refine r_callV (pc := 20) C dX7_order_20 cv_RX7_97 (c_X7_lowestPower hB hO (hs.2.2.2.1 t (by omega))) ⟨rfl, rfl, by decide, by decide⟩ ho rfl rfl (Nat.le_of_ble_eq_true rfl) ⟨Nat.zero_le _, Nat.zero_le _⟩ ?_
    rintro _ _ ⟨_, rfl, rfl, rfl⟩
    show G M S E (0, 0) g 23 [some (.ref (E.1 0)), some (.int (nI t))] [.int (lowP v.1 (v.2.1 t))]
    exact r_iret (pc := 23) C Z dX7_order_23 rfl (by rw [show oOrd (hsn, v, rem, v2, rem2, pt, inp, out, sl) (nI t) = lowP v.1 (v.2.1 t) by simp only [oOrd, h4, iN_nI (show t < 2 ^ 31 by omega), cond_true, cond_false, if_true, if_false, not_true_eq_false, not_false_eq_true, ↓reduceIte]]; exact ⟨rfl, rfl⟩)
  · have h4 := b_f h4
    refine r_bipush (pc := 7) (v := (-2)) C dX7_order_7 (by decide +kernel) ?_
    exact r_iret (pc := 9) C Z dX7_order_9 rfl (by rw [show oOrd (hsn, v, rem, v2, rem2, pt, inp, out, sl) x = -2 by simp only [oOrd, h4, cond_true, cond_false, if_true, if_false, not_true_eq_false, not_false_eq_true, ↓reduceIte]]; exact ⟨rfl, rfl⟩)
set_option maxHeartbeats 4000000 in
set_option maxRecDepth 100000 in
theorem c_X7_degree {S : ST} {E : ET} {g : Nat → va_E} {hsn : Bool} {v v2 : SV} {rem rem2 : Nat → PV} {pt inp : Nat × (Nat → Nat)} {out : BV} {sl : Nat → SlV} (hB : BC S E g (hsn, v, rem, v2, rem2, pt, inp, out, sl)) (hO : SOk v) (x : Int32) : CtI S E yX7_degree cX7_degree 2 (Option.some FieldType.int) rmX7_degree [.ref (E.1 0), .int x] g (fun u g' => u = oDeg (hsn, v, rem, v2, rem2, pt, inp, out, sl) x ∧ g = g') := by
  refine Ct.of RX7 (by decide +kernel) rfl (Nat.le_of_ble_eq_true rfl) (fun M C Z => ?_)
  refine G.eq (pc' := 0) (vs' := [some (.ref (E.1 0)), some (.int x)]) (st' := []) ?_
  obtain ⟨ho, hL, hV, hSc, hWy, hPt, hIn, hOu, hSl⟩ := id hB
  have ho : Ce E g 0 (.inr (7, [.ref (E.1 1), .ref (E.1 127), .int (b2i hsn), .ref (E.1 253), .ref (E.1 266), .ref (E.1 268), .ref (E.1 270), .ref (E.1 271), .ref (E.1 273), .ref (E.1 275), .ref (E.1 277)])) := ho
  have hL : StL S E g 1 v rem := hL
  obtain ⟨pi, ra, hs, hl⟩ := id hL
  obtain ⟨hN4, hN, hr1⟩ := id hO
  refine r_iload_n (pc := 0) C dX7_degree_0 rfl ?_
  refine r_callS (pc := 1) C dX7_degree_1 cs_RX7_82 (c_X7_isRegister x) ⟨rfl, rfl, by decide, by decide⟩ rfl rfl (Nat.le_of_ble_eq_true rfl) ⟨Nat.zero_le _, Nat.zero_le _⟩ ?_
  rintro _ _ ⟨_, rfl, rfl, rfl⟩
  show G M S E (0, 0) g 4 [some (.ref (E.1 0)), some (.int x)] [.int (b2i (hix 6 x))]
  refine r_if_ne (pc := 4) (tgt := 10) C dX7_degree_4 (by decide) (fun h4 => ?_) (fun h4 => ?_)
  · have h4 := b_t h4
    obtain ⟨t, rfl, ht⟩ := hix_nat h4 (by omega)
    refine r_aload_n (pc := 10) C dX7_degree_10 rfl ?_
    refine r_aload_n (pc := 11) C dX7_degree_11 rfl ?_
    refine r_getf (pc := 12) C dX7_degree_12 fl_RX7_14 ho rfl ?_
    refine r_getf (pc := 15) C dX7_degree_15 fl_RX7_91 hs.1 rfl ?_
    refine r_iload_n (pc := 18) C dX7_degree_18 rfl ?_
    refine r_aald (pc := 19) C dX7_degree_19 hs.2.1 rfl rfl rfl (by omega) (by omega) rfl ?_
    refine r_callV (pc := 20) C dX7_degree_20 cv_RX7_101 (c_X7_highestPower hB hO (hs.2.2.2.1 t (by omega))) ⟨rfl, rfl, by decide, by decide⟩ ho rfl rfl (Nat.le_of_ble_eq_true rfl) ⟨Nat.zero_le _, Nat.zero_le _⟩ ?_
    rintro _ _ ⟨_, rfl, rfl, rfl⟩
    show G M S E (0, 0) g 23 [some (.ref (E.1 0)), some (.int (nI t))] [.int (hiN (v.2.1 t) v.1)]
    exact r_iret (pc := 23) C Z dX7_degree_23 rfl (by rw [show oDeg (hsn, v, rem, v2, rem2, pt, inp, out, sl) (nI t) = hiN (v.2.1 t) v.1 by simp only [oDeg, h4, iN_nI (show t < 2 ^ 31 by omega), cond_true, cond_false, if_true, if_false, not_true_eq_false, not_false_eq_true, ↓reduceIte]]; exact ⟨rfl, rfl⟩)
  · have h4 := b_f h4
    refine r_bipush (pc := 7) (v := (-2)) C dX7_degree_7 (by decide +kernel) ?_
    exact r_iret (pc := 9) C Z dX7_degree_9 rfl (by rw [show oDeg (hsn, v, rem, v2, rem2, pt, inp, out, sl) x = -2 by simp only [oDeg, h4, cond_true, cond_false, if_true, if_false, not_true_eq_false, not_false_eq_true, ↓reduceIte]]; exact ⟨rfl, rfl⟩)
set_option maxHeartbeats 4000000 in
set_option maxRecDepth 100000 in
theorem c_X7_add {S : ST} {E : ET} {g : Nat → va_E} {hsn : Bool} {v v2 : SV} {rem rem2 : Nat → PV} {pt inp : Nat × (Nat → Nat)} {out : BV} {sl : Nat → SlV} (hB : BC S E g (hsn, v, rem, v2, rem2, pt, inp, out, sl)) (hO : SOk v) (x y z f : Int32) : CtI S E yX7_add cX7_add 5 (Option.some FieldType.int) rmX7_add [.ref (E.1 0), .int x, .int y, .int z, .int f] g (fun u g' => u = (oAdd (hsn, v, rem, v2, rem2, pt, inp, out, sl) x y z f).1 ∧ BC S E g' (oAdd (hsn, v, rem, v2, rem2, pt, inp, out, sl) x y z f).2 ∧ Fr g g' 0 286) := by
  refine Ct.of RX7 (by decide +kernel) rfl (Nat.le_of_ble_eq_true rfl) (fun M C Z => ?_)
  refine G.eq (pc' := 0) (vs' := [some (.ref (E.1 0)), some (.int x), some (.int y), some (.int z), some (.int f)]) (st' := []) ?_
  obtain ⟨ho, hL, hV, hSc, hWy, hPt, hIn, hOu, hSl⟩ := id hB
  have ho : Ce E g 0 (.inr (7, [.ref (E.1 1), .ref (E.1 127), .int (b2i hsn), .ref (E.1 253), .ref (E.1 266), .ref (E.1 268), .ref (E.1 270), .ref (E.1 271), .ref (E.1 273), .ref (E.1 275), .ref (E.1 277)])) := ho
  have hL : StL S E g 1 v rem := hL
  obtain ⟨pi, ra, hs, hl⟩ := id hL
  obtain ⟨hN4, hN, hr1⟩ := id hO
  obtain ⟨⟨v0, hp0⟩, ⟨N1, c1, hw, hc⟩, ⟨N2, c2, hw2, hc2⟩⟩ := id hSc
  refine r_iload_n (pc := 0) C dX7_add_0 rfl ?_
  refine r_callS (pc := 1) C dX7_add_1 cs_RX7_82 (c_X7_isRegister x) ⟨rfl, rfl, by decide, by decide⟩ rfl rfl (Nat.le_of_ble_eq_true rfl) ⟨Nat.zero_le _, Nat.zero_le _⟩ ?_
  rintro _ _ ⟨_, rfl, rfl, rfl⟩
  show G M S E (0, 0) g 4 [some (.ref (E.1 0)), some (.int x), some (.int y), some (.int z), some (.int f)] [.int (b2i (hix 6 x))]
  refine r_if_eq (pc := 4) (tgt := 21) C dX7_add_4 (by decide) (fun h4 => ?_) (fun h4 => ?_)
  · have h4 := b_f h4
    refine r_bipush (pc := 21) (v := (-2)) C dX7_add_21 (by decide +kernel) ?_
    exact r_iret (pc := 23) C Z dX7_add_23 rfl (by rw [show oAdd (hsn, v, rem, v2, rem2, pt, inp, out, sl) x y z f = (-2, (hsn, v, rem, v2, rem2, pt, inp, out, sl)) by simp only [oAdd, h4, cond_true, cond_false, if_true, if_false, not_true_eq_false, not_false_eq_true, ↓reduceIte]]; exact ⟨rfl, hB, Fr.rf⟩)
  · have h4 := b_t h4
    refine r_iload_n (pc := 7) C dX7_add_7 rfl ?_
    refine r_callS (pc := 8) C dX7_add_8 cs_RX7_82 (c_X7_isRegister y) ⟨rfl, rfl, by decide, by decide⟩ rfl rfl (Nat.le_of_ble_eq_true rfl) ⟨Nat.zero_le _, Nat.zero_le _⟩ ?_
    rintro _ _ ⟨_, rfl, rfl, rfl⟩
    show G M S E (0, 0) g 11 [some (.ref (E.1 0)), some (.int x), some (.int y), some (.int z), some (.int f)] [.int (b2i (hix 6 y))]
    refine r_if_eq (pc := 11) (tgt := 21) C dX7_add_11 (by decide) (fun h11 => ?_) (fun h11 => ?_)
    · have h11 := b_f h11
      refine r_bipush (pc := 21) (v := (-2)) C dX7_add_21 (by decide +kernel) ?_
      exact r_iret (pc := 23) C Z dX7_add_23 rfl (by rw [show oAdd (hsn, v, rem, v2, rem2, pt, inp, out, sl) x y z f = (-2, (hsn, v, rem, v2, rem2, pt, inp, out, sl)) by simp only [oAdd, h4, h11, cond_true, cond_false, if_true, if_false, not_true_eq_false, not_false_eq_true, ↓reduceIte]]; exact ⟨rfl, hB, Fr.rf⟩)
    · have h11 := b_t h11
      refine r_iload_n (pc := 14) C dX7_add_14 rfl ?_
      refine r_callS (pc := 15) C dX7_add_15 cs_RX7_82 (c_X7_isRegister z) ⟨rfl, rfl, by decide, by decide⟩ rfl rfl (Nat.le_of_ble_eq_true rfl) ⟨Nat.zero_le _, Nat.zero_le _⟩ ?_
      rintro _ _ ⟨_, rfl, rfl, rfl⟩
      show G M S E (0, 0) g 18 [some (.ref (E.1 0)), some (.int x), some (.int y), some (.int z), some (.int f)] [.int (b2i (hix 6 z))]
      refine r_if_ne (pc := 18) (tgt := 24) C dX7_add_18 (by decide) (fun h18 => ?_) (fun h18 => ?_)
      · have h18 := b_t h18
        obtain ⟨t, rfl, ht⟩ := hix_nat h4 (by omega)
        obtain ⟨p, rfl, hp⟩ := hix_nat h11 (by omega)
        obtain ⟨q, rfl, hq⟩ := hix_nat h18 (by omega)
        refine r_iload (pc := 24) C dX7_add_24 rfl ?_
        refine r_bipush (pc := 26) (v := (-9)) C dX7_add_26 (by decide +kernel) ?_
        refine r_icmp_lt (pc := 28) (tgt := 38) C dX7_add_28 (by decide) (fun h28 => ?_) (fun h28 => ?_)
        · refine r_iconst (pc := 38) (v := (-1)) C dX7_add_38 (by decide +kernel) ?_
          exact r_iret (pc := 39) C Z dX7_add_39 rfl (by rw [show oAdd (hsn, v, rem, v2, rem2, pt, inp, out, sl) (nI t) (nI p) (nI q) f = (-1, (hsn, v, rem, v2, rem2, pt, inp, out, sl)) by simp only [oAdd, h4, h11, h18, h28, iN_nI (show t < 2 ^ 31 by omega), iN_nI (show p < 2 ^ 31 by omega), iN_nI (show q < 2 ^ 31 by omega), cond_true, cond_false, if_true, if_false, not_true_eq_false, not_false_eq_true, ↓reduceIte]]; exact ⟨rfl, hB, Fr.rf⟩)
        · refine r_iload (pc := 31) C dX7_add_31 rfl ?_
          refine r_bipush (pc := 33) (v := nI 9) C dX7_add_33 (by decide +kernel) ?_
          refine r_icmp_le (pc := 35) (tgt := 40) C dX7_add_35 (by decide) (fun h35 => ?_) (fun h35 => ?_)
          · refine r_aload_n (pc := 40) C dX7_add_40 rfl ?_
            refine r_getf (pc := 41) C dX7_add_41 fl_RX7_35 ho rfl ?_
            refine r_aload_n (pc := 44) C dX7_add_44 rfl ?_
            refine r_getf (pc := 45) C dX7_add_45 fl_RX7_14 ho rfl ?_
            refine r_getf (pc := 48) C dX7_add_48 fl_RX7_78 hs.1 rfl ?_
            refine r_callV (pc := 51) C dX7_add_51 cv_RX7_104 (c_X6_setZero v.1 hw hc (by omega)) ⟨rfl, rfl, by decide, by decide⟩ hw rfl rfl (Nat.le_of_ble_eq_true rfl) ⟨Nat.zero_le _, Nat.zero_le _⟩ ?_
            rintro _ _ ⟨rfl, rfl⟩
            show G M S E (0, 0) (va_up (va_up g 266 (.inr (6, [.ref (E.1 (266 + 1)), .int (nI v.1)]))) (266 + 1) (xJ S 24 (fun _ => 0))) 54 [some (.ref (E.1 0)), some (.int (nI t)), some (.int (nI p)), some (.int (nI q)), some (.int f)] []
            refine r_aload_n (pc := 54) C dX7_add_54 rfl ?_
            refine r_getf (pc := 55) C dX7_add_55 fl_RX7_35 (Ce.up (Ce.up ho (by decide)) (by omega)) rfl ?_
            refine r_aload_n (pc := 58) C dX7_add_58 rfl ?_
            refine r_getf (pc := 59) C dX7_add_59 fl_RX7_14 (Ce.up (Ce.up ho (by decide)) (by omega)) rfl ?_
            refine r_getf (pc := 62) C dX7_add_62 fl_RX7_91 (Ce.up (Ce.up hs.1 (by decide)) (by omega)) rfl ?_
            refine r_iload_n (pc := 65) C dX7_add_65 rfl ?_
            refine r_aald (pc := 66) C dX7_add_66 (Ce.up (Ce.up hs.2.1 (by omega)) (by omega)) rfl rfl rfl (by omega) (by omega) rfl ?_
            refine r_iconst (pc := 67) (v := nI 1) C dX7_add_67 (by decide +kernel) ?_
            refine r_callV (pc := 68) C dX7_add_68 cv_RX7_107 (c_X6_plusRow (Ce.up (Ce.new hw) (by omega)) (Ce.new (Ce.up hc (by omega))) hN (by omega) (Ce.up (Ce.up (hs.2.2.2.1 p (by omega)) (by omega)) (by omega)) (by omega) (nI 1)) ⟨rfl, rfl, by decide, by decide⟩ (Ce.up (Ce.new hw) (by omega)) rfl rfl (Nat.le_of_ble_eq_true rfl) ⟨Nat.zero_le _, Nat.zero_le _⟩ ?_
            rintro _ _ ⟨rfl, rfl⟩
            rw [bx_uu]
            show G M S E (0, 0) (va_up (va_up g 266 (.inr (6, [.ref (E.1 (266 + 1)), .int (nI v.1)]))) (266 + 1) (xJ S 24 (plR v.1 (v.2.1 p) (nI 1) (fun _ => 0)))) 71 [some (.ref (E.1 0)), some (.int (nI t)), some (.int (nI p)), some (.int (nI q)), some (.int f)] []
            refine r_aload_n (pc := 71) C dX7_add_71 rfl ?_
            refine r_getf (pc := 72) C dX7_add_72 fl_RX7_35 (Ce.up (Ce.up ho (by decide)) (by omega)) rfl ?_
            refine r_aload_n (pc := 75) C dX7_add_75 rfl ?_
            refine r_getf (pc := 76) C dX7_add_76 fl_RX7_14 (Ce.up (Ce.up ho (by decide)) (by omega)) rfl ?_
            refine r_getf (pc := 79) C dX7_add_79 fl_RX7_91 (Ce.up (Ce.up hs.1 (by decide)) (by omega)) rfl ?_
            refine r_iload_n (pc := 82) C dX7_add_82 rfl ?_
            refine r_aald (pc := 83) C dX7_add_83 (Ce.up (Ce.up hs.2.1 (by omega)) (by omega)) rfl rfl rfl (by omega) (by omega) rfl ?_
            refine r_iload (pc := 84) C dX7_add_84 rfl ?_
            refine r_callV (pc := 86) C dX7_add_86 cv_RX7_107 (c_X6_plusRow (Ce.up (Ce.new hw) (by omega)) (Ce.new (Ce.up hc (by omega))) hN (by omega) (Ce.up (Ce.up (hs.2.2.2.1 q (by omega)) (by omega)) (by omega)) (by omega) f) ⟨rfl, rfl, by decide, by decide⟩ (Ce.up (Ce.new hw) (by omega)) rfl rfl (Nat.le_of_ble_eq_true rfl) ⟨Nat.zero_le _, Nat.zero_le _⟩ ?_
            rintro _ _ ⟨rfl, rfl⟩
            rw [bx_uu]
            show G M S E (0, 0) (va_up (va_up g 266 (.inr (6, [.ref (E.1 (266 + 1)), .int (nI v.1)]))) (266 + 1) (xJ S 24 (plR v.1 (v.2.1 q) f (plR v.1 (v.2.1 p) (nI 1) (fun _ => 0))))) 89 [some (.ref (E.1 0)), some (.int (nI t)), some (.int (nI p)), some (.int (nI q)), some (.int f)] []
            have hf2 : Fr g (va_up (va_up g 266 (.inr (6, [.ref (E.1 (266 + 1)), .int (nI v.1)]))) (266 + 1) (xJ S 24 (plR v.1 (v.2.1 q) f (plR v.1 (v.2.1 p) (nI 1) (fun _ => 0))))) 253 270 := ((Fr.rf.up (by omega) (by omega)).up (by omega) (by omega))
            have hB2 := hB.scr hf2 ⟨⟨v0, ((hp0.out (by omega)).out (by omega))⟩, (Wd.of (Ce.up (Ce.new hw) (by omega)) (Ce.new (Ce.up hc (by omega)))), (Wd.of (Ce.up (Ce.up hw2 (by decide)) (by omega)) (Ce.up (Ce.up hc2 (by omega)) (by omega)))⟩
            refine r_aload_n (pc := 89) C dX7_add_89 rfl ?_
            refine r_iload_n (pc := 90) C dX7_add_90 rfl ?_
            refine r_callV (pc := 91) C dX7_add_91 cv_RX7_111 (c_X7_keepResult hB2 hO (Ce.up (Ce.new hw) (by omega)) (Ce.new (Ce.up hc (by omega))) t ht) ⟨rfl, rfl, by decide, by decide⟩ (Ce.up (Ce.up ho (by decide)) (by omega)) rfl rfl (Nat.le_of_ble_eq_true rfl) ⟨Nat.zero_le _, Nat.zero_le _⟩ ?_
            rintro _ g3 ⟨_, rfl, rfl, hB3, hF3⟩
            show G M S E (0, 0) g3 94 [some (.ref (E.1 0)), some (.int (nI t)), some (.int (nI p)), some (.int (nI q)), some (.int f)] [.int ((kpR v.1 (plR v.1 (v.2.1 q) f (plR v.1 (v.2.1 p) (nI 1) (fun _ => 0))) v.2.1 t).1)]
            exact r_iret (pc := 94) C Z dX7_add_94 rfl (by rw [show oAdd (hsn, v, rem, v2, rem2, pt, inp, out, sl) (nI t) (nI p) (nI q) f = kp (hsn, v, rem, v2, rem2, pt, inp, out, sl) (plR v.1 (v.2.1 q) f (plR v.1 (v.2.1 p) (nI 1) (fun _ => 0))) t by simp only [oAdd, h4, h11, h18, h28, h35, iN_nI (show t < 2 ^ 31 by omega), iN_nI (show p < 2 ^ 31 by omega), iN_nI (show q < 2 ^ 31 by omega), cond_true, cond_false, if_true, if_false, not_true_eq_false, not_false_eq_true, ↓reduceIte]]; exact ⟨rfl, hB3, (hf2.wide (by omega) (by omega)).tr hF3 (by omega) (by omega)⟩)
          · refine r_iconst (pc := 38) (v := (-1)) C dX7_add_38 (by decide +kernel) ?_
            exact r_iret (pc := 39) C Z dX7_add_39 rfl (by rw [show oAdd (hsn, v, rem, v2, rem2, pt, inp, out, sl) (nI t) (nI p) (nI q) f = (-1, (hsn, v, rem, v2, rem2, pt, inp, out, sl)) by simp only [oAdd, h4, h11, h18, h28, h35, iN_nI (show t < 2 ^ 31 by omega), iN_nI (show p < 2 ^ 31 by omega), iN_nI (show q < 2 ^ 31 by omega), cond_true, cond_false, if_true, if_false, not_true_eq_false, not_false_eq_true, ↓reduceIte]]; exact ⟨rfl, hB, Fr.rf⟩)
      · have h18 := b_f h18
        refine r_bipush (pc := 21) (v := (-2)) C dX7_add_21 (by decide +kernel) ?_
        exact r_iret (pc := 23) C Z dX7_add_23 rfl (by rw [show oAdd (hsn, v, rem, v2, rem2, pt, inp, out, sl) x y z f = (-2, (hsn, v, rem, v2, rem2, pt, inp, out, sl)) by simp only [oAdd, h4, h11, h18, cond_true, cond_false, if_true, if_false, not_true_eq_false, not_false_eq_true, ↓reduceIte]]; exact ⟨rfl, hB, Fr.rf⟩)
set_option maxHeartbeats 4000000 in
set_option maxRecDepth 100000 in
theorem c_X7_multiply {S : ST} {E : ET} {g : Nat → va_E} {hsn : Bool} {v v2 : SV} {rem rem2 : Nat → PV} {pt inp : Nat × (Nat → Nat)} {out : BV} {sl : Nat → SlV} (hB : BC S E g (hsn, v, rem, v2, rem2, pt, inp, out, sl)) (hO : SOk v) (x y z : Int32) : CtI S E yX7_multiply cX7_multiply 4 (Option.some FieldType.int) rmX7_multiply [.ref (E.1 0), .int x, .int y, .int z] g (fun u g' => u = (oMul (hsn, v, rem, v2, rem2, pt, inp, out, sl) x y z).1 ∧ BC S E g' (oMul (hsn, v, rem, v2, rem2, pt, inp, out, sl) x y z).2 ∧ Fr g g' 0 286) := by
  refine Ct.of RX7 (by decide +kernel) rfl (Nat.le_of_ble_eq_true rfl) (fun M C Z => ?_)
  refine G.eq (pc' := 0) (vs' := [some (.ref (E.1 0)), some (.int x), some (.int y), some (.int z)]) (st' := []) ?_
  obtain ⟨ho, hL, hV, hSc, hWy, hPt, hIn, hOu, hSl⟩ := id hB
  have ho : Ce E g 0 (.inr (7, [.ref (E.1 1), .ref (E.1 127), .int (b2i hsn), .ref (E.1 253), .ref (E.1 266), .ref (E.1 268), .ref (E.1 270), .ref (E.1 271), .ref (E.1 273), .ref (E.1 275), .ref (E.1 277)])) := ho
  have hL : StL S E g 1 v rem := hL
  obtain ⟨pi, ra, hs, hl⟩ := id hL
  obtain ⟨hN4, hN, hr1⟩ := id hO
  obtain ⟨⟨v0, hp0⟩, ⟨N1, c1, hw, hc⟩, ⟨N2, c2, hw2, hc2⟩⟩ := id hSc
  refine r_iload_n (pc := 0) C dX7_multiply_0 rfl ?_
  refine r_callS (pc := 1) C dX7_multiply_1 cs_RX7_82 (c_X7_isRegister x) ⟨rfl, rfl, by decide, by decide⟩ rfl rfl (Nat.le_of_ble_eq_true rfl) ⟨Nat.zero_le _, Nat.zero_le _⟩ ?_
  rintro _ _ ⟨_, rfl, rfl, rfl⟩
  show G M S E (0, 0) g 4 [some (.ref (E.1 0)), some (.int x), some (.int y), some (.int z)] [.int (b2i (hix 6 x))]
  refine r_if_eq (pc := 4) (tgt := 21) C dX7_multiply_4 (by decide) (fun h4 => ?_) (fun h4 => ?_)
  · have h4 := b_f h4
    refine r_bipush (pc := 21) (v := (-2)) C dX7_multiply_21 (by decide +kernel) ?_
    exact r_iret (pc := 23) C Z dX7_multiply_23 rfl (by rw [show oMul (hsn, v, rem, v2, rem2, pt, inp, out, sl) x y z = (-2, (hsn, v, rem, v2, rem2, pt, inp, out, sl)) by simp only [oMul, h4, cond_true, cond_false, if_true, if_false, not_true_eq_false, not_false_eq_true, ↓reduceIte]]; exact ⟨rfl, hB, Fr.rf⟩)
  · have h4 := b_t h4
    refine r_iload_n (pc := 7) C dX7_multiply_7 rfl ?_
    refine r_callS (pc := 8) C dX7_multiply_8 cs_RX7_82 (c_X7_isRegister y) ⟨rfl, rfl, by decide, by decide⟩ rfl rfl (Nat.le_of_ble_eq_true rfl) ⟨Nat.zero_le _, Nat.zero_le _⟩ ?_
    rintro _ _ ⟨_, rfl, rfl, rfl⟩
    show G M S E (0, 0) g 11 [some (.ref (E.1 0)), some (.int x), some (.int y), some (.int z)] [.int (b2i (hix 6 y))]
    refine r_if_eq (pc := 11) (tgt := 21) C dX7_multiply_11 (by decide) (fun h11 => ?_) (fun h11 => ?_)
    · have h11 := b_f h11
      refine r_bipush (pc := 21) (v := (-2)) C dX7_multiply_21 (by decide +kernel) ?_
      exact r_iret (pc := 23) C Z dX7_multiply_23 rfl (by rw [show oMul (hsn, v, rem, v2, rem2, pt, inp, out, sl) x y z = (-2, (hsn, v, rem, v2, rem2, pt, inp, out, sl)) by simp only [oMul, h4, h11, cond_true, cond_false, if_true, if_false, not_true_eq_false, not_false_eq_true, ↓reduceIte]]; exact ⟨rfl, hB, Fr.rf⟩)
    · have h11 := b_t h11
      refine r_iload_n (pc := 14) C dX7_multiply_14 rfl ?_
      refine r_callS (pc := 15) C dX7_multiply_15 cs_RX7_82 (c_X7_isRegister z) ⟨rfl, rfl, by decide, by decide⟩ rfl rfl (Nat.le_of_ble_eq_true rfl) ⟨Nat.zero_le _, Nat.zero_le _⟩ ?_
      rintro _ _ ⟨_, rfl, rfl, rfl⟩
      show G M S E (0, 0) g 18 [some (.ref (E.1 0)), some (.int x), some (.int y), some (.int z)] [.int (b2i (hix 6 z))]
      refine r_if_ne (pc := 18) (tgt := 24) C dX7_multiply_18 (by decide) (fun h18 => ?_) (fun h18 => ?_)
      · have h18 := b_t h18
        obtain ⟨t, rfl, ht⟩ := hix_nat h4 (by omega)
        obtain ⟨p, rfl, hp⟩ := hix_nat h11 (by omega)
        obtain ⟨q, rfl, hq⟩ := hix_nat h18 (by omega)
        refine r_aload_n (pc := 24) C dX7_multiply_24 rfl ?_
        refine r_getf (pc := 25) C dX7_multiply_25 fl_RX7_35 ho rfl ?_
        refine r_aload_n (pc := 28) C dX7_multiply_28 rfl ?_
        refine r_getf (pc := 29) C dX7_multiply_29 fl_RX7_14 ho rfl ?_
        refine r_getf (pc := 32) C dX7_multiply_32 fl_RX7_91 hs.1 rfl ?_
        refine r_iload_n (pc := 35) C dX7_multiply_35 rfl ?_
        refine r_aald (pc := 36) C dX7_multiply_36 hs.2.1 rfl rfl rfl (by omega) (by omega) rfl ?_
        refine r_aload_n (pc := 37) C dX7_multiply_37 rfl ?_
        refine r_getf (pc := 38) C dX7_multiply_38 fl_RX7_14 ho rfl ?_
        refine r_getf (pc := 41) C dX7_multiply_41 fl_RX7_91 hs.1 rfl ?_
        refine r_iload_n (pc := 44) C dX7_multiply_44 rfl ?_
        refine r_aald (pc := 45) C dX7_multiply_45 hs.2.1 rfl rfl rfl (by omega) (by omega) rfl ?_
        refine r_aload_n (pc := 46) C dX7_multiply_46 rfl ?_
        refine r_getf (pc := 47) C dX7_multiply_47 fl_RX7_14 ho rfl ?_
        refine r_getf (pc := 50) C dX7_multiply_50 fl_RX7_78 hs.1 rfl ?_
        refine r_callV (pc := 53) C dX7_multiply_53 cv_RX7_115 (c_X6_setProduct v.1 hw hc hN (by omega) (hs.2.2.2.1 p (by omega)) (hs.2.2.2.1 q (by omega)) (by omega) (by omega) (by omega) (by omega)) ⟨rfl, rfl, by decide, by decide⟩ hw rfl rfl (Nat.le_of_ble_eq_true rfl) ⟨Nat.zero_le _, Nat.zero_le _⟩ ?_
        rintro _ _ ⟨rfl, rfl⟩
        show G M S E (0, 0) (va_up (va_up g 266 (.inr (6, [.ref (E.1 (266 + 1)), .int (nI v.1)]))) (266 + 1) (xJ S 24 (prF v.1 (v.2.1 p) (v.2.1 q)))) 56 [some (.ref (E.1 0)), some (.int (nI t)), some (.int (nI p)), some (.int (nI q))] []
        have hf2 : Fr g (va_up (va_up g 266 (.inr (6, [.ref (E.1 (266 + 1)), .int (nI v.1)]))) (266 + 1) (xJ S 24 (prF v.1 (v.2.1 p) (v.2.1 q)))) 253 270 := ((Fr.rf.up (by omega) (by omega)).up (by omega) (by omega))
        have hB2 := hB.scr hf2 ⟨⟨v0, ((hp0.out (by omega)).out (by omega))⟩, (Wd.of (Ce.up (Ce.new hw) (by omega)) (Ce.new (Ce.up hc (by omega)))), (Wd.of (Ce.up (Ce.up hw2 (by decide)) (by omega)) (Ce.up (Ce.up hc2 (by omega)) (by omega)))⟩
        refine r_aload_n (pc := 56) C dX7_multiply_56 rfl ?_
        refine r_iload_n (pc := 57) C dX7_multiply_57 rfl ?_
        refine r_callV (pc := 58) C dX7_multiply_58 cv_RX7_111 (c_X7_keepResult hB2 hO (Ce.up (Ce.new hw) (by omega)) (Ce.new (Ce.up hc (by omega))) t ht) ⟨rfl, rfl, by decide, by decide⟩ (Ce.up (Ce.up ho (by decide)) (by omega)) rfl rfl (Nat.le_of_ble_eq_true rfl) ⟨Nat.zero_le _, Nat.zero_le _⟩ ?_
        rintro _ g3 ⟨_, rfl, rfl, hB3, hF3⟩
        show G M S E (0, 0) g3 61 [some (.ref (E.1 0)), some (.int (nI t)), some (.int (nI p)), some (.int (nI q))] [.int ((kpR v.1 (prF v.1 (v.2.1 p) (v.2.1 q)) v.2.1 t).1)]
        exact r_iret (pc := 61) C Z dX7_multiply_61 rfl (by rw [show oMul (hsn, v, rem, v2, rem2, pt, inp, out, sl) (nI t) (nI p) (nI q) = kp (hsn, v, rem, v2, rem2, pt, inp, out, sl) (prF v.1 (v.2.1 p) (v.2.1 q)) t by simp only [oMul, h4, h11, h18, iN_nI (show t < 2 ^ 31 by omega), iN_nI (show p < 2 ^ 31 by omega), iN_nI (show q < 2 ^ 31 by omega), cond_true, cond_false, if_true, if_false, not_true_eq_false, not_false_eq_true, ↓reduceIte]]; exact ⟨rfl, hB3, (hf2.wide (by omega) (by omega)).tr hF3 (by omega) (by omega)⟩)
      · have h18 := b_f h18
        refine r_bipush (pc := 21) (v := (-2)) C dX7_multiply_21 (by decide +kernel) ?_
        exact r_iret (pc := 23) C Z dX7_multiply_23 rfl (by rw [show oMul (hsn, v, rem, v2, rem2, pt, inp, out, sl) x y z = (-2, (hsn, v, rem, v2, rem2, pt, inp, out, sl)) by simp only [oMul, h4, h11, h18, cond_true, cond_false, if_true, if_false, not_true_eq_false, not_false_eq_true, ↓reduceIte]]; exact ⟨rfl, hB, Fr.rf⟩)
