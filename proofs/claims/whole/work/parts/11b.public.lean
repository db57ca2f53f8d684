def tE (N p : Nat) (f : Int32) (c : Nat → Int64) : Nat → Int64 := if 0 ≤ f then tmE N p (iN f) c else ovE N p (iN (-f)) c
theorem nat_ge0 {x : Int32} (h : ¬ x < 0) : ∃ t : Nat, x = nI t ∧ t < 2 ^ 31 := by
  obtain ⟨t, h1, _, h2⟩ := nat_ge (a := 0) (by decide) h
  exact ⟨t, h1, h2⟩
theorem neg_nat {x : Int32} (h : x < 0) (h3 : ¬ x < -3) : ∃ t : Nat, x = -(nI t) ∧ 1 ≤ t ∧ t ≤ 3 := by
  have a := Int32.lt_iff_toInt_lt.mp h
  have b := Int32.le_iff_toInt_le.mp (Int32.not_lt.mp h3)
  have c : (-3 : Int32).toInt = -3 := by decide
  have d : (0 : Int32).toInt = 0 := by decide
  rw [c] at b
  rw [d] at a
  refine ⟨(-x.toInt).toNat, ?_, by omega, by omega⟩
  apply Int32.toInt.inj
  rw [ng_toInt (by omega)]
  omega
theorem c_tE {S : ST} {E : ET} {g : Nat → va_E} {iw ic N : Nat} {c : Nat → Int64} (hw : Ce E g iw (.inr (6, [.ref (E.1 ic), .int (nI N)]))) (hc : Ce E g ic (xJ S 24 c)) (hN : N ≤ 24) (hne : iw ≠ ic) (p : Nat) (f : Int32) (hp : p < 2 ^ 20) (h1 : ¬ f < -3) (h2 : f ≤ nI 3) : CtV S E yX6_timesFactorToThe cX6_timesFactorToThe 4 none rmX6_timesFactorToThe [.ref (E.1 iw), .int (nI p), .int f] g (fun g' => g' = va_up g ic (xJ S 24 (tE N p f c))) := by
  by_cases h0 : f < 0
  · obtain ⟨e, rfl, he1, he3⟩ := neg_nat h0 h1
    have := c_X6_timesFactorToThe_neg hw hc hN hne p e hp (by omega)
    rwa [show tE N p (-(nI e)) c = ovE N p e c by unfold tE; rw [if_neg (Int32.not_le.mpr h0), Int32.neg_neg, iN_nI (by omega)]]
  · obtain ⟨e, rfl, he⟩ := nat_ge0 h0
    have he3 := c_le he (by decide) h2
    have := c_X6_timesFactorToThe hw hc hN hne p e hp (by omega)
    rwa [show tE N p (nI e) c = tmE N p e c by unfold tE; rw [if_pos (Int32.not_lt.mp h0), iN_nI (by omega)]]
def pdF (N : Nat) (m x f : Int32) (t : Nat) : Nat → Int64 := it (fun j c => bif inS (nI (1 + j)) m x then tE N (1 + j) f c else c) t (plT N 0 (nI 1) (fun _ => 0))
theorem pd_t {N : Nat} {m x f : Int32} {t : Nat} (h : inS (nI (1 + t)) m x = true) : pdF N m x f (t + 1) = tE N (1 + t) f (pdF N m x f t) := by
  show (bif inS (nI (1 + t)) m x then tE N (1 + t) f (pdF N m x f t) else (pdF N m x f t)) = _
  rw [h]; rfl
theorem pd_f {N : Nat} {m x f : Int32} {t : Nat} (h : inS (nI (1 + t)) m x = false) : pdF N m x f (t + 1) = pdF N m x f t := by
  show (bif inS (nI (1 + t)) m x then tE N (1 + t) f (pdF N m x f t) else (pdF N m x f t)) = _
  rw [h]; rfl
def oPro (k : KV) (x m z f : Int32) : Int32 × KV := bif hix 6 x then (bif rsB m z then (if f < -3 then (-1, k) else if f ≤ nI 3 then kp k (pdF k.2.1.1 m z f (k.2.1.1 - 1)) (iN x) else (-1, k)) else (-1, k)) else (-2, k)
def oDif (k : KV) (x y : Int32) : Int32 := bif hix 6 x then (bif hix 6 y then difP k.2.1.1 (k.2.1.2.1 (iN x)) (k.2.1.2.1 (iN y)) else -2) else -2
def vaF (N : Nat) (a : Nat → Int32) (p : Int64) (t : Nat) : Int64 := it (fun j s => flM (s * p + (a (N - j - 1)).toInt64) 1000003) t 0
def oVal (k : KV) (x y : Int32) : Int32 := bif hix 6 x then (vaF k.2.1.1 (k.2.1.2.1 (iN x)) (flM y.toInt64 1000003) k.2.1.1).toInt32 else -2
def oRnk (k : KV) (x : Int32) : Int32 := if x < 0 then -1 else if x < nI 6 then fd (fun p => decide (nI (cntN (fun j => cbB k.2.1.1 (k.2.1.2.1 j) (k.2.1.2.1 p) j p) 6) = x)) (-1) 6 0 else -1
def oUni (k : KV) (x : Int32) : Int32 × KV := if x = 0 then (nI 0, kSt k (k.2.1.1, k.2.1.2.1, (0, unA k.2.1.1 0, uBe), nI 0, 0)) else if x = nI 1 then (nI 0, kSt k (k.2.1.1, k.2.1.2.1, (1, unA k.2.1.1 1, uBe), nI 0, 0)) else (-1, k)
def oSeA (k : KV) (y x : Int32) : Int32 × KV := ((spA k.2.1 y x).1, kSt k (spA k.2.1 y x).2)
def oSeB (k : KV) (y x : Int32) : Int32 × KV := ((spB k.2.1 y x).1, kSt k (spB k.2.1 y x).2)
def oStp (k : KV) : Int32 × KV := bif sOk k.2.1.1 k.2.1.2.2.1.1 k.2.1.2.2.1.2.2 then (k.2.1.2.2.2.1 + nI 1, (k.1, (k.2.1.1, k.2.1.2.1, (k.2.1.2.2.1.1, (fun j => wrT k.2.1.1 (sAl k.2.1.1 k.2.1.2.2.1.1 k.2.1.2.2.1.2.1 j)), (fun j => wrT k.2.1.1 (sBe k.2.1.1 k.2.1.2.2.1.1 k.2.1.2.2.1.2.2 j))), k.2.1.2.2.2.1 + nI 1, cG k.2.1.2.2.2.2), rmG k.2.1.2.2.2.2 k.2.2.1 k.2.1.2.2.1, k.2.2.2)) else (-3, k)
def oUnd (k : KV) : Int32 × KV := if k.2.1.2.2.2.2 = 0 then (-5, k) else (k.2.1.2.2.2.1 - nI 1, kSt k (k.2.1.1, k.2.1.2.1, k.2.2.1 (k.2.1.2.2.2.2 - 1), k.2.1.2.2.2.1 - nI 1, k.2.1.2.2.2.2 - 1))
def oCpA (k : KV) (x y : Int32) : Int32 × KV := ((cpG k.2.1.1 k.2.1.2.1 x y k.2.1.2.2.1.2.1).1, kRg k (cpG k.2.1.1 k.2.1.2.1 x y k.2.1.2.2.1.2.1).2)
def oCpB (k : KV) (x y : Int32) : Int32 × KV := ((cpG k.2.1.1 k.2.1.2.1 x y k.2.1.2.2.1.2.2).1, kRg k (cpG k.2.1.1 k.2.1.2.1 x y k.2.1.2.2.1.2.2).2)
def oSum (k : KV) (x : Int32) : Int32 × KV := bif hix 6 x then kp k (swS k.2.1.1 k.2.1.2.2.1.1 k.2.1.2.2.1.2.2) (iN x) else (-2, k)
def oPrS (k : KV) (x : Int32) : Int32 × KV := bif hix 6 x then kp k (ovFs k.2.1.1 (k.2.1.2.2.1.1 + 1) k.2.1.1 (swS k.2.1.1 k.2.1.2.2.1.1 k.2.1.2.2.1.2.1)) (iN x) else (-2, k)
set_option maxHeartbeats 4000000 in
set_option maxRecDepth 100000 in
theorem c_X7_divide {S : ST} {E : ET} {g : Nat → va_E} {hsn : Bool} {v v2 : SV} {rem rem2 : Nat → PV} {pt inp : Nat × (Nat → Nat)} {out : BV} {sl : Nat → SlV} (hB : BC S E g (hsn, v, rem, v2, rem2, pt, inp, out, sl)) (hO : SOk v) (x y z : Int32) : CtI S E yX7_divide cX7_divide 5 (Option.some FieldType.int) rmX7_divide [.ref (E.1 0), .int x, .int y, .int z] g (fun u g' => u = (oDiv (hsn, v, rem, v2, rem2, pt, inp, out, sl) x y z).1 ∧ BC S E g' (oDiv (hsn, v, rem, v2, rem2, pt, inp, out, sl) x y z).2 ∧ Fr g g' 0 286) := by
  refine Ct.of RX7 (by decide +kernel) rfl (Nat.le_of_ble_eq_true rfl) (fun M C Z => ?_)
  refine G.eq (pc' := 0) (vs' := [some (.ref (E.1 0)), some (.int x), some (.int y), some (.int z), none]) (st' := []) ?_
  obtain ⟨ho, hL, hV, hSc, hWy, hPt, hIn, hOu, hSl⟩ := id hB
  have ho : Ce E g 0 (.inr (7, [.ref (E.1 1), .ref (E.1 127), .int (b2i hsn), .ref (E.1 253), .ref (E.1 266), .ref (E.1 268), .ref (E.1 270), .ref (E.1 271), .ref (E.1 273), .ref (E.1 275), .ref (E.1 277)])) := ho
  have hL : StL S E g 1 v rem := hL
  obtain ⟨pi, ra, hs, hl⟩ := id hL
  obtain ⟨hN4, hN, hr1⟩ := id hO
  obtain ⟨⟨v0, hp0⟩, ⟨N1, c1, hw, hc⟩, ⟨N2, c2, hw2, hc2⟩⟩ := id hSc
  refine r_iload_n (pc := 0) C dX7_divide_0 rfl ?_
  refine r_callS (pc := 1) C dX7_divide_1 cs_RX7_82 (c_X7_isRegister x) ⟨rfl, rfl, by decide, by decide⟩ rfl rfl (Nat.le_of_ble_eq_true rfl) ⟨Nat.zero_le _, Nat.zero_le _⟩ ?_
  rintro _ _ ⟨_, rfl, rfl, rfl⟩
  show G M S E (0, 0) g 4 [some (.ref (E.1 0)), some (.int x), some (.int y), some (.int z), none] [.int (b2i (hix 6 x))]
  refine r_if_eq (pc := 4) (tgt := 21) C dX7_divide_4 (by decide) (fun h4 => ?_) (fun h4 => ?_)
  · have h4 := b_f h4
    refine r_bipush (pc := 21) (v := (-2)) C dX7_divide_21 (by decide +kernel) ?_
    exact r_iret (pc := 23) C Z dX7_divide_23 rfl (by rw [show oDiv (hsn, v, rem, v2, rem2, pt, inp, out, sl) x y z = (-2, (hsn, v, rem, v2, rem2, pt, inp, out, sl)) by simp only [oDiv, h4, cond_true, cond_false, if_true, if_false, not_true_eq_false, not_false_eq_true, ↓reduceIte]]; exact ⟨rfl, hB, Fr.rf⟩)
  · have h4 := b_t h4
    refine r_iload_n (pc := 7) C dX7_divide_7 rfl ?_
    refine r_callS (pc := 8) C dX7_divide_8 cs_RX7_82 (c_X7_isRegister y) ⟨rfl, rfl, by decide, by decide⟩ rfl rfl (Nat.le_of_ble_eq_true rfl) ⟨Nat.zero_le _, Nat.zero_le _⟩ ?_
    rintro _ _ ⟨_, rfl, rfl, rfl⟩
    show G M S E (0, 0) g 11 [some (.ref (E.1 0)), some (.int x), some (.int y), some (.int z), none] [.int (b2i (hix 6 y))]
    refine r_if_eq (pc := 11) (tgt := 21) C dX7_divide_11 (by decide) (fun h11 => ?_) (fun h11 => ?_)
    · have h11 := b_f h11
      refine r_bipush (pc := 21) (v := (-2)) C dX7_divide_21 (by decide +kernel) ?_
      exact r_iret (pc := 23) C Z dX7_divide_23 rfl (by rw [show oDiv (hsn, v, rem, v2, rem2, pt, inp, out, sl) x y z = (-2, (hsn, v, rem, v2, rem2, pt, inp, out, sl)) by simp only [oDiv, h4, h11, cond_true, cond_false, if_true, if_false, not_true_eq_false, not_false_eq_true, ↓reduceIte]]; exact ⟨rfl, hB, Fr.rf⟩)
    · have h11 := b_t h11
      refine r_iload_n (pc := 14) C dX7_divide_14 rfl ?_
      refine r_callS (pc := 15) C dX7_divide_15 cs_RX7_82 (c_X7_isRegister z) ⟨rfl, rfl, by decide, by decide⟩ rfl rfl (Nat.le_of_ble_eq_true rfl) ⟨Nat.zero_le _, Nat.zero_le _⟩ ?_
      rintro _ _ ⟨_, rfl, rfl, rfl⟩
      show G M S E (0, 0) g 18 [some (.ref (E.1 0)), some (.int x), some (.int y), some (.int z), none] [.int (b2i (hix 6 z))]
      refine r_if_ne (pc := 18) (tgt := 24) C dX7_divide_18 (by decide) (fun h18 => ?_) (fun h18 => ?_)
      · have h18 := b_t h18
        obtain ⟨t, rfl, ht⟩ := hix_nat h4 (by omega)
        obtain ⟨p, rfl, hp⟩ := hix_nat h11 (by omega)
        obtain ⟨q, rfl, hq⟩ := hix_nat h18 (by omega)
        refine r_aload_n (pc := 24) C dX7_divide_24 rfl ?_
        refine r_getf (pc := 25) C dX7_divide_25 fl_RX7_14 ho rfl ?_
        refine r_getf (pc := 28) C dX7_divide_28 fl_RX7_91 hs.1 rfl ?_
        refine r_iload_n (pc := 31) C dX7_divide_31 rfl ?_
        refine r_aald (pc := 32) C dX7_divide_32 hs.2.1 rfl rfl rfl (by omega) (by omega) rfl ?_
        refine r_iconst (pc := 33) (v := nI 0) C dX7_divide_33 (by decide +kernel) ?_
        refine r_iald (pc := 34) C dX7_divide_34 (hs.2.2.2.1 q (by omega)) rfl (by omega) (by omega) ?_
        refine r_istore (pc := 35) C dX7_divide_35 (by decide) ?_
        refine G.eq (pc' := 37) (vs' := [some (.ref (E.1 0)), some (.int (nI t)), some (.int (nI p)), some (.int (nI q)), some (.int ((v.2.1 q) 0))]) (st' := []) ?_
        refine r_iload (pc := 37) C dX7_divide_37 rfl ?_
        refine r_iconst (pc := 39) (v := nI 1) C dX7_divide_39 (by decide +kernel) ?_
        refine r_icmp_eq (pc := 40) (tgt := 52) C dX7_divide_40 (by decide) (fun h40 => ?_) (fun h40 => ?_)
        · refine r_aload_n (pc := 52) C dX7_divide_52 rfl ?_
          refine r_getf (pc := 53) C dX7_divide_53 fl_RX7_35 ho rfl ?_
          refine r_aload_n (pc := 56) C dX7_divide_56 rfl ?_
          refine r_getf (pc := 57) C dX7_divide_57 fl_RX7_14 ho rfl ?_
          refine r_getf (pc := 60) C dX7_divide_60 fl_RX7_91 hs.1 rfl ?_
          refine r_iload_n (pc := 63) C dX7_divide_63 rfl ?_
          refine r_aald (pc := 64) C dX7_divide_64 hs.2.1 rfl rfl rfl (by omega) (by omega) rfl ?_
          refine r_aload_n (pc := 65) C dX7_divide_65 rfl ?_
          refine r_getf (pc := 66) C dX7_divide_66 fl_RX7_14 ho rfl ?_
          refine r_getf (pc := 69) C dX7_divide_69 fl_RX7_91 hs.1 rfl ?_
          refine r_iload_n (pc := 72) C dX7_divide_72 rfl ?_
          refine r_aald (pc := 73) C dX7_divide_73 hs.2.1 rfl rfl rfl (by omega) (by omega) rfl ?_
          refine r_aload_n (pc := 74) C dX7_divide_74 rfl ?_
          refine r_getf (pc := 75) C dX7_divide_75 fl_RX7_14 ho rfl ?_
          refine r_getf (pc := 78) C dX7_divide_78 fl_RX7_78 hs.1 rfl ?_
          refine r_callV (pc := 81) C dX7_divide_81 cv_RX7_119 (c_X6_setQuotient v.1 hw hc hN (by omega) (hs.2.2.2.1 p (by omega)) (hs.2.2.2.1 q (by omega)) (by omega) (by omega) (by omega) (by omega)) ⟨rfl, rfl, by decide, by decide⟩ hw rfl rfl (Nat.le_of_ble_eq_true rfl) ⟨Nat.zero_le _, Nat.zero_le _⟩ ?_
          rintro _ _ ⟨_, rfl, f, rfl, rfl, hqf⟩
          show G M S E (0, 0) (va_up (va_up g 266 (.inr (6, [.ref (E.1 (266 + 1)), .int (nI v.1)]))) (266 + 1) (xJ S 24 f)) 84 [some (.ref (E.1 0)), some (.int (nI t)), some (.int (nI p)), some (.int (nI q)), some (.int ((v.2.1 q) 0))] [.int (b2i (quB (v.2.1 p) (v.2.1 q) v.1))]
          have he : oDiv (hsn, v, rem, v2, rem2, pt, inp, out, sl) (nI t) (nI p) (nI q) = oDiv1 (hsn, v, rem, v2, rem2, pt, inp, out, sl) (nI t) (nI p) (nI q) := by simp only [oDiv, h4, h11, h18, cond_true, iN_nI (show t < 2 ^ 31 by omega), iN_nI (show p < 2 ^ 31 by omega), iN_nI (show q < 2 ^ 31 by omega)]; rw [if_pos h40]
          refine r_if_ne (pc := 84) (tgt := 90) C dX7_divide_84 (by decide) (fun h84 => ?_) (fun h84 => ?_)
          · have h84 := b_t h84
            have hf := hqf h84
            subst hf
            have hf2 : Fr g (va_up (va_up g 266 (.inr (6, [.ref (E.1 (266 + 1)), .int (nI v.1)]))) (266 + 1) (xJ S 24 (quF (v.2.1 p) (v.2.1 q) v.1))) 253 270 := ((Fr.rf.up (by omega) (by omega)).up (by omega) (by omega))
            have hB2 := hB.scr hf2 ⟨⟨v0, ((hp0.out (by omega)).out (by omega))⟩, (Wd.of (Ce.up (Ce.new hw) (by omega)) (Ce.new (Ce.up hc (by omega)))), (Wd.of (Ce.up (Ce.up hw2 (by decide)) (by omega)) (Ce.up (Ce.up hc2 (by omega)) (by omega)))⟩
            refine r_aload_n (pc := 90) C dX7_divide_90 rfl ?_
            refine r_iload_n (pc := 91) C dX7_divide_91 rfl ?_
            refine r_callV (pc := 92) C dX7_divide_92 cv_RX7_111 (c_X7_keepResult hB2 hO (Ce.up (Ce.new hw) (by omega)) (Ce.new (Ce.up hc (by omega))) t ht) ⟨rfl, rfl, by decide, by decide⟩ (Ce.up (Ce.up ho (by decide)) (by omega)) rfl rfl (Nat.le_of_ble_eq_true rfl) ⟨Nat.zero_le _, Nat.zero_le _⟩ ?_
            rintro _ g3 ⟨_, rfl, rfl, hB3, hF3⟩
            show G M S E (0, 0) g3 95 [some (.ref (E.1 0)), some (.int (nI t)), some (.int (nI p)), some (.int (nI q)), some (.int ((v.2.1 q) 0))] [.int ((kpR v.1 (quF (v.2.1 p) (v.2.1 q) v.1) v.2.1 t).1)]
            exact r_iret (pc := 95) C Z dX7_divide_95 rfl (by rw [he, show oDiv1 (hsn, v, rem, v2, rem2, pt, inp, out, sl) (nI t) (nI p) (nI q) = kp (hsn, v, rem, v2, rem2, pt, inp, out, sl) (quF (v.2.1 p) (v.2.1 q) v.1) t by simp only [oDiv1, h84, cond_true, iN_nI (show t < 2 ^ 31 by omega), iN_nI (show p < 2 ^ 31 by omega), iN_nI (show q < 2 ^ 31 by omega)]]; exact ⟨rfl, hB3, (hf2.wide (by omega) (by omega)).tr hF3 (by omega) (by omega)⟩)
          · have h84 := b_f h84
            have hf2 : Fr g (va_up (va_up g 266 (.inr (6, [.ref (E.1 (266 + 1)), .int (nI v.1)]))) (266 + 1) (xJ S 24 f)) 253 270 := ((Fr.rf.up (by omega) (by omega)).up (by omega) (by omega))
            have hB2 := hB.scr hf2 ⟨⟨v0, ((hp0.out (by omega)).out (by omega))⟩, (Wd.of (Ce.up (Ce.new hw) (by omega)) (Ce.new (Ce.up hc (by omega)))), (Wd.of (Ce.up (Ce.up hw2 (by decide)) (by omega)) (Ce.up (Ce.up hc2 (by omega)) (by omega)))⟩
            refine r_bipush (pc := 87) (v := (-3)) C dX7_divide_87 (by decide +kernel) ?_
            exact r_iret (pc := 89) C Z dX7_divide_89 rfl (by rw [he, show oDiv1 (hsn, v, rem, v2, rem2, pt, inp, out, sl) (nI t) (nI p) (nI q) = (-3, (hsn, v, rem, v2, rem2, pt, inp, out, sl)) by simp only [oDiv1, h84, cond_false, iN_nI (show t < 2 ^ 31 by omega), iN_nI (show p < 2 ^ 31 by omega), iN_nI (show q < 2 ^ 31 by omega)]]; exact ⟨rfl, hB2, hf2.wide (by omega) (by omega)⟩)
        · refine r_iload (pc := 43) C dX7_divide_43 rfl ?_
          refine r_iconst (pc := 45) (v := (-1)) C dX7_divide_45 (by decide +kernel) ?_
          refine r_icmp_eq (pc := 46) (tgt := 52) C dX7_divide_46 (by decide) (fun h46 => ?_) (fun h46 => ?_)
          · refine r_aload_n (pc := 52) C dX7_divide_52 rfl ?_
            refine r_getf (pc := 53) C dX7_divide_53 fl_RX7_35 ho rfl ?_
            refine r_aload_n (pc := 56) C dX7_divide_56 rfl ?_
            refine r_getf (pc := 57) C dX7_divide_57 fl_RX7_14 ho rfl ?_
            refine r_getf (pc := 60) C dX7_divide_60 fl_RX7_91 hs.1 rfl ?_
            refine r_iload_n (pc := 63) C dX7_divide_63 rfl ?_
            refine r_aald (pc := 64) C dX7_divide_64 hs.2.1 rfl rfl rfl (by omega) (by omega) rfl ?_
            refine r_aload_n (pc := 65) C dX7_divide_65 rfl ?_
            refine r_getf (pc := 66) C dX7_divide_66 fl_RX7_14 ho rfl ?_
            refine r_getf (pc := 69) C dX7_divide_69 fl_RX7_91 hs.1 rfl ?_
            refine r_iload_n (pc := 72) C dX7_divide_72 rfl ?_
            refine r_aald (pc := 73) C dX7_divide_73 hs.2.1 rfl rfl rfl (by omega) (by omega) rfl ?_
            refine r_aload_n (pc := 74) C dX7_divide_74 rfl ?_
            refine r_getf (pc := 75) C dX7_divide_75 fl_RX7_14 ho rfl ?_
            refine r_getf (pc := 78) C dX7_divide_78 fl_RX7_78 hs.1 rfl ?_
            refine r_callV (pc := 81) C dX7_divide_81 cv_RX7_119 (c_X6_setQuotient v.1 hw hc hN (by omega) (hs.2.2.2.1 p (by omega)) (hs.2.2.2.1 q (by omega)) (by omega) (by omega) (by omega) (by omega)) ⟨rfl, rfl, by decide, by decide⟩ hw rfl rfl (Nat.le_of_ble_eq_true rfl) ⟨Nat.zero_le _, Nat.zero_le _⟩ ?_
            rintro _ _ ⟨_, rfl, f, rfl, rfl, hqf⟩
            show G M S E (0, 0) (va_up (va_up g 266 (.inr (6, [.ref (E.1 (266 + 1)), .int (nI v.1)]))) (266 + 1) (xJ S 24 f)) 84 [some (.ref (E.1 0)), some (.int (nI t)), some (.int (nI p)), some (.int (nI q)), some (.int ((v.2.1 q) 0))] [.int (b2i (quB (v.2.1 p) (v.2.1 q) v.1))]
            have he : oDiv (hsn, v, rem, v2, rem2, pt, inp, out, sl) (nI t) (nI p) (nI q) = oDiv1 (hsn, v, rem, v2, rem2, pt, inp, out, sl) (nI t) (nI p) (nI q) := by simp only [oDiv, h4, h11, h18, cond_true, iN_nI (show t < 2 ^ 31 by omega), iN_nI (show p < 2 ^ 31 by omega), iN_nI (show q < 2 ^ 31 by omega)]; rw [if_neg h40, if_pos h46]
            refine r_if_ne (pc := 84) (tgt := 90) C dX7_divide_84 (by decide) (fun h84 => ?_) (fun h84 => ?_)
            · have h84 := b_t h84
              have hf := hqf h84
              subst hf
              have hf2 : Fr g (va_up (va_up g 266 (.inr (6, [.ref (E.1 (266 + 1)), .int (nI v.1)]))) (266 + 1) (xJ S 24 (quF (v.2.1 p) (v.2.1 q) v.1))) 253 270 := ((Fr.rf.up (by omega) (by omega)).up (by omega) (by omega))
              have hB2 := hB.scr hf2 ⟨⟨v0, ((hp0.out (by omega)).out (by omega))⟩, (Wd.of (Ce.up (Ce.new hw) (by omega)) (Ce.new (Ce.up hc (by omega)))), (Wd.of (Ce.up (Ce.up hw2 (by decide)) (by omega)) (Ce.up (Ce.up hc2 (by omega)) (by omega)))⟩
              refine r_aload_n (pc := 90) C dX7_divide_90 rfl ?_
              refine r_iload_n (pc := 91) C dX7_divide_91 rfl ?_
              refine r_callV (pc := 92) C dX7_divide_92 cv_RX7_111 (c_X7_keepResult hB2 hO (Ce.up (Ce.new hw) (by omega)) (Ce.new (Ce.up hc (by omega))) t ht) ⟨rfl, rfl, by decide, by decide⟩ (Ce.up (Ce.up ho (by decide)) (by omega)) rfl rfl (Nat.le_of_ble_eq_true rfl) ⟨Nat.zero_le _, Nat.zero_le _⟩ ?_
              rintro _ g3 ⟨_, rfl, rfl, hB3, hF3⟩
              show G M S E (0, 0) g3 95 [some (.ref (E.1 0)), some (.int (nI t)), some (.int (nI p)), some (.int (nI q)), some (.int ((v.2.1 q) 0))] [.int ((kpR v.1 (quF (v.2.1 p) (v.2.1 q) v.1) v.2.1 t).1)]
              exact r_iret (pc := 95) C Z dX7_divide_95 rfl (by rw [he, show oDiv1 (hsn, v, rem, v2, rem2, pt, inp, out, sl) (nI t) (nI p) (nI q) = kp (hsn, v, rem, v2, rem2, pt, inp, out, sl) (quF (v.2.1 p) (v.2.1 q) v.1) t by simp only [oDiv1, h84, cond_true, iN_nI (show t < 2 ^ 31 by omega), iN_nI (show p < 2 ^ 31 by omega), iN_nI (show q < 2 ^ 31 by omega)]]; exact ⟨rfl, hB3, (hf2.wide (by omega) (by omega)).tr hF3 (by omega) (by omega)⟩)
            · have h84 := b_f h84
              have hf2 : Fr g (va_up (va_up g 266 (.inr (6, [.ref (E.1 (266 + 1)), .int (nI v.1)]))) (266 + 1) (xJ S 24 f)) 253 270 := ((Fr.rf.up (by omega) (by omega)).up (by omega) (by omega))
              have hB2 := hB.scr hf2 ⟨⟨v0, ((hp0.out (by omega)).out (by omega))⟩, (Wd.of (Ce.up (Ce.new hw) (by omega)) (Ce.new (Ce.up hc (by omega)))), (Wd.of (Ce.up (Ce.up hw2 (by decide)) (by omega)) (Ce.up (Ce.up hc2 (by omega)) (by omega)))⟩
              refine r_bipush (pc := 87) (v := (-3)) C dX7_divide_87 (by decide +kernel) ?_
              exact r_iret (pc := 89) C Z dX7_divide_89 rfl (by rw [he, show oDiv1 (hsn, v, rem, v2, rem2, pt, inp, out, sl) (nI t) (nI p) (nI q) = (-3, (hsn, v, rem, v2, rem2, pt, inp, out, sl)) by simp only [oDiv1, h84, cond_false, iN_nI (show t < 2 ^ 31 by omega), iN_nI (show p < 2 ^ 31 by omega), iN_nI (show q < 2 ^ 31 by omega)]]; exact ⟨rfl, hB2, hf2.wide (by omega) (by omega)⟩)
          · refine r_bipush (pc := 49) (v := (-4)) C dX7_divide_49 (by decide +kernel) ?_
            exact r_iret (pc := 51) C Z dX7_divide_51 rfl (by rw [show oDiv (hsn, v, rem, v2, rem2, pt, inp, out, sl) (nI t) (nI p) (nI q) = (-4, (hsn, v, rem, v2, rem2, pt, inp, out, sl)) by simp only [oDiv, h4, h11, h18, cond_true, iN_nI (show t < 2 ^ 31 by omega), iN_nI (show p < 2 ^ 31 by omega), iN_nI (show q < 2 ^ 31 by omega)]; rw [if_neg h40, if_neg h46]]; exact ⟨rfl, hB, Fr.rf⟩)
      · have h18 := b_f h18
        refine r_bipush (pc := 21) (v := (-2)) C dX7_divide_21 (by decide +kernel) ?_
        exact r_iret (pc := 23) C Z dX7_divide_23 rfl (by rw [show oDiv (hsn, v, rem, v2, rem2, pt, inp, out, sl) x y z = (-2, (hsn, v, rem, v2, rem2, pt, inp, out, sl)) by simp only [oDiv, h4, h11, h18, cond_true, cond_false, if_true, if_false, not_true_eq_false, not_false_eq_true, ↓reduceIte]]; exact ⟨rfl, hB, Fr.rf⟩)
set_option maxHeartbeats 4000000 in
set_option maxRecDepth 100000 in
theorem c_X7_shift {S : ST} {E : ET} {g : Nat → va_E} {hsn : Bool} {v v2 : SV} {rem rem2 : Nat → PV} {pt inp : Nat × (Nat → Nat)} {out : BV} {sl : Nat → SlV} (hB : BC S E g (hsn, v, rem, v2, rem2, pt, inp, out, sl)) (hO : SOk v) (x y z : Int32) : CtI S E yX7_shift cX7_shift 4 (Option.some FieldType.int) rmX7_shift [.ref (E.1 0), .int x, .int y, .int z] g (fun u g' => u = (oShi (hsn, v, rem, v2, rem2, pt, inp, out, sl) x y z).1 ∧ BC S E g' (oShi (hsn, v, rem, v2, rem2, pt, inp, out, sl) x y z).2 ∧ Fr g g' 0 286) := by
  refine Ct.of RX7 (by decide +kernel) rfl (Nat.le_of_ble_eq_true rfl) (fun M C Z => ?_)
  refine G.eq (pc' := 0) (vs' := [some (.ref (E.1 0)), some (.int x), some (.int y), some (.int z)]) (st' := []) ?_
  obtain ⟨ho, hL, hV, hSc, hWy, hPt, hIn, hOu, hSl⟩ := id hB
  have ho : Ce E g 0 (.inr (7, [.ref (E.1 1), .ref (E.1 127), .int (b2i hsn), .ref (E.1 253), .ref (E.1 266), .ref (E.1 268), .ref (E.1 270), .ref (E.1 271), .ref (E.1 273), .ref (E.1 275), .ref (E.1 277)])) := ho
  have hL : StL S E g 1 v rem := hL
  obtain ⟨pi, ra, hs, hl⟩ := id hL
  obtain ⟨hN4, hN, hr1⟩ := id hO
  obtain ⟨⟨v0, hp0⟩, ⟨N1, c1, hw, hc⟩, ⟨N2, c2, hw2, hc2⟩⟩ := id hSc
  refine r_iload_n (pc := 0) C dX7_shift_0 rfl ?_
  refine r_callS (pc := 1) C dX7_shift_1 cs_RX7_82 (c_X7_isRegister x) ⟨rfl, rfl, by decide, by decide⟩ rfl rfl (Nat.le_of_ble_eq_true rfl) ⟨Nat.zero_le _, Nat.zero_le _⟩ ?_
  rintro _ _ ⟨_, rfl, rfl, rfl⟩
  show G M S E (0, 0) g 4 [some (.ref (E.1 0)), some (.int x), some (.int y), some (.int z)] [.int (b2i (hix 6 x))]
  refine r_if_eq (pc := 4) (tgt := 14) C dX7_shift_4 (by decide) (fun h4 => ?_) (fun h4 => ?_)
  · have h4 := b_f h4
    refine r_bipush (pc := 14) (v := (-2)) C dX7_shift_14 (by decide +kernel) ?_
    exact r_iret (pc := 16) C Z dX7_shift_16 rfl (by rw [show oShi (hsn, v, rem, v2, rem2, pt, inp, out, sl) x y z = (-2, (hsn, v, rem, v2, rem2, pt, inp, out, sl)) by simp only [oShi, h4, cond_true, cond_false, if_true, if_false, not_true_eq_false, not_false_eq_true, ↓reduceIte]]; exact ⟨rfl, hB, Fr.rf⟩)
  · have h4 := b_t h4
    refine r_iload_n (pc := 7) C dX7_shift_7 rfl ?_
    refine r_callS (pc := 8) C dX7_shift_8 cs_RX7_82 (c_X7_isRegister y) ⟨rfl, rfl, by decide, by decide⟩ rfl rfl (Nat.le_of_ble_eq_true rfl) ⟨Nat.zero_le _, Nat.zero_le _⟩ ?_
    rintro _ _ ⟨_, rfl, rfl, rfl⟩
    show G M S E (0, 0) g 11 [some (.ref (E.1 0)), some (.int x), some (.int y), some (.int z)] [.int (b2i (hix 6 y))]
    refine r_if_ne (pc := 11) (tgt := 17) C dX7_shift_11 (by decide) (fun h11 => ?_) (fun h11 => ?_)
    · have h11 := b_t h11
      obtain ⟨t, rfl, ht⟩ := hix_nat h4 (by omega)
      obtain ⟨p, rfl, hp⟩ := hix_nat h11 (by omega)
      refine r_iload_n (pc := 17) C dX7_shift_17 rfl ?_
      refine r_if_lt (pc := 18) (tgt := 27) C dX7_shift_18 (by decide) (fun h18 => ?_) (fun h18 => ?_)
      · refine r_iconst (pc := 27) (v := (-1)) C dX7_shift_27 (by decide +kernel) ?_
        exact r_iret (pc := 28) C Z dX7_shift_28 rfl (by rw [show oShi (hsn, v, rem, v2, rem2, pt, inp, out, sl) (nI t) (nI p) z = (-1, (hsn, v, rem, v2, rem2, pt, inp, out, sl)) by simp only [oShi, h4, h11, h18, iN_nI (show t < 2 ^ 31 by omega), iN_nI (show p < 2 ^ 31 by omega), cond_true, cond_false, if_true, if_false, not_true_eq_false, not_false_eq_true, ↓reduceIte]]; exact ⟨rfl, hB, Fr.rf⟩)
      · refine r_iload_n (pc := 21) C dX7_shift_21 rfl ?_
        refine r_bipush (pc := 22) (v := nI 24) C dX7_shift_22 (by decide +kernel) ?_
        refine r_icmp_lt (pc := 24) (tgt := 29) C dX7_shift_24 (by decide) (fun h24 => ?_) (fun h24 => ?_)
        · obtain ⟨k, rfl, hk⟩ := nat_ge0 h18
          have hk2 := c_lt hk (by decide) h24
          refine r_aload_n (pc := 29) C dX7_shift_29 rfl ?_
          refine r_getf (pc := 30) C dX7_shift_30 fl_RX7_35 ho rfl ?_
          refine r_aload_n (pc := 33) C dX7_shift_33 rfl ?_
          refine r_getf (pc := 34) C dX7_shift_34 fl_RX7_14 ho rfl ?_
          refine r_getf (pc := 37) C dX7_shift_37 fl_RX7_78 hs.1 rfl ?_
          refine r_callV (pc := 40) C dX7_shift_40 cv_RX7_104 (c_X6_setZero v.1 hw hc (by omega)) ⟨rfl, rfl, by decide, by decide⟩ hw rfl rfl (Nat.le_of_ble_eq_true rfl) ⟨Nat.zero_le _, Nat.zero_le _⟩ ?_
          rintro _ _ ⟨rfl, rfl⟩
          show G M S E (0, 0) (va_up (va_up g 266 (.inr (6, [.ref (E.1 (266 + 1)), .int (nI v.1)]))) (266 + 1) (xJ S 24 (fun _ => 0))) 43 [some (.ref (E.1 0)), some (.int (nI t)), some (.int (nI p)), some (.int (nI k))] []
          refine r_aload_n (pc := 43) C dX7_shift_43 rfl ?_
          refine r_getf (pc := 44) C dX7_shift_44 fl_RX7_35 (Ce.up (Ce.up ho (by decide)) (by omega)) rfl ?_
          refine r_aload_n (pc := 47) C dX7_shift_47 rfl ?_
          refine r_getf (pc := 48) C dX7_shift_48 fl_RX7_14 (Ce.up (Ce.up ho (by decide)) (by omega)) rfl ?_
          refine r_getf (pc := 51) C dX7_shift_51 fl_RX7_91 (Ce.up (Ce.up hs.1 (by decide)) (by omega)) rfl ?_
          refine r_iload_n (pc := 54) C dX7_shift_54 rfl ?_
          refine r_aald (pc := 55) C dX7_shift_55 (Ce.up (Ce.up hs.2.1 (by omega)) (by omega)) rfl rfl rfl (by omega) (by omega) rfl ?_
          refine r_iload_n (pc := 56) C dX7_shift_56 rfl ?_
          refine r_callV (pc := 57) C dX7_shift_57 cv_RX7_123 (c_X6_plusShifted (Ce.up (Ce.new hw) (by omega)) (Ce.new (Ce.up hc (by omega))) hN (by omega) (Ce.up (Ce.up (hs.2.2.2.1 p (by omega)) (by omega)) (by omega)) (by omega) k (by omega)) ⟨rfl, rfl, by decide, by decide⟩ (Ce.up (Ce.new hw) (by omega)) rfl rfl (Nat.le_of_ble_eq_true rfl) ⟨Nat.zero_le _, Nat.zero_le _⟩ ?_
          rintro _ _ ⟨rfl, rfl⟩
          rw [bx_uu]
          show G M S E (0, 0) (va_up (va_up g 266 (.inr (6, [.ref (E.1 (266 + 1)), .int (nI v.1)]))) (266 + 1) (xJ S 24 (plS v.1 (v.2.1 p) k (fun _ => 0)))) 60 [some (.ref (E.1 0)), some (.int (nI t)), some (.int (nI p)), some (.int (nI k))] []
          have hf2 : Fr g (va_up (va_up g 266 (.inr (6, [.ref (E.1 (266 + 1)), .int (nI v.1)]))) (266 + 1) (xJ S 24 (plS v.1 (v.2.1 p) k (fun _ => 0)))) 253 270 := ((Fr.rf.up (by omega) (by omega)).up (by omega) (by omega))
          have hB2 := hB.scr hf2 ⟨⟨v0, ((hp0.out (by omega)).out (by omega))⟩, (Wd.of (Ce.up (Ce.new hw) (by omega)) (Ce.new (Ce.up hc (by omega)))), (Wd.of (Ce.up (Ce.up hw2 (by decide)) (by omega)) (Ce.up (Ce.up hc2 (by omega)) (by omega)))⟩
          refine r_aload_n (pc := 60) C dX7_shift_60 rfl ?_
          refine r_iload_n (pc := 61) C dX7_shift_61 rfl ?_
          refine r_callV (pc := 62) C dX7_shift_62 cv_RX7_111 (c_X7_keepResult hB2 hO (Ce.up (Ce.new hw) (by omega)) (Ce.new (Ce.up hc (by omega))) t ht) ⟨rfl, rfl, by decide, by decide⟩ (Ce.up (Ce.up ho (by decide)) (by omega)) rfl rfl (Nat.le_of_ble_eq_true rfl) ⟨Nat.zero_le _, Nat.zero_le _⟩ ?_
          rintro _ g3 ⟨_, rfl, rfl, hB3, hF3⟩
          show G M S E (0, 0) g3 65 [some (.ref (E.1 0)), some (.int (nI t)), some (.int (nI p)), some (.int (nI k))] [.int ((kpR v.1 (plS v.1 (v.2.1 p) k (fun _ => 0)) v.2.1 t).1)]
          exact r_iret (pc := 65) C Z dX7_shift_65 rfl (by rw [show oShi (hsn, v, rem, v2, rem2, pt, inp, out, sl) (nI t) (nI p) (nI k) = kp (hsn, v, rem, v2, rem2, pt, inp, out, sl) (plS v.1 (v.2.1 p) k (fun _ => 0)) t by simp only [oShi, h4, h11, h18, h24, iN_nI (show t < 2 ^ 31 by omega), iN_nI (show p < 2 ^ 31 by omega), iN_nI hk, cond_true, cond_false, if_true, if_false, not_true_eq_false, not_false_eq_true, ↓reduceIte]]; exact ⟨rfl, hB3, (hf2.wide (by omega) (by omega)).tr hF3 (by omega) (by omega)⟩)
        · refine r_iconst (pc := 27) (v := (-1)) C dX7_shift_27 (by decide +kernel) ?_
          exact r_iret (pc := 28) C Z dX7_shift_28 rfl (by rw [show oShi (hsn, v, rem, v2, rem2, pt, inp, out, sl) (nI t) (nI p) z = (-1, (hsn, v, rem, v2, rem2, pt, inp, out, sl)) by simp only [oShi, h4, h11, h18, h24, iN_nI (show t < 2 ^ 31 by omega), iN_nI (show p < 2 ^ 31 by omega), cond_true, cond_false, if_true, if_false, not_true_eq_false, not_false_eq_true, ↓reduceIte]]; exact ⟨rfl, hB, Fr.rf⟩)
    · have h11 := b_f h11
      refine r_bipush (pc := 14) (v := (-2)) C dX7_shift_14 (by decide +kernel) ?_
      exact r_iret (pc := 16) C Z dX7_shift_16 rfl (by rw [show oShi (hsn, v, rem, v2, rem2, pt, inp, out, sl) x y z = (-2, (hsn, v, rem, v2, rem2, pt, inp, out, sl)) by simp only [oShi, h4, h11, cond_true, cond_false, if_true, if_false, not_true_eq_false, not_false_eq_true, ↓reduceIte]]; exact ⟨rfl, hB, Fr.rf⟩)
set_option maxHeartbeats 4000000 in
set_option maxRecDepth 100000 in
theorem c_X7_substitute {S : ST} {E : ET} {g : Nat → va_E} {hsn : Bool} {v v2 : SV} {rem rem2 : Nat → PV} {pt inp : Nat × (Nat → Nat)} {out : BV} {sl : Nat → SlV} (hB : BC S E g (hsn, v, rem, v2, rem2, pt, inp, out, sl)) (hO : SOk v) (x y z : Int32) : CtI S E yX7_substitute cX7_substitute 6 (Option.some FieldType.int) rmX7_substitute [.ref (E.1 0), .int x, .int y, .int z] g (fun u g' => u = (oSub (hsn, v, rem, v2, rem2, pt, inp, out, sl) x y z).1 ∧ BC S E g' (oSub (hsn, v, rem, v2, rem2, pt, inp, out, sl) x y z).2 ∧ Fr g g' 0 286) := by
  refine Ct.of RX7 (by decide +kernel) rfl (Nat.le_of_ble_eq_true rfl) (fun M C Z => ?_)
  refine G.eq (pc' := 0) (vs' := [some (.ref (E.1 0)), some (.int x), some (.int y), some (.int z), none, none]) (st' := []) ?_
  obtain ⟨ho, hL, hV, hSc, hWy, hPt, hIn, hOu, hSl⟩ := id hB
  have ho : Ce E g 0 (.inr (7, [.ref (E.1 1), .ref (E.1 127), .int (b2i hsn), .ref (E.1 253), .ref (E.1 266), .ref (E.1 268), .ref (E.1 270), .ref (E.1 271), .ref (E.1 273), .ref (E.1 275), .ref (E.1 277)])) := ho
  have hL : StL S E g 1 v rem := hL
  obtain ⟨pi, ra, hs, hl⟩ := id hL
  obtain ⟨hN4, hN, hr1⟩ := id hO
  obtain ⟨⟨v0, hp0⟩, ⟨N1, c1, hw, hc⟩, ⟨N2, c2, hw2, hc2⟩⟩ := id hSc
  refine r_iload_n (pc := 0) C dX7_substitute_0 rfl ?_
  refine r_callS (pc := 1) C dX7_substitute_1 cs_RX7_82 (c_X7_isRegister x) ⟨rfl, rfl, by decide, by decide⟩ rfl rfl (Nat.le_of_ble_eq_true rfl) ⟨Nat.zero_le _, Nat.zero_le _⟩ ?_
  rintro _ _ ⟨_, rfl, rfl, rfl⟩
  show G M S E (0, 0) g 4 [some (.ref (E.1 0)), some (.int x), some (.int y), some (.int z), none, none] [.int (b2i (hix 6 x))]
  refine r_if_eq (pc := 4) (tgt := 14) C dX7_substitute_4 (by decide) (fun h4 => ?_) (fun h4 => ?_)
  · have h4 := b_f h4
    refine r_bipush (pc := 14) (v := (-2)) C dX7_substitute_14 (by decide +kernel) ?_
    exact r_iret (pc := 16) C Z dX7_substitute_16 rfl (by rw [show oSub (hsn, v, rem, v2, rem2, pt, inp, out, sl) x y z = (-2, (hsn, v, rem, v2, rem2, pt, inp, out, sl)) by simp only [oSub, h4, cond_true, cond_false, if_true, if_false, not_true_eq_false, not_false_eq_true, ↓reduceIte]]; exact ⟨rfl, hB, Fr.rf⟩)
  · have h4 := b_t h4
    refine r_iload_n (pc := 7) C dX7_substitute_7 rfl ?_
    refine r_callS (pc := 8) C dX7_substitute_8 cs_RX7_82 (c_X7_isRegister y) ⟨rfl, rfl, by decide, by decide⟩ rfl rfl (Nat.le_of_ble_eq_true rfl) ⟨Nat.zero_le _, Nat.zero_le _⟩ ?_
    rintro _ _ ⟨_, rfl, rfl, rfl⟩
    show G M S E (0, 0) g 11 [some (.ref (E.1 0)), some (.int x), some (.int y), some (.int z), none, none] [.int (b2i (hix 6 y))]
    refine r_if_ne (pc := 11) (tgt := 17) C dX7_substitute_11 (by decide) (fun h11 => ?_) (fun h11 => ?_)
    · have h11 := b_t h11
      obtain ⟨t, rfl, ht⟩ := hix_nat h4 (by omega)
      obtain ⟨p, rfl, hp⟩ := hix_nat h11 (by omega)
      refine r_iload_n (pc := 17) C dX7_substitute_17 rfl ?_
      refine r_iconst (pc := 18) (v := nI 1) C dX7_substitute_18 (by decide +kernel) ?_
      refine r_icmp_lt (pc := 19) (tgt := 28) C dX7_substitute_19 (by decide) (fun h19 => ?_) (fun h19 => ?_)
      · refine r_iconst (pc := 28) (v := (-1)) C dX7_substitute_28 (by decide +kernel) ?_
        exact r_iret (pc := 29) C Z dX7_substitute_29 rfl (by rw [show oSub (hsn, v, rem, v2, rem2, pt, inp, out, sl) (nI t) (nI p) z = (-1, (hsn, v, rem, v2, rem2, pt, inp, out, sl)) by simp only [oSub, h4, h11, h19, iN_nI (show t < 2 ^ 31 by omega), iN_nI (show p < 2 ^ 31 by omega), cond_true, cond_false, if_true, if_false, not_true_eq_false, not_false_eq_true, ↓reduceIte]]; exact ⟨rfl, hB, Fr.rf⟩)
      · refine r_iload_n (pc := 22) C dX7_substitute_22 rfl ?_
        refine r_bipush (pc := 23) (v := nI 6) C dX7_substitute_23 (by decide +kernel) ?_
        refine r_icmp_le (pc := 25) (tgt := 30) C dX7_substitute_25 (by decide) (fun h25 => ?_) (fun h25 => ?_)
        · obtain ⟨k, rfl, hk1, hk⟩ := nat_ge (by decide) h19
          have hk2 := c_le hk (by decide) h25
          refine r_aload_n (pc := 30) C dX7_substitute_30 rfl ?_
          refine r_getf (pc := 31) C dX7_substitute_31 fl_RX7_14 ho rfl ?_
          refine r_getf (pc := 34) C dX7_substitute_34 fl_RX7_91 hs.1 rfl ?_
          refine r_iload_n (pc := 37) C dX7_substitute_37 rfl ?_
          refine r_aald (pc := 38) C dX7_substitute_38 hs.2.1 rfl rfl rfl (by omega) (by omega) rfl ?_
          refine r_astore (pc := 39) C dX7_substitute_39 (by decide) ?_
          refine G.eq (pc' := 41) (vs' := [some (.ref (E.1 0)), some (.int (nI t)), some (.int (nI p)), some (.int (nI k)), some (.ref (E.1 (1 + 2 + p))), none]) (st' := []) ?_
          refine r_aload_n (pc := 41) C dX7_substitute_41 rfl ?_
          refine r_getf (pc := 42) C dX7_substitute_42 fl_RX7_35 ho rfl ?_
          refine r_aload_n (pc := 45) C dX7_substitute_45 rfl ?_
          refine r_getf (pc := 46) C dX7_substitute_46 fl_RX7_14 ho rfl ?_
          refine r_getf (pc := 49) C dX7_substitute_49 fl_RX7_78 hs.1 rfl ?_
          refine r_callV (pc := 52) C dX7_substitute_52 cv_RX7_104 (c_X6_setZero v.1 hw hc (by omega)) ⟨rfl, rfl, by decide, by decide⟩ hw rfl rfl (Nat.le_of_ble_eq_true rfl) ⟨Nat.zero_le _, Nat.zero_le _⟩ ?_
          rintro _ _ ⟨rfl, rfl⟩
          show G M S E (0, 0) (va_up (va_up g 266 (.inr (6, [.ref (E.1 (266 + 1)), .int (nI v.1)]))) (266 + 1) (xJ S 24 (fun _ => 0))) 55 [some (.ref (E.1 0)), some (.int (nI t)), some (.int (nI p)), some (.int (nI k)), some (.ref (E.1 (1 + 2 + p))), none] []
          refine r_iconst (pc := 55) (v := nI 0) C dX7_substitute_55 (by decide +kernel) ?_
          refine r_istore (pc := 56) C dX7_substitute_56 (by decide) ?_
          refine G.eq (pc' := 58) (vs' := [some (.ref (E.1 0)), some (.int (nI t)), some (.int (nI p)), some (.int (nI k)), some (.ref (E.1 (1 + 2 + p))), some (.int (nI 0))]) (st' := []) ?_
          refine bk (P := fun t2 => G M S E (0, 0) (va_up (va_up g 266 (.inr (6, [.ref (E.1 (266 + 1)), .int (nI v.1)]))) (266 + 1) (xJ S 24 (sbF v.1 (v.2.1 p) k t2))) 58 [some (.ref (E.1 0)), some (.int (nI t)), some (.int (nI p)), some (.int (nI k)), some (.ref (E.1 (1 + 2 + p))), some (.int (nI t2))] []) (T := v.1) ?_ (fun t2 ht ih => ?_)
          · show G M S E (0, 0) (va_up (va_up g 266 (.inr (6, [.ref (E.1 (266 + 1)), .int (nI v.1)]))) (266 + 1) (xJ S 24 (sbF v.1 (v.2.1 p) k v.1))) 58 [some (.ref (E.1 0)), some (.int (nI t)), some (.int (nI p)), some (.int (nI k)), some (.ref (E.1 (1 + 2 + p))), some (.int (nI v.1))] []
            refine r_iload (pc := 58) C dX7_substitute_58 rfl ?_
            refine r_aload_n (pc := 60) C dX7_substitute_60 rfl ?_
            refine r_getf (pc := 61) C dX7_substitute_61 fl_RX7_14 (Ce.up (Ce.up ho (by decide)) (by omega)) rfl ?_
            refine r_getf (pc := 64) C dX7_substitute_64 fl_RX7_78 (Ce.up (Ce.up hs.1 (by decide)) (by omega)) rfl ?_
            refine r_icmp_ge (pc := 67) (tgt := 92) C dX7_substitute_67 (by decide) (fun h67 => ?_) (fun h67 => ?_)
            · have h67 := c_le (by omega) (by omega) h67
              refine r_aload_n (pc := 92) C dX7_substitute_92 rfl ?_
              refine r_iload_n (pc := 93) C dX7_substitute_93 rfl ?_
              have hf2 : Fr g (va_up (va_up g 266 (.inr (6, [.ref (E.1 (266 + 1)), .int (nI v.1)]))) (266 + 1) (xJ S 24 (sbF v.1 (v.2.1 p) k v.1))) 253 270 := ((Fr.rf.up (by omega) (by omega)).up (by omega) (by omega))
              have hB2 := hB.scr hf2 ⟨⟨v0, ((hp0.out (by omega)).out (by omega))⟩, (Wd.of (Ce.up (Ce.new hw) (by omega)) (Ce.new (Ce.up hc (by omega)))), (Wd.of (Ce.up (Ce.up hw2 (by decide)) (by omega)) (Ce.up (Ce.up hc2 (by omega)) (by omega)))⟩
              refine r_callV (pc := 94) C dX7_substitute_94 cv_RX7_111 (c_X7_keepResult hB2 hO (Ce.up (Ce.new hw) (by omega)) (Ce.new (Ce.up hc (by omega))) t ht) ⟨rfl, rfl, by decide, by decide⟩ (Ce.up (Ce.up ho (by decide)) (by omega)) rfl rfl (Nat.le_of_ble_eq_true rfl) ⟨Nat.zero_le _, Nat.zero_le _⟩ ?_
              rintro _ g3 ⟨_, rfl, rfl, hB3, hF3⟩
              show G M S E (0, 0) g3 97 [some (.ref (E.1 0)), some (.int (nI t)), some (.int (nI p)), some (.int (nI k)), some (.ref (E.1 (1 + 2 + p))), some (.int (nI v.1))] [.int ((kpR v.1 (sbF v.1 (v.2.1 p) k v.1) v.2.1 t).1)]
              exact r_iret (pc := 97) C Z dX7_substitute_97 rfl (by rw [show oSub (hsn, v, rem, v2, rem2, pt, inp, out, sl) (nI t) (nI p) (nI k) = kp (hsn, v, rem, v2, rem2, pt, inp, out, sl) (sbF v.1 (v.2.1 p) k v.1) t by simp only [oSub, h4, h11, h19, h25, h67, iN_nI (show t < 2 ^ 31 by omega), iN_nI (show p < 2 ^ 31 by omega), iN_nI hk, cond_true, cond_false, if_true, if_false, not_true_eq_false, not_false_eq_true, ↓reduceIte]]; exact ⟨rfl, hB3, (hf2.wide (by omega) (by omega)).tr hF3 (by omega) (by omega)⟩)
            · have h67 := c_nle (by omega) (by omega) h67
              omega
          · show G M S E (0, 0) (va_up (va_up g 266 (.inr (6, [.ref (E.1 (266 + 1)), .int (nI v.1)]))) (266 + 1) (xJ S 24 (sbF v.1 (v.2.1 p) k t2))) 58 [some (.ref (E.1 0)), some (.int (nI t)), some (.int (nI p)), some (.int (nI k)), some (.ref (E.1 (1 + 2 + p))), some (.int (nI t2))] []
            refine r_iload (pc := 58) C dX7_substitute_58 rfl ?_
            refine r_aload_n (pc := 60) C dX7_substitute_60 rfl ?_
            refine r_getf (pc := 61) C dX7_substitute_61 fl_RX7_14 (Ce.up (Ce.up ho (by decide)) (by omega)) rfl ?_
            refine r_getf (pc := 64) C dX7_substitute_64 fl_RX7_78 (Ce.up (Ce.up hs.1 (by decide)) (by omega)) rfl ?_
            refine r_icmp_ge (pc := 67) (tgt := 92) C dX7_substitute_67 (by decide) (fun h67 => ?_) (fun h67 => ?_)
            · have h67 := c_le (by omega) (by omega) h67
              omega
            · have h67 := c_nle (by omega) (by omega) h67
              refine r_aload_n (pc := 70) C dX7_substitute_70 rfl ?_
              refine r_getf (pc := 71) C dX7_substitute_71 fl_RX7_35 (Ce.up (Ce.up ho (by decide)) (by omega)) rfl ?_
              refine r_iload (pc := 74) C dX7_substitute_74 rfl ?_
              refine r_iload_n (pc := 76) C dX7_substitute_76 rfl ?_
              refine r_imul (pc := 77) C dX7_substitute_77 ?_
              refine r_ti (nI (t2 * k)) (pk_mul _ _) ?_
              refine r_aload (pc := 78) C dX7_substitute_78 rfl ?_
              refine r_iload (pc := 80) C dX7_substitute_80 rfl ?_
              refine r_iald (pc := 82) C dX7_substitute_82 (Ce.up (Ce.up (hs.2.2.2.1 p (by omega)) (by omega)) (by omega)) rfl (by omega) (by omega) ?_
              have hm : t2 * k ≤ 24 * 6 := Nat.mul_le_mul (by omega) hk2
              refine r_callV (pc := 83) C dX7_substitute_83 cv_RX7_126 (c_X6_plusTerm (Ce.up (Ce.new hw) (by omega)) (Ce.new (Ce.up hc (by omega))) hN (by omega) (t2 * k) (by omega) (v.2.1 p t2)) ⟨rfl, rfl, by decide, by decide⟩ (Ce.up (Ce.new hw) (by omega)) rfl rfl (Nat.le_of_ble_eq_true rfl) ⟨Nat.zero_le _, Nat.zero_le _⟩ ?_
              rintro _ _ ⟨rfl, rfl⟩
              rw [bx_uu]
              show G M S E (0, 0) (va_up (va_up g 266 (.inr (6, [.ref (E.1 (266 + 1)), .int (nI v.1)]))) (266 + 1) (xJ S 24 (plT v.1 (t2 * k) (v.2.1 p t2) (sbF v.1 (v.2.1 p) k t2)))) 86 [some (.ref (E.1 0)), some (.int (nI t)), some (.int (nI p)), some (.int (nI k)), some (.ref (E.1 (1 + 2 + p))), some (.int (nI t2))] []
              refine r_iinc (pc := 86) (v := nI (t2 + 1)) C dX7_substitute_86 rfl (nI_i1 _) (by decide) ?_
              refine G.eq (pc' := 89) (vs' := [some (.ref (E.1 0)), some (.int (nI t)), some (.int (nI p)), some (.int (nI k)), some (.ref (E.1 (1 + 2 + p))), some (.int (nI (t2 + 1)))]) (st' := []) ?_
              refine r_goto (pc := 89) (tgt := 58) C dX7_substitute_89 (by decide) ?_
              exact ih
        · refine r_iconst (pc := 28) (v := (-1)) C dX7_substitute_28 (by decide +kernel) ?_
          exact r_iret (pc := 29) C Z dX7_substitute_29 rfl (by rw [show oSub (hsn, v, rem, v2, rem2, pt, inp, out, sl) (nI t) (nI p) z = (-1, (hsn, v, rem, v2, rem2, pt, inp, out, sl)) by simp only [oSub, h4, h11, h19, h25, iN_nI (show t < 2 ^ 31 by omega), iN_nI (show p < 2 ^ 31 by omega), cond_true, cond_false, if_true, if_false, not_true_eq_false, not_false_eq_true, ↓reduceIte]]; exact ⟨rfl, hB, Fr.rf⟩)
    · have h11 := b_f h11
      refine r_bipush (pc := 14) (v := (-2)) C dX7_substitute_14 (by decide +kernel) ?_
      exact r_iret (pc := 16) C Z dX7_substitute_16 rfl (by rw [show oSub (hsn, v, rem, v2, rem2, pt, inp, out, sl) x y z = (-2, (hsn, v, rem, v2, rem2, pt, inp, out, sl)) by simp only [oSub, h4, h11, cond_true, cond_false, if_true, if_false, not_true_eq_false, not_false_eq_true, ↓reduceIte]]; exact ⟨rfl, hB, Fr.rf⟩)
set_option maxHeartbeats 4000000 in
set_option maxRecDepth 100000 in
theorem c_X7_firstDifference {S : ST} {E : ET} {g : Nat → va_E} {hsn : Bool} {v v2 : SV} {rem rem2 : Nat → PV} {pt inp : Nat × (Nat → Nat)} {out : BV} {sl : Nat → SlV} (hB : BC S E g (hsn, v, rem, v2, rem2, pt, inp, out, sl)) (hO : SOk v) (x y : Int32) : CtI S E yX7_firstDifference cX7_firstDifference 3 (Option.some FieldType.int) rmX7_firstDifference [.ref (E.1 0), .int x, .int y] g (fun u g' => u = oDif (hsn, v, rem, v2, rem2, pt, inp, out, sl) x y ∧ g = g') := by
  refine Ct.of RX7 (by decide +kernel) rfl (Nat.le_of_ble_eq_true rfl) (fun M C Z => ?_)
  refine G.eq (pc' := 0) (vs' := [some (.ref (E.1 0)), some (.int x), some (.int y)]) (st' := []) ?_
  obtain ⟨ho, hL, hV, hSc, hWy, hPt, hIn, hOu, hSl⟩ := id hB
  have ho : Ce E g 0 (.inr (7, [.ref (E.1 1), .ref (E.1 127), .int (b2i hsn), .ref (E.1 253), .ref (E.1 266), .ref (E.1 268), .ref (E.1 270), .ref (E.1 271), .ref (E.1 273), .ref (E.1 275), .ref (E.1 277)])) := ho
  have hL : StL S E g 1 v rem := hL
  obtain ⟨pi, ra, hs, hl⟩ := id hL
  obtain ⟨hN4, hN, hr1⟩ := id hO
  refine r_iload_n (pc := 0) C dX7_firstDifference_0 rfl ?_
  refine r_callS (pc := 1) C dX7_firstDifference_1 cs_RX7_82 (c_X7_isRegister x) ⟨rfl, rfl, by decide, by decide⟩ rfl rfl (Nat.le_of_ble_eq_true rfl) ⟨Nat.zero_le _, Nat.zero_le _⟩ ?_
  rintro _ _ ⟨_, rfl, rfl, rfl⟩
  show G M S E (0, 0) g 4 [some (.ref (E.1 0)), some (.int x), some (.int y)] [.int (b2i (hix 6 x))]
  refine r_if_eq (pc := 4) (tgt := 14) C dX7_firstDifference_4 (by decide) (fun h4 => ?_) (fun h4 => ?_)
  · have h4 := b_f h4
    refine r_bipush (pc := 14) (v := (-2)) C dX7_firstDifference_14 (by decide +kernel) ?_
    exact r_iret (pc := 16) C Z dX7_firstDifference_16 rfl (by rw [show oDif (hsn, v, rem, v2, rem2, pt, inp, out, sl) x y = -2 by simp only [oDif, h4, cond_true, cond_false, if_true, if_false, not_true_eq_false, not_false_eq_true, ↓reduceIte]]; exact ⟨rfl, rfl⟩)
  · have h4 := b_t h4
    refine r_iload_n (pc := 7) C dX7_firstDifference_7 rfl ?_
    refine r_callS (pc := 8) C dX7_firstDifference_8 cs_RX7_82 (c_X7_isRegister y) ⟨rfl, rfl, by decide, by decide⟩ rfl rfl (Nat.le_of_ble_eq_true rfl) ⟨Nat.zero_le _, Nat.zero_le _⟩ ?_
    rintro _ _ ⟨_, rfl, rfl, rfl⟩
    show G M S E (0, 0) g 11 [some (.ref (E.1 0)), some (.int x), some (.int y)] [.int (b2i (hix 6 y))]
    refine r_if_ne (pc := 11) (tgt := 17) C dX7_firstDifference_11 (by decide) (fun h11 => ?_) (fun h11 => ?_)
    · have h11 := b_t h11
      obtain ⟨t, rfl, ht⟩ := hix_nat h4 (by omega)
      obtain ⟨p, rfl, hp⟩ := hix_nat h11 (by omega)
      refine r_aload_n (pc := 17) C dX7_firstDifference_17 rfl ?_
      refine r_aload_n (pc := 18) C dX7_firstDifference_18 rfl ?_
      refine r_getf (pc := 19) C dX7_firstDifference_19 fl_RX7_14 ho rfl ?_
      refine r_getf (pc := 22) C dX7_firstDifference_22 fl_RX7_91 hs.1 rfl ?_
      refine r_iload_n (pc := 25) C dX7_firstDifference_25 rfl ?_
      refine r_aald (pc := 26) C dX7_firstDifference_26 hs.2.1 rfl rfl rfl (by omega) (by omega) rfl ?_
      refine r_aload_n (pc := 27) C dX7_firstDifference_27 rfl ?_
      refine r_getf (pc := 28) C dX7_firstDifference_28 fl_RX7_14 ho rfl ?_
      refine r_getf (pc := 31) C dX7_firstDifference_31 fl_RX7_91 hs.1 rfl ?_
      refine r_iload_n (pc := 34) C dX7_firstDifference_34 rfl ?_
      refine r_aald (pc := 35) C dX7_firstDifference_35 hs.2.1 rfl rfl rfl (by omega) (by omega) rfl ?_
      refine r_callV (pc := 36) C dX7_firstDifference_36 cv_RX7_141 (c_X7_lowestDifference hB hO (hs.2.2.2.1 t (by omega)) (hs.2.2.2.1 p (by omega))) ⟨rfl, rfl, by decide, by decide⟩ ho rfl rfl (Nat.le_of_ble_eq_true rfl) ⟨Nat.zero_le _, Nat.zero_le _⟩ ?_
      rintro _ _ ⟨_, rfl, rfl, rfl⟩
      show G M S E (0, 0) g 39 [some (.ref (E.1 0)), some (.int (nI t)), some (.int (nI p))] [.int (difP v.1 (v.2.1 t) (v.2.1 p))]
      exact r_iret (pc := 39) C Z dX7_firstDifference_39 rfl (by rw [show oDif (hsn, v, rem, v2, rem2, pt, inp, out, sl) (nI t) (nI p) = difP v.1 (v.2.1 t) (v.2.1 p) by simp only [oDif, h4, h11, iN_nI (show t < 2 ^ 31 by omega), iN_nI (show p < 2 ^ 31 by omega), cond_true, cond_false, if_true, if_false, not_true_eq_false, not_false_eq_true, ↓reduceIte]]; exact ⟨rfl, rfl⟩)
    · have h11 := b_f h11
      refine r_bipush (pc := 14) (v := (-2)) C dX7_firstDifference_14 (by decide +kernel) ?_
      exact r_iret (pc := 16) C Z dX7_firstDifference_16 rfl (by rw [show oDif (hsn, v, rem, v2, rem2, pt, inp, out, sl) x y = -2 by simp only [oDif, h4, h11, cond_true, cond_false, if_true, if_false, not_true_eq_false, not_false_eq_true, ↓reduceIte]]; exact ⟨rfl, rfl⟩)
set_option maxHeartbeats 4000000 in
set_option maxRecDepth 100000 in
theorem c_X7_sumSide {S : ST} {E : ET} {g : Nat → va_E} {hsn : Bool} {v v2 : SV} {rem rem2 : Nat → PV} {pt inp : Nat × (Nat → Nat)} {out : BV} {sl : Nat → SlV} (hB : BC S E g (hsn, v, rem, v2, rem2, pt, inp, out, sl)) (hO : SOk v) (x : Int32) : CtI S E yX7_sumSide cX7_sumSide 2 (Option.some FieldType.int) rmX7_sumSide [.ref (E.1 0), .int x] g (fun u g' => u = (oSum (hsn, v, rem, v2, rem2, pt, inp, out, sl) x).1 ∧ BC S E g' (oSum (hsn, v, rem, v2, rem2, pt, inp, out, sl) x).2 ∧ Fr g g' 0 286) := by
  refine Ct.of RX7 (by decide +kernel) rfl (Nat.le_of_ble_eq_true rfl) (fun M C Z => ?_)
  refine G.eq (pc' := 0) (vs' := [some (.ref (E.1 0)), some (.int x)]) (st' := []) ?_
  obtain ⟨ho, hL, hV, hSc, hWy, hPt, hIn, hOu, hSl⟩ := id hB
  have ho : Ce E g 0 (.inr (7, [.ref (E.1 1), .ref (E.1 127), .int (b2i hsn), .ref (E.1 253), .ref (E.1 266), .ref (E.1 268), .ref (E.1 270), .ref (E.1 271), .ref (E.1 273), .ref (E.1 275), .ref (E.1 277)])) := ho
  have hL : StL S E g 1 v rem := hL
  obtain ⟨pi, ra, hs, hl⟩ := id hL
  obtain ⟨hN4, hN, hr1⟩ := id hO
  obtain ⟨⟨v0, hp0⟩, ⟨N1, c1, hw, hc⟩, ⟨N2, c2, hw2, hc2⟩⟩ := id hSc
  refine r_iload_n (pc := 0) C dX7_sumSide_0 rfl ?_
  refine r_callS (pc := 1) C dX7_sumSide_1 cs_RX7_82 (c_X7_isRegister x) ⟨rfl, rfl, by decide, by decide⟩ rfl rfl (Nat.le_of_ble_eq_true rfl) ⟨Nat.zero_le _, Nat.zero_le _⟩ ?_
  rintro _ _ ⟨_, rfl, rfl, rfl⟩
  show G M S E (0, 0) g 4 [some (.ref (E.1 0)), some (.int x)] [.int (b2i (hix 6 x))]
  refine r_if_ne (pc := 4) (tgt := 10) C dX7_sumSide_4 (by decide) (fun h4 => ?_) (fun h4 => ?_)
  · have h4 := b_t h4
    obtain ⟨t, rfl, ht⟩ := hix_nat h4 (by omega)
    refine r_aload_n (pc := 10) C dX7_sumSide_10 rfl ?_
    refine r_aload_n (pc := 11) C dX7_sumSide_11 rfl ?_
    refine r_getf (pc := 12) C dX7_sumSide_12 fl_RX7_14 ho rfl ?_
    refine r_getf (pc := 15) C dX7_sumSide_15 fl_RX7_178 hs.1 rfl ?_
    refine r_getf (pc := 18) C dX7_sumSide_18 fl_RX7_205 hs.2.2.2.2.1.1 rfl ?_
    refine r_callV (pc := 21) C dX7_sumSide_21 cv_RX7_208 (c_X7_sumWithStepPowers hB hO (q := 1 + 8 + 7) (q0 := 1 + 8 + 8) (m := v.2.2.1.2.2) hs.2.2.2.2.1.2.2.1 (fun j hj => (hs.2.2.2.2.1.2.2.2 j hj).2) (by omega) (by omega)) ⟨rfl, rfl, by decide, by decide⟩ ho rfl rfl (Nat.le_of_ble_eq_true rfl) ⟨Nat.zero_le _, Nat.zero_le _⟩ ?_
    rintro _ _ ⟨rfl, rfl⟩
    show G M S E (0, 0) (va_up (va_up g 266 (.inr (6, [.ref (E.1 (266 + 1)), .int (nI v.1)]))) (266 + 1) (xJ S 24 (swS v.1 v.2.2.1.1 v.2.2.1.2.2))) 24 [some (.ref (E.1 0)), some (.int (nI t))] []
    have hf2 : Fr g (va_up (va_up g 266 (.inr (6, [.ref (E.1 (266 + 1)), .int (nI v.1)]))) (266 + 1) (xJ S 24 (swS v.1 v.2.2.1.1 v.2.2.1.2.2))) 253 270 := ((Fr.rf.up (by omega) (by omega)).up (by omega) (by omega))
    have hB2 := hB.scr hf2 ⟨⟨v0, ((hp0.out (by omega)).out (by omega))⟩, (Wd.of (Ce.up (Ce.new hw) (by omega)) (Ce.new (Ce.up hc (by omega)))), (Wd.of (Ce.up (Ce.up hw2 (by decide)) (by omega)) (Ce.up (Ce.up hc2 (by omega)) (by omega)))⟩
    refine r_aload_n (pc := 24) C dX7_sumSide_24 rfl ?_
    refine r_iload_n (pc := 25) C dX7_sumSide_25 rfl ?_
    refine r_callV (pc := 26) C dX7_sumSide_26 cv_RX7_111 (c_X7_keepResult hB2 hO (Ce.up (Ce.new hw) (by omega)) (Ce.new (Ce.up hc (by omega))) t ht) ⟨rfl, rfl, by decide, by decide⟩ (Ce.up (Ce.up ho (by decide)) (by omega)) rfl rfl (Nat.le_of_ble_eq_true rfl) ⟨Nat.zero_le _, Nat.zero_le _⟩ ?_
    rintro _ g3 ⟨_, rfl, rfl, hB3, hF3⟩
    show G M S E (0, 0) g3 29 [some (.ref (E.1 0)), some (.int (nI t))] [.int ((kpR v.1 (swS v.1 v.2.2.1.1 v.2.2.1.2.2) v.2.1 t).1)]
    exact r_iret (pc := 29) C Z dX7_sumSide_29 rfl (by rw [show oSum (hsn, v, rem, v2, rem2, pt, inp, out, sl) (nI t) = kp (hsn, v, rem, v2, rem2, pt, inp, out, sl) (swS v.1 v.2.2.1.1 v.2.2.1.2.2) t by simp only [oSum, h4, iN_nI (show t < 2 ^ 31 by omega), cond_true, cond_false, if_true, if_false, not_true_eq_false, not_false_eq_true, ↓reduceIte]]; exact ⟨rfl, hB3, (hf2.wide (by omega) (by omega)).tr hF3 (by omega) (by omega)⟩)
  · have h4 := b_f h4
    refine r_bipush (pc := 7) (v := (-2)) C dX7_sumSide_7 (by decide +kernel) ?_
    exact r_iret (pc := 9) C Z dX7_sumSide_9 rfl (by rw [show oSum (hsn, v, rem, v2, rem2, pt, inp, out, sl) x = (-2, (hsn, v, rem, v2, rem2, pt, inp, out, sl)) by simp only [oSum, h4, cond_true, cond_false, if_true, if_false, not_true_eq_false, not_false_eq_true, ↓reduceIte]]; exact ⟨rfl, hB, Fr.rf⟩)
set_option maxHeartbeats 4000000 in
set_option maxRecDepth 100000 in
theorem c_X7_productSide {S : ST} {E : ET} {g : Nat → va_E} {hsn : Bool} {v v2 : SV} {rem rem2 : Nat → PV} {pt inp : Nat × (Nat → Nat)} {out : BV} {sl : Nat → SlV} (hB : BC S E g (hsn, v, rem, v2, rem2, pt, inp, out, sl)) (hO : SOk v) (x : Int32) : CtI S E yX7_productSide cX7_productSide 2 (Option.some FieldType.int) rmX7_productSide [.ref (E.1 0), .int x] g (fun u g' => u = (oPrS (hsn, v, rem, v2, rem2, pt, inp, out, sl) x).1 ∧ BC S E g' (oPrS (hsn, v, rem, v2, rem2, pt, inp, out, sl) x).2 ∧ Fr g g' 0 286) := by
  refine Ct.of RX7 (by decide +kernel) rfl (Nat.le_of_ble_eq_true rfl) (fun M C Z => ?_)
  refine G.eq (pc' := 0) (vs' := [some (.ref (E.1 0)), some (.int x)]) (st' := []) ?_
  obtain ⟨ho, hL, hV, hSc, hWy, hPt, hIn, hOu, hSl⟩ := id hB
  have ho : Ce E g 0 (.inr (7, [.ref (E.1 1), .ref (E.1 127), .int (b2i hsn), .ref (E.1 253), .ref (E.1 266), .ref (E.1 268), .ref (E.1 270), .ref (E.1 271), .ref (E.1 273), .ref (E.1 275), .ref (E.1 277)])) := ho
  have hL : StL S E g 1 v rem := hL
  obtain ⟨pi, ra, hs, hl⟩ := id hL
  obtain ⟨hN4, hN, hr1⟩ := id hO
  obtain ⟨⟨v0, hp0⟩, ⟨N1, c1, hw, hc⟩, ⟨N2, c2, hw2, hc2⟩⟩ := id hSc
  refine r_iload_n (pc := 0) C dX7_productSide_0 rfl ?_
  refine r_callS (pc := 1) C dX7_productSide_1 cs_RX7_82 (c_X7_isRegister x) ⟨rfl, rfl, by decide, by decide⟩ rfl rfl (Nat.le_of_ble_eq_true rfl) ⟨Nat.zero_le _, Nat.zero_le _⟩ ?_
  rintro _ _ ⟨_, rfl, rfl, rfl⟩
  show G M S E (0, 0) g 4 [some (.ref (E.1 0)), some (.int x)] [.int (b2i (hix 6 x))]
  refine r_if_ne (pc := 4) (tgt := 10) C dX7_productSide_4 (by decide) (fun h4 => ?_) (fun h4 => ?_)
  · have h4 := b_t h4
    obtain ⟨t, rfl, ht⟩ := hix_nat h4 (by omega)
    refine r_aload_n (pc := 10) C dX7_productSide_10 rfl ?_
    refine r_aload_n (pc := 11) C dX7_productSide_11 rfl ?_
    refine r_getf (pc := 12) C dX7_productSide_12 fl_RX7_14 ho rfl ?_
    refine r_getf (pc := 15) C dX7_productSide_15 fl_RX7_178 hs.1 rfl ?_
    refine r_getf (pc := 18) C dX7_productSide_18 fl_RX7_198 hs.2.2.2.2.1.1 rfl ?_
    refine r_callV (pc := 21) C dX7_productSide_21 cv_RX7_208 (c_X7_sumWithStepPowers hB hO (q := 1 + 8 + 1) (q0 := 1 + 8 + 2) (m := v.2.2.1.2.1) hs.2.2.2.2.1.2.1 (fun j hj => (hs.2.2.2.2.1.2.2.2 j hj).1) (by omega) (by omega)) ⟨rfl, rfl, by decide, by decide⟩ ho rfl rfl (Nat.le_of_ble_eq_true rfl) ⟨Nat.zero_le _, Nat.zero_le _⟩ ?_
    rintro _ _ ⟨rfl, rfl⟩
    show G M S E (0, 0) (va_up (va_up g 266 (.inr (6, [.ref (E.1 (266 + 1)), .int (nI v.1)]))) (266 + 1) (xJ S 24 (swS v.1 v.2.2.1.1 v.2.2.1.2.1))) 24 [some (.ref (E.1 0)), some (.int (nI t))] []
    refine r_aload_n (pc := 24) C dX7_productSide_24 rfl ?_
    refine r_getf (pc := 25) C dX7_productSide_25 fl_RX7_35 (Ce.up (Ce.up ho (by decide)) (by omega)) rfl ?_
    refine r_aload_n (pc := 28) C dX7_productSide_28 rfl ?_
    refine r_getf (pc := 29) C dX7_productSide_29 fl_RX7_14 (Ce.up (Ce.up ho (by decide)) (by omega)) rfl ?_
    refine r_getf (pc := 32) C dX7_productSide_32 fl_RX7_178 (Ce.up (Ce.up hs.1 (by decide)) (by omega)) rfl ?_
    refine r_getf (pc := 35) C dX7_productSide_35 fl_RX7_212 (Ce.up (Ce.up hs.2.2.2.2.1.1 (by omega)) (by omega)) rfl ?_
    refine r_iconst (pc := 38) (v := nI 1) C dX7_productSide_38 (by decide +kernel) ?_
    refine r_iadd (pc := 39) C dX7_productSide_39 ?_
    refine r_ti (nI (v.2.2.1.1 + 1)) (nI_add _ _) ?_
    refine r_aload_n (pc := 40) C dX7_productSide_40 rfl ?_
    refine r_getf (pc := 41) C dX7_productSide_41 fl_RX7_14 (Ce.up (Ce.up ho (by decide)) (by omega)) rfl ?_
    refine r_getf (pc := 44) C dX7_productSide_44 fl_RX7_78 (Ce.up (Ce.up hs.1 (by decide)) (by omega)) rfl ?_
    refine r_callV (pc := 47) C dX7_productSide_47 cv_RX7_215 (c_X6_overFactors (Ce.up (Ce.new hw) (by omega)) (Ce.new (Ce.up hc (by omega))) hN (by omega) (v.2.2.1.1 + 1) v.1 (by omega) (by omega)) ⟨rfl, rfl, by decide, by decide⟩ (Ce.up (Ce.new hw) (by omega)) rfl rfl (Nat.le_of_ble_eq_true rfl) ⟨Nat.zero_le _, Nat.zero_le _⟩ ?_
    rintro _ _ ⟨rfl, rfl⟩
    rw [bx_uu]
    show G M S E (0, 0) (va_up (va_up g 266 (.inr (6, [.ref (E.1 (266 + 1)), .int (nI v.1)]))) (266 + 1) (xJ S 24 (ovFs v.1 (v.2.2.1.1 + 1) v.1 (swS v.1 v.2.2.1.1 v.2.2.1.2.1)))) 50 [some (.ref (E.1 0)), some (.int (nI t))] []
    have hf2 : Fr g (va_up (va_up g 266 (.inr (6, [.ref (E.1 (266 + 1)), .int (nI v.1)]))) (266 + 1) (xJ S 24 (ovFs v.1 (v.2.2.1.1 + 1) v.1 (swS v.1 v.2.2.1.1 v.2.2.1.2.1)))) 253 270 := ((Fr.rf.up (by omega) (by omega)).up (by omega) (by omega))
    have hB2 := hB.scr hf2 ⟨⟨v0, ((hp0.out (by omega)).out (by omega))⟩, (Wd.of (Ce.up (Ce.new hw) (by omega)) (Ce.new (Ce.up hc (by omega)))), (Wd.of (Ce.up (Ce.up hw2 (by decide)) (by omega)) (Ce.up (Ce.up hc2 (by omega)) (by omega)))⟩
    refine r_aload_n (pc := 50) C dX7_productSide_50 rfl ?_
    refine r_iload_n (pc := 51) C dX7_productSide_51 rfl ?_
    refine r_callV (pc := 52) C dX7_productSide_52 cv_RX7_111 (c_X7_keepResult hB2 hO (Ce.up (Ce.new hw) (by omega)) (Ce.new (Ce.up hc (by omega))) t ht) ⟨rfl, rfl, by decide, by decide⟩ (Ce.up (Ce.up ho (by decide)) (by omega)) rfl rfl (Nat.le_of_ble_eq_true rfl) ⟨Nat.zero_le _, Nat.zero_le _⟩ ?_
    rintro _ g3 ⟨_, rfl, rfl, hB3, hF3⟩
    show G M S E (0, 0) g3 55 [some (.ref (E.1 0)), some (.int (nI t))] [.int ((kpR v.1 (ovFs v.1 (v.2.2.1.1 + 1) v.1 (swS v.1 v.2.2.1.1 v.2.2.1.2.1)) v.2.1 t).1)]
    exact r_iret (pc := 55) C Z dX7_productSide_55 rfl (by rw [show oPrS (hsn, v, rem, v2, rem2, pt, inp, out, sl) (nI t) = kp (hsn, v, rem, v2, rem2, pt, inp, out, sl) (ovFs v.1 (v.2.2.1.1 + 1) v.1 (swS v.1 v.2.2.1.1 v.2.2.1.2.1)) t by simp only [oPrS, h4, iN_nI (show t < 2 ^ 31 by omega), cond_true, cond_false, if_true, if_false, not_true_eq_false, not_false_eq_true, ↓reduceIte]]; exact ⟨rfl, hB3, (hf2.wide (by omega) (by omega)).tr hF3 (by omega) (by omega)⟩)
  · have h4 := b_f h4
    refine r_bipush (pc := 7) (v := (-2)) C dX7_productSide_7 (by decide +kernel) ?_
    exact r_iret (pc := 9) C Z dX7_productSide_9 rfl (by rw [show oPrS (hsn, v, rem, v2, rem2, pt, inp, out, sl) x = (-2, (hsn, v, rem, v2, rem2, pt, inp, out, sl)) by simp only [oPrS, h4, cond_true, cond_false, if_true, if_false, not_true_eq_false, not_false_eq_true, ↓reduceIte]]; exact ⟨rfl, hB, Fr.rf⟩)
set_option maxHeartbeats 4000000 in
set_option maxRecDepth 100000 in
theorem c_X7_copyAlpha {S : ST} {E : ET} {g : Nat → va_E} {hsn : Bool} {v v2 : SV} {rem rem2 : Nat → PV} {pt inp : Nat × (Nat → Nat)} {out : BV} {sl : Nat → SlV} (hB : BC S E g (hsn, v, rem, v2, rem2, pt, inp, out, sl)) (hO : SOk v) (x y : Int32) : CtI S E yX7_copyAlpha cX7_copyAlpha 3 (Option.some FieldType.int) rmX7_copyAlpha [.ref (E.1 0), .int x, .int y] g (fun u g' => u = (oCpA (hsn, v, rem, v2, rem2, pt, inp, out, sl) x y).1 ∧ BC S E g' (oCpA (hsn, v, rem, v2, rem2, pt, inp, out, sl) x y).2 ∧ Fr g g' 0 286) := by
  refine Ct.of RX7 (by decide +kernel) rfl (Nat.le_of_ble_eq_true rfl) (fun M C Z => ?_)
  refine G.eq (pc' := 0) (vs' := [some (.ref (E.1 0)), some (.int x), some (.int y)]) (st' := []) ?_
  obtain ⟨ho, hL, hV, hSc, hWy, hPt, hIn, hOu, hSl⟩ := id hB
  have ho : Ce E g 0 (.inr (7, [.ref (E.1 1), .ref (E.1 127), .int (b2i hsn), .ref (E.1 253), .ref (E.1 266), .ref (E.1 268), .ref (E.1 270), .ref (E.1 271), .ref (E.1 273), .ref (E.1 275), .ref (E.1 277)])) := ho
  have hL : StL S E g 1 v rem := hL
  obtain ⟨pi, ra, hs, hl⟩ := id hL
  obtain ⟨hN4, hN, hr1⟩ := id hO
  refine r_aload_n (pc := 0) C dX7_copyAlpha_0 rfl ?_
  refine r_iload_n (pc := 1) C dX7_copyAlpha_1 rfl ?_
  refine r_iload_n (pc := 2) C dX7_copyAlpha_2 rfl ?_
  refine r_aload_n (pc := 3) C dX7_copyAlpha_3 rfl ?_
  refine r_getf (pc := 4) C dX7_copyAlpha_4 fl_RX7_14 ho rfl ?_
  refine r_getf (pc := 7) C dX7_copyAlpha_7 fl_RX7_178 hs.1 rfl ?_
  refine r_getf (pc := 10) C dX7_copyAlpha_10 fl_RX7_198 hs.2.2.2.2.1.1 rfl ?_
  refine r_callV (pc := 13) C dX7_copyAlpha_13 cv_RX7_201 (c_X7_copyToRegister hB hO (q := 1 + 8 + 1) (q0 := 1 + 8 + 2) (m := v.2.2.1.2.1) hs.2.2.2.2.1.2.1 (fun j hj => (hs.2.2.2.2.1.2.2.2 j hj).1) (by omega) (by omega) x y) ⟨rfl, rfl, by decide, by decide⟩ ho rfl rfl (Nat.le_of_ble_eq_true rfl) ⟨Nat.zero_le _, Nat.zero_le _⟩ ?_
  rintro _ g2 ⟨_, rfl, rfl, hB2, hF⟩
  show G M S E (0, 0) g2 16 [some (.ref (E.1 0)), some (.int x), some (.int y)] [.int ((cpG v.1 v.2.1 x y v.2.2.1.2.1).1)]
  exact r_iret (pc := 16) C Z dX7_copyAlpha_16 rfl (⟨rfl, hB2, hF.wide (by omega) (by omega)⟩)
set_option maxHeartbeats 4000000 in
set_option maxRecDepth 100000 in
theorem c_X7_copyBeta {S : ST} {E : ET} {g : Nat → va_E} {hsn : Bool} {v v2 : SV} {rem rem2 : Nat → PV} {pt inp : Nat × (Nat → Nat)} {out : BV} {sl : Nat → SlV} (hB : BC S E g (hsn, v, rem, v2, rem2, pt, inp, out, sl)) (hO : SOk v) (x y : Int32) : CtI S E yX7_copyBeta cX7_copyBeta 3 (Option.some FieldType.int) rmX7_copyBeta [.ref (E.1 0), .int x, .int y] g (fun u g' => u = (oCpB (hsn, v, rem, v2, rem2, pt, inp, out, sl) x y).1 ∧ BC S E g' (oCpB (hsn, v, rem, v2, rem2, pt, inp, out, sl) x y).2 ∧ Fr g g' 0 286) := by
  refine Ct.of RX7 (by decide +kernel) rfl (Nat.le_of_ble_eq_true rfl) (fun M C Z => ?_)
  refine G.eq (pc' := 0) (vs' := [some (.ref (E.1 0)), some (.int x), some (.int y)]) (st' := []) ?_
  obtain ⟨ho, hL, hV, hSc, hWy, hPt, hIn, hOu, hSl⟩ := id hB
  have ho : Ce E g 0 (.inr (7, [.ref (E.1 1), .ref (E.1 127), .int (b2i hsn), .ref (E.1 253), .ref (E.1 266), .ref (E.1 268), .ref (E.1 270), .ref (E.1 271), .ref (E.1 273), .ref (E.1 275), .ref (E.1 277)])) := ho
  have hL : StL S E g 1 v rem := hL
  obtain ⟨pi, ra, hs, hl⟩ := id hL
  obtain ⟨hN4, hN, hr1⟩ := id hO
  refine r_aload_n (pc := 0) C dX7_copyBeta_0 rfl ?_
  refine r_iload_n (pc := 1) C dX7_copyBeta_1 rfl ?_
  refine r_iload_n (pc := 2) C dX7_copyBeta_2 rfl ?_
  refine r_aload_n (pc := 3) C dX7_copyBeta_3 rfl ?_
  refine r_getf (pc := 4) C dX7_copyBeta_4 fl_RX7_14 ho rfl ?_
  refine r_getf (pc := 7) C dX7_copyBeta_7 fl_RX7_178 hs.1 rfl ?_
  refine r_getf (pc := 10) C dX7_copyBeta_10 fl_RX7_205 hs.2.2.2.2.1.1 rfl ?_
  refine r_callV (pc := 13) C dX7_copyBeta_13 cv_RX7_201 (c_X7_copyToRegister hB hO (q := 1 + 8 + 7) (q0 := 1 + 8 + 8) (m := v.2.2.1.2.2) hs.2.2.2.2.1.2.2.1 (fun j hj => (hs.2.2.2.2.1.2.2.2 j hj).2) (by omega) (by omega) x y) ⟨rfl, rfl, by decide, by decide⟩ ho rfl rfl (Nat.le_of_ble_eq_true rfl) ⟨Nat.zero_le _, Nat.zero_le _⟩ ?_
  rintro _ g2 ⟨_, rfl, rfl, hB2, hF⟩
  show G M S E (0, 0) g2 16 [some (.ref (E.1 0)), some (.int x), some (.int y)] [.int ((cpG v.1 v.2.1 x y v.2.2.1.2.2).1)]
  exact r_iret (pc := 16) C Z dX7_copyBeta_16 rfl (⟨rfl, hB2, hF.wide (by omega) (by omega)⟩)
set_option maxHeartbeats 4000000 in
set_option maxRecDepth 100000 in
theorem c_X7_setAlpha {S : ST} {E : ET} {g : Nat → va_E} {hsn : Bool} {v v2 : SV} {rem rem2 : Nat → PV} {pt inp : Nat × (Nat → Nat)} {out : BV} {sl : Nat → SlV} (hB : BC S E g (hsn, v, rem, v2, rem2, pt, inp, out, sl)) (hO : SOk v) (y x : Int32) : CtI S E yX7_setAlpha cX7_setAlpha 3 (Option.some FieldType.int) rmX7_setAlpha [.ref (E.1 0), .int y, .int x] g (fun u g' => u = (oSeA (hsn, v, rem, v2, rem2, pt, inp, out, sl) y x).1 ∧ BC S E g' (oSeA (hsn, v, rem, v2, rem2, pt, inp, out, sl) y x).2 ∧ Fr g g' 0 286) := by
  refine Ct.of RX7 (by decide +kernel) rfl (Nat.le_of_ble_eq_true rfl) (fun M C Z => ?_)
  refine G.eq (pc' := 0) (vs' := [some (.ref (E.1 0)), some (.int y), some (.int x)]) (st' := []) ?_
  obtain ⟨ho, hL, hV, hSc, hWy, hPt, hIn, hOu, hSl⟩ := id hB
  have ho : Ce E g 0 (.inr (7, [.ref (E.1 1), .ref (E.1 127), .int (b2i hsn), .ref (E.1 253), .ref (E.1 266), .ref (E.1 268), .ref (E.1 270), .ref (E.1 271), .ref (E.1 273), .ref (E.1 275), .ref (E.1 277)])) := ho
  have hL : StL S E g 1 v rem := hL
  obtain ⟨pi, ra, hs, hl⟩ := id hL
  obtain ⟨hN4, hN, hr1⟩ := id hO
  refine r_aload_n (pc := 0) C dX7_setAlpha_0 rfl ?_
  refine r_iload_n (pc := 1) C dX7_setAlpha_1 rfl ?_
  refine r_iload_n (pc := 2) C dX7_setAlpha_2 rfl ?_
  refine r_iconst (pc := 3) (v := nI 1) C dX7_setAlpha_3 (by decide +kernel) ?_
  refine r_callV (pc := 4) C dX7_setAlpha_4 cv_RX7_174 (c_X7_setInPair_a hB hO y x) ⟨rfl, rfl, by decide, by decide⟩ ho rfl rfl (Nat.le_of_ble_eq_true rfl) ⟨Nat.zero_le _, Nat.zero_le _⟩ ?_
  rintro _ g2 ⟨_, rfl, rfl, hB2, hF⟩
  show G M S E (0, 0) g2 7 [some (.ref (E.1 0)), some (.int y), some (.int x)] [.int ((spA v y x).1)]
  exact r_iret (pc := 7) C Z dX7_setAlpha_7 rfl (⟨rfl, hB2, hF.wide (by omega) (by omega)⟩)
set_option maxHeartbeats 4000000 in
set_option maxRecDepth 100000 in
theorem c_X7_setBeta {S : ST} {E : ET} {g : Nat → va_E} {hsn : Bool} {v v2 : SV} {rem rem2 : Nat → PV} {pt inp : Nat × (Nat → Nat)} {out : BV} {sl : Nat → SlV} (hB : BC S E g (hsn, v, rem, v2, rem2, pt, inp, out, sl)) (hO : SOk v) (y x : Int32) : CtI S E yX7_setBeta cX7_setBeta 3 (Option.some FieldType.int) rmX7_setBeta [.ref (E.1 0), .int y, .int x] g (fun u g' => u = (oSeB (hsn, v, rem, v2, rem2, pt, inp, out, sl) y x).1 ∧ BC S E g' (oSeB (hsn, v, rem, v2, rem2, pt, inp, out, sl) y x).2 ∧ Fr g g' 0 286) := by
  refine Ct.of RX7 (by decide +kernel) rfl (Nat.le_of_ble_eq_true rfl) (fun M C Z => ?_)
  refine G.eq (pc' := 0) (vs' := [some (.ref (E.1 0)), some (.int y), some (.int x)]) (st' := []) ?_
  obtain ⟨ho, hL, hV, hSc, hWy, hPt, hIn, hOu, hSl⟩ := id hB
  have ho : Ce E g 0 (.inr (7, [.ref (E.1 1), .ref (E.1 127), .int (b2i hsn), .ref (E.1 253), .ref (E.1 266), .ref (E.1 268), .ref (E.1 270), .ref (E.1 271), .ref (E.1 273), .ref (E.1 275), .ref (E.1 277)])) := ho
  have hL : StL S E g 1 v rem := hL
  obtain ⟨pi, ra, hs, hl⟩ := id hL
  obtain ⟨hN4, hN, hr1⟩ := id hO
  refine r_aload_n (pc := 0) C dX7_setBeta_0 rfl ?_
  refine r_iload_n (pc := 1) C dX7_setBeta_1 rfl ?_
  refine r_iload_n (pc := 2) C dX7_setBeta_2 rfl ?_
  refine r_iconst (pc := 3) (v := nI 0) C dX7_setBeta_3 (by decide +kernel) ?_
  refine r_callV (pc := 4) C dX7_setBeta_4 cv_RX7_174 (c_X7_setInPair_b hB hO y x) ⟨rfl, rfl, by decide, by decide⟩ ho rfl rfl (Nat.le_of_ble_eq_true rfl) ⟨Nat.zero_le _, Nat.zero_le _⟩ ?_
  rintro _ g2 ⟨_, rfl, rfl, hB2, hF⟩
  show G M S E (0, 0) g2 7 [some (.ref (E.1 0)), some (.int y), some (.int x)] [.int ((spB v y x).1)]
  exact r_iret (pc := 7) C Z dX7_setBeta_7 rfl (⟨rfl, hB2, hF.wide (by omega) (by omega)⟩)
set_option maxHeartbeats 4000000 in
set_option maxRecDepth 100000 in
theorem c_X7_unitPair {S : ST} {E : ET} {g : Nat → va_E} {hsn : Bool} {v v2 : SV} {rem rem2 : Nat → PV} {pt inp : Nat × (Nat → Nat)} {out : BV} {sl : Nat → SlV} (hB : BC S E g (hsn, v, rem, v2, rem2, pt, inp, out, sl)) (hO : SOk v) (hU : UnOk) (x : Int32) : CtI S E yX7_unitPair cX7_unitPair 2 (Option.some FieldType.int) rmX7_unitPair [.ref (E.1 0), .int x] g (fun u g' => u = (oUni (hsn, v, rem, v2, rem2, pt, inp, out, sl) x).1 ∧ BC S E g' (oUni (hsn, v, rem, v2, rem2, pt, inp, out, sl) x).2 ∧ Fr g g' 0 286) := by
  refine Ct.of RX7 (by decide +kernel) rfl (Nat.le_of_ble_eq_true rfl) (fun M C Z => ?_)
  refine G.eq (pc' := 0) (vs' := [some (.ref (E.1 0)), some (.int x)]) (st' := []) ?_
  obtain ⟨ho, hL, hV, hSc, hWy, hPt, hIn, hOu, hSl⟩ := id hB
  have ho : Ce E g 0 (.inr (7, [.ref (E.1 1), .ref (E.1 127), .int (b2i hsn), .ref (E.1 253), .ref (E.1 266), .ref (E.1 268), .ref (E.1 270), .ref (E.1 271), .ref (E.1 273), .ref (E.1 275), .ref (E.1 277)])) := ho
  have hL : StL S E g 1 v rem := hL
  obtain ⟨pi, ra, hs, hl⟩ := id hL
  obtain ⟨hN4, hN, hr1⟩ := id hO
  refine r_iload_n (pc := 0) C dX7_unitPair_0 rfl ?_
  refine r_if_eq (pc := 1) (tgt := 11) C dX7_unitPair_1 (by decide) (fun h1 => ?_) (fun h1 => ?_)
  · obtain rfl : x = nI 0 := h1
    refine r_aload_n (pc := 11) C dX7_unitPair_11 rfl ?_
    refine r_iload_n (pc := 12) C dX7_unitPair_12 rfl ?_
    refine r_callV (pc := 13) C dX7_unitPair_13 cv_RX7_171 (c_X7_setUnitPair hB hO hU 0 (by omega)) ⟨rfl, rfl, by decide, by decide⟩ ho rfl rfl (Nat.le_of_ble_eq_true rfl) ⟨Nat.zero_le _, Nat.zero_le _⟩ ?_
    rintro _ g6 ⟨rfl, hB6, hF6⟩
    show G M S E (0, 0) g6 16 [some (.ref (E.1 0)), some (.int (nI 0))] []
    refine r_iconst (pc := 16) (v := nI 0) C dX7_unitPair_16 (by decide +kernel) ?_
    exact r_iret (pc := 17) C Z dX7_unitPair_17 rfl (by rw [show oUni (hsn, v, rem, v2, rem2, pt, inp, out, sl) (nI 0) = (nI 0, kSt (hsn, v, rem, v2, rem2, pt, inp, out, sl) (v.1, v.2.1, (0, unA v.1 0, uBe), nI 0, 0)) from rfl]; exact ⟨rfl, hB6, hF6.wide (by omega) (by omega)⟩)
  · refine r_iload_n (pc := 4) C dX7_unitPair_4 rfl ?_
    refine r_iconst (pc := 5) (v := nI 1) C dX7_unitPair_5 (by decide +kernel) ?_
    refine r_icmp_eq (pc := 6) (tgt := 11) C dX7_unitPair_6 (by decide) (fun h6 => ?_) (fun h6 => ?_)
    · obtain rfl : x = nI 1 := h6
      refine r_aload_n (pc := 11) C dX7_unitPair_11 rfl ?_
      refine r_iload_n (pc := 12) C dX7_unitPair_12 rfl ?_
      refine r_callV (pc := 13) C dX7_unitPair_13 cv_RX7_171 (c_X7_setUnitPair hB hO hU 1 (by omega)) ⟨rfl, rfl, by decide, by decide⟩ ho rfl rfl (Nat.le_of_ble_eq_true rfl) ⟨Nat.zero_le _, Nat.zero_le _⟩ ?_
      rintro _ g6 ⟨rfl, hB6, hF6⟩
      show G M S E (0, 0) g6 16 [some (.ref (E.1 0)), some (.int (nI 1))] []
      refine r_iconst (pc := 16) (v := nI 0) C dX7_unitPair_16 (by decide +kernel) ?_
      exact r_iret (pc := 17) C Z dX7_unitPair_17 rfl (by rw [show oUni (hsn, v, rem, v2, rem2, pt, inp, out, sl) (nI 1) = (nI 0, kSt (hsn, v, rem, v2, rem2, pt, inp, out, sl) (v.1, v.2.1, (1, unA v.1 1, uBe), nI 0, 0)) from rfl]; exact ⟨rfl, hB6, hF6.wide (by omega) (by omega)⟩)
    · refine r_iconst (pc := 9) (v := (-1)) C dX7_unitPair_9 (by decide +kernel) ?_
      exact r_iret (pc := 10) C Z dX7_unitPair_10 rfl (by rw [show oUni (hsn, v, rem, v2, rem2, pt, inp, out, sl) x = (-1, (hsn, v, rem, v2, rem2, pt, inp, out, sl)) by simp only [oUni, h1, h6, cond_true, cond_false, if_true, if_false, not_true_eq_false, not_false_eq_true, ↓reduceIte]]; exact ⟨rfl, hB, Fr.rf⟩)
set_option maxHeartbeats 4000000 in
set_option maxRecDepth 100000 in
theorem c_X7_step {S : ST} {E : ET} {g : Nat → va_E} {hsn : Bool} {v v2 : SV} {rem rem2 : Nat → PV} {pt inp : Nat × (Nat → Nat)} {out : BV} {sl : Nat → SlV} (hB : BC S E g (hsn, v, rem, v2, rem2, pt, inp, out, sl)) (hO : SOk v) : CtI S E yX7_step cX7_step 1 (Option.some FieldType.int) rmX7_step [.ref (E.1 0)] g (fun u g' => u = (oStp (hsn, v, rem, v2, rem2, pt, inp, out, sl)).1 ∧ BC S E g' (oStp (hsn, v, rem, v2, rem2, pt, inp, out, sl)).2 ∧ Fr g g' 0 286) := by
  refine Ct.of RX7 (by decide +kernel) rfl (Nat.le_of_ble_eq_true rfl) (fun M C Z => ?_)
  refine G.eq (pc' := 0) (vs' := [some (.ref (E.1 0))]) (st' := []) ?_
  obtain ⟨ho, hL, hV, hSc, hWy, hPt, hIn, hOu, hSl⟩ := id hB
  have ho : Ce E g 0 (.inr (7, [.ref (E.1 1), .ref (E.1 127), .int (b2i hsn), .ref (E.1 253), .ref (E.1 266), .ref (E.1 268), .ref (E.1 270), .ref (E.1 271), .ref (E.1 273), .ref (E.1 275), .ref (E.1 277)])) := ho
  have hL : StL S E g 1 v rem := hL
  obtain ⟨pi, ra, hs, hl⟩ := id hL
  obtain ⟨hN4, hN, hr1⟩ := id hO
  obtain ⟨⟨v0, hp0⟩, ⟨N1, c1, hw, hc⟩, ⟨N2, c2, hw2, hc2⟩⟩ := id hSc
  refine r_aload_n (pc := 0) C dX7_step_0 rfl ?_
  refine r_getf (pc := 1) C dX7_step_1 fl_RX7_28 ho rfl ?_
  refine r_aload_n (pc := 4) C dX7_step_4 rfl ?_
  refine r_getf (pc := 5) C dX7_step_5 fl_RX7_14 ho rfl ?_
  refine r_getf (pc := 8) C dX7_step_8 fl_RX7_178 hs.1 rfl ?_
  refine r_aload_n (pc := 11) C dX7_step_11 rfl ?_
  refine r_getf (pc := 12) C dX7_step_12 fl_RX7_14 ho rfl ?_
  refine r_getf (pc := 15) C dX7_step_15 fl_RX7_78 hs.1 rfl ?_
  refine r_aload_n (pc := 18) C dX7_step_18 rfl ?_
  refine r_getf (pc := 19) C dX7_step_19 fl_RX7_35 ho rfl ?_
  refine r_aload_n (pc := 22) C dX7_step_22 rfl ?_
  refine r_getf (pc := 23) C dX7_step_23 fl_RX7_39 ho rfl ?_
  refine r_callV (pc := 26) C dX7_step_26 cv_RX7_181 (c_X2_setNextOf hp0 hs.2.2.2.2.1 (by omega) ⟨N1, c1, hw, hc⟩ ⟨N2, c2, hw2, hc2⟩ hr1 v.1 hN) ⟨rfl, rfl, by decide, by decide⟩ hp0.1 rfl rfl (Nat.le_of_ble_eq_true rfl) ⟨Nat.zero_le _, Nat.zero_le _⟩ ?_
  rintro _ g2 ⟨_, rfl, rfl, hW1, hW2, hF, al, be, hp, hab⟩
  have hB2 := hB.scr hF ⟨⟨_, hp⟩, hW1, hW2⟩
  show G M S E (0, 0) g2 29 [some (.ref (E.1 0))] [.int (b2i (sOk v.1 v.2.2.1.1 v.2.2.1.2.2))]
  refine r_if_ne (pc := 29) (tgt := 35) C dX7_step_29 (by decide) (fun h29 => ?_) (fun h29 => ?_)
  · have h29 := b_t h29
    have hp := hp.cong (w := (v.2.2.1.1, (fun j => wrT v.1 (sAl v.1 v.2.2.1.1 v.2.2.1.2.1 j)), (fun j => wrT v.1 (sBe v.1 v.2.2.1.1 v.2.2.1.2.2 j)))) rfl (fun j hj => (hab h29 j hj).1) (fun j hj => (hab h29 j hj).2)
    obtain ⟨ho, hL, hV, hSc, hWy, hPt, hIn, hOu, hSl⟩ := id hB2
    have ho : Ce E g2 0 (.inr (7, [.ref (E.1 1), .ref (E.1 127), .int (b2i hsn), .ref (E.1 253), .ref (E.1 266), .ref (E.1 268), .ref (E.1 270), .ref (E.1 271), .ref (E.1 273), .ref (E.1 275), .ref (E.1 277)])) := ho
    obtain ⟨pi, ra, hs, hl⟩ := id hL
    refine r_aload_n (pc := 35) C dX7_step_35 rfl ?_
    refine r_getf (pc := 36) C dX7_step_36 fl_RX7_14 ho rfl ?_
    refine r_aload_n (pc := 39) C dX7_step_39 rfl ?_
    refine r_getf (pc := 40) C dX7_step_40 fl_RX7_28 ho rfl ?_
    refine r_callV (pc := 43) C dX7_step_43 cv_RX7_185 (c_X5_goOnTo hL hp (by omega)) ⟨rfl, rfl, by decide, by decide⟩ hs.1 rfl rfl (Nat.le_of_ble_eq_true rfl) ⟨Nat.zero_le _, Nat.zero_le _⟩ ?_
    rintro _ g3 ⟨rfl, hL3, hF3⟩
    have hB3 := hB2.st hF3 hL3
    show G M S E (0, 0) g3 46 [some (.ref (E.1 0))] []
    clear ho hL hV hSc hWy hPt hIn hOu hSl hs hl
    obtain ⟨ho, hL, hV, hSc, hWy, hPt, hIn, hOu, hSl⟩ := id hB3
    have ho : Ce E g3 0 (.inr (7, [.ref (E.1 1), .ref (E.1 127), .int (b2i hsn), .ref (E.1 253), .ref (E.1 266), .ref (E.1 268), .ref (E.1 270), .ref (E.1 271), .ref (E.1 273), .ref (E.1 275), .ref (E.1 277)])) := ho
    obtain ⟨pi, ra, hs, hl⟩ := id hL
    refine r_aload_n (pc := 46) C dX7_step_46 rfl ?_
    refine r_getf (pc := 47) C dX7_step_47 fl_RX7_14 ho rfl ?_
    refine r_getf (pc := 50) C dX7_step_50 fl_RX7_189 hs.1 rfl ?_
    exact r_iret (pc := 53) C Z dX7_step_53 rfl (by rw [show oStp (hsn, v, rem, v2, rem2, pt, inp, out, sl) = (v.2.2.2.1 + nI 1, (hsn, (v.1, v.2.1, (v.2.2.1.1, (fun j => wrT v.1 (sAl v.1 v.2.2.1.1 v.2.2.1.2.1 j)), (fun j => wrT v.1 (sBe v.1 v.2.2.1.1 v.2.2.1.2.2 j))), v.2.2.2.1 + nI 1, cG v.2.2.2.2), rmG v.2.2.2.2 rem v.2.2.1, v2, rem2, pt, inp, out, sl)) by unfold oStp; rw [h29]; rfl]; exact ⟨rfl, hB3, (hF.wide (by omega) (by omega)).tr hF3 (by omega) (by omega)⟩)
  · have h29 := b_f h29
    refine r_bipush (pc := 32) (v := (-3)) C dX7_step_32 (by decide +kernel) ?_
    exact r_iret (pc := 34) C Z dX7_step_34 rfl (by rw [show oStp (hsn, v, rem, v2, rem2, pt, inp, out, sl) = (-3, (hsn, v, rem, v2, rem2, pt, inp, out, sl)) by unfold oStp; rw [h29]; rfl]; exact ⟨rfl, hB2, hF.wide (by omega) (by omega)⟩)
set_option maxHeartbeats 4000000 in
set_option maxRecDepth 100000 in
theorem c_X7_undoStep {S : ST} {E : ET} {g : Nat → va_E} {hsn : Bool} {v v2 : SV} {rem rem2 : Nat → PV} {pt inp : Nat × (Nat → Nat)} {out : BV} {sl : Nat → SlV} (hB : BC S E g (hsn, v, rem, v2, rem2, pt, inp, out, sl)) (hO : SOk v) : CtI S E yX7_undoStep cX7_undoStep 1 (Option.some FieldType.int) rmX7_undoStep [.ref (E.1 0)] g (fun u g' => u = (oUnd (hsn, v, rem, v2, rem2, pt, inp, out, sl)).1 ∧ BC S E g' (oUnd (hsn, v, rem, v2, rem2, pt, inp, out, sl)).2 ∧ Fr g g' 0 286) := by
  refine Ct.of RX7 (by decide +kernel) rfl (Nat.le_of_ble_eq_true rfl) (fun M C Z => ?_)
  refine G.eq (pc' := 0) (vs' := [some (.ref (E.1 0))]) (st' := []) ?_
  obtain ⟨ho, hL, hV, hSc, hWy, hPt, hIn, hOu, hSl⟩ := id hB
  have ho : Ce E g 0 (.inr (7, [.ref (E.1 1), .ref (E.1 127), .int (b2i hsn), .ref (E.1 253), .ref (E.1 266), .ref (E.1 268), .ref (E.1 270), .ref (E.1 271), .ref (E.1 273), .ref (E.1 275), .ref (E.1 277)])) := ho
  have hL : StL S E g 1 v rem := hL
  obtain ⟨pi, ra, hs, hl⟩ := id hL
  obtain ⟨hN4, hN, hr1⟩ := id hO
  refine r_aload_n (pc := 0) C dX7_undoStep_0 rfl ?_
  refine r_getf (pc := 1) C dX7_undoStep_1 fl_RX7_14 ho rfl ?_
  refine r_getf (pc := 4) C dX7_undoStep_4 fl_RX7_192 hs.1 rfl ?_
  have hle := hs.2.2.2.2.2.2.2.2
  refine r_if_ne (pc := 7) (tgt := 13) C dX7_undoStep_7 (by decide) (fun h7 => ?_) (fun h7 => ?_)
  · have h7 := z_ne (by omega) h7
    refine r_aload_n (pc := 13) C dX7_undoStep_13 rfl ?_
    refine r_getf (pc := 14) C dX7_undoStep_14 fl_RX7_14 ho rfl ?_
    refine r_callV (pc := 17) C dX7_undoStep_17 cv_RX7_195 (c_X5_goBack hL (by omega)) ⟨rfl, rfl, by decide, by decide⟩ hs.1 rfl rfl (Nat.le_of_ble_eq_true rfl) ⟨Nat.zero_le _, Nat.zero_le _⟩ ?_
    rintro _ g3 ⟨rfl, hL3, hF3⟩
    have hB3 := hB.st hF3 hL3
    show G M S E (0, 0) g3 20 [some (.ref (E.1 0))] []
    clear ho hL hV hSc hWy hPt hIn hOu hSl hs hl
    obtain ⟨ho, hL, hV, hSc, hWy, hPt, hIn, hOu, hSl⟩ := id hB3
    have ho : Ce E g3 0 (.inr (7, [.ref (E.1 1), .ref (E.1 127), .int (b2i hsn), .ref (E.1 253), .ref (E.1 266), .ref (E.1 268), .ref (E.1 270), .ref (E.1 271), .ref (E.1 273), .ref (E.1 275), .ref (E.1 277)])) := ho
    obtain ⟨pi, ra, hs, hl⟩ := id hL
    refine r_aload_n (pc := 20) C dX7_undoStep_20 rfl ?_
    refine r_getf (pc := 21) C dX7_undoStep_21 fl_RX7_14 ho rfl ?_
    refine r_getf (pc := 24) C dX7_undoStep_24 fl_RX7_189 hs.1 rfl ?_
    exact r_iret (pc := 27) C Z dX7_undoStep_27 rfl (by rw [show oUnd (hsn, v, rem, v2, rem2, pt, inp, out, sl) = (v.2.2.2.1 - nI 1, kSt (hsn, v, rem, v2, rem2, pt, inp, out, sl) (v.1, v.2.1, rem (v.2.2.2.2 - 1), v.2.2.2.1 - nI 1, v.2.2.2.2 - 1)) from if_neg h7]; exact ⟨rfl, hB3, hF3.wide (by omega) (by omega)⟩)
  · have h7 := z_eq (by omega) h7
    refine r_bipush (pc := 10) (v := (-5)) C dX7_undoStep_10 (by decide +kernel) ?_
    exact r_iret (pc := 12) C Z dX7_undoStep_12 rfl (by rw [show oUnd (hsn, v, rem, v2, rem2, pt, inp, out, sl) = (-5, (hsn, v, rem, v2, rem2, pt, inp, out, sl)) from if_pos h7]; exact ⟨rfl, hB, Fr.rf⟩)
