/-- a result kept in a register -/
def nzN (N : Nat) (a : Nat → Int32) : Int32 := nI (cntN (fun k => decide (¬ a k = 0)) N)
def kpR (N : Nat) (c : Nat → Int64) (rg : Nat → Nat → Int32) (t : Nat) : Int32 × (Nat → Nat → Int32) := bif fitB N c then (nzN N (wrT N c), va_up rg t (wrT N c)) else (-3, rg)
def swS (N r : Nat) (m : Nat → Nat → Int32) : Nat → Int64 := it (fun n f => plS N (m n) (r * n + n * n) f) 5 (fun _ => 0)
theorem hix_nat {n : Nat} {x : Int32} (h : hix n x = true) (hn : n < 2 ^ 31) : ∃ t : Nat, x = nI t ∧ t < n := by
  unfold hix at h
  rw [Bool.and_eq_true] at h
  have h1 := of_decide_eq_true h.1
  have h2 := of_decide_eq_true h.2
  have h0 : 0 ≤ x.toInt := by
    have := Int32.not_lt.mp h1
    exact Int32.le_iff_toInt_le.mp this
  have e : x = nI x.toInt.toNat := by
    apply Int32.toInt.inj
    rw [nI_toInt (by have := x.toInt_lt; omega)]
    omega
  refine ⟨x.toInt.toNat, e, ?_⟩
  rw [e] at h2
  exact c_nle (by omega) (by have := x.toInt_lt; omega) h2
theorem nI_hix {n t : Nat} (h : t < n) (hn : n < 2 ^ 31) : hix n (nI t) = true := by
  unfold hix
  rw [show decide (¬ nI t < 0) = true from decide_eq_true (nI_pos (by omega)), show decide (¬ nI n ≤ nI t) = true from decide_eq_true (fun q => by have := c_le hn (by omega) q; omega)]
  rfl
set_option maxHeartbeats 4000000 in
set_option maxRecDepth 100000 in
theorem c_X7_keepResult {S : ST} {E : ET} {g : Nat → va_E} {hsn : Bool} {v v2 : SV} {rem rem2 : Nat → PV} {pt inp : Nat × (Nat → Nat)} {out : BV} {sl : Nat → SlV} (hB : BC S E g (hsn, v, rem, v2, rem2, pt, inp, out, sl)) (hO : SOk v) {c : Nat → Int64} (hw : Ce E g 266 (.inr (6, [.ref (E.1 (266 + 1)), .int (nI v.1)]))) (hc : Ce E g (266 + 1) (xJ S 24 c)) (t : Nat) (ht : t < 6) : CtI S E yX7_keepResult cX7_keepResult 2 (Option.some FieldType.int) rmX7_keepResult [.ref (E.1 0), .int (nI t)] g (fun u g' => u = (kpR v.1 c v.2.1 t).1 ∧ BC S E g' (hsn, (v.1, (kpR v.1 c v.2.1 t).2, v.2.2), rem, v2, rem2, pt, inp, out, sl) ∧ Fr g g' 1 127) := by
  refine Ct.of RX7 (by decide +kernel) rfl (Nat.le_of_ble_eq_true rfl) (fun M C Z => ?_)
  refine G.eq (pc' := 0) (vs' := [some (.ref (E.1 0)), some (.int (nI t))]) (st' := []) ?_
  obtain ⟨ho, hL, hV, hSc, hWy, hPt, hIn, hOu, hSl⟩ := id hB
  have ho : Ce E g 0 (.inr (7, [.ref (E.1 1), .ref (E.1 127), .int (b2i hsn), .ref (E.1 253), .ref (E.1 266), .ref (E.1 268), .ref (E.1 270), .ref (E.1 271), .ref (E.1 273), .ref (E.1 275), .ref (E.1 277)])) := ho
  have hL : StL S E g 1 v rem := hL
  obtain ⟨pi, ra, hs, hl⟩ := id hL
  obtain ⟨hN4, hN, hr1⟩ := id hO
  refine r_aload_n (pc := 0) C dX7_keepResult_0 rfl ?_
  refine r_getf (pc := 1) C dX7_keepResult_1 fl_RX7_35 ho rfl ?_
  refine r_callV (pc := 4) C dX7_keepResult_4 cv_RX7_329 (c_X6_fits hw hc hN (by omega)) ⟨rfl, rfl, by decide, by decide⟩ hw rfl rfl (Nat.le_of_ble_eq_true rfl) ⟨Nat.zero_le _, Nat.zero_le _⟩ ?_
  rintro _ _ ⟨_, rfl, rfl, rfl⟩
  show G M S E (0, 0) g 7 [some (.ref (E.1 0)), some (.int (nI t))] [.int (b2i (fitB v.1 c))]
  refine r_if_ne (pc := 7) (tgt := 13) C dX7_keepResult_7 (by decide) (fun h7 => ?_) (fun h7 => ?_)
  · have h7 := b_t h7
    refine r_aload_n (pc := 13) C dX7_keepResult_13 rfl ?_
    refine r_getf (pc := 14) C dX7_keepResult_14 fl_RX7_35 ho rfl ?_
    refine r_aload_n (pc := 17) C dX7_keepResult_17 rfl ?_
    refine r_getf (pc := 18) C dX7_keepResult_18 fl_RX7_14 ho rfl ?_
    refine r_getf (pc := 21) C dX7_keepResult_21 fl_RX7_91 hs.1 rfl ?_
    refine r_iload_n (pc := 24) C dX7_keepResult_24 rfl ?_
    refine r_aald (pc := 25) C dX7_keepResult_25 hs.2.1 rfl rfl rfl (by omega) (by omega) rfl ?_
    refine r_callV (pc := 26) C dX7_keepResult_26 cv_RX7_333 (c_X6_writeTo hw hc hN (by omega) (hs.2.2.2.1 t (by omega)) (by omega) (by omega)) ⟨rfl, rfl, by decide, by decide⟩ hw rfl rfl (Nat.le_of_ble_eq_true rfl) ⟨Nat.zero_le _, Nat.zero_le _⟩ ?_
    rintro _ _ ⟨rfl, rfl⟩
    show G M S E (0, 0) (va_up g (1 + 2 + t) (xI S 24 (wrT v.1 c))) 29 [some (.ref (E.1 0)), some (.int (nI t))] []
    refine r_aload_n (pc := 29) C dX7_keepResult_29 rfl ?_
    refine r_aload_n (pc := 30) C dX7_keepResult_30 rfl ?_
    refine r_getf (pc := 31) C dX7_keepResult_31 fl_RX7_14 (Ce.up ho (by omega)) rfl ?_
    refine r_getf (pc := 34) C dX7_keepResult_34 fl_RX7_91 (Ce.up hs.1 (by omega)) rfl ?_
    refine r_iload_n (pc := 37) C dX7_keepResult_37 rfl ?_
    refine r_aald (pc := 38) C dX7_keepResult_38 (Ce.up hs.2.1 (by omega)) rfl rfl rfl (by omega) (by omega) rfl ?_
    have hB2 := hB.st (Fr.up (lo := 1) (hi := 127) Fr.rf (by omega) (by omega)) ⟨pi, ra, hs.reg (wrT v.1 c) ht, hl⟩
    refine r_callV (pc := 39) C dX7_keepResult_39 cv_RX7_153 (c_X7_countNonzero hB2 (show SOk (v.1, va_up v.2.1 t (wrT v.1 c), v.2.2) from hO) (Ce.new (hs.2.2.2.1 t (by omega)))) ⟨rfl, rfl, by decide, by decide⟩ (Ce.up ho (by omega)) rfl rfl (Nat.le_of_ble_eq_true rfl) ⟨Nat.zero_le _, Nat.zero_le _⟩ ?_
    rintro _ _ ⟨_, rfl, rfl, rfl⟩
    show G M S E (0, 0) (va_up g (1 + 2 + t) (xI S 24 (wrT v.1 c))) 42 [some (.ref (E.1 0)), some (.int (nI t))] [.int (nzN v.1 (wrT v.1 c))]
    exact r_iret (pc := 42) C Z dX7_keepResult_42 rfl (by rw [show (kpR v.1 c v.2.1 t) = (nzN v.1 (wrT v.1 c), va_up v.2.1 t (wrT v.1 c)) by unfold kpR; rw [h7]; rfl]; exact ⟨rfl, hB2, Fr.up Fr.rf (by omega) (by omega)⟩)
  · have h7 := b_f h7
    refine r_bipush (pc := 10) (v := (-3)) C dX7_keepResult_10 (by decide +kernel) ?_
    exact r_iret (pc := 12) C Z dX7_keepResult_12 rfl (by rw [show (kpR v.1 c v.2.1 t) = (-3, v.2.1) by unfold kpR; rw [h7]; rfl]; exact ⟨rfl, hB, Fr.rf⟩)
set_option maxHeartbeats 4000000 in
set_option maxRecDepth 100000 in
theorem c_X7_sumWithStepPowers {S : ST} {E : ET} {g : Nat → va_E} {hsn : Bool} {v v2 : SV} {rem rem2 : Nat → PV} {pt inp : Nat × (Nat → Nat)} {out : BV} {sl : Nat → SlV} (hB : BC S E g (hsn, v, rem, v2, rem2, pt, inp, out, sl)) (hO : SOk v) {q q0 : Nat} {m : Nat → Nat → Int32} (hq : Ce E g q (xR S 3 5 (fun j => some (E.1 (q0 + j))))) (hm : ∀ j : Nat, j < 5 → Ce E g (q0 + j) (xI S 24 (m j))) (hq1 : q < 253) (hq2 : q0 + 5 ≤ 253) : CtV S E yX7_sumWithStepPowers cX7_sumWithStepPowers 3 none rmX7_sumWithStepPowers [.ref (E.1 0), .ref (E.1 q)] g (fun g' => g' = va_up (va_up g 266 (.inr (6, [.ref (E.1 (266 + 1)), .int (nI v.1)]))) (266 + 1) (xJ S 24 (swS v.1 v.2.2.1.1 m))) := by
  refine Ct.of RX7 (by decide +kernel) rfl (Nat.le_of_ble_eq_true rfl) (fun M C Z => ?_)
  refine G.eq (pc' := 0) (vs' := [some (.ref (E.1 0)), some (.ref (E.1 q)), none]) (st' := []) ?_
  obtain ⟨ho, hL, hV, hSc, hWy, hPt, hIn, hOu, hSl⟩ := id hB
  have ho : Ce E g 0 (.inr (7, [.ref (E.1 1), .ref (E.1 127), .int (b2i hsn), .ref (E.1 253), .ref (E.1 266), .ref (E.1 268), .ref (E.1 270), .ref (E.1 271), .ref (E.1 273), .ref (E.1 275), .ref (E.1 277)])) := ho
  have hL : StL S E g 1 v rem := hL
  obtain ⟨pi, ra, hs, hl⟩ := id hL
  obtain ⟨hN4, hN, hr1⟩ := id hO
  obtain ⟨⟨v0, hp0⟩, ⟨N1, c1, hw, hc⟩, ⟨N2, c2, hw2, hc2⟩⟩ := id hSc
  refine r_aload_n (pc := 0) C dX7_sumWithStepPowers_0 rfl ?_
  refine r_getf (pc := 1) C dX7_sumWithStepPowers_1 fl_RX7_35 ho rfl ?_
  refine r_aload_n (pc := 4) C dX7_sumWithStepPowers_4 rfl ?_
  refine r_getf (pc := 5) C dX7_sumWithStepPowers_5 fl_RX7_14 ho rfl ?_
  refine r_getf (pc := 8) C dX7_sumWithStepPowers_8 fl_RX7_78 hs.1 rfl ?_
  refine r_callV (pc := 11) C dX7_sumWithStepPowers_11 cv_RX7_104 (c_X6_setZero v.1 hw hc (by omega)) ⟨rfl, rfl, by decide, by decide⟩ hw rfl rfl (Nat.le_of_ble_eq_true rfl) ⟨Nat.zero_le _, Nat.zero_le _⟩ ?_
  rintro _ _ ⟨rfl, rfl⟩
  show G M S E (0, 0) (va_up (va_up g 266 (.inr (6, [.ref (E.1 (266 + 1)), .int (nI v.1)]))) (266 + 1) (xJ S 24 (fun _ => 0))) 14 [some (.ref (E.1 0)), some (.ref (E.1 q)), none] []
  refine r_iconst (pc := 14) (v := nI 0) C dX7_sumWithStepPowers_14 (by decide +kernel) ?_
  refine r_istore_n (pc := 15) C dX7_sumWithStepPowers_15 (by decide) ?_
  refine G.eq (pc' := 16) (vs' := [some (.ref (E.1 0)), some (.ref (E.1 q)), some (.int (nI 0))]) (st' := []) ?_
  refine bk (P := fun t => G M S E (0, 0) (va_up (va_up g 266 (.inr (6, [.ref (E.1 (266 + 1)), .int (nI v.1)]))) (266 + 1) (xJ S 24 (it (fun n f => plS v.1 (m n) (v.2.2.1.1 * n + n * n) f) t (fun _ => 0)))) 16 [some (.ref (E.1 0)), some (.ref (E.1 q)), some (.int (nI t))] []) (T := 5) ?_ (fun t ht ih => ?_)
  · show G M S E (0, 0) (va_up (va_up g 266 (.inr (6, [.ref (E.1 (266 + 1)), .int (nI v.1)]))) (266 + 1) (xJ S 24 (it (fun n f => plS v.1 (m n) (v.2.2.1.1 * n + n * n) f) 5 (fun _ => 0)))) 16 [some (.ref (E.1 0)), some (.ref (E.1 q)), some (.int (nI 5))] []
    refine r_iload_n (pc := 16) C dX7_sumWithStepPowers_16 rfl ?_
    refine r_iconst (pc := 17) (v := nI 5) C dX7_sumWithStepPowers_17 (by decide +kernel) ?_
    refine r_icmp_ge (pc := 18) (tgt := 51) C dX7_sumWithStepPowers_18 (by decide) (fun h18 => ?_) (fun h18 => ?_)
    · have h18 := c_le (by omega) (by omega) h18
      exact r_vret (pc := 51) C Z dX7_sumWithStepPowers_51 rfl
    · have h18 := c_nle (by omega) (by omega) h18
      omega
  · show G M S E (0, 0) (va_up (va_up g 266 (.inr (6, [.ref (E.1 (266 + 1)), .int (nI v.1)]))) (266 + 1) (xJ S 24 (it (fun n f => plS v.1 (m n) (v.2.2.1.1 * n + n * n) f) t (fun _ => 0)))) 16 [some (.ref (E.1 0)), some (.ref (E.1 q)), some (.int (nI t))] []
    refine r_iload_n (pc := 16) C dX7_sumWithStepPowers_16 rfl ?_
    refine r_iconst (pc := 17) (v := nI 5) C dX7_sumWithStepPowers_17 (by decide +kernel) ?_
    refine r_icmp_ge (pc := 18) (tgt := 51) C dX7_sumWithStepPowers_18 (by decide) (fun h18 => ?_) (fun h18 => ?_)
    · have h18 := c_le (by omega) (by omega) h18
      omega
    · have h18 := c_nle (by omega) (by omega) h18
      refine r_aload_n (pc := 21) C dX7_sumWithStepPowers_21 rfl ?_
      refine r_getf (pc := 22) C dX7_sumWithStepPowers_22 fl_RX7_35 (Ce.up (Ce.up ho (by decide)) (by omega)) rfl ?_
      refine r_aload_n (pc := 25) C dX7_sumWithStepPowers_25 rfl ?_
      refine r_iload_n (pc := 26) C dX7_sumWithStepPowers_26 rfl ?_
      refine r_aald (pc := 27) C dX7_sumWithStepPowers_27 (Ce.up (Ce.up hq (by omega)) (by omega)) rfl rfl rfl (by omega) (by omega) rfl ?_
      refine r_aload_n (pc := 28) C dX7_sumWithStepPowers_28 rfl ?_
      refine r_getf (pc := 29) C dX7_sumWithStepPowers_29 fl_RX7_14 (Ce.up (Ce.up ho (by decide)) (by omega)) rfl ?_
      refine r_getf (pc := 32) C dX7_sumWithStepPowers_32 fl_RX7_178 (Ce.up (Ce.up hs.1 (by decide)) (by omega)) rfl ?_
      refine r_getf (pc := 35) C dX7_sumWithStepPowers_35 fl_RX7_212 (Ce.up (Ce.up hs.2.2.2.2.1.1 (by omega)) (by omega)) rfl ?_
      refine r_iload_n (pc := 38) C dX7_sumWithStepPowers_38 rfl ?_
      refine r_callS (pc := 39) C dX7_sumWithStepPowers_39 cs_RX7_337 (c_X7_stepPower v.2.2.1.1 t) ⟨rfl, rfl, by decide, by decide⟩ rfl rfl (Nat.le_of_ble_eq_true rfl) ⟨Nat.zero_le _, Nat.zero_le _⟩ ?_
      rintro _ _ ⟨_, rfl, rfl, rfl⟩
      show G M S E (0, 0) (va_up (va_up g 266 (.inr (6, [.ref (E.1 (266 + 1)), .int (nI v.1)]))) (266 + 1) (xJ S 24 (it (fun n f => plS v.1 (m n) (v.2.2.1.1 * n + n * n) f) t (fun _ => 0)))) 42 [some (.ref (E.1 0)), some (.ref (E.1 q)), some (.int (nI t))] [.int (nI (v.2.2.1.1 * t + t * t)), .ref (E.1 (q0 + t)), .ref (E.1 266)]
      have h1 : v.2.2.1.1 * t ≤ 1 * 4 := Nat.mul_le_mul hr1 (by omega)
      have h2 : t * t ≤ 4 * 4 := Nat.mul_le_mul (by omega) (by omega)
      refine r_callV (pc := 42) C dX7_sumWithStepPowers_42 cv_RX7_123 (c_X6_plusShifted (Ce.up (Ce.new hw) (by omega)) (Ce.new (Ce.up hc (by omega))) hN (by omega) (Ce.up (Ce.up (hm t (by omega)) (by omega)) (by omega)) (by omega) (v.2.2.1.1 * t + t * t) (by omega)) ⟨rfl, rfl, by decide, by decide⟩ (Ce.up (Ce.new hw) (by omega)) rfl rfl (Nat.le_of_ble_eq_true rfl) ⟨Nat.zero_le _, Nat.zero_le _⟩ ?_
      rintro _ _ ⟨rfl, rfl⟩
      rw [bx_uu]
      show G M S E (0, 0) (va_up (va_up g 266 (.inr (6, [.ref (E.1 (266 + 1)), .int (nI v.1)]))) (266 + 1) (xJ S 24 (plS v.1 (m t) (v.2.2.1.1 * t + t * t) (it (fun n f => plS v.1 (m n) (v.2.2.1.1 * n + n * n) f) t (fun _ => 0))))) 45 [some (.ref (E.1 0)), some (.ref (E.1 q)), some (.int (nI t))] []
      refine r_iinc (pc := 45) (v := nI (t + 1)) C dX7_sumWithStepPowers_45 rfl (nI_i1 _) (by decide) ?_
      refine G.eq (pc' := 48) (vs' := [some (.ref (E.1 0)), some (.ref (E.1 q)), some (.int (nI (t + 1)))]) (st' := []) ?_
      refine r_goto (pc := 48) (tgt := 16) C dX7_sumWithStepPowers_48 (by decide) ?_
      exact ih
def cpG (N : Nat) (rg : Nat → Nat → Int32) (x y : Int32) (m : Nat → Nat → Int32) : Int32 × (Nat → Nat → Int32) := bif hix 6 x then (bif hix 5 y then (nzN N (m y.toInt.toNat), va_up rg x.toInt.toNat (m y.toInt.toNat)) else (-1, rg)) else (-2, rg)
theorem nI_tn {t : Nat} (h : t < 2 ^ 31) : (nI t).toInt.toNat = t := by rw [nI_toInt h]; omega
set_option maxHeartbeats 4000000 in
set_option maxRecDepth 100000 in
theorem c_X7_copyToRegister {S : ST} {E : ET} {g : Nat → va_E} {hsn : Bool} {v v2 : SV} {rem rem2 : Nat → PV} {pt inp : Nat × (Nat → Nat)} {out : BV} {sl : Nat → SlV} (hB : BC S E g (hsn, v, rem, v2, rem2, pt, inp, out, sl)) (hO : SOk v) {q q0 : Nat} {m : Nat → Nat → Int32} (hq : Ce E g q (xR S 3 5 (fun j => some (E.1 (q0 + j))))) (hm : ∀ j : Nat, j < 5 → Ce E g (q0 + j) (xI S 24 (m j))) (hq1 : q < 253) (hq2 : q0 + 5 ≤ 253) (x y : Int32) : CtI S E yX7_copyToRegister cX7_copyToRegister 4 (Option.some FieldType.int) rmX7_copyToRegister [.ref (E.1 0), .int x, .int y, .ref (E.1 q)] g (fun u g' => u = (cpG v.1 v.2.1 x y m).1 ∧ BC S E g' (hsn, (v.1, (cpG v.1 v.2.1 x y m).2, v.2.2), rem, v2, rem2, pt, inp, out, sl) ∧ Fr g g' 1 127) := by
  refine Ct.of RX7 (by decide +kernel) rfl (Nat.le_of_ble_eq_true rfl) (fun M C Z => ?_)
  refine G.eq (pc' := 0) (vs' := [some (.ref (E.1 0)), some (.int x), some (.int y), some (.ref (E.1 q))]) (st' := []) ?_
  obtain ⟨ho, hL, hV, hSc, hWy, hPt, hIn, hOu, hSl⟩ := id hB
  have ho : Ce E g 0 (.inr (7, [.ref (E.1 1), .ref (E.1 127), .int (b2i hsn), .ref (E.1 253), .ref (E.1 266), .ref (E.1 268), .ref (E.1 270), .ref (E.1 271), .ref (E.1 273), .ref (E.1 275), .ref (E.1 277)])) := ho
  have hL : StL S E g 1 v rem := hL
  obtain ⟨pi, ra, hs, hl⟩ := id hL
  obtain ⟨hN4, hN, hr1⟩ := id hO
  refine r_iload_n (pc := 0) C dX7_copyToRegister_0 rfl ?_
  refine r_callS (pc := 1) C dX7_copyToRegister_1 cs_RX7_82 (c_X7_isRegister x) ⟨rfl, rfl, by decide, by decide⟩ rfl rfl (Nat.le_of_ble_eq_true rfl) ⟨Nat.zero_le _, Nat.zero_le _⟩ ?_
  rintro _ _ ⟨_, rfl, rfl, rfl⟩
  show G M S E (0, 0) g 4 [some (.ref (E.1 0)), some (.int x), some (.int y), some (.ref (E.1 q))] [.int (b2i (hix 6 x))]
  refine r_if_ne (pc := 4) (tgt := 10) C dX7_copyToRegister_4 (by decide) (fun h4 => ?_) (fun h4 => ?_)
  · have h4 := b_t h4
    refine r_iload_n (pc := 10) C dX7_copyToRegister_10 rfl ?_
    refine r_callS (pc := 11) C dX7_copyToRegister_11 cs_RX7_313 (c_X7_isPairIndex y) ⟨rfl, rfl, by decide, by decide⟩ rfl rfl (Nat.le_of_ble_eq_true rfl) ⟨Nat.zero_le _, Nat.zero_le _⟩ ?_
    rintro _ _ ⟨_, rfl, rfl, rfl⟩
    show G M S E (0, 0) g 14 [some (.ref (E.1 0)), some (.int x), some (.int y), some (.ref (E.1 q))] [.int (b2i (hix 5 y))]
    refine r_if_ne (pc := 14) (tgt := 19) C dX7_copyToRegister_14 (by decide) (fun h14 => ?_) (fun h14 => ?_)
    · have h14 := b_t h14
      have he : (cpG v.1 v.2.1 x y m) = (nzN v.1 (m y.toInt.toNat), va_up v.2.1 x.toInt.toNat (m y.toInt.toNat)) := by unfold cpG; rw [h4, h14]; rfl
      obtain ⟨t, rfl, ht⟩ := hix_nat h4 (by decide)
      obtain ⟨k, rfl, hk⟩ := hix_nat h14 (by decide)
      rw [nI_tn (show t < 2 ^ 31 by omega), nI_tn (show k < 2 ^ 31 by omega)] at he
      refine r_aload_n (pc := 19) C dX7_copyToRegister_19 rfl ?_
      refine r_iload_n (pc := 20) C dX7_copyToRegister_20 rfl ?_
      refine r_aald (pc := 21) C dX7_copyToRegister_21 hq rfl rfl rfl (by omega) (by omega) rfl ?_
      refine r_aload_n (pc := 22) C dX7_copyToRegister_22 rfl ?_
      refine r_getf (pc := 23) C dX7_copyToRegister_23 fl_RX7_14 ho rfl ?_
      refine r_getf (pc := 26) C dX7_copyToRegister_26 fl_RX7_91 hs.1 rfl ?_
      refine r_iload_n (pc := 29) C dX7_copyToRegister_29 rfl ?_
      refine r_aald (pc := 30) C dX7_copyToRegister_30 hs.2.1 rfl rfl rfl (by omega) (by omega) rfl ?_
      refine r_callS (pc := 31) C dX7_copyToRegister_31 cs_RX7_318 (c_X7_copyRow (hm k (by omega)) (hs.2.2.2.1 t (by omega))) ⟨rfl, rfl, by decide, by decide⟩ rfl rfl (Nat.le_of_ble_eq_true rfl) ⟨Nat.zero_le _, Nat.zero_le _⟩ ?_
      rintro _ _ ⟨rfl, rfl⟩
      show G M S E (0, 0) (va_up g (1 + 2 + t) (xI S 24 (m k))) 34 [some (.ref (E.1 0)), some (.int (nI t)), some (.int (nI k)), some (.ref (E.1 q))] []
      refine r_aload_n (pc := 34) C dX7_copyToRegister_34 rfl ?_
      refine r_aload_n (pc := 35) C dX7_copyToRegister_35 rfl ?_
      refine r_getf (pc := 36) C dX7_copyToRegister_36 fl_RX7_14 (Ce.up ho (by omega)) rfl ?_
      refine r_getf (pc := 39) C dX7_copyToRegister_39 fl_RX7_91 (Ce.up hs.1 (by omega)) rfl ?_
      refine r_iload_n (pc := 42) C dX7_copyToRegister_42 rfl ?_
      refine r_aald (pc := 43) C dX7_copyToRegister_43 (Ce.up hs.2.1 (by omega)) rfl rfl rfl (by omega) (by omega) rfl ?_
      have hB2 := hB.st (Fr.up (lo := 1) (hi := 127) Fr.rf (by omega) (by omega)) ⟨pi, ra, hs.reg (m k) ht, hl⟩
      refine r_callV (pc := 44) C dX7_copyToRegister_44 cv_RX7_153 (c_X7_countNonzero hB2 (show SOk (v.1, va_up v.2.1 t (m k), v.2.2) from hO) (Ce.new (hs.2.2.2.1 t (by omega)))) ⟨rfl, rfl, by decide, by decide⟩ (Ce.up ho (by omega)) rfl rfl (Nat.le_of_ble_eq_true rfl) ⟨Nat.zero_le _, Nat.zero_le _⟩ ?_
      rintro _ _ ⟨_, rfl, rfl, rfl⟩
      show G M S E (0, 0) (va_up g (1 + 2 + t) (xI S 24 (m k))) 47 [some (.ref (E.1 0)), some (.int (nI t)), some (.int (nI k)), some (.ref (E.1 q))] [.int (nzN v.1 (m k))]
      exact r_iret (pc := 47) C Z dX7_copyToRegister_47 rfl (by rw [he]; exact ⟨rfl, hB2, Fr.up Fr.rf (by omega) (by omega)⟩)
    · have h14 := b_f h14
      refine r_iconst (pc := 17) (v := (-1)) C dX7_copyToRegister_17 (by decide +kernel) ?_
      exact r_iret (pc := 18) C Z dX7_copyToRegister_18 rfl (by rw [show (cpG v.1 v.2.1 x y m) = (-1, v.2.1) by unfold cpG; rw [h4, h14]; rfl]; exact ⟨rfl, hB, Fr.rf⟩)
  · have h4 := b_f h4
    refine r_bipush (pc := 7) (v := (-2)) C dX7_copyToRegister_7 (by decide +kernel) ?_
    exact r_iret (pc := 9) C Z dX7_copyToRegister_9 rfl (by rw [show (cpG v.1 v.2.1 x y m) = (-2, v.2.1) by unfold cpG; rw [h4]; rfl]; exact ⟨rfl, hB, Fr.rf⟩)
def rsB (m x : Int32) : Bool := decide (¬ m < 1) && (decide (¬ 12 < m) && (decide (¬ x < 0) && decide (¬ (1 : Int32) <<< (m &&& 31) ≤ x)))
def inS (k m x : Int32) : Bool := decide (¬ m < 1) && decide ((x >>> ((k - k / m * m) &&& 31)) &&& 1 = 1)
def byO (x p : Int32) : Int32 := (x >>> ((8 * p) &&& 31)) &&& 255
set_option maxHeartbeats 4000000 in
set_option maxRecDepth 100000 in
theorem c_X7_isResidueSet {S : ST} {E : ET} {g : Nat → va_E} (m x : Int32) : CtI S E yX7_isResidueSet cX7_isResidueSet 2 (Option.some FieldType.boolean) rmX7_isResidueSet [.int m, .int x] g (fun u g' => u = b2i (rsB m x) ∧ g = g') := by
  refine Ct.of RX7 (by decide +kernel) rfl (Nat.le_of_ble_eq_true rfl) (fun M C Z => ?_)
  refine G.eq (pc' := 0) (vs' := [some (.int m), some (.int x)]) (st' := []) ?_
  refine r_iload_n (pc := 0) C dX7_isResidueSet_0 rfl ?_
  refine r_iconst (pc := 1) (v := nI 1) C dX7_isResidueSet_1 (by decide +kernel) ?_
  refine r_icmp_lt (pc := 2) (tgt := 26) C dX7_isResidueSet_2 (by decide) (fun h2 => ?_) (fun h2 => ?_)
  · refine r_iconst (pc := 26) (v := nI 0) C dX7_isResidueSet_26 (by decide +kernel) ?_
    exact r_iret (pc := 27) C Z dX7_isResidueSet_27 rfl (⟨by rw [show rsB m x = false by unfold rsB; rw [show decide (¬ m < 1) = false from dF (fun q => q h2)]; rfl]; rfl, rfl⟩)
  · refine r_iload_n (pc := 5) C dX7_isResidueSet_5 rfl ?_
    refine r_bipush (pc := 6) (v := nI 12) C dX7_isResidueSet_6 (by decide +kernel) ?_
    refine r_icmp_gt (pc := 8) (tgt := 26) C dX7_isResidueSet_8 (by decide) (fun h8 => ?_) (fun h8 => ?_)
    · refine r_iconst (pc := 26) (v := nI 0) C dX7_isResidueSet_26 (by decide +kernel) ?_
      exact r_iret (pc := 27) C Z dX7_isResidueSet_27 rfl (⟨by rw [show rsB m x = false by unfold rsB; rw [show decide (¬ m < 1) = true from dT h2, show decide (¬ 12 < m) = false from dF (fun q => q h8)]; rfl]; rfl, rfl⟩)
    · refine r_iload_n (pc := 11) C dX7_isResidueSet_11 rfl ?_
      refine r_if_lt (pc := 12) (tgt := 26) C dX7_isResidueSet_12 (by decide) (fun h12 => ?_) (fun h12 => ?_)
      · refine r_iconst (pc := 26) (v := nI 0) C dX7_isResidueSet_26 (by decide +kernel) ?_
        exact r_iret (pc := 27) C Z dX7_isResidueSet_27 rfl (⟨by rw [show rsB m x = false by unfold rsB; rw [show decide (¬ m < 1) = true from dT h2, show decide (¬ 12 < m) = true from dT h8, show decide (¬ x < 0) = false from dF (fun q => q h12)]; rfl]; rfl, rfl⟩)
      · refine r_iload_n (pc := 15) C dX7_isResidueSet_15 rfl ?_
        refine r_iconst (pc := 16) (v := nI 1) C dX7_isResidueSet_16 (by decide +kernel) ?_
        refine r_iload_n (pc := 17) C dX7_isResidueSet_17 rfl ?_
        refine r_ishl (pc := 18) C dX7_isResidueSet_18 ?_
        refine r_icmp_ge (pc := 19) (tgt := 26) C dX7_isResidueSet_19 (by decide) (fun h19 => ?_) (fun h19 => ?_)
        · refine r_iconst (pc := 26) (v := nI 0) C dX7_isResidueSet_26 (by decide +kernel) ?_
          exact r_iret (pc := 27) C Z dX7_isResidueSet_27 rfl (⟨by rw [show rsB m x = false by unfold rsB; rw [show decide (¬ m < 1) = true from dT h2, show decide (¬ 12 < m) = true from dT h8, show decide (¬ x < 0) = true from dT h12, show decide (¬ (1 : Int32) <<< (m &&& 31) ≤ x) = false from dF (fun q => q h19)]; rfl]; rfl, rfl⟩)
        · refine r_iconst (pc := 22) (v := nI 1) C dX7_isResidueSet_22 (by decide +kernel) ?_
          refine r_goto (pc := 23) (tgt := 27) C dX7_isResidueSet_23 (by decide) ?_
          exact r_iret (pc := 27) C Z dX7_isResidueSet_27 rfl (⟨by rw [show rsB m x = true by unfold rsB; rw [show decide (¬ m < 1) = true from dT h2, show decide (¬ 12 < m) = true from dT h8, show decide (¬ x < 0) = true from dT h12, show decide (¬ (1 : Int32) <<< (m &&& 31) ≤ x) = true from dT h19]; rfl]; rfl, rfl⟩)
set_option maxHeartbeats 4000000 in
set_option maxRecDepth 100000 in
theorem c_X7_isInResidueSet {S : ST} {E : ET} {g : Nat → va_E} (k m x : Int32) : CtI S E yX7_isInResidueSet cX7_isInResidueSet 3 (Option.some FieldType.boolean) rmX7_isInResidueSet [.int k, .int m, .int x] g (fun u g' => u = b2i (inS k m x) ∧ g = g') := by
  refine Ct.of RX7 (by decide +kernel) rfl (Nat.le_of_ble_eq_true rfl) (fun M C Z => ?_)
  refine G.eq (pc' := 0) (vs' := [some (.int k), some (.int m), some (.int x)]) (st' := []) ?_
  refine r_iload_n (pc := 0) C dX7_isInResidueSet_0 rfl ?_
  refine r_iconst (pc := 1) (v := nI 1) C dX7_isInResidueSet_1 (by decide +kernel) ?_
  refine r_icmp_lt (pc := 2) (tgt := 20) C dX7_isInResidueSet_2 (by decide) (fun h2 => ?_) (fun h2 => ?_)
  · refine r_iconst (pc := 20) (v := nI 0) C dX7_isInResidueSet_20 (by decide +kernel) ?_
    exact r_iret (pc := 21) C Z dX7_isInResidueSet_21 rfl (⟨by rw [show inS k m x = false by unfold inS; rw [show decide (¬ m < 1) = false from dF (fun q => q h2)]; rfl]; rfl, rfl⟩)
  · refine r_iload_n (pc := 5) C dX7_isInResidueSet_5 rfl ?_
    refine r_iload_n (pc := 6) C dX7_isInResidueSet_6 rfl ?_
    refine r_iload_n (pc := 7) C dX7_isInResidueSet_7 rfl ?_
    refine r_irem (pc := 8) C dX7_isInResidueSet_8 (fun q => h2 (by rw [q]; decide)) ?_
    refine r_ishr (pc := 9) C dX7_isInResidueSet_9 ?_
    refine r_iconst (pc := 10) (v := nI 1) C dX7_isInResidueSet_10 (by decide +kernel) ?_
    refine r_iand (pc := 11) C dX7_isInResidueSet_11 ?_
    refine r_iconst (pc := 12) (v := nI 1) C dX7_isInResidueSet_12 (by decide +kernel) ?_
    refine r_icmp_ne (pc := 13) (tgt := 20) C dX7_isInResidueSet_13 (by decide) (fun h13 => ?_) (fun h13 => ?_)
    · refine r_iconst (pc := 20) (v := nI 0) C dX7_isInResidueSet_20 (by decide +kernel) ?_
      exact r_iret (pc := 21) C Z dX7_isInResidueSet_21 rfl (⟨by rw [show inS k m x = false by unfold inS; rw [show decide (¬ m < 1) = true from dT h2, show decide ((x >>> ((k - k / m * m) &&& 31)) &&& 1 = 1) = false from dF h13]; rfl]; rfl, rfl⟩)
    · refine r_iconst (pc := 16) (v := nI 1) C dX7_isInResidueSet_16 (by decide +kernel) ?_
      refine r_goto (pc := 17) (tgt := 21) C dX7_isInResidueSet_17 (by decide) ?_
      exact r_iret (pc := 21) C Z dX7_isInResidueSet_21 rfl (⟨by rw [show inS k m x = true by unfold inS; rw [show decide (¬ m < 1) = true from dT h2, show decide ((x >>> ((k - k / m * m) &&& 31)) &&& 1 = 1) = true from dT h13]; rfl]; rfl, rfl⟩)
set_option maxHeartbeats 4000000 in
set_option maxRecDepth 100000 in
theorem c_X7_byteOf {S : ST} {E : ET} {g : Nat → va_E} (x p : Int32) : CtI S E yX7_byteOf cX7_byteOf 2 (Option.some FieldType.int) rmX7_byteOf [.int x, .int p] g (fun u g' => u = byO x p ∧ g = g') := by
  refine Ct.of RX7 (by decide +kernel) rfl (Nat.le_of_ble_eq_true rfl) (fun M C Z => ?_)
  refine G.eq (pc' := 0) (vs' := [some (.int x), some (.int p)]) (st' := []) ?_
  refine r_iload_n (pc := 0) C dX7_byteOf_0 rfl ?_
  refine r_bipush (pc := 1) (v := nI 8) C dX7_byteOf_1 (by decide +kernel) ?_
  refine r_iload_n (pc := 3) C dX7_byteOf_3 rfl ?_
  refine r_imul (pc := 4) C dX7_byteOf_4 ?_
  refine r_ishr (pc := 5) C dX7_byteOf_5 ?_
  refine r_sipush (pc := 6) (v := nI 255) C dX7_byteOf_6 (by decide +kernel) ?_
  refine r_iand (pc := 9) C dX7_byteOf_9 ?_
  exact r_iret (pc := 10) C Z dX7_byteOf_10 rfl (⟨rfl, rfl⟩)
theorem it_cong {σ : Type} {f h : Nat → σ → σ} : ∀ {n : Nat} {s : σ}, (∀ j s, j < n → f j s = h j s) → it f n s = it h n s
  | 0, _, _ => rfl
  | n + 1, s, e => by
    show f n (it f n s) = h n (it h n s)
    rw [it_cong (fun j s hj => e j s (by omega)), e n _ (by omega)]
theorem aSm_cong {N r n : Nat} {al al' be : Nat → Nat → Int32} (h : ∀ j, j < n → al j = al' j) : aSm N r al be n = aSm N r al' be n := by
  unfold aSm
  rw [it_cong (fun j s hj => by rw [h j hj])]
theorem aIt_ind {N r : Nat} {be al al' : Nat → Nat → Int32} : ∀ t j : Nat, j < t → aIt N r be t al j = aIt N r be t al' j
  | 0, j, h => absurd h (Nat.not_lt_zero j)
  | t + 1, j, h => by
    show va_up (aIt N r be t al) t (wrT N (aSm N r (aIt N r be t al) be t)) j = va_up (aIt N r be t al') t (wrT N (aSm N r (aIt N r be t al') be t)) j
    rw [aSm_cong (fun k hk => aIt_ind (al' := al') t k hk)]
    by_cases e : j = t
    · subst e; rw [va_up_self, va_up_self]
    · rw [va_up_ne _ _ e, va_up_ne _ _ e]; exact aIt_ind t j (by omega)
theorem allB_cong {p p' : Nat → Bool} : ∀ {n : Nat}, (∀ j, j < n → p j = p' j) → allB p n = allB p' n := fun {n} h => by
  cases e : allB p' n with
  | true => exact allB_t fun j hj => (h j hj).trans (allB_iff.mp e j hj)
  | false =>
    cases e2 : allB p n with
    | false => rfl
    | true => exact (e.symm.trans (allB_t fun j hj => (h j hj).symm.trans (allB_iff.mp e2 j hj))).symm ▸ rfl
theorem aOk_ind {N r : Nat} {be al al' : Nat → Nat → Int32} : aOk N r be al = aOk N r be al' := allB_cong fun n _ => by rw [aSm_cong (fun k hk => aIt_ind (al' := al') n k hk)]
def unA (N r : Nat) : Nat → Nat → Int32 := aIt N r uBe 5 (fun _ _ => 0)
/-- no coefficient of the unit pair is out of range -/
def UnOk : Prop := ∀ N r : Nat, 4 ≤ N → N ≤ 24 → r ≤ 1 → aOk N r uBe (fun _ _ => 0) = true
set_option maxHeartbeats 4000000 in
set_option maxRecDepth 100000 in
theorem c_X7_setUnitPair {S : ST} {E : ET} {g : Nat → va_E} {hsn : Bool} {v v2 : SV} {rem rem2 : Nat → PV} {pt inp : Nat × (Nat → Nat)} {out : BV} {sl : Nat → SlV} (hB : BC S E g (hsn, v, rem, v2, rem2, pt, inp, out, sl)) (hO : SOk v) (hU : UnOk) (r : Nat) (hr : r ≤ 1) : CtV S E yX7_setUnitPair cX7_setUnitPair 2 none rmX7_setUnitPair [.ref (E.1 0), .int (nI r)] g (fun g' => BC S E g' (hsn, (v.1, v.2.1, (r, unA v.1 r, uBe), nI 0, 0), rem, v2, rem2, pt, inp, out, sl) ∧ Fr g g' 1 270) := by
  refine Ct.of RX7 (by decide +kernel) rfl (Nat.le_of_ble_eq_true rfl) (fun M C Z => ?_)
  refine G.eq (pc' := 0) (vs' := [some (.ref (E.1 0)), some (.int (nI r))]) (st' := []) ?_
  obtain ⟨ho, hL, hV, hSc, hWy, hPt, hIn, hOu, hSl⟩ := id hB
  have ho : Ce E g 0 (.inr (7, [.ref (E.1 1), .ref (E.1 127), .int (b2i hsn), .ref (E.1 253), .ref (E.1 266), .ref (E.1 268), .ref (E.1 270), .ref (E.1 271), .ref (E.1 273), .ref (E.1 275), .ref (E.1 277)])) := ho
  have hL : StL S E g 1 v rem := hL
  obtain ⟨pi, ra, hs, hl⟩ := id hL
  obtain ⟨hN4, hN, hr1⟩ := id hO
  obtain ⟨⟨v0, hp0⟩, ⟨N1, c1, hw, hc⟩, ⟨N2, c2, hw2, hc2⟩⟩ := id hSc
  refine r_aload_n (pc := 0) C dX7_setUnitPair_0 rfl ?_
  refine r_getf (pc := 1) C dX7_setUnitPair_1 fl_RX7_28 ho rfl ?_
  refine r_iload_n (pc := 4) C dX7_setUnitPair_4 rfl ?_
  refine r_aload_n (pc := 5) C dX7_setUnitPair_5 rfl ?_
  refine r_getf (pc := 6) C dX7_setUnitPair_6 fl_RX7_14 ho rfl ?_
  refine r_getf (pc := 9) C dX7_setUnitPair_9 fl_RX7_78 hs.1 rfl ?_
  refine r_aload_n (pc := 12) C dX7_setUnitPair_12 rfl ?_
  refine r_getf (pc := 13) C dX7_setUnitPair_13 fl_RX7_35 ho rfl ?_
  refine r_aload_n (pc := 16) C dX7_setUnitPair_16 rfl ?_
  refine r_getf (pc := 17) C dX7_setUnitPair_17 fl_RX7_39 ho rfl ?_
  refine r_callV (pc := 20) C dX7_setUnitPair_20 cv_RX7_306 (c_X2_setUnit hp0 ⟨N1, c1, hw, hc⟩ ⟨N2, c2, hw2, hc2⟩ r hr v.1 hN) ⟨rfl, rfl, by decide, by decide⟩ hp0.1 rfl rfl (Nat.le_of_ble_eq_true rfl) ⟨Nat.zero_le _, Nat.zero_le _⟩ ?_
  rintro _ g2 ⟨rfl, hW1, hW2, hF, al, hp, hal⟩
  have hp := hp.cong (w := (r, unA v.1 r, uBe)) rfl (fun j hj => (congrFun (hal (aOk_ind.trans (hU v.1 r hN4 hN hr))) j).trans (aIt_ind 5 j hj)) (fun _ _ => rfl)
  have hB2 := hB.scr hF ⟨⟨_, hp⟩, hW1, hW2⟩
  show G M S E (0, 0) g2 23 [some (.ref (E.1 0)), some (.int (nI r))] []
  obtain ⟨ho, hL, hV, hSc, hWy, hPt, hIn, hOu, hSl⟩ := id hB2
  have ho : Ce E g2 0 (.inr (7, [.ref (E.1 1), .ref (E.1 127), .int (b2i hsn), .ref (E.1 253), .ref (E.1 266), .ref (E.1 268), .ref (E.1 270), .ref (E.1 271), .ref (E.1 273), .ref (E.1 275), .ref (E.1 277)])) := ho
  obtain ⟨pi, ra, hs, hl⟩ := id hL
  refine r_aload_n (pc := 23) C dX7_setUnitPair_23 rfl ?_
  refine r_getf (pc := 24) C dX7_setUnitPair_24 fl_RX7_14 ho rfl ?_
  refine r_aload_n (pc := 27) C dX7_setUnitPair_27 rfl ?_
  refine r_getf (pc := 28) C dX7_setUnitPair_28 fl_RX7_28 ho rfl ?_
  refine r_callV (pc := 31) C dX7_setUnitPair_31 cv_RX7_310 (c_X5_setPair hL hp (by omega)) ⟨rfl, rfl, by decide, by decide⟩ hs.1 rfl rfl (Nat.le_of_ble_eq_true rfl) ⟨Nat.zero_le _, Nat.zero_le _⟩ ?_
  rintro _ g3 ⟨rfl, hL2, hF2⟩
  have hB3 := hB2.st hF2 hL2
  show G M S E (0, 0) g3 34 [some (.ref (E.1 0)), some (.int (nI r))] []
  exact r_vret (pc := 34) C Z dX7_setUnitPair_34 (⟨hB3, (hF.wide (by omega) (by omega)).tr hF2 (by omega) (by omega)⟩)
theorem BC.regs {S : ST} {E : ET} {g : Nat → va_E} {hsn : Bool} {N : Nat} {rg rg' : Nat → Nat → Int32} {w : PV × Int32 × Nat} {rem : Nat → PV} {k : SV × (Nat → PV) × (Nat × (Nat → Nat)) × (Nat × (Nat → Nat)) × BV × (Nat → SlV)} (c : BC S E g (hsn, (N, rg, w), rem, k)) (h : ∀ j, j < 6 → rg j = rg' j) : BC S E g (hsn, (N, rg', w), rem, k) := by
  obtain ⟨h1, ⟨pi, ra, h2, h2'⟩, h3⟩ := c
  exact ⟨h1, ⟨pi, ra, h2.regs h, h2'⟩, h3⟩
set_option maxHeartbeats 4000000 in
set_option maxRecDepth 100000 in
theorem c_X7_startAgain {S : ST} {E : ET} {g : Nat → va_E} {hsn : Bool} {v v2 : SV} {rem rem2 : Nat → PV} {pt inp : Nat × (Nat → Nat)} {out : BV} {sl : Nat → SlV} (hB : BC S E g (hsn, v, rem, v2, rem2, pt, inp, out, sl)) (hO : SOk v) (hU : UnOk) (N : Nat) (h4 : 4 ≤ N) (h24 : N ≤ 24) : CtV S E yX7_startAgain cX7_startAgain 3 none rmX7_startAgain [.ref (E.1 0), .int (nI N)] g (fun g' => BC S E g' (hsn, (N, (fun _ _ => 0), (0, unA N 0, uBe), nI 0, 0), rem, v2, rem2, pt, inp, out, sl) ∧ Fr g g' 1 270) := by
  refine Ct.of RX7 (by decide +kernel) rfl (Nat.le_of_ble_eq_true rfl) (fun M C Z => ?_)
  refine G.eq (pc' := 0) (vs' := [some (.ref (E.1 0)), some (.int (nI N)), none]) (st' := []) ?_
  obtain ⟨ho, hL, hV, hSc, hWy, hPt, hIn, hOu, hSl⟩ := id hB
  have ho : Ce E g 0 (.inr (7, [.ref (E.1 1), .ref (E.1 127), .int (b2i hsn), .ref (E.1 253), .ref (E.1 266), .ref (E.1 268), .ref (E.1 270), .ref (E.1 271), .ref (E.1 273), .ref (E.1 275), .ref (E.1 277)])) := ho
  have hL : StL S E g 1 v rem := hL
  obtain ⟨pi, ra, hs, hl⟩ := id hL
  obtain ⟨hN4, hN, hr1⟩ := id hO
  refine r_aload_n (pc := 0) C dX7_startAgain_0 rfl ?_
  refine r_getf (pc := 1) C dX7_startAgain_1 fl_RX7_14 ho rfl ?_
  refine r_iload_n (pc := 4) C dX7_startAgain_4 rfl ?_
  refine r_putf (pc := 5) C dX7_startAgain_5 fp_RX7_78 hs.1 rfl rfl (Nat.le_of_ble_eq_true rfl) ?_
  refine r_iconst (pc := 8) (v := nI 0) C dX7_startAgain_8 (by decide +kernel) ?_
  refine r_istore_n (pc := 9) C dX7_startAgain_9 (by decide) ?_
  refine G.eq (pc' := 10) (vs' := [some (.ref (E.1 0)), some (.int (nI N)), some (.int (nI 0))]) (st' := []) ?_
  refine bk (P := fun t => ∀ h : Nat → va_E, (BC S E h (hsn, (N, it (fun j f => va_up f j (fun _ => 0)) t v.2.1, v.2.2), rem, v2, rem2, pt, inp, out, sl) ∧ Fr g h 1 127) → G M S E (0, 0) h 10 [some (.ref (E.1 0)), some (.int (nI N)), some (.int (nI t))] []) (T := 6) (fun h hI => ?_) (fun t ht ih h hI => ?_) _ ⟨hB.st (Fr.up (lo := 1) (hi := 127) Fr.rf (by omega) (by omega)) ⟨pi, ra, hs.obj N v.2.2.2.1 v.2.2.2.2 hs.2.2.2.2.2.2.2.2, hl⟩, Fr.up Fr.rf (by omega) (by omega)⟩
  · obtain ⟨hB4, hf⟩ := hI
    clear ho hL hV hSc hWy hPt hIn hOu hSl hs hl
    obtain ⟨ho, hL, hV, hSc, hWy, hPt, hIn, hOu, hSl⟩ := id hB4
    have ho : Ce E h 0 (.inr (7, [.ref (E.1 1), .ref (E.1 127), .int (b2i hsn), .ref (E.1 253), .ref (E.1 266), .ref (E.1 268), .ref (E.1 270), .ref (E.1 271), .ref (E.1 273), .ref (E.1 275), .ref (E.1 277)])) := ho
    obtain ⟨pi, ra, hs, hl⟩ := id hL
    show G M S E (0, 0) h 10 [some (.ref (E.1 0)), some (.int (nI N)), some (.int (nI 6))] []
    refine r_iload_n (pc := 10) C dX7_startAgain_10 rfl ?_
    refine r_bipush (pc := 11) (v := nI 6) C dX7_startAgain_11 (by decide +kernel) ?_
    refine r_icmp_ge (pc := 13) (tgt := 35) C dX7_startAgain_13 (by decide) (fun h13 => ?_) (fun h13 => ?_)
    · have h13 := c_le (by omega) (by omega) h13
      have hB5 := hB4.regs (rg' := fun _ _ => 0) (fun j hj => it_row (fun _ _ => 0) v.2.1 hj)
      refine r_aload_n (pc := 35) C dX7_startAgain_35 rfl ?_
      refine r_iconst (pc := 36) (v := nI 0) C dX7_startAgain_36 (by decide +kernel) ?_
      have hO5 : SOk (N, (fun _ _ => 0), v.2.2) := ⟨h4, h24, hr1⟩
      refine r_callV (pc := 37) C dX7_startAgain_37 cv_RX7_171 (c_X7_setUnitPair hB5 hO5 hU 0 (by omega)) ⟨rfl, rfl, by decide, by decide⟩ ho rfl rfl (Nat.le_of_ble_eq_true rfl) ⟨Nat.zero_le _, Nat.zero_le _⟩ ?_
      rintro _ g6 ⟨rfl, hB6, hF6⟩
      show G M S E (0, 0) g6 40 [some (.ref (E.1 0)), some (.int (nI N)), some (.int (nI 6))] []
      exact r_vret (pc := 40) C Z dX7_startAgain_40 (⟨hB6, (hf.wide (by omega) (by omega)).tr hF6 (by omega) (by omega)⟩)
    · have h13 := c_nle (by omega) (by omega) h13
      omega
  · obtain ⟨hB4, hf⟩ := hI
    clear ho hL hV hSc hWy hPt hIn hOu hSl hs hl
    obtain ⟨ho, hL, hV, hSc, hWy, hPt, hIn, hOu, hSl⟩ := id hB4
    have ho : Ce E h 0 (.inr (7, [.ref (E.1 1), .ref (E.1 127), .int (b2i hsn), .ref (E.1 253), .ref (E.1 266), .ref (E.1 268), .ref (E.1 270), .ref (E.1 271), .ref (E.1 273), .ref (E.1 275), .ref (E.1 277)])) := ho
    obtain ⟨pi, ra, hs, hl⟩ := id hL
    show G M S E (0, 0) h 10 [some (.ref (E.1 0)), some (.int (nI N)), some (.int (nI t))] []
    refine r_iload_n (pc := 10) C dX7_startAgain_10 rfl ?_
    refine r_bipush (pc := 11) (v := nI 6) C dX7_startAgain_11 (by decide +kernel) ?_
    refine r_icmp_ge (pc := 13) (tgt := 35) C dX7_startAgain_13 (by decide) (fun h13 => ?_) (fun h13 => ?_)
    · have h13 := c_le (by omega) (by omega) h13
      omega
    · have h13 := c_nle (by omega) (by omega) h13
      refine r_aload_n (pc := 16) C dX7_startAgain_16 rfl ?_
      refine r_getf (pc := 17) C dX7_startAgain_17 fl_RX7_14 ho rfl ?_
      refine r_getf (pc := 20) C dX7_startAgain_20 fl_RX7_91 hs.1 rfl ?_
      refine r_iload_n (pc := 23) C dX7_startAgain_23 rfl ?_
      refine r_aald (pc := 24) C dX7_startAgain_24 hs.2.1 rfl rfl rfl (by omega) (by omega) rfl ?_
      refine r_iconst (pc := 25) (v := nI 0) C dX7_startAgain_25 (by decide +kernel) ?_
      rw [show nI 0 = (0 : Int32) from rfl]
      refine r_callS (pc := 26) C dX7_startAgain_26 cs_RX7_304 (c_J7_fill_53178 0 (hs.2.2.2.1 t (by omega)) (by decide)) ⟨rfl, rfl, by decide, by decide⟩ rfl rfl (Nat.le_of_ble_eq_true rfl) ⟨Nat.zero_le _, Nat.zero_le _⟩ ?_
      rintro _ _ ⟨rfl, rfl⟩
      show G M S E (0, 0) (va_up h (1 + 2 + t) (xI S 24 (fun _ => 0))) 29 [some (.ref (E.1 0)), some (.int (nI N)), some (.int (nI t))] []
      refine r_iinc (pc := 29) (v := nI (t + 1)) C dX7_startAgain_29 rfl (nI_i1 _) (by decide) ?_
      refine G.eq (pc' := 32) (vs' := [some (.ref (E.1 0)), some (.int (nI N)), some (.int (nI (t + 1)))]) (st' := []) ?_
      refine r_goto (pc := 32) (tgt := 10) C dX7_startAgain_32 (by decide) ?_
      exact (ih _ ⟨hB4.st (Fr.up (lo := 1) (hi := 127) Fr.rf (by omega) (by omega)) ⟨pi, ra, hs.reg (fun _ => 0) (by omega), hl⟩, hf.up (by omega) (by omega)⟩)
def difI (N : Nat) (a b : Nat → Int32) : Int32 := bif decide (difP N a b = -7) then 0 else 1
/-- alpha or beta set: the answer, the pair -/
def spA (v : SV) (y x : Int32) : Int32 × SV := bif hix 6 x then (bif hix 5 y then (bif bOk v.1 v.2.2.1.1 (va_up v.2.2.1.2.1 y.toInt.toNat (v.2.1 x.toInt.toNat)) then (difI v.1 (v.2.2.1.2.1 y.toInt.toNat) (v.2.1 x.toInt.toNat), (v.1, v.2.1, (v.2.2.1.1, va_up v.2.2.1.2.1 y.toInt.toNat (v.2.1 x.toInt.toNat), fun j => wrT v.1 (bSm v.1 v.2.2.1.1 (va_up v.2.2.1.2.1 y.toInt.toNat (v.2.1 x.toInt.toNat)) j)), nI 0, 0)) else (-3, v)) else (-1, v)) else (-2, v)
def spB (v : SV) (y x : Int32) : Int32 × SV := bif hix 6 x then (bif hix 5 y then (bif aOk v.1 v.2.2.1.1 (va_up v.2.2.1.2.2 y.toInt.toNat (v.2.1 x.toInt.toNat)) (fun _ _ => 0) then (difI v.1 (v.2.2.1.2.2 y.toInt.toNat) (v.2.1 x.toInt.toNat), (v.1, v.2.1, (v.2.2.1.1, aIt v.1 v.2.2.1.1 (va_up v.2.2.1.2.2 y.toInt.toNat (v.2.1 x.toInt.toNat)) 5 (fun _ _ => 0), va_up v.2.2.1.2.2 y.toInt.toNat (v.2.1 x.toInt.toNat)), nI 0, 0)) else (-3, v)) else (-1, v)) else (-2, v)
set_option maxHeartbeats 4000000 in
set_option maxRecDepth 100000 in
theorem c_X7_setInPair_a {S : ST} {E : ET} {g : Nat → va_E} {hsn : Bool} {v v2 : SV} {rem rem2 : Nat → PV} {pt inp : Nat × (Nat → Nat)} {out : BV} {sl : Nat → SlV} (hB : BC S E g (hsn, v, rem, v2, rem2, pt, inp, out, sl)) (hO : SOk v) (y x : Int32) : CtI S E yX7_setInPair cX7_setInPair 8 (Option.some FieldType.int) rmX7_setInPair [.ref (E.1 0), .int y, .int x, .int (nI 1)] g (fun u g' => u = (spA v y x).1 ∧ BC S E g' (hsn, (spA v y x).2, rem, v2, rem2, pt, inp, out, sl) ∧ Fr g g' 1 270) := by
  refine Ct.of RX7 (by decide +kernel) rfl (Nat.le_of_ble_eq_true rfl) (fun M C Z => ?_)
  refine G.eq (pc' := 0) (vs' := [some (.ref (E.1 0)), some (.int y), some (.int x), some (.int (nI 1)), none, none, none, none]) (st' := []) ?_
  obtain ⟨ho, hL, hV, hSc, hWy, hPt, hIn, hOu, hSl⟩ := id hB
  have ho : Ce E g 0 (.inr (7, [.ref (E.1 1), .ref (E.1 127), .int (b2i hsn), .ref (E.1 253), .ref (E.1 266), .ref (E.1 268), .ref (E.1 270), .ref (E.1 271), .ref (E.1 273), .ref (E.1 275), .ref (E.1 277)])) := ho
  have hL : StL S E g 1 v rem := hL
  obtain ⟨pi, ra, hs, hl⟩ := id hL
  obtain ⟨hN4, hN, hr1⟩ := id hO
  obtain ⟨⟨v0, hp0⟩, ⟨N1, c1, hw, hc⟩, ⟨N2, c2, hw2, hc2⟩⟩ := id hSc
  refine r_iload_n (pc := 0) C dX7_setInPair_0 rfl ?_
  refine r_callS (pc := 1) C dX7_setInPair_1 cs_RX7_82 (c_X7_isRegister x) ⟨rfl, rfl, by decide, by decide⟩ rfl rfl (Nat.le_of_ble_eq_true rfl) ⟨Nat.zero_le _, Nat.zero_le _⟩ ?_
  rintro _ _ ⟨_, rfl, rfl, rfl⟩
  show G M S E (0, 0) g 4 [some (.ref (E.1 0)), some (.int y), some (.int x), some (.int (nI 1)), none, none, none, none] [.int (b2i (hix 6 x))]
  refine r_if_ne (pc := 4) (tgt := 10) C dX7_setInPair_4 (by decide) (fun h4 => ?_) (fun h4 => ?_)
  · have h4 := b_t h4
    refine r_iload_n (pc := 10) C dX7_setInPair_10 rfl ?_
    refine r_callS (pc := 11) C dX7_setInPair_11 cs_RX7_313 (c_X7_isPairIndex y) ⟨rfl, rfl, by decide, by decide⟩ rfl rfl (Nat.le_of_ble_eq_true rfl) ⟨Nat.zero_le _, Nat.zero_le _⟩ ?_
    rintro _ _ ⟨_, rfl, rfl, rfl⟩
    show G M S E (0, 0) g 14 [some (.ref (E.1 0)), some (.int y), some (.int x), some (.int (nI 1)), none, none, none, none] [.int (b2i (hix 5 y))]
    refine r_if_ne (pc := 14) (tgt := 19) C dX7_setInPair_14 (by decide) (fun h14 => ?_) (fun h14 => ?_)
    · have h14 := b_t h14
      have he : (spA v y x) = (spA v y x) := rfl
      conv at he => rhs; unfold spA
      rw [h4, h14] at he
      simp only [cond_true] at he
      obtain ⟨t, rfl, ht⟩ := hix_nat h4 (by decide)
      obtain ⟨k, rfl, hk⟩ := hix_nat h14 (by decide)
      simp only [nI_tn (show t < 2 ^ 31 by omega), nI_tn (show k < 2 ^ 31 by omega)] at he
      refine r_aload_n (pc := 19) C dX7_setInPair_19 rfl ?_
      refine r_getf (pc := 20) C dX7_setInPair_20 fl_RX7_28 ho rfl ?_
      refine r_aload_n (pc := 23) C dX7_setInPair_23 rfl ?_
      refine r_getf (pc := 24) C dX7_setInPair_24 fl_RX7_14 ho rfl ?_
      refine r_getf (pc := 27) C dX7_setInPair_27 fl_RX7_178 hs.1 rfl ?_
      refine r_callV (pc := 30) C dX7_setInPair_30 cv_RX7_316 (c_X2_copyFrom hp0 hs.2.2.2.2.1 (by omega)) ⟨rfl, rfl, by decide, by decide⟩ hp0.1 rfl rfl (Nat.le_of_ble_eq_true rfl) ⟨Nat.zero_le _, Nat.zero_le _⟩ ?_
      rintro _ g2 ⟨rfl, hp, hF⟩
      have hB2 := hB.scr (hF.wide (by omega) (by omega)) ⟨⟨_, hp⟩, hSc.2.1.fr hF (by omega), hSc.2.2.fr hF (by omega)⟩
      show G M S E (0, 0) g2 33 [some (.ref (E.1 0)), some (.int (nI k)), some (.int (nI t)), some (.int (nI 1)), none, none, none, none] []
      obtain ⟨ho, hL, hV, hSc, hWy, hPt, hIn, hOu, hSl⟩ := id hB2
      have ho : Ce E g2 0 (.inr (7, [.ref (E.1 1), .ref (E.1 127), .int (b2i hsn), .ref (E.1 253), .ref (E.1 266), .ref (E.1 268), .ref (E.1 270), .ref (E.1 271), .ref (E.1 273), .ref (E.1 275), .ref (E.1 277)])) := ho
      obtain ⟨pi, ra, hs, hl⟩ := id hL
      refine r_aload_n (pc := 33) C dX7_setInPair_33 rfl ?_
      refine r_getf (pc := 34) C dX7_setInPair_34 fl_RX7_14 ho rfl ?_
      refine r_getf (pc := 37) C dX7_setInPair_37 fl_RX7_91 hs.1 rfl ?_
      refine r_iload_n (pc := 40) C dX7_setInPair_40 rfl ?_
      refine r_aald (pc := 41) C dX7_setInPair_41 hs.2.1 rfl rfl rfl (by omega) (by omega) rfl ?_
      refine r_astore (pc := 42) C dX7_setInPair_42 (by decide) ?_
      refine G.eq (pc' := 44) (vs' := [some (.ref (E.1 0)), some (.int (nI k)), some (.int (nI t)), some (.int (nI 1)), some (.ref (E.1 (1 + 2 + t))), none, none, none]) (st' := []) ?_
      refine r_iload_n (pc := 44) C dX7_setInPair_44 rfl ?_
      refine r_if_eq (pc := 45) (tgt := 60) C dX7_setInPair_45 (by decide) (fun h45 => ?_) (fun h45 => ?_)
      · have h45 := z_eq (by omega) h45
        omega
      · have h45 := z_ne (by omega) h45
        refine r_aload_n (pc := 48) C dX7_setInPair_48 rfl ?_
        refine r_getf (pc := 49) C dX7_setInPair_49 fl_RX7_28 ho rfl ?_
        refine r_getf (pc := 52) C dX7_setInPair_52 fl_RX7_198 hp.1 rfl ?_
        refine r_iload_n (pc := 55) C dX7_setInPair_55 rfl ?_
        refine r_aald (pc := 56) C dX7_setInPair_56 hp.2.1 rfl rfl rfl (by omega) (by omega) rfl ?_
        refine r_goto (pc := 57) (tgt := 69) C dX7_setInPair_57 (by decide) ?_
        refine r_astore (pc := 69) C dX7_setInPair_69 (by decide) ?_
        refine G.eq (pc' := 71) (vs' := [some (.ref (E.1 0)), some (.int (nI k)), some (.int (nI t)), some (.int (nI 1)), some (.ref (E.1 (1 + 2 + t))), some (.ref (E.1 (253 + 2 + k))), none, none]) (st' := []) ?_
        refine r_aload_n (pc := 71) C dX7_setInPair_71 rfl ?_
        refine r_aload (pc := 72) C dX7_setInPair_72 rfl ?_
        refine r_aload (pc := 74) C dX7_setInPair_74 rfl ?_
        refine r_callV (pc := 76) C dX7_setInPair_76 cv_RX7_141 (c_X7_lowestDifference hB2 hO (hp.2.2.2 k (by omega)).1 (hs.2.2.2.1 t (by omega))) ⟨rfl, rfl, by decide, by decide⟩ ho rfl rfl (Nat.le_of_ble_eq_true rfl) ⟨Nat.zero_le _, Nat.zero_le _⟩ ?_
        rintro _ _ ⟨_, rfl, rfl, rfl⟩
        show G M S E (0, 0) g2 79 [some (.ref (E.1 0)), some (.int (nI k)), some (.int (nI t)), some (.int (nI 1)), some (.ref (E.1 (1 + 2 + t))), some (.ref (E.1 (253 + 2 + k))), none, none] [.int (difP v.1 (v.2.2.1.2.1 k) (v.2.1 t))]
        refine r_bipush (pc := 79) (v := (-7)) C dX7_setInPair_79 (by decide +kernel) ?_
        refine r_icmp_eq (pc := 81) (tgt := 88) C dX7_setInPair_81 (by decide) (fun h81 => ?_) (fun h81 => ?_)
        · refine r_iconst (pc := 88) (v := nI 0) C dX7_setInPair_88 (by decide +kernel) ?_
          refine r_istore (pc := 89) C dX7_setInPair_89 (by decide) ?_
          refine G.eq (pc' := 91) (vs' := [some (.ref (E.1 0)), some (.int (nI k)), some (.int (nI t)), some (.int (nI 1)), some (.ref (E.1 (1 + 2 + t))), some (.ref (E.1 (253 + 2 + k))), some (.int (nI 0)), none]) (st' := []) ?_
          refine r_aload (pc := 91) C dX7_setInPair_91 rfl ?_
          refine r_aload (pc := 93) C dX7_setInPair_93 rfl ?_
          refine r_callS (pc := 95) C dX7_setInPair_95 cs_RX7_318 (c_X7_copyRow (hs.2.2.2.1 t (by omega)) (hp.2.2.2 k (by omega)).1) ⟨rfl, rfl, by decide, by decide⟩ rfl rfl (Nat.le_of_ble_eq_true rfl) ⟨Nat.zero_le _, Nat.zero_le _⟩ ?_
          rintro _ _ ⟨rfl, rfl⟩
          show G M S E (0, 0) (va_up g2 (253 + 2 + k) (xI S 24 (v.2.1 t))) 98 [some (.ref (E.1 0)), some (.int (nI k)), some (.int (nI t)), some (.int (nI 1)), some (.ref (E.1 (1 + 2 + t))), some (.ref (E.1 (253 + 2 + k))), some (.int (nI 0)), none] []
          have hd : difI v.1 (v.2.2.1.2.1 k) (v.2.1 t) = 0 := by unfold difI; rw [show decide (difP v.1 (v.2.2.1.2.1 k) (v.2.1 t) = -7) = true from dT h81]; rfl
          have hp3 := hp.setA (v.2.1 t) hk
          have hf3 : Fr g2 (va_up g2 (253 + 2 + k) (xI S 24 (v.2.1 t))) 253 266 := Fr.up Fr.rf (by omega) (by omega)
          have hB3 := hB2.scr (hf3.wide (by omega) (by omega)) ⟨⟨_, hp3⟩, hSc.2.1.fr hf3 (by omega), hSc.2.2.fr hf3 (by omega)⟩
          clear ho hL hV hSc hWy hPt hIn hOu hSl hs hl
          have hF3 := (hF.wide (lo' := 253) (hi' := 270) (by omega) (by omega)).tr hf3 (by omega) (by omega)
          generalize hg3 : (va_up g2 (253 + 2 + k) (xI S 24 (v.2.1 t))) = g3 at hp3 hf3 hB3 hF3 ⊢
          clear hg3
          obtain ⟨ho, hL, hV, hSc, hWy, hPt, hIn, hOu, hSl⟩ := id hB3
          have ho : Ce E g3 0 (.inr (7, [.ref (E.1 1), .ref (E.1 127), .int (b2i hsn), .ref (E.1 253), .ref (E.1 266), .ref (E.1 268), .ref (E.1 270), .ref (E.1 271), .ref (E.1 273), .ref (E.1 275), .ref (E.1 277)])) := ho
          obtain ⟨pi, ra, hs, hl⟩ := id hL
          refine r_iload_n (pc := 98) C dX7_setInPair_98 rfl ?_
          refine r_if_eq (pc := 99) (tgt := 127) C dX7_setInPair_99 (by decide) (fun h99 => ?_) (fun h99 => ?_)
          · have h99 := z_eq (by omega) h99
            omega
          · have h99 := z_ne (by omega) h99
            refine r_aload_n (pc := 102) C dX7_setInPair_102 rfl ?_
            refine r_getf (pc := 103) C dX7_setInPair_103 fl_RX7_28 ho rfl ?_
            refine r_aload_n (pc := 106) C dX7_setInPair_106 rfl ?_
            refine r_getf (pc := 107) C dX7_setInPair_107 fl_RX7_14 ho rfl ?_
            refine r_getf (pc := 110) C dX7_setInPair_110 fl_RX7_78 hs.1 rfl ?_
            refine r_aload_n (pc := 113) C dX7_setInPair_113 rfl ?_
            refine r_getf (pc := 114) C dX7_setInPair_114 fl_RX7_35 ho rfl ?_
            refine r_aload_n (pc := 117) C dX7_setInPair_117 rfl ?_
            refine r_getf (pc := 118) C dX7_setInPair_118 fl_RX7_39 ho rfl ?_
            refine r_callV (pc := 121) C dX7_setInPair_121 cv_RX7_322 (c_X2_deriveBeta hp3 hSc.2.1 hSc.2.2 hr1 v.1 hN) ⟨rfl, rfl, by decide, by decide⟩ hp3.1 rfl rfl (Nat.le_of_ble_eq_true rfl) ⟨Nat.zero_le _, Nat.zero_le _⟩ ?_
            rintro _ g4 ⟨_, rfl, rfl, hW1, hW2, hF4, be, hp4, hbe⟩
            have hB4 := hB3.scr hF4 ⟨⟨_, hp4⟩, hW1, hW2⟩
            show G M S E (0, 0) g4 124 [some (.ref (E.1 0)), some (.int (nI k)), some (.int (nI t)), some (.int (nI 1)), some (.ref (E.1 (1 + 2 + t))), some (.ref (E.1 (253 + 2 + k))), some (.int (nI 0)), none] [.int (b2i (bOk v.1 v.2.2.1.1 (va_up v.2.2.1.2.1 k (v.2.1 t))))]
            have hF5 := hF3.tr hF4 (by omega) (by omega)
            refine r_goto (pc := 124) (tgt := 149) C dX7_setInPair_124 (by decide) ?_
            refine r_istore (pc := 149) C dX7_setInPair_149 (by decide) ?_
            refine G.eq (pc' := 151) (vs' := [some (.ref (E.1 0)), some (.int (nI k)), some (.int (nI t)), some (.int (nI 1)), some (.ref (E.1 (1 + 2 + t))), some (.ref (E.1 (253 + 2 + k))), some (.int (nI 0)), some (.int (b2i (bOk v.1 v.2.2.1.1 (va_up v.2.2.1.2.1 k (v.2.1 t)))))]) (st' := []) ?_
            refine r_iload (pc := 151) C dX7_setInPair_151 rfl ?_
            refine r_if_ne (pc := 153) (tgt := 159) C dX7_setInPair_153 (by decide) (fun h153 => ?_) (fun h153 => ?_)
            · have h153 := b_t h153
              have hp5 := hp4.cong (w := (v.2.2.1.1, (va_up v.2.2.1.2.1 k (v.2.1 t)), fun j => wrT v.1 (bSm v.1 v.2.2.1.1 (va_up v.2.2.1.2.1 k (v.2.1 t)) j))) rfl (fun _ _ => rfl) (fun j hj => hbe h153 j hj)
              rw [h153] at he
              rw [hd] at he
              clear ho hL hV hSc hWy hPt hIn hOu hSl hs hl
              obtain ⟨ho, hL, hV, hSc, hWy, hPt, hIn, hOu, hSl⟩ := id hB4
              have ho : Ce E g4 0 (.inr (7, [.ref (E.1 1), .ref (E.1 127), .int (b2i hsn), .ref (E.1 253), .ref (E.1 266), .ref (E.1 268), .ref (E.1 270), .ref (E.1 271), .ref (E.1 273), .ref (E.1 275), .ref (E.1 277)])) := ho
              obtain ⟨pi, ra, hs, hl⟩ := id hL
              refine r_aload_n (pc := 159) C dX7_setInPair_159 rfl ?_
              refine r_getf (pc := 160) C dX7_setInPair_160 fl_RX7_14 ho rfl ?_
              refine r_aload_n (pc := 163) C dX7_setInPair_163 rfl ?_
              refine r_getf (pc := 164) C dX7_setInPair_164 fl_RX7_28 ho rfl ?_
              refine r_callV (pc := 167) C dX7_setInPair_167 cv_RX7_310 (c_X5_setPair hL hp5 (by omega)) ⟨rfl, rfl, by decide, by decide⟩ hs.1 rfl rfl (Nat.le_of_ble_eq_true rfl) ⟨Nat.zero_le _, Nat.zero_le _⟩ ?_
              rintro _ g6 ⟨rfl, hL2, hF6⟩
              have hB6 := hB4.st hF6 hL2
              show G M S E (0, 0) g6 170 [some (.ref (E.1 0)), some (.int (nI k)), some (.int (nI t)), some (.int (nI 1)), some (.ref (E.1 (1 + 2 + t))), some (.ref (E.1 (253 + 2 + k))), some (.int (nI 0)), some (.int (b2i (bOk v.1 v.2.2.1.1 (va_up v.2.2.1.2.1 k (v.2.1 t)))))] []
              refine r_iload (pc := 170) C dX7_setInPair_170 rfl ?_
              refine r_if_eq (pc := 172) (tgt := 179) C dX7_setInPair_172 (by decide) (fun h172 => ?_) (fun h172 => ?_)
              · have h172 := z_eq (by omega) h172
                refine r_iconst (pc := 179) (v := nI 0) C dX7_setInPair_179 (by decide +kernel) ?_
                exact r_iret (pc := 180) C Z dX7_setInPair_180 rfl (by rw [he]; exact ⟨rfl, hB6, (hF5.wide (by omega) (by omega)).tr hF6 (by omega) (by omega)⟩)
              · have h172 := z_ne (by omega) h172
                omega
            · have h153 := b_f h153
              rw [h153] at he
              refine r_bipush (pc := 156) (v := (-3)) C dX7_setInPair_156 (by decide +kernel) ?_
              exact r_iret (pc := 158) C Z dX7_setInPair_158 rfl (by rw [he]; exact ⟨rfl, hB4, hF5.wide (by omega) (by omega)⟩)
        · refine r_iconst (pc := 84) (v := nI 1) C dX7_setInPair_84 (by decide +kernel) ?_
          refine r_goto (pc := 85) (tgt := 89) C dX7_setInPair_85 (by decide) ?_
          refine r_istore (pc := 89) C dX7_setInPair_89 (by decide) ?_
          refine G.eq (pc' := 91) (vs' := [some (.ref (E.1 0)), some (.int (nI k)), some (.int (nI t)), some (.int (nI 1)), some (.ref (E.1 (1 + 2 + t))), some (.ref (E.1 (253 + 2 + k))), some (.int (nI 1)), none]) (st' := []) ?_
          refine r_aload (pc := 91) C dX7_setInPair_91 rfl ?_
          refine r_aload (pc := 93) C dX7_setInPair_93 rfl ?_
          refine r_callS (pc := 95) C dX7_setInPair_95 cs_RX7_318 (c_X7_copyRow (hs.2.2.2.1 t (by omega)) (hp.2.2.2 k (by omega)).1) ⟨rfl, rfl, by decide, by decide⟩ rfl rfl (Nat.le_of_ble_eq_true rfl) ⟨Nat.zero_le _, Nat.zero_le _⟩ ?_
          rintro _ _ ⟨rfl, rfl⟩
          show G M S E (0, 0) (va_up g2 (253 + 2 + k) (xI S 24 (v.2.1 t))) 98 [some (.ref (E.1 0)), some (.int (nI k)), some (.int (nI t)), some (.int (nI 1)), some (.ref (E.1 (1 + 2 + t))), some (.ref (E.1 (253 + 2 + k))), some (.int (nI 1)), none] []
          have hd : difI v.1 (v.2.2.1.2.1 k) (v.2.1 t) = 1 := by unfold difI; rw [show decide (difP v.1 (v.2.2.1.2.1 k) (v.2.1 t) = -7) = false from dF h81]; rfl
          have hp3 := hp.setA (v.2.1 t) hk
          have hf3 : Fr g2 (va_up g2 (253 + 2 + k) (xI S 24 (v.2.1 t))) 253 266 := Fr.up Fr.rf (by omega) (by omega)
          have hB3 := hB2.scr (hf3.wide (by omega) (by omega)) ⟨⟨_, hp3⟩, hSc.2.1.fr hf3 (by omega), hSc.2.2.fr hf3 (by omega)⟩
          clear ho hL hV hSc hWy hPt hIn hOu hSl hs hl
          have hF3 := (hF.wide (lo' := 253) (hi' := 270) (by omega) (by omega)).tr hf3 (by omega) (by omega)
          generalize hg3 : (va_up g2 (253 + 2 + k) (xI S 24 (v.2.1 t))) = g3 at hp3 hf3 hB3 hF3 ⊢
          clear hg3
          obtain ⟨ho, hL, hV, hSc, hWy, hPt, hIn, hOu, hSl⟩ := id hB3
          have ho : Ce E g3 0 (.inr (7, [.ref (E.1 1), .ref (E.1 127), .int (b2i hsn), .ref (E.1 253), .ref (E.1 266), .ref (E.1 268), .ref (E.1 270), .ref (E.1 271), .ref (E.1 273), .ref (E.1 275), .ref (E.1 277)])) := ho
          obtain ⟨pi, ra, hs, hl⟩ := id hL
          refine r_iload_n (pc := 98) C dX7_setInPair_98 rfl ?_
          refine r_if_eq (pc := 99) (tgt := 127) C dX7_setInPair_99 (by decide) (fun h99 => ?_) (fun h99 => ?_)
          · have h99 := z_eq (by omega) h99
            omega
          · have h99 := z_ne (by omega) h99
            refine r_aload_n (pc := 102) C dX7_setInPair_102 rfl ?_
            refine r_getf (pc := 103) C dX7_setInPair_103 fl_RX7_28 ho rfl ?_
            refine r_aload_n (pc := 106) C dX7_setInPair_106 rfl ?_
            refine r_getf (pc := 107) C dX7_setInPair_107 fl_RX7_14 ho rfl ?_
            refine r_getf (pc := 110) C dX7_setInPair_110 fl_RX7_78 hs.1 rfl ?_
            refine r_aload_n (pc := 113) C dX7_setInPair_113 rfl ?_
            refine r_getf (pc := 114) C dX7_setInPair_114 fl_RX7_35 ho rfl ?_
            refine r_aload_n (pc := 117) C dX7_setInPair_117 rfl ?_
            refine r_getf (pc := 118) C dX7_setInPair_118 fl_RX7_39 ho rfl ?_
            refine r_callV (pc := 121) C dX7_setInPair_121 cv_RX7_322 (c_X2_deriveBeta hp3 hSc.2.1 hSc.2.2 hr1 v.1 hN) ⟨rfl, rfl, by decide, by decide⟩ hp3.1 rfl rfl (Nat.le_of_ble_eq_true rfl) ⟨Nat.zero_le _, Nat.zero_le _⟩ ?_
            rintro _ g4 ⟨_, rfl, rfl, hW1, hW2, hF4, be, hp4, hbe⟩
            have hB4 := hB3.scr hF4 ⟨⟨_, hp4⟩, hW1, hW2⟩
            show G M S E (0, 0) g4 124 [some (.ref (E.1 0)), some (.int (nI k)), some (.int (nI t)), some (.int (nI 1)), some (.ref (E.1 (1 + 2 + t))), some (.ref (E.1 (253 + 2 + k))), some (.int (nI 1)), none] [.int (b2i (bOk v.1 v.2.2.1.1 (va_up v.2.2.1.2.1 k (v.2.1 t))))]
            have hF5 := hF3.tr hF4 (by omega) (by omega)
            refine r_goto (pc := 124) (tgt := 149) C dX7_setInPair_124 (by decide) ?_
            refine r_istore (pc := 149) C dX7_setInPair_149 (by decide) ?_
            refine G.eq (pc' := 151) (vs' := [some (.ref (E.1 0)), some (.int (nI k)), some (.int (nI t)), some (.int (nI 1)), some (.ref (E.1 (1 + 2 + t))), some (.ref (E.1 (253 + 2 + k))), some (.int (nI 1)), some (.int (b2i (bOk v.1 v.2.2.1.1 (va_up v.2.2.1.2.1 k (v.2.1 t)))))]) (st' := []) ?_
            refine r_iload (pc := 151) C dX7_setInPair_151 rfl ?_
            refine r_if_ne (pc := 153) (tgt := 159) C dX7_setInPair_153 (by decide) (fun h153 => ?_) (fun h153 => ?_)
            · have h153 := b_t h153
              have hp5 := hp4.cong (w := (v.2.2.1.1, (va_up v.2.2.1.2.1 k (v.2.1 t)), fun j => wrT v.1 (bSm v.1 v.2.2.1.1 (va_up v.2.2.1.2.1 k (v.2.1 t)) j))) rfl (fun _ _ => rfl) (fun j hj => hbe h153 j hj)
              rw [h153] at he
              rw [hd] at he
              clear ho hL hV hSc hWy hPt hIn hOu hSl hs hl
              obtain ⟨ho, hL, hV, hSc, hWy, hPt, hIn, hOu, hSl⟩ := id hB4
              have ho : Ce E g4 0 (.inr (7, [.ref (E.1 1), .ref (E.1 127), .int (b2i hsn), .ref (E.1 253), .ref (E.1 266), .ref (E.1 268), .ref (E.1 270), .ref (E.1 271), .ref (E.1 273), .ref (E.1 275), .ref (E.1 277)])) := ho
              obtain ⟨pi, ra, hs, hl⟩ := id hL
              refine r_aload_n (pc := 159) C dX7_setInPair_159 rfl ?_
              refine r_getf (pc := 160) C dX7_setInPair_160 fl_RX7_14 ho rfl ?_
              refine r_aload_n (pc := 163) C dX7_setInPair_163 rfl ?_
              refine r_getf (pc := 164) C dX7_setInPair_164 fl_RX7_28 ho rfl ?_
              refine r_callV (pc := 167) C dX7_setInPair_167 cv_RX7_310 (c_X5_setPair hL hp5 (by omega)) ⟨rfl, rfl, by decide, by decide⟩ hs.1 rfl rfl (Nat.le_of_ble_eq_true rfl) ⟨Nat.zero_le _, Nat.zero_le _⟩ ?_
              rintro _ g6 ⟨rfl, hL2, hF6⟩
              have hB6 := hB4.st hF6 hL2
              show G M S E (0, 0) g6 170 [some (.ref (E.1 0)), some (.int (nI k)), some (.int (nI t)), some (.int (nI 1)), some (.ref (E.1 (1 + 2 + t))), some (.ref (E.1 (253 + 2 + k))), some (.int (nI 1)), some (.int (b2i (bOk v.1 v.2.2.1.1 (va_up v.2.2.1.2.1 k (v.2.1 t)))))] []
              refine r_iload (pc := 170) C dX7_setInPair_170 rfl ?_
              refine r_if_eq (pc := 172) (tgt := 179) C dX7_setInPair_172 (by decide) (fun h172 => ?_) (fun h172 => ?_)
              · have h172 := z_eq (by omega) h172
                omega
              · have h172 := z_ne (by omega) h172
                refine r_iconst (pc := 175) (v := nI 1) C dX7_setInPair_175 (by decide +kernel) ?_
                refine r_goto (pc := 176) (tgt := 180) C dX7_setInPair_176 (by decide) ?_
                exact r_iret (pc := 180) C Z dX7_setInPair_180 rfl (by rw [he]; exact ⟨rfl, hB6, (hF5.wide (by omega) (by omega)).tr hF6 (by omega) (by omega)⟩)
            · have h153 := b_f h153
              rw [h153] at he
              refine r_bipush (pc := 156) (v := (-3)) C dX7_setInPair_156 (by decide +kernel) ?_
              exact r_iret (pc := 158) C Z dX7_setInPair_158 rfl (by rw [he]; exact ⟨rfl, hB4, hF5.wide (by omega) (by omega)⟩)
    · have h14 := b_f h14
      refine r_iconst (pc := 17) (v := (-1)) C dX7_setInPair_17 (by decide +kernel) ?_
      exact r_iret (pc := 18) C Z dX7_setInPair_18 rfl (by rw [show (spA v y x) = (-1, v) by unfold spA; rw [h4, h14]; rfl]; exact ⟨rfl, hB, Fr.rf⟩)
  · have h4 := b_f h4
    refine r_bipush (pc := 7) (v := (-2)) C dX7_setInPair_7 (by decide +kernel) ?_
    exact r_iret (pc := 9) C Z dX7_setInPair_9 rfl (by rw [show (spA v y x) = (-2, v) by unfold spA; rw [h4]; rfl]; exact ⟨rfl, hB, Fr.rf⟩)
set_option maxHeartbeats 4000000 in
set_option maxRecDepth 100000 in
theorem c_X7_setInPair_b {S : ST} {E : ET} {g : Nat → va_E} {hsn : Bool} {v v2 : SV} {rem rem2 : Nat → PV} {pt inp : Nat × (Nat → Nat)} {out : BV} {sl : Nat → SlV} (hB : BC S E g (hsn, v, rem, v2, rem2, pt, inp, out, sl)) (hO : SOk v) (y x : Int32) : CtI S E yX7_setInPair cX7_setInPair 8 (Option.some FieldType.int) rmX7_setInPair [.ref (E.1 0), .int y, .int x, .int (nI 0)] g (fun u g' => u = (spB v y x).1 ∧ BC S E g' (hsn, (spB v y x).2, rem, v2, rem2, pt, inp, out, sl) ∧ Fr g g' 1 270) := by
  refine Ct.of RX7 (by decide +kernel) rfl (Nat.le_of_ble_eq_true rfl) (fun M C Z => ?_)
  refine G.eq (pc' := 0) (vs' := [some (.ref (E.1 0)), some (.int y), some (.int x), some (.int (nI 0)), none, none, none, none]) (st' := []) ?_
  obtain ⟨ho, hL, hV, hSc, hWy, hPt, hIn, hOu, hSl⟩ := id hB
  have ho : Ce E g 0 (.inr (7, [.ref (E.1 1), .ref (E.1 127), .int (b2i hsn), .ref (E.1 253), .ref (E.1 266), .ref (E.1 268), .ref (E.1 270), .ref (E.1 271), .ref (E.1 273), .ref (E.1 275), .ref (E.1 277)])) := ho
  have hL : StL S E g 1 v rem := hL
  obtain ⟨pi, ra, hs, hl⟩ := id hL
  obtain ⟨hN4, hN, hr1⟩ := id hO
  obtain ⟨⟨v0, hp0⟩, ⟨N1, c1, hw, hc⟩, ⟨N2, c2, hw2, hc2⟩⟩ := id hSc
  refine r_iload_n (pc := 0) C dX7_setInPair_0 rfl ?_
  refine r_callS (pc := 1) C dX7_setInPair_1 cs_RX7_82 (c_X7_isRegister x) ⟨rfl, rfl, by decide, by decide⟩ rfl rfl (Nat.le_of_ble_eq_true rfl) ⟨Nat.zero_le _, Nat.zero_le _⟩ ?_
  rintro _ _ ⟨_, rfl, rfl, rfl⟩
  show G M S E (0, 0) g 4 [some (.ref (E.1 0)), some (.int y), some (.int x), some (.int (nI 0)), none, none, none, none] [.int (b2i (hix 6 x))]
  refine r_if_ne (pc := 4) (tgt := 10) C dX7_setInPair_4 (by decide) (fun h4 => ?_) (fun h4 => ?_)
  · have h4 := b_t h4
    refine r_iload_n (pc := 10) C dX7_setInPair_10 rfl ?_
    refine r_callS (pc := 11) C dX7_setInPair_11 cs_RX7_313 (c_X7_isPairIndex y) ⟨rfl, rfl, by decide, by decide⟩ rfl rfl (Nat.le_of_ble_eq_true rfl) ⟨Nat.zero_le _, Nat.zero_le _⟩ ?_
    rintro _ _ ⟨_, rfl, rfl, rfl⟩
    show G M S E (0, 0) g 14 [some (.ref (E.1 0)), some (.int y), some (.int x), some (.int (nI 0)), none, none, none, none] [.int (b2i (hix 5 y))]
    refine r_if_ne (pc := 14) (tgt := 19) C dX7_setInPair_14 (by decide) (fun h14 => ?_) (fun h14 => ?_)
    · have h14 := b_t h14
      have he : (spB v y x) = (spB v y x) := rfl
      conv at he => rhs; unfold spB
      rw [h4, h14] at he
      simp only [cond_true] at he
      obtain ⟨t, rfl, ht⟩ := hix_nat h4 (by decide)
      obtain ⟨k, rfl, hk⟩ := hix_nat h14 (by decide)
      simp only [nI_tn (show t < 2 ^ 31 by omega), nI_tn (show k < 2 ^ 31 by omega)] at he
      refine r_aload_n (pc := 19) C dX7_setInPair_19 rfl ?_
      refine r_getf (pc := 20) C dX7_setInPair_20 fl_RX7_28 ho rfl ?_
      refine r_aload_n (pc := 23) C dX7_setInPair_23 rfl ?_
      refine r_getf (pc := 24) C dX7_setInPair_24 fl_RX7_14 ho rfl ?_
      refine r_getf (pc := 27) C dX7_setInPair_27 fl_RX7_178 hs.1 rfl ?_
      refine r_callV (pc := 30) C dX7_setInPair_30 cv_RX7_316 (c_X2_copyFrom hp0 hs.2.2.2.2.1 (by omega)) ⟨rfl, rfl, by decide, by decide⟩ hp0.1 rfl rfl (Nat.le_of_ble_eq_true rfl) ⟨Nat.zero_le _, Nat.zero_le _⟩ ?_
      rintro _ g2 ⟨rfl, hp, hF⟩
      have hB2 := hB.scr (hF.wide (by omega) (by omega)) ⟨⟨_, hp⟩, hSc.2.1.fr hF (by omega), hSc.2.2.fr hF (by omega)⟩
      show G M S E (0, 0) g2 33 [some (.ref (E.1 0)), some (.int (nI k)), some (.int (nI t)), some (.int (nI 0)), none, none, none, none] []
      obtain ⟨ho, hL, hV, hSc, hWy, hPt, hIn, hOu, hSl⟩ := id hB2
      have ho : Ce E g2 0 (.inr (7, [.ref (E.1 1), .ref (E.1 127), .int (b2i hsn), .ref (E.1 253), .ref (E.1 266), .ref (E.1 268), .ref (E.1 270), .ref (E.1 271), .ref (E.1 273), .ref (E.1 275), .ref (E.1 277)])) := ho
      obtain ⟨pi, ra, hs, hl⟩ := id hL
      refine r_aload_n (pc := 33) C dX7_setInPair_33 rfl ?_
      refine r_getf (pc := 34) C dX7_setInPair_34 fl_RX7_14 ho rfl ?_
      refine r_getf (pc := 37) C dX7_setInPair_37 fl_RX7_91 hs.1 rfl ?_
      refine r_iload_n (pc := 40) C dX7_setInPair_40 rfl ?_
      refine r_aald (pc := 41) C dX7_setInPair_41 hs.2.1 rfl rfl rfl (by omega) (by omega) rfl ?_
      refine r_astore (pc := 42) C dX7_setInPair_42 (by decide) ?_
      refine G.eq (pc' := 44) (vs' := [some (.ref (E.1 0)), some (.int (nI k)), some (.int (nI t)), some (.int (nI 0)), some (.ref (E.1 (1 + 2 + t))), none, none, none]) (st' := []) ?_
      refine r_iload_n (pc := 44) C dX7_setInPair_44 rfl ?_
      refine r_if_eq (pc := 45) (tgt := 60) C dX7_setInPair_45 (by decide) (fun h45 => ?_) (fun h45 => ?_)
      · have h45 := z_eq (by omega) h45
        refine r_aload_n (pc := 60) C dX7_setInPair_60 rfl ?_
        refine r_getf (pc := 61) C dX7_setInPair_61 fl_RX7_28 ho rfl ?_
        refine r_getf (pc := 64) C dX7_setInPair_64 fl_RX7_205 hp.1 rfl ?_
        refine r_iload_n (pc := 67) C dX7_setInPair_67 rfl ?_
        refine r_aald (pc := 68) C dX7_setInPair_68 hp.2.2.1 rfl rfl rfl (by omega) (by omega) rfl ?_
        refine r_astore (pc := 69) C dX7_setInPair_69 (by decide) ?_
        refine G.eq (pc' := 71) (vs' := [some (.ref (E.1 0)), some (.int (nI k)), some (.int (nI t)), some (.int (nI 0)), some (.ref (E.1 (1 + 2 + t))), some (.ref (E.1 (253 + 8 + k))), none, none]) (st' := []) ?_
        refine r_aload_n (pc := 71) C dX7_setInPair_71 rfl ?_
        refine r_aload (pc := 72) C dX7_setInPair_72 rfl ?_
        refine r_aload (pc := 74) C dX7_setInPair_74 rfl ?_
        refine r_callV (pc := 76) C dX7_setInPair_76 cv_RX7_141 (c_X7_lowestDifference hB2 hO (hp.2.2.2 k (by omega)).2 (hs.2.2.2.1 t (by omega))) ⟨rfl, rfl, by decide, by decide⟩ ho rfl rfl (Nat.le_of_ble_eq_true rfl) ⟨Nat.zero_le _, Nat.zero_le _⟩ ?_
        rintro _ _ ⟨_, rfl, rfl, rfl⟩
        show G M S E (0, 0) g2 79 [some (.ref (E.1 0)), some (.int (nI k)), some (.int (nI t)), some (.int (nI 0)), some (.ref (E.1 (1 + 2 + t))), some (.ref (E.1 (253 + 8 + k))), none, none] [.int (difP v.1 (v.2.2.1.2.2 k) (v.2.1 t))]
        refine r_bipush (pc := 79) (v := (-7)) C dX7_setInPair_79 (by decide +kernel) ?_
        refine r_icmp_eq (pc := 81) (tgt := 88) C dX7_setInPair_81 (by decide) (fun h81 => ?_) (fun h81 => ?_)
        · refine r_iconst (pc := 88) (v := nI 0) C dX7_setInPair_88 (by decide +kernel) ?_
          refine r_istore (pc := 89) C dX7_setInPair_89 (by decide) ?_
          refine G.eq (pc' := 91) (vs' := [some (.ref (E.1 0)), some (.int (nI k)), some (.int (nI t)), some (.int (nI 0)), some (.ref (E.1 (1 + 2 + t))), some (.ref (E.1 (253 + 8 + k))), some (.int (nI 0)), none]) (st' := []) ?_
          refine r_aload (pc := 91) C dX7_setInPair_91 rfl ?_
          refine r_aload (pc := 93) C dX7_setInPair_93 rfl ?_
          refine r_callS (pc := 95) C dX7_setInPair_95 cs_RX7_318 (c_X7_copyRow (hs.2.2.2.1 t (by omega)) (hp.2.2.2 k (by omega)).2) ⟨rfl, rfl, by decide, by decide⟩ rfl rfl (Nat.le_of_ble_eq_true rfl) ⟨Nat.zero_le _, Nat.zero_le _⟩ ?_
          rintro _ _ ⟨rfl, rfl⟩
          show G M S E (0, 0) (va_up g2 (253 + 8 + k) (xI S 24 (v.2.1 t))) 98 [some (.ref (E.1 0)), some (.int (nI k)), some (.int (nI t)), some (.int (nI 0)), some (.ref (E.1 (1 + 2 + t))), some (.ref (E.1 (253 + 8 + k))), some (.int (nI 0)), none] []
          have hd : difI v.1 (v.2.2.1.2.2 k) (v.2.1 t) = 0 := by unfold difI; rw [show decide (difP v.1 (v.2.2.1.2.2 k) (v.2.1 t) = -7) = true from dT h81]; rfl
          have hp3 := hp.setB (v.2.1 t) hk
          have hf3 : Fr g2 (va_up g2 (253 + 8 + k) (xI S 24 (v.2.1 t))) 253 266 := Fr.up Fr.rf (by omega) (by omega)
          have hB3 := hB2.scr (hf3.wide (by omega) (by omega)) ⟨⟨_, hp3⟩, hSc.2.1.fr hf3 (by omega), hSc.2.2.fr hf3 (by omega)⟩
          clear ho hL hV hSc hWy hPt hIn hOu hSl hs hl
          have hF3 := (hF.wide (lo' := 253) (hi' := 270) (by omega) (by omega)).tr hf3 (by omega) (by omega)
          generalize hg3 : (va_up g2 (253 + 8 + k) (xI S 24 (v.2.1 t))) = g3 at hp3 hf3 hB3 hF3 ⊢
          clear hg3
          obtain ⟨ho, hL, hV, hSc, hWy, hPt, hIn, hOu, hSl⟩ := id hB3
          have ho : Ce E g3 0 (.inr (7, [.ref (E.1 1), .ref (E.1 127), .int (b2i hsn), .ref (E.1 253), .ref (E.1 266), .ref (E.1 268), .ref (E.1 270), .ref (E.1 271), .ref (E.1 273), .ref (E.1 275), .ref (E.1 277)])) := ho
          obtain ⟨pi, ra, hs, hl⟩ := id hL
          refine r_iload_n (pc := 98) C dX7_setInPair_98 rfl ?_
          refine r_if_eq (pc := 99) (tgt := 127) C dX7_setInPair_99 (by decide) (fun h99 => ?_) (fun h99 => ?_)
          · have h99 := z_eq (by omega) h99
            refine r_aload_n (pc := 127) C dX7_setInPair_127 rfl ?_
            refine r_getf (pc := 128) C dX7_setInPair_128 fl_RX7_28 ho rfl ?_
            refine r_aload_n (pc := 131) C dX7_setInPair_131 rfl ?_
            refine r_getf (pc := 132) C dX7_setInPair_132 fl_RX7_14 ho rfl ?_
            refine r_getf (pc := 135) C dX7_setInPair_135 fl_RX7_78 hs.1 rfl ?_
            refine r_aload_n (pc := 138) C dX7_setInPair_138 rfl ?_
            refine r_getf (pc := 139) C dX7_setInPair_139 fl_RX7_35 ho rfl ?_
            refine r_aload_n (pc := 142) C dX7_setInPair_142 rfl ?_
            refine r_getf (pc := 143) C dX7_setInPair_143 fl_RX7_39 ho rfl ?_
            refine r_callV (pc := 146) C dX7_setInPair_146 cv_RX7_326 (c_X2_deriveAlpha hp3 hSc.2.1 hSc.2.2 hr1 v.1 hN) ⟨rfl, rfl, by decide, by decide⟩ hp3.1 rfl rfl (Nat.le_of_ble_eq_true rfl) ⟨Nat.zero_le _, Nat.zero_le _⟩ ?_
            rintro _ g4 ⟨_, rfl, rfl, hW1, hW2, hF4, al, hp4, hal⟩
            have hB4 := hB3.scr hF4 ⟨⟨_, hp4⟩, hW1, hW2⟩
            have hao := aOk_ind (N := v.1) (r := v.2.2.1.1) (be := (va_up v.2.2.1.2.2 k (v.2.1 t))) (al := v.2.2.1.2.1) (al' := fun _ _ => 0)
            show G M S E (0, 0) g4 149 [some (.ref (E.1 0)), some (.int (nI k)), some (.int (nI t)), some (.int (nI 0)), some (.ref (E.1 (1 + 2 + t))), some (.ref (E.1 (253 + 8 + k))), some (.int (nI 0)), none] [.int (b2i (aOk v.1 v.2.2.1.1 (va_up v.2.2.1.2.2 k (v.2.1 t)) v.2.2.1.2.1))]
            have hF5 := hF3.tr hF4 (by omega) (by omega)
            refine r_istore (pc := 149) C dX7_setInPair_149 (by decide) ?_
            refine G.eq (pc' := 151) (vs' := [some (.ref (E.1 0)), some (.int (nI k)), some (.int (nI t)), some (.int (nI 0)), some (.ref (E.1 (1 + 2 + t))), some (.ref (E.1 (253 + 8 + k))), some (.int (nI 0)), some (.int (b2i (aOk v.1 v.2.2.1.1 (va_up v.2.2.1.2.2 k (v.2.1 t)) v.2.2.1.2.1)))]) (st' := []) ?_
            refine r_iload (pc := 151) C dX7_setInPair_151 rfl ?_
            refine r_if_ne (pc := 153) (tgt := 159) C dX7_setInPair_153 (by decide) (fun h153 => ?_) (fun h153 => ?_)
            · have h153 := b_t h153
              have hp5 := hp4.cong (w := (v.2.2.1.1, aIt v.1 v.2.2.1.1 (va_up v.2.2.1.2.2 k (v.2.1 t)) 5 (fun _ _ => 0), (va_up v.2.2.1.2.2 k (v.2.1 t)))) rfl (fun j hj => (congrFun (hal h153) j).trans (aIt_ind 5 j hj)) (fun _ _ => rfl)
              rw [hao] at h153
              rw [h153] at he
              rw [hd] at he
              clear ho hL hV hSc hWy hPt hIn hOu hSl hs hl
              obtain ⟨ho, hL, hV, hSc, hWy, hPt, hIn, hOu, hSl⟩ := id hB4
              have ho : Ce E g4 0 (.inr (7, [.ref (E.1 1), .ref (E.1 127), .int (b2i hsn), .ref (E.1 253), .ref (E.1 266), .ref (E.1 268), .ref (E.1 270), .ref (E.1 271), .ref (E.1 273), .ref (E.1 275), .ref (E.1 277)])) := ho
              obtain ⟨pi, ra, hs, hl⟩ := id hL
              refine r_aload_n (pc := 159) C dX7_setInPair_159 rfl ?_
              refine r_getf (pc := 160) C dX7_setInPair_160 fl_RX7_14 ho rfl ?_
              refine r_aload_n (pc := 163) C dX7_setInPair_163 rfl ?_
              refine r_getf (pc := 164) C dX7_setInPair_164 fl_RX7_28 ho rfl ?_
              refine r_callV (pc := 167) C dX7_setInPair_167 cv_RX7_310 (c_X5_setPair hL hp5 (by omega)) ⟨rfl, rfl, by decide, by decide⟩ hs.1 rfl rfl (Nat.le_of_ble_eq_true rfl) ⟨Nat.zero_le _, Nat.zero_le _⟩ ?_
              rintro _ g6 ⟨rfl, hL2, hF6⟩
              have hB6 := hB4.st hF6 hL2
              show G M S E (0, 0) g6 170 [some (.ref (E.1 0)), some (.int (nI k)), some (.int (nI t)), some (.int (nI 0)), some (.ref (E.1 (1 + 2 + t))), some (.ref (E.1 (253 + 8 + k))), some (.int (nI 0)), some (.int (b2i (aOk v.1 v.2.2.1.1 (va_up v.2.2.1.2.2 k (v.2.1 t)) v.2.2.1.2.1)))] []
              refine r_iload (pc := 170) C dX7_setInPair_170 rfl ?_
              refine r_if_eq (pc := 172) (tgt := 179) C dX7_setInPair_172 (by decide) (fun h172 => ?_) (fun h172 => ?_)
              · have h172 := z_eq (by omega) h172
                refine r_iconst (pc := 179) (v := nI 0) C dX7_setInPair_179 (by decide +kernel) ?_
                exact r_iret (pc := 180) C Z dX7_setInPair_180 rfl (by rw [he]; exact ⟨rfl, hB6, (hF5.wide (by omega) (by omega)).tr hF6 (by omega) (by omega)⟩)
              · have h172 := z_ne (by omega) h172
                omega
            · have h153 := b_f h153
              rw [hao] at h153
              rw [h153] at he
              refine r_bipush (pc := 156) (v := (-3)) C dX7_setInPair_156 (by decide +kernel) ?_
              exact r_iret (pc := 158) C Z dX7_setInPair_158 rfl (by rw [he]; exact ⟨rfl, hB4, hF5.wide (by omega) (by omega)⟩)
          · have h99 := z_ne (by omega) h99
            omega
        · refine r_iconst (pc := 84) (v := nI 1) C dX7_setInPair_84 (by decide +kernel) ?_
          refine r_goto (pc := 85) (tgt := 89) C dX7_setInPair_85 (by decide) ?_
          refine r_istore (pc := 89) C dX7_setInPair_89 (by decide) ?_
          refine G.eq (pc' := 91) (vs' := [some (.ref (E.1 0)), some (.int (nI k)), some (.int (nI t)), some (.int (nI 0)), some (.ref (E.1 (1 + 2 + t))), some (.ref (E.1 (253 + 8 + k))), some (.int (nI 1)), none]) (st' := []) ?_
          refine r_aload (pc := 91) C dX7_setInPair_91 rfl ?_
          refine r_aload (pc := 93) C dX7_setInPair_93 rfl ?_
          refine r_callS (pc := 95) C dX7_setInPair_95 cs_RX7_318 (c_X7_copyRow (hs.2.2.2.1 t (by omega)) (hp.2.2.2 k (by omega)).2) ⟨rfl, rfl, by decide, by decide⟩ rfl rfl (Nat.le_of_ble_eq_true rfl) ⟨Nat.zero_le _, Nat.zero_le _⟩ ?_
          rintro _ _ ⟨rfl, rfl⟩
          show G M S E (0, 0) (va_up g2 (253 + 8 + k) (xI S 24 (v.2.1 t))) 98 [some (.ref (E.1 0)), some (.int (nI k)), some (.int (nI t)), some (.int (nI 0)), some (.ref (E.1 (1 + 2 + t))), some (.ref (E.1 (253 + 8 + k))), some (.int (nI 1)), none] []
          have hd : difI v.1 (v.2.2.1.2.2 k) (v.2.1 t) = 1 := by unfold difI; rw [show decide (difP v.1 (v.2.2.1.2.2 k) (v.2.1 t) = -7) = false from dF h81]; rfl
          have hp3 := hp.setB (v.2.1 t) hk
          have hf3 : Fr g2 (va_up g2 (253 + 8 + k) (xI S 24 (v.2.1 t))) 253 266 := Fr.up Fr.rf (by omega) (by omega)
          have hB3 := hB2.scr (hf3.wide (by omega) (by omega)) ⟨⟨_, hp3⟩, hSc.2.1.fr hf3 (by omega), hSc.2.2.fr hf3 (by omega)⟩
          clear ho hL hV hSc hWy hPt hIn hOu hSl hs hl
          have hF3 := (hF.wide (lo' := 253) (hi' := 270) (by omega) (by omega)).tr hf3 (by omega) (by omega)
          generalize hg3 : (va_up g2 (253 + 8 + k) (xI S 24 (v.2.1 t))) = g3 at hp3 hf3 hB3 hF3 ⊢
          clear hg3
          obtain ⟨ho, hL, hV, hSc, hWy, hPt, hIn, hOu, hSl⟩ := id hB3
          have ho : Ce E g3 0 (.inr (7, [.ref (E.1 1), .ref (E.1 127), .int (b2i hsn), .ref (E.1 253), .ref (E.1 266), .ref (E.1 268), .ref (E.1 270), .ref (E.1 271), .ref (E.1 273), .ref (E.1 275), .ref (E.1 277)])) := ho
          obtain ⟨pi, ra, hs, hl⟩ := id hL
          refine r_iload_n (pc := 98) C dX7_setInPair_98 rfl ?_
          refine r_if_eq (pc := 99) (tgt := 127) C dX7_setInPair_99 (by decide) (fun h99 => ?_) (fun h99 => ?_)
          · have h99 := z_eq (by omega) h99
            refine r_aload_n (pc := 127) C dX7_setInPair_127 rfl ?_
            refine r_getf (pc := 128) C dX7_setInPair_128 fl_RX7_28 ho rfl ?_
            refine r_aload_n (pc := 131) C dX7_setInPair_131 rfl ?_
            refine r_getf (pc := 132) C dX7_setInPair_132 fl_RX7_14 ho rfl ?_
            refine r_getf (pc := 135) C dX7_setInPair_135 fl_RX7_78 hs.1 rfl ?_
            refine r_aload_n (pc := 138) C dX7_setInPair_138 rfl ?_
            refine r_getf (pc := 139) C dX7_setInPair_139 fl_RX7_35 ho rfl ?_
            refine r_aload_n (pc := 142) C dX7_setInPair_142 rfl ?_
            refine r_getf (pc := 143) C dX7_setInPair_143 fl_RX7_39 ho rfl ?_
            refine r_callV (pc := 146) C dX7_setInPair_146 cv_RX7_326 (c_X2_deriveAlpha hp3 hSc.2.1 hSc.2.2 hr1 v.1 hN) ⟨rfl, rfl, by decide, by decide⟩ hp3.1 rfl rfl (Nat.le_of_ble_eq_true rfl) ⟨Nat.zero_le _, Nat.zero_le _⟩ ?_
            rintro _ g4 ⟨_, rfl, rfl, hW1, hW2, hF4, al, hp4, hal⟩
            have hB4 := hB3.scr hF4 ⟨⟨_, hp4⟩, hW1, hW2⟩
            have hao := aOk_ind (N := v.1) (r := v.2.2.1.1) (be := (va_up v.2.2.1.2.2 k (v.2.1 t))) (al := v.2.2.1.2.1) (al' := fun _ _ => 0)
            show G M S E (0, 0) g4 149 [some (.ref (E.1 0)), some (.int (nI k)), some (.int (nI t)), some (.int (nI 0)), some (.ref (E.1 (1 + 2 + t))), some (.ref (E.1 (253 + 8 + k))), some (.int (nI 1)), none] [.int (b2i (aOk v.1 v.2.2.1.1 (va_up v.2.2.1.2.2 k (v.2.1 t)) v.2.2.1.2.1))]
            have hF5 := hF3.tr hF4 (by omega) (by omega)
            refine r_istore (pc := 149) C dX7_setInPair_149 (by decide) ?_
            refine G.eq (pc' := 151) (vs' := [some (.ref (E.1 0)), some (.int (nI k)), some (.int (nI t)), some (.int (nI 0)), some (.ref (E.1 (1 + 2 + t))), some (.ref (E.1 (253 + 8 + k))), some (.int (nI 1)), some (.int (b2i (aOk v.1 v.2.2.1.1 (va_up v.2.2.1.2.2 k (v.2.1 t)) v.2.2.1.2.1)))]) (st' := []) ?_
            refine r_iload (pc := 151) C dX7_setInPair_151 rfl ?_
            refine r_if_ne (pc := 153) (tgt := 159) C dX7_setInPair_153 (by decide) (fun h153 => ?_) (fun h153 => ?_)
            · have h153 := b_t h153
              have hp5 := hp4.cong (w := (v.2.2.1.1, aIt v.1 v.2.2.1.1 (va_up v.2.2.1.2.2 k (v.2.1 t)) 5 (fun _ _ => 0), (va_up v.2.2.1.2.2 k (v.2.1 t)))) rfl (fun j hj => (congrFun (hal h153) j).trans (aIt_ind 5 j hj)) (fun _ _ => rfl)
              rw [hao] at h153
              rw [h153] at he
              rw [hd] at he
              clear ho hL hV hSc hWy hPt hIn hOu hSl hs hl
              obtain ⟨ho, hL, hV, hSc, hWy, hPt, hIn, hOu, hSl⟩ := id hB4
              have ho : Ce E g4 0 (.inr (7, [.ref (E.1 1), .ref (E.1 127), .int (b2i hsn), .ref (E.1 253), .ref (E.1 266), .ref (E.1 268), .ref (E.1 270), .ref (E.1 271), .ref (E.1 273), .ref (E.1 275), .ref (E.1 277)])) := ho
              obtain ⟨pi, ra, hs, hl⟩ := id hL
              refine r_aload_n (pc := 159) C dX7_setInPair_159 rfl ?_
              refine r_getf (pc := 160) C dX7_setInPair_160 fl_RX7_14 ho rfl ?_
              refine r_aload_n (pc := 163) C dX7_setInPair_163 rfl ?_
              refine r_getf (pc := 164) C dX7_setInPair_164 fl_RX7_28 ho rfl ?_
              refine r_callV (pc := 167) C dX7_setInPair_167 cv_RX7_310 (c_X5_setPair hL hp5 (by omega)) ⟨rfl, rfl, by decide, by decide⟩ hs.1 rfl rfl (Nat.le_of_ble_eq_true rfl) ⟨Nat.zero_le _, Nat.zero_le _⟩ ?_
              rintro _ g6 ⟨rfl, hL2, hF6⟩
              have hB6 := hB4.st hF6 hL2
              show G M S E (0, 0) g6 170 [some (.ref (E.1 0)), some (.int (nI k)), some (.int (nI t)), some (.int (nI 0)), some (.ref (E.1 (1 + 2 + t))), some (.ref (E.1 (253 + 8 + k))), some (.int (nI 1)), some (.int (b2i (aOk v.1 v.2.2.1.1 (va_up v.2.2.1.2.2 k (v.2.1 t)) v.2.2.1.2.1)))] []
              refine r_iload (pc := 170) C dX7_setInPair_170 rfl ?_
              refine r_if_eq (pc := 172) (tgt := 179) C dX7_setInPair_172 (by decide) (fun h172 => ?_) (fun h172 => ?_)
              · have h172 := z_eq (by omega) h172
                omega
              · have h172 := z_ne (by omega) h172
                refine r_iconst (pc := 175) (v := nI 1) C dX7_setInPair_175 (by decide +kernel) ?_
                refine r_goto (pc := 176) (tgt := 180) C dX7_setInPair_176 (by decide) ?_
                exact r_iret (pc := 180) C Z dX7_setInPair_180 rfl (by rw [he]; exact ⟨rfl, hB6, (hF5.wide (by omega) (by omega)).tr hF6 (by omega) (by omega)⟩)
            · have h153 := b_f h153
              rw [hao] at h153
              rw [h153] at he
              refine r_bipush (pc := 156) (v := (-3)) C dX7_setInPair_156 (by decide +kernel) ?_
              exact r_iret (pc := 158) C Z dX7_setInPair_158 rfl (by rw [he]; exact ⟨rfl, hB4, hF5.wide (by omega) (by omega)⟩)
          · have h99 := z_ne (by omega) h99
            omega
      · have h45 := z_ne (by omega) h45
        omega
    · have h14 := b_f h14
      refine r_iconst (pc := 17) (v := (-1)) C dX7_setInPair_17 (by decide +kernel) ?_
      exact r_iret (pc := 18) C Z dX7_setInPair_18 rfl (by rw [show (spB v y x) = (-1, v) by unfold spB; rw [h4, h14]; rfl]; exact ⟨rfl, hB, Fr.rf⟩)
  · have h4 := b_f h4
    refine r_bipush (pc := 7) (v := (-2)) C dX7_setInPair_7 (by decide +kernel) ?_
    exact r_iret (pc := 9) C Z dX7_setInPair_9 rfl (by rw [show (spB v y x) = (-2, v) by unfold spB; rw [h4]; rfl]; exact ⟨rfl, hB, Fr.rf⟩)
