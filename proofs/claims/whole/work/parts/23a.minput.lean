def hrI (L : Nat) (x : Nat → Nat) (p : Nat) : Int32 := if L ≤ p then -1 else nI (x p)
theorem hrI_tk {L p c : Nat} {x : Nat → Nat} (h128 : ∀ k, x k < 128) (hc : c < 128) : hrI L x p = nI c ↔ tkB L x c p = true := by
  unfold hrI tkB
  by_cases q : L ≤ p
  · rw [if_pos q, show decide (p < L) = false from dF (by omega)]
    constructor
    · intro e
      have e2 := congrArg Int32.toInt e
      rw [nI_toInt (by omega)] at e2
      have : ((-1 : Int32)).toInt = -1 := by decide
      omega
    · intro e; cases e
  · rw [if_neg q, show decide (p < L) = true from dT (by omega), Bool.true_and]
    have := h128 p
    exact ⟨fun e => decide_eq_true (c_eq (by omega) (by omega) e), fun e => by rw [of_decide_eq_true e]⟩
theorem hrI_t {L p c : Nat} {x : Nat → Nat} (h128 : ∀ k, x k < 128) (hc : c < 128) (h : hrI L x p = nI c) : tkB L x c p = true := (hrI_tk h128 hc).mp h
theorem hrI_f {L p c : Nat} {x : Nat → Nat} (h128 : ∀ k, x k < 128) (hc : c < 128) (h : ¬ hrI L x p = nI c) : tkB L x c p = false := by
  cases e : tkB L x c p with
  | false => rfl
  | true => exact absurd ((hrI_tk h128 hc).mpr e) h
theorem hrI_dg {L p : Nat} {x : Nat → Nat} (h128 : ∀ k, x k < 128) : btw (hrI L x p).toInt64 48 57 = dgB L x p := by
  unfold hrI btw dgB
  by_cases q : L ≤ p
  · rw [if_pos q, show decide (p < L) = false from dF (by omega), Bool.false_and]
    decide +kernel
  · rw [if_neg q, show decide (p < L) = true from dT (by omega), Bool.true_and]
    have := h128 p
    congr 1
    · rw [decide_eq_decide, Int64.le_iff_toInt_le, Int32.toInt_toInt64, nI_toInt (by omega)]
      show (48 : Int) ≤ _ ↔ _
      omega
    · rw [decide_eq_decide, Int64.le_iff_toInt_le, Int32.toInt_toInt64, nI_toInt (by omega)]
      show _ ≤ (57 : Int) ↔ _
      omega
theorem dgB_lt {L p : Nat} {x : Nat → Nat} (h : dgB L x p = true) : p < L ∧ 48 ≤ x p ∧ x p ≤ 57 := by
  unfold dgB at h
  simp only [Bool.and_eq_true, decide_eq_true_eq] at h
  exact ⟨h.1, h.2.1, h.2.2⟩
theorem sg_mul (neg : Bool) (k : Nat) : (bif neg then -1 else nI 1) * nI k = sgI neg k := by
  cases neg with
  | true =>
    show (-1 : Int32) * nI k = -(nI k)
    rw [Int32.neg_mul, Int32.one_mul]
  | false =>
    show nI 1 * nI k = nI k
    rw [pk_mul, Nat.one_mul]
theorem by_m (x : Int32) (j : Nat) : (x >>> (nI (8 * j) &&& 31)) &&& nI 255 = byO x (nI j) := by
  unfold byO
  rw [show (8 : Int32) * nI j = nI (8 * j) from pk_mul 8 j]
  rfl
set_option maxHeartbeats 4000000 in
set_option maxRecDepth 100000 in
theorem c_X8_here2 {S : ST} {E : ET} {g : Nat → va_E} {z : MZ} {p : Nat} (ho : Ce E g 286 (.inr (8, [.int (nI z.1), .int (nI z.2.1), .int z.2.2.1, .int (nI z.2.2.2.1), .ref (E.1 287), .ref (E.1 288), .ref (E.1 289), .ref (E.1 290), .ref (E.1 291), .ref (E.1 292), .ref (E.1 293), .ref (E.1 294), .ref (E.1 295), .ref (E.1 296), .ref (E.1 297), .ref (E.1 298), .int (nI z.2.2.2.2.1), .ref (E.1 299), .ref (E.1 300), .ref (E.1 301), .ref (E.1 302), .int (nI z.2.2.2.2.2.1), .int (nI p), .int (nI z.2.2.2.2.2.2.2.1), .ref (E.1 303), .ref (E.1 304), .ref (E.1 305), .ref (E.1 306), .ref (E.1 307), .int (nI z.2.2.2.2.2.2.2.2.1), .int (b2i z.2.2.2.2.2.2.2.2.2.1), .int (b2i z.2.2.2.2.2.2.2.2.2.2.1)]))) (hx : Ce E g 301 (xI S 60 (fun k => nI (z.2.2.2.2.2.2.2.2.2.2.2.2.2.2.2.2.2.2.2.2.2.2.2.2.2.1 k)))) (hL : z.2.2.2.2.2.1 ≤ 60) (hp : p ≤ z.2.2.2.2.2.1) (h128 : ∀ k, z.2.2.2.2.2.2.2.2.2.2.2.2.2.2.2.2.2.2.2.2.2.2.2.2.2.1 k < 128) : CtI S E yX8_here cX8_here 1 (Option.some FieldType.int) rmX8_here [.ref (E.1 286)] g (fun u g' => u = hrI z.2.2.2.2.2.1 z.2.2.2.2.2.2.2.2.2.2.2.2.2.2.2.2.2.2.2.2.2.2.2.2.2.1 p ∧ g = g') := by
  refine Ct.of RX8 (by decide +kernel) rfl (Nat.le_of_ble_eq_true rfl) (fun M C Z => ?_)
  refine G.eq (pc' := 0) (vs' := [some (.ref (E.1 286))]) (st' := []) ?_
  refine r_aload_n (pc := 0) C dX8_here_0 rfl ?_
  refine r_getf (pc := 1) C dX8_here_1 fl_RX8_252 ho rfl ?_
  refine r_aload_n (pc := 4) C dX8_here_4 rfl ?_
  refine r_getf (pc := 5) C dX8_here_5 fl_RX8_242 ho rfl ?_
  refine r_icmp_ge (pc := 8) (tgt := 23) C dX8_here_8 (by decide) (fun h8 => ?_) (fun h8 => ?_)
  · have h8 := c_le (by omega) (by omega) h8
    refine r_iconst (pc := 23) (v := (-1)) C dX8_here_23 (by decide +kernel) ?_
    exact r_iret (pc := 24) C Z dX8_here_24 rfl (⟨(if_pos h8).symm, rfl⟩)
  · have h8 := c_nle (by omega) (by omega) h8
    refine r_aload_n (pc := 11) C dX8_here_11 rfl ?_
    refine r_getf (pc := 12) C dX8_here_12 fl_RX8_65 ho rfl ?_
    refine r_aload_n (pc := 15) C dX8_here_15 rfl ?_
    refine r_getf (pc := 16) C dX8_here_16 fl_RX8_252 ho rfl ?_
    refine r_iald (pc := 19) C dX8_here_19 hx rfl (by omega) (by omega) ?_
    refine r_ti (nI (z.2.2.2.2.2.2.2.2.2.2.2.2.2.2.2.2.2.2.2.2.2.2.2.2.2.1 p)) rfl ?_
    refine r_goto (pc := 20) (tgt := 24) C dX8_here_20 (by decide) ?_
    exact r_iret (pc := 24) C Z dX8_here_24 rfl (⟨(if_neg (by omega)).symm, rfl⟩)
set_option maxHeartbeats 4000000 in
set_option maxRecDepth 100000 in
theorem c_X8_isDigit2 {S : ST} {E : ET} {g : Nat → va_E} {z : MZ} {p : Nat} (ho : Ce E g 286 (.inr (8, [.int (nI z.1), .int (nI z.2.1), .int z.2.2.1, .int (nI z.2.2.2.1), .ref (E.1 287), .ref (E.1 288), .ref (E.1 289), .ref (E.1 290), .ref (E.1 291), .ref (E.1 292), .ref (E.1 293), .ref (E.1 294), .ref (E.1 295), .ref (E.1 296), .ref (E.1 297), .ref (E.1 298), .int (nI z.2.2.2.2.1), .ref (E.1 299), .ref (E.1 300), .ref (E.1 301), .ref (E.1 302), .int (nI z.2.2.2.2.2.1), .int (nI p), .int (nI z.2.2.2.2.2.2.2.1), .ref (E.1 303), .ref (E.1 304), .ref (E.1 305), .ref (E.1 306), .ref (E.1 307), .int (nI z.2.2.2.2.2.2.2.2.1), .int (b2i z.2.2.2.2.2.2.2.2.2.1), .int (b2i z.2.2.2.2.2.2.2.2.2.2.1)]))) (hx : Ce E g 301 (xI S 60 (fun k => nI (z.2.2.2.2.2.2.2.2.2.2.2.2.2.2.2.2.2.2.2.2.2.2.2.2.2.1 k)))) (hL : z.2.2.2.2.2.1 ≤ 60) (hp : p ≤ z.2.2.2.2.2.1) (h128 : ∀ k, z.2.2.2.2.2.2.2.2.2.2.2.2.2.2.2.2.2.2.2.2.2.2.2.2.2.1 k < 128) : CtI S E yX8_isDigit cX8_isDigit 1 (Option.some FieldType.boolean) rmX8_isDigit [.ref (E.1 286)] g (fun u g' => u = b2i (dgB z.2.2.2.2.2.1 z.2.2.2.2.2.2.2.2.2.2.2.2.2.2.2.2.2.2.2.2.2.2.2.2.2.1 p) ∧ g = g') := by
  refine Ct.of RX8 (by decide +kernel) rfl (Nat.le_of_ble_eq_true rfl) (fun M C Z => ?_)
  refine G.eq (pc' := 0) (vs' := [some (.ref (E.1 286))]) (st' := []) ?_
  refine r_aload_n (pc := 0) C dX8_isDigit_0 rfl ?_
  refine r_callV (pc := 1) C dX8_isDigit_1 cv_RX8_255 (c_X8_here2 ho hx hL (by omega) h128) ⟨rfl, rfl, by decide, by decide⟩ ho rfl rfl (Nat.le_of_ble_eq_true rfl) ⟨Nat.zero_le _, Nat.zero_le _⟩ ?_
  rintro _ _ ⟨_, rfl, rfl, rfl⟩
  show G M S E (0, 0) g 4 [some (.ref (E.1 286))] [.int (hrI z.2.2.2.2.2.1 z.2.2.2.2.2.2.2.2.2.2.2.2.2.2.2.2.2.2.2.2.2.2.2.2.2.1 p)]
  refine r_i2l (pc := 4) C dX8_isDigit_4 ?_
  refine r_ldc2 (pc := 5) C dX8_isDigit_5 qK_RX8_258 ?_
  refine r_ldc2 (pc := 8) C dX8_isDigit_8 qK_RX8_260 ?_
  refine r_callS (pc := 11) C dX8_isDigit_11 cs_RX8_7 (c_X8_isBetween ((hrI z.2.2.2.2.2.1 z.2.2.2.2.2.2.2.2.2.2.2.2.2.2.2.2.2.2.2.2.2.2.2.2.2.1 p).toInt64) 48 57) ⟨rfl, rfl, by decide, by decide⟩ rfl rfl (Nat.le_of_ble_eq_true rfl) ⟨Nat.zero_le _, Nat.zero_le _⟩ ?_
  rintro _ _ ⟨_, rfl, rfl, rfl⟩
  show G M S E (0, 0) g 14 [some (.ref (E.1 286))] [.int (b2i (btw ((hrI z.2.2.2.2.2.1 z.2.2.2.2.2.2.2.2.2.2.2.2.2.2.2.2.2.2.2.2.2.2.2.2.2.1 p).toInt64) 48 57))]
  exact r_iret (pc := 14) C Z dX8_isDigit_14 (b_n _) (⟨by rw [hrI_dg h128], rfl⟩)
set_option maxHeartbeats 4000000 in
set_option maxRecDepth 100000 in
theorem c_X8_readNumber {S : ST} {E : ET} {g : Nat → va_E} {z : MZ} {p : Nat} (ho : Ce E g 286 (.inr (8, [.int (nI z.1), .int (nI z.2.1), .int z.2.2.1, .int (nI z.2.2.2.1), .ref (E.1 287), .ref (E.1 288), .ref (E.1 289), .ref (E.1 290), .ref (E.1 291), .ref (E.1 292), .ref (E.1 293), .ref (E.1 294), .ref (E.1 295), .ref (E.1 296), .ref (E.1 297), .ref (E.1 298), .int (nI z.2.2.2.2.1), .ref (E.1 299), .ref (E.1 300), .ref (E.1 301), .ref (E.1 302), .int (nI z.2.2.2.2.2.1), .int (nI p), .int (nI z.2.2.2.2.2.2.2.1), .ref (E.1 303), .ref (E.1 304), .ref (E.1 305), .ref (E.1 306), .ref (E.1 307), .int (nI z.2.2.2.2.2.2.2.2.1), .int (b2i z.2.2.2.2.2.2.2.2.2.1), .int (b2i z.2.2.2.2.2.2.2.2.2.2.1)]))) (hx : Ce E g 301 (xI S 60 (fun k => nI (z.2.2.2.2.2.2.2.2.2.2.2.2.2.2.2.2.2.2.2.2.2.2.2.2.2.1 k)))) (hL : z.2.2.2.2.2.1 ≤ 60) (hp : p ≤ z.2.2.2.2.2.1) (h128 : ∀ k, z.2.2.2.2.2.2.2.2.2.2.2.2.2.2.2.2.2.2.2.2.2.2.2.2.2.1 k < 128) (m : Nat) (hm1 : 1 ≤ m) (hm : m ≤ 4) : CtI S E yX8_readNumber cX8_readNumber 4 (Option.some FieldType.int) rmX8_readNumber [.ref (E.1 286), .int (nI m)] g (fun u g' => u = oI (rd z.2.2.2.2.2.1 z.2.2.2.2.2.2.2.2.2.2.2.2.2.2.2.2.2.2.2.2.2.2.2.2.2.1 m p none).1 ∧ g' = va_up g 286 (.inr (8, [.int (nI z.1), .int (nI z.2.1), .int z.2.2.1, .int (nI z.2.2.2.1), .ref (E.1 287), .ref (E.1 288), .ref (E.1 289), .ref (E.1 290), .ref (E.1 291), .ref (E.1 292), .ref (E.1 293), .ref (E.1 294), .ref (E.1 295), .ref (E.1 296), .ref (E.1 297), .ref (E.1 298), .int (nI z.2.2.2.2.1), .ref (E.1 299), .ref (E.1 300), .ref (E.1 301), .ref (E.1 302), .int (nI z.2.2.2.2.2.1), .int (nI ((rd z.2.2.2.2.2.1 z.2.2.2.2.2.2.2.2.2.2.2.2.2.2.2.2.2.2.2.2.2.2.2.2.2.1 m p none).2)), .int (nI z.2.2.2.2.2.2.2.1), .ref (E.1 303), .ref (E.1 304), .ref (E.1 305), .ref (E.1 306), .ref (E.1 307), .int (nI z.2.2.2.2.2.2.2.2.1), .int (b2i z.2.2.2.2.2.2.2.2.2.1), .int (b2i z.2.2.2.2.2.2.2.2.2.2.1)]))) := by
  refine Ct.of RX8 (by decide +kernel) rfl (Nat.le_of_ble_eq_true rfl) (fun M C Z => ?_)
  refine G.eq (pc' := 0) (vs' := [some (.ref (E.1 286)), some (.int (nI m)), none, none]) (st' := []) ?_
  refine r_aload_n (pc := 0) C dX8_readNumber_0 rfl ?_
  refine r_callV (pc := 1) C dX8_readNumber_1 cv_RX8_262 (c_X8_isDigit2 ho hx hL (by omega) h128) ⟨rfl, rfl, by decide, by decide⟩ ho rfl rfl (Nat.le_of_ble_eq_true rfl) ⟨Nat.zero_le _, Nat.zero_le _⟩ ?_
  rintro _ _ ⟨_, rfl, rfl, rfl⟩
  show G M S E (0, 0) g 4 [some (.ref (E.1 286)), some (.int (nI m)), none, none] [.int (b2i (dgB z.2.2.2.2.2.1 z.2.2.2.2.2.2.2.2.2.2.2.2.2.2.2.2.2.2.2.2.2.2.2.2.2.1 p))]
  refine r_if_eq (pc := 4) (tgt := 11) C dX8_readNumber_4 (by decide) (fun h4 => ?_) (fun h4 => ?_)
  · have h4 := b_f h4
    refine r_iconst (pc := 11) (v := (-1)) C dX8_readNumber_11 (by decide +kernel) ?_
    refine r_istore_n (pc := 12) C dX8_readNumber_12 (by decide) ?_
    refine G.eq (pc' := 13) (vs' := [some (.ref (E.1 286)), some (.int (nI m)), some (.int (-1)), none]) (st' := []) ?_
    refine r_iconst (pc := 13) (v := nI 0) C dX8_readNumber_13 (by decide +kernel) ?_
    refine r_istore_n (pc := 14) C dX8_readNumber_14 (by decide) ?_
    refine G.eq (pc' := 15) (vs' := [some (.ref (E.1 286)), some (.int (nI m)), some (.int (-1)), some (.int (nI 0))]) (st' := []) ?_
    refine r_iload_n (pc := 15) C dX8_readNumber_15 rfl ?_
    refine r_iload_n (pc := 16) C dX8_readNumber_16 rfl ?_
    refine r_icmp_ge (pc := 17) (tgt := 56) C dX8_readNumber_17 (by decide) (fun h17 => ?_) (fun h17 => ?_)
    · have h17 := c_le (by omega) (by omega) h17
      omega
    · have h17 := c_nle (by omega) (by omega) h17
      refine r_aload_n (pc := 20) C dX8_readNumber_20 rfl ?_
      refine r_callV (pc := 21) C dX8_readNumber_21 cv_RX8_262 (c_X8_isDigit2 ho hx hL (by omega) h128) ⟨rfl, rfl, by decide, by decide⟩ ho rfl rfl (Nat.le_of_ble_eq_true rfl) ⟨Nat.zero_le _, Nat.zero_le _⟩ ?_
      rintro _ _ ⟨_, rfl, rfl, rfl⟩
      show G M S E (0, 0) g 24 [some (.ref (E.1 286)), some (.int (nI m)), some (.int (-1)), some (.int (nI 0))] [.int (b2i (dgB z.2.2.2.2.2.1 z.2.2.2.2.2.2.2.2.2.2.2.2.2.2.2.2.2.2.2.2.2.2.2.2.2.1 p))]
      refine r_if_eq (pc := 24) (tgt := 56) C dX8_readNumber_24 (by decide) (fun h24 => ?_) (fun h24 => ?_)
      · have h24 := b_f h24
        refine r_iload_n (pc := 56) C dX8_readNumber_56 rfl ?_
        have hrd : rd z.2.2.2.2.2.1 z.2.2.2.2.2.2.2.2.2.2.2.2.2.2.2.2.2.2.2.2.2.2.2.2.2.1 m p none = (none, p) := by rw [show m = m - 1 + 1 by omega, rd, h4]; rfl
        exact r_iret (pc := 57) C Z dX8_readNumber_57 rfl (⟨by rw [hrd]; rfl, by rw [hrd]; exact Ce.id ho⟩)
      · have h24 := b_t h24
        rw [h4] at h24; cases h24
  · have h4 := b_t h4
    refine r_iconst (pc := 7) (v := nI 0) C dX8_readNumber_7 (by decide +kernel) ?_
    refine r_goto (pc := 8) (tgt := 12) C dX8_readNumber_8 (by decide) ?_
    refine r_istore_n (pc := 12) C dX8_readNumber_12 (by decide) ?_
    refine G.eq (pc' := 13) (vs' := [some (.ref (E.1 286)), some (.int (nI m)), some (.int (nI 0)), none]) (st' := []) ?_
    refine r_iconst (pc := 13) (v := nI 0) C dX8_readNumber_13 (by decide +kernel) ?_
    refine r_istore_n (pc := 14) C dX8_readNumber_14 (by decide) ?_
    refine G.eq (pc' := 15) (vs' := [some (.ref (E.1 286)), some (.int (nI m)), some (.int (nI 0)), some (.int (nI 0))]) (st' := []) ?_
    refine G.heap (Ce.id ho) ?_
    refine bkr (P := fun t r => ∀ (v : Option Nat) (a p1 : Nat), p1 ≤ z.2.2.2.2.2.1 → a < 10 ^ t → v.getD 0 = a → (v = none → t = 0 ∧ dgB z.2.2.2.2.2.1 z.2.2.2.2.2.2.2.2.2.2.2.2.2.2.2.2.2.2.2.2.2.2.2.2.2.1 p1 = true) → rd z.2.2.2.2.2.1 z.2.2.2.2.2.2.2.2.2.2.2.2.2.2.2.2.2.2.2.2.2.2.2.2.2.1 m p none = rd z.2.2.2.2.2.1 z.2.2.2.2.2.2.2.2.2.2.2.2.2.2.2.2.2.2.2.2.2.2.2.2.2.1 r p1 v → G M S E (0, 0) (va_up g 286 (.inr (8, [.int (nI z.1), .int (nI z.2.1), .int z.2.2.1, .int (nI z.2.2.2.1), .ref (E.1 287), .ref (E.1 288), .ref (E.1 289), .ref (E.1 290), .ref (E.1 291), .ref (E.1 292), .ref (E.1 293), .ref (E.1 294), .ref (E.1 295), .ref (E.1 296), .ref (E.1 297), .ref (E.1 298), .int (nI z.2.2.2.2.1), .ref (E.1 299), .ref (E.1 300), .ref (E.1 301), .ref (E.1 302), .int (nI z.2.2.2.2.2.1), .int (nI p1), .int (nI z.2.2.2.2.2.2.2.1), .ref (E.1 303), .ref (E.1 304), .ref (E.1 305), .ref (E.1 306), .ref (E.1 307), .int (nI z.2.2.2.2.2.2.2.2.1), .int (b2i z.2.2.2.2.2.2.2.2.2.1), .int (b2i z.2.2.2.2.2.2.2.2.2.2.1)]))) 15 [some (.ref (E.1 286)), some (.int (nI m)), some (.int (nI a)), some (.int (nI t))] []) (N := m) (fun v a p1 hp1 ha hva hvn he => ?_) (fun t r htr ih v a p1 hp1 ha hva hvn he => ?_) none 0 p hp (by decide) rfl (fun _ => ⟨rfl, h4⟩) rfl
    · show G M S E (0, 0) (va_up g 286 (.inr (8, [.int (nI z.1), .int (nI z.2.1), .int z.2.2.1, .int (nI z.2.2.2.1), .ref (E.1 287), .ref (E.1 288), .ref (E.1 289), .ref (E.1 290), .ref (E.1 291), .ref (E.1 292), .ref (E.1 293), .ref (E.1 294), .ref (E.1 295), .ref (E.1 296), .ref (E.1 297), .ref (E.1 298), .int (nI z.2.2.2.2.1), .ref (E.1 299), .ref (E.1 300), .ref (E.1 301), .ref (E.1 302), .int (nI z.2.2.2.2.2.1), .int (nI p1), .int (nI z.2.2.2.2.2.2.2.1), .ref (E.1 303), .ref (E.1 304), .ref (E.1 305), .ref (E.1 306), .ref (E.1 307), .int (nI z.2.2.2.2.2.2.2.2.1), .int (b2i z.2.2.2.2.2.2.2.2.2.1), .int (b2i z.2.2.2.2.2.2.2.2.2.2.1)]))) 15 [some (.ref (E.1 286)), some (.int (nI m)), some (.int (nI a)), some (.int (nI m))] []
      refine r_iload_n (pc := 15) C dX8_readNumber_15 rfl ?_
      refine r_iload_n (pc := 16) C dX8_readNumber_16 rfl ?_
      refine r_icmp_ge (pc := 17) (tgt := 56) C dX8_readNumber_17 (by decide) (fun h17 => ?_) (fun h17 => ?_)
      · have h17 := c_le (by omega) (by omega) h17
        have hv : v = some a := by
          cases v with
          | none => have := (hvn rfl).1; omega
          | some k => exact congrArg some hva
        refine r_iload_n (pc := 56) C dX8_readNumber_56 rfl ?_
        exact r_iret (pc := 57) C Z dX8_readNumber_57 rfl (⟨by rw [he, hv]; rfl, by rw [he]; rfl⟩)
      · have h17 := c_nle (by omega) (by omega) h17
        omega
    · show G M S E (0, 0) (va_up g 286 (.inr (8, [.int (nI z.1), .int (nI z.2.1), .int z.2.2.1, .int (nI z.2.2.2.1), .ref (E.1 287), .ref (E.1 288), .ref (E.1 289), .ref (E.1 290), .ref (E.1 291), .ref (E.1 292), .ref (E.1 293), .ref (E.1 294), .ref (E.1 295), .ref (E.1 296), .ref (E.1 297), .ref (E.1 298), .int (nI z.2.2.2.2.1), .ref (E.1 299), .ref (E.1 300), .ref (E.1 301), .ref (E.1 302), .int (nI z.2.2.2.2.2.1), .int (nI p1), .int (nI z.2.2.2.2.2.2.2.1), .ref (E.1 303), .ref (E.1 304), .ref (E.1 305), .ref (E.1 306), .ref (E.1 307), .int (nI z.2.2.2.2.2.2.2.2.1), .int (b2i z.2.2.2.2.2.2.2.2.2.1), .int (b2i z.2.2.2.2.2.2.2.2.2.2.1)]))) 15 [some (.ref (E.1 286)), some (.int (nI m)), some (.int (nI a)), some (.int (nI t))] []
      refine r_iload_n (pc := 15) C dX8_readNumber_15 rfl ?_
      refine r_iload_n (pc := 16) C dX8_readNumber_16 rfl ?_
      refine r_icmp_ge (pc := 17) (tgt := 56) C dX8_readNumber_17 (by decide) (fun h17 => ?_) (fun h17 => ?_)
      · have h17 := c_le (by omega) (by omega) h17
        omega
      · have h17 := c_nle (by omega) (by omega) h17
        refine r_aload_n (pc := 20) C dX8_readNumber_20 rfl ?_
        refine r_callV (pc := 21) C dX8_readNumber_21 cv_RX8_262 (c_X8_isDigit2 (Ce.new ho) (Ce.up hx (by decide)) hL (by omega) h128) ⟨rfl, rfl, by decide, by decide⟩ (Ce.new ho) rfl rfl (Nat.le_of_ble_eq_true rfl) ⟨Nat.zero_le _, Nat.zero_le _⟩ ?_
        rintro _ _ ⟨_, rfl, rfl, rfl⟩
        show G M S E (0, 0) (va_up g 286 (.inr (8, [.int (nI z.1), .int (nI z.2.1), .int z.2.2.1, .int (nI z.2.2.2.1), .ref (E.1 287), .ref (E.1 288), .ref (E.1 289), .ref (E.1 290), .ref (E.1 291), .ref (E.1 292), .ref (E.1 293), .ref (E.1 294), .ref (E.1 295), .ref (E.1 296), .ref (E.1 297), .ref (E.1 298), .int (nI z.2.2.2.2.1), .ref (E.1 299), .ref (E.1 300), .ref (E.1 301), .ref (E.1 302), .int (nI z.2.2.2.2.2.1), .int (nI p1), .int (nI z.2.2.2.2.2.2.2.1), .ref (E.1 303), .ref (E.1 304), .ref (E.1 305), .ref (E.1 306), .ref (E.1 307), .int (nI z.2.2.2.2.2.2.2.2.1), .int (b2i z.2.2.2.2.2.2.2.2.2.1), .int (b2i z.2.2.2.2.2.2.2.2.2.2.1)]))) 24 [some (.ref (E.1 286)), some (.int (nI m)), some (.int (nI a)), some (.int (nI t))] [.int (b2i (dgB z.2.2.2.2.2.1 z.2.2.2.2.2.2.2.2.2.2.2.2.2.2.2.2.2.2.2.2.2.2.2.2.2.1 p1))]
        refine r_if_eq (pc := 24) (tgt := 56) C dX8_readNumber_24 (by decide) (fun h24 => ?_) (fun h24 => ?_)
        · have h24 := b_f h24
          have hv : v = some a := by
            cases v with
            | none => have := (hvn rfl).2; rw [this] at h24; cases h24
            | some k => exact congrArg some hva
          have hrd : rd z.2.2.2.2.2.1 z.2.2.2.2.2.2.2.2.2.2.2.2.2.2.2.2.2.2.2.2.2.2.2.2.2.1 (r + 1) p1 v = (v, p1) := by rw [rd, h24]; rfl
          refine r_iload_n (pc := 56) C dX8_readNumber_56 rfl ?_
          exact r_iret (pc := 57) C Z dX8_readNumber_57 rfl (⟨by rw [he, hrd, hv]; rfl, by rw [he, hrd]⟩)
        · have h24 := b_t h24
          have hd3 := dgB_lt h24
          have hpw : 10 ^ t ≤ 10 ^ 9 := Nat.pow_le_pow_right (by decide) (by omega)
          refine r_bipush (pc := 27) (v := nI 10) C dX8_readNumber_27 (by decide +kernel) ?_
          refine r_iload_n (pc := 29) C dX8_readNumber_29 rfl ?_
          refine r_imul (pc := 30) C dX8_readNumber_30 ?_
          refine r_ti (nI (10 * a)) (pk_mul _ _) ?_
          refine r_aload_n (pc := 31) C dX8_readNumber_31 rfl ?_
          refine r_callV (pc := 32) C dX8_readNumber_32 cv_RX8_255 (c_X8_here2 (Ce.new ho) (Ce.up hx (by decide)) hL (by omega) h128) ⟨rfl, rfl, by decide, by decide⟩ (Ce.new ho) rfl rfl (Nat.le_of_ble_eq_true rfl) ⟨Nat.zero_le _, Nat.zero_le _⟩ ?_
          rintro _ _ ⟨_, rfl, rfl, rfl⟩
          show G M S E (0, 0) (va_up g 286 (.inr (8, [.int (nI z.1), .int (nI z.2.1), .int z.2.2.1, .int (nI z.2.2.2.1), .ref (E.1 287), .ref (E.1 288), .ref (E.1 289), .ref (E.1 290), .ref (E.1 291), .ref (E.1 292), .ref (E.1 293), .ref (E.1 294), .ref (E.1 295), .ref (E.1 296), .ref (E.1 297), .ref (E.1 298), .int (nI z.2.2.2.2.1), .ref (E.1 299), .ref (E.1 300), .ref (E.1 301), .ref (E.1 302), .int (nI z.2.2.2.2.2.1), .int (nI p1), .int (nI z.2.2.2.2.2.2.2.1), .ref (E.1 303), .ref (E.1 304), .ref (E.1 305), .ref (E.1 306), .ref (E.1 307), .int (nI z.2.2.2.2.2.2.2.2.1), .int (b2i z.2.2.2.2.2.2.2.2.2.1), .int (b2i z.2.2.2.2.2.2.2.2.2.2.1)]))) 35 [some (.ref (E.1 286)), some (.int (nI m)), some (.int (nI a)), some (.int (nI t))] [.int (hrI z.2.2.2.2.2.1 z.2.2.2.2.2.2.2.2.2.2.2.2.2.2.2.2.2.2.2.2.2.2.2.2.2.1 p1), .int (nI (10 * a))]
          refine r_ti (nI (z.2.2.2.2.2.2.2.2.2.2.2.2.2.2.2.2.2.2.2.2.2.2.2.2.2.1 p1)) (if_neg (by omega)) ?_
          refine r_iadd (pc := 35) C dX8_readNumber_35 ?_
          refine r_ti (nI (10 * a + (z.2.2.2.2.2.2.2.2.2.2.2.2.2.2.2.2.2.2.2.2.2.2.2.2.2.1 p1))) (nI_add _ _) ?_
          refine r_bipush (pc := 36) (v := nI 48) C dX8_readNumber_36 (by decide +kernel) ?_
          refine r_isub (pc := 38) C dX8_readNumber_38 ?_
          refine r_ti (nI (10 * a + (z.2.2.2.2.2.2.2.2.2.2.2.2.2.2.2.2.2.2.2.2.2.2.2.2.2.1 p1) - 48)) (pk_sub (by omega)) ?_
          refine r_istore_n (pc := 39) C dX8_readNumber_39 (by decide) ?_
          refine G.eq (pc' := 40) (vs' := [some (.ref (E.1 286)), some (.int (nI m)), some (.int (nI (10 * a + (z.2.2.2.2.2.2.2.2.2.2.2.2.2.2.2.2.2.2.2.2.2.2.2.2.2.1 p1) - 48))), some (.int (nI t))]) (st' := []) ?_
          refine r_aload_n (pc := 40) C dX8_readNumber_40 rfl ?_
          refine r_dup (pc := 41) C dX8_readNumber_41 rfl ?_
          refine r_getf (pc := 42) C dX8_readNumber_42 fl_RX8_252 (Ce.new ho) rfl ?_
          refine r_iconst (pc := 45) (v := nI 1) C dX8_readNumber_45 (by decide +kernel) ?_
          refine r_iadd (pc := 46) C dX8_readNumber_46 ?_
          refine r_ti (nI (p1 + 1)) (nI_add _ _) ?_
          refine r_putf2 (pc := 47) C dX8_readNumber_47 fp_RX8_252 ho.1 rfl rfl (Nat.le_of_ble_eq_true rfl) ?_
          refine r_iinc (pc := 50) (v := nI (t + 1)) C dX8_readNumber_50 rfl (nI_i1 _) (by decide) ?_
          refine G.eq (pc' := 53) (vs' := [some (.ref (E.1 286)), some (.int (nI m)), some (.int (nI (10 * a + (z.2.2.2.2.2.2.2.2.2.2.2.2.2.2.2.2.2.2.2.2.2.2.2.2.2.1 p1) - 48))), some (.int (nI (t + 1)))]) (st' := []) ?_
          refine r_goto (pc := 53) (tgt := 15) C dX8_readNumber_53 (by decide) ?_
          have hcv : 10 * a + z.2.2.2.2.2.2.2.2.2.2.2.2.2.2.2.2.2.2.2.2.2.2.2.2.2.1 p1 - 48 = v.getD 0 * 10 + (z.2.2.2.2.2.2.2.2.2.2.2.2.2.2.2.2.2.2.2.2.2.2.2.2.2.1 p1 - 48) := by omega
          exact (ih (some (v.getD 0 * 10 + (z.2.2.2.2.2.2.2.2.2.2.2.2.2.2.2.2.2.2.2.2.2.2.2.2.2.1 p1 - 48))) _ (p1 + 1) (by omega) (by rw [Nat.pow_succ]; omega) hcv.symm (fun q => by cases q) (by rw [he, rd, h24]; rfl))
