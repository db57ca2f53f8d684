/-! the text: L bytes x 0, x 1 ..; a sign taken; digits; an exponent; a term; a series -/
def tkB (L : Nat) (x : Nat → Nat) (c p : Nat) : Bool := decide (p < L) && decide (x p = c)
def tkP (L : Nat) (x : Nat → Nat) (c p : Nat) : Nat := bif tkB L x c p then p + 1 else p
def dgB (L : Nat) (x : Nat → Nat) (p : Nat) : Bool := decide (p < L) && (decide (48 ≤ x p) && decide (x p ≤ 57))
def oI (v : Option Nat) : Int32 := match v with
  | none => -1
  | some k => nI k
def rd (L : Nat) (x : Nat → Nat) : Nat → Nat → Option Nat → Option Nat × Nat
  | 0, p, v => (v, p)
  | r + 1, p, v => bif dgB L x p then rd L x r (p + 1) (some (v.getD 0 * 10 + (x p - 48))) else (v, p)
def ex (L : Nat) (x : Nat → Nat) (p : Nat) : Option Nat × Nat := bif tkB L x 94 p then rd L x 2 (p + 1) none else (some 1, p)
def rt1 (e : Option Nat × Nat) (k : Option Nat) : Option (Nat × Nat) × Nat := match e.1 with
  | none => (none, e.2)
  | some w => (some (w, k.getD 1), e.2)
def rt (L : Nat) (x : Nat → Nat) (p : Nat) : Option (Nat × Nat) × Nat := bif tkB L x 113 (rd L x 4 p none).2 then rt1 (ex L x ((rd L x 4 p none).2 + 1)) (rd L x 4 p none).1 else rt1 (match (rd L x 4 p none).1 with | none => none | some _ => some 0, (rd L x 4 p none).2) (rd L x 4 p none).1
def sgI (neg : Bool) (k : Nat) : Int32 := bif neg then -(nI k) else nI k
theorem dgB_t {L p : Nat} {x : Nat → Nat} (h1 : p < L) (h2 : 48 ≤ x p) (h3 : x p ≤ 57) : dgB L x p = true := by simp [dgB, h1, h2, h3]
theorem rd_le {L : Nat} {x : Nat → Nat} : ∀ (r p : Nat) (v : Option Nat), p ≤ L → p ≤ (rd L x r p v).2 ∧ (rd L x r p v).2 ≤ L
  | 0, p, v, h => ⟨Nat.le_refl _, h⟩
  | r + 1, p, v, h => by
    unfold rd
    cases hd : dgB L x p with
    | true =>
      have hl : p < L := by unfold dgB at hd; simp at hd; exact hd.1
      have := rd_le (x := x) r (p + 1) (some (v.getD 0 * 10 + (x p - 48))) hl
      simp only [cond_true]
      omega
    | false => exact ⟨Nat.le_refl _, h⟩
theorem rd_lt {L : Nat} {x : Nat → Nat} : ∀ (r p m : Nat) (v : Option Nat), (∀ k, v = some k → k < 10 ^ m) → ∀ k, (rd L x r p v).1 = some k → k < 10 ^ (m + r)
  | 0, p, m, v, h, k, e => h k e
  | r + 1, p, m, v, h, k, e => by
    unfold rd at e
    cases hd : dgB L x p with
    | true =>
      rw [hd] at e
      have hx : x p ≤ 57 := by unfold dgB at hd; simp at hd; exact hd.2.2
      have hv : v.getD 0 < 10 ^ m := by
        cases v with
        | none => exact Nat.pow_pos (by decide)
        | some a => exact h a rfl
      have := rd_lt r (p + 1) (m + 1) (some (v.getD 0 * 10 + (x p - 48))) (fun k' e' => by cases e'; rw [Nat.pow_succ]; omega) k e
      rwa [show m + 1 + r = m + (r + 1) by omega] at this
    | false =>
      rw [hd] at e
      have := h k e
      exact Nat.lt_of_lt_of_le this (Nat.pow_le_pow_right (by decide) (by omega))
set_option maxHeartbeats 4000000 in
set_option maxRecDepth 100000 in
theorem c_X0_takes {S : ST} {E : ET} {g : Nat → va_E} {q L p : Nat} {x : Nat → Nat} (hq : Ce E g q (.inr (0, [.ref (E.1 (q + 1)), .int (nI L), .int (nI p)]))) (hx : Ce E g (q + 1) (xB S 60 (fun k => nI (x k)))) (hL : L ≤ 60) (hp : p ≤ L) (h128 : ∀ k, x k < 128) (c : Nat) (hc : c < 128) : CtI S E yX0_takes cX0_takes 2 (Option.some FieldType.boolean) rmX0_takes [.ref (E.1 q), .int (nI c)] g (fun v g' => v = b2i (tkB L x c p) ∧ g' = va_up g q (.inr (0, [.ref (E.1 (q + 1)), .int (nI L), .int (nI (tkP L x c p))]))) := by
  refine Ct.of RX0 (by decide +kernel) rfl (Nat.le_of_ble_eq_true rfl) (fun M C Z => ?_)
  refine G.eq (pc' := 0) (vs' := [some (.ref (E.1 q)), some (.int (nI c))]) (st' := []) ?_
  refine r_aload_n (pc := 0) C dX0_takes_0 rfl ?_
  refine r_getf (pc := 1) C dX0_takes_1 fl_RX0_19 hq rfl ?_
  refine r_aload_n (pc := 4) C dX0_takes_4 rfl ?_
  refine r_getf (pc := 5) C dX0_takes_5 fl_RX0_15 hq rfl ?_
  refine r_icmp_ge (pc := 8) (tgt := 36) C dX0_takes_8 (by decide) (fun h8 => ?_) (fun h8 => ?_)
  · have h8 := c_le (by omega) (by omega) h8
    have h8n : ¬ p < L := by omega
    refine r_iconst (pc := 36) (v := nI 0) C dX0_takes_36 (by decide +kernel) ?_
    refine G.heap (Ce.id hq) ?_
    refine G.heap (show (va_up g q (.inr (0, [.ref (E.1 (q + 1)), .int (nI L), .int (nI p)]))) = (va_up g q (.inr (0, [.ref (E.1 (q + 1)), .int (nI L), .int (nI (tkP L x c p))]))) from by rw [show tkP L x c p = p by unfold tkP tkB; simp [h8n]]) ?_
    exact r_iret (pc := 37) C Z dX0_takes_37 rfl (⟨by rw [show tkB L x c p = false by unfold tkB; simp [h8n]]; rfl, rfl⟩)
  · have h8 := c_nle (by omega) (by omega) h8
    have hxp := h128 p
    refine r_aload_n (pc := 11) C dX0_takes_11 rfl ?_
    refine r_getf (pc := 12) C dX0_takes_12 fl_RX0_9 hq rfl ?_
    refine r_aload_n (pc := 15) C dX0_takes_15 rfl ?_
    refine r_getf (pc := 16) C dX0_takes_16 fl_RX0_19 hq rfl ?_
    refine r_bald (pc := 19) C dX0_takes_19 hx rfl (by omega) (by omega) ?_
    refine r_ti (nI (x p)) rfl ?_
    refine r_iload_n (pc := 20) C dX0_takes_20 rfl ?_
    refine r_icmp_ne (pc := 21) (tgt := 36) C dX0_takes_21 (by decide) (fun h21 => ?_) (fun h21 => ?_)
    · have h21 := c_ne (by omega) (by omega) h21
      refine r_iconst (pc := 36) (v := nI 0) C dX0_takes_36 (by decide +kernel) ?_
      refine G.heap (Ce.id hq) ?_
      refine G.heap (show (va_up g q (.inr (0, [.ref (E.1 (q + 1)), .int (nI L), .int (nI p)]))) = (va_up g q (.inr (0, [.ref (E.1 (q + 1)), .int (nI L), .int (nI (tkP L x c p))]))) from by rw [show tkP L x c p = p by unfold tkP tkB; simp [h21]]) ?_
      exact r_iret (pc := 37) C Z dX0_takes_37 rfl (⟨by rw [show tkB L x c p = false by unfold tkB; simp [h21]]; rfl, rfl⟩)
    · have h21 := c_eq (by omega) (by omega) h21
      refine r_aload_n (pc := 24) C dX0_takes_24 rfl ?_
      refine r_dup (pc := 25) C dX0_takes_25 rfl ?_
      refine r_getf (pc := 26) C dX0_takes_26 fl_RX0_19 hq rfl ?_
      refine r_iconst (pc := 29) (v := nI 1) C dX0_takes_29 (by decide +kernel) ?_
      refine r_iadd (pc := 30) C dX0_takes_30 ?_
      refine r_ti (nI (p + 1)) (nI_add _ _) ?_
      refine r_putf (pc := 31) C dX0_takes_31 fp_RX0_19 hq rfl rfl (Nat.le_of_ble_eq_true rfl) ?_
      refine G.heap (show (va_up g q (.inr (0, [.ref (E.1 (q + 1)), .int (nI L), .int (nI (p + 1))]))) = (va_up g q (.inr (0, [.ref (E.1 (q + 1)), .int (nI L), .int (nI (tkP L x c p))]))) from by rw [show tkP L x c p = p + 1 by unfold tkP tkB; simp [h8, h21]]) ?_
      refine r_iconst (pc := 34) (v := nI 1) C dX0_takes_34 (by decide +kernel) ?_
      exact r_iret (pc := 35) C Z dX0_takes_35 rfl (⟨by rw [show tkB L x c p = true by unfold tkB; simp [h8, h21]]; rfl, rfl⟩)
theorem dg_lo {a : Nat} (ha : a < 128) (h : nI a - nI 48 < 0) : a < 48 := by
  have e : (nI a - nI 48).toInt = (a : Int) - 48 := pk_sub_toInt (by omega) (by decide)
  rw [Int32.lt_iff_toInt_lt, e, Int32.toInt_zero] at h
  omega
theorem dg_nlo {a : Nat} (ha : a < 128) (h : ¬ nI a - nI 48 < 0) : 48 ≤ a := by
  have e : (nI a - nI 48).toInt = (a : Int) - 48 := pk_sub_toInt (by omega) (by decide)
  rw [Int32.lt_iff_toInt_lt, e, Int32.toInt_zero] at h
  omega
theorem dg_hi {a : Nat} (ha : a < 128) (h0 : 48 ≤ a) (h : nI a - nI 48 ≤ nI 9) : a ≤ 57 := by
  rw [pk_sub h0] at h
  have := c_le (by omega) (by decide) h
  omega
theorem dg_nhi {a : Nat} (ha : a < 128) (h0 : 48 ≤ a) (h : ¬ nI a - nI 48 ≤ nI 9) : 57 < a := by
  rw [pk_sub h0] at h
  have := c_nle (by omega) (by decide) h
  omega
theorem gd_lt {v : Option Nat} {m : Nat} (h : ∀ k, v = some k → k < 10 ^ m) : v.getD 0 < 10 ^ m := by
  cases v with
  | none => exact Nat.pow_pos (by decide)
  | some a => exact h a rfl
theorem mx_oI (v : Option Nat) (h : v.getD 0 < 2 ^ 31) : maxI (oI v) (nI 0) = nI (v.getD 0) := by
  cases v with
  | none => decide +kernel
  | some a =>
    show (if nI a < nI 0 then nI 0 else nI a) = nI a
    rw [if_neg (nI_nlt (Nat.zero_le a) h)]
set_option maxHeartbeats 4000000 in
set_option maxRecDepth 100000 in
theorem c_X0_readDigits {S : ST} {E : ET} {g : Nat → va_E} {q L p : Nat} {x : Nat → Nat} (hq : Ce E g q (.inr (0, [.ref (E.1 (q + 1)), .int (nI L), .int (nI p)]))) (hx : Ce E g (q + 1) (xB S 60 (fun k => nI (x k)))) (hL : L ≤ 60) (hp : p ≤ L) (h128 : ∀ k, x k < 128) (m : Nat) (hm : m ≤ 4) : CtI S E yX0_readDigits cX0_readDigits 5 (Option.some FieldType.int) rmX0_readDigits [.ref (E.1 q), .int (nI m)] g (fun v g' => v = oI (rd L x m p none).1 ∧ g' = va_up g q (.inr (0, [.ref (E.1 (q + 1)), .int (nI L), .int (nI ((rd L x m p none).2))]))) := by
  refine Ct.of RX0 (by decide +kernel) rfl (Nat.le_of_ble_eq_true rfl) (fun M C Z => ?_)
  refine G.eq (pc' := 0) (vs' := [some (.ref (E.1 q)), some (.int (nI m)), none, none, none]) (st' := []) ?_
  refine r_iconst (pc := 0) (v := (-1)) C dX0_readDigits_0 (by decide +kernel) ?_
  refine r_istore_n (pc := 1) C dX0_readDigits_1 (by decide) ?_
  refine G.eq (pc' := 2) (vs' := [some (.ref (E.1 q)), some (.int (nI m)), some (.int (-1)), none, none]) (st' := []) ?_
  refine r_iconst (pc := 2) (v := nI 0) C dX0_readDigits_2 (by decide +kernel) ?_
  refine r_istore_n (pc := 3) C dX0_readDigits_3 (by decide) ?_
  refine G.eq (pc' := 4) (vs' := [some (.ref (E.1 q)), some (.int (nI m)), some (.int (-1)), some (.int (nI 0)), none]) (st' := []) ?_
  refine G.heap (Ce.id hq) ?_
  refine bkr (P := fun t r => ∀ (v : Option Nat) (p1 : Nat), p1 ≤ L → (∀ k, v = some k → k < 10 ^ t) → rd L x m p none = rd L x r p1 v → G M S E (0, 0) (va_up g q (.inr (0, [.ref (E.1 (q + 1)), .int (nI L), .int (nI p1)]))) 4 [some (.ref (E.1 q)), some (.int (nI m)), some (.int (oI v)), some (.int (nI t)), none] []) (N := m) (fun v p1 hp1 hv he => ?_) (fun t r htr ih v p1 hp1 hv he => ?_) none p hp (fun k h => by cases h) rfl
  · show G M S E (0, 0) (va_up g q (.inr (0, [.ref (E.1 (q + 1)), .int (nI L), .int (nI p1)]))) 4 [some (.ref (E.1 q)), some (.int (nI m)), some (.int (oI v)), some (.int (nI m)), none] []
    refine r_iload_n (pc := 4) C dX0_readDigits_4 rfl ?_
    refine r_iload_n (pc := 5) C dX0_readDigits_5 rfl ?_
    refine r_icmp_ge (pc := 6) (tgt := 76) C dX0_readDigits_6 (by decide) (fun h6 => ?_) (fun h6 => ?_)
    · have h6 := c_le (by omega) (by omega) h6
      refine r_iload_n (pc := 76) C dX0_readDigits_76 rfl ?_
      exact r_iret (pc := 77) C Z dX0_readDigits_77 rfl (⟨by rw [he]; rfl, by rw [he]; rfl⟩)
    · have h6 := c_nle (by omega) (by omega) h6
      omega
  · show G M S E (0, 0) (va_up g q (.inr (0, [.ref (E.1 (q + 1)), .int (nI L), .int (nI p1)]))) 4 [some (.ref (E.1 q)), some (.int (nI m)), some (.int (oI v)), some (.int (nI t)), none] []
    refine r_iload_n (pc := 4) C dX0_readDigits_4 rfl ?_
    refine r_iload_n (pc := 5) C dX0_readDigits_5 rfl ?_
    refine r_icmp_ge (pc := 6) (tgt := 76) C dX0_readDigits_6 (by decide) (fun h6 => ?_) (fun h6 => ?_)
    · have h6 := c_le (by omega) (by omega) h6
      omega
    · have h6 := c_nle (by omega) (by omega) h6
      refine r_aload_n (pc := 9) C dX0_readDigits_9 rfl ?_
      refine r_getf (pc := 10) C dX0_readDigits_10 fl_RX0_19 (Ce.new hq) rfl ?_
      refine r_aload_n (pc := 13) C dX0_readDigits_13 rfl ?_
      refine r_getf (pc := 14) C dX0_readDigits_14 fl_RX0_15 (Ce.new hq) rfl ?_
      refine r_icmp_ge (pc := 17) (tgt := 76) C dX0_readDigits_17 (by decide) (fun h17 => ?_) (fun h17 => ?_)
      · have h17 := c_le (by omega) (by omega) h17
        have h17n : ¬ p1 < L := by omega
        refine r_iload_n (pc := 76) C dX0_readDigits_76 rfl ?_
        exact r_iret (pc := 77) C Z dX0_readDigits_77 rfl (⟨by rw [he]; unfold rd; rw [show dgB L x p1 = false by unfold dgB; simp [h17n]]; rfl, by rw [he]; unfold rd; rw [show dgB L x p1 = false by unfold dgB; simp [h17n]]; rfl⟩)
      · have h17 := c_nle (by omega) (by omega) h17
        have hxp := h128 p1
        refine r_aload_n (pc := 20) C dX0_readDigits_20 rfl ?_
        refine r_getf (pc := 21) C dX0_readDigits_21 fl_RX0_9 (Ce.new hq) rfl ?_
        refine r_aload_n (pc := 24) C dX0_readDigits_24 rfl ?_
        refine r_getf (pc := 25) C dX0_readDigits_25 fl_RX0_19 (Ce.new hq) rfl ?_
        refine r_bald (pc := 28) C dX0_readDigits_28 (Ce.up hx (by omega)) rfl (by omega) (by omega) ?_
        refine r_ti (nI (x p1)) rfl ?_
        refine r_bipush (pc := 29) (v := nI 48) C dX0_readDigits_29 (by decide +kernel) ?_
        refine r_isub (pc := 31) C dX0_readDigits_31 ?_
        refine r_istore (pc := 32) C dX0_readDigits_32 (by decide) ?_
        refine G.eq (pc' := 34) (vs' := [some (.ref (E.1 q)), some (.int (nI m)), some (.int (oI v)), some (.int (nI t)), some (.int ((nI (x p1)) - (nI 48)))]) (st' := []) ?_
        refine r_iload (pc := 34) C dX0_readDigits_34 rfl ?_
        refine r_if_lt (pc := 36) (tgt := 46) C dX0_readDigits_36 (by decide) (fun h36 => ?_) (fun h36 => ?_)
        · have hlo := dg_lo hxp h36
          refine r_iload_n (pc := 46) C dX0_readDigits_46 rfl ?_
          exact r_iret (pc := 47) C Z dX0_readDigits_47 rfl (⟨by rw [he]; unfold rd; rw [show dgB L x p1 = false by unfold dgB; simp; intro _ h; omega]; rfl, by rw [he]; unfold rd; rw [show dgB L x p1 = false by unfold dgB; simp; intro _ h; omega]; rfl⟩)
        · have hlo := dg_nlo hxp h36
          refine r_iload (pc := 39) C dX0_readDigits_39 rfl ?_
          refine r_bipush (pc := 41) (v := nI 9) C dX0_readDigits_41 (by decide +kernel) ?_
          refine r_icmp_le (pc := 43) (tgt := 48) C dX0_readDigits_43 (by decide) (fun h43 => ?_) (fun h43 => ?_)
          · have hhi := dg_hi hxp hlo h43
            have hv2 : v.getD 0 < 10 ^ t := gd_lt hv
            have hpw : 10 ^ t ≤ 10 ^ 9 := Nat.pow_le_pow_right (by decide) (by omega)
            refine r_iload_n (pc := 48) C dX0_readDigits_48 rfl ?_
            refine r_iconst (pc := 49) (v := nI 0) C dX0_readDigits_49 (by decide +kernel) ?_
            refine r_mmax (pc := 50) C dX0_readDigits_50 qM_RX0_52 (by decide) (Nat.le_of_ble_eq_true rfl) ⟨Nat.zero_le _, Nat.zero_le _⟩ ?_
            refine r_ti (nI (v.getD 0)) (mx_oI v (by omega)) ?_
            refine r_bipush (pc := 53) (v := nI 10) C dX0_readDigits_53 (by decide +kernel) ?_
            refine r_imul (pc := 55) C dX0_readDigits_55 ?_
            refine r_ti (nI ((v.getD 0) * 10)) (pk_mul _ _) ?_
            refine r_iload (pc := 56) C dX0_readDigits_56 rfl ?_
            rw [pk_sub hlo]
            refine r_iadd (pc := 58) C dX0_readDigits_58 ?_
            refine r_ti (nI ((v.getD 0) * 10 + (x p1 - 48))) (nI_add _ _) ?_
            refine r_istore_n (pc := 59) C dX0_readDigits_59 (by decide) ?_
            refine G.eq (pc' := 60) (vs' := [some (.ref (E.1 q)), some (.int (nI m)), some (.int (nI ((v.getD 0) * 10 + (x p1 - 48)))), some (.int (nI t)), some (.int (nI (x p1 - 48)))]) (st' := []) ?_
            refine r_aload_n (pc := 60) C dX0_readDigits_60 rfl ?_
            refine r_dup (pc := 61) C dX0_readDigits_61 rfl ?_
            refine r_getf (pc := 62) C dX0_readDigits_62 fl_RX0_19 (Ce.new hq) rfl ?_
            refine r_iconst (pc := 65) (v := nI 1) C dX0_readDigits_65 (by decide +kernel) ?_
            refine r_iadd (pc := 66) C dX0_readDigits_66 ?_
            refine r_ti (nI (p1 + 1)) (nI_add _ _) ?_
            refine r_putf2 (pc := 67) C dX0_readDigits_67 fp_RX0_19 hq.1 rfl rfl (Nat.le_of_ble_eq_true rfl) ?_
            refine r_iinc (pc := 70) (v := nI (t + 1)) C dX0_readDigits_70 rfl (nI_i1 _) (by decide) ?_
            refine G.eq (pc' := 73) (vs' := [some (.ref (E.1 q)), some (.int (nI m)), some (.int (nI ((v.getD 0) * 10 + (x p1 - 48)))), some (.int (nI (t + 1))), some (.int (nI (x p1 - 48)))]) (st' := []) ?_
            refine r_goto (pc := 73) (tgt := 4) C dX0_readDigits_73 (by decide) ?_
            refine G.wk (vs' := [some (.ref (E.1 q)), some (.int (nI m)), some (.int (nI ((v.getD 0) * 10 + (x p1 - 48)))), some (.int (nI (t + 1))), none]) ⟨rfl, rfl, rfl, rfl, trivial⟩ ?_
            exact (ih (some (v.getD 0 * 10 + (x p1 - 48))) (p1 + 1) h17 (fun k e => by cases e; rw [Nat.pow_succ]; omega) (by rw [he, rd, dgB_t h17 hlo hhi]; rfl))
          · have hhi := dg_nhi hxp hlo h43
            refine r_iload_n (pc := 46) C dX0_readDigits_46 rfl ?_
            exact r_iret (pc := 47) C Z dX0_readDigits_47 rfl (⟨by rw [he]; unfold rd; rw [show dgB L x p1 = false by unfold dgB; simp; intro _ _; omega]; rfl, by rw [he]; unfold rd; rw [show dgB L x p1 = false by unfold dgB; simp; intro _ _; omega]; rfl⟩)
theorem tkP_t {L c p : Nat} {x : Nat → Nat} (h : tkB L x c p = true) : tkP L x c p = p + 1 := by unfold tkP; rw [h]; rfl
theorem tkP_f {L c p : Nat} {x : Nat → Nat} (h : tkB L x c p = false) : tkP L x c p = p := by unfold tkP; rw [h]; rfl
theorem tkB_lt {L c p : Nat} {x : Nat → Nat} (h : tkB L x c p = true) : p < L := by unfold tkB at h; simp at h; exact h.1
theorem tkP_le {L c p : Nat} {x : Nat → Nat} (h : p ≤ L) : tkP L x c p ≤ L := by
  cases e : tkB L x c p with
  | true => rw [tkP_t e]; exact tkB_lt e
  | false => rw [tkP_f e]; exact h
theorem ex_le {L p : Nat} {x : Nat → Nat} (h : p ≤ L) : p ≤ (ex L x p).2 ∧ (ex L x p).2 ≤ L := by
  unfold ex
  cases e : tkB L x 94 p with
  | true =>
    have := rd_le (x := x) 2 (p + 1) none (tkB_lt e)
    simp only [cond_true]
    omega
  | false => exact ⟨Nat.le_refl _, h⟩
theorem ex_lt {L p : Nat} {x : Nat → Nat} {k : Nat} (h : (ex L x p).1 = some k) : k < 100 := by
  unfold ex at h
  cases e : tkB L x 94 p with
  | true => rw [e] at h; exact rd_lt (L := L) (x := x) 2 (p + 1) 0 none (fun k h => by cases h) k h
  | false => rw [e] at h; cases h; decide
theorem oI_ge {v : Option Nat} (h : 0 ≤ oI v) : ∃ k, v = some k := by
  cases v with
  | none => exact absurd h (by decide)
  | some k => exact ⟨k, rfl⟩
theorem oI_nge {v : Option Nat} (h : ¬ 0 ≤ oI v) (hv : ∀ k, v = some k → k < 2 ^ 31) : v = none := by
  cases v with
  | none => rfl
  | some k => exact absurd (nI_pos' (hv k rfl)) h
theorem rt_le {L p : Nat} {x : Nat → Nat} (h : p ≤ L) : p ≤ (rt L x p).2 ∧ (rt L x p).2 ≤ L := by
  have h1 := rd_le (x := x) 4 p none h
  unfold rt
  cases e : tkB L x 113 (rd L x 4 p none).2 with
  | true =>
    have h2 := ex_le (x := x) (p := (rd L x 4 p none).2 + 1) (L := L) (tkB_lt e)
    simp only [cond_true]
    unfold rt1
    split <;> (simp only; omega)
  | false =>
    simp only [cond_false]
    unfold rt1
    split <;> (simp only; omega)
/-- what a term adds -/
def rtC (N : Nat) (neg : Bool) (o : Option (Nat × Nat)) (c : Nat → Int64) : Nat → Int64 := match o with
  | none => c
  | some q => plT N q.1 (sgI neg q.2) c
set_option maxHeartbeats 4000000 in
set_option maxRecDepth 100000 in
theorem c_X0_readExponent {S : ST} {E : ET} {g : Nat → va_E} {q L p : Nat} {x : Nat → Nat} (hq : Ce E g q (.inr (0, [.ref (E.1 (q + 1)), .int (nI L), .int (nI p)]))) (hx : Ce E g (q + 1) (xB S 60 (fun k => nI (x k)))) (hL : L ≤ 60) (hp : p ≤ L) (h128 : ∀ k, x k < 128) : CtI S E yX0_readExponent cX0_readExponent 1 (Option.some FieldType.int) rmX0_readExponent [.ref (E.1 q)] g (fun v g' => v = oI (ex L x p).1 ∧ g' = va_up g q (.inr (0, [.ref (E.1 (q + 1)), .int (nI L), .int (nI ((ex L x p).2))]))) := by
  refine Ct.of RX0 (by decide +kernel) rfl (Nat.le_of_ble_eq_true rfl) (fun M C Z => ?_)
  refine G.eq (pc' := 0) (vs' := [some (.ref (E.1 q))]) (st' := []) ?_
  refine r_aload_n (pc := 0) C dX0_readExponent_0 rfl ?_
  refine r_bipush (pc := 1) (v := nI 94) C dX0_readExponent_1 (by decide +kernel) ?_
  refine r_callV (pc := 3) C dX0_readExponent_3 cv_RX0_31 (c_X0_takes hq hx hL (by omega) h128 94 (by decide)) ⟨rfl, rfl, by decide, by decide⟩ hq rfl rfl (Nat.le_of_ble_eq_true rfl) ⟨Nat.zero_le _, Nat.zero_le _⟩ ?_
  rintro _ _ ⟨r, rfl, rfl, rfl⟩
  show G M S E (0, 0) (va_up g q (.inr (0, [.ref (E.1 (q + 1)), .int (nI L), .int (nI (tkP L x 94 p))]))) 6 [some (.ref (E.1 q))] [.int (b2i (tkB L x 94 p))]
  refine r_if_eq (pc := 6) (tgt := 17) C dX0_readExponent_6 (by decide) (fun h6 => ?_) (fun h6 => ?_)
  · have h6 := b_f h6
    refine G.heap (show (va_up g q (.inr (0, [.ref (E.1 (q + 1)), .int (nI L), .int (nI (tkP L x 94 p))]))) = (va_up g q (.inr (0, [.ref (E.1 (q + 1)), .int (nI L), .int (nI ((ex L x p).2))]))) from by rw [tkP_f h6, show ex L x p = (some 1, p) by unfold ex; rw [h6]; rfl]) ?_
    refine r_iconst (pc := 17) (v := nI 1) C dX0_readExponent_17 (by decide +kernel) ?_
    exact r_iret (pc := 18) C Z dX0_readExponent_18 rfl (⟨by rw [show ex L x p = (some 1, p) by unfold ex; rw [h6]; rfl]; rfl, rfl⟩)
  · have h6 := b_t h6
    refine G.heap (show (va_up g q (.inr (0, [.ref (E.1 (q + 1)), .int (nI L), .int (nI (tkP L x 94 p))]))) = (va_up g q (.inr (0, [.ref (E.1 (q + 1)), .int (nI L), .int (nI (p + 1))]))) from by rw [tkP_t h6]) ?_
    have hlt := tkB_lt h6
    refine r_aload_n (pc := 9) C dX0_readExponent_9 rfl ?_
    refine r_iconst (pc := 10) (v := nI 2) C dX0_readExponent_10 (by decide +kernel) ?_
    refine r_callV (pc := 11) C dX0_readExponent_11 cv_RX0_39 (c_X0_readDigits (Ce.new hq) (Ce.up hx (by omega)) hL (by omega) h128 2 (by decide)) ⟨rfl, rfl, by decide, by decide⟩ (Ce.new hq) rfl rfl (Nat.le_of_ble_eq_true rfl) ⟨Nat.zero_le _, Nat.zero_le _⟩ ?_
    rintro _ _ ⟨r, rfl, rfl, rfl⟩
    rw [bx_uu]
    show G M S E (0, 0) (va_up g q (.inr (0, [.ref (E.1 (q + 1)), .int (nI L), .int (nI ((rd L x 2 (p + 1) none).2))]))) 14 [some (.ref (E.1 q))] [.int (oI (rd L x 2 (p + 1) none).1)]
    refine r_goto (pc := 14) (tgt := 18) C dX0_readExponent_14 (by decide) ?_
    exact r_iret (pc := 18) C Z dX0_readExponent_18 rfl (⟨by rw [show ex L x p = rd L x 2 (p + 1) none by unfold ex; rw [h6]; rfl], by rw [show ex L x p = rd L x 2 (p + 1) none by unfold ex; rw [h6]; rfl]⟩)
set_option maxHeartbeats 4000000 in
set_option maxRecDepth 100000 in
theorem c_X0_readTerm {S : ST} {E : ET} {g : Nat → va_E} {q L p : Nat} {x : Nat → Nat} (hq : Ce E g q (.inr (0, [.ref (E.1 (q + 1)), .int (nI L), .int (nI p)]))) (hx : Ce E g (q + 1) (xB S 60 (fun k => nI (x k)))) (hL : L ≤ 60) (hp : p ≤ L) (h128 : ∀ k, x k < 128) {iw ic N : Nat} {c : Nat → Int64} (hw : Ce E g iw (.inr (6, [.ref (E.1 ic), .int (nI N)]))) (hc : Ce E g ic (xJ S 24 c)) (hN : N ≤ 24) (hne : iw ≠ ic) (d1 : q ≠ iw) (d2 : q ≠ ic) (d3 : q + 1 ≠ iw) (d4 : q + 1 ≠ ic) (neg : Bool) : CtI S E yX0_readTerm cX0_readTerm 6 (Option.some FieldType.boolean) rmX0_readTerm [.ref (E.1 q), .ref (E.1 iw), .int (b2i neg)] g (fun v g' => v = b2i (rt L x p).1.isSome ∧ g' = va_up (va_up g q (.inr (0, [.ref (E.1 (q + 1)), .int (nI L), .int (nI ((rt L x p).2))]))) ic (xJ S 24 (rtC N neg (rt L x p).1 c))) := by
  refine Ct.of RX0 (by decide +kernel) rfl (Nat.le_of_ble_eq_true rfl) (fun M C Z => ?_)
  refine G.eq (pc' := 0) (vs' := [some (.ref (E.1 q)), some (.ref (E.1 iw)), some (.int (b2i neg)), none, none, none]) (st' := []) ?_
  have h1le := rd_le (x := x) 4 p none hp
  have h1lt := rd_lt (L := L) (x := x) 4 p 0 none (fun k h => by cases h)
  have K40 : ∀ (a : Option Nat) (w2 P2 : Nat), w2 < 100 → (∀ k, a = some k → k < 10 ^ 4) → rt L x p = (some (w2, a.getD 1), P2) → G M S E (0, 0) (va_up g q (.inr (0, [.ref (E.1 (q + 1)), .int (nI L), .int (nI P2)]))) 40 [some (.ref (E.1 q)), some (.ref (E.1 iw)), some (.int (b2i neg)), some (.int (oI a)), some (.int (nI w2)), none] [] := by
    intro a w2 P2 hw2 ha hres
    refine r_iload_n (pc := 40) C dX0_readTerm_40 rfl ?_
    refine r_if_ge (pc := 41) (tgt := 48) C dX0_readTerm_41 (by decide) (fun h41 => ?_) (fun h41 => ?_)
    · obtain ⟨k, rfl⟩ := oI_ge h41
      have hk := ha k rfl
      refine r_iload_n (pc := 48) C dX0_readTerm_48 rfl ?_
      refine r_ti (nI ((some k).getD 1)) rfl ?_
      refine r_istore (pc := 49) C dX0_readTerm_49 (by decide) ?_
      refine G.eq (pc' := 51) (vs' := [some (.ref (E.1 q)), some (.ref (E.1 iw)), some (.int (b2i neg)), some (.int (oI (some k))), some (.int (nI w2)), some (.int (nI ((some k).getD 1)))]) (st' := []) ?_
      refine r_aload_n (pc := 51) C dX0_readTerm_51 rfl ?_
      refine r_iload (pc := 52) C dX0_readTerm_52 rfl ?_
      refine r_iload_n (pc := 54) C dX0_readTerm_54 rfl ?_
      refine r_if_eq (pc := 55) (tgt := 64) C dX0_readTerm_55 (by decide) (fun h55 => ?_) (fun h55 => ?_)
      · have h55 := b_f h55
        refine r_iload (pc := 64) C dX0_readTerm_64 rfl ?_
        refine r_ti (sgI neg ((some k).getD 1)) (by rw [h55]; rfl) ?_
        refine r_callV (pc := 66) C dX0_readTerm_66 cv_RX0_46 (c_X6_plusTerm (Ce.up hw (by omega)) (Ce.up hc (by omega)) hN hne w2 (by omega) (sgI neg ((some k).getD 1))) ⟨rfl, rfl, by decide, by decide⟩ (Ce.up hw (by omega)) rfl rfl (Nat.le_of_ble_eq_true rfl) ⟨Nat.zero_le _, Nat.zero_le _⟩ ?_
        rintro _ _ ⟨rfl, rfl⟩
        show G M S E (0, 0) (va_up (va_up g q (.inr (0, [.ref (E.1 (q + 1)), .int (nI L), .int (nI P2)]))) ic (xJ S 24 (plT N w2 (sgI neg ((some k).getD 1)) c))) 69 [some (.ref (E.1 q)), some (.ref (E.1 iw)), some (.int (b2i neg)), some (.int (oI (some k))), some (.int (nI w2)), some (.int (nI ((some k).getD 1)))] []
        refine r_iconst (pc := 69) (v := nI 1) C dX0_readTerm_69 (by decide +kernel) ?_
        exact r_iret (pc := 70) C Z dX0_readTerm_70 rfl (⟨by rw [hres]; rfl, by rw [hres]; rfl⟩)
      · have h55 := b_t h55
        refine r_iload (pc := 58) C dX0_readTerm_58 rfl ?_
        refine r_ineg (pc := 60) C dX0_readTerm_60 ?_
        refine r_goto (pc := 61) (tgt := 66) C dX0_readTerm_61 (by decide) ?_
        refine r_ti (sgI neg ((some k).getD 1)) (by rw [h55]; rfl) ?_
        refine r_callV (pc := 66) C dX0_readTerm_66 cv_RX0_46 (c_X6_plusTerm (Ce.up hw (by omega)) (Ce.up hc (by omega)) hN hne w2 (by omega) (sgI neg ((some k).getD 1))) ⟨rfl, rfl, by decide, by decide⟩ (Ce.up hw (by omega)) rfl rfl (Nat.le_of_ble_eq_true rfl) ⟨Nat.zero_le _, Nat.zero_le _⟩ ?_
        rintro _ _ ⟨rfl, rfl⟩
        show G M S E (0, 0) (va_up (va_up g q (.inr (0, [.ref (E.1 (q + 1)), .int (nI L), .int (nI P2)]))) ic (xJ S 24 (plT N w2 (sgI neg ((some k).getD 1)) c))) 69 [some (.ref (E.1 q)), some (.ref (E.1 iw)), some (.int (b2i neg)), some (.int (oI (some k))), some (.int (nI w2)), some (.int (nI ((some k).getD 1)))] []
        refine r_iconst (pc := 69) (v := nI 1) C dX0_readTerm_69 (by decide +kernel) ?_
        exact r_iret (pc := 70) C Z dX0_readTerm_70 rfl (⟨by rw [hres]; rfl, by rw [hres]; rfl⟩)
    · have hn := oI_nge h41 (fun k h => Nat.lt_trans (ha k h) (by decide))
      subst hn
      refine r_iconst (pc := 44) (v := nI 1) C dX0_readTerm_44 (by decide +kernel) ?_
      refine r_goto (pc := 45) (tgt := 49) C dX0_readTerm_45 (by decide) ?_
      refine r_ti (nI ((none : Option Nat).getD 1)) rfl ?_
      refine r_istore (pc := 49) C dX0_readTerm_49 (by decide) ?_
      refine G.eq (pc' := 51) (vs' := [some (.ref (E.1 q)), some (.ref (E.1 iw)), some (.int (b2i neg)), some (.int (oI (none : Option Nat))), some (.int (nI w2)), some (.int (nI ((none : Option Nat).getD 1)))]) (st' := []) ?_
      refine r_aload_n (pc := 51) C dX0_readTerm_51 rfl ?_
      refine r_iload (pc := 52) C dX0_readTerm_52 rfl ?_
      refine r_iload_n (pc := 54) C dX0_readTerm_54 rfl ?_
      refine r_if_eq (pc := 55) (tgt := 64) C dX0_readTerm_55 (by decide) (fun h55 => ?_) (fun h55 => ?_)
      · have h55 := b_f h55
        refine r_iload (pc := 64) C dX0_readTerm_64 rfl ?_
        refine r_ti (sgI neg ((none : Option Nat).getD 1)) (by rw [h55]; rfl) ?_
        refine r_callV (pc := 66) C dX0_readTerm_66 cv_RX0_46 (c_X6_plusTerm (Ce.up hw (by omega)) (Ce.up hc (by omega)) hN hne w2 (by omega) (sgI neg ((none : Option Nat).getD 1))) ⟨rfl, rfl, by decide, by decide⟩ (Ce.up hw (by omega)) rfl rfl (Nat.le_of_ble_eq_true rfl) ⟨Nat.zero_le _, Nat.zero_le _⟩ ?_
        rintro _ _ ⟨rfl, rfl⟩
        show G M S E (0, 0) (va_up (va_up g q (.inr (0, [.ref (E.1 (q + 1)), .int (nI L), .int (nI P2)]))) ic (xJ S 24 (plT N w2 (sgI neg ((none : Option Nat).getD 1)) c))) 69 [some (.ref (E.1 q)), some (.ref (E.1 iw)), some (.int (b2i neg)), some (.int (oI (none : Option Nat))), some (.int (nI w2)), some (.int (nI ((none : Option Nat).getD 1)))] []
        refine r_iconst (pc := 69) (v := nI 1) C dX0_readTerm_69 (by decide +kernel) ?_
        exact r_iret (pc := 70) C Z dX0_readTerm_70 rfl (⟨by rw [hres]; rfl, by rw [hres]; rfl⟩)
      · have h55 := b_t h55
        refine r_iload (pc := 58) C dX0_readTerm_58 rfl ?_
        refine r_ineg (pc := 60) C dX0_readTerm_60 ?_
        refine r_goto (pc := 61) (tgt := 66) C dX0_readTerm_61 (by decide) ?_
        refine r_ti (sgI neg ((none : Option Nat).getD 1)) (by rw [h55]; rfl) ?_
        refine r_callV (pc := 66) C dX0_readTerm_66 cv_RX0_46 (c_X6_plusTerm (Ce.up hw (by omega)) (Ce.up hc (by omega)) hN hne w2 (by omega) (sgI neg ((none : Option Nat).getD 1))) ⟨rfl, rfl, by decide, by decide⟩ (Ce.up hw (by omega)) rfl rfl (Nat.le_of_ble_eq_true rfl) ⟨Nat.zero_le _, Nat.zero_le _⟩ ?_
        rintro _ _ ⟨rfl, rfl⟩
        show G M S E (0, 0) (va_up (va_up g q (.inr (0, [.ref (E.1 (q + 1)), .int (nI L), .int (nI P2)]))) ic (xJ S 24 (plT N w2 (sgI neg ((none : Option Nat).getD 1)) c))) 69 [some (.ref (E.1 q)), some (.ref (E.1 iw)), some (.int (b2i neg)), some (.int (oI (none : Option Nat))), some (.int (nI w2)), some (.int (nI ((none : Option Nat).getD 1)))] []
        refine r_iconst (pc := 69) (v := nI 1) C dX0_readTerm_69 (by decide +kernel) ?_
        exact r_iret (pc := 70) C Z dX0_readTerm_70 rfl (⟨by rw [hres]; rfl, by rw [hres]; rfl⟩)
  refine r_aload_n (pc := 0) C dX0_readTerm_0 rfl ?_
  refine r_iconst (pc := 1) (v := nI 4) C dX0_readTerm_1 (by decide +kernel) ?_
  refine r_callV (pc := 2) C dX0_readTerm_2 cv_RX0_39 (c_X0_readDigits hq hx hL (by omega) h128 4 (by decide)) ⟨rfl, rfl, by decide, by decide⟩ hq rfl rfl (Nat.le_of_ble_eq_true rfl) ⟨Nat.zero_le _, Nat.zero_le _⟩ ?_
  rintro _ _ ⟨r, rfl, rfl, rfl⟩
  show G M S E (0, 0) (va_up g q (.inr (0, [.ref (E.1 (q + 1)), .int (nI L), .int (nI ((rd L x 4 p none).2))]))) 5 [some (.ref (E.1 q)), some (.ref (E.1 iw)), some (.int (b2i neg)), none, none, none] [.int (oI (rd L x 4 p none).1)]
  refine r_istore_n (pc := 5) C dX0_readTerm_5 (by decide) ?_
  refine G.eq (pc' := 6) (vs' := [some (.ref (E.1 q)), some (.ref (E.1 iw)), some (.int (b2i neg)), some (.int (oI (rd L x 4 p none).1)), none, none]) (st' := []) ?_
  refine r_iconst (pc := 6) (v := nI 0) C dX0_readTerm_6 (by decide +kernel) ?_
  refine r_istore (pc := 7) C dX0_readTerm_7 (by decide) ?_
  refine G.eq (pc' := 9) (vs' := [some (.ref (E.1 q)), some (.ref (E.1 iw)), some (.int (b2i neg)), some (.int (oI (rd L x 4 p none).1)), some (.int (nI 0)), none]) (st' := []) ?_
  refine r_aload_n (pc := 9) C dX0_readTerm_9 rfl ?_
  refine r_bipush (pc := 10) (v := nI 113) C dX0_readTerm_10 (by decide +kernel) ?_
  refine r_callV (pc := 12) C dX0_readTerm_12 cv_RX0_31 (c_X0_takes (Ce.new hq) (Ce.up hx (by omega)) hL (by omega) h128 113 (by decide)) ⟨rfl, rfl, by decide, by decide⟩ (Ce.new hq) rfl rfl (Nat.le_of_ble_eq_true rfl) ⟨Nat.zero_le _, Nat.zero_le _⟩ ?_
  rintro _ _ ⟨r, rfl, rfl, rfl⟩
  rw [bx_uu]
  show G M S E (0, 0) (va_up g q (.inr (0, [.ref (E.1 (q + 1)), .int (nI L), .int (nI (tkP L x 113 ((rd L x 4 p none).2)))]))) 15 [some (.ref (E.1 q)), some (.ref (E.1 iw)), some (.int (b2i neg)), some (.int (oI (rd L x 4 p none).1)), some (.int (nI 0)), none] [.int (b2i (tkB L x 113 ((rd L x 4 p none).2)))]
  refine r_if_eq (pc := 15) (tgt := 27) C dX0_readTerm_15 (by decide) (fun h15 => ?_) (fun h15 => ?_)
  · have h15 := b_f h15
    refine G.heap (show (va_up g q (.inr (0, [.ref (E.1 (q + 1)), .int (nI L), .int (nI (tkP L x 113 ((rd L x 4 p none).2)))]))) = (va_up g q (.inr (0, [.ref (E.1 (q + 1)), .int (nI L), .int (nI ((rd L x 4 p none).2))]))) from by rw [tkP_f h15]) ?_
    refine r_iload_n (pc := 27) C dX0_readTerm_27 rfl ?_
    refine r_if_ge (pc := 28) (tgt := 33) C dX0_readTerm_28 (by decide) (fun h28 => ?_) (fun h28 => ?_)
    · obtain ⟨k, hk⟩ := oI_ge h28
      refine r_iload (pc := 33) C dX0_readTerm_33 rfl ?_
      refine r_if_ge (pc := 35) (tgt := 40) C dX0_readTerm_35 (by decide) (fun h35 => ?_) (fun h35 => ?_)
      · have h35 := z_ge (by omega) h35
        have hw0 := K40 (rd L x 4 p none).1 0 (rd L x 4 p none).2 (by decide) h1lt (by unfold rt; rw [h15, hk]; rfl)
        exact hw0
      · have h35 := z_nge (by omega) h35
        exact h35.elim
    · have hn := oI_nge h28 (fun k h => Nat.lt_trans (h1lt k h) (by decide))
      refine r_iconst (pc := 31) (v := nI 0) C dX0_readTerm_31 (by decide +kernel) ?_
      refine G.heap (Ce.id (Ce.up hc (by omega))) ?_
      refine G.heap (show (va_up (va_up g q (.inr (0, [.ref (E.1 (q + 1)), .int (nI L), .int (nI ((rd L x 4 p none).2))]))) ic (xJ S 24 c)) = (va_up (va_up g q (.inr (0, [.ref (E.1 (q + 1)), .int (nI L), .int (nI ((rt L x p).2))]))) ic (xJ S 24 (rtC N neg (rt L x p).1 c))) from by rw [show rt L x p = (none, (rd L x 4 p none).2) by unfold rt; rw [h15, hn]; rfl]; rfl) ?_
      exact r_iret (pc := 32) C Z dX0_readTerm_32 rfl (⟨by rw [show rt L x p = (none, (rd L x 4 p none).2) by unfold rt; rw [h15, hn]; rfl]; rfl, rfl⟩)
  · have h15 := b_t h15
    refine G.heap (show (va_up g q (.inr (0, [.ref (E.1 (q + 1)), .int (nI L), .int (nI (tkP L x 113 ((rd L x 4 p none).2)))]))) = (va_up g q (.inr (0, [.ref (E.1 (q + 1)), .int (nI L), .int (nI ((rd L x 4 p none).2 + 1))]))) from by rw [tkP_t h15]) ?_
    have hlt := tkB_lt h15
    have hex := ex_le (x := x) (p := (rd L x 4 p none).2 + 1) (L := L) hlt
    refine r_aload_n (pc := 18) C dX0_readTerm_18 rfl ?_
    refine r_callV (pc := 19) C dX0_readTerm_19 cv_RX0_43 (c_X0_readExponent (Ce.new hq) (Ce.up hx (by omega)) hL (by omega) h128) ⟨rfl, rfl, by decide, by decide⟩ (Ce.new hq) rfl rfl (Nat.le_of_ble_eq_true rfl) ⟨Nat.zero_le _, Nat.zero_le _⟩ ?_
    rintro _ _ ⟨r, rfl, rfl, rfl⟩
    rw [bx_uu]
    show G M S E (0, 0) (va_up g q (.inr (0, [.ref (E.1 (q + 1)), .int (nI L), .int (nI ((ex L x ((rd L x 4 p none).2 + 1)).2))]))) 22 [some (.ref (E.1 q)), some (.ref (E.1 iw)), some (.int (b2i neg)), some (.int (oI (rd L x 4 p none).1)), some (.int (nI 0)), none] [.int (oI (ex L x ((rd L x 4 p none).2 + 1)).1)]
    refine r_istore (pc := 22) C dX0_readTerm_22 (by decide) ?_
    refine G.eq (pc' := 24) (vs' := [some (.ref (E.1 q)), some (.ref (E.1 iw)), some (.int (b2i neg)), some (.int (oI (rd L x 4 p none).1)), some (.int (oI (ex L x ((rd L x 4 p none).2 + 1)).1)), none]) (st' := []) ?_
    refine r_goto (pc := 24) (tgt := 33) C dX0_readTerm_24 (by decide) ?_
    refine r_iload (pc := 33) C dX0_readTerm_33 rfl ?_
    refine r_if_ge (pc := 35) (tgt := 40) C dX0_readTerm_35 (by decide) (fun h35 => ?_) (fun h35 => ?_)
    · obtain ⟨k, hk⟩ := oI_ge h35
      have hk2 := ex_lt hk
      rw [hk]
      exact K40 (rd L x 4 p none).1 k (ex L x ((rd L x 4 p none).2 + 1)).2 hk2 h1lt (by unfold rt; rw [h15]; show rt1 (ex L x ((rd L x 4 p none).2 + 1)) _ = _; unfold rt1; rw [hk])
    · have hn := oI_nge h35 (fun k h => Nat.lt_trans (ex_lt h) (by decide))
      refine r_iconst (pc := 38) (v := nI 0) C dX0_readTerm_38 (by decide +kernel) ?_
      refine G.heap (Ce.id (Ce.up hc (by omega))) ?_
      refine G.heap (show (va_up (va_up g q (.inr (0, [.ref (E.1 (q + 1)), .int (nI L), .int (nI ((ex L x ((rd L x 4 p none).2 + 1)).2))]))) ic (xJ S 24 c)) = (va_up (va_up g q (.inr (0, [.ref (E.1 (q + 1)), .int (nI L), .int (nI ((rt L x p).2))]))) ic (xJ S 24 (rtC N neg (rt L x p).1 c))) from by rw [show rt L x p = (none, (ex L x ((rd L x 4 p none).2 + 1)).2) by unfold rt; rw [h15]; show rt1 (ex L x ((rd L x 4 p none).2 + 1)) _ = _; unfold rt1; rw [hn]]; rfl) ?_
      exact r_iret (pc := 39) C Z dX0_readTerm_39 rfl (⟨by rw [show rt L x p = (none, (ex L x ((rd L x 4 p none).2 + 1)).2) by unfold rt; rw [h15]; show rt1 (ex L x ((rd L x 4 p none).2 + 1)) _ = _; unfold rt1; rw [hn]]; rfl, rfl⟩)
/-- the rest of a series, with so many rounds; a series -/
abbrev RV : Type := Bool × Nat × (Nat → Int64)
def rs1 (rc : Nat → (Nat → Int64) → RV) (N : Nat) (neg : Bool) (o : Option (Nat × Nat) × Nat) (c : Nat → Int64) : RV := bif o.1.isSome then rc o.2 (rtC N neg o.1 c) else (false, o.2, rtC N neg o.1 c)
def rs (L : Nat) (x : Nat → Nat) (N : Nat) : Nat → Nat → (Nat → Int64) → RV
  | 0, p, c => (true, p, c)
  | r + 1, p, c => bif decide (p < L) then (bif tkB L x 45 p then rs1 (rs L x N r) N true (rt L x (p + 1)) c else bif tkB L x 43 p then rs1 (rs L x N r) N false (rt L x (p + 1)) c else (false, p, c)) else (true, p, c)
def rser (L : Nat) (x : Nat → Nat) (N : Nat) (c : Nat → Int64) : RV := rs1 (rs L x N 60) N (tkB L x 45 0) (rt L x (tkP L x 45 0)) c
set_option maxHeartbeats 4000000 in
set_option maxRecDepth 100000 in
theorem c_X0_readSeries {S : ST} {E : ET} {g : Nat → va_E} {q L p : Nat} {x : Nat → Nat} (hq : Ce E g q (.inr (0, [.ref (E.1 (q + 1)), .int (nI L), .int (nI p)]))) (hx : Ce E g (q + 1) (xB S 60 (fun k => nI (x k)))) (hL : L ≤ 60) (h128 : ∀ k, x k < 128) {iw ic N : Nat} {c : Nat → Int64} (hw : Ce E g iw (.inr (6, [.ref (E.1 ic), .int (nI N)]))) (hc : Ce E g ic (xJ S 24 c)) (hN : N ≤ 24) (hne : iw ≠ ic) (d1 : q ≠ iw) (d2 : q ≠ ic) (d3 : q + 1 ≠ iw) (d4 : q + 1 ≠ ic) : CtI S E yX0_readSeries cX0_readSeries 4 (Option.some FieldType.boolean) rmX0_readSeries [.ref (E.1 q), .ref (E.1 iw)] g (fun v g' => v = b2i (rser L x N c).1 ∧ g' = va_up (va_up g q (.inr (0, [.ref (E.1 (q + 1)), .int (nI L), .int (nI ((rser L x N c).2.1))]))) ic (xJ S 24 (rser L x N c).2.2)) := by
  refine Ct.of RX0 (by decide +kernel) rfl (Nat.le_of_ble_eq_true rfl) (fun M C Z => ?_)
  refine G.eq (pc' := 0) (vs' := [some (.ref (E.1 q)), some (.ref (E.1 iw)), none, none]) (st' := []) ?_
  refine r_aload_n (pc := 0) C dX0_readSeries_0 rfl ?_
  refine r_iconst (pc := 1) (v := nI 0) C dX0_readSeries_1 (by decide +kernel) ?_
  refine r_putf (pc := 2) C dX0_readSeries_2 fp_RX0_19 hq rfl rfl (Nat.le_of_ble_eq_true rfl) ?_
  refine r_aload_n (pc := 5) C dX0_readSeries_5 rfl ?_
  refine r_bipush (pc := 6) (v := nI 45) C dX0_readSeries_6 (by decide +kernel) ?_
  refine r_callV (pc := 8) C dX0_readSeries_8 cv_RX0_31 (c_X0_takes (Ce.new hq) (Ce.up hx (by omega)) hL (by omega) h128 45 (by decide)) ⟨rfl, rfl, by decide, by decide⟩ (Ce.new hq) rfl rfl (Nat.le_of_ble_eq_true rfl) ⟨Nat.zero_le _, Nat.zero_le _⟩ ?_
  rintro _ _ ⟨r, rfl, rfl, rfl⟩
  rw [bx_uu]
  show G M S E (0, 0) (va_up g q (.inr (0, [.ref (E.1 (q + 1)), .int (nI L), .int (nI (tkP L x 45 0))]))) 11 [some (.ref (E.1 q)), some (.ref (E.1 iw)), none, none] [.int (b2i (tkB L x 45 0))]
  have hz := tkP_le (c := 45) (x := x) (Nat.zero_le L)
  refine r_istore_n (pc := 11) C dX0_readSeries_11 (by decide) ?_
  refine G.eq (pc' := 12) (vs' := [some (.ref (E.1 q)), some (.ref (E.1 iw)), some (.int (b2i (tkB L x 45 0))), none]) (st' := []) ?_
  refine r_aload_n (pc := 12) C dX0_readSeries_12 rfl ?_
  refine r_aload_n (pc := 13) C dX0_readSeries_13 rfl ?_
  refine r_iload_n (pc := 14) C dX0_readSeries_14 rfl ?_
  have hr0 := rt_le (x := x) hz
  refine r_callV (pc := 15) C dX0_readSeries_15 cv_RX0_35 (c_X0_readTerm (Ce.new hq) (Ce.up hx (by omega)) hL (by omega) h128 (Ce.up hw (by omega)) (Ce.up hc (by omega)) hN hne d1 d2 d3 d4 (tkB L x 45 0)) ⟨rfl, rfl, by decide, by decide⟩ (Ce.new hq) rfl rfl (Nat.le_of_ble_eq_true rfl) ⟨Nat.zero_le _, Nat.zero_le _⟩ ?_
  rintro _ _ ⟨r, rfl, rfl, rfl⟩
  show G M S E (0, 0) (va_up (va_up (va_up g q (.inr (0, [.ref (E.1 (q + 1)), .int (nI L), .int (nI (tkP L x 45 0))]))) q (.inr (0, [.ref (E.1 (q + 1)), .int (nI L), .int (nI ((rt L x (tkP L x 45 0)).2))]))) ic (xJ S 24 (rtC N (tkB L x 45 0) (rt L x (tkP L x 45 0)).1 c))) 18 [some (.ref (E.1 q)), some (.ref (E.1 iw)), some (.int (b2i (tkB L x 45 0))), none] [.int (b2i ((rt L x (tkP L x 45 0)).1.isSome))]
  refine G.heap (show (va_up (va_up (va_up g q (.inr (0, [.ref (E.1 (q + 1)), .int (nI L), .int (nI (tkP L x 45 0))]))) q (.inr (0, [.ref (E.1 (q + 1)), .int (nI L), .int (nI ((rt L x (tkP L x 45 0)).2))]))) ic (xJ S 24 (rtC N (tkB L x 45 0) (rt L x (tkP L x 45 0)).1 c))) = (va_up (va_up g q (.inr (0, [.ref (E.1 (q + 1)), .int (nI L), .int (nI ((rt L x (tkP L x 45 0)).2))]))) ic (xJ S 24 (rtC N (tkB L x 45 0) (rt L x (tkP L x 45 0)).1 c))) from by funext q; simp only [va_up]; (repeat' split) <;> first | rfl | omega) ?_
  refine r_if_ne (pc := 18) (tgt := 23) C dX0_readSeries_18 (by decide) (fun h18 => ?_) (fun h18 => ?_)
  · have h18 := b_t h18
    refine r_iconst (pc := 23) (v := nI 0) C dX0_readSeries_23 (by decide +kernel) ?_
    refine r_istore_n (pc := 24) C dX0_readSeries_24 (by decide) ?_
    refine G.eq (pc' := 25) (vs' := [some (.ref (E.1 q)), some (.ref (E.1 iw)), some (.int (b2i (tkB L x 45 0))), some (.int (nI 0))]) (st' := []) ?_
    refine G.wk (vs' := [some (.ref (E.1 q)), some (.ref (E.1 iw)), none, some (.int (nI 0))]) ⟨rfl, rfl, rfl, trivial⟩ ?_
    refine bkr (P := fun t r => ∀ (p1 : Nat) (c1 : Nat → Int64), p1 ≤ L → (rser L x N c) = rs L x N r p1 c1 → G M S E (0, 0) (va_up (va_up g q (.inr (0, [.ref (E.1 (q + 1)), .int (nI L), .int (nI p1)]))) ic (xJ S 24 c1)) 25 [some (.ref (E.1 q)), some (.ref (E.1 iw)), none, some (.int (nI t))] []) (N := 60) (fun p1 c1 hp1 he => ?_) (fun t r htr ih p1 c1 hp1 he => ?_) _ _ hr0.2 (by unfold rser rs1; rw [h18] <;> rfl)
    · show G M S E (0, 0) (va_up (va_up g q (.inr (0, [.ref (E.1 (q + 1)), .int (nI L), .int (nI p1)]))) ic (xJ S 24 c1)) 25 [some (.ref (E.1 q)), some (.ref (E.1 iw)), none, some (.int (nI 60))] []
      refine r_iload_n (pc := 25) C dX0_readSeries_25 rfl ?_
      refine r_bipush (pc := 26) (v := nI 60) C dX0_readSeries_26 (by decide +kernel) ?_
      refine r_icmp_ge (pc := 28) (tgt := 81) C dX0_readSeries_28 (by decide) (fun h28 => ?_) (fun h28 => ?_)
      · have h28 := c_le (by omega) (by omega) h28
        have he2 : (rser L x N c) = (true, p1, c1) := he
        refine r_iconst (pc := 81) (v := nI 1) C dX0_readSeries_81 (by decide +kernel) ?_
        refine G.heap (show (va_up (va_up g q (.inr (0, [.ref (E.1 (q + 1)), .int (nI L), .int (nI p1)]))) ic (xJ S 24 c1)) = (va_up (va_up g q (.inr (0, [.ref (E.1 (q + 1)), .int (nI L), .int (nI ((rser L x N c).2.1))]))) ic (xJ S 24 ((rser L x N c).2.2))) from by rw [he2]) ?_
        exact r_iret (pc := 82) C Z dX0_readSeries_82 rfl (⟨by rw [he2] <;> rfl, rfl⟩)
      · have h28 := c_nle (by omega) (by omega) h28
        omega
    · show G M S E (0, 0) (va_up (va_up g q (.inr (0, [.ref (E.1 (q + 1)), .int (nI L), .int (nI p1)]))) ic (xJ S 24 c1)) 25 [some (.ref (E.1 q)), some (.ref (E.1 iw)), none, some (.int (nI t))] []
      refine r_iload_n (pc := 25) C dX0_readSeries_25 rfl ?_
      refine r_bipush (pc := 26) (v := nI 60) C dX0_readSeries_26 (by decide +kernel) ?_
      refine r_icmp_ge (pc := 28) (tgt := 81) C dX0_readSeries_28 (by decide) (fun h28 => ?_) (fun h28 => ?_)
      · have h28 := c_le (by omega) (by omega) h28
        omega
      · have h28 := c_nle (by omega) (by omega) h28
        refine r_aload_n (pc := 31) C dX0_readSeries_31 rfl ?_
        refine r_getf (pc := 32) C dX0_readSeries_32 fl_RX0_19 (Ce.up (Ce.new hq) (by omega)) rfl ?_
        refine r_aload_n (pc := 35) C dX0_readSeries_35 rfl ?_
        refine r_getf (pc := 36) C dX0_readSeries_36 fl_RX0_15 (Ce.up (Ce.new hq) (by omega)) rfl ?_
        refine r_icmp_ge (pc := 39) (tgt := 81) C dX0_readSeries_39 (by decide) (fun h39 => ?_) (fun h39 => ?_)
        · have h39 := c_le (by omega) (by omega) h39
          have he2 : (rser L x N c) = (true, p1, c1) := by rw [he, rs, show decide (p1 < L) = false from decide_eq_false (by omega)] <;> rfl
          refine r_iconst (pc := 81) (v := nI 1) C dX0_readSeries_81 (by decide +kernel) ?_
          refine G.heap (show (va_up (va_up g q (.inr (0, [.ref (E.1 (q + 1)), .int (nI L), .int (nI p1)]))) ic (xJ S 24 c1)) = (va_up (va_up g q (.inr (0, [.ref (E.1 (q + 1)), .int (nI L), .int (nI ((rser L x N c).2.1))]))) ic (xJ S 24 ((rser L x N c).2.2))) from by rw [he2]) ?_
          exact r_iret (pc := 82) C Z dX0_readSeries_82 rfl (⟨by rw [he2] <;> rfl, rfl⟩)
        · have h39 := c_nle (by omega) (by omega) h39
          have hd := decide_eq_true h39
          refine r_aload_n (pc := 42) C dX0_readSeries_42 rfl ?_
          refine r_bipush (pc := 43) (v := nI 45) C dX0_readSeries_43 (by decide +kernel) ?_
          refine r_callV (pc := 45) C dX0_readSeries_45 cv_RX0_31 (c_X0_takes (Ce.up (Ce.new hq) (by omega)) (Ce.up (Ce.up hx (by omega)) (by omega)) hL (by omega) h128 45 (by decide)) ⟨rfl, rfl, by decide, by decide⟩ (Ce.up (Ce.new hq) (by omega)) rfl rfl (Nat.le_of_ble_eq_true rfl) ⟨Nat.zero_le _, Nat.zero_le _⟩ ?_
          rintro _ _ ⟨r, rfl, rfl, rfl⟩
          show G M S E (0, 0) (va_up (va_up (va_up g q (.inr (0, [.ref (E.1 (q + 1)), .int (nI L), .int (nI p1)]))) ic (xJ S 24 c1)) q (.inr (0, [.ref (E.1 (q + 1)), .int (nI L), .int (nI (tkP L x 45 p1))]))) 48 [some (.ref (E.1 q)), some (.ref (E.1 iw)), none, some (.int (nI t))] [.int (b2i (tkB L x 45 p1))]
          refine G.heap (show (va_up (va_up (va_up g q (.inr (0, [.ref (E.1 (q + 1)), .int (nI L), .int (nI p1)]))) ic (xJ S 24 c1)) q (.inr (0, [.ref (E.1 (q + 1)), .int (nI L), .int (nI (tkP L x 45 p1))]))) = (va_up (va_up g q (.inr (0, [.ref (E.1 (q + 1)), .int (nI L), .int (nI (tkP L x 45 p1))]))) ic (xJ S 24 c1)) from by funext q; simp only [va_up]; (repeat' split) <;> first | rfl | omega) ?_
          refine r_istore_n (pc := 48) C dX0_readSeries_48 (by decide) ?_
          refine G.eq (pc' := 49) (vs' := [some (.ref (E.1 q)), some (.ref (E.1 iw)), some (.int (b2i (tkB L x 45 p1))), some (.int (nI t))]) (st' := []) ?_
          refine r_iload_n (pc := 49) C dX0_readSeries_49 rfl ?_
          refine r_if_ne (pc := 50) (tgt := 64) C dX0_readSeries_50 (by decide) (fun h50 => ?_) (fun h50 => ?_)
          · have h50 := b_t h50
            rw [h50]
            refine G.heap (show (va_up (va_up g q (.inr (0, [.ref (E.1 (q + 1)), .int (nI L), .int (nI (tkP L x 45 p1))]))) ic (xJ S 24 c1)) = (va_up (va_up g q (.inr (0, [.ref (E.1 (q + 1)), .int (nI L), .int (nI (p1 + 1))]))) ic (xJ S 24 c1)) from by rw [tkP_t h50]) ?_
            have hrt := rt_le (x := x) (L := L) (p := p1 + 1) h39
            have he3 : (rser L x N c) = rs1 (rs L x N r) N true (rt L x (p1 + 1)) c1 := by rw [he, rs, hd, h50] <;> rfl
            refine r_aload_n (pc := 64) C dX0_readSeries_64 rfl ?_
            refine r_aload_n (pc := 65) C dX0_readSeries_65 rfl ?_
            refine r_iload_n (pc := 66) C dX0_readSeries_66 rfl ?_
            refine r_callV (pc := 67) C dX0_readSeries_67 cv_RX0_35 (c_X0_readTerm (Ce.up (Ce.new hq) (by omega)) (Ce.up (Ce.up hx (by omega)) (by omega)) hL (by omega) h128 (Ce.up (Ce.up hw (by omega)) (by omega)) (Ce.new (Ce.up hc (by omega))) hN hne d1 d2 d3 d4 true) ⟨rfl, rfl, by decide, by decide⟩ (Ce.up (Ce.new hq) (by omega)) rfl rfl (Nat.le_of_ble_eq_true rfl) ⟨Nat.zero_le _, Nat.zero_le _⟩ ?_
            rintro _ _ ⟨r, rfl, rfl, rfl⟩
            show G M S E (0, 0) (va_up (va_up (va_up (va_up g q (.inr (0, [.ref (E.1 (q + 1)), .int (nI L), .int (nI (p1 + 1))]))) ic (xJ S 24 c1)) q (.inr (0, [.ref (E.1 (q + 1)), .int (nI L), .int (nI ((rt L x (p1 + 1)).2))]))) ic (xJ S 24 (rtC N true (rt L x (p1 + 1)).1 c1))) 70 [some (.ref (E.1 q)), some (.ref (E.1 iw)), some (.int (b2i true)), some (.int (nI t))] [.int (b2i ((rt L x (p1 + 1)).1.isSome))]
            refine G.heap (show (va_up (va_up (va_up (va_up g q (.inr (0, [.ref (E.1 (q + 1)), .int (nI L), .int (nI (p1 + 1))]))) ic (xJ S 24 c1)) q (.inr (0, [.ref (E.1 (q + 1)), .int (nI L), .int (nI ((rt L x (p1 + 1)).2))]))) ic (xJ S 24 (rtC N true (rt L x (p1 + 1)).1 c1))) = (va_up (va_up g q (.inr (0, [.ref (E.1 (q + 1)), .int (nI L), .int (nI ((rt L x (p1 + 1)).2))]))) ic (xJ S 24 (rtC N true (rt L x (p1 + 1)).1 c1))) from by funext q; simp only [va_up]; (repeat' split) <;> first | rfl | omega) ?_
            refine r_if_ne (pc := 70) (tgt := 75) C dX0_readSeries_70 (by decide) (fun h70 => ?_) (fun h70 => ?_)
            · have h70 := b_t h70
              refine r_iinc (pc := 75) (v := nI (t + 1)) C dX0_readSeries_75 rfl (nI_i1 _) (by decide) ?_
              refine G.eq (pc' := 78) (vs' := [some (.ref (E.1 q)), some (.ref (E.1 iw)), some (.int (b2i true)), some (.int (nI (t + 1)))]) (st' := []) ?_
              refine r_goto (pc := 78) (tgt := 25) C dX0_readSeries_78 (by decide) ?_
              refine G.wk (vs' := [some (.ref (E.1 q)), some (.ref (E.1 iw)), none, some (.int (nI (t + 1)))]) ⟨rfl, rfl, rfl, trivial⟩ ?_
              exact (ih _ _ hrt.2 (by rw [he3]; unfold rs1; rw [h70] <;> rfl))
            · have h70 := b_f h70
              refine r_iconst (pc := 73) (v := nI 0) C dX0_readSeries_73 (by decide +kernel) ?_
              have hbad : (rser L x N c) = (false, (rt L x (p1 + 1)).2, rtC N true (rt L x (p1 + 1)).1 c1) := by rw [he3]; unfold rs1; rw [h70] <;> rfl
              refine G.heap (show (va_up (va_up g q (.inr (0, [.ref (E.1 (q + 1)), .int (nI L), .int (nI ((rt L x (p1 + 1)).2))]))) ic (xJ S 24 (rtC N true (rt L x (p1 + 1)).1 c1))) = (va_up (va_up g q (.inr (0, [.ref (E.1 (q + 1)), .int (nI L), .int (nI ((rser L x N c).2.1))]))) ic (xJ S 24 ((rser L x N c).2.2))) from by rw [hbad]) ?_
              exact r_iret (pc := 74) C Z dX0_readSeries_74 rfl (⟨by rw [hbad] <;> rfl, rfl⟩)
          · have h50 := b_f h50
            rw [h50]
            refine G.heap (show (va_up (va_up g q (.inr (0, [.ref (E.1 (q + 1)), .int (nI L), .int (nI (tkP L x 45 p1))]))) ic (xJ S 24 c1)) = (va_up (va_up g q (.inr (0, [.ref (E.1 (q + 1)), .int (nI L), .int (nI p1)]))) ic (xJ S 24 c1)) from by rw [tkP_f h50]) ?_
            refine r_aload_n (pc := 53) C dX0_readSeries_53 rfl ?_
            refine r_bipush (pc := 54) (v := nI 43) C dX0_readSeries_54 (by decide +kernel) ?_
            refine r_callV (pc := 56) C dX0_readSeries_56 cv_RX0_31 (c_X0_takes (Ce.up (Ce.new hq) (by omega)) (Ce.up (Ce.up hx (by omega)) (by omega)) hL (by omega) h128 43 (by decide)) ⟨rfl, rfl, by decide, by decide⟩ (Ce.up (Ce.new hq) (by omega)) rfl rfl (Nat.le_of_ble_eq_true rfl) ⟨Nat.zero_le _, Nat.zero_le _⟩ ?_
            rintro _ _ ⟨r, rfl, rfl, rfl⟩
            show G M S E (0, 0) (va_up (va_up (va_up g q (.inr (0, [.ref (E.1 (q + 1)), .int (nI L), .int (nI p1)]))) ic (xJ S 24 c1)) q (.inr (0, [.ref (E.1 (q + 1)), .int (nI L), .int (nI (tkP L x 43 p1))]))) 59 [some (.ref (E.1 q)), some (.ref (E.1 iw)), some (.int (b2i false)), some (.int (nI t))] [.int (b2i (tkB L x 43 p1))]
            refine G.heap (show (va_up (va_up (va_up g q (.inr (0, [.ref (E.1 (q + 1)), .int (nI L), .int (nI p1)]))) ic (xJ S 24 c1)) q (.inr (0, [.ref (E.1 (q + 1)), .int (nI L), .int (nI (tkP L x 43 p1))]))) = (va_up (va_up g q (.inr (0, [.ref (E.1 (q + 1)), .int (nI L), .int (nI (tkP L x 43 p1))]))) ic (xJ S 24 c1)) from by funext q; simp only [va_up]; (repeat' split) <;> first | rfl | omega) ?_
            refine r_if_ne (pc := 59) (tgt := 64) C dX0_readSeries_59 (by decide) (fun h59 => ?_) (fun h59 => ?_)
            · have h59 := b_t h59
              refine G.heap (show (va_up (va_up g q (.inr (0, [.ref (E.1 (q + 1)), .int (nI L), .int (nI (tkP L x 43 p1))]))) ic (xJ S 24 c1)) = (va_up (va_up g q (.inr (0, [.ref (E.1 (q + 1)), .int (nI L), .int (nI (p1 + 1))]))) ic (xJ S 24 c1)) from by rw [tkP_t h59]) ?_
              have hrt := rt_le (x := x) (L := L) (p := p1 + 1) h39
              have he3 : (rser L x N c) = rs1 (rs L x N r) N false (rt L x (p1 + 1)) c1 := by rw [he, rs, hd, h50, h59] <;> rfl
              refine r_aload_n (pc := 64) C dX0_readSeries_64 rfl ?_
              refine r_aload_n (pc := 65) C dX0_readSeries_65 rfl ?_
              refine r_iload_n (pc := 66) C dX0_readSeries_66 rfl ?_
              refine r_callV (pc := 67) C dX0_readSeries_67 cv_RX0_35 (c_X0_readTerm (Ce.up (Ce.new hq) (by omega)) (Ce.up (Ce.up hx (by omega)) (by omega)) hL (by omega) h128 (Ce.up (Ce.up hw (by omega)) (by omega)) (Ce.new (Ce.up hc (by omega))) hN hne d1 d2 d3 d4 false) ⟨rfl, rfl, by decide, by decide⟩ (Ce.up (Ce.new hq) (by omega)) rfl rfl (Nat.le_of_ble_eq_true rfl) ⟨Nat.zero_le _, Nat.zero_le _⟩ ?_
              rintro _ _ ⟨r, rfl, rfl, rfl⟩
              show G M S E (0, 0) (va_up (va_up (va_up (va_up g q (.inr (0, [.ref (E.1 (q + 1)), .int (nI L), .int (nI (p1 + 1))]))) ic (xJ S 24 c1)) q (.inr (0, [.ref (E.1 (q + 1)), .int (nI L), .int (nI ((rt L x (p1 + 1)).2))]))) ic (xJ S 24 (rtC N false (rt L x (p1 + 1)).1 c1))) 70 [some (.ref (E.1 q)), some (.ref (E.1 iw)), some (.int (b2i false)), some (.int (nI t))] [.int (b2i ((rt L x (p1 + 1)).1.isSome))]
              refine G.heap (show (va_up (va_up (va_up (va_up g q (.inr (0, [.ref (E.1 (q + 1)), .int (nI L), .int (nI (p1 + 1))]))) ic (xJ S 24 c1)) q (.inr (0, [.ref (E.1 (q + 1)), .int (nI L), .int (nI ((rt L x (p1 + 1)).2))]))) ic (xJ S 24 (rtC N false (rt L x (p1 + 1)).1 c1))) = (va_up (va_up g q (.inr (0, [.ref (E.1 (q + 1)), .int (nI L), .int (nI ((rt L x (p1 + 1)).2))]))) ic (xJ S 24 (rtC N false (rt L x (p1 + 1)).1 c1))) from by funext q; simp only [va_up]; (repeat' split) <;> first | rfl | omega) ?_
              refine r_if_ne (pc := 70) (tgt := 75) C dX0_readSeries_70 (by decide) (fun h70 => ?_) (fun h70 => ?_)
              · have h70 := b_t h70
                refine r_iinc (pc := 75) (v := nI (t + 1)) C dX0_readSeries_75 rfl (nI_i1 _) (by decide) ?_
                refine G.eq (pc' := 78) (vs' := [some (.ref (E.1 q)), some (.ref (E.1 iw)), some (.int (b2i false)), some (.int (nI (t + 1)))]) (st' := []) ?_
                refine r_goto (pc := 78) (tgt := 25) C dX0_readSeries_78 (by decide) ?_
                refine G.wk (vs' := [some (.ref (E.1 q)), some (.ref (E.1 iw)), none, some (.int (nI (t + 1)))]) ⟨rfl, rfl, rfl, trivial⟩ ?_
                exact (ih _ _ hrt.2 (by rw [he3]; unfold rs1; rw [h70] <;> rfl))
              · have h70 := b_f h70
                refine r_iconst (pc := 73) (v := nI 0) C dX0_readSeries_73 (by decide +kernel) ?_
                have hbad : (rser L x N c) = (false, (rt L x (p1 + 1)).2, rtC N false (rt L x (p1 + 1)).1 c1) := by rw [he3]; unfold rs1; rw [h70] <;> rfl
                refine G.heap (show (va_up (va_up g q (.inr (0, [.ref (E.1 (q + 1)), .int (nI L), .int (nI ((rt L x (p1 + 1)).2))]))) ic (xJ S 24 (rtC N false (rt L x (p1 + 1)).1 c1))) = (va_up (va_up g q (.inr (0, [.ref (E.1 (q + 1)), .int (nI L), .int (nI ((rser L x N c).2.1))]))) ic (xJ S 24 ((rser L x N c).2.2))) from by rw [hbad]) ?_
                exact r_iret (pc := 74) C Z dX0_readSeries_74 rfl (⟨by rw [hbad] <;> rfl, rfl⟩)
            · have h59 := b_f h59
              refine G.heap (show (va_up (va_up g q (.inr (0, [.ref (E.1 (q + 1)), .int (nI L), .int (nI (tkP L x 43 p1))]))) ic (xJ S 24 c1)) = (va_up (va_up g q (.inr (0, [.ref (E.1 (q + 1)), .int (nI L), .int (nI p1)]))) ic (xJ S 24 c1)) from by rw [tkP_f h59]) ?_
              have he3 : (rser L x N c) = (false, p1, c1) := by rw [he, rs, hd, h50, h59] <;> rfl
              refine r_iconst (pc := 62) (v := nI 0) C dX0_readSeries_62 (by decide +kernel) ?_
              refine G.heap (show (va_up (va_up g q (.inr (0, [.ref (E.1 (q + 1)), .int (nI L), .int (nI p1)]))) ic (xJ S 24 c1)) = (va_up (va_up g q (.inr (0, [.ref (E.1 (q + 1)), .int (nI L), .int (nI ((rser L x N c).2.1))]))) ic (xJ S 24 ((rser L x N c).2.2))) from by rw [he3]) ?_
              exact r_iret (pc := 63) C Z dX0_readSeries_63 rfl (⟨by rw [he3] <;> rfl, rfl⟩)
  · have h18 := b_f h18
    refine r_iconst (pc := 21) (v := nI 0) C dX0_readSeries_21 (by decide +kernel) ?_
    have hbad : (rser L x N c) = (false, (rt L x (tkP L x 45 0)).2, rtC N (tkB L x 45 0) (rt L x (tkP L x 45 0)).1 c) := by unfold rser rs1; rw [h18] <;> rfl
    refine G.heap (show (va_up (va_up g q (.inr (0, [.ref (E.1 (q + 1)), .int (nI L), .int (nI ((rt L x (tkP L x 45 0)).2))]))) ic (xJ S 24 (rtC N (tkB L x 45 0) (rt L x (tkP L x 45 0)).1 c))) = (va_up (va_up g q (.inr (0, [.ref (E.1 (q + 1)), .int (nI L), .int (nI ((rser L x N c).2.1))]))) ic (xJ S 24 ((rser L x N c).2.2))) from by rw [hbad]) ?_
    exact r_iret (pc := 22) C Z dX0_readSeries_22 rfl (⟨by rw [hbad] <;> rfl, rfl⟩)
theorem pt_up {x : Nat → Nat} {L k j : Nat} : upd (fun k => nI (x k)) L (nI k) j = nI (va_up x L k j) := by
  by_cases e : j = L
  · subst e; rw [pk_us, va_up_self]
  · rw [pk_un e, va_up_ne _ _ e]
set_option maxHeartbeats 4000000 in
set_option maxRecDepth 100000 in
theorem c_X0_put {S : ST} {E : ET} {g : Nat → va_E} {q L p : Nat} {x : Nat → Nat} (hq : Ce E g q (.inr (0, [.ref (E.1 (q + 1)), .int (nI L), .int (nI p)]))) (hx : Ce E g (q + 1) (xB S 60 (fun k => nI (x k)))) (hL : L ≤ 60) (h128 : ∀ k, x k < 128) (k : Nat) (hk : k < 128) (hlt : L < 60) : CtV S E yX0_put cX0_put 2 none rmX0_put [.ref (E.1 q), .int (nI k)] g (fun g' => g' = va_up (va_up g (q + 1) (xB S 60 (fun j => nI (va_up x L k j)))) q (.inr (0, [.ref (E.1 (q + 1)), .int (nI (L + 1)), .int (nI p)]))) := by
  refine Ct.of RX0 (by decide +kernel) rfl (Nat.le_of_ble_eq_true rfl) (fun M C Z => ?_)
  refine G.eq (pc' := 0) (vs' := [some (.ref (E.1 q)), some (.int (nI k))]) (st' := []) ?_
  refine r_aload_n (pc := 0) C dX0_put_0 rfl ?_
  refine r_getf (pc := 1) C dX0_put_1 fl_RX0_15 hq rfl ?_
  refine r_bipush (pc := 4) (v := nI 60) C dX0_put_4 (by decide +kernel) ?_
  refine r_icmp_ge (pc := 6) (tgt := 30) C dX0_put_6 (by decide) (fun h6 => ?_) (fun h6 => ?_)
  · have h6 := c_le (by omega) (by omega) h6
    omega
  · have h6 := c_nle (by omega) (by omega) h6
    refine r_aload_n (pc := 9) C dX0_put_9 rfl ?_
    refine r_getf (pc := 10) C dX0_put_10 fl_RX0_9 hq rfl ?_
    refine r_aload_n (pc := 13) C dX0_put_13 rfl ?_
    refine r_getf (pc := 14) C dX0_put_14 fl_RX0_15 hq rfl ?_
    refine r_iload_n (pc := 17) C dX0_put_17 rfl ?_
    refine r_i2b (pc := 18) C dX0_put_18 ?_
    refine r_bast (pc := 19) C dX0_put_19 hx rfl (by omega) (by omega) ?_
    rw [nar8 hk]
    refine G.cB (f' := fun j => nI (va_up x L k j)) (fun j hj => pt_up) ?_
    refine r_aload_n (pc := 20) C dX0_put_20 rfl ?_
    refine r_dup (pc := 21) C dX0_put_21 rfl ?_
    refine r_getf (pc := 22) C dX0_put_22 fl_RX0_15 (Ce.up hq (by omega)) rfl ?_
    refine r_iconst (pc := 25) (v := nI 1) C dX0_put_25 (by decide +kernel) ?_
    refine r_iadd (pc := 26) C dX0_put_26 ?_
    refine r_ti (nI (L + 1)) (nI_add _ _) ?_
    refine r_putf (pc := 27) C dX0_put_27 fp_RX0_15 (Ce.up hq (by omega)) rfl rfl (Nat.le_of_ble_eq_true rfl) ?_
    exact r_vret (pc := 30) C Z dX0_put_30 rfl
