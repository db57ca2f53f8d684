/-- a buffer: how many bytes, the bytes; a byte more -/
abbrev BV : Type := Nat × (Nat → Int32)
def wput (k : Nat) (b : BV) : BV := (b.1 + 1, upd b.2 b.1 (nI k))
theorem nar8 {k : Nat} (hk : k < 128) : vp_nar .byte ((nI k).toInt8.toInt32) = nI k := by
  rw [pk_vb]
  have h : ∀ k : Nat, k < 128 → (nI k).toInt8.toInt32 = nI k := by decide +kernel
  exact h k hk
/-- the units 100000000 .. 1, then 0 -/
def un (t : Nat) : Nat := 100000000 / 10 ^ t
theorem un_le (t : Nat) : un t ≤ 100000000 := Nat.div_le_self _ _
theorem un_s (t : Nat) : un t / 10 = un (t + 1) := by unfold un; rw [Nat.div_div_eq_div_mul, Nat.pow_succ]
theorem un_pos {t : Nat} (h : t < 9) : 0 < un t := by
  have : ∀ t : Nat, t < 9 → 0 < un t := by decide +kernel
  exact this t h
theorem un_9 : un 9 = 0 := by decide +kernel
/-- a number's digits -/
def wnF (v : Nat) (t : Nat) (b : BV) : BV := if un t ≤ v then wput (48 + v / un t % 10) b else b
def wnum (v : Nat) (b : BV) : BV := it (wnF v) 9 b
theorem wnF_len (v t : Nat) (b : BV) : (wnF v t b).1 ≤ b.1 + 1 := by
  unfold wnF wput
  split <;> simp
theorem wnI_len (v : Nat) (b : BV) : ∀ t : Nat, (it (wnF v) t b).1 ≤ b.1 + t
  | 0 => Nat.le_refl _
  | t + 1 => by
    have h1 := wnI_len v b t
    have h2 := wnF_len v t (it (wnF v) t b)
    show (wnF v t (it (wnF v) t b)).1 ≤ _
    omega
theorem wnum_len (v : Nat) (b : BV) : (wnum v b).1 ≤ b.1 + 9 := wnI_len v b 9
/-- a term -/
def tm1 (c : Int32) (b : BV) : BV := if 0 ≤ c then (if b.1 = 0 then b else wput 43 b) else wput 45 b
def tm2 (a k : Nat) (b : BV) : BV := if a = 1 ∧ k ≠ 0 then b else wnum a b
def tm3 (k : Nat) (b : BV) : BV := if 1 ≤ k then wput 113 b else b
def tm4 (k : Nat) (b : BV) : BV := if 2 ≤ k then wnum k (wput 94 b) else b
def wtm (c : Int32) (k : Nat) (b : BV) : BV := tm4 k (tm3 k (tm2 c.toInt.natAbs k (tm1 c b)))
theorem tm1_len (c : Int32) (b : BV) : (tm1 c b).1 ≤ b.1 + 1 := by
  unfold tm1 wput
  split
  · split <;> simp
  · simp
theorem tm2_len (a k : Nat) (b : BV) : (tm2 a k b).1 ≤ b.1 + 9 := by
  unfold tm2
  split
  · omega
  · exact wnum_len a b
theorem tm3_len (k : Nat) (b : BV) : (tm3 k b).1 ≤ b.1 + 1 := by
  unfold tm3 wput
  split <;> simp
/-- a number below 100 has at most two digits -/
theorem wnum2_len {v : Nat} (hv : v < 100) (b : BV) : (wnum v b).1 ≤ b.1 + 2 := by
  have h7 : it (wnF v) 7 b = b := by
    have key : ∀ t : Nat, t ≤ 7 → it (wnF v) t b = b := by
      intro t
      induction t with
      | zero => intro _; rfl
      | succ t ih =>
        intro ht
        show wnF v t (it (wnF v) t b) = b
        rw [ih (by omega)]
        unfold wnF
        rw [if_neg]
        have : ∀ t : Nat, t < 7 → 100 ≤ un t := by decide +kernel
        have := this t (by omega)
        omega
    exact key 7 (Nat.le_refl _)
  have h1 := wnF_len v 7 (it (wnF v) 7 b)
  have h2 := wnF_len v 8 (wnF v 7 (it (wnF v) 7 b))
  show (wnF v 8 (wnF v 7 (it (wnF v) 7 b))).1 ≤ _
  rw [h7] at h1 h2 ⊢
  omega
theorem wn_room9 {v : Nat} {b : BV} (h : b.1 + 9 ≤ 336) : ∀ t : Nat, t < 9 → un t ≤ v → (it (wnF v) t b).1 < 336 := fun t ht _ => by
  have := wnI_len v b t
  omega
theorem wn_room2 {v : Nat} {b : BV} (hv : v < 100) (h : b.1 + 2 ≤ 336) : ∀ t : Nat, t < 9 → un t ≤ v → (it (wnF v) t b).1 < 336 := fun t ht hu => by
  have h7 : ∀ t : Nat, t ≤ 7 → it (wnF v) t b = b := by
    intro t
    induction t with
    | zero => intro _; rfl
    | succ t ih =>
      intro ht
      show wnF v t (it (wnF v) t b) = b
      rw [ih (by omega)]
      unfold wnF
      rw [if_neg]
      have : ∀ t : Nat, t < 7 → 100 ≤ un t := by decide +kernel
      have := this t (by omega)
      omega
  by_cases e : t ≤ 7
  · rw [h7 t e]; omega
  · have e8 : t = 8 := by omega
    subst e8
    show (wnF v 7 (it (wnF v) 7 b)).1 < 336
    have := wnF_len v 7 (it (wnF v) 7 b)
    rw [h7 7 (Nat.le_refl _)] at this ⊢
    omega
theorem tm4_len {k : Nat} (hk : k < 100) (b : BV) : (tm4 k b).1 ≤ b.1 + 3 := by
  unfold tm4
  split
  · have := wnum2_len hk (wput 94 b)
    have e : (wput 94 b).1 = b.1 + 1 := rfl
    omega
  · omega
theorem wtm_len {k : Nat} (hk : k < 100) (c : Int32) (b : BV) : (wtm c k b).1 ≤ b.1 + 14 := by
  have h1 := tm1_len c b
  have h2 := tm2_len c.toInt.natAbs k (tm1 c b)
  have h3 := tm3_len k (tm2 c.toInt.natAbs k (tm1 c b))
  have h4 := tm4_len hk (tm3 k (tm2 c.toInt.natAbs k (tm1 c b)))
  unfold wtm
  omega
/-- within the range of coefficients, as an int -/
def rgI (x : Int32) : Prop := -100000000 ≤ x.toInt ∧ x.toInt ≤ 100000000
theorem absI_nI {x : Int32} (h : rgI x) : absI x = nI x.toInt.natAbs := by
  obtain ⟨h1, h2⟩ := h
  unfold absI
  apply Int32.toInt_inj.mp
  by_cases h0 : 0 ≤ x
  · rw [if_pos h0, nI_toInt (by omega)]
    have h0' : (0 : Int) ≤ x.toInt := by
      have := Int32.le_iff_toInt_le.mp h0
      rwa [Int32.toInt_zero] at this
    omega
  · rw [if_neg h0, nI_toInt (by omega), Int32.toInt_sub, Int32.toInt_zero]
    have h0' : ¬ (0 : Int) ≤ x.toInt := fun q => h0 (Int32.le_iff_toInt_le.mpr (by rw [Int32.toInt_zero]; exact q))
    rw [Int.bmod_eq_of_le (by omega) (by omega)]
    omega
/-- a series as text -/
def wsF (a : Nat → Int32) (t : Nat) (b : BV) : BV := if a t = 0 then b else wtm (a t) t b
def wser (a : Nat → Int32) (N : Nat) (f : Nat → Int32) : BV := if (it (wsF a) N (0, f)).1 = 0 then wput 48 (it (wsF a) N (0, f)) else it (wsF a) N (0, f)
theorem wsI_len (a : Nat → Int32) (f : Nat → Int32) : ∀ t : Nat, t ≤ 24 → (it (wsF a) t (0, f)).1 ≤ 14 * t
  | 0, _ => Nat.le_refl _
  | t + 1, h => by
    have h1 := wsI_len a f t (by omega)
    show (wsF a t (it (wsF a) t (0, f))).1 ≤ _
    unfold wsF
    split
    · exact Nat.le_trans h1 (by omega)
    · have := wtm_len (k := t) (by omega) (a t) (it (fun t b => if a t = 0 then b else wtm (a t) t b) t (0, f))
      have h2 : (it (fun t b => if a t = 0 then b else wtm (a t) t b) t (0, f)).1 ≤ 14 * t := h1
      omega
set_option maxHeartbeats 4000000 in
set_option maxRecDepth 100000 in
theorem c_X1_put {S : ST} {E : ET} {g : Nat → va_E} {o : Nat} {b : BV} (ho : Ce E g o (.inr (1, [.ref (E.1 (o + 1)), .int (nI b.1)]))) (hf : Ce E g (o + 1) (xB S 336 b.2)) (k : Nat) (hk : k < 128) (hb : b.1 < 336) : CtV S E yX1_put cX1_put 2 none rmX1_put [.ref (E.1 o), .int (nI k)] g (fun g' => g' = va_up (va_up g (o + 1) (xB S 336 (wput k b).2)) o (.inr (1, [.ref (E.1 (o + 1)), .int (nI (wput k b).1)]))) := by
  refine Ct.of RX1 (by decide +kernel) rfl (Nat.le_of_ble_eq_true rfl) (fun M C Z => ?_)
  refine G.eq (pc' := 0) (vs' := [some (.ref (E.1 o)), some (.int (nI k))]) (st' := []) ?_
  refine r_aload_n (pc := 0) C dX1_put_0 rfl ?_
  refine r_getf (pc := 1) C dX1_put_1 fl_RX1_15 ho rfl ?_
  refine r_sipush (pc := 4) (v := nI 336) C dX1_put_4 (by decide +kernel) ?_
  refine r_icmp_ge (pc := 7) (tgt := 31) C dX1_put_7 (by decide) (fun h7 => ?_) (fun h7 => ?_)
  · have h7 := c_le (by omega) (by omega) h7
    omega
  · have h7 := c_nle (by omega) (by omega) h7
    refine r_aload_n (pc := 10) C dX1_put_10 rfl ?_
    refine r_getf (pc := 11) C dX1_put_11 fl_RX1_9 ho rfl ?_
    refine r_aload_n (pc := 14) C dX1_put_14 rfl ?_
    refine r_getf (pc := 15) C dX1_put_15 fl_RX1_15 ho rfl ?_
    refine r_iload_n (pc := 18) C dX1_put_18 rfl ?_
    refine r_i2b (pc := 19) C dX1_put_19 ?_
    refine r_bast (pc := 20) C dX1_put_20 hf rfl (by omega) (by omega) ?_
    rw [nar8 hk]
    refine r_aload_n (pc := 21) C dX1_put_21 rfl ?_
    refine r_dup (pc := 22) C dX1_put_22 rfl ?_
    refine r_getf (pc := 23) C dX1_put_23 fl_RX1_15 (Ce.up ho (by omega)) rfl ?_
    refine r_iconst (pc := 26) (v := nI 1) C dX1_put_26 (by decide +kernel) ?_
    refine r_iadd (pc := 27) C dX1_put_27 ?_
    refine r_ti (nI (b.1 + 1)) (nI_add _ _) ?_
    refine r_putf (pc := 28) C dX1_put_28 fp_RX1_15 (Ce.up ho (by omega)) rfl rfl (Nat.le_of_ble_eq_true rfl) ?_
    exact r_vret (pc := 31) C Z dX1_put_31 rfl
set_option maxHeartbeats 4000000 in
set_option maxRecDepth 100000 in
theorem c_X1_writeNumber {S : ST} {E : ET} {g : Nat → va_E} {o : Nat} {b : BV} (ho : Ce E g o (.inr (1, [.ref (E.1 (o + 1)), .int (nI b.1)]))) (hf : Ce E g (o + 1) (xB S 336 b.2)) (v : Nat) (hv : v ≤ 100000000) (hb : ∀ t : Nat, t < 9 → un t ≤ v → (it (wnF v) t b).1 < 336) : CtV S E yX1_writeNumber cX1_writeNumber 3 none rmX1_writeNumber [.ref (E.1 o), .int (nI v)] g (fun g' => g' = va_up (va_up g (o + 1) (xB S 336 (wnum v b).2)) o (.inr (1, [.ref (E.1 (o + 1)), .int (nI (wnum v b).1)]))) := by
  refine Ct.of RX1 (by decide +kernel) rfl (Nat.le_of_ble_eq_true rfl) (fun M C Z => ?_)
  refine G.eq (pc' := 0) (vs' := [some (.ref (E.1 o)), some (.int (nI v)), none]) (st' := []) ?_
  refine r_ldc (pc := 0) C dX1_writeNumber_0 qK_RX1_36 ?_
  refine r_ti (nI 100000000) (by decide +kernel) ?_
  refine r_istore_n (pc := 2) C dX1_writeNumber_2 (by decide) ?_
  refine G.eq (pc' := 3) (vs' := [some (.ref (E.1 o)), some (.int (nI v)), some (.int (nI 100000000))]) (st' := []) ?_
  refine G.heap (Ce.id hf) ?_
  refine G.heap (Ce.id (Ce.up ho (by omega))) ?_
  refine bk (P := fun t => G M S E (0, 0) (va_up (va_up g (o + 1) (xB S 336 ((it (wnF v) t b).2))) o (.inr (1, [.ref (E.1 (o + 1)), .int (nI ((it (wnF v) t b).1))]))) 3 [some (.ref (E.1 o)), some (.int (nI v)), some (.int (nI (un t)))] []) (T := 9) ?_ (fun t ht ih => ?_)
  · show G M S E (0, 0) (va_up (va_up g (o + 1) (xB S 336 ((it (wnF v) 9 b).2))) o (.inr (1, [.ref (E.1 (o + 1)), .int (nI ((it (wnF v) 9 b).1))]))) 3 [some (.ref (E.1 o)), some (.int (nI v)), some (.int (nI (un 9)))] []
    have hu := un_le 9
    have hu9 := un_9
    refine r_iload_n (pc := 3) C dX1_writeNumber_3 rfl ?_
    refine r_iconst (pc := 4) (v := nI 1) C dX1_writeNumber_4 (by decide +kernel) ?_
    refine r_icmp_lt (pc := 5) (tgt := 34) C dX1_writeNumber_5 (by decide) (fun h5 => ?_) (fun h5 => ?_)
    · have h5 := c_lt (by omega) (by omega) h5
      exact r_vret (pc := 34) C Z dX1_writeNumber_34 rfl
    · have h5 := c_nlt (by omega) (by omega) h5
      omega
  · show G M S E (0, 0) (va_up (va_up g (o + 1) (xB S 336 ((it (wnF v) t b).2))) o (.inr (1, [.ref (E.1 (o + 1)), .int (nI ((it (wnF v) t b).1))]))) 3 [some (.ref (E.1 o)), some (.int (nI v)), some (.int (nI (un t)))] []
    have hu := un_le t
    have hp := un_pos ht
    refine r_iload_n (pc := 3) C dX1_writeNumber_3 rfl ?_
    refine r_iconst (pc := 4) (v := nI 1) C dX1_writeNumber_4 (by decide +kernel) ?_
    refine r_icmp_lt (pc := 5) (tgt := 34) C dX1_writeNumber_5 (by decide) (fun h5 => ?_) (fun h5 => ?_)
    · have h5 := c_lt (by omega) (by omega) h5
      omega
    · have h5 := c_nlt (by omega) (by omega) h5
      have hq : v / un t ≤ v := Nat.div_le_self _ _
      refine r_iload_n (pc := 8) C dX1_writeNumber_8 rfl ?_
      refine r_iload_n (pc := 9) C dX1_writeNumber_9 rfl ?_
      refine r_icmp_lt (pc := 10) (tgt := 26) C dX1_writeNumber_10 (by decide) (fun h10 => ?_) (fun h10 => ?_)
      · have h10 := c_lt (by omega) (by omega) h10
        refine G.heap (show (va_up (va_up g (o + 1) (xB S 336 ((it (wnF v) t b).2))) o (.inr (1, [.ref (E.1 (o + 1)), .int (nI ((it (wnF v) t b).1))]))) = (va_up (va_up g (o + 1) (xB S 336 ((wnF v t (it (wnF v) t b)).2))) o (.inr (1, [.ref (E.1 (o + 1)), .int (nI ((wnF v t (it (wnF v) t b)).1))]))) from by rw [show wnF v t (it (wnF v) t b) = (it (wnF v) t b) from if_neg (by omega)]) ?_
        refine r_iload_n (pc := 26) C dX1_writeNumber_26 rfl ?_
        refine r_bipush (pc := 27) (v := nI 10) C dX1_writeNumber_27 (by decide +kernel) ?_
        refine r_idiv (pc := 29) C dX1_writeNumber_29 (nI_ne0 (by omega) (by omega)) ?_
        refine r_ti (nI ((un t) / 10)) (pk_div (by omega) (by omega) (by omega)) ?_
        refine r_ti (nI (un (t + 1))) (by rw [un_s]) ?_
        refine r_istore_n (pc := 30) C dX1_writeNumber_30 (by decide) ?_
        refine G.eq (pc' := 31) (vs' := [some (.ref (E.1 o)), some (.int (nI v)), some (.int (nI (un (t + 1))))]) (st' := []) ?_
        refine r_goto (pc := 31) (tgt := 3) C dX1_writeNumber_31 (by decide) ?_
        exact ih
      · have h10 := c_nlt (by omega) (by omega) h10
        have hlen := hb t ht (by omega)
        refine r_aload_n (pc := 13) C dX1_writeNumber_13 rfl ?_
        refine r_bipush (pc := 14) (v := nI 48) C dX1_writeNumber_14 (by decide +kernel) ?_
        refine r_iload_n (pc := 16) C dX1_writeNumber_16 rfl ?_
        refine r_iload_n (pc := 17) C dX1_writeNumber_17 rfl ?_
        refine r_idiv (pc := 18) C dX1_writeNumber_18 (nI_ne0 (by omega) (by omega)) ?_
        refine r_ti (nI (v / (un t))) (pk_div (by omega) (by omega) (by omega)) ?_
        refine r_bipush (pc := 19) (v := nI 10) C dX1_writeNumber_19 (by decide +kernel) ?_
        refine r_irem (pc := 21) C dX1_writeNumber_21 (nI_ne0 (by omega) (by omega)) ?_
        refine r_ti (nI ((v / (un t)) % 10)) (pk_rem (by omega) (by omega) (by omega)) ?_
        refine r_iadd (pc := 22) C dX1_writeNumber_22 ?_
        refine r_ti (nI (48 + ((v / (un t)) % 10))) (nI_add _ _) ?_
        refine r_callV (pc := 23) C dX1_writeNumber_23 cv_RX1_23 (c_X1_put (b := (it (wnF v) t b)) (Ce.new (Ce.up ho (by omega))) (Ce.up (Ce.new hf) (by omega)) (48 + v / un t % 10) (by omega) (by omega)) ⟨rfl, rfl, by decide, by decide⟩ (Ce.new (Ce.up ho (by omega))) rfl rfl (Nat.le_of_ble_eq_true rfl) ⟨Nat.zero_le _, Nat.zero_le _⟩ ?_
        rintro _ _ ⟨rfl, rfl⟩
        show G M S E (0, 0) (va_up (va_up (va_up (va_up g (o + 1) (xB S 336 ((it (wnF v) t b).2))) o (.inr (1, [.ref (E.1 (o + 1)), .int (nI ((it (wnF v) t b).1))]))) (o + 1) (xB S 336 ((wput (48 + v / un t % 10) (it (wnF v) t b)).2))) o (.inr (1, [.ref (E.1 (o + 1)), .int (nI ((wput (48 + v / un t % 10) (it (wnF v) t b)).1))]))) 26 [some (.ref (E.1 o)), some (.int (nI v)), some (.int (nI (un t)))] []
        refine G.heap (show (va_up (va_up (va_up (va_up g (o + 1) (xB S 336 ((it (wnF v) t b).2))) o (.inr (1, [.ref (E.1 (o + 1)), .int (nI ((it (wnF v) t b).1))]))) (o + 1) (xB S 336 ((wput (48 + v / un t % 10) (it (wnF v) t b)).2))) o (.inr (1, [.ref (E.1 (o + 1)), .int (nI ((wput (48 + v / un t % 10) (it (wnF v) t b)).1))]))) = (va_up (va_up g (o + 1) (xB S 336 ((wput (48 + v / un t % 10) (it (wnF v) t b)).2))) o (.inr (1, [.ref (E.1 (o + 1)), .int (nI ((wput (48 + v / un t % 10) (it (wnF v) t b)).1))]))) from by funext q; simp only [va_up]; (repeat' split) <;> first | rfl | omega) ?_
        refine G.heap (show (va_up (va_up g (o + 1) (xB S 336 ((wput (48 + v / un t % 10) (it (wnF v) t b)).2))) o (.inr (1, [.ref (E.1 (o + 1)), .int (nI ((wput (48 + v / un t % 10) (it (wnF v) t b)).1))]))) = (va_up (va_up g (o + 1) (xB S 336 ((wnF v t (it (wnF v) t b)).2))) o (.inr (1, [.ref (E.1 (o + 1)), .int (nI ((wnF v t (it (wnF v) t b)).1))]))) from by rw [show wnF v t (it (wnF v) t b) = wput (48 + v / un t % 10) (it (wnF v) t b) from if_pos (by omega)]) ?_
        refine r_iload_n (pc := 26) C dX1_writeNumber_26 rfl ?_
        refine r_bipush (pc := 27) (v := nI 10) C dX1_writeNumber_27 (by decide +kernel) ?_
        refine r_idiv (pc := 29) C dX1_writeNumber_29 (nI_ne0 (by omega) (by omega)) ?_
        refine r_ti (nI ((un t) / 10)) (pk_div (by omega) (by omega) (by omega)) ?_
        refine r_ti (nI (un (t + 1))) (by rw [un_s]) ?_
        refine r_istore_n (pc := 30) C dX1_writeNumber_30 (by decide) ?_
        refine G.eq (pc' := 31) (vs' := [some (.ref (E.1 o)), some (.int (nI v)), some (.int (nI (un (t + 1))))]) (st' := []) ?_
        refine r_goto (pc := 31) (tgt := 3) C dX1_writeNumber_31 (by decide) ?_
        exact ih
set_option maxHeartbeats 4000000 in
set_option maxRecDepth 100000 in
theorem c_X1_writeTerm {S : ST} {E : ET} {g : Nat → va_E} {o : Nat} {b : BV} (ho : Ce E g o (.inr (1, [.ref (E.1 (o + 1)), .int (nI b.1)]))) (hf : Ce E g (o + 1) (xB S 336 b.2)) (c : Int32) (k : Nat) (hc : rgI c) (hk : k < 24) (hb : b.1 + 14 ≤ 336) : CtV S E yX1_writeTerm cX1_writeTerm 4 none rmX1_writeTerm [.ref (E.1 o), .int c, .int (nI k)] g (fun g' => g' = va_up (va_up g (o + 1) (xB S 336 (wtm c k b).2)) o (.inr (1, [.ref (E.1 (o + 1)), .int (nI (wtm c k b).1)]))) := by
  refine Ct.of RX1 (by decide +kernel) rfl (Nat.le_of_ble_eq_true rfl) (fun M C Z => ?_)
  refine G.eq (pc' := 0) (vs' := [some (.ref (E.1 o)), some (.int c), some (.int (nI k)), none]) (st' := []) ?_
  refine G.heap (Ce.id hf) ?_
  refine G.heap (Ce.id (Ce.up ho (by omega))) ?_
  have hl1 := tm1_len c b
  have hl2 := tm2_len c.toInt.natAbs k (tm1 c b)
  have hl3 := tm3_len k (tm2 c.toInt.natAbs k (tm1 c b))
  have ha : c.toInt.natAbs ≤ 100000000 := by have := hc.1; have := hc.2; omega
  have K56 : G M S E (0, 0) (va_up (va_up g (o + 1) (xB S 336 ((tm3 k (tm2 c.toInt.natAbs k (tm1 c b))).2))) o (.inr (1, [.ref (E.1 (o + 1)), .int (nI ((tm3 k (tm2 c.toInt.natAbs k (tm1 c b))).1))]))) 56 [some (.ref (E.1 o)), some (.int c), some (.int (nI k)), some (.int (nI c.toInt.natAbs))] [] := by
    refine r_iload_n (pc := 56) C dX1_writeTerm_56 rfl ?_
    refine r_iconst (pc := 57) (v := nI 2) C dX1_writeTerm_57 (by decide +kernel) ?_
    refine r_icmp_lt (pc := 58) (tgt := 72) C dX1_writeTerm_58 (by decide) (fun h58 => ?_) (fun h58 => ?_)
    · have h58 := c_lt (by omega) (by omega) h58
      refine G.heap (show (va_up (va_up g (o + 1) (xB S 336 ((tm3 k (tm2 c.toInt.natAbs k (tm1 c b))).2))) o (.inr (1, [.ref (E.1 (o + 1)), .int (nI ((tm3 k (tm2 c.toInt.natAbs k (tm1 c b))).1))]))) = (va_up (va_up g (o + 1) (xB S 336 ((wtm c k b).2))) o (.inr (1, [.ref (E.1 (o + 1)), .int (nI ((wtm c k b).1))]))) from by rw [show (wtm c k b) = (tm3 k (tm2 c.toInt.natAbs k (tm1 c b))) from if_neg (by omega)]) ?_
      exact r_vret (pc := 72) C Z dX1_writeTerm_72 rfl
    · have h58 := c_nlt (by omega) (by omega) h58
      refine r_aload_n (pc := 61) C dX1_writeTerm_61 rfl ?_
      refine r_bipush (pc := 62) (v := nI 94) C dX1_writeTerm_62 (by decide +kernel) ?_
      refine r_callV (pc := 64) C dX1_writeTerm_64 cv_RX1_23 (c_X1_put (b := (tm3 k (tm2 c.toInt.natAbs k (tm1 c b)))) (Ce.new (Ce.up ho (by omega))) (Ce.up (Ce.new hf) (by omega)) 94 (by omega) (by omega)) ⟨rfl, rfl, by decide, by decide⟩ (Ce.new (Ce.up ho (by omega))) rfl rfl (Nat.le_of_ble_eq_true rfl) ⟨Nat.zero_le _, Nat.zero_le _⟩ ?_
      rintro _ _ ⟨rfl, rfl⟩
      show G M S E (0, 0) (va_up (va_up (va_up (va_up g (o + 1) (xB S 336 ((tm3 k (tm2 c.toInt.natAbs k (tm1 c b))).2))) o (.inr (1, [.ref (E.1 (o + 1)), .int (nI ((tm3 k (tm2 c.toInt.natAbs k (tm1 c b))).1))]))) (o + 1) (xB S 336 ((wput 94 (tm3 k (tm2 c.toInt.natAbs k (tm1 c b)))).2))) o (.inr (1, [.ref (E.1 (o + 1)), .int (nI ((wput 94 (tm3 k (tm2 c.toInt.natAbs k (tm1 c b)))).1))]))) 67 [some (.ref (E.1 o)), some (.int c), some (.int (nI k)), some (.int (nI c.toInt.natAbs))] []
      refine G.heap (show (va_up (va_up (va_up (va_up g (o + 1) (xB S 336 ((tm3 k (tm2 c.toInt.natAbs k (tm1 c b))).2))) o (.inr (1, [.ref (E.1 (o + 1)), .int (nI ((tm3 k (tm2 c.toInt.natAbs k (tm1 c b))).1))]))) (o + 1) (xB S 336 ((wput 94 (tm3 k (tm2 c.toInt.natAbs k (tm1 c b)))).2))) o (.inr (1, [.ref (E.1 (o + 1)), .int (nI ((wput 94 (tm3 k (tm2 c.toInt.natAbs k (tm1 c b)))).1))]))) = (va_up (va_up g (o + 1) (xB S 336 ((wput 94 (tm3 k (tm2 c.toInt.natAbs k (tm1 c b)))).2))) o (.inr (1, [.ref (E.1 (o + 1)), .int (nI ((wput 94 (tm3 k (tm2 c.toInt.natAbs k (tm1 c b)))).1))]))) from by funext q; simp only [va_up]; (repeat' split) <;> first | rfl | omega) ?_
      have hl4 : (wput 94 (tm3 k (tm2 c.toInt.natAbs k (tm1 c b)))).1 = (tm3 k (tm2 c.toInt.natAbs k (tm1 c b))).1 + 1 := rfl
      refine r_aload_n (pc := 67) C dX1_writeTerm_67 rfl ?_
      refine r_iload_n (pc := 68) C dX1_writeTerm_68 rfl ?_
      refine r_callV (pc := 69) C dX1_writeTerm_69 cv_RX1_33 (c_X1_writeNumber (b := (wput 94 (tm3 k (tm2 c.toInt.natAbs k (tm1 c b))))) (Ce.new (Ce.up ho (by omega))) (Ce.up (Ce.new hf) (by omega)) k (by omega) (wn_room2 (by omega) (by omega))) ⟨rfl, rfl, by decide, by decide⟩ (Ce.new (Ce.up ho (by omega))) rfl rfl (Nat.le_of_ble_eq_true rfl) ⟨Nat.zero_le _, Nat.zero_le _⟩ ?_
      rintro _ _ ⟨rfl, rfl⟩
      show G M S E (0, 0) (va_up (va_up (va_up (va_up g (o + 1) (xB S 336 ((wput 94 (tm3 k (tm2 c.toInt.natAbs k (tm1 c b)))).2))) o (.inr (1, [.ref (E.1 (o + 1)), .int (nI ((wput 94 (tm3 k (tm2 c.toInt.natAbs k (tm1 c b)))).1))]))) (o + 1) (xB S 336 ((wnum k (wput 94 (tm3 k (tm2 c.toInt.natAbs k (tm1 c b))))).2))) o (.inr (1, [.ref (E.1 (o + 1)), .int (nI ((wnum k (wput 94 (tm3 k (tm2 c.toInt.natAbs k (tm1 c b))))).1))]))) 72 [some (.ref (E.1 o)), some (.int c), some (.int (nI k)), some (.int (nI c.toInt.natAbs))] []
      refine G.heap (show (va_up (va_up (va_up (va_up g (o + 1) (xB S 336 ((wput 94 (tm3 k (tm2 c.toInt.natAbs k (tm1 c b)))).2))) o (.inr (1, [.ref (E.1 (o + 1)), .int (nI ((wput 94 (tm3 k (tm2 c.toInt.natAbs k (tm1 c b)))).1))]))) (o + 1) (xB S 336 ((wnum k (wput 94 (tm3 k (tm2 c.toInt.natAbs k (tm1 c b))))).2))) o (.inr (1, [.ref (E.1 (o + 1)), .int (nI ((wnum k (wput 94 (tm3 k (tm2 c.toInt.natAbs k (tm1 c b))))).1))]))) = (va_up (va_up g (o + 1) (xB S 336 ((wnum k (wput 94 (tm3 k (tm2 c.toInt.natAbs k (tm1 c b))))).2))) o (.inr (1, [.ref (E.1 (o + 1)), .int (nI ((wnum k (wput 94 (tm3 k (tm2 c.toInt.natAbs k (tm1 c b))))).1))]))) from by funext q; simp only [va_up]; (repeat' split) <;> first | rfl | omega) ?_
      refine G.heap (show (va_up (va_up g (o + 1) (xB S 336 ((wnum k (wput 94 (tm3 k (tm2 c.toInt.natAbs k (tm1 c b))))).2))) o (.inr (1, [.ref (E.1 (o + 1)), .int (nI ((wnum k (wput 94 (tm3 k (tm2 c.toInt.natAbs k (tm1 c b))))).1))]))) = (va_up (va_up g (o + 1) (xB S 336 ((wtm c k b).2))) o (.inr (1, [.ref (E.1 (o + 1)), .int (nI ((wtm c k b).1))]))) from by rw [show (wtm c k b) = wnum k (wput 94 (tm3 k (tm2 c.toInt.natAbs k (tm1 c b)))) from if_pos h58]) ?_
      exact r_vret (pc := 72) C Z dX1_writeTerm_72 rfl
  have K45 : G M S E (0, 0) (va_up (va_up g (o + 1) (xB S 336 ((tm2 c.toInt.natAbs k (tm1 c b)).2))) o (.inr (1, [.ref (E.1 (o + 1)), .int (nI ((tm2 c.toInt.natAbs k (tm1 c b)).1))]))) 45 [some (.ref (E.1 o)), some (.int c), some (.int (nI k)), some (.int (nI c.toInt.natAbs))] [] := by
    refine r_iload_n (pc := 45) C dX1_writeTerm_45 rfl ?_
    refine r_iconst (pc := 46) (v := nI 1) C dX1_writeTerm_46 (by decide +kernel) ?_
    refine r_icmp_lt (pc := 47) (tgt := 56) C dX1_writeTerm_47 (by decide) (fun h47 => ?_) (fun h47 => ?_)
    · have h47 := c_lt (by omega) (by omega) h47
      refine G.heap (show (va_up (va_up g (o + 1) (xB S 336 ((tm2 c.toInt.natAbs k (tm1 c b)).2))) o (.inr (1, [.ref (E.1 (o + 1)), .int (nI ((tm2 c.toInt.natAbs k (tm1 c b)).1))]))) = (va_up (va_up g (o + 1) (xB S 336 ((tm3 k (tm2 c.toInt.natAbs k (tm1 c b))).2))) o (.inr (1, [.ref (E.1 (o + 1)), .int (nI ((tm3 k (tm2 c.toInt.natAbs k (tm1 c b))).1))]))) from by rw [show (tm3 k (tm2 c.toInt.natAbs k (tm1 c b))) = (tm2 c.toInt.natAbs k (tm1 c b)) from if_neg (by omega)]) ?_
      exact K56
    · have h47 := c_nlt (by omega) (by omega) h47
      refine r_aload_n (pc := 50) C dX1_writeTerm_50 rfl ?_
      refine r_bipush (pc := 51) (v := nI 113) C dX1_writeTerm_51 (by decide +kernel) ?_
      refine r_callV (pc := 53) C dX1_writeTerm_53 cv_RX1_23 (c_X1_put (b := (tm2 c.toInt.natAbs k (tm1 c b))) (Ce.new (Ce.up ho (by omega))) (Ce.up (Ce.new hf) (by omega)) 113 (by omega) (by omega)) ⟨rfl, rfl, by decide, by decide⟩ (Ce.new (Ce.up ho (by omega))) rfl rfl (Nat.le_of_ble_eq_true rfl) ⟨Nat.zero_le _, Nat.zero_le _⟩ ?_
      rintro _ _ ⟨rfl, rfl⟩
      show G M S E (0, 0) (va_up (va_up (va_up (va_up g (o + 1) (xB S 336 ((tm2 c.toInt.natAbs k (tm1 c b)).2))) o (.inr (1, [.ref (E.1 (o + 1)), .int (nI ((tm2 c.toInt.natAbs k (tm1 c b)).1))]))) (o + 1) (xB S 336 ((wput 113 (tm2 c.toInt.natAbs k (tm1 c b))).2))) o (.inr (1, [.ref (E.1 (o + 1)), .int (nI ((wput 113 (tm2 c.toInt.natAbs k (tm1 c b))).1))]))) 56 [some (.ref (E.1 o)), some (.int c), some (.int (nI k)), some (.int (nI c.toInt.natAbs))] []
      refine G.heap (show (va_up (va_up (va_up (va_up g (o + 1) (xB S 336 ((tm2 c.toInt.natAbs k (tm1 c b)).2))) o (.inr (1, [.ref (E.1 (o + 1)), .int (nI ((tm2 c.toInt.natAbs k (tm1 c b)).1))]))) (o + 1) (xB S 336 ((wput 113 (tm2 c.toInt.natAbs k (tm1 c b))).2))) o (.inr (1, [.ref (E.1 (o + 1)), .int (nI ((wput 113 (tm2 c.toInt.natAbs k (tm1 c b))).1))]))) = (va_up (va_up g (o + 1) (xB S 336 ((wput 113 (tm2 c.toInt.natAbs k (tm1 c b))).2))) o (.inr (1, [.ref (E.1 (o + 1)), .int (nI ((wput 113 (tm2 c.toInt.natAbs k (tm1 c b))).1))]))) from by funext q; simp only [va_up]; (repeat' split) <;> first | rfl | omega) ?_
      refine G.heap (show (va_up (va_up g (o + 1) (xB S 336 ((wput 113 (tm2 c.toInt.natAbs k (tm1 c b))).2))) o (.inr (1, [.ref (E.1 (o + 1)), .int (nI ((wput 113 (tm2 c.toInt.natAbs k (tm1 c b))).1))]))) = (va_up (va_up g (o + 1) (xB S 336 ((tm3 k (tm2 c.toInt.natAbs k (tm1 c b))).2))) o (.inr (1, [.ref (E.1 (o + 1)), .int (nI ((tm3 k (tm2 c.toInt.natAbs k (tm1 c b))).1))]))) from by rw [show (tm3 k (tm2 c.toInt.natAbs k (tm1 c b))) = wput 113 (tm2 c.toInt.natAbs k (tm1 c b)) from if_pos h47]) ?_
      exact K56
  have K26 : G M S E (0, 0) (va_up (va_up g (o + 1) (xB S 336 ((tm1 c b).2))) o (.inr (1, [.ref (E.1 (o + 1)), .int (nI ((tm1 c b).1))]))) 26 [some (.ref (E.1 o)), some (.int c), some (.int (nI k)), none] [] := by
    refine r_iload_n (pc := 26) C dX1_writeTerm_26 rfl ?_
    refine r_mabs (pc := 27) C dX1_writeTerm_27 qM_RX1_27 (by decide) (Nat.le_of_ble_eq_true rfl) ⟨Nat.zero_le _, Nat.zero_le _⟩ ?_
    rw [absI_nI hc]
    refine r_istore_n (pc := 30) C dX1_writeTerm_30 (by decide) ?_
    refine G.eq (pc' := 31) (vs' := [some (.ref (E.1 o)), some (.int c), some (.int (nI k)), some (.int (nI c.toInt.natAbs))]) (st' := []) ?_
    refine r_iload_n (pc := 31) C dX1_writeTerm_31 rfl ?_
    refine r_iconst (pc := 32) (v := nI 1) C dX1_writeTerm_32 (by decide +kernel) ?_
    refine r_icmp_ne (pc := 33) (tgt := 40) C dX1_writeTerm_33 (by decide) (fun h33 => ?_) (fun h33 => ?_)
    · have h33 := c_ne (by omega) (by omega) h33
      refine r_aload_n (pc := 40) C dX1_writeTerm_40 rfl ?_
      refine r_iload_n (pc := 41) C dX1_writeTerm_41 rfl ?_
      refine r_callV (pc := 42) C dX1_writeTerm_42 cv_RX1_33 (c_X1_writeNumber (b := (tm1 c b)) (Ce.new (Ce.up ho (by omega))) (Ce.up (Ce.new hf) (by omega)) c.toInt.natAbs (by omega) (wn_room9 (by omega))) ⟨rfl, rfl, by decide, by decide⟩ (Ce.new (Ce.up ho (by omega))) rfl rfl (Nat.le_of_ble_eq_true rfl) ⟨Nat.zero_le _, Nat.zero_le _⟩ ?_
      rintro _ _ ⟨rfl, rfl⟩
      show G M S E (0, 0) (va_up (va_up (va_up (va_up g (o + 1) (xB S 336 ((tm1 c b).2))) o (.inr (1, [.ref (E.1 (o + 1)), .int (nI ((tm1 c b).1))]))) (o + 1) (xB S 336 ((wnum c.toInt.natAbs (tm1 c b)).2))) o (.inr (1, [.ref (E.1 (o + 1)), .int (nI ((wnum c.toInt.natAbs (tm1 c b)).1))]))) 45 [some (.ref (E.1 o)), some (.int c), some (.int (nI k)), some (.int (nI c.toInt.natAbs))] []
      refine G.heap (show (va_up (va_up (va_up (va_up g (o + 1) (xB S 336 ((tm1 c b).2))) o (.inr (1, [.ref (E.1 (o + 1)), .int (nI ((tm1 c b).1))]))) (o + 1) (xB S 336 ((wnum c.toInt.natAbs (tm1 c b)).2))) o (.inr (1, [.ref (E.1 (o + 1)), .int (nI ((wnum c.toInt.natAbs (tm1 c b)).1))]))) = (va_up (va_up g (o + 1) (xB S 336 ((wnum c.toInt.natAbs (tm1 c b)).2))) o (.inr (1, [.ref (E.1 (o + 1)), .int (nI ((wnum c.toInt.natAbs (tm1 c b)).1))]))) from by funext q; simp only [va_up]; (repeat' split) <;> first | rfl | omega) ?_
      refine G.heap (show (va_up (va_up g (o + 1) (xB S 336 ((wnum c.toInt.natAbs (tm1 c b)).2))) o (.inr (1, [.ref (E.1 (o + 1)), .int (nI ((wnum c.toInt.natAbs (tm1 c b)).1))]))) = (va_up (va_up g (o + 1) (xB S 336 ((tm2 c.toInt.natAbs k (tm1 c b)).2))) o (.inr (1, [.ref (E.1 (o + 1)), .int (nI ((tm2 c.toInt.natAbs k (tm1 c b)).1))]))) from by rw [show (tm2 c.toInt.natAbs k (tm1 c b)) = wnum c.toInt.natAbs (tm1 c b) from if_neg (fun q => h33 q.1)]) ?_
      exact K45
    · have h33 := c_eq (by omega) (by omega) h33
      refine r_iload_n (pc := 36) C dX1_writeTerm_36 rfl ?_
      refine r_if_ne (pc := 37) (tgt := 45) C dX1_writeTerm_37 (by decide) (fun h37 => ?_) (fun h37 => ?_)
      · have h37 := z_ne (by omega) h37
        refine G.heap (show (va_up (va_up g (o + 1) (xB S 336 ((tm1 c b).2))) o (.inr (1, [.ref (E.1 (o + 1)), .int (nI ((tm1 c b).1))]))) = (va_up (va_up g (o + 1) (xB S 336 ((tm2 c.toInt.natAbs k (tm1 c b)).2))) o (.inr (1, [.ref (E.1 (o + 1)), .int (nI ((tm2 c.toInt.natAbs k (tm1 c b)).1))]))) from by rw [show (tm2 c.toInt.natAbs k (tm1 c b)) = (tm1 c b) from if_pos ⟨h33, h37⟩]) ?_
        exact K45
      · have h37 := z_eq (by omega) h37
        refine r_aload_n (pc := 40) C dX1_writeTerm_40 rfl ?_
        refine r_iload_n (pc := 41) C dX1_writeTerm_41 rfl ?_
        refine r_callV (pc := 42) C dX1_writeTerm_42 cv_RX1_33 (c_X1_writeNumber (b := (tm1 c b)) (Ce.new (Ce.up ho (by omega))) (Ce.up (Ce.new hf) (by omega)) c.toInt.natAbs (by omega) (wn_room9 (by omega))) ⟨rfl, rfl, by decide, by decide⟩ (Ce.new (Ce.up ho (by omega))) rfl rfl (Nat.le_of_ble_eq_true rfl) ⟨Nat.zero_le _, Nat.zero_le _⟩ ?_
        rintro _ _ ⟨rfl, rfl⟩
        show G M S E (0, 0) (va_up (va_up (va_up (va_up g (o + 1) (xB S 336 ((tm1 c b).2))) o (.inr (1, [.ref (E.1 (o + 1)), .int (nI ((tm1 c b).1))]))) (o + 1) (xB S 336 ((wnum c.toInt.natAbs (tm1 c b)).2))) o (.inr (1, [.ref (E.1 (o + 1)), .int (nI ((wnum c.toInt.natAbs (tm1 c b)).1))]))) 45 [some (.ref (E.1 o)), some (.int c), some (.int (nI k)), some (.int (nI c.toInt.natAbs))] []
        refine G.heap (show (va_up (va_up (va_up (va_up g (o + 1) (xB S 336 ((tm1 c b).2))) o (.inr (1, [.ref (E.1 (o + 1)), .int (nI ((tm1 c b).1))]))) (o + 1) (xB S 336 ((wnum c.toInt.natAbs (tm1 c b)).2))) o (.inr (1, [.ref (E.1 (o + 1)), .int (nI ((wnum c.toInt.natAbs (tm1 c b)).1))]))) = (va_up (va_up g (o + 1) (xB S 336 ((wnum c.toInt.natAbs (tm1 c b)).2))) o (.inr (1, [.ref (E.1 (o + 1)), .int (nI ((wnum c.toInt.natAbs (tm1 c b)).1))]))) from by funext q; simp only [va_up]; (repeat' split) <;> first | rfl | omega) ?_
        refine G.heap (show (va_up (va_up g (o + 1) (xB S 336 ((wnum c.toInt.natAbs (tm1 c b)).2))) o (.inr (1, [.ref (E.1 (o + 1)), .int (nI ((wnum c.toInt.natAbs (tm1 c b)).1))]))) = (va_up (va_up g (o + 1) (xB S 336 ((tm2 c.toInt.natAbs k (tm1 c b)).2))) o (.inr (1, [.ref (E.1 (o + 1)), .int (nI ((tm2 c.toInt.natAbs k (tm1 c b)).1))]))) from by rw [show (tm2 c.toInt.natAbs k (tm1 c b)) = wnum c.toInt.natAbs (tm1 c b) from if_neg (fun q => q.2 h37)]) ?_
        exact K45
  refine r_iload_n (pc := 0) C dX1_writeTerm_0 rfl ?_
  refine r_if_ge (pc := 1) (tgt := 13) C dX1_writeTerm_1 (by decide) (fun h1 => ?_) (fun h1 => ?_)
  · refine r_aload_n (pc := 13) C dX1_writeTerm_13 rfl ?_
    refine r_getf (pc := 14) C dX1_writeTerm_14 fl_RX1_15 (Ce.new (Ce.up ho (by omega))) rfl ?_
    refine r_if_le (pc := 17) (tgt := 26) C dX1_writeTerm_17 (by decide) (fun h17 => ?_) (fun h17 => ?_)
    · have h17 := z_le (by omega) h17
      refine G.heap (show (va_up (va_up g (o + 1) (xB S 336 b.2)) o (.inr (1, [.ref (E.1 (o + 1)), .int (nI b.1)]))) = (va_up (va_up g (o + 1) (xB S 336 ((tm1 c b).2))) o (.inr (1, [.ref (E.1 (o + 1)), .int (nI ((tm1 c b).1))]))) from by rw [show (tm1 c b) = b from (if_pos h1).trans (if_pos h17)]) ?_
      exact K26
    · have h17 := z_nle (by omega) h17
      refine r_aload_n (pc := 20) C dX1_writeTerm_20 rfl ?_
      refine r_bipush (pc := 21) (v := nI 43) C dX1_writeTerm_21 (by decide +kernel) ?_
      refine r_callV (pc := 23) C dX1_writeTerm_23 cv_RX1_23 (c_X1_put (b := b) (Ce.new (Ce.up ho (by omega))) (Ce.up (Ce.new hf) (by omega)) 43 (by omega) (by omega)) ⟨rfl, rfl, by decide, by decide⟩ (Ce.new (Ce.up ho (by omega))) rfl rfl (Nat.le_of_ble_eq_true rfl) ⟨Nat.zero_le _, Nat.zero_le _⟩ ?_
      rintro _ _ ⟨rfl, rfl⟩
      show G M S E (0, 0) (va_up (va_up (va_up (va_up g (o + 1) (xB S 336 b.2)) o (.inr (1, [.ref (E.1 (o + 1)), .int (nI b.1)]))) (o + 1) (xB S 336 ((wput 43 b).2))) o (.inr (1, [.ref (E.1 (o + 1)), .int (nI ((wput 43 b).1))]))) 26 [some (.ref (E.1 o)), some (.int c), some (.int (nI k)), none] []
      refine G.heap (show (va_up (va_up (va_up (va_up g (o + 1) (xB S 336 b.2)) o (.inr (1, [.ref (E.1 (o + 1)), .int (nI b.1)]))) (o + 1) (xB S 336 ((wput 43 b).2))) o (.inr (1, [.ref (E.1 (o + 1)), .int (nI ((wput 43 b).1))]))) = (va_up (va_up g (o + 1) (xB S 336 ((wput 43 b).2))) o (.inr (1, [.ref (E.1 (o + 1)), .int (nI ((wput 43 b).1))]))) from by funext q; simp only [va_up]; (repeat' split) <;> first | rfl | omega) ?_
      refine G.heap (show (va_up (va_up g (o + 1) (xB S 336 ((wput 43 b).2))) o (.inr (1, [.ref (E.1 (o + 1)), .int (nI ((wput 43 b).1))]))) = (va_up (va_up g (o + 1) (xB S 336 ((tm1 c b).2))) o (.inr (1, [.ref (E.1 (o + 1)), .int (nI ((tm1 c b).1))]))) from by rw [show (tm1 c b) = wput 43 b from (if_pos h1).trans (if_neg (by omega))]) ?_
      exact K26
  · refine r_aload_n (pc := 4) C dX1_writeTerm_4 rfl ?_
    refine r_bipush (pc := 5) (v := nI 45) C dX1_writeTerm_5 (by decide +kernel) ?_
    refine r_callV (pc := 7) C dX1_writeTerm_7 cv_RX1_23 (c_X1_put (b := b) (Ce.new (Ce.up ho (by omega))) (Ce.up (Ce.new hf) (by omega)) 45 (by omega) (by omega)) ⟨rfl, rfl, by decide, by decide⟩ (Ce.new (Ce.up ho (by omega))) rfl rfl (Nat.le_of_ble_eq_true rfl) ⟨Nat.zero_le _, Nat.zero_le _⟩ ?_
    rintro _ _ ⟨rfl, rfl⟩
    show G M S E (0, 0) (va_up (va_up (va_up (va_up g (o + 1) (xB S 336 b.2)) o (.inr (1, [.ref (E.1 (o + 1)), .int (nI b.1)]))) (o + 1) (xB S 336 ((wput 45 b).2))) o (.inr (1, [.ref (E.1 (o + 1)), .int (nI ((wput 45 b).1))]))) 10 [some (.ref (E.1 o)), some (.int c), some (.int (nI k)), none] []
    refine G.heap (show (va_up (va_up (va_up (va_up g (o + 1) (xB S 336 b.2)) o (.inr (1, [.ref (E.1 (o + 1)), .int (nI b.1)]))) (o + 1) (xB S 336 ((wput 45 b).2))) o (.inr (1, [.ref (E.1 (o + 1)), .int (nI ((wput 45 b).1))]))) = (va_up (va_up g (o + 1) (xB S 336 ((wput 45 b).2))) o (.inr (1, [.ref (E.1 (o + 1)), .int (nI ((wput 45 b).1))]))) from by funext q; simp only [va_up]; (repeat' split) <;> first | rfl | omega) ?_
    refine r_goto (pc := 10) (tgt := 26) C dX1_writeTerm_10 (by decide) ?_
    refine G.heap (show (va_up (va_up g (o + 1) (xB S 336 ((wput 45 b).2))) o (.inr (1, [.ref (E.1 (o + 1)), .int (nI ((wput 45 b).1))]))) = (va_up (va_up g (o + 1) (xB S 336 ((tm1 c b).2))) o (.inr (1, [.ref (E.1 (o + 1)), .int (nI ((tm1 c b).1))]))) from by rw [show (tm1 c b) = wput 45 b from if_neg h1]) ?_
    exact K26
set_option maxHeartbeats 4000000 in
set_option maxRecDepth 100000 in
theorem c_X1_writeSeries {S : ST} {E : ET} {g : Nat → va_E} {o : Nat} {b : BV} (ho : Ce E g o (.inr (1, [.ref (E.1 (o + 1)), .int (nI b.1)]))) (hf : Ce E g (o + 1) (xB S 336 b.2)) {ia : Nat} {a : Nat → Int32} (ha : Ce E g ia (xI S 24 a)) (h1 : ia ≠ o) (h2 : ia ≠ o + 1) (N : Nat) (hN : N ≤ 24) (hr : ∀ j, j < N → rgI (a j)) : CtV S E yX1_writeSeries cX1_writeSeries 4 none rmX1_writeSeries [.ref (E.1 o), .ref (E.1 ia), .int (nI N)] g (fun g' => g' = va_up (va_up g (o + 1) (xB S 336 (wser a N b.2).2)) o (.inr (1, [.ref (E.1 (o + 1)), .int (nI (wser a N b.2).1)]))) := by
  refine Ct.of RX1 (by decide +kernel) rfl (Nat.le_of_ble_eq_true rfl) (fun M C Z => ?_)
  refine G.eq (pc' := 0) (vs' := [some (.ref (E.1 o)), some (.ref (E.1 ia)), some (.int (nI N)), none]) (st' := []) ?_
  refine r_aload_n (pc := 0) C dX1_writeSeries_0 rfl ?_
  refine r_iconst (pc := 1) (v := nI 0) C dX1_writeSeries_1 (by decide +kernel) ?_
  refine r_putf (pc := 2) C dX1_writeSeries_2 fp_RX1_15 ho rfl rfl (Nat.le_of_ble_eq_true rfl) ?_
  refine r_iconst (pc := 5) (v := nI 0) C dX1_writeSeries_5 (by decide +kernel) ?_
  refine r_istore_n (pc := 6) C dX1_writeSeries_6 (by decide) ?_
  refine G.eq (pc' := 7) (vs' := [some (.ref (E.1 o)), some (.ref (E.1 ia)), some (.int (nI N)), some (.int (nI 0))]) (st' := []) ?_
  refine G.heap (Ce.id (Ce.up hf (by omega))) ?_
  refine G.heap (show (va_up (va_up g o (.inr (1, [.ref (E.1 (o + 1)), .int (nI 0)]))) (o + 1) (xB S 336 b.2)) = (va_up (va_up g (o + 1) (xB S 336 ((0, b.2).2))) o (.inr (1, [.ref (E.1 (o + 1)), .int (nI ((0, b.2).1))]))) from up_comm (by omega)) ?_
  refine bk (P := fun t => G M S E (0, 0) (va_up (va_up g (o + 1) (xB S 336 ((it (wsF a) t (0, b.2)).2))) o (.inr (1, [.ref (E.1 (o + 1)), .int (nI ((it (wsF a) t (0, b.2)).1))]))) 7 [some (.ref (E.1 o)), some (.ref (E.1 ia)), some (.int (nI N)), some (.int (nI t))] []) (T := N) ?_ (fun t ht ih => ?_)
  · show G M S E (0, 0) (va_up (va_up g (o + 1) (xB S 336 ((it (wsF a) N (0, b.2)).2))) o (.inr (1, [.ref (E.1 (o + 1)), .int (nI ((it (wsF a) N (0, b.2)).1))]))) 7 [some (.ref (E.1 o)), some (.ref (E.1 ia)), some (.int (nI N)), some (.int (nI N))] []
    refine r_iload_n (pc := 7) C dX1_writeSeries_7 rfl ?_
    refine r_iload_n (pc := 8) C dX1_writeSeries_8 rfl ?_
    refine r_icmp_ge (pc := 9) (tgt := 32) C dX1_writeSeries_9 (by decide) (fun h9 => ?_) (fun h9 => ?_)
    · have h9 := c_le (by omega) (by omega) h9
      have hlen := wsI_len a b.2 N (by omega)
      refine r_aload_n (pc := 32) C dX1_writeSeries_32 rfl ?_
      refine r_getf (pc := 33) C dX1_writeSeries_33 fl_RX1_15 (Ce.new (Ce.up ho (by omega))) rfl ?_
      refine r_if_ne (pc := 36) (tgt := 45) C dX1_writeSeries_36 (by decide) (fun h36 => ?_) (fun h36 => ?_)
      · have h36 := z_ne (by omega) h36
        refine G.heap (show (va_up (va_up g (o + 1) (xB S 336 ((it (wsF a) N (0, b.2)).2))) o (.inr (1, [.ref (E.1 (o + 1)), .int (nI ((it (wsF a) N (0, b.2)).1))]))) = (va_up (va_up g (o + 1) (xB S 336 ((wser a N b.2).2))) o (.inr (1, [.ref (E.1 (o + 1)), .int (nI ((wser a N b.2).1))]))) from by rw [show (wser a N b.2) = (it (wsF a) N (0, b.2)) from if_neg h36]) ?_
        exact r_vret (pc := 45) C Z dX1_writeSeries_45 rfl
      · have h36 := z_eq (by omega) h36
        refine r_aload_n (pc := 39) C dX1_writeSeries_39 rfl ?_
        refine r_bipush (pc := 40) (v := nI 48) C dX1_writeSeries_40 (by decide +kernel) ?_
        refine r_callV (pc := 42) C dX1_writeSeries_42 cv_RX1_23 (c_X1_put (b := (it (wsF a) N (0, b.2))) (Ce.new (Ce.up ho (by omega))) (Ce.up (Ce.new hf) (by omega)) 48 (by omega) (by omega)) ⟨rfl, rfl, by decide, by decide⟩ (Ce.new (Ce.up ho (by omega))) rfl rfl (Nat.le_of_ble_eq_true rfl) ⟨Nat.zero_le _, Nat.zero_le _⟩ ?_
        rintro _ _ ⟨rfl, rfl⟩
        show G M S E (0, 0) (va_up (va_up (va_up (va_up g (o + 1) (xB S 336 ((it (wsF a) N (0, b.2)).2))) o (.inr (1, [.ref (E.1 (o + 1)), .int (nI ((it (wsF a) N (0, b.2)).1))]))) (o + 1) (xB S 336 ((wput 48 (it (wsF a) N (0, b.2))).2))) o (.inr (1, [.ref (E.1 (o + 1)), .int (nI ((wput 48 (it (wsF a) N (0, b.2))).1))]))) 45 [some (.ref (E.1 o)), some (.ref (E.1 ia)), some (.int (nI N)), some (.int (nI N))] []
        refine G.heap (show (va_up (va_up (va_up (va_up g (o + 1) (xB S 336 ((it (wsF a) N (0, b.2)).2))) o (.inr (1, [.ref (E.1 (o + 1)), .int (nI ((it (wsF a) N (0, b.2)).1))]))) (o + 1) (xB S 336 ((wput 48 (it (wsF a) N (0, b.2))).2))) o (.inr (1, [.ref (E.1 (o + 1)), .int (nI ((wput 48 (it (wsF a) N (0, b.2))).1))]))) = (va_up (va_up g (o + 1) (xB S 336 ((wput 48 (it (wsF a) N (0, b.2))).2))) o (.inr (1, [.ref (E.1 (o + 1)), .int (nI ((wput 48 (it (wsF a) N (0, b.2))).1))]))) from by funext q; simp only [va_up]; (repeat' split) <;> first | rfl | omega) ?_
        refine G.heap (show (va_up (va_up g (o + 1) (xB S 336 ((wput 48 (it (wsF a) N (0, b.2))).2))) o (.inr (1, [.ref (E.1 (o + 1)), .int (nI ((wput 48 (it (wsF a) N (0, b.2))).1))]))) = (va_up (va_up g (o + 1) (xB S 336 ((wser a N b.2).2))) o (.inr (1, [.ref (E.1 (o + 1)), .int (nI ((wser a N b.2).1))]))) from by rw [show (wser a N b.2) = wput 48 (it (wsF a) N (0, b.2)) from if_pos h36]) ?_
        exact r_vret (pc := 45) C Z dX1_writeSeries_45 rfl
    · have h9 := c_nle (by omega) (by omega) h9
      omega
  · show G M S E (0, 0) (va_up (va_up g (o + 1) (xB S 336 ((it (wsF a) t (0, b.2)).2))) o (.inr (1, [.ref (E.1 (o + 1)), .int (nI ((it (wsF a) t (0, b.2)).1))]))) 7 [some (.ref (E.1 o)), some (.ref (E.1 ia)), some (.int (nI N)), some (.int (nI t))] []
    refine r_iload_n (pc := 7) C dX1_writeSeries_7 rfl ?_
    refine r_iload_n (pc := 8) C dX1_writeSeries_8 rfl ?_
    refine r_icmp_ge (pc := 9) (tgt := 32) C dX1_writeSeries_9 (by decide) (fun h9 => ?_) (fun h9 => ?_)
    · have h9 := c_le (by omega) (by omega) h9
      omega
    · have h9 := c_nle (by omega) (by omega) h9
      have hlen := wsI_len a b.2 t (by omega)
      refine r_aload_n (pc := 12) C dX1_writeSeries_12 rfl ?_
      refine r_iload_n (pc := 13) C dX1_writeSeries_13 rfl ?_
      refine r_iald (pc := 14) C dX1_writeSeries_14 (Ce.up (Ce.up ha (by omega)) (by omega)) rfl (by omega) (by omega) ?_
      refine r_if_eq (pc := 15) (tgt := 26) C dX1_writeSeries_15 (by decide) (fun h15 => ?_) (fun h15 => ?_)
      · refine G.heap (show (va_up (va_up g (o + 1) (xB S 336 ((it (wsF a) t (0, b.2)).2))) o (.inr (1, [.ref (E.1 (o + 1)), .int (nI ((it (wsF a) t (0, b.2)).1))]))) = (va_up (va_up g (o + 1) (xB S 336 ((wsF a t (it (wsF a) t (0, b.2))).2))) o (.inr (1, [.ref (E.1 (o + 1)), .int (nI ((wsF a t (it (wsF a) t (0, b.2))).1))]))) from by rw [show wsF a t (it (wsF a) t (0, b.2)) = (it (wsF a) t (0, b.2)) from if_pos h15]) ?_
        refine r_iinc (pc := 26) (v := nI (t + 1)) C dX1_writeSeries_26 rfl (nI_i1 _) (by decide) ?_
        refine G.eq (pc' := 29) (vs' := [some (.ref (E.1 o)), some (.ref (E.1 ia)), some (.int (nI N)), some (.int (nI (t + 1)))]) (st' := []) ?_
        refine r_goto (pc := 29) (tgt := 7) C dX1_writeSeries_29 (by decide) ?_
        exact ih
      · refine r_aload_n (pc := 18) C dX1_writeSeries_18 rfl ?_
        refine r_aload_n (pc := 19) C dX1_writeSeries_19 rfl ?_
        refine r_iload_n (pc := 20) C dX1_writeSeries_20 rfl ?_
        refine r_iald (pc := 21) C dX1_writeSeries_21 (Ce.up (Ce.up ha (by omega)) (by omega)) rfl (by omega) (by omega) ?_
        refine r_iload_n (pc := 22) C dX1_writeSeries_22 rfl ?_
        refine r_callV (pc := 23) C dX1_writeSeries_23 cv_RX1_19 (c_X1_writeTerm (b := (it (wsF a) t (0, b.2))) (Ce.new (Ce.up ho (by omega))) (Ce.up (Ce.new hf) (by omega)) (a t) t (hr t (by omega)) (by omega) (by omega)) ⟨rfl, rfl, by decide, by decide⟩ (Ce.new (Ce.up ho (by omega))) rfl rfl (Nat.le_of_ble_eq_true rfl) ⟨Nat.zero_le _, Nat.zero_le _⟩ ?_
        rintro _ _ ⟨rfl, rfl⟩
        show G M S E (0, 0) (va_up (va_up (va_up (va_up g (o + 1) (xB S 336 ((it (wsF a) t (0, b.2)).2))) o (.inr (1, [.ref (E.1 (o + 1)), .int (nI ((it (wsF a) t (0, b.2)).1))]))) (o + 1) (xB S 336 ((wtm (a t) t (it (wsF a) t (0, b.2))).2))) o (.inr (1, [.ref (E.1 (o + 1)), .int (nI ((wtm (a t) t (it (wsF a) t (0, b.2))).1))]))) 26 [some (.ref (E.1 o)), some (.ref (E.1 ia)), some (.int (nI N)), some (.int (nI t))] []
        refine G.heap (show (va_up (va_up (va_up (va_up g (o + 1) (xB S 336 ((it (wsF a) t (0, b.2)).2))) o (.inr (1, [.ref (E.1 (o + 1)), .int (nI ((it (wsF a) t (0, b.2)).1))]))) (o + 1) (xB S 336 ((wtm (a t) t (it (wsF a) t (0, b.2))).2))) o (.inr (1, [.ref (E.1 (o + 1)), .int (nI ((wtm (a t) t (it (wsF a) t (0, b.2))).1))]))) = (va_up (va_up g (o + 1) (xB S 336 ((wtm (a t) t (it (wsF a) t (0, b.2))).2))) o (.inr (1, [.ref (E.1 (o + 1)), .int (nI ((wtm (a t) t (it (wsF a) t (0, b.2))).1))]))) from by funext q; simp only [va_up]; (repeat' split) <;> first | rfl | omega) ?_
        refine G.heap (show (va_up (va_up g (o + 1) (xB S 336 ((wtm (a t) t (it (wsF a) t (0, b.2))).2))) o (.inr (1, [.ref (E.1 (o + 1)), .int (nI ((wtm (a t) t (it (wsF a) t (0, b.2))).1))]))) = (va_up (va_up g (o + 1) (xB S 336 ((wsF a t (it (wsF a) t (0, b.2))).2))) o (.inr (1, [.ref (E.1 (o + 1)), .int (nI ((wsF a t (it (wsF a) t (0, b.2))).1))]))) from by rw [show wsF a t (it (wsF a) t (0, b.2)) = wtm (a t) t (it (wsF a) t (0, b.2)) from if_neg h15]) ?_
        refine r_iinc (pc := 26) (v := nI (t + 1)) C dX1_writeSeries_26 rfl (nI_i1 _) (by decide) ?_
        refine G.eq (pc' := 29) (vs' := [some (.ref (E.1 o)), some (.ref (E.1 ia)), some (.int (nI N)), some (.int (nI (t + 1)))]) (st' := []) ?_
        refine r_goto (pc := 29) (tgt := 7) C dX1_writeSeries_29 (by decide) ?_
        exact ih
