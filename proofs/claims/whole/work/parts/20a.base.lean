/-! the model's small methods -/
theorem b2i_and (a b : Bool) : b2i a &&& b2i b = b2i (a && b) := by cases a <;> cases b <;> rfl
def btw (v a b : Int64) : Bool := decide (a ≤ v) && decide (v ≤ b)
theorem btw_hix {x : Int32} {n : Nat} {h : Int64} (hn : n < 2 ^ 31) (hh : h.toInt = (n : Int) - 1) : btw x.toInt64 0 h = hix n x := by
  unfold btw hix
  congr 1
  · rw [decide_eq_decide, Int64.le_iff_toInt_le, Int32.toInt_toInt64, Int32.lt_iff_toInt_lt]
    show (0 : Int) ≤ _ ↔ ¬ _ < (0 : Int)
    omega
  · rw [decide_eq_decide, Int64.le_iff_toInt_le, Int32.toInt_toInt64, Int32.le_iff_toInt_le, nI_toInt hn, hh]
    omega
def ldF (N : Nat) (f : Nat → Int64) (a k : Nat) : Int64 := if k < N then f (a + k) else 0
def oneF (k : Nat) : Int64 := if k = 0 then 1 else 0
def tmP (N sh k : Nat) (c : Nat → Int64) : Nat → Int64 := it (fun t f => tmF N (sh + (1 + t)) f) k c
def ovP (N sh k : Nat) (c : Nat → Int64) : Nat → Int64 := it (fun t f => ovF N (sh + (1 + t)) f) k c
theorem tmP_eq (N sh k : Nat) (c : Nat → Int64) : tmP N sh k c = tmFs N (sh + 1) k c := it_cong (fun j s _ => by rw [Nat.add_assoc])
theorem ovP_eq (N sh k : Nat) (c : Nat → Int64) : ovP N sh k c = ovFs N (sh + 1) k c := it_cong (fun j s _ => by rw [Nat.add_assoc])
def shF (N p : Nat) (c : Nat → Int64) (t : Nat) : Nat → Int64 := it (fun t f => vp_updL f (N - t - 1) (if p ≤ N - t - 1 then f (N - t - 1 - p) else 0)) t c
def cp120 (f : Nat → Int64) (a : Nat) (h : Nat → Int64) (b : Nat) : Nat → Int64 := fun j => if b ≤ j ∧ j < b + 120 then f (a + (j - b)) else h j
theorem it_cp (f : Nat → Int64) (a : Nat) (h : Nat → Int64) (b : Nat) : ∀ t j : Nat, it (fun t h => vp_updL h (b + t) (f (a + t))) t h j = if b ≤ j ∧ j < b + t then f (a + (j - b)) else h j
  | 0, j => by rw [if_neg (by omega)]; rfl
  | t + 1, j => by
    show (if j = b + t then f (a + t) else it (fun t h => vp_updL h (b + t) (f (a + t))) t h j) = _
    by_cases e : j = b + t
    · subst e
      rw [if_pos rfl, if_pos (by omega), Nat.add_sub_cancel_left]
    · rw [if_neg e, it_cp f a h b t j]
      by_cases q : b ≤ j ∧ j < b + t
      · rw [if_pos q, if_pos (by omega)]
      · rw [if_neg q, if_neg (by omega)]
def nzL (N : Nat) (c : Nat → Int64) : Nat := cntN (fun k => decide (¬ c k = 0)) N
set_option maxHeartbeats 4000000 in
set_option maxRecDepth 100000 in
theorem c_X8_isBetween {S : ST} {E : ET} {g : Nat → va_E} (v a b : Int64) : CtI S E yX8_isBetween cX8_isBetween 6 (Option.some FieldType.boolean) rmX8_isBetween [.long v, .long a, .long b] g (fun u g' => u = b2i (btw v a b) ∧ g = g') := by
  refine Ct.of RX8 (by decide +kernel) rfl (Nat.le_of_ble_eq_true rfl) (fun M C Z => ?_)
  refine G.eq (pc' := 0) (vs' := [some (.long v), none, some (.long a), none, some (.long b), none]) (st' := []) ?_
  refine r_lload_n (pc := 0) C dX8_isBetween_0 rfl ?_
  refine r_lload_n (pc := 1) C dX8_isBetween_1 rfl ?_
  refine r_lcmp (pc := 2) C dX8_isBetween_2 ?_
  refine r_if_lt (pc := 3) (tgt := 17) C dX8_isBetween_3 (by decide) (fun h3 => ?_) (fun h3 => ?_)
  · have h3 := k_lt h3
    refine r_iconst (pc := 17) (v := nI 0) C dX8_isBetween_17 (by decide +kernel) ?_
    exact r_iret (pc := 18) C Z dX8_isBetween_18 rfl (⟨by rw [show btw v a b = false by unfold btw; rw [show decide (a ≤ v) = false from dF h3]; rfl]; rfl, rfl⟩)
  · have h3 := k_nlt h3
    refine r_lload_n (pc := 6) C dX8_isBetween_6 rfl ?_
    refine r_lload (pc := 7) C dX8_isBetween_7 rfl ?_
    refine r_lcmp (pc := 9) C dX8_isBetween_9 ?_
    refine r_if_gt (pc := 10) (tgt := 17) C dX8_isBetween_10 (by decide) (fun h10 => ?_) (fun h10 => ?_)
    · have h10 := k_gt h10
      refine r_iconst (pc := 17) (v := nI 0) C dX8_isBetween_17 (by decide +kernel) ?_
      exact r_iret (pc := 18) C Z dX8_isBetween_18 rfl (⟨by rw [show btw v a b = false by unfold btw; rw [show decide (a ≤ v) = true from dT h3, show decide (v ≤ b) = false from dF (Int64.not_le.mpr h10)]; rfl]; rfl, rfl⟩)
    · have h10 := k_ngt h10
      refine r_iconst (pc := 13) (v := nI 1) C dX8_isBetween_13 (by decide +kernel) ?_
      refine r_goto (pc := 14) (tgt := 18) C dX8_isBetween_14 (by decide) ?_
      exact r_iret (pc := 18) C Z dX8_isBetween_18 rfl (⟨by rw [show btw v a b = true by unfold btw; rw [show decide (a ≤ v) = true from dT h3, show decide (v ≤ b) = true from dT (Int64.not_lt.mp h10)]; rfl]; rfl, rfl⟩)
set_option maxHeartbeats 4000000 in
set_option maxRecDepth 100000 in
theorem c_X8_isRegister {S : ST} {E : ET} {g : Nat → va_E} (x : Int32) : CtI S E yX8_isRegister cX8_isRegister 1 (Option.some FieldType.boolean) rmX8_isRegister [.int x] g (fun u g' => u = b2i (hix 6 x) ∧ g = g') := by
  refine Ct.of RX8 (by decide +kernel) rfl (Nat.le_of_ble_eq_true rfl) (fun M C Z => ?_)
  refine G.eq (pc' := 0) (vs' := [some (.int x)]) (st' := []) ?_
  refine r_iload_n (pc := 0) C dX8_isRegister_0 rfl ?_
  refine r_i2l (pc := 1) C dX8_isRegister_1 ?_
  refine r_lconst (pc := 2) (v := 0) C dX8_isRegister_2 rfl ?_
  refine r_ldc2 (pc := 3) C dX8_isRegister_3 qK_RX8_5 ?_
  refine r_callS (pc := 6) C dX8_isRegister_6 cs_RX8_7 (c_X8_isBetween x.toInt64 0 5) ⟨rfl, rfl, by decide, by decide⟩ rfl rfl (Nat.le_of_ble_eq_true rfl) ⟨Nat.zero_le _, Nat.zero_le _⟩ ?_
  rintro _ _ ⟨_, rfl, rfl, rfl⟩
  show G M S E (0, 0) g 9 [some (.int x)] [.int (b2i (btw x.toInt64 0 5))]
  exact r_iret (pc := 9) C Z dX8_isRegister_9 (b_n _) (⟨by rw [← btw_hix (n := 6) (h := 5) (by decide) (by decide)], rfl⟩)
set_option maxHeartbeats 4000000 in
set_option maxRecDepth 100000 in
theorem c_X8_isSlot {S : ST} {E : ET} {g : Nat → va_E} (x : Int32) : CtI S E yX8_isSlot cX8_isSlot 1 (Option.some FieldType.boolean) rmX8_isSlot [.int x] g (fun u g' => u = b2i (hix 4 x) ∧ g = g') := by
  refine Ct.of RX8 (by decide +kernel) rfl (Nat.le_of_ble_eq_true rfl) (fun M C Z => ?_)
  refine G.eq (pc' := 0) (vs' := [some (.int x)]) (st' := []) ?_
  refine r_iload_n (pc := 0) C dX8_isSlot_0 rfl ?_
  refine r_i2l (pc := 1) C dX8_isSlot_1 ?_
  refine r_lconst (pc := 2) (v := 0) C dX8_isSlot_2 rfl ?_
  refine r_ldc2 (pc := 3) C dX8_isSlot_3 qK_RX8_158 ?_
  refine r_callS (pc := 6) C dX8_isSlot_6 cs_RX8_7 (c_X8_isBetween x.toInt64 0 3) ⟨rfl, rfl, by decide, by decide⟩ rfl rfl (Nat.le_of_ble_eq_true rfl) ⟨Nat.zero_le _, Nat.zero_le _⟩ ?_
  rintro _ _ ⟨_, rfl, rfl, rfl⟩
  show G M S E (0, 0) g 9 [some (.int x)] [.int (b2i (btw x.toInt64 0 3))]
  exact r_iret (pc := 9) C Z dX8_isSlot_9 (b_n _) (⟨by rw [← btw_hix (n := 4) (h := 3) (by decide) (by decide)], rfl⟩)
set_option maxHeartbeats 4000000 in
set_option maxRecDepth 100000 in
theorem c_X8_load {S : ST} {E : ET} {g : Nat → va_E} {iq N : Nat} {fs : List Value} (ho : Ce E g iq (.inr (8, fs))) (h0 : fs[0]? = some (.int (nI N))) (hN : N ≤ 24) {ic : Nat} {c : Nat → Int64} (hc : Ce E g ic (xJ S 24 c)) (hne : iq ≠ ic) {ia n1 : Nat} {f : Nat → Int64} (ha : Ce E g ia (xJ S n1 f)) (hna : ia ≠ ic) (a : Nat) (hn1 : a + 24 ≤ n1) (hn2 : n1 < 2 ^ 30) : CtV S E yX8_load cX8_load 5 none rmX8_load [.ref (E.1 iq), .ref (E.1 ia), .int (nI a), .ref (E.1 ic)] g (fun g' => g' = va_up g ic (xJ S 24 (ldF N f a))) := by
  refine Ct.of RX8 (by decide +kernel) rfl (Nat.le_of_ble_eq_true rfl) (fun M C Z => ?_)
  refine G.eq (pc' := 0) (vs' := [some (.ref (E.1 iq)), some (.ref (E.1 ia)), some (.int (nI a)), some (.ref (E.1 ic)), none]) (st' := []) ?_
  refine r_iconst (pc := 0) (v := nI 0) C dX8_load_0 (by decide +kernel) ?_
  refine r_istore (pc := 1) C dX8_load_1 (by decide) ?_
  refine G.eq (pc' := 3) (vs' := [some (.ref (E.1 iq)), some (.ref (E.1 ia)), some (.int (nI a)), some (.ref (E.1 ic)), some (.int (nI 0))]) (st' := []) ?_
  refine G.heap (Ce.id hc) ?_
  refine bk (P := fun t => G M S E (0, 0) (va_up g ic (xJ S 24 (it (fun t h => vp_updL h t (ldF N f a t)) t c))) 3 [some (.ref (E.1 iq)), some (.ref (E.1 ia)), some (.int (nI a)), some (.ref (E.1 ic)), some (.int (nI t))] []) (T := 24) ?_ (fun t ht ih => ?_)
  · show G M S E (0, 0) (va_up g ic (xJ S 24 (it (fun t h => vp_updL h t (ldF N f a t)) 24 c))) 3 [some (.ref (E.1 iq)), some (.ref (E.1 ia)), some (.int (nI a)), some (.ref (E.1 ic)), some (.int (nI 24))] []
    refine r_iload (pc := 3) C dX8_load_3 rfl ?_
    refine r_bipush (pc := 5) (v := nI 24) C dX8_load_5 (by decide +kernel) ?_
    refine r_icmp_ge (pc := 7) (tgt := 39) C dX8_load_7 (by decide) (fun h7 => ?_) (fun h7 => ?_)
    · have h7 := c_le (by omega) (by omega) h7
      refine G.cJ (f' := ldF N f a) (fun j hj => by rw [it_putL]; exact if_pos hj) ?_
      exact r_vret (pc := 39) C Z dX8_load_39 rfl
    · have h7 := c_nle (by omega) (by omega) h7
      omega
  · show G M S E (0, 0) (va_up g ic (xJ S 24 (it (fun t h => vp_updL h t (ldF N f a t)) t c))) 3 [some (.ref (E.1 iq)), some (.ref (E.1 ia)), some (.int (nI a)), some (.ref (E.1 ic)), some (.int (nI t))] []
    refine r_iload (pc := 3) C dX8_load_3 rfl ?_
    refine r_bipush (pc := 5) (v := nI 24) C dX8_load_5 (by decide +kernel) ?_
    refine r_icmp_ge (pc := 7) (tgt := 39) C dX8_load_7 (by decide) (fun h7 => ?_) (fun h7 => ?_)
    · have h7 := c_le (by omega) (by omega) h7
      omega
    · have h7 := c_nle (by omega) (by omega) h7
      refine r_aload_n (pc := 10) C dX8_load_10 rfl ?_
      refine r_iload (pc := 11) C dX8_load_11 rfl ?_
      refine r_iload (pc := 13) C dX8_load_13 rfl ?_
      refine r_aload_n (pc := 15) C dX8_load_15 rfl ?_
      refine r_getf (pc := 16) C dX8_load_16 fl_RX8_17 (Ce.up ho (by omega)) h0 ?_
      refine r_icmp_ge (pc := 19) (tgt := 31) C dX8_load_19 (by decide) (fun h19 => ?_) (fun h19 => ?_)
      · have h19 := c_le (by omega) (by omega) h19
        refine r_lconst (pc := 31) (v := 0) C dX8_load_31 rfl ?_
        refine r_tl (ldF N f a t) (if_neg (by omega)).symm ?_
        refine r_last2 (pc := 32) C dX8_load_32 hc.1 rfl (by omega) (by omega) ?_
        refine r_iinc (pc := 33) (v := nI (t + 1)) C dX8_load_33 rfl (nI_i1 _) (by decide) ?_
        refine G.eq (pc' := 36) (vs' := [some (.ref (E.1 iq)), some (.ref (E.1 ia)), some (.int (nI a)), some (.ref (E.1 ic)), some (.int (nI (t + 1)))]) (st' := []) ?_
        refine r_goto (pc := 36) (tgt := 3) C dX8_load_36 (by decide) ?_
        exact ih
      · have h19 := c_nle (by omega) (by omega) h19
        refine r_aload_n (pc := 22) C dX8_load_22 rfl ?_
        refine r_iload_n (pc := 23) C dX8_load_23 rfl ?_
        refine r_iload (pc := 24) C dX8_load_24 rfl ?_
        refine r_iadd (pc := 26) C dX8_load_26 ?_
        refine r_ti (nI (a + t)) (nI_add _ _) ?_
        refine r_lald (pc := 27) C dX8_load_27 (Ce.up ha (by omega)) rfl (by omega) (by omega) ?_
        refine r_goto (pc := 28) (tgt := 32) C dX8_load_28 (by decide) ?_
        refine r_tl (ldF N f a t) (if_pos (by omega)).symm ?_
        refine r_last2 (pc := 32) C dX8_load_32 hc.1 rfl (by omega) (by omega) ?_
        refine r_iinc (pc := 33) (v := nI (t + 1)) C dX8_load_33 rfl (nI_i1 _) (by decide) ?_
        refine G.eq (pc' := 36) (vs' := [some (.ref (E.1 iq)), some (.ref (E.1 ia)), some (.int (nI a)), some (.ref (E.1 ic)), some (.int (nI (t + 1)))]) (st' := []) ?_
        refine r_goto (pc := 36) (tgt := 3) C dX8_load_36 (by decide) ?_
        exact ih
set_option maxHeartbeats 4000000 in
set_option maxRecDepth 100000 in
theorem c_X8_makeOne {S : ST} {E : ET} {g : Nat → va_E} {iq : Nat} {ic : Nat} {c : Nat → Int64} (hc : Ce E g ic (xJ S 24 c)) (hne : iq ≠ ic) : CtV S E yX8_makeOne cX8_makeOne 3 none rmX8_makeOne [.ref (E.1 iq), .ref (E.1 ic)] g (fun g' => g' = va_up g ic (xJ S 24 (oneF))) := by
  refine Ct.of RX8 (by decide +kernel) rfl (Nat.le_of_ble_eq_true rfl) (fun M C Z => ?_)
  refine G.eq (pc' := 0) (vs' := [some (.ref (E.1 iq)), some (.ref (E.1 ic)), none]) (st' := []) ?_
  refine r_iconst (pc := 0) (v := nI 0) C dX8_makeOne_0 (by decide +kernel) ?_
  refine r_istore_n (pc := 1) C dX8_makeOne_1 (by decide) ?_
  refine G.eq (pc' := 2) (vs' := [some (.ref (E.1 iq)), some (.ref (E.1 ic)), some (.int (nI 0))]) (st' := []) ?_
  refine G.heap (Ce.id hc) ?_
  refine bk (P := fun t => G M S E (0, 0) (va_up g ic (xJ S 24 (it (fun t h => vp_updL h t (oneF t)) t c))) 2 [some (.ref (E.1 iq)), some (.ref (E.1 ic)), some (.int (nI t))] []) (T := 24) ?_ (fun t ht ih => ?_)
  · show G M S E (0, 0) (va_up g ic (xJ S 24 (it (fun t h => vp_updL h t (oneF t)) 24 c))) 2 [some (.ref (E.1 iq)), some (.ref (E.1 ic)), some (.int (nI 24))] []
    refine r_iload_n (pc := 2) C dX8_makeOne_2 rfl ?_
    refine r_bipush (pc := 3) (v := nI 24) C dX8_makeOne_3 (by decide +kernel) ?_
    refine r_icmp_ge (pc := 5) (tgt := 26) C dX8_makeOne_5 (by decide) (fun h5 => ?_) (fun h5 => ?_)
    · have h5 := c_le (by omega) (by omega) h5
      refine G.cJ (f' := oneF) (fun j hj => by rw [it_putL]; exact if_pos hj) ?_
      exact r_vret (pc := 26) C Z dX8_makeOne_26 rfl
    · have h5 := c_nle (by omega) (by omega) h5
      omega
  · show G M S E (0, 0) (va_up g ic (xJ S 24 (it (fun t h => vp_updL h t (oneF t)) t c))) 2 [some (.ref (E.1 iq)), some (.ref (E.1 ic)), some (.int (nI t))] []
    refine r_iload_n (pc := 2) C dX8_makeOne_2 rfl ?_
    refine r_bipush (pc := 3) (v := nI 24) C dX8_makeOne_3 (by decide +kernel) ?_
    refine r_icmp_ge (pc := 5) (tgt := 26) C dX8_makeOne_5 (by decide) (fun h5 => ?_) (fun h5 => ?_)
    · have h5 := c_le (by omega) (by omega) h5
      omega
    · have h5 := c_nle (by omega) (by omega) h5
      refine r_aload_n (pc := 8) C dX8_makeOne_8 rfl ?_
      refine r_iload_n (pc := 9) C dX8_makeOne_9 rfl ?_
      refine r_iload_n (pc := 10) C dX8_makeOne_10 rfl ?_
      refine r_if_ne (pc := 11) (tgt := 18) C dX8_makeOne_11 (by decide) (fun h11 => ?_) (fun h11 => ?_)
      · have h11 := z_ne (by omega) h11
        refine r_lconst (pc := 18) (v := 0) C dX8_makeOne_18 rfl ?_
        refine r_tl (oneF t) (if_neg h11).symm ?_
        refine r_last2 (pc := 19) C dX8_makeOne_19 hc.1 rfl (by omega) (by omega) ?_
        refine r_iinc (pc := 20) (v := nI (t + 1)) C dX8_makeOne_20 rfl (nI_i1 _) (by decide) ?_
        refine G.eq (pc' := 23) (vs' := [some (.ref (E.1 iq)), some (.ref (E.1 ic)), some (.int (nI (t + 1)))]) (st' := []) ?_
        refine r_goto (pc := 23) (tgt := 2) C dX8_makeOne_23 (by decide) ?_
        exact ih
      · have h11 := z_eq (by omega) h11
        refine r_lconst (pc := 14) (v := 1) C dX8_makeOne_14 rfl ?_
        refine r_goto (pc := 15) (tgt := 19) C dX8_makeOne_15 (by decide) ?_
        refine r_tl (oneF t) (if_pos h11).symm ?_
        refine r_last2 (pc := 19) C dX8_makeOne_19 hc.1 rfl (by omega) (by omega) ?_
        refine r_iinc (pc := 20) (v := nI (t + 1)) C dX8_makeOne_20 rfl (nI_i1 _) (by decide) ?_
        refine G.eq (pc' := 23) (vs' := [some (.ref (E.1 iq)), some (.ref (E.1 ic)), some (.int (nI (t + 1)))]) (st' := []) ?_
        refine r_goto (pc := 23) (tgt := 2) C dX8_makeOne_23 (by decide) ?_
        exact ih
set_option maxHeartbeats 4000000 in
set_option maxRecDepth 100000 in
theorem c_X8_makeZero {S : ST} {E : ET} {g : Nat → va_E} {iq : Nat} {ic : Nat} {c : Nat → Int64} (hc : Ce E g ic (xJ S 24 c)) (hne : iq ≠ ic) : CtV S E yX8_makeZero cX8_makeZero 3 none rmX8_makeZero [.ref (E.1 iq), .ref (E.1 ic)] g (fun g' => g' = va_up g ic (xJ S 24 (fun _ => 0))) := by
  refine Ct.of RX8 (by decide +kernel) rfl (Nat.le_of_ble_eq_true rfl) (fun M C Z => ?_)
  refine G.eq (pc' := 0) (vs' := [some (.ref (E.1 iq)), some (.ref (E.1 ic)), none]) (st' := []) ?_
  refine r_iconst (pc := 0) (v := nI 0) C dX8_makeZero_0 (by decide +kernel) ?_
  refine r_istore_n (pc := 1) C dX8_makeZero_1 (by decide) ?_
  refine G.eq (pc' := 2) (vs' := [some (.ref (E.1 iq)), some (.ref (E.1 ic)), some (.int (nI 0))]) (st' := []) ?_
  refine G.heap (Ce.id hc) ?_
  refine bk (P := fun t => G M S E (0, 0) (va_up g ic (xJ S 24 (it (fun t h => vp_updL h t ((fun _ => 0) t)) t c))) 2 [some (.ref (E.1 iq)), some (.ref (E.1 ic)), some (.int (nI t))] []) (T := 24) ?_ (fun t ht ih => ?_)
  · show G M S E (0, 0) (va_up g ic (xJ S 24 (it (fun t h => vp_updL h t ((fun _ => 0) t)) 24 c))) 2 [some (.ref (E.1 iq)), some (.ref (E.1 ic)), some (.int (nI 24))] []
    refine r_iload_n (pc := 2) C dX8_makeZero_2 rfl ?_
    refine r_bipush (pc := 3) (v := nI 24) C dX8_makeZero_3 (by decide +kernel) ?_
    refine r_icmp_ge (pc := 5) (tgt := 18) C dX8_makeZero_5 (by decide) (fun h5 => ?_) (fun h5 => ?_)
    · have h5 := c_le (by omega) (by omega) h5
      refine G.cJ (f' := fun _ => 0) (fun j hj => by rw [it_putL]; exact if_pos hj) ?_
      exact r_vret (pc := 18) C Z dX8_makeZero_18 rfl
    · have h5 := c_nle (by omega) (by omega) h5
      omega
  · show G M S E (0, 0) (va_up g ic (xJ S 24 (it (fun t h => vp_updL h t ((fun _ => 0) t)) t c))) 2 [some (.ref (E.1 iq)), some (.ref (E.1 ic)), some (.int (nI t))] []
    refine r_iload_n (pc := 2) C dX8_makeZero_2 rfl ?_
    refine r_bipush (pc := 3) (v := nI 24) C dX8_makeZero_3 (by decide +kernel) ?_
    refine r_icmp_ge (pc := 5) (tgt := 18) C dX8_makeZero_5 (by decide) (fun h5 => ?_) (fun h5 => ?_)
    · have h5 := c_le (by omega) (by omega) h5
      omega
    · have h5 := c_nle (by omega) (by omega) h5
      refine r_aload_n (pc := 8) C dX8_makeZero_8 rfl ?_
      refine r_iload_n (pc := 9) C dX8_makeZero_9 rfl ?_
      refine r_lconst (pc := 10) (v := 0) C dX8_makeZero_10 rfl ?_
      refine r_last2 (pc := 11) C dX8_makeZero_11 hc.1 rfl (by omega) (by omega) ?_
      refine r_iinc (pc := 12) (v := nI (t + 1)) C dX8_makeZero_12 rfl (nI_i1 _) (by decide) ?_
      refine G.eq (pc' := 15) (vs' := [some (.ref (E.1 iq)), some (.ref (E.1 ic)), some (.int (nI (t + 1)))]) (st' := []) ?_
      refine r_goto (pc := 15) (tgt := 2) C dX8_makeZero_15 (by decide) ?_
      exact ih
set_option maxHeartbeats 4000000 in
set_option maxRecDepth 100000 in
theorem c_X8_times {S : ST} {E : ET} {g : Nat → va_E} {iq N : Nat} {fs : List Value} (ho : Ce E g iq (.inr (8, fs))) (h0 : fs[0]? = some (.int (nI N))) (hN : N ≤ 24) {ic : Nat} {c : Nat → Int64} (hc : Ce E g ic (xJ S 24 c)) (hne : iq ≠ ic) (p : Nat) (s : Int32) (hp : p < 2 ^ 30) (hs : ¬ s ≤ 0) : CtV S E yX8_timesBinomial cX8_timesBinomial 5 none rmX8_timesBinomial [.ref (E.1 iq), .ref (E.1 ic), .int (nI p), .int s] g (fun g' => g' = va_up g ic (xJ S 24 (tmF N p c))) := by
  refine Ct.of RX8 (by decide +kernel) rfl (Nat.le_of_ble_eq_true rfl) (fun M C Z => ?_)
  refine G.eq (pc' := 0) (vs' := [some (.ref (E.1 iq)), some (.ref (E.1 ic)), some (.int (nI p)), some (.int s), none]) (st' := []) ?_
  refine r_iload_n (pc := 0) C dX8_timesBinomial_0 rfl ?_
  refine r_if_le (pc := 1) (tgt := 40) C dX8_timesBinomial_1 (by decide) (fun h1 => ?_) (fun h1 => ?_)
  · exact absurd h1 hs
  · refine r_aload_n (pc := 4) C dX8_timesBinomial_4 rfl ?_
    refine r_getf (pc := 5) C dX8_timesBinomial_5 fl_RX8_17 ho h0 ?_
    refine r_iconst (pc := 8) (v := nI 1) C dX8_timesBinomial_8 (by decide +kernel) ?_
    refine r_isub (pc := 9) C dX8_timesBinomial_9 ?_
    refine r_ti (mI N) rfl ?_
    refine r_istore (pc := 10) C dX8_timesBinomial_10 (by decide) ?_
    refine G.eq (pc' := 12) (vs' := [some (.ref (E.1 iq)), some (.ref (E.1 ic)), some (.int (nI p)), some (.int s), some (.int (mI N))]) (st' := []) ?_
    refine G.heap (Ce.id hc) ?_
    refine bk (P := fun t => G M S E (0, 0) (va_up g ic (xJ S 24 (it (fun t f => vp_updL f (N - t - 1) (f (N - t - 1) - f (N - t - 1 - p))) t c))) 12 [some (.ref (E.1 iq)), some (.ref (E.1 ic)), some (.int (nI p)), some (.int s), some (.int (mI (N - t)))] []) (T := N - p) ?_ (fun t ht ih => ?_)
    · show G M S E (0, 0) (va_up g ic (xJ S 24 (it (fun t f => vp_updL f (N - t - 1) (f (N - t - 1) - f (N - t - 1 - p))) (N - p) c))) 12 [some (.ref (E.1 iq)), some (.ref (E.1 ic)), some (.int (nI p)), some (.int s), some (.int (mI (N - (N - p))))] []
      refine r_iload (pc := 12) C dX8_timesBinomial_12 rfl ?_
      refine r_iload_n (pc := 14) C dX8_timesBinomial_14 rfl ?_
      refine r_icmp_lt (pc := 15) (tgt := 37) C dX8_timesBinomial_15 (by decide) (fun h15 => ?_) (fun h15 => ?_)
      · have h15 := m_lt (by omega) (by omega) h15
        refine r_goto (pc := 37) (tgt := 71) C dX8_timesBinomial_37 (by decide) ?_
        exact r_vret (pc := 71) C Z dX8_timesBinomial_71 rfl
      · have h15 := m_nlt (by omega) (by omega) h15
        omega
    · show G M S E (0, 0) (va_up g ic (xJ S 24 (it (fun t f => vp_updL f (N - t - 1) (f (N - t - 1) - f (N - t - 1 - p))) t c))) 12 [some (.ref (E.1 iq)), some (.ref (E.1 ic)), some (.int (nI p)), some (.int s), some (.int (mI (N - t)))] []
      refine r_iload (pc := 12) C dX8_timesBinomial_12 rfl ?_
      refine r_iload_n (pc := 14) C dX8_timesBinomial_14 rfl ?_
      refine r_icmp_lt (pc := 15) (tgt := 37) C dX8_timesBinomial_15 (by decide) (fun h15 => ?_) (fun h15 => ?_)
      · have h15 := m_lt (by omega) (by omega) h15
        omega
      · have h15 := m_nlt (by omega) (by omega) h15
        rw [show N - t = N - t - 1 + 1 by omega, mI_s]
        refine r_aload_n (pc := 18) C dX8_timesBinomial_18 rfl ?_
        refine r_iload (pc := 19) C dX8_timesBinomial_19 rfl ?_
        refine r_dup2 (pc := 21) C dX8_timesBinomial_21 rfl rfl ?_
        refine r_lald (pc := 22) C dX8_timesBinomial_22 (Ce.new hc) rfl (by omega) (by omega) ?_
        refine r_aload_n (pc := 23) C dX8_timesBinomial_23 rfl ?_
        refine r_iload (pc := 24) C dX8_timesBinomial_24 rfl ?_
        refine r_iload_n (pc := 26) C dX8_timesBinomial_26 rfl ?_
        refine r_isub (pc := 27) C dX8_timesBinomial_27 ?_
        refine r_ti (nI (N - t - 1 - p)) (pk_sub (by omega)) ?_
        refine r_lald (pc := 28) C dX8_timesBinomial_28 (Ce.new hc) rfl (by omega) (by omega) ?_
        refine r_lsub (pc := 29) C dX8_timesBinomial_29 ?_
        refine r_last2 (pc := 30) C dX8_timesBinomial_30 hc.1 rfl (by omega) (by omega) ?_
        refine r_iinc (pc := 31) (v := mI (N - t - 1)) C dX8_timesBinomial_31 rfl (nI_m1 _) (by decide) ?_
        refine G.eq (pc' := 34) (vs' := [some (.ref (E.1 iq)), some (.ref (E.1 ic)), some (.int (nI p)), some (.int s), some (.int (mI (N - t - 1)))]) (st' := []) ?_
        refine r_goto (pc := 34) (tgt := 12) C dX8_timesBinomial_34 (by decide) ?_
        exact ih
set_option maxHeartbeats 4000000 in
set_option maxRecDepth 100000 in
theorem c_X8_over {S : ST} {E : ET} {g : Nat → va_E} {iq N : Nat} {fs : List Value} (ho : Ce E g iq (.inr (8, fs))) (h0 : fs[0]? = some (.int (nI N))) (hN : N ≤ 24) {ic : Nat} {c : Nat → Int64} (hc : Ce E g ic (xJ S 24 c)) (hne : iq ≠ ic) (p : Nat) (s : Int32) (hp : p < 2 ^ 30) (hs : s ≤ 0) : CtV S E yX8_timesBinomial cX8_timesBinomial 5 none rmX8_timesBinomial [.ref (E.1 iq), .ref (E.1 ic), .int (nI p), .int s] g (fun g' => g' = va_up g ic (xJ S 24 (ovF N p c))) := by
  refine Ct.of RX8 (by decide +kernel) rfl (Nat.le_of_ble_eq_true rfl) (fun M C Z => ?_)
  refine G.eq (pc' := 0) (vs' := [some (.ref (E.1 iq)), some (.ref (E.1 ic)), some (.int (nI p)), some (.int s), none]) (st' := []) ?_
  refine r_iload_n (pc := 0) C dX8_timesBinomial_0 rfl ?_
  refine r_if_le (pc := 1) (tgt := 40) C dX8_timesBinomial_1 (by decide) (fun h1 => ?_) (fun h1 => ?_)
  · refine r_iload_n (pc := 40) C dX8_timesBinomial_40 rfl ?_
    refine r_istore (pc := 41) C dX8_timesBinomial_41 (by decide) ?_
    refine G.eq (pc' := 43) (vs' := [some (.ref (E.1 iq)), some (.ref (E.1 ic)), some (.int (nI p)), some (.int s), some (.int (nI p))]) (st' := []) ?_
    refine G.heap (Ce.id hc) ?_
    refine bk (P := fun t => G M S E (0, 0) (va_up g ic (xJ S 24 (it (fun t f => vp_updL f (p + t) (f (p + t) + f (p + t - p))) t c))) 43 [some (.ref (E.1 iq)), some (.ref (E.1 ic)), some (.int (nI p)), some (.int s), some (.int (nI (p + t)))] []) (T := N - p) ?_ (fun t ht ih => ?_)
    · show G M S E (0, 0) (va_up g ic (xJ S 24 (it (fun t f => vp_updL f (p + t) (f (p + t) + f (p + t - p))) (N - p) c))) 43 [some (.ref (E.1 iq)), some (.ref (E.1 ic)), some (.int (nI p)), some (.int s), some (.int (nI (p + (N - p))))] []
      refine r_iload (pc := 43) C dX8_timesBinomial_43 rfl ?_
      refine r_aload_n (pc := 45) C dX8_timesBinomial_45 rfl ?_
      refine r_getf (pc := 46) C dX8_timesBinomial_46 fl_RX8_17 (Ce.up ho (by omega)) h0 ?_
      refine r_icmp_ge (pc := 49) (tgt := 71) C dX8_timesBinomial_49 (by decide) (fun h49 => ?_) (fun h49 => ?_)
      · have h49 := c_le (by omega) (by omega) h49
        exact r_vret (pc := 71) C Z dX8_timesBinomial_71 rfl
      · have h49 := c_nle (by omega) (by omega) h49
        omega
    · show G M S E (0, 0) (va_up g ic (xJ S 24 (it (fun t f => vp_updL f (p + t) (f (p + t) + f (p + t - p))) t c))) 43 [some (.ref (E.1 iq)), some (.ref (E.1 ic)), some (.int (nI p)), some (.int s), some (.int (nI (p + t)))] []
      refine r_iload (pc := 43) C dX8_timesBinomial_43 rfl ?_
      refine r_aload_n (pc := 45) C dX8_timesBinomial_45 rfl ?_
      refine r_getf (pc := 46) C dX8_timesBinomial_46 fl_RX8_17 (Ce.up ho (by omega)) h0 ?_
      refine r_icmp_ge (pc := 49) (tgt := 71) C dX8_timesBinomial_49 (by decide) (fun h49 => ?_) (fun h49 => ?_)
      · have h49 := c_le (by omega) (by omega) h49
        omega
      · have h49 := c_nle (by omega) (by omega) h49
        refine r_aload_n (pc := 52) C dX8_timesBinomial_52 rfl ?_
        refine r_iload (pc := 53) C dX8_timesBinomial_53 rfl ?_
        refine r_dup2 (pc := 55) C dX8_timesBinomial_55 rfl rfl ?_
        refine r_lald (pc := 56) C dX8_timesBinomial_56 (Ce.new hc) rfl (by omega) (by omega) ?_
        refine r_aload_n (pc := 57) C dX8_timesBinomial_57 rfl ?_
        refine r_iload (pc := 58) C dX8_timesBinomial_58 rfl ?_
        refine r_iload_n (pc := 60) C dX8_timesBinomial_60 rfl ?_
        refine r_isub (pc := 61) C dX8_timesBinomial_61 ?_
        refine r_ti (nI (p + t - p)) (pk_sub (by omega)) ?_
        refine r_lald (pc := 62) C dX8_timesBinomial_62 (Ce.new hc) rfl (by omega) (by omega) ?_
        refine r_ladd (pc := 63) C dX8_timesBinomial_63 ?_
        refine r_last2 (pc := 64) C dX8_timesBinomial_64 hc.1 rfl (by omega) (by omega) ?_
        refine r_iinc (pc := 65) (v := nI (p + t + 1)) C dX8_timesBinomial_65 rfl (nI_i1 _) (by decide) ?_
        refine G.eq (pc' := 68) (vs' := [some (.ref (E.1 iq)), some (.ref (E.1 ic)), some (.int (nI p)), some (.int s), some (.int (nI (p + t + 1)))]) (st' := []) ?_
        refine r_goto (pc := 68) (tgt := 43) C dX8_timesBinomial_68 (by decide) ?_
        exact ih
  · exact absurd hs h1
set_option maxHeartbeats 4000000 in
set_option maxRecDepth 100000 in
theorem c_X8_timesP {S : ST} {E : ET} {g : Nat → va_E} {iq N : Nat} {fs : List Value} (ho : Ce E g iq (.inr (8, fs))) (h0 : fs[0]? = some (.int (nI N))) (hN : N ≤ 24) {ic : Nat} {c : Nat → Int64} (hc : Ce E g ic (xJ S 24 c)) (hne : iq ≠ ic) (sh k : Nat) (s : Int32) (h1 : sh < 2 ^ 20) (h2 : k < 2 ^ 20) (hs : ¬ s ≤ 0) : CtV S E yX8_timesPochhammer cX8_timesPochhammer 6 none rmX8_timesPochhammer [.ref (E.1 iq), .ref (E.1 ic), .int (nI sh), .int (nI k), .int s] g (fun g' => g' = va_up g ic (xJ S 24 (tmFs N (sh + 1) k c))) := by
  refine Ct.of RX8 (by decide +kernel) rfl (Nat.le_of_ble_eq_true rfl) (fun M C Z => ?_)
  refine G.eq (pc' := 0) (vs' := [some (.ref (E.1 iq)), some (.ref (E.1 ic)), some (.int (nI sh)), some (.int (nI k)), some (.int s), none]) (st' := []) ?_
  refine r_iconst (pc := 0) (v := nI 1) C dX8_timesPochhammer_0 (by decide +kernel) ?_
  refine r_istore (pc := 1) C dX8_timesPochhammer_1 (by decide) ?_
  refine G.eq (pc' := 3) (vs' := [some (.ref (E.1 iq)), some (.ref (E.1 ic)), some (.int (nI sh)), some (.int (nI k)), some (.int s), some (.int (nI 1))]) (st' := []) ?_
  refine G.heap (Ce.id hc) ?_
  refine bk (P := fun t => G M S E (0, 0) (va_up g ic (xJ S 24 (it (fun t f => tmF N (sh + (1 + t)) f) t c))) 3 [some (.ref (E.1 iq)), some (.ref (E.1 ic)), some (.int (nI sh)), some (.int (nI k)), some (.int s), some (.int (nI (1 + t)))] []) (T := k) ?_ (fun t ht ih => ?_)
  · show G M S E (0, 0) (va_up g ic (xJ S 24 (it (fun t f => tmF N (sh + (1 + t)) f) k c))) 3 [some (.ref (E.1 iq)), some (.ref (E.1 ic)), some (.int (nI sh)), some (.int (nI k)), some (.int s), some (.int (nI (1 + k)))] []
    refine r_iload (pc := 3) C dX8_timesPochhammer_3 rfl ?_
    refine r_iload_n (pc := 5) C dX8_timesPochhammer_5 rfl ?_
    refine r_icmp_gt (pc := 6) (tgt := 26) C dX8_timesPochhammer_6 (by decide) (fun h6 => ?_) (fun h6 => ?_)
    · have h6 := c_lt (by omega) (by omega) h6
      exact r_vret (pc := 26) C Z dX8_timesPochhammer_26 (by rw [← tmP_eq]; rfl)
    · have h6 := c_nlt (by omega) (by omega) h6
      omega
  · show G M S E (0, 0) (va_up g ic (xJ S 24 (it (fun t f => tmF N (sh + (1 + t)) f) t c))) 3 [some (.ref (E.1 iq)), some (.ref (E.1 ic)), some (.int (nI sh)), some (.int (nI k)), some (.int s), some (.int (nI (1 + t)))] []
    refine r_iload (pc := 3) C dX8_timesPochhammer_3 rfl ?_
    refine r_iload_n (pc := 5) C dX8_timesPochhammer_5 rfl ?_
    refine r_icmp_gt (pc := 6) (tgt := 26) C dX8_timesPochhammer_6 (by decide) (fun h6 => ?_) (fun h6 => ?_)
    · have h6 := c_lt (by omega) (by omega) h6
      omega
    · have h6 := c_nlt (by omega) (by omega) h6
      refine r_aload_n (pc := 9) C dX8_timesPochhammer_9 rfl ?_
      refine r_aload_n (pc := 10) C dX8_timesPochhammer_10 rfl ?_
      refine r_iload_n (pc := 11) C dX8_timesPochhammer_11 rfl ?_
      refine r_iload (pc := 12) C dX8_timesPochhammer_12 rfl ?_
      refine r_iadd (pc := 14) C dX8_timesPochhammer_14 ?_
      refine r_ti (nI (sh + (1 + t))) (nI_add _ _) ?_
      refine r_iload (pc := 15) C dX8_timesPochhammer_15 rfl ?_
      refine r_callV (pc := 17) C dX8_timesPochhammer_17 cv_RX8_89 (c_X8_times (Ce.up ho (by omega)) h0 hN (Ce.new hc) hne (sh + (1 + t)) s (by omega) hs) ⟨rfl, rfl, by decide, by decide⟩ (Ce.up ho (by omega)) rfl rfl (Nat.le_of_ble_eq_true rfl) ⟨Nat.zero_le _, Nat.zero_le _⟩ ?_
      rintro _ _ ⟨rfl, rfl⟩
      rw [bx_uu]
      show G M S E (0, 0) (va_up g ic (xJ S 24 (tmF N (sh + (1 + t)) (it (fun t f => tmF N (sh + (1 + t)) f) t c)))) 20 [some (.ref (E.1 iq)), some (.ref (E.1 ic)), some (.int (nI sh)), some (.int (nI k)), some (.int s), some (.int (nI (1 + t)))] []
      refine r_iinc (pc := 20) (v := nI (1 + t + 1)) C dX8_timesPochhammer_20 rfl (nI_i1 _) (by decide) ?_
      refine G.eq (pc' := 23) (vs' := [some (.ref (E.1 iq)), some (.ref (E.1 ic)), some (.int (nI sh)), some (.int (nI k)), some (.int s), some (.int (nI (1 + t + 1)))]) (st' := []) ?_
      refine r_goto (pc := 23) (tgt := 3) C dX8_timesPochhammer_23 (by decide) ?_
      exact ih
set_option maxHeartbeats 4000000 in
set_option maxRecDepth 100000 in
theorem c_X8_overP {S : ST} {E : ET} {g : Nat → va_E} {iq N : Nat} {fs : List Value} (ho : Ce E g iq (.inr (8, fs))) (h0 : fs[0]? = some (.int (nI N))) (hN : N ≤ 24) {ic : Nat} {c : Nat → Int64} (hc : Ce E g ic (xJ S 24 c)) (hne : iq ≠ ic) (sh k : Nat) (s : Int32) (h1 : sh < 2 ^ 20) (h2 : k < 2 ^ 20) (hs : s ≤ 0) : CtV S E yX8_timesPochhammer cX8_timesPochhammer 6 none rmX8_timesPochhammer [.ref (E.1 iq), .ref (E.1 ic), .int (nI sh), .int (nI k), .int s] g (fun g' => g' = va_up g ic (xJ S 24 (ovFs N (sh + 1) k c))) := by
  refine Ct.of RX8 (by decide +kernel) rfl (Nat.le_of_ble_eq_true rfl) (fun M C Z => ?_)
  refine G.eq (pc' := 0) (vs' := [some (.ref (E.1 iq)), some (.ref (E.1 ic)), some (.int (nI sh)), some (.int (nI k)), some (.int s), none]) (st' := []) ?_
  refine r_iconst (pc := 0) (v := nI 1) C dX8_timesPochhammer_0 (by decide +kernel) ?_
  refine r_istore (pc := 1) C dX8_timesPochhammer_1 (by decide) ?_
  refine G.eq (pc' := 3) (vs' := [some (.ref (E.1 iq)), some (.ref (E.1 ic)), some (.int (nI sh)), some (.int (nI k)), some (.int s), some (.int (nI 1))]) (st' := []) ?_
  refine G.heap (Ce.id hc) ?_
  refine bk (P := fun t => G M S E (0, 0) (va_up g ic (xJ S 24 (it (fun t f => ovF N (sh + (1 + t)) f) t c))) 3 [some (.ref (E.1 iq)), some (.ref (E.1 ic)), some (.int (nI sh)), some (.int (nI k)), some (.int s), some (.int (nI (1 + t)))] []) (T := k) ?_ (fun t ht ih => ?_)
  · show G M S E (0, 0) (va_up g ic (xJ S 24 (it (fun t f => ovF N (sh + (1 + t)) f) k c))) 3 [some (.ref (E.1 iq)), some (.ref (E.1 ic)), some (.int (nI sh)), some (.int (nI k)), some (.int s), some (.int (nI (1 + k)))] []
    refine r_iload (pc := 3) C dX8_timesPochhammer_3 rfl ?_
    refine r_iload_n (pc := 5) C dX8_timesPochhammer_5 rfl ?_
    refine r_icmp_gt (pc := 6) (tgt := 26) C dX8_timesPochhammer_6 (by decide) (fun h6 => ?_) (fun h6 => ?_)
    · have h6 := c_lt (by omega) (by omega) h6
      exact r_vret (pc := 26) C Z dX8_timesPochhammer_26 (by rw [← ovP_eq]; rfl)
    · have h6 := c_nlt (by omega) (by omega) h6
      omega
  · show G M S E (0, 0) (va_up g ic (xJ S 24 (it (fun t f => ovF N (sh + (1 + t)) f) t c))) 3 [some (.ref (E.1 iq)), some (.ref (E.1 ic)), some (.int (nI sh)), some (.int (nI k)), some (.int s), some (.int (nI (1 + t)))] []
    refine r_iload (pc := 3) C dX8_timesPochhammer_3 rfl ?_
    refine r_iload_n (pc := 5) C dX8_timesPochhammer_5 rfl ?_
    refine r_icmp_gt (pc := 6) (tgt := 26) C dX8_timesPochhammer_6 (by decide) (fun h6 => ?_) (fun h6 => ?_)
    · have h6 := c_lt (by omega) (by omega) h6
      omega
    · have h6 := c_nlt (by omega) (by omega) h6
      refine r_aload_n (pc := 9) C dX8_timesPochhammer_9 rfl ?_
      refine r_aload_n (pc := 10) C dX8_timesPochhammer_10 rfl ?_
      refine r_iload_n (pc := 11) C dX8_timesPochhammer_11 rfl ?_
      refine r_iload (pc := 12) C dX8_timesPochhammer_12 rfl ?_
      refine r_iadd (pc := 14) C dX8_timesPochhammer_14 ?_
      refine r_ti (nI (sh + (1 + t))) (nI_add _ _) ?_
      refine r_iload (pc := 15) C dX8_timesPochhammer_15 rfl ?_
      refine r_callV (pc := 17) C dX8_timesPochhammer_17 cv_RX8_89 (c_X8_over (Ce.up ho (by omega)) h0 hN (Ce.new hc) hne (sh + (1 + t)) s (by omega) hs) ⟨rfl, rfl, by decide, by decide⟩ (Ce.up ho (by omega)) rfl rfl (Nat.le_of_ble_eq_true rfl) ⟨Nat.zero_le _, Nat.zero_le _⟩ ?_
      rintro _ _ ⟨rfl, rfl⟩
      rw [bx_uu]
      show G M S E (0, 0) (va_up g ic (xJ S 24 (ovF N (sh + (1 + t)) (it (fun t f => ovF N (sh + (1 + t)) f) t c)))) 20 [some (.ref (E.1 iq)), some (.ref (E.1 ic)), some (.int (nI sh)), some (.int (nI k)), some (.int s), some (.int (nI (1 + t)))] []
      refine r_iinc (pc := 20) (v := nI (1 + t + 1)) C dX8_timesPochhammer_20 rfl (nI_i1 _) (by decide) ?_
      refine G.eq (pc' := 23) (vs' := [some (.ref (E.1 iq)), some (.ref (E.1 ic)), some (.int (nI sh)), some (.int (nI k)), some (.int s), some (.int (nI (1 + t + 1)))]) (st' := []) ?_
      refine r_goto (pc := 23) (tgt := 3) C dX8_timesPochhammer_23 (by decide) ?_
      exact ih
set_option maxHeartbeats 4000000 in
set_option maxRecDepth 100000 in
theorem c_X8_shiftBy {S : ST} {E : ET} {g : Nat → va_E} {iq N : Nat} {fs : List Value} (ho : Ce E g iq (.inr (8, fs))) (h0 : fs[0]? = some (.int (nI N))) (hN : N ≤ 24) {ic : Nat} {c : Nat → Int64} (hc : Ce E g ic (xJ S 24 c)) (hne : iq ≠ ic) (p : Nat) (hp : p < 2 ^ 30) : CtV S E yX8_shiftBy cX8_shiftBy 4 none rmX8_shiftBy [.ref (E.1 iq), .ref (E.1 ic), .int (nI p)] g (fun g' => g' = va_up g ic (xJ S 24 (shF N p c N))) := by
  refine Ct.of RX8 (by decide +kernel) rfl (Nat.le_of_ble_eq_true rfl) (fun M C Z => ?_)
  refine G.eq (pc' := 0) (vs' := [some (.ref (E.1 iq)), some (.ref (E.1 ic)), some (.int (nI p)), none]) (st' := []) ?_
  refine r_aload_n (pc := 0) C dX8_shiftBy_0 rfl ?_
  refine r_getf (pc := 1) C dX8_shiftBy_1 fl_RX8_17 ho h0 ?_
  refine r_iconst (pc := 4) (v := nI 1) C dX8_shiftBy_4 (by decide +kernel) ?_
  refine r_isub (pc := 5) C dX8_shiftBy_5 ?_
  refine r_ti (mI N) rfl ?_
  refine r_istore_n (pc := 6) C dX8_shiftBy_6 (by decide) ?_
  refine G.eq (pc' := 7) (vs' := [some (.ref (E.1 iq)), some (.ref (E.1 ic)), some (.int (nI p)), some (.int (mI N))]) (st' := []) ?_
  refine G.heap (Ce.id hc) ?_
  refine bk (P := fun t => G M S E (0, 0) (va_up g ic (xJ S 24 (it (fun t f => vp_updL f (N - t - 1) (if p ≤ N - t - 1 then f (N - t - 1 - p) else 0)) t c))) 7 [some (.ref (E.1 iq)), some (.ref (E.1 ic)), some (.int (nI p)), some (.int (mI (N - t)))] []) (T := N) ?_ (fun t ht ih => ?_)
  · show G M S E (0, 0) (va_up g ic (xJ S 24 (it (fun t f => vp_updL f (N - t - 1) (if p ≤ N - t - 1 then f (N - t - 1 - p) else 0)) N c))) 7 [some (.ref (E.1 iq)), some (.ref (E.1 ic)), some (.int (nI p)), some (.int (mI (N - N)))] []
    refine r_iload_n (pc := 7) C dX8_shiftBy_7 rfl ?_
    refine r_if_lt (pc := 8) (tgt := 34) C dX8_shiftBy_8 (by decide) (fun h8 => ?_) (fun h8 => ?_)
    · have h8 := m_lt0 (by omega) h8
      exact r_vret (pc := 34) C Z dX8_shiftBy_34 rfl
    · have h8 := m_nlt0 (by omega) h8
      omega
  · show G M S E (0, 0) (va_up g ic (xJ S 24 (it (fun t f => vp_updL f (N - t - 1) (if p ≤ N - t - 1 then f (N - t - 1 - p) else 0)) t c))) 7 [some (.ref (E.1 iq)), some (.ref (E.1 ic)), some (.int (nI p)), some (.int (mI (N - t)))] []
    refine r_iload_n (pc := 7) C dX8_shiftBy_7 rfl ?_
    refine r_if_lt (pc := 8) (tgt := 34) C dX8_shiftBy_8 (by decide) (fun h8 => ?_) (fun h8 => ?_)
    · have h8 := m_lt0 (by omega) h8
      omega
    · have h8 := m_nlt0 (by omega) h8
      rw [show N - t = N - t - 1 + 1 by omega, mI_s]
      refine r_aload_n (pc := 11) C dX8_shiftBy_11 rfl ?_
      refine r_iload_n (pc := 12) C dX8_shiftBy_12 rfl ?_
      refine r_iload_n (pc := 13) C dX8_shiftBy_13 rfl ?_
      refine r_iload_n (pc := 14) C dX8_shiftBy_14 rfl ?_
      refine r_icmp_lt (pc := 15) (tgt := 26) C dX8_shiftBy_15 (by decide) (fun h15 => ?_) (fun h15 => ?_)
      · have h15 := c_lt (by omega) (by omega) h15
        refine r_lconst (pc := 26) (v := 0) C dX8_shiftBy_26 rfl ?_
        refine r_tl (if p ≤ N - t - 1 then (it (fun t f => vp_updL f (N - t - 1) (if p ≤ N - t - 1 then f (N - t - 1 - p) else 0)) t c) (N - t - 1 - p) else 0) (if_neg (by omega)).symm ?_
        refine r_last2 (pc := 27) C dX8_shiftBy_27 hc.1 rfl (by omega) (by omega) ?_
        refine r_iinc (pc := 28) (v := mI (N - t - 1)) C dX8_shiftBy_28 rfl (nI_m1 _) (by decide) ?_
        refine G.eq (pc' := 31) (vs' := [some (.ref (E.1 iq)), some (.ref (E.1 ic)), some (.int (nI p)), some (.int (mI (N - t - 1)))]) (st' := []) ?_
        refine r_goto (pc := 31) (tgt := 7) C dX8_shiftBy_31 (by decide) ?_
        exact ih
      · have h15 := c_nlt (by omega) (by omega) h15
        refine r_aload_n (pc := 18) C dX8_shiftBy_18 rfl ?_
        refine r_iload_n (pc := 19) C dX8_shiftBy_19 rfl ?_
        refine r_iload_n (pc := 20) C dX8_shiftBy_20 rfl ?_
        refine r_isub (pc := 21) C dX8_shiftBy_21 ?_
        refine r_ti (nI (N - t - 1 - p)) (pk_sub (by omega)) ?_
        refine r_lald (pc := 22) C dX8_shiftBy_22 (Ce.new hc) rfl (by omega) (by omega) ?_
        refine r_goto (pc := 23) (tgt := 27) C dX8_shiftBy_23 (by decide) ?_
        refine r_tl (if p ≤ N - t - 1 then (it (fun t f => vp_updL f (N - t - 1) (if p ≤ N - t - 1 then f (N - t - 1 - p) else 0)) t c) (N - t - 1 - p) else 0) (if_pos (by omega)).symm ?_
        refine r_last2 (pc := 27) C dX8_shiftBy_27 hc.1 rfl (by omega) (by omega) ?_
        refine r_iinc (pc := 28) (v := mI (N - t - 1)) C dX8_shiftBy_28 rfl (nI_m1 _) (by decide) ?_
        refine G.eq (pc' := 31) (vs' := [some (.ref (E.1 iq)), some (.ref (E.1 ic)), some (.int (nI p)), some (.int (mI (N - t - 1)))]) (st' := []) ?_
        refine r_goto (pc := 31) (tgt := 7) C dX8_shiftBy_31 (by decide) ?_
        exact ih
set_option maxHeartbeats 4000000 in
set_option maxRecDepth 100000 in
theorem c_X8_isInRange {S : ST} {E : ET} {g : Nat → va_E} {ic : Nat} {c : Nat → Int64} (hc : Ce E g ic (xJ S 24 c)) : CtI S E yX8_isInRange cX8_isInRange 3 (Option.some FieldType.boolean) rmX8_isInRange [.ref (E.1 ic)] g (fun u g' => u = b2i (fitB 24 c) ∧ g = g') := by
  refine Ct.of RX8 (by decide +kernel) rfl (Nat.le_of_ble_eq_true rfl) (fun M C Z => ?_)
  refine G.eq (pc' := 0) (vs' := [some (.ref (E.1 ic)), none, none]) (st' := []) ?_
  refine r_iconst (pc := 0) (v := nI 1) C dX8_isInRange_0 (by decide +kernel) ?_
  refine r_istore_n (pc := 1) C dX8_isInRange_1 (by decide) ?_
  refine G.eq (pc' := 2) (vs' := [some (.ref (E.1 ic)), some (.int (nI 1)), none]) (st' := []) ?_
  refine r_iconst (pc := 2) (v := nI 0) C dX8_isInRange_2 (by decide +kernel) ?_
  refine r_istore_n (pc := 3) C dX8_isInRange_3 (by decide) ?_
  refine G.eq (pc' := 4) (vs' := [some (.ref (E.1 ic)), some (.int (nI 1)), some (.int (nI 0))]) (st' := []) ?_
  refine bk (P := fun t => G M S E (0, 0) g 4 [some (.ref (E.1 ic)), some (.int (b2i (allB (fun k => inR (c k)) t))), some (.int (nI t))] []) (T := 24) ?_ (fun t ht ih => ?_)
  · show G M S E (0, 0) g 4 [some (.ref (E.1 ic)), some (.int (b2i (allB (fun k => inR (c k)) 24))), some (.int (nI 24))] []
    refine r_iload_n (pc := 4) C dX8_isInRange_4 rfl ?_
    refine r_bipush (pc := 5) (v := nI 24) C dX8_isInRange_5 (by decide +kernel) ?_
    refine r_icmp_ge (pc := 7) (tgt := 31) C dX8_isInRange_7 (by decide) (fun h7 => ?_) (fun h7 => ?_)
    · have h7 := c_le (by omega) (by omega) h7
      refine r_iload_n (pc := 31) C dX8_isInRange_31 rfl ?_
      exact r_iret (pc := 32) C Z dX8_isInRange_32 (b_n _) (⟨rfl, rfl⟩)
    · have h7 := c_nle (by omega) (by omega) h7
      omega
  · show G M S E (0, 0) g 4 [some (.ref (E.1 ic)), some (.int (b2i (allB (fun k => inR (c k)) t))), some (.int (nI t))] []
    refine r_iload_n (pc := 4) C dX8_isInRange_4 rfl ?_
    refine r_bipush (pc := 5) (v := nI 24) C dX8_isInRange_5 (by decide +kernel) ?_
    refine r_icmp_ge (pc := 7) (tgt := 31) C dX8_isInRange_7 (by decide) (fun h7 => ?_) (fun h7 => ?_)
    · have h7 := c_le (by omega) (by omega) h7
      omega
    · have h7 := c_nle (by omega) (by omega) h7
      refine r_iload_n (pc := 10) C dX8_isInRange_10 rfl ?_
      refine r_aload_n (pc := 11) C dX8_isInRange_11 rfl ?_
      refine r_iload_n (pc := 12) C dX8_isInRange_12 rfl ?_
      refine r_lald (pc := 13) C dX8_isInRange_13 hc rfl (by omega) (by omega) ?_
      refine r_ldc2 (pc := 14) C dX8_isInRange_14 qK_RX8_93 ?_
      refine r_ldc2 (pc := 17) C dX8_isInRange_17 qK_RX8_95 ?_
      refine r_callS (pc := 20) C dX8_isInRange_20 cs_RX8_7 (c_X8_isBetween (c t) (-100000000) 100000000) ⟨rfl, rfl, by decide, by decide⟩ rfl rfl (Nat.le_of_ble_eq_true rfl) ⟨Nat.zero_le _, Nat.zero_le _⟩ ?_
      rintro _ _ ⟨_, rfl, rfl, rfl⟩
      show G M S E (0, 0) g 23 [some (.ref (E.1 ic)), some (.int (b2i (allB (fun k => inR (c k)) t))), some (.int (nI t))] [.int (b2i (inR (c t))), .int (b2i (allB (fun k => inR (c k)) t))]
      refine r_iand (pc := 23) C dX8_isInRange_23 ?_
      refine r_ti (b2i ((allB (fun k => inR (c k)) t) && (inR (c t)))) (b2i_and _ _) ?_
      refine r_istore_n (pc := 24) C dX8_isInRange_24 (by decide) ?_
      refine G.eq (pc' := 25) (vs' := [some (.ref (E.1 ic)), some (.int (b2i ((allB (fun k => inR (c k)) t) && (inR (c t))))), some (.int (nI t))]) (st' := []) ?_
      refine r_iinc (pc := 25) (v := nI (t + 1)) C dX8_isInRange_25 rfl (nI_i1 _) (by decide) ?_
      refine G.eq (pc' := 28) (vs' := [some (.ref (E.1 ic)), some (.int (b2i ((allB (fun k => inR (c k)) t) && (inR (c t))))), some (.int (nI (t + 1)))]) (st' := []) ?_
      refine r_goto (pc := 28) (tgt := 4) C dX8_isInRange_28 (by decide) ?_
      exact ih
set_option maxHeartbeats 4000000 in
set_option maxRecDepth 100000 in
theorem c_X8_nonzero {S : ST} {E : ET} {g : Nat → va_E} {iq N : Nat} {fs : List Value} (ho : Ce E g iq (.inr (8, fs))) (h0 : fs[0]? = some (.int (nI N))) (hN : N ≤ 24) {ic : Nat} {c : Nat → Int64} (hc : Ce E g ic (xJ S 24 c)) (hne : iq ≠ ic) : CtI S E yX8_nonzero cX8_nonzero 4 (Option.some FieldType.int) rmX8_nonzero [.ref (E.1 iq), .ref (E.1 ic)] g (fun u g' => u = nI (nzL N c) ∧ g = g') := by
  refine Ct.of RX8 (by decide +kernel) rfl (Nat.le_of_ble_eq_true rfl) (fun M C Z => ?_)
  refine G.eq (pc' := 0) (vs' := [some (.ref (E.1 iq)), some (.ref (E.1 ic)), none, none]) (st' := []) ?_
  refine r_iconst (pc := 0) (v := nI 0) C dX8_nonzero_0 (by decide +kernel) ?_
  refine r_istore_n (pc := 1) C dX8_nonzero_1 (by decide) ?_
  refine G.eq (pc' := 2) (vs' := [some (.ref (E.1 iq)), some (.ref (E.1 ic)), some (.int (nI 0)), none]) (st' := []) ?_
  refine r_iconst (pc := 2) (v := nI 0) C dX8_nonzero_2 (by decide +kernel) ?_
  refine r_istore_n (pc := 3) C dX8_nonzero_3 (by decide) ?_
  refine G.eq (pc' := 4) (vs' := [some (.ref (E.1 iq)), some (.ref (E.1 ic)), some (.int (nI 0)), some (.int (nI 0))]) (st' := []) ?_
  refine bk (P := fun t => G M S E (0, 0) g 4 [some (.ref (E.1 iq)), some (.ref (E.1 ic)), some (.int (nI (it (cntF (fun k => decide (¬ c k = 0))) t 0))), some (.int (nI t))] []) (T := N) ?_ (fun t ht ih => ?_)
  · show G M S E (0, 0) g 4 [some (.ref (E.1 iq)), some (.ref (E.1 ic)), some (.int (nI (it (cntF (fun k => decide (¬ c k = 0))) N 0))), some (.int (nI N))] []
    refine r_iload_n (pc := 4) C dX8_nonzero_4 rfl ?_
    refine r_aload_n (pc := 5) C dX8_nonzero_5 rfl ?_
    refine r_getf (pc := 6) C dX8_nonzero_6 fl_RX8_17 ho h0 ?_
    refine r_icmp_ge (pc := 9) (tgt := 34) C dX8_nonzero_9 (by decide) (fun h9 => ?_) (fun h9 => ?_)
    · have h9 := c_le (by omega) (by omega) h9
      refine r_iload_n (pc := 34) C dX8_nonzero_34 rfl ?_
      exact r_iret (pc := 35) C Z dX8_nonzero_35 rfl (⟨rfl, rfl⟩)
    · have h9 := c_nle (by omega) (by omega) h9
      omega
  · show G M S E (0, 0) g 4 [some (.ref (E.1 iq)), some (.ref (E.1 ic)), some (.int (nI (it (cntF (fun k => decide (¬ c k = 0))) t 0))), some (.int (nI t))] []
    refine r_iload_n (pc := 4) C dX8_nonzero_4 rfl ?_
    refine r_aload_n (pc := 5) C dX8_nonzero_5 rfl ?_
    refine r_getf (pc := 6) C dX8_nonzero_6 fl_RX8_17 ho h0 ?_
    refine r_icmp_ge (pc := 9) (tgt := 34) C dX8_nonzero_9 (by decide) (fun h9 => ?_) (fun h9 => ?_)
    · have h9 := c_le (by omega) (by omega) h9
      omega
    · have h9 := c_nle (by omega) (by omega) h9
      refine r_iload_n (pc := 12) C dX8_nonzero_12 rfl ?_
      refine r_aload_n (pc := 13) C dX8_nonzero_13 rfl ?_
      refine r_iload_n (pc := 14) C dX8_nonzero_14 rfl ?_
      refine r_lald (pc := 15) C dX8_nonzero_15 hc rfl (by omega) (by omega) ?_
      refine r_lconst (pc := 16) (v := 0) C dX8_nonzero_16 rfl ?_
      refine r_lcmp (pc := 17) C dX8_nonzero_17 ?_
      refine r_if_eq (pc := 18) (tgt := 25) C dX8_nonzero_18 (by decide) (fun h18 => ?_) (fun h18 => ?_)
      · have h18 := k_eq h18
        refine r_iconst (pc := 25) (v := nI 0) C dX8_nonzero_25 (by decide +kernel) ?_
        refine r_iadd (pc := 26) C dX8_nonzero_26 ?_
        refine r_ti (nI (it (cntF (fun k => decide (¬ c k = 0))) t 0 + 0)) (nI_add _ _) ?_
        refine r_ti (nI (it (cntF (fun k => decide (¬ c k = 0))) (t + 1) 0)) (congrArg nI (cnt_f (p := (fun k => decide (¬ c k = 0))) (decide_eq_false (fun q => q h18)))) ?_
        refine r_istore_n (pc := 27) C dX8_nonzero_27 (by decide) ?_
        refine G.eq (pc' := 28) (vs' := [some (.ref (E.1 iq)), some (.ref (E.1 ic)), some (.int (nI (it (cntF (fun k => decide (¬ c k = 0))) (t + 1) 0))), some (.int (nI t))]) (st' := []) ?_
        refine r_iinc (pc := 28) (v := nI (t + 1)) C dX8_nonzero_28 rfl (nI_i1 _) (by decide) ?_
        refine G.eq (pc' := 31) (vs' := [some (.ref (E.1 iq)), some (.ref (E.1 ic)), some (.int (nI (it (cntF (fun k => decide (¬ c k = 0))) (t + 1) 0))), some (.int (nI (t + 1)))]) (st' := []) ?_
        refine r_goto (pc := 31) (tgt := 4) C dX8_nonzero_31 (by decide) ?_
        exact ih
      · have h18 := k_ne h18
        refine r_iconst (pc := 21) (v := nI 1) C dX8_nonzero_21 (by decide +kernel) ?_
        refine r_goto (pc := 22) (tgt := 26) C dX8_nonzero_22 (by decide) ?_
        refine r_iadd (pc := 26) C dX8_nonzero_26 ?_
        refine r_ti (nI (it (cntF (fun k => decide (¬ c k = 0))) t 0 + 1)) (nI_add _ _) ?_
        refine r_ti (nI (it (cntF (fun k => decide (¬ c k = 0))) (t + 1) 0)) (congrArg nI (cnt_t (p := (fun k => decide (¬ c k = 0))) (decide_eq_true h18))) ?_
        refine r_istore_n (pc := 27) C dX8_nonzero_27 (by decide) ?_
        refine G.eq (pc' := 28) (vs' := [some (.ref (E.1 iq)), some (.ref (E.1 ic)), some (.int (nI (it (cntF (fun k => decide (¬ c k = 0))) (t + 1) 0))), some (.int (nI t))]) (st' := []) ?_
        refine r_iinc (pc := 28) (v := nI (t + 1)) C dX8_nonzero_28 rfl (nI_i1 _) (by decide) ?_
        refine G.eq (pc' := 31) (vs' := [some (.ref (E.1 iq)), some (.ref (E.1 ic)), some (.int (nI (it (cntF (fun k => decide (¬ c k = 0))) (t + 1) 0))), some (.int (nI (t + 1)))]) (st' := []) ?_
        refine r_goto (pc := 31) (tgt := 4) C dX8_nonzero_31 (by decide) ?_
        exact ih
set_option maxHeartbeats 4000000 in
set_option maxRecDepth 100000 in
theorem c_X8_copyPair {S : ST} {E : ET} {g : Nat → va_E} {ia id n1 n2 : Nat} {f h : Nat → Int64} (ha : Ce E g ia (xJ S n1 f)) (hd : Ce E g id (xJ S n2 h)) (hne : ia ≠ id) (a b : Nat) (h1 : a + 120 ≤ n1) (h2 : b + 120 ≤ n2) (hn1 : n1 < 2 ^ 30) (hn2 : n2 < 2 ^ 30) : CtV S E yX8_copyPair cX8_copyPair 5 none rmX8_copyPair [.ref (E.1 ia), .int (nI a), .ref (E.1 id), .int (nI b)] g (fun g' => g' = va_up g id (xJ S n2 (cp120 f a h b))) := by
  refine Ct.of RX8 (by decide +kernel) rfl (Nat.le_of_ble_eq_true rfl) (fun M C Z => ?_)
  refine G.eq (pc' := 0) (vs' := [some (.ref (E.1 ia)), some (.int (nI a)), some (.ref (E.1 id)), some (.int (nI b)), none]) (st' := []) ?_
  refine r_iconst (pc := 0) (v := nI 0) C dX8_copyPair_0 (by decide +kernel) ?_
  refine r_istore (pc := 1) C dX8_copyPair_1 (by decide) ?_
  refine G.eq (pc' := 3) (vs' := [some (.ref (E.1 ia)), some (.int (nI a)), some (.ref (E.1 id)), some (.int (nI b)), some (.int (nI 0))]) (st' := []) ?_
  refine G.heap (Ce.id hd) ?_
  refine bk (P := fun t => G M S E (0, 0) (va_up g id (xJ S n2 (it (fun t h => vp_updL h (b + t) (f (a + t))) t h))) 3 [some (.ref (E.1 ia)), some (.int (nI a)), some (.ref (E.1 id)), some (.int (nI b)), some (.int (nI t))] []) (T := 120) ?_ (fun t ht ih => ?_)
  · show G M S E (0, 0) (va_up g id (xJ S n2 (it (fun t h => vp_updL h (b + t) (f (a + t))) 120 h))) 3 [some (.ref (E.1 ia)), some (.int (nI a)), some (.ref (E.1 id)), some (.int (nI b)), some (.int (nI 120))] []
    refine r_iload (pc := 3) C dX8_copyPair_3 rfl ?_
    refine r_bipush (pc := 5) (v := nI 120) C dX8_copyPair_5 (by decide +kernel) ?_
    refine r_icmp_ge (pc := 7) (tgt := 28) C dX8_copyPair_7 (by decide) (fun h7 => ?_) (fun h7 => ?_)
    · have h7 := c_le (by omega) (by omega) h7
      refine G.cJ (f' := cp120 f a h b) (fun j _ => it_cp f a h b 120 j) ?_
      exact r_vret (pc := 28) C Z dX8_copyPair_28 rfl
    · have h7 := c_nle (by omega) (by omega) h7
      omega
  · show G M S E (0, 0) (va_up g id (xJ S n2 (it (fun t h => vp_updL h (b + t) (f (a + t))) t h))) 3 [some (.ref (E.1 ia)), some (.int (nI a)), some (.ref (E.1 id)), some (.int (nI b)), some (.int (nI t))] []
    refine r_iload (pc := 3) C dX8_copyPair_3 rfl ?_
    refine r_bipush (pc := 5) (v := nI 120) C dX8_copyPair_5 (by decide +kernel) ?_
    refine r_icmp_ge (pc := 7) (tgt := 28) C dX8_copyPair_7 (by decide) (fun h7 => ?_) (fun h7 => ?_)
    · have h7 := c_le (by omega) (by omega) h7
      omega
    · have h7 := c_nle (by omega) (by omega) h7
      refine r_aload_n (pc := 10) C dX8_copyPair_10 rfl ?_
      refine r_iload_n (pc := 11) C dX8_copyPair_11 rfl ?_
      refine r_iload (pc := 12) C dX8_copyPair_12 rfl ?_
      refine r_iadd (pc := 14) C dX8_copyPair_14 ?_
      refine r_ti (nI (b + t)) (nI_add _ _) ?_
      refine r_aload_n (pc := 15) C dX8_copyPair_15 rfl ?_
      refine r_iload_n (pc := 16) C dX8_copyPair_16 rfl ?_
      refine r_iload (pc := 17) C dX8_copyPair_17 rfl ?_
      refine r_iadd (pc := 19) C dX8_copyPair_19 ?_
      refine r_ti (nI (a + t)) (nI_add _ _) ?_
      refine r_lald (pc := 20) C dX8_copyPair_20 (Ce.up ha (by omega)) rfl (by omega) (by omega) ?_
      refine r_last2 (pc := 21) C dX8_copyPair_21 hd.1 rfl (by omega) (by omega) ?_
      refine r_iinc (pc := 22) (v := nI (t + 1)) C dX8_copyPair_22 rfl (nI_i1 _) (by decide) ?_
      refine G.eq (pc' := 25) (vs' := [some (.ref (E.1 ia)), some (.int (nI a)), some (.ref (E.1 id)), some (.int (nI b)), some (.int (nI (t + 1)))]) (st' := []) ?_
      refine r_goto (pc := 25) (tgt := 3) C dX8_copyPair_25 (by decide) ?_
      exact ih
