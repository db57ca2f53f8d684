set_option maxHeartbeats 4000000 in
set_option maxRecDepth 100000 in
/-- Arrays.fill -/
theorem c_J7_fill_d0a16 {S : ST} {E : ET} {g : Nat → va_E} {ia N : Nat} {c : Nat → Int64} (v : Int64) (ha : Ce E g ia (xJ S N c)) (hN : N < 2 ^ 31) : CtV S E yJ7_fill_d0a16 cJ7_fill_d0a16 5 none rmJ7_fill_d0a16 [.ref (E.1 ia), .long v] g (fun g' => g' = va_up g ia (xJ S N (fun _ => v))) := by
  refine Ct.of RJ7 (by decide +kernel) rfl (Nat.le_of_ble_eq_true rfl) (fun M C Z => ?_)
  refine G.eq (pc' := 0) (vs' := [some (.ref (E.1 ia)), some (.long v), none, none, none]) (st' := []) ?_
  refine r_iconst (pc := 0) (v := nI 0) C dJ7_fill_d0a16_0 (by decide +kernel) ?_
  refine r_istore_n (pc := 1) C dJ7_fill_d0a16_1 (by decide) ?_
  refine G.eq (pc' := 2) (vs' := [some (.ref (E.1 ia)), some (.long v), none, some (.int (nI 0)), none]) (st' := []) ?_
  refine r_aload_n (pc := 2) C dJ7_fill_d0a16_2 rfl ?_
  refine r_alen (pc := 3) (t0 := 1) (N := N) C dJ7_fill_d0a16_3 ha rfl rfl ?_
  refine r_istore (pc := 4) C dJ7_fill_d0a16_4 (by decide) ?_
  refine G.eq (pc' := 6) (vs' := [some (.ref (E.1 ia)), some (.long v), none, some (.int (nI 0)), some (.int (nI N))]) (st' := []) ?_
  refine G.heap (Ce.id ha) ?_
  refine bk (P := fun t => G M S E (0, 0) (va_up g ia (xJ S N (it (fun t f => vp_updL f t v) t c))) 6 [some (.ref (E.1 ia)), some (.long v), none, some (.int (nI t)), some (.int (nI N))] []) (T := N) ?_ (fun t ht ih => ?_)
  · show G M S E (0, 0) (va_up g ia (xJ S N (it (fun t f => vp_updL f t v) N c))) 6 [some (.ref (E.1 ia)), some (.long v), none, some (.int (nI N)), some (.int (nI N))] []
    refine r_iload_n (pc := 6) C dJ7_fill_d0a16_6 rfl ?_
    refine r_iload (pc := 7) C dJ7_fill_d0a16_7 rfl ?_
    refine r_icmp_ge (pc := 9) (tgt := 22) C dJ7_fill_d0a16_9 (by decide) (fun h9 => ?_) (fun h9 => ?_)
    · have h9 := c_le (by omega) (by omega) h9
      refine G.cJ (f' := fun _ => v) (fun j hj => by rw [it_fillL, if_pos hj]) ?_
      exact r_vret (pc := 22) C Z dJ7_fill_d0a16_22 rfl
    · have h9 := c_nle (by omega) (by omega) h9
      omega
  · show G M S E (0, 0) (va_up g ia (xJ S N (it (fun t f => vp_updL f t v) t c))) 6 [some (.ref (E.1 ia)), some (.long v), none, some (.int (nI t)), some (.int (nI N))] []
    refine r_iload_n (pc := 6) C dJ7_fill_d0a16_6 rfl ?_
    refine r_iload (pc := 7) C dJ7_fill_d0a16_7 rfl ?_
    refine r_icmp_ge (pc := 9) (tgt := 22) C dJ7_fill_d0a16_9 (by decide) (fun h9 => ?_) (fun h9 => ?_)
    · have h9 := c_le (by omega) (by omega) h9
      omega
    · have h9 := c_nle (by omega) (by omega) h9
      refine r_aload_n (pc := 12) C dJ7_fill_d0a16_12 rfl ?_
      refine r_iload_n (pc := 13) C dJ7_fill_d0a16_13 rfl ?_
      refine r_lload_n (pc := 14) C dJ7_fill_d0a16_14 rfl ?_
      refine r_last2 (pc := 15) C dJ7_fill_d0a16_15 ha.1 rfl (by omega) (by omega) ?_
      refine r_iinc (pc := 16) (v := nI (t + 1)) C dJ7_fill_d0a16_16 rfl (nI_i1 _) (by decide) ?_
      refine G.eq (pc' := 19) (vs' := [some (.ref (E.1 ia)), some (.long v), none, some (.int (nI (t + 1))), some (.int (nI N))]) (st' := []) ?_
      refine r_goto (pc := 19) (tgt := 6) C dJ7_fill_d0a16_19 (by decide) ?_
      exact ih
set_option maxHeartbeats 4000000 in
set_option maxRecDepth 100000 in
/-- Arrays.fill -/
theorem c_J7_fill_53178 {S : ST} {E : ET} {g : Nat → va_E} {ia N : Nat} {c : Nat → Int32} (v : Int32) (ha : Ce E g ia (xI S N c)) (hN : N < 2 ^ 31) : CtV S E yJ7_fill_53178 cJ7_fill_53178 4 none rmJ7_fill_53178 [.ref (E.1 ia), .int v] g (fun g' => g' = va_up g ia (xI S N (fun _ => v))) := by
  refine Ct.of RJ7 (by decide +kernel) rfl (Nat.le_of_ble_eq_true rfl) (fun M C Z => ?_)
  refine G.eq (pc' := 0) (vs' := [some (.ref (E.1 ia)), some (.int v), none, none]) (st' := []) ?_
  refine r_iconst (pc := 0) (v := nI 0) C dJ7_fill_53178_0 (by decide +kernel) ?_
  refine r_istore_n (pc := 1) C dJ7_fill_53178_1 (by decide) ?_
  refine G.eq (pc' := 2) (vs' := [some (.ref (E.1 ia)), some (.int v), some (.int (nI 0)), none]) (st' := []) ?_
  refine r_aload_n (pc := 2) C dJ7_fill_53178_2 rfl ?_
  refine r_alen (pc := 3) (t0 := 0) (N := N) C dJ7_fill_53178_3 ha rfl rfl ?_
  refine r_istore_n (pc := 4) C dJ7_fill_53178_4 (by decide) ?_
  refine G.eq (pc' := 5) (vs' := [some (.ref (E.1 ia)), some (.int v), some (.int (nI 0)), some (.int (nI N))]) (st' := []) ?_
  refine G.heap (Ce.id ha) ?_
  refine bk (P := fun t => G M S E (0, 0) (va_up g ia (xI S N (it (fun t f => upd f t v) t c))) 5 [some (.ref (E.1 ia)), some (.int v), some (.int (nI t)), some (.int (nI N))] []) (T := N) ?_ (fun t ht ih => ?_)
  · show G M S E (0, 0) (va_up g ia (xI S N (it (fun t f => upd f t v) N c))) 5 [some (.ref (E.1 ia)), some (.int v), some (.int (nI N)), some (.int (nI N))] []
    refine r_iload_n (pc := 5) C dJ7_fill_53178_5 rfl ?_
    refine r_iload_n (pc := 6) C dJ7_fill_53178_6 rfl ?_
    refine r_icmp_ge (pc := 7) (tgt := 20) C dJ7_fill_53178_7 (by decide) (fun h7 => ?_) (fun h7 => ?_)
    · have h7 := c_le (by omega) (by omega) h7
      refine G.cI (f' := fun _ => v) (fun j hj => by rw [it_fillI, if_pos hj]) ?_
      exact r_vret (pc := 20) C Z dJ7_fill_53178_20 rfl
    · have h7 := c_nle (by omega) (by omega) h7
      omega
  · show G M S E (0, 0) (va_up g ia (xI S N (it (fun t f => upd f t v) t c))) 5 [some (.ref (E.1 ia)), some (.int v), some (.int (nI t)), some (.int (nI N))] []
    refine r_iload_n (pc := 5) C dJ7_fill_53178_5 rfl ?_
    refine r_iload_n (pc := 6) C dJ7_fill_53178_6 rfl ?_
    refine r_icmp_ge (pc := 7) (tgt := 20) C dJ7_fill_53178_7 (by decide) (fun h7 => ?_) (fun h7 => ?_)
    · have h7 := c_le (by omega) (by omega) h7
      omega
    · have h7 := c_nle (by omega) (by omega) h7
      refine r_aload_n (pc := 10) C dJ7_fill_53178_10 rfl ?_
      refine r_iload_n (pc := 11) C dJ7_fill_53178_11 rfl ?_
      refine r_iload_n (pc := 12) C dJ7_fill_53178_12 rfl ?_
      refine r_iast2 (pc := 13) C dJ7_fill_53178_13 ha.1 rfl (by omega) (by omega) ?_
      refine r_iinc (pc := 14) (v := nI (t + 1)) C dJ7_fill_53178_14 rfl (nI_i1 _) (by decide) ?_
      refine G.eq (pc' := 17) (vs' := [some (.ref (E.1 ia)), some (.int v), some (.int (nI (t + 1))), some (.int (nI N))]) (st' := []) ?_
      refine r_goto (pc := 17) (tgt := 5) C dJ7_fill_53178_17 (by decide) ?_
      exact ih
set_option maxHeartbeats 4000000 in
set_option maxRecDepth 100000 in
theorem c_X6_setZero {S : ST} {E : ET} {g : Nat → va_E} {iw ic N : Nat} {c : Nat → Int64} (N2 : Nat) (hw : Ce E g iw (.inr (6, [.ref (E.1 ic), .int (nI N)]))) (hc : Ce E g ic (xJ S 24 c)) (hne : iw ≠ ic) : CtV S E yX6_setZero cX6_setZero 2 none rmX6_setZero [.ref (E.1 iw), .int (nI N2)] g (fun g' => g' = va_up (va_up g iw (.inr (6, [.ref (E.1 ic), .int (nI N2)]))) ic (xJ S 24 (fun _ => 0))) := by
  refine Ct.of RX6 (by decide +kernel) rfl (Nat.le_of_ble_eq_true rfl) (fun M C Z => ?_)
  refine G.eq (pc' := 0) (vs' := [some (.ref (E.1 iw)), some (.int (nI N2))]) (st' := []) ?_
  refine r_aload_n (pc := 0) C dX6_setZero_0 rfl ?_
  refine r_iload_n (pc := 1) C dX6_setZero_1 rfl ?_
  refine r_putf (pc := 2) C dX6_setZero_2 fp_RX6_15 hw rfl rfl (Nat.le_of_ble_eq_true rfl) ?_
  refine r_aload_n (pc := 5) C dX6_setZero_5 rfl ?_
  refine r_getf (pc := 6) C dX6_setZero_6 fl_RX6_9 (Ce.new hw) rfl ?_
  refine r_lconst (pc := 9) (v := 0) C dX6_setZero_9 rfl ?_
  refine r_callS (pc := 10) C dX6_setZero_10 cs_RX6_19 (c_J7_fill_d0a16 0 (Ce.up hc (by omega)) (by decide)) ⟨rfl, rfl, by decide, by decide⟩ rfl rfl (Nat.le_of_ble_eq_true rfl) ⟨Nat.zero_le _, Nat.zero_le _⟩ ?_
  rintro _ _ ⟨rfl, rfl⟩
  show G M S E (0, 0) (va_up (va_up g iw (.inr (6, [.ref (E.1 ic), .int (nI N2)]))) ic (xJ S 24 (fun _ => 0))) 13 [some (.ref (E.1 iw)), some (.int (nI N2))] []
  exact r_vret (pc := 13) C Z dX6_setZero_13 rfl
/-- a term more -/
def plT (N p : Nat) (k : Int32) (c : Nat → Int64) : Nat → Int64 := if p < N then vp_updL c p (c p + k.toInt64) else c
set_option maxHeartbeats 4000000 in
set_option maxRecDepth 100000 in
theorem c_X6_plusTerm {S : ST} {E : ET} {g : Nat → va_E} {iw ic N : Nat} {c : Nat → Int64} (hw : Ce E g iw (.inr (6, [.ref (E.1 ic), .int (nI N)]))) (hc : Ce E g ic (xJ S 24 c)) (hN : N ≤ 24) (hne : iw ≠ ic) (p : Nat) (hp : p < 2 ^ 31) (k : Int32) : CtV S E yX6_plusTerm cX6_plusTerm 3 none rmX6_plusTerm [.ref (E.1 iw), .int (nI p), .int k] g (fun g' => g' = va_up g ic (xJ S 24 (plT N p k c))) := by
  refine Ct.of RX6 (by decide +kernel) rfl (Nat.le_of_ble_eq_true rfl) (fun M C Z => ?_)
  refine G.eq (pc' := 0) (vs' := [some (.ref (E.1 iw)), some (.int (nI p)), some (.int k)]) (st' := []) ?_
  refine r_iload_n (pc := 0) C dX6_plusTerm_0 rfl ?_
  refine r_if_lt (pc := 1) (tgt := 23) C dX6_plusTerm_1 (by decide) (fun h1 => ?_) (fun h1 => ?_)
  · exact absurd h1 (nI_pos hp)
  · refine r_iload_n (pc := 4) C dX6_plusTerm_4 rfl ?_
    refine r_aload_n (pc := 5) C dX6_plusTerm_5 rfl ?_
    refine r_getf (pc := 6) C dX6_plusTerm_6 fl_RX6_15 hw rfl ?_
    refine r_icmp_ge (pc := 9) (tgt := 23) C dX6_plusTerm_9 (by decide) (fun h9 => ?_) (fun h9 => ?_)
    · have h9 := c_le (by omega) (by omega) h9
      refine G.heap (Ce.id hc) ?_
      rw [show c = plT N p k c by unfold plT; rw [if_neg (by omega)]]
      exact r_vret (pc := 23) C Z dX6_plusTerm_23 rfl
    · have h9 := c_nle (by omega) (by omega) h9
      refine r_aload_n (pc := 12) C dX6_plusTerm_12 rfl ?_
      refine r_getf (pc := 13) C dX6_plusTerm_13 fl_RX6_9 hw rfl ?_
      refine r_iload_n (pc := 16) C dX6_plusTerm_16 rfl ?_
      refine r_dup2 (pc := 17) C dX6_plusTerm_17 rfl rfl ?_
      refine r_lald (pc := 18) C dX6_plusTerm_18 hc rfl (by omega) (by omega) ?_
      refine r_iload_n (pc := 19) C dX6_plusTerm_19 rfl ?_
      refine r_i2l (pc := 20) C dX6_plusTerm_20 ?_
      refine r_ladd (pc := 21) C dX6_plusTerm_21 ?_
      refine r_last (pc := 22) C dX6_plusTerm_22 hc rfl (by omega) (by omega) ?_
      rw [show vp_updL c p (c p + k.toInt64) = plT N p k c by unfold plT; rw [if_pos (by omega)]]
      exact r_vret (pc := 23) C Z dX6_plusTerm_23 rfl
/-- a multiple of a row more -/
def plR (N : Nat) (a : Nat → Int32) (k : Int32) (c : Nat → Int64) : Nat → Int64 := it (fun t f => vp_updL f t (f t + k.toInt64 * (a t).toInt64)) N c
set_option maxHeartbeats 4000000 in
set_option maxRecDepth 100000 in
theorem c_X6_plusRow {S : ST} {E : ET} {g : Nat → va_E} {iw ic N : Nat} {c : Nat → Int64} (hw : Ce E g iw (.inr (6, [.ref (E.1 ic), .int (nI N)]))) (hc : Ce E g ic (xJ S 24 c)) (hN : N ≤ 24) (hne : iw ≠ ic) {ir : Nat} {a : Nat → Int32} (hr : Ce E g ir (xI S 24 a)) (hnr : ir ≠ ic) (k : Int32) : CtV S E yX6_plusRow cX6_plusRow 4 none rmX6_plusRow [.ref (E.1 iw), .ref (E.1 ir), .int k] g (fun g' => g' = va_up g ic (xJ S 24 (plR N a k c))) := by
  refine Ct.of RX6 (by decide +kernel) rfl (Nat.le_of_ble_eq_true rfl) (fun M C Z => ?_)
  refine G.eq (pc' := 0) (vs' := [some (.ref (E.1 iw)), some (.ref (E.1 ir)), some (.int k), none]) (st' := []) ?_
  refine r_iconst (pc := 0) (v := nI 0) C dX6_plusRow_0 (by decide +kernel) ?_
  refine r_istore_n (pc := 1) C dX6_plusRow_1 (by decide) ?_
  refine G.eq (pc' := 2) (vs' := [some (.ref (E.1 iw)), some (.ref (E.1 ir)), some (.int k), some (.int (nI 0))]) (st' := []) ?_
  refine G.heap (Ce.id hc) ?_
  refine bk (P := fun t => G M S E (0, 0) (va_up g ic (xJ S 24 (it (fun t f => vp_updL f t (f t + k.toInt64 * (a t).toInt64)) t c))) 2 [some (.ref (E.1 iw)), some (.ref (E.1 ir)), some (.int k), some (.int (nI t))] []) (T := N) ?_ (fun t ht ih => ?_)
  · show G M S E (0, 0) (va_up g ic (xJ S 24 (it (fun t f => vp_updL f t (f t + k.toInt64 * (a t).toInt64)) N c))) 2 [some (.ref (E.1 iw)), some (.ref (E.1 ir)), some (.int k), some (.int (nI N))] []
    refine r_iload_n (pc := 2) C dX6_plusRow_2 rfl ?_
    refine r_aload_n (pc := 3) C dX6_plusRow_3 rfl ?_
    refine r_getf (pc := 4) C dX6_plusRow_4 fl_RX6_15 (Ce.up hw (by omega)) rfl ?_
    refine r_icmp_ge (pc := 7) (tgt := 32) C dX6_plusRow_7 (by decide) (fun h7 => ?_) (fun h7 => ?_)
    · have h7 := c_le (by omega) (by omega) h7
      exact r_vret (pc := 32) C Z dX6_plusRow_32 rfl
    · have h7 := c_nle (by omega) (by omega) h7
      omega
  · show G M S E (0, 0) (va_up g ic (xJ S 24 (it (fun t f => vp_updL f t (f t + k.toInt64 * (a t).toInt64)) t c))) 2 [some (.ref (E.1 iw)), some (.ref (E.1 ir)), some (.int k), some (.int (nI t))] []
    refine r_iload_n (pc := 2) C dX6_plusRow_2 rfl ?_
    refine r_aload_n (pc := 3) C dX6_plusRow_3 rfl ?_
    refine r_getf (pc := 4) C dX6_plusRow_4 fl_RX6_15 (Ce.up hw (by omega)) rfl ?_
    refine r_icmp_ge (pc := 7) (tgt := 32) C dX6_plusRow_7 (by decide) (fun h7 => ?_) (fun h7 => ?_)
    · have h7 := c_le (by omega) (by omega) h7
      omega
    · have h7 := c_nle (by omega) (by omega) h7
      refine r_aload_n (pc := 10) C dX6_plusRow_10 rfl ?_
      refine r_getf (pc := 11) C dX6_plusRow_11 fl_RX6_9 (Ce.up hw (by omega)) rfl ?_
      refine r_iload_n (pc := 14) C dX6_plusRow_14 rfl ?_
      refine r_dup2 (pc := 15) C dX6_plusRow_15 rfl rfl ?_
      refine r_lald (pc := 16) C dX6_plusRow_16 (Ce.new hc) rfl (by omega) (by omega) ?_
      refine r_iload_n (pc := 17) C dX6_plusRow_17 rfl ?_
      refine r_i2l (pc := 18) C dX6_plusRow_18 ?_
      refine r_aload_n (pc := 19) C dX6_plusRow_19 rfl ?_
      refine r_iload_n (pc := 20) C dX6_plusRow_20 rfl ?_
      refine r_iald (pc := 21) C dX6_plusRow_21 (Ce.up hr (by omega)) rfl (by omega) (by omega) ?_
      refine r_i2l (pc := 22) C dX6_plusRow_22 ?_
      refine r_lmul (pc := 23) C dX6_plusRow_23 ?_
      refine r_ladd (pc := 24) C dX6_plusRow_24 ?_
      refine r_last2 (pc := 25) C dX6_plusRow_25 hc.1 rfl (by omega) (by omega) ?_
      refine r_iinc (pc := 26) (v := nI (t + 1)) C dX6_plusRow_26 rfl (nI_i1 _) (by decide) ?_
      refine G.eq (pc' := 29) (vs' := [some (.ref (E.1 iw)), some (.ref (E.1 ir)), some (.int k), some (.int (nI (t + 1)))]) (st' := []) ?_
      refine r_goto (pc := 29) (tgt := 2) C dX6_plusRow_29 (by decide) ?_
      exact ih
/-- a shifted row more -/
def plS (N : Nat) (a : Nat → Int32) (p : Nat) (c : Nat → Int64) : Nat → Int64 := it (fun t f => vp_updL f (t + p) (f (t + p) + (a t).toInt64)) (N - p) c
set_option maxHeartbeats 4000000 in
set_option maxRecDepth 100000 in
theorem c_X6_plusShifted {S : ST} {E : ET} {g : Nat → va_E} {iw ic N : Nat} {c : Nat → Int64} (hw : Ce E g iw (.inr (6, [.ref (E.1 ic), .int (nI N)]))) (hc : Ce E g ic (xJ S 24 c)) (hN : N ≤ 24) (hne : iw ≠ ic) {ir : Nat} {a : Nat → Int32} (hr : Ce E g ir (xI S 24 a)) (hnr : ir ≠ ic) (p : Nat) (hp : p < 2 ^ 30) : CtV S E yX6_plusShifted cX6_plusShifted 4 none rmX6_plusShifted [.ref (E.1 iw), .ref (E.1 ir), .int (nI p)] g (fun g' => g' = va_up g ic (xJ S 24 (plS N a p c))) := by
  refine Ct.of RX6 (by decide +kernel) rfl (Nat.le_of_ble_eq_true rfl) (fun M C Z => ?_)
  refine G.eq (pc' := 0) (vs' := [some (.ref (E.1 iw)), some (.ref (E.1 ir)), some (.int (nI p)), none]) (st' := []) ?_
  refine r_iconst (pc := 0) (v := nI 0) C dX6_plusShifted_0 (by decide +kernel) ?_
  refine r_istore_n (pc := 1) C dX6_plusShifted_1 (by decide) ?_
  refine G.eq (pc' := 2) (vs' := [some (.ref (E.1 iw)), some (.ref (E.1 ir)), some (.int (nI p)), some (.int (nI 0))]) (st' := []) ?_
  refine G.heap (Ce.id hc) ?_
  refine bk (P := fun t => G M S E (0, 0) (va_up g ic (xJ S 24 (it (fun t f => vp_updL f (t + p) (f (t + p) + (a t).toInt64)) t c))) 2 [some (.ref (E.1 iw)), some (.ref (E.1 ir)), some (.int (nI p)), some (.int (nI t))] []) (T := N - p) ?_ (fun t ht ih => ?_)
  · show G M S E (0, 0) (va_up g ic (xJ S 24 (it (fun t f => vp_updL f (t + p) (f (t + p) + (a t).toInt64)) (N - p) c))) 2 [some (.ref (E.1 iw)), some (.ref (E.1 ir)), some (.int (nI p)), some (.int (nI (N - p)))] []
    refine r_iload_n (pc := 2) C dX6_plusShifted_2 rfl ?_
    refine r_iload_n (pc := 3) C dX6_plusShifted_3 rfl ?_
    refine r_iadd (pc := 4) C dX6_plusShifted_4 ?_
    refine r_ti (nI ((N - p) + p)) (nI_add _ _) ?_
    refine r_aload_n (pc := 5) C dX6_plusShifted_5 rfl ?_
    refine r_getf (pc := 6) C dX6_plusShifted_6 fl_RX6_15 (Ce.up hw (by omega)) rfl ?_
    refine r_icmp_ge (pc := 9) (tgt := 33) C dX6_plusShifted_9 (by decide) (fun h9 => ?_) (fun h9 => ?_)
    · have h9 := c_le (by omega) (by omega) h9
      exact r_vret (pc := 33) C Z dX6_plusShifted_33 rfl
    · have h9 := c_nle (by omega) (by omega) h9
      omega
  · show G M S E (0, 0) (va_up g ic (xJ S 24 (it (fun t f => vp_updL f (t + p) (f (t + p) + (a t).toInt64)) t c))) 2 [some (.ref (E.1 iw)), some (.ref (E.1 ir)), some (.int (nI p)), some (.int (nI t))] []
    refine r_iload_n (pc := 2) C dX6_plusShifted_2 rfl ?_
    refine r_iload_n (pc := 3) C dX6_plusShifted_3 rfl ?_
    refine r_iadd (pc := 4) C dX6_plusShifted_4 ?_
    refine r_ti (nI (t + p)) (nI_add _ _) ?_
    refine r_aload_n (pc := 5) C dX6_plusShifted_5 rfl ?_
    refine r_getf (pc := 6) C dX6_plusShifted_6 fl_RX6_15 (Ce.up hw (by omega)) rfl ?_
    refine r_icmp_ge (pc := 9) (tgt := 33) C dX6_plusShifted_9 (by decide) (fun h9 => ?_) (fun h9 => ?_)
    · have h9 := c_le (by omega) (by omega) h9
      omega
    · have h9 := c_nle (by omega) (by omega) h9
      refine r_aload_n (pc := 12) C dX6_plusShifted_12 rfl ?_
      refine r_getf (pc := 13) C dX6_plusShifted_13 fl_RX6_9 (Ce.up hw (by omega)) rfl ?_
      refine r_iload_n (pc := 16) C dX6_plusShifted_16 rfl ?_
      refine r_iload_n (pc := 17) C dX6_plusShifted_17 rfl ?_
      refine r_iadd (pc := 18) C dX6_plusShifted_18 ?_
      refine r_ti (nI (t + p)) (nI_add _ _) ?_
      refine r_dup2 (pc := 19) C dX6_plusShifted_19 rfl rfl ?_
      refine r_lald (pc := 20) C dX6_plusShifted_20 (Ce.new hc) rfl (by omega) (by omega) ?_
      refine r_aload_n (pc := 21) C dX6_plusShifted_21 rfl ?_
      refine r_iload_n (pc := 22) C dX6_plusShifted_22 rfl ?_
      refine r_iald (pc := 23) C dX6_plusShifted_23 (Ce.up hr (by omega)) rfl (by omega) (by omega) ?_
      refine r_i2l (pc := 24) C dX6_plusShifted_24 ?_
      refine r_ladd (pc := 25) C dX6_plusShifted_25 ?_
      refine r_last2 (pc := 26) C dX6_plusShifted_26 hc.1 rfl (by omega) (by omega) ?_
      refine r_iinc (pc := 27) (v := nI (t + 1)) C dX6_plusShifted_27 rfl (nI_i1 _) (by decide) ?_
      refine G.eq (pc' := 30) (vs' := [some (.ref (E.1 iw)), some (.ref (E.1 ir)), some (.int (nI p)), some (.int (nI (t + 1)))]) (st' := []) ?_
      refine r_goto (pc := 30) (tgt := 2) C dX6_plusShifted_30 (by decide) ?_
      exact ih
/-- a multiple of a wide series more -/
def plW (N : Nat) (b : Nat → Int64) (k : Int32) (c : Nat → Int64) : Nat → Int64 := it (fun t f => vp_updL f t (f t + k.toInt64 * b t)) N c
set_option maxHeartbeats 4000000 in
set_option maxRecDepth 100000 in
theorem c_X6_plusWide {S : ST} {E : ET} {g : Nat → va_E} {iw ic N : Nat} {c : Nat → Int64} (hw : Ce E g iw (.inr (6, [.ref (E.1 ic), .int (nI N)]))) (hc : Ce E g ic (xJ S 24 c)) (hN : N ≤ 24) (hne : iw ≠ ic) {iv id N3 : Nat} {b : Nat → Int64} (hv : Ce E g iv (.inr (6, [.ref (E.1 id), .int (nI N3)]))) (hd : Ce E g id (xJ S 24 b)) (hnv : iv ≠ ic) (hnd : id ≠ ic) (k : Int32) : CtV S E yX6_plusWide cX6_plusWide 4 none rmX6_plusWide [.ref (E.1 iw), .ref (E.1 iv), .int k] g (fun g' => g' = va_up g ic (xJ S 24 (plW N b k c))) := by
  refine Ct.of RX6 (by decide +kernel) rfl (Nat.le_of_ble_eq_true rfl) (fun M C Z => ?_)
  refine G.eq (pc' := 0) (vs' := [some (.ref (E.1 iw)), some (.ref (E.1 iv)), some (.int k), none]) (st' := []) ?_
  refine r_iconst (pc := 0) (v := nI 0) C dX6_plusWide_0 (by decide +kernel) ?_
  refine r_istore_n (pc := 1) C dX6_plusWide_1 (by decide) ?_
  refine G.eq (pc' := 2) (vs' := [some (.ref (E.1 iw)), some (.ref (E.1 iv)), some (.int k), some (.int (nI 0))]) (st' := []) ?_
  refine G.heap (Ce.id hc) ?_
  refine bk (P := fun t => G M S E (0, 0) (va_up g ic (xJ S 24 (it (fun t f => vp_updL f t (f t + k.toInt64 * b t)) t c))) 2 [some (.ref (E.1 iw)), some (.ref (E.1 iv)), some (.int k), some (.int (nI t))] []) (T := N) ?_ (fun t ht ih => ?_)
  · show G M S E (0, 0) (va_up g ic (xJ S 24 (it (fun t f => vp_updL f t (f t + k.toInt64 * b t)) N c))) 2 [some (.ref (E.1 iw)), some (.ref (E.1 iv)), some (.int k), some (.int (nI N))] []
    refine r_iload_n (pc := 2) C dX6_plusWide_2 rfl ?_
    refine r_aload_n (pc := 3) C dX6_plusWide_3 rfl ?_
    refine r_getf (pc := 4) C dX6_plusWide_4 fl_RX6_15 (Ce.up hw (by omega)) rfl ?_
    refine r_icmp_ge (pc := 7) (tgt := 34) C dX6_plusWide_7 (by decide) (fun h7 => ?_) (fun h7 => ?_)
    · have h7 := c_le (by omega) (by omega) h7
      exact r_vret (pc := 34) C Z dX6_plusWide_34 rfl
    · have h7 := c_nle (by omega) (by omega) h7
      omega
  · show G M S E (0, 0) (va_up g ic (xJ S 24 (it (fun t f => vp_updL f t (f t + k.toInt64 * b t)) t c))) 2 [some (.ref (E.1 iw)), some (.ref (E.1 iv)), some (.int k), some (.int (nI t))] []
    refine r_iload_n (pc := 2) C dX6_plusWide_2 rfl ?_
    refine r_aload_n (pc := 3) C dX6_plusWide_3 rfl ?_
    refine r_getf (pc := 4) C dX6_plusWide_4 fl_RX6_15 (Ce.up hw (by omega)) rfl ?_
    refine r_icmp_ge (pc := 7) (tgt := 34) C dX6_plusWide_7 (by decide) (fun h7 => ?_) (fun h7 => ?_)
    · have h7 := c_le (by omega) (by omega) h7
      omega
    · have h7 := c_nle (by omega) (by omega) h7
      refine r_aload_n (pc := 10) C dX6_plusWide_10 rfl ?_
      refine r_getf (pc := 11) C dX6_plusWide_11 fl_RX6_9 (Ce.up hw (by omega)) rfl ?_
      refine r_iload_n (pc := 14) C dX6_plusWide_14 rfl ?_
      refine r_dup2 (pc := 15) C dX6_plusWide_15 rfl rfl ?_
      refine r_lald (pc := 16) C dX6_plusWide_16 (Ce.new hc) rfl (by omega) (by omega) ?_
      refine r_iload_n (pc := 17) C dX6_plusWide_17 rfl ?_
      refine r_i2l (pc := 18) C dX6_plusWide_18 ?_
      refine r_aload_n (pc := 19) C dX6_plusWide_19 rfl ?_
      refine r_getf (pc := 20) C dX6_plusWide_20 fl_RX6_9 (Ce.up hv (by omega)) rfl ?_
      refine r_iload_n (pc := 23) C dX6_plusWide_23 rfl ?_
      refine r_lald (pc := 24) C dX6_plusWide_24 (Ce.up hd (by omega)) rfl (by omega) (by omega) ?_
      refine r_lmul (pc := 25) C dX6_plusWide_25 ?_
      refine r_ladd (pc := 26) C dX6_plusWide_26 ?_
      refine r_last2 (pc := 27) C dX6_plusWide_27 hc.1 rfl (by omega) (by omega) ?_
      refine r_iinc (pc := 28) (v := nI (t + 1)) C dX6_plusWide_28 rfl (nI_i1 _) (by decide) ?_
      refine G.eq (pc' := 31) (vs' := [some (.ref (E.1 iw)), some (.ref (E.1 iv)), some (.int k), some (.int (nI (t + 1)))]) (st' := []) ?_
      refine r_goto (pc := 31) (tgt := 2) C dX6_plusWide_31 (by decide) ?_
      exact ih
/-- divided by 1 - q^p, multiplied by it -/
def ovF (N p : Nat) (c : Nat → Int64) : Nat → Int64 := it (fun t f => vp_updL f (p + t) (f (p + t) + f (p + t - p))) (N - p) c
def tmF (N p : Nat) (c : Nat → Int64) : Nat → Int64 := it (fun t f => vp_updL f (N - t - 1) (f (N - t - 1) - f (N - t - 1 - p))) (N - p) c
set_option maxHeartbeats 4000000 in
set_option maxRecDepth 100000 in
theorem c_X6_overFactor {S : ST} {E : ET} {g : Nat → va_E} {iw ic N : Nat} {c : Nat → Int64} (hw : Ce E g iw (.inr (6, [.ref (E.1 ic), .int (nI N)]))) (hc : Ce E g ic (xJ S 24 c)) (hN : N ≤ 24) (hne : iw ≠ ic) (p : Nat) (hp : p < 2 ^ 30) : CtV S E yX6_overFactor cX6_overFactor 3 none rmX6_overFactor [.ref (E.1 iw), .int (nI p)] g (fun g' => g' = va_up g ic (xJ S 24 (ovF N p c))) := by
  refine Ct.of RX6 (by decide +kernel) rfl (Nat.le_of_ble_eq_true rfl) (fun M C Z => ?_)
  refine G.eq (pc' := 0) (vs' := [some (.ref (E.1 iw)), some (.int (nI p)), none]) (st' := []) ?_
  refine r_iload_n (pc := 0) C dX6_overFactor_0 rfl ?_
  refine r_istore_n (pc := 1) C dX6_overFactor_1 (by decide) ?_
  refine G.eq (pc' := 2) (vs' := [some (.ref (E.1 iw)), some (.int (nI p)), some (.int (nI p))]) (st' := []) ?_
  refine G.heap (Ce.id hc) ?_
  refine bk (P := fun t => G M S E (0, 0) (va_up g ic (xJ S 24 (it (fun t f => vp_updL f (p + t) (f (p + t) + f (p + t - p))) t c))) 2 [some (.ref (E.1 iw)), some (.int (nI p)), some (.int (nI (p + t)))] []) (T := N - p) ?_ (fun t ht ih => ?_)
  · show G M S E (0, 0) (va_up g ic (xJ S 24 (it (fun t f => vp_updL f (p + t) (f (p + t) + f (p + t - p))) (N - p) c))) 2 [some (.ref (E.1 iw)), some (.int (nI p)), some (.int (nI (p + (N - p))))] []
    refine r_iload_n (pc := 2) C dX6_overFactor_2 rfl ?_
    refine r_aload_n (pc := 3) C dX6_overFactor_3 rfl ?_
    refine r_getf (pc := 4) C dX6_overFactor_4 fl_RX6_15 (Ce.up hw (by omega)) rfl ?_
    refine r_icmp_ge (pc := 7) (tgt := 33) C dX6_overFactor_7 (by decide) (fun h7 => ?_) (fun h7 => ?_)
    · have h7 := c_le (by omega) (by omega) h7
      exact r_vret (pc := 33) C Z dX6_overFactor_33 rfl
    · have h7 := c_nle (by omega) (by omega) h7
      omega
  · show G M S E (0, 0) (va_up g ic (xJ S 24 (it (fun t f => vp_updL f (p + t) (f (p + t) + f (p + t - p))) t c))) 2 [some (.ref (E.1 iw)), some (.int (nI p)), some (.int (nI (p + t)))] []
    refine r_iload_n (pc := 2) C dX6_overFactor_2 rfl ?_
    refine r_aload_n (pc := 3) C dX6_overFactor_3 rfl ?_
    refine r_getf (pc := 4) C dX6_overFactor_4 fl_RX6_15 (Ce.up hw (by omega)) rfl ?_
    refine r_icmp_ge (pc := 7) (tgt := 33) C dX6_overFactor_7 (by decide) (fun h7 => ?_) (fun h7 => ?_)
    · have h7 := c_le (by omega) (by omega) h7
      omega
    · have h7 := c_nle (by omega) (by omega) h7
      refine r_aload_n (pc := 10) C dX6_overFactor_10 rfl ?_
      refine r_getf (pc := 11) C dX6_overFactor_11 fl_RX6_9 (Ce.up hw (by omega)) rfl ?_
      refine r_iload_n (pc := 14) C dX6_overFactor_14 rfl ?_
      refine r_dup2 (pc := 15) C dX6_overFactor_15 rfl rfl ?_
      refine r_lald (pc := 16) C dX6_overFactor_16 (Ce.new hc) rfl (by omega) (by omega) ?_
      refine r_aload_n (pc := 17) C dX6_overFactor_17 rfl ?_
      refine r_getf (pc := 18) C dX6_overFactor_18 fl_RX6_9 (Ce.up hw (by omega)) rfl ?_
      refine r_iload_n (pc := 21) C dX6_overFactor_21 rfl ?_
      refine r_iload_n (pc := 22) C dX6_overFactor_22 rfl ?_
      refine r_isub (pc := 23) C dX6_overFactor_23 ?_
      refine r_ti (nI (p + t - p)) (pk_sub (by omega)) ?_
      refine r_lald (pc := 24) C dX6_overFactor_24 (Ce.new hc) rfl (by omega) (by omega) ?_
      refine r_ladd (pc := 25) C dX6_overFactor_25 ?_
      refine r_last2 (pc := 26) C dX6_overFactor_26 hc.1 rfl (by omega) (by omega) ?_
      refine r_iinc (pc := 27) (v := nI (p + t + 1)) C dX6_overFactor_27 rfl (nI_i1 _) (by decide) ?_
      refine G.eq (pc' := 30) (vs' := [some (.ref (E.1 iw)), some (.int (nI p)), some (.int (nI (p + t + 1)))]) (st' := []) ?_
      refine r_goto (pc := 30) (tgt := 2) C dX6_overFactor_30 (by decide) ?_
      exact ih
