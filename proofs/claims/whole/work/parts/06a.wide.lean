set_option maxHeartbeats 4000000 in
set_option maxRecDepth 100000 in
/-- Arrays.fill -/
theorem c_J7_fill_d0a16 {S : ST} {E : ET} {g : Nat → va_E} {ia N : Nat} {c : Nat → Int64} (v : Int64) (ha : Ce E g ia (xJ S N c)) (hN : N < 2 ^ 31) : CtV S E yJ7_fill_d0a16 cJ7_fill_d0a16 5 none rmJ7_fill_d0a16 [.ref (E.1 ia), .long v] g (fun g' => g' = va_up g ia (xJ S N (fun _ => v))) := by
  refine Ct.of RJ7 (by decide +kernel) rfl (Nat.le_of_ble_eq_true rfl) (fun M C Z => ?_)
  refine G.eq (pc' := 0) (vs' := [some (.ref (E.1 ia)), some (.long v), none, none, none]) (st' := []) ?_
  refine r_iconst (pc := 0) (v := nI 0) C dJ7_fill_d0a16_0 (by decide +kernel) ?_
  refine r_istore_n (pc := 1) C dJ7_fill_d0a16_1 (by decide) ?_
  refine G.eq (pc' := 2) (vs' := [some (.ref (E.1 ia)), some (.long v), none, some (.int (nI 0)), none]) (st' := []) ?_
  refine r_aload_n (pc := 2) C dJ7_fill_d0a16_2 rfl ?_
  refine r_alen (pc := 3) (t0 := 1) (N := N) C dJ7_fill_d0a16_3 ha rfl rfl ?_
  refine r_istore (pc := 4) C dJ7_fill_d0a16_4 (by decide) ?_
  refine G.eq (pc' := 6) (vs' := [some (.ref (E.1 ia)), some (.long v), none, some (.int (nI 0)), some (.int (nI N))]) (st' := []) ?_
  refine G.heap (Ce.id ha) ?_
  refine bk (P := fun t => G M S E (0, 0) (va_up g ia (xJ S N (it (fun t f => vp_updL f t v) t c))) 6 [some (.ref (E.1 ia)), some (.long v), none, some (.int (nI t)), some (.int (nI N))] []) (T := N) ?_ (fun t ht ih => ?_)
  · show G M S E (0, 0) (va_up g ia (xJ S N (it (fun t f => vp_updL f t v) N c))) 6 [some (.ref (E.1 ia)), some (.long v), none, some (.int (nI N)), some (.int (nI N))] []
    refine r_iload_n (pc := 6) C dJ7_fill_d0a16_6 rfl ?_
    refine r_iload (pc := 7) C dJ7_fill_d0a16_7 rfl ?_
    refine r_icmp_ge (pc := 9) (tgt := 22) C dJ7_fill_d0a16_9 (by decide) (fun h9 => ?_) (fun h9 => ?_)
    · have h9 := c_le (by omega) (by omega) h9
      refine G.cJ (f' := fun _ => v) (fun j hj => by rw [it_fillL, if_pos hj]) ?_
      exact r_vret (pc := 22) C Z dJ7_fill_d0a16_22 rfl
    · have h9 := c_nle (by omega) (by omega) h9
      omega
  · show G M S E (0, 0) (va_up g ia (xJ S N (it (fun t f => vp_updL f t v) t c))) 6 [some (.ref (E.1 ia)), some (.long v), none, some (.int (nI t)), some (.int (nI N))] []
    refine r_iload_n (pc := 6) C dJ7_fill_d0a16_6 rfl ?_
    refine r_iload (pc := 7) C dJ7_fill_d0a16_7 rfl ?_
    refine r_icmp_ge (pc := 9) (tgt := 22) C dJ7_fill_d0a16_9 (by decide) (fun h9 => ?_) (fun h9 => ?_)
    · have h9 := c_le (by omega) (by omega) h9
      omega
    · have h9 := c_nle (by omega) (by omega) h9
      refine r_aload_n (pc := 12) C dJ7_fill_d0a16_12 rfl ?_
      refine r_iload_n (pc := 13) C dJ7_fill_d0a16_13 rfl ?_
      refine r_lload_n (pc := 14) C dJ7_fill_d0a16_14 rfl ?_
      refine r_last2 (pc := 15) C dJ7_fill_d0a16_15 ha.1 rfl (by omega) (by omega) ?_
      refine r_iinc (pc := 16) (v := nI (t + 1)) C dJ7_fill_d0a16_16 rfl (nI_i1 _) (by decide) ?_
      refine G.eq (pc' := 19) (vs' := [some (.ref (E.1 ia)), some (.long v), none, some (.int (nI (t + 1))), some (.int (nI N))]) (st' := []) ?_
      refine r_goto (pc := 19) (tgt := 6) C dJ7_fill_d0a16_19 (by decide) ?_
      exact ih
set_option maxHeartbeats 4000000 in
set_option maxRecDepth 100000 in
/-- Arrays.fill -/
theorem c_J7_fill_53178 {S : ST} {E : ET} {g : Nat → va_E} {ia N : Nat} {c : Nat → Int32} (v : Int32) (ha : Ce E g ia (xI S N c)) (hN : N < 2 ^ 31) : CtV S E yJ7_fill_53178 cJ7_fill_53178 4 none rmJ7_fill_53178 [.ref (E.1 ia), .int v] g (fun g' => g' = va_up g ia (xI S N (fun _ => v))) := by
  refine Ct.of RJ7 (by decide +kernel) rfl (Nat.le_of_ble_eq_true rfl) (fun M C Z => ?_)
  refine G.eq (pc' := 0) (vs' := [some (.ref (E.1 ia)), some (.int v), none, none]) (st' := []) ?_
  refine r_iconst (pc := 0) (v := nI 0) C dJ7_fill_53178_0 (by decide +kernel) ?_
  refine r_istore_n (pc := 1) C dJ7_fill_53178_1 (by decide) ?_
  refine G.eq (pc' := 2) (vs' := [some (.ref (E.1 ia)), some (.int v), some (.int (nI 0)), none]) (st' := []) ?_
  refine r_aload_n (pc := 2) C dJ7_fill_53178_2 rfl ?_
  refine r_alen (pc := 3) (t0 := 0) (N := N) C dJ7_fill_53178_3 ha rfl rfl ?_
  refine r_istore_n (pc := 4) C dJ7_fill_53178_4 (by decide) ?_
  refine G.eq (pc' := 5) (vs' := [some (.ref (E.1 ia)), some (.int v), some (.int (nI 0)), some (.int (nI N))]) (st' := []) ?_
  refine G.heap (Ce.id ha) ?_
  refine bk (P := fun t => G M S E (0, 0) (va_up g ia (xI S N (it (fun t f => upd f t v) t c))) 5 [some (.ref (E.1 ia)), some (.int v), some (.int (nI t)), some (.int (nI N))] []) (T := N) ?_ (fun t ht ih => ?_)
  · show G M S E (0, 0) (va_up g ia (xI S N (it (fun t f => upd f t v) N c))) 5 [some (.ref (E.1 ia)), some (.int v), some (.int (nI N)), some (.int (nI N))] []
    refine r_iload_n (pc := 5) C dJ7_fill_53178_5 rfl ?_
    refine r_iload_n (pc := 6) C dJ7_fill_53178_6 rfl ?_
    refine r_icmp_ge (pc := 7) (tgt := 20) C dJ7_fill_53178_7 (by decide) (fun h7 => ?_) (fun h7 => ?_)
    · have h7 := c_le (by omega) (by omega) h7
      refine G.cI (f' := fun _ => v) (fun j hj => by rw [it_fillI, if_pos hj]) ?_
      exact r_vret (pc := 20) C Z dJ7_fill_53178_20 rfl
    · have h7 := c_nle (by omega) (by omega) h7
      omega
  · show G M S E (0, 0) (va_up g ia (xI S N (it (fun t f => upd f t v) t c))) 5 [some (.ref (E.1 ia)), some (.int v), some (.int (nI t)), some (.int (nI N))] []
    refine r_iload_n (pc := 5) C dJ7_fill_53178_5 rfl ?_
    refine r_iload_n (pc := 6) C dJ7_fill_53178_6 rfl ?_
    refine r_icmp_ge (pc := 7) (tgt := 20) C dJ7_fill_53178_7 (by decide) (fun h7 => ?_) (fun h7 => ?_)
    · have h7 := c_le (by omega) (by omega) h7
      omega
    · have h7 := c_nle (by omega) (by omega) h7
      refine r_aload_n (pc := 10) C dJ7_fill_53178_10 rfl ?_
      refine r_iload_n (pc := 11) C dJ7_fill_53178_11 rfl ?_
      refine r_iload_n (pc := 12) C dJ7_fill_53178_12 rfl ?_
      refine r_iast2 (pc := 13) C dJ7_fill_53178_13 ha.1 rfl (by omega) (by omega) ?_
      refine r_iinc (pc := 14) (v := nI (t + 1)) C dJ7_fill_53178_14 rfl (nI_i1 _) (by decide) ?_
      refine G.eq (pc' := 17) (vs' := [some (.ref (E.1 ia)), some (.int v), some (.int (nI (t + 1))), some (.int (nI N))]) (st' := []) ?_
      refine r_goto (pc := 17) (tgt := 5) C dJ7_fill_53178_17 (by decide) ?_
      exact ih
set_option maxHeartbeats 4000000 in
set_option maxRecDepth 100000 in
theorem c_X6_setZero {S : ST} {E : ET} {g : Nat → va_E} {iw ic N : Nat} {c : Nat → Int64} (N2 : Nat) (hw : Ce E g iw (.inr (6, [.ref (E.1 ic), .int (nI N)]))) (hc : Ce E g ic (xJ S 24 c)) (hne : iw ≠ ic) : CtV S E yX6_setZero cX6_setZero 2 none rmX6_setZero [.ref (E.1 iw), .int (nI N2)] g (fun g' => g' = va_up (va_up g iw (.inr (6, [.ref (E.1 ic), .int (nI N2)]))) ic (xJ S 24 (fun _ => 0))) := by
  refine Ct.of RX6 (by decide +kernel) rfl (Nat.le_of_ble_eq_true rfl) (fun M C Z => ?_)
  refine G.eq (pc' := 0) (vs' := [some (.ref (E.1 iw)), some (.int (nI N2))]) (st' := []) ?_
  refine r_aload_n (pc := 0) C dX6_setZero_0 rfl ?_
  refine r_iload_n (pc := 1) C dX6_setZero_1 rfl ?_
  refine r_putf (pc := 2) C dX6_setZero_2 fp_RX6_15 hw rfl rfl (Nat.le_of_ble_eq_true rfl) ?_
  refine r_aload_n (pc := 5) C dX6_setZero_5 rfl ?_
  refine r_getf (pc := 6) C dX6_setZero_6 fl_RX6_9 (Ce.new hw) rfl ?_
  refine r_lconst (pc := 9) (v := 0) C dX6_setZero_9 rfl ?_
  refine r_callS (pc := 10) C dX6_setZero_10 cs_RX6_19 (c_J7_fill_d0a16 0 (Ce.up hc (by omega)) (by decide)) ⟨rfl, rfl, by decide, by decide⟩ rfl rfl (Nat.le_of_ble_eq_true rfl) ⟨Nat.zero_le _, Nat.zero_le _⟩ ?_
  rintro _ _ ⟨rfl, rfl⟩
  show G M S E (0, 0) (va_up (va_up g iw (.inr (6, [.ref (E.1 ic), .int (nI N2)]))) ic (xJ S 24 (fun _ => 0))) 13 [some (.ref (E.1 iw)), some (.int (nI N2))] []
  exact r_vret (pc := 13) C Z dX6_setZero_13 rfl
/-- a term more -/
def plT (N p : Nat) (k : Int32) (c : Nat → Int64) : Nat → Int64 := if p < N then vp_updL c p (c p + k.toInt64) else c
set_option maxHeartbeats 4000000 in
set_option maxRecDepth 100000 in
theorem c_X6_plusTerm {S : ST} {E : ET} {g : Nat → va_E} {iw ic N : Nat} {c : Nat → Int64} (hw : Ce E g iw (.inr (6, [.ref (E.1 ic), .int (nI N)]))) (hc : Ce E g ic (xJ S 24 c)) (hN : N ≤ 24) (hne : iw ≠ ic) (p : Nat) (hp : p < 2 ^ 31) (k : Int32) : CtV S E yX6_plusTerm cX6_plusTerm 3 none rmX6_plusTerm [.ref (E.1 iw), .int (nI p), .int k] g (fun g' => g' = va_up g ic (xJ S 24 (plT N p k c))) := by
  refine Ct.of RX6 (by decide +kernel) rfl (Nat.le_of_ble_eq_true rfl) (fun M C Z => ?_)
  refine G.eq (pc' := 0) (vs' := [some (.ref (E.1 iw)), some (.int (nI p)), some (.int k)]) (st' := []) ?_
  refine r_iload_n (pc := 0) C dX6_plusTerm_0 rfl ?_
  refine r_if_lt (pc := 1) (tgt := 23) C dX6_plusTerm_1 (by decide) (fun h1 => ?_) (fun h1 => ?_)
  · exact absurd h1 (nI_pos hp)
  · refine r_iload_n (pc := 4) C dX6_plusTerm_4 rfl ?_
    refine r_aload_n (pc := 5) C dX6_plusTerm_5 rfl ?_
    refine r_getf (pc := 6) C dX6_plusTerm_6 fl_RX6_15 hw rfl ?_
    refine r_icmp_ge (pc := 9) (tgt := 23) C dX6_plusTerm_9 (by decide) (fun h9 => ?_) (fun h9 => ?_)
    · have h9 := c_le (by omega) (by omega) h9
      refine G.heap (Ce.id hc) ?_
      rw [show c = plT N p k c by unfold plT; rw [if_neg (by omega)]]
      exact r_vret (pc := 23) C Z dX6_plusTerm_23 rfl
    · have h9 := c_nle (by omega) (by omega) h9
      refine r_aload_n (pc := 12) C dX6_plusTerm_12 rfl ?_
      refine r_getf (pc := 13) C dX6_plusTerm_13 fl_RX6_9 hw rfl ?_
      refine r_iload_n (pc := 16) C dX6_plusTerm_16 rfl ?_
      refine r_dup2 (pc := 17) C dX6_plusTerm_17 rfl rfl ?_
      refine r_lald (pc := 18) C dX6_plusTerm_18 hc rfl (by omega) (by omega) ?_
      refine r_iload_n (pc := 19) C dX6_plusTerm_19 rfl ?_
      refine r_i2l (pc := 20) C dX6_plusTerm_20 ?_
      refine r_ladd (pc := 21) C dX6_plusTerm_21 ?_
      refine r_last (pc := 22) C dX6_plusTerm_22 hc rfl (by omega) (by omega) ?_
      rw [show vp_updL c p (c p + k.toInt64) = plT N p k c by unfold plT; rw [if_pos (by omega)]]
      exact r_vret (pc := 23) C Z dX6_plusTerm_23 rfl
/-- a multiple of a row more -/
def plR (N : Nat) (a : Nat → Int32) (k : Int32) (c : Nat → Int64) : Nat → Int64 := it (fun t f => vp_updL f t (f t + k.toInt64 * (a t).toInt64)) N c
set_option maxHeartbeats 4000000 in
set_option maxRecDepth 100000 in
theorem c_X6_plusRow {S : ST} {E : ET} {g : Nat → va_E} {iw ic N : Nat} {c : Nat → Int64} (hw : Ce E g iw (.inr (6, [.ref (E.1 ic), .int (nI N)]))) (hc : Ce E g ic (xJ S 24 c)) (hN : N ≤ 24) (hne : iw ≠ ic) {ir : Nat} {a : Nat → Int32} (hr : Ce E g ir (xI S 24 a)) (hnr : ir ≠ ic) (k : Int32) : CtV S E yX6_plusRow cX6_plusRow 4 none rmX6_plusRow [.ref (E.1 iw), .ref (E.1 ir), .int k] g (fun g' => g' = va_up g ic (xJ S 24 (plR N a k c))) := by
  refine Ct.of RX6 (by decide +kernel) rfl (Nat.le_of_ble_eq_true rfl) (fun M C Z => ?_)
  refine G.eq (pc' := 0) (vs' := [some (.ref (E.1 iw)), some (.ref (E.1 ir)), some (.int k), none]) (st' := []) ?_
  refine r_iconst (pc := 0) (v := nI 0) C dX6_plusRow_0 (by decide +kernel) ?_
  refine r_istore_n (pc := 1) C dX6_plusRow_1 (by decide) ?_
  refine G.eq (pc' := 2) (vs' := [some (.ref (E.1 iw)), some (.ref (E.1 ir)), some (.int k), some (.int (nI 0))]) (st' := []) ?_
  refine G.heap (Ce.id hc) ?_
  refine bk (P := fun t => G M S E (0, 0) (va_up g ic (xJ S 24 (it (fun t f => vp_updL f t (f t + k.toInt64 * (a t).toInt64)) t c))) 2 [some (.ref (E.1 iw)), some (.ref (E.1 ir)), some (.int k), some (.int (nI t))] []) (T := N) ?_ (fun t ht ih => ?_)
  · show G M S E (0, 0) (va_up g ic (xJ S 24 (it (fun t f => vp_updL f t (f t + k.toInt64 * (a t).toInt64)) N c))) 2 [some (.ref (E.1 iw)), some (.ref (E.1 ir)), some (.int k), some (.int (nI N))] []
    refine r_iload_n (pc := 2) C dX6_plusRow_2 rfl ?_
    refine r_aload_n (pc := 3) C dX6_plusRow_3 rfl ?_
    refine r_getf (pc := 4) C dX6_plusRow_4 fl_RX6_15 (Ce.up hw (by omega)) rfl ?_
    refine r_icmp_ge (pc := 7) (tgt := 32) C dX6_plusRow_7 (by decide) (fun h7 => ?_) (fun h7 => ?_)
    · have h7 := c_le (by omega) (by omega) h7
      exact r_vret (pc := 32) C Z dX6_plusRow_32 rfl
    · have h7 := c_nle (by omega) (by omega) h7
      omega
  · show G M S E (0, 0) (va_up g ic (xJ S 24 (it (fun t f => vp_updL f t (f t + k.toInt64 * (a t).toInt64)) t c))) 2 [some (.ref (E.1 iw)), some (.ref (E.1 ir)), some (.int k), some (.int (nI t))] []
    refine r_iload_n (pc := 2) C dX6_plusRow_2 rfl ?_
    refine r_aload_n (pc := 3) C dX6_plusRow_3 rfl ?_
    refine r_getf (pc := 4) C dX6_plusRow_4 fl_RX6_15 (Ce.up hw (by omega)) rfl ?_
    refine r_icmp_ge (pc := 7) (tgt := 32) C dX6_plusRow_7 (by decide) (fun h7 => ?_) (fun h7 => ?_)
    · have h7 := c_le (by omega) (by omega) h7
      omega
    · have h7 := c_nle (by omega) (by omega) h7
      refine r_aload_n (pc := 10) C dX6_plusRow_10 rfl ?_
      refine r_getf (pc := 11) C dX6_plusRow_11 fl_RX6_9 (Ce.up hw (by omega)) rfl ?_
      refine r_iload_n (pc := 14) C dX6_plusRow_14 rfl ?_
      refine r_dup2 (pc := 15) C dX6_plusRow_15 rfl rfl ?_
      refine r_lald (pc := 16) C dX6_plusRow_16 (Ce.new hc) rfl (by omega) (by omega) ?_
      refine r_iload_n (pc := 17) C dX6_plusRow_17 rfl ?_
      refine r_i2l (pc := 18) C dX6_plusRow_18 ?_
      refine r_aload_n (pc := 19) C dX6_plusRow_19 rfl ?_
      refine r_iload_n (pc := 20) C dX6_plusRow_20 rfl ?_
      refine r_iald (pc := 21) C dX6_plusRow_21 (Ce.up hr (by omega)) rfl (by omega) (by omega) ?_
      refine r_i2l (pc := 22) C dX6_plusRow_22 ?_
      refine r_lmul (pc := 23) C dX6_plusRow_23 ?_
      refine r_ladd (pc := 24) C dX6_plusRow_24 ?_
      refine r_last2 (pc := 25) C dX6_plusRow_25 hc.1 rfl (by omega) (by omega) ?_
      refine r_iinc (pc := 26) (v := nI (t + 1)) C dX6_plusRow_26 rfl (nI_i1 _) (by decide) ?_
      refine G.eq (pc' := 29) (vs' := [some (.ref (E.1 iw)), some (.ref (E.1 ir)), some (.int k), some (.int (nI (t + 1)))]) (st' := []) ?_
      refine r_goto (pc := 29) (tgt := 2) C dX6_plusRow_29 (by decide) ?_
      exact ih
/-- a shifted row more -/
def plS (N : Nat) (a : Nat → Int32) (p : Nat) (c : Nat → Int64) : Nat → Int64 := it (fun t f => vp_updL f (t + p) (f (t + p) + (a t).toInt64)) (N - p) c
set_option maxHeartbeats 4000000 in
set_option maxRecDepth 100000 in
theorem c_X6_plusShifted {S : ST} {E : ET} {g : Nat → va_E} {iw ic N : Nat} {c : Nat → Int64} (hw : Ce E g iw (.inr (6, [.ref (E.1 ic), .int (nI N)]))) (hc : Ce E g ic (xJ S 24 c)) (hN : N ≤ 24) (hne : iw ≠ ic) {ir : Nat} {a : Nat → Int32} (hr : Ce E g ir (xI S 24 a)) (hnr : ir ≠ ic) (p : Nat) (hp : p < 2 ^ 30) : CtV S E yX6_plusShifted cX6_plusShifted 4 none rmX6_plusShifted [.ref (E.1 iw), .ref (E.1 ir), .int (nI p)] g (fun g' => g' = va_up g ic (xJ S 24 (plS N a p c))) := by
  refine Ct.of RX6 (by decide +kernel) rfl (Nat.le_of_ble_eq_true rfl) (fun M C Z => ?_)
  refine G.eq (pc' := 0) (vs' := [some (.ref (E.1 iw)), some (.ref (E.1 ir)), some (.int (nI p)), none]) (st' := []) ?_
  refine r_iconst (pc := 0) (v := nI 0) C dX6_plusShifted_0 (by decide +kernel) ?_
  refine r_istore_n (pc := 1) C dX6_plusShifted_1 (by decide) ?_
  refine G.eq (pc' := 2) (vs' := [some (.ref (E.1 iw)), some (.ref (E.1 ir)), some (.int (nI p)), some (.int (nI 0))]) (st' := []) ?_
  refine G.heap (Ce.id hc) ?_
  refine bk (P := fun t => G M S E (0, 0) (va_up g ic (xJ S 24 (it (fun t f => vp_updL f (t + p) (f (t + p) + (a t).toInt64)) t c))) 2 [some (.ref (E.1 iw)), some (.ref (E.1 ir)), some (.int (nI p)), some (.int (nI t))] []) (T := N - p) ?_ (fun t ht ih => ?_)
  · show G M S E (0, 0) (va_up g ic (xJ S 24 (it (fun t f => vp_updL f (t + p) (f (t + p) + (a t).toInt64)) (N - p) c))) 2 [some (.ref (E.1 iw)), some (.ref (E.1 ir)), some (.int (nI p)), some (.int (nI (N - p)))] []
    refine r_iload_n (pc := 2) C dX6_plusShifted_2 rfl ?_
    refine r_iload_n (pc := 3) C dX6_plusShifted_3 rfl ?_
    refine r_iadd (pc := 4) C dX6_plusShifted_4 ?_
    refine r_ti (nI ((N - p) + p)) (nI_add _ _) ?_
    refine r_aload_n (pc := 5) C dX6_plusShifted_5 rfl ?_
    refine r_getf (pc := 6) C dX6_plusShifted_6 fl_RX6_15 (Ce.up hw (by omega)) rfl ?_
    refine r_icmp_ge (pc := 9) (tgt := 33) C dX6_plusShifted_9 (by decide) (fun h9 => ?_) (fun h9 => ?_)
    · have h9 := c_le (by omega) (by omega) h9
      exact r_vret (pc := 33) C Z dX6_plusShifted_33 rfl
    · have h9 := c_nle (by omega) (by omega) h9
      omega
  · show G M S E (0, 0) (va_up g ic (xJ S 24 (it (fun t f => vp_updL f (t + p) (f (t + p) + (a t).toInt64)) t c))) 2 [some (.ref (E.1 iw)), some (.ref (E.1 ir)), some (.int (nI p)), some (.int (nI t))] []
    refine r_iload_n (pc := 2) C dX6_plusShifted_2 rfl ?_
    refine r_iload_n (pc := 3) C dX6_plusShifted_3 rfl ?_
    refine r_iadd (pc := 4) C dX6_plusShifted_4 ?_
    refine r_ti (nI (t + p)) (nI_add _ _) ?_
    refine r_aload_n (pc := 5) C dX6_plusShifted_5 rfl ?_
    refine r_getf (pc := 6) C dX6_plusShifted_6 fl_RX6_15 (Ce.up hw (by omega)) rfl ?_
    refine r_icmp_ge (pc := 9) (tgt := 33) C dX6_plusShifted_9 (by decide) (fun h9 => ?_) (fun h9 => ?_)
    · have h9 := c_le (by omega) (by omega) h9
      omega
    · have h9 := c_nle (by omega) (by omega) h9
      refine r_aload_n (pc := 12) C dX6_plusShifted_12 rfl ?_
      refine r_getf (pc := 13) C dX6_plusShifted_13 fl_RX6_9 (Ce.up hw (by omega)) rfl ?_
      refine r_iload_n (pc := 16) C dX6_plusShifted_16 rfl ?_
      refine r_iload_n (pc := 17) C dX6_plusShifted_17 rfl ?_
      refine r_iadd (pc := 18) C dX6_plusShifted_18 ?_
      refine r_ti (nI (t + p)) (nI_add _ _) ?_
      refine r_dup2 (pc := 19) C dX6_plusShifted_19 rfl rfl ?_
      refine r_lald (pc := 20) C dX6_plusShifted_20 (Ce.new hc) rfl (by omega) (by omega) ?_
      refine r_aload_n (pc := 21) C dX6_plusShifted_21 rfl ?_
      refine r_iload_n (pc := 22) C dX6_plusShifted_22 rfl ?_
      refine r_iald (pc := 23) C dX6_plusShifted_23 (Ce.up hr (by omega)) rfl (by omega) (by omega) ?_
      refine r_i2l (pc := 24) C dX6_plusShifted_24 ?_
      refine r_ladd (pc := 25) C dX6_plusShifted_25 ?_
      refine r_last2 (pc := 26) C dX6_plusShifted_26 hc.1 rfl (by omega) (by omega) ?_
      refine r_iinc (pc := 27) (v := nI (t + 1)) C dX6_plusShifted_27 rfl (nI_i1 _) (by decide) ?_
      refine G.eq (pc' := 30) (vs' := [some (.ref (E.1 iw)), some (.ref (E.1 ir)), some (.int (nI p)), some (.int (nI (t + 1)))]) (st' := []) ?_
      refine r_goto (pc := 30) (tgt := 2) C dX6_plusShifted_30 (by decide) ?_
      exact ih
/-- a multiple of a wide series more -/
def plW (N : Nat) (b : Nat → Int64) (k : Int32) (c : Nat → Int64) : Nat → Int64 := it (fun t f => vp_updL f t (f t + k.toInt64 * b t)) N c
set_option maxHeartbeats 4000000 in
set_option maxRecDepth 100000 in
theorem c_X6_plusWide {S : ST} {E : ET} {g : Nat → va_E} {iw ic N : Nat} {c : Nat → Int64} (hw : Ce E g iw (.inr (6, [.ref (E.1 ic), .int (nI N)]))) (hc : Ce E g ic (xJ S 24 c)) (hN : N ≤ 24) (hne : iw ≠ ic) {iv id N3 : Nat} {b : Nat → Int64} (hv : Ce E g iv (.inr (6, [.ref (E.1 id), .int (nI N3)]))) (hd : Ce E g id (xJ S 24 b)) (hnv : iv ≠ ic) (hnd : id ≠ ic) (k : Int32) : CtV S E yX6_plusWide cX6_plusWide 4 none rmX6_plusWide [.ref (E.1 iw), .ref (E.1 iv), .int k] g (fun g' => g' = va_up g ic (xJ S 24 (plW N b k c))) := by
  refine Ct.of RX6 (by decide +kernel) rfl (Nat.le_of_ble_eq_true rfl) (fun M C Z => ?_)
  refine G.eq (pc' := 0) (vs' := [some (.ref (E.1 iw)), some (.ref (E.1 iv)), some (.int k), none]) (st' := []) ?_
  refine r_iconst (pc := 0) (v := nI 0) C dX6_plusWide_0 (by decide +kernel) ?_
  refine r_istore_n (pc := 1) C dX6_plusWide_1 (by decide) ?_
  refine G.eq (pc' := 2) (vs' := [some (.ref (E.1 iw)), some (.ref (E.1 iv)), some (.int k), some (.int (nI 0))]) (st' := []) ?_
  refine G.heap (Ce.id hc) ?_
  refine bk (P := fun t => G M S E (0, 0) (va_up g ic (xJ S 24 (it (fun t f => vp_updL f t (f t + k.toInt64 * b t)) t c))) 2 [some (.ref (E.1 iw)), some (.ref (E.1 iv)), some (.int k), some (.int (nI t))] []) (T := N) ?_ (fun t ht ih => ?_)
  · show G M S E (0, 0) (va_up g ic (xJ S 24 (it (fun t f => vp_updL f t (f t + k.toInt64 * b t)) N c))) 2 [some (.ref (E.1 iw)), some (.ref (E.1 iv)), some (.int k), some (.int (nI N))] []
    refine r_iload_n (pc := 2) C dX6_plusWide_2 rfl ?_
    refine r_aload_n (pc := 3) C dX6_plusWide_3 rfl ?_
    refine r_getf (pc := 4) C dX6_plusWide_4 fl_RX6_15 (Ce.up hw (by omega)) rfl ?_
    refine r_icmp_ge (pc := 7) (tgt := 34) C dX6_plusWide_7 (by decide) (fun h7 => ?_) (fun h7 => ?_)
    · have h7 := c_le (by omega) (by omega) h7
      exact r_vret (pc := 34) C Z dX6_plusWide_34 rfl
    · have h7 := c_nle (by omega) (by omega) h7
      omega
  · show G M S E (0, 0) (va_up g ic (xJ S 24 (it (fun t f => vp_updL f t (f t + k.toInt64 * b t)) t c))) 2 [some (.ref (E.1 iw)), some (.ref (E.1 iv)), some (.int k), some (.int (nI t))] []
    refine r_iload_n (pc := 2) C dX6_plusWide_2 rfl ?_
    refine r_aload_n (pc := 3) C dX6_plusWide_3 rfl ?_
    refine r_getf (pc := 4) C dX6_plusWide_4 fl_RX6_15 (Ce.up hw (by omega)) rfl ?_
    refine r_icmp_ge (pc := 7) (tgt := 34) C dX6_plusWide_7 (by decide) (fun h7 => ?_) (fun h7 => ?_)
    · have h7 := c_le (by omega) (by omega) h7
      omega
    · have h7 := c_nle (by omega) (by omega) h7
      refine r_aload_n (pc := 10) C dX6_plusWide_10 rfl ?_
      refine r_getf (pc := 11) C dX6_plusWide_11 fl_RX6_9 (Ce.up hw (by omega)) rfl ?_
      refine r_iload_n (pc := 14) C dX6_plusWide_14 rfl ?_
      refine r_dup2 (pc := 15) C dX6_plusWide_15 rfl rfl ?_
      refine r_lald (pc := 16) C dX6_plusWide_16 (Ce.new hc) rfl (by omega) (by omega) ?_
      refine r_iload_n (pc := 17) C dX6_plusWide_17 rfl ?_
      refine r_i2l (pc := 18) C dX6_plusWide_18 ?_
      refine r_aload_n (pc := 19) C dX6_plusWide_19 rfl ?_
      refine r_getf (pc := 20) C dX6_plusWide_20 fl_RX6_9 (Ce.up hv (by omega)) rfl ?_
      refine r_iload_n (pc := 23) C dX6_plusWide_23 rfl ?_
      refine r_lald (pc := 24) C dX6_plusWide_24 (Ce.up hd (by omega)) rfl (by omega) (by omega) ?_
      refine r_lmul (pc := 25) C dX6_plusWide_25 ?_
      refine r_ladd (pc := 26) C dX6_plusWide_26 ?_
      refine r_last2 (pc := 27) C dX6_plusWide_27 hc.1 rfl (by omega) (by omega) ?_
      refine r_iinc (pc := 28) (v := nI (t + 1)) C dX6_plusWide_28 rfl (nI_i1 _) (by decide) ?_
      refine G.eq (pc' := 31) (vs' := [some (.ref (E.1 iw)), some (.ref (E.1 iv)), some (.int k), some (.int (nI (t + 1)))]) (st' := []) ?_
      refine r_goto (pc := 31) (tgt := 2) C dX6_plusWide_31 (by decide) ?_
      exact ih
/-- divided by 1 - q^p, multiplied by it -/
def ovF (N p : Nat) (c : Nat → Int64) : Nat → Int64 := it (fun t f => vp_updL f (p + t) (f (p + t) + f (p + t - p))) (N - p) c
def tmF (N p : Nat) (c : Nat → Int64) : Nat → Int64 := it (fun t f => vp_updL f (N - t - 1) (f (N - t - 1) - f (N - t - 1 - p))) (N - p) c
set_option maxHeartbeats 4000000 in
set_option maxRecDepth 100000 in
theorem c_X6_overFactor {S : ST} {E : ET} {g : Nat → va_E} {iw ic N : Nat} {c : Nat → Int64} (hw : Ce E g iw (.inr (6, [.ref (E.1 ic), .int (nI N)]))) (hc : Ce E g ic (xJ S 24 c)) (hN : N ≤ 24) (hne : iw ≠ ic) (p : Nat) (hp : p < 2 ^ 30) : CtV S E yX6_overFactor cX6_overFactor 3 none rmX6_overFactor [.ref (E.1 iw), .int (nI p)] g (fun g' => g' = va_up g ic (xJ S 24 (ovF N p c))) := by
  refine Ct.of RX6 (by decide +kernel) rfl (Nat.le_of_ble_eq_true rfl) (fun M C Z => ?_)
  refine G.eq (pc' := 0) (vs' := [some (.ref (E.1 iw)), some (.int (nI p)), none]) (st' := []) ?_
  refine r_iload_n (pc := 0) C dX6_overFactor_0 rfl ?_
  refine r_istore_n (pc := 1) C dX6_overFactor_1 (by decide) ?_
  refine G.eq (pc' := 2) (vs' := [some (.ref (E.1 iw)), some (.int (nI p)), some (.int (nI p))]) (st' := []) ?_
  refine G.heap (Ce.id hc) ?_
  refine bk (P := fun t => G M S E (0, 0) (va_up g ic (xJ S 24 (it (fun t f => vp_updL f (p + t) (f (p + t) + f (p + t - p))) t c))) 2 [some (.ref (E.1 iw)), some (.int (nI p)), some (.int (nI (p + t)))] []) (T := N - p) ?_ (fun t ht ih => ?_)
  · show G M S E (0, 0) (va_up g ic (xJ S 24 (it (fun t f => vp_updL f (p + t) (f (p + t) + f (p + t - p))) (N - p) c))) 2 [some (.ref (E.1 iw)), some (.int (nI p)), some (.int (nI (p + (N - p))))] []
    refine r_iload_n (pc := 2) C dX6_overFactor_2 rfl ?_
    refine r_aload_n (pc := 3) C dX6_overFactor_3 rfl ?_
    refine r_getf (pc := 4) C dX6_overFactor_4 fl_RX6_15 (Ce.up hw (by omega)) rfl ?_
    refine r_icmp_ge (pc := 7) (tgt := 33) C dX6_overFactor_7 (by decide) (fun h7 => ?_) (fun h7 => ?_)
    · have h7 := c_le (by omega) (by omega) h7
      exact r_vret (pc := 33) C Z dX6_overFactor_33 rfl
    · have h7 := c_nle (by omega) (by omega) h7
      omega
  · show G M S E (0, 0) (va_up g ic (xJ S 24 (it (fun t f => vp_updL f (p + t) (f (p + t) + f (p + t - p))) t c))) 2 [some (.ref (E.1 iw)), some (.int (nI p)), some (.int (nI (p + t)))] []
    refine r_iload_n (pc := 2) C dX6_overFactor_2 rfl ?_
    refine r_aload_n (pc := 3) C dX6_overFactor_3 rfl ?_
    refine r_getf (pc := 4) C dX6_overFactor_4 fl_RX6_15 (Ce.up hw (by omega)) rfl ?_
    refine r_icmp_ge (pc := 7) (tgt := 33) C dX6_overFactor_7 (by decide) (fun h7 => ?_) (fun h7 => ?_)
    · have h7 := c_le (by omega) (by omega) h7
      omega
    · have h7 := c_nle (by omega) (by omega) h7
      refine r_aload_n (pc := 10) C dX6_overFactor_10 rfl ?_
      refine r_getf (pc := 11) C dX6_overFactor_11 fl_RX6_9 (Ce.up hw (by omega)) rfl ?_
      refine r_iload_n (pc := 14) C dX6_overFactor_14 rfl ?_
      refine r_dup2 (pc := 15) C dX6_overFactor_15 rfl rfl ?_
      refine r_lald (pc := 16) C dX6_overFactor_16 (Ce.new hc) rfl (by omega) (by omega) ?_
      refine r_aload_n (pc := 17) C dX6_overFactor_17 rfl ?_
      refine r_getf (pc := 18) C dX6_overFactor_18 fl_RX6_9 (Ce.up hw (by omega)) rfl ?_
      refine r_iload_n (pc := 21) C dX6_overFactor_21 rfl ?_
      refine r_iload_n (pc := 22) C dX6_overFactor_22 rfl ?_
      refine r_isub (pc := 23) C dX6_overFactor_23 ?_
      refine r_ti (nI (p + t - p)) (pk_sub (by omega)) ?_
      refine r_lald (pc := 24) C dX6_overFactor_24 (Ce.new hc) rfl (by omega) (by omega) ?_
      refine r_ladd (pc := 25) C dX6_overFactor_25 ?_
      refine r_last2 (pc := 26) C dX6_overFactor_26 hc.1 rfl (by omega) (by omega) ?_
      refine r_iinc (pc := 27) (v := nI (p + t + 1)) C dX6_overFactor_27 rfl (nI_i1 _) (by decide) ?_
      refine G.eq (pc' := 30) (vs' := [some (.ref (E.1 iw)), some (.int (nI p)), some (.int (nI (p + t + 1)))]) (st' := []) ?_
      refine r_goto (pc := 30) (tgt := 2) C dX6_overFactor_30 (by decide) ?_
      exact ih
set_option maxHeartbeats 4000000 in
set_option maxRecDepth 100000 in
theorem c_X6_timesFactor {S : ST} {E : ET} {g : Nat → va_E} {iw ic N : Nat} {c : Nat → Int64} (hw : Ce E g iw (.inr (6, [.ref (E.1 ic), .int (nI N)]))) (hc : Ce E g ic (xJ S 24 c)) (hN : N ≤ 24) (hne : iw ≠ ic) (p : Nat) (hp : p < 2 ^ 30) : CtV S E yX6_timesFactor cX6_timesFactor 3 none rmX6_timesFactor [.ref (E.1 iw), .int (nI p)] g (fun g' => g' = va_up g ic (xJ S 24 (tmF N p c))) := by
  refine Ct.of RX6 (by decide +kernel) rfl (Nat.le_of_ble_eq_true rfl) (fun M C Z => ?_)
  refine G.eq (pc' := 0) (vs' := [some (.ref (E.1 iw)), some (.int (nI p)), none]) (st' := []) ?_
  refine r_aload_n (pc := 0) C dX6_timesFactor_0 rfl ?_
  refine r_getf (pc := 1) C dX6_timesFactor_1 fl_RX6_15 hw rfl ?_
  refine r_iconst (pc := 4) (v := nI 1) C dX6_timesFactor_4 (by decide +kernel) ?_
  refine r_isub (pc := 5) C dX6_timesFactor_5 ?_
  refine r_ti (mI N) rfl ?_
  refine r_istore_n (pc := 6) C dX6_timesFactor_6 (by decide) ?_
  refine G.eq (pc' := 7) (vs' := [some (.ref (E.1 iw)), some (.int (nI p)), some (.int (mI N))]) (st' := []) ?_
  refine G.heap (Ce.id hc) ?_
  refine bk (P := fun t => G M S E (0, 0) (va_up g ic (xJ S 24 (it (fun t f => vp_updL f (N - t - 1) (f (N - t - 1) - f (N - t - 1 - p))) t c))) 7 [some (.ref (E.1 iw)), some (.int (nI p)), some (.int (mI (N - t)))] []) (T := N - p) ?_ (fun t ht ih => ?_)
  · show G M S E (0, 0) (va_up g ic (xJ S 24 (it (fun t f => vp_updL f (N - t - 1) (f (N - t - 1) - f (N - t - 1 - p))) (N - p) c))) 7 [some (.ref (E.1 iw)), some (.int (nI p)), some (.int (mI (N - (N - p))))] []
    refine r_iload_n (pc := 7) C dX6_timesFactor_7 rfl ?_
    refine r_iload_n (pc := 8) C dX6_timesFactor_8 rfl ?_
    refine r_icmp_lt (pc := 9) (tgt := 35) C dX6_timesFactor_9 (by decide) (fun h9 => ?_) (fun h9 => ?_)
    · have h9 := m_lt (by omega) (by omega) h9
      exact r_vret (pc := 35) C Z dX6_timesFactor_35 rfl
    · have h9 := m_nlt (by omega) (by omega) h9
      omega
  · show G M S E (0, 0) (va_up g ic (xJ S 24 (it (fun t f => vp_updL f (N - t - 1) (f (N - t - 1) - f (N - t - 1 - p))) t c))) 7 [some (.ref (E.1 iw)), some (.int (nI p)), some (.int (mI (N - t)))] []
    refine r_iload_n (pc := 7) C dX6_timesFactor_7 rfl ?_
    refine r_iload_n (pc := 8) C dX6_timesFactor_8 rfl ?_
    refine r_icmp_lt (pc := 9) (tgt := 35) C dX6_timesFactor_9 (by decide) (fun h9 => ?_) (fun h9 => ?_)
    · have h9 := m_lt (by omega) (by omega) h9
      omega
    · have h9 := m_nlt (by omega) (by omega) h9
      rw [show N - t = N - t - 1 + 1 by omega, mI_s]
      refine r_aload_n (pc := 12) C dX6_timesFactor_12 rfl ?_
      refine r_getf (pc := 13) C dX6_timesFactor_13 fl_RX6_9 (Ce.up hw (by omega)) rfl ?_
      refine r_iload_n (pc := 16) C dX6_timesFactor_16 rfl ?_
      refine r_dup2 (pc := 17) C dX6_timesFactor_17 rfl rfl ?_
      refine r_lald (pc := 18) C dX6_timesFactor_18 (Ce.new hc) rfl (by omega) (by omega) ?_
      refine r_aload_n (pc := 19) C dX6_timesFactor_19 rfl ?_
      refine r_getf (pc := 20) C dX6_timesFactor_20 fl_RX6_9 (Ce.up hw (by omega)) rfl ?_
      refine r_iload_n (pc := 23) C dX6_timesFactor_23 rfl ?_
      refine r_iload_n (pc := 24) C dX6_timesFactor_24 rfl ?_
      refine r_isub (pc := 25) C dX6_timesFactor_25 ?_
      refine r_ti (nI (N - t - 1 - p)) (pk_sub (by omega)) ?_
      refine r_lald (pc := 26) C dX6_timesFactor_26 (Ce.new hc) rfl (by omega) (by omega) ?_
      refine r_lsub (pc := 27) C dX6_timesFactor_27 ?_
      refine r_last2 (pc := 28) C dX6_timesFactor_28 hc.1 rfl (by omega) (by omega) ?_
      refine r_iinc (pc := 29) (v := mI (N - t - 1)) C dX6_timesFactor_29 rfl (nI_m1 _) (by decide) ?_
      refine G.eq (pc' := 32) (vs' := [some (.ref (E.1 iw)), some (.int (nI p)), some (.int (mI (N - t - 1)))]) (st' := []) ?_
      refine r_goto (pc := 32) (tgt := 7) C dX6_timesFactor_32 (by decide) ?_
      exact ih
def tmFs (N p k : Nat) (c : Nat → Int64) : Nat → Int64 := it (fun t f => tmF N (p + t) f) k c
set_option maxHeartbeats 4000000 in
set_option maxRecDepth 100000 in
theorem c_X6_timesFactors {S : ST} {E : ET} {g : Nat → va_E} {iw ic N : Nat} {c : Nat → Int64} (hw : Ce E g iw (.inr (6, [.ref (E.1 ic), .int (nI N)]))) (hc : Ce E g ic (xJ S 24 c)) (hN : N ≤ 24) (hne : iw ≠ ic) (p k : Nat) (hp : p < 2 ^ 20) (hk : k < 2 ^ 20) : CtV S E yX6_timesFactors cX6_timesFactors 4 none rmX6_timesFactors [.ref (E.1 iw), .int (nI p), .int (nI k)] g (fun g' => g' = va_up g ic (xJ S 24 (tmFs N p k c))) := by
  refine Ct.of RX6 (by decide +kernel) rfl (Nat.le_of_ble_eq_true rfl) (fun M C Z => ?_)
  refine G.eq (pc' := 0) (vs' := [some (.ref (E.1 iw)), some (.int (nI p)), some (.int (nI k)), none]) (st' := []) ?_
  refine r_iconst (pc := 0) (v := nI 0) C dX6_timesFactors_0 (by decide +kernel) ?_
  refine r_istore_n (pc := 1) C dX6_timesFactors_1 (by decide) ?_
  refine G.eq (pc' := 2) (vs' := [some (.ref (E.1 iw)), some (.int (nI p)), some (.int (nI k)), some (.int (nI 0))]) (st' := []) ?_
  refine G.heap (Ce.id hc) ?_
  refine bk (P := fun t => G M S E (0, 0) (va_up g ic (xJ S 24 (it (fun t f => tmF N (p + t) f) t c))) 2 [some (.ref (E.1 iw)), some (.int (nI p)), some (.int (nI k)), some (.int (nI t))] []) (T := k) ?_ (fun t ht ih => ?_)
  · show G M S E (0, 0) (va_up g ic (xJ S 24 (it (fun t f => tmF N (p + t) f) k c))) 2 [some (.ref (E.1 iw)), some (.int (nI p)), some (.int (nI k)), some (.int (nI k))] []
    refine r_iload_n (pc := 2) C dX6_timesFactors_2 rfl ?_
    refine r_iload_n (pc := 3) C dX6_timesFactors_3 rfl ?_
    refine r_icmp_ge (pc := 4) (tgt := 20) C dX6_timesFactors_4 (by decide) (fun h4 => ?_) (fun h4 => ?_)
    · have h4 := c_le (by omega) (by omega) h4
      exact r_vret (pc := 20) C Z dX6_timesFactors_20 rfl
    · have h4 := c_nle (by omega) (by omega) h4
      omega
  · show G M S E (0, 0) (va_up g ic (xJ S 24 (it (fun t f => tmF N (p + t) f) t c))) 2 [some (.ref (E.1 iw)), some (.int (nI p)), some (.int (nI k)), some (.int (nI t))] []
    refine r_iload_n (pc := 2) C dX6_timesFactors_2 rfl ?_
    refine r_iload_n (pc := 3) C dX6_timesFactors_3 rfl ?_
    refine r_icmp_ge (pc := 4) (tgt := 20) C dX6_timesFactors_4 (by decide) (fun h4 => ?_) (fun h4 => ?_)
    · have h4 := c_le (by omega) (by omega) h4
      omega
    · have h4 := c_nle (by omega) (by omega) h4
      refine r_aload_n (pc := 7) C dX6_timesFactors_7 rfl ?_
      refine r_iload_n (pc := 8) C dX6_timesFactors_8 rfl ?_
      refine r_iload_n (pc := 9) C dX6_timesFactors_9 rfl ?_
      refine r_iadd (pc := 10) C dX6_timesFactors_10 ?_
      refine r_ti (nI (p + t)) (nI_add _ _) ?_
      refine r_callV (pc := 11) C dX6_timesFactors_11 cv_RX6_33 (c_X6_timesFactor (Ce.up hw (by omega)) (Ce.new hc) hN hne (p + t) (by omega)) ⟨rfl, rfl, by decide, by decide⟩ (Ce.up hw (by omega)) rfl rfl (Nat.le_of_ble_eq_true rfl) ⟨Nat.zero_le _, Nat.zero_le _⟩ ?_
      rintro _ _ ⟨rfl, rfl⟩
      rw [bx_uu]
      show G M S E (0, 0) (va_up g ic (xJ S 24 (tmF N (p + t) (it (fun t f => tmF N (p + t) f) t c)))) 14 [some (.ref (E.1 iw)), some (.int (nI p)), some (.int (nI k)), some (.int (nI t))] []
      refine r_iinc (pc := 14) (v := nI (t + 1)) C dX6_timesFactors_14 rfl (nI_i1 _) (by decide) ?_
      refine G.eq (pc' := 17) (vs' := [some (.ref (E.1 iw)), some (.int (nI p)), some (.int (nI k)), some (.int (nI (t + 1)))]) (st' := []) ?_
      refine r_goto (pc := 17) (tgt := 2) C dX6_timesFactors_17 (by decide) ?_
      exact ih
def ovFs (N p k : Nat) (c : Nat → Int64) : Nat → Int64 := it (fun t f => ovF N (p + t) f) k c
set_option maxHeartbeats 4000000 in
set_option maxRecDepth 100000 in
theorem c_X6_overFactors {S : ST} {E : ET} {g : Nat → va_E} {iw ic N : Nat} {c : Nat → Int64} (hw : Ce E g iw (.inr (6, [.ref (E.1 ic), .int (nI N)]))) (hc : Ce E g ic (xJ S 24 c)) (hN : N ≤ 24) (hne : iw ≠ ic) (p k : Nat) (hp : p < 2 ^ 20) (hk : k < 2 ^ 20) : CtV S E yX6_overFactors cX6_overFactors 4 none rmX6_overFactors [.ref (E.1 iw), .int (nI p), .int (nI k)] g (fun g' => g' = va_up g ic (xJ S 24 (ovFs N p k c))) := by
  refine Ct.of RX6 (by decide +kernel) rfl (Nat.le_of_ble_eq_true rfl) (fun M C Z => ?_)
  refine G.eq (pc' := 0) (vs' := [some (.ref (E.1 iw)), some (.int (nI p)), some (.int (nI k)), none]) (st' := []) ?_
  refine r_iconst (pc := 0) (v := nI 0) C dX6_overFactors_0 (by decide +kernel) ?_
  refine r_istore_n (pc := 1) C dX6_overFactors_1 (by decide) ?_
  refine G.eq (pc' := 2) (vs' := [some (.ref (E.1 iw)), some (.int (nI p)), some (.int (nI k)), some (.int (nI 0))]) (st' := []) ?_
  refine G.heap (Ce.id hc) ?_
  refine bk (P := fun t => G M S E (0, 0) (va_up g ic (xJ S 24 (it (fun t f => ovF N (p + t) f) t c))) 2 [some (.ref (E.1 iw)), some (.int (nI p)), some (.int (nI k)), some (.int (nI t))] []) (T := k) ?_ (fun t ht ih => ?_)
  · show G M S E (0, 0) (va_up g ic (xJ S 24 (it (fun t f => ovF N (p + t) f) k c))) 2 [some (.ref (E.1 iw)), some (.int (nI p)), some (.int (nI k)), some (.int (nI k))] []
    refine r_iload_n (pc := 2) C dX6_overFactors_2 rfl ?_
    refine r_iload_n (pc := 3) C dX6_overFactors_3 rfl ?_
    refine r_icmp_ge (pc := 4) (tgt := 20) C dX6_overFactors_4 (by decide) (fun h4 => ?_) (fun h4 => ?_)
    · have h4 := c_le (by omega) (by omega) h4
      exact r_vret (pc := 20) C Z dX6_overFactors_20 rfl
    · have h4 := c_nle (by omega) (by omega) h4
      omega
  · show G M S E (0, 0) (va_up g ic (xJ S 24 (it (fun t f => ovF N (p + t) f) t c))) 2 [some (.ref (E.1 iw)), some (.int (nI p)), some (.int (nI k)), some (.int (nI t))] []
    refine r_iload_n (pc := 2) C dX6_overFactors_2 rfl ?_
    refine r_iload_n (pc := 3) C dX6_overFactors_3 rfl ?_
    refine r_icmp_ge (pc := 4) (tgt := 20) C dX6_overFactors_4 (by decide) (fun h4 => ?_) (fun h4 => ?_)
    · have h4 := c_le (by omega) (by omega) h4
      omega
    · have h4 := c_nle (by omega) (by omega) h4
      refine r_aload_n (pc := 7) C dX6_overFactors_7 rfl ?_
      refine r_iload_n (pc := 8) C dX6_overFactors_8 rfl ?_
      refine r_iload_n (pc := 9) C dX6_overFactors_9 rfl ?_
      refine r_iadd (pc := 10) C dX6_overFactors_10 ?_
      refine r_ti (nI (p + t)) (nI_add _ _) ?_
      refine r_callV (pc := 11) C dX6_overFactors_11 cv_RX6_36 (c_X6_overFactor (Ce.up hw (by omega)) (Ce.new hc) hN hne (p + t) (by omega)) ⟨rfl, rfl, by decide, by decide⟩ (Ce.up hw (by omega)) rfl rfl (Nat.le_of_ble_eq_true rfl) ⟨Nat.zero_le _, Nat.zero_le _⟩ ?_
      rintro _ _ ⟨rfl, rfl⟩
      rw [bx_uu]
      show G M S E (0, 0) (va_up g ic (xJ S 24 (ovF N (p + t) (it (fun t f => ovF N (p + t) f) t c)))) 14 [some (.ref (E.1 iw)), some (.int (nI p)), some (.int (nI k)), some (.int (nI t))] []
      refine r_iinc (pc := 14) (v := nI (t + 1)) C dX6_overFactors_14 rfl (nI_i1 _) (by decide) ?_
      refine G.eq (pc' := 17) (vs' := [some (.ref (E.1 iw)), some (.int (nI p)), some (.int (nI k)), some (.int (nI (t + 1)))]) (st' := []) ?_
      refine r_goto (pc := 17) (tgt := 2) C dX6_overFactors_17 (by decide) ?_
      exact ih
/-- within the range of coefficients -/
def inR (v : Int64) : Bool := decide (-100000000 ≤ v) && decide (v ≤ 100000000)
set_option maxHeartbeats 4000000 in
set_option maxRecDepth 100000 in
theorem c_X6_isInRange {S : ST} {E : ET} {g : Nat → va_E} (v : Int64) : CtI S E yX6_isInRange cX6_isInRange 2 (Option.some FieldType.boolean) rmX6_isInRange [.long v] g (fun r g' => r = b2i (inR v) ∧ g = g') := by
  refine Ct.of RX6 (by decide +kernel) rfl (Nat.le_of_ble_eq_true rfl) (fun M C Z => ?_)
  refine G.eq (pc' := 0) (vs' := [some (.long v), none]) (st' := []) ?_
  refine r_lload_n (pc := 0) C dX6_isInRange_0 rfl ?_
  refine r_ldc2 (pc := 1) C dX6_isInRange_1 qK_RX6_39 ?_
  refine r_lcmp (pc := 4) C dX6_isInRange_4 ?_
  refine r_if_lt (pc := 5) (tgt := 20) C dX6_isInRange_5 (by decide) (fun h5 => ?_) (fun h5 => ?_)
  · have h5 := k_lt h5
    refine r_iconst (pc := 20) (v := nI 0) C dX6_isInRange_20 (by decide +kernel) ?_
    exact r_iret (pc := 21) C Z dX6_isInRange_21 rfl (⟨by rw [show inR v = false by unfold inR; simp; intro q; exact absurd q h5]; rfl, rfl⟩)
  · have h5 := k_nlt h5
    refine r_lload_n (pc := 8) C dX6_isInRange_8 rfl ?_
    refine r_ldc2 (pc := 9) C dX6_isInRange_9 qK_RX6_41 ?_
    refine r_lcmp (pc := 12) C dX6_isInRange_12 ?_
    refine r_if_gt (pc := 13) (tgt := 20) C dX6_isInRange_13 (by decide) (fun h13 => ?_) (fun h13 => ?_)
    · have h13 := k_gt h13
      refine r_iconst (pc := 20) (v := nI 0) C dX6_isInRange_20 (by decide +kernel) ?_
      exact r_iret (pc := 21) C Z dX6_isInRange_21 rfl (⟨by rw [show inR v = false by unfold inR; simp; intro _; exact h13]; rfl, rfl⟩)
    · have h13 := k_ngt h13
      refine r_iconst (pc := 16) (v := nI 1) C dX6_isInRange_16 (by decide +kernel) ?_
      refine r_goto (pc := 17) (tgt := 21) C dX6_isInRange_17 (by decide) ?_
      exact r_iret (pc := 21) C Z dX6_isInRange_21 rfl (⟨by rw [show inR v = true by unfold inR; simp; exact ⟨h5, Int64.not_lt.mp h13⟩]; rfl, rfl⟩)
/-- every coefficient is within the range -/
def fitB (N : Nat) (c : Nat → Int64) : Bool := allB (fun k => inR (c k)) N
set_option maxHeartbeats 4000000 in
set_option maxRecDepth 100000 in
theorem c_X6_fits {S : ST} {E : ET} {g : Nat → va_E} {iw ic N : Nat} {c : Nat → Int64} (hw : Ce E g iw (.inr (6, [.ref (E.1 ic), .int (nI N)]))) (hc : Ce E g ic (xJ S 24 c)) (hN : N ≤ 24) (hne : iw ≠ ic) : CtI S E yX6_fits cX6_fits 2 (Option.some FieldType.boolean) rmX6_fits [.ref (E.1 iw)] g (fun r g' => r = b2i (fitB N c) ∧ g = g') := by
  refine Ct.of RX6 (by decide +kernel) rfl (Nat.le_of_ble_eq_true rfl) (fun M C Z => ?_)
  refine G.eq (pc' := 0) (vs' := [some (.ref (E.1 iw)), none]) (st' := []) ?_
  refine r_iconst (pc := 0) (v := nI 0) C dX6_fits_0 (by decide +kernel) ?_
  refine r_istore_n (pc := 1) C dX6_fits_1 (by decide) ?_
  refine G.eq (pc' := 2) (vs' := [some (.ref (E.1 iw)), some (.int (nI 0))]) (st' := []) ?_
  refine bk (P := fun t => (∀ j : Nat, j < t → inR (c j) = true) → G M S E (0, 0) g 2 [some (.ref (E.1 iw)), some (.int (nI t))] []) (T := N) (fun hh => ?_) (fun t ht ih hh => ?_) (fun j hj => absurd hj (Nat.not_lt_zero j))
  · show G M S E (0, 0) g 2 [some (.ref (E.1 iw)), some (.int (nI N))] []
    refine r_iload_n (pc := 2) C dX6_fits_2 rfl ?_
    refine r_aload_n (pc := 3) C dX6_fits_3 rfl ?_
    refine r_getf (pc := 4) C dX6_fits_4 fl_RX6_15 hw rfl ?_
    refine r_icmp_ge (pc := 7) (tgt := 30) C dX6_fits_7 (by decide) (fun h7 => ?_) (fun h7 => ?_)
    · have h7 := c_le (by omega) (by omega) h7
      refine r_iconst (pc := 30) (v := nI 1) C dX6_fits_30 (by decide +kernel) ?_
      exact r_iret (pc := 31) C Z dX6_fits_31 rfl (⟨by rw [show fitB N c = true from allB_t hh]; rfl, rfl⟩)
    · have h7 := c_nle (by omega) (by omega) h7
      omega
  · show G M S E (0, 0) g 2 [some (.ref (E.1 iw)), some (.int (nI t))] []
    refine r_iload_n (pc := 2) C dX6_fits_2 rfl ?_
    refine r_aload_n (pc := 3) C dX6_fits_3 rfl ?_
    refine r_getf (pc := 4) C dX6_fits_4 fl_RX6_15 hw rfl ?_
    refine r_icmp_ge (pc := 7) (tgt := 30) C dX6_fits_7 (by decide) (fun h7 => ?_) (fun h7 => ?_)
    · have h7 := c_le (by omega) (by omega) h7
      omega
    · have h7 := c_nle (by omega) (by omega) h7
      refine r_aload_n (pc := 10) C dX6_fits_10 rfl ?_
      refine r_getf (pc := 11) C dX6_fits_11 fl_RX6_9 hw rfl ?_
      refine r_iload_n (pc := 14) C dX6_fits_14 rfl ?_
      refine r_lald (pc := 15) C dX6_fits_15 hc rfl (by omega) (by omega) ?_
      refine r_callS (pc := 16) C dX6_fits_16 cs_RX6_29 (c_X6_isInRange (c t)) ⟨rfl, rfl, by decide, by decide⟩ rfl rfl (Nat.le_of_ble_eq_true rfl) ⟨Nat.zero_le _, Nat.zero_le _⟩ ?_
      rintro _ _ ⟨r, rfl, rfl, rfl⟩
      show G M S E (0, 0) g 19 [some (.ref (E.1 iw)), some (.int (nI t))] [.int (b2i (inR (c t)))]
      refine r_if_ne (pc := 19) (tgt := 24) C dX6_fits_19 (by decide) (fun h19 => ?_) (fun h19 => ?_)
      · have h19 := b_t h19
        refine r_iinc (pc := 24) (v := nI (t + 1)) C dX6_fits_24 rfl (nI_i1 _) (by decide) ?_
        refine G.eq (pc' := 27) (vs' := [some (.ref (E.1 iw)), some (.int (nI (t + 1)))]) (st' := []) ?_
        refine r_goto (pc := 27) (tgt := 2) C dX6_fits_27 (by decide) ?_
        exact ih (lt_s hh h19)
      · have h19 := b_f h19
        refine r_iconst (pc := 22) (v := nI 0) C dX6_fits_22 (by decide +kernel) ?_
        exact r_iret (pc := 23) C Z dX6_fits_23 rfl (⟨by rw [show fitB N c = false from allB_f ht h19]; rfl, rfl⟩)
/-- a wide series as a row -/
def wrT (N : Nat) (c : Nat → Int64) : Nat → Int32 := fun k => if k < N then (c k).toInt32 else 0
set_option maxHeartbeats 4000000 in
set_option maxRecDepth 100000 in
theorem c_X6_writeTo {S : ST} {E : ET} {g : Nat → va_E} {iw ic N : Nat} {c : Nat → Int64} (hw : Ce E g iw (.inr (6, [.ref (E.1 ic), .int (nI N)]))) (hc : Ce E g ic (xJ S 24 c)) (hN : N ≤ 24) (hne : iw ≠ ic) {ir : Nat} {a : Nat → Int32} (hr : Ce E g ir (xI S 24 a)) (hni : iw ≠ ir) (hni2 : ic ≠ ir) : CtV S E yX6_writeTo cX6_writeTo 3 none rmX6_writeTo [.ref (E.1 iw), .ref (E.1 ir)] g (fun g' => g' = va_up g ir (xI S 24 (wrT N c))) := by
  refine Ct.of RX6 (by decide +kernel) rfl (Nat.le_of_ble_eq_true rfl) (fun M C Z => ?_)
  refine G.eq (pc' := 0) (vs' := [some (.ref (E.1 iw)), some (.ref (E.1 ir)), none]) (st' := []) ?_
  refine r_iconst (pc := 0) (v := nI 0) C dX6_writeTo_0 (by decide +kernel) ?_
  refine r_istore_n (pc := 1) C dX6_writeTo_1 (by decide) ?_
  refine G.eq (pc' := 2) (vs' := [some (.ref (E.1 iw)), some (.ref (E.1 ir)), some (.int (nI 0))]) (st' := []) ?_
  refine G.heap (Ce.id hr) ?_
  refine bk (P := fun t => G M S E (0, 0) (va_up g ir (xI S 24 (it (fun t f => upd f t (wrT N c t)) t a))) 2 [some (.ref (E.1 iw)), some (.ref (E.1 ir)), some (.int (nI t))] []) (T := 24) ?_ (fun t ht ih => ?_)
  · show G M S E (0, 0) (va_up g ir (xI S 24 (it (fun t f => upd f t (wrT N c t)) 24 a))) 2 [some (.ref (E.1 iw)), some (.ref (E.1 ir)), some (.int (nI 24))] []
    refine r_iload_n (pc := 2) C dX6_writeTo_2 rfl ?_
    refine r_bipush (pc := 3) (v := nI 24) C dX6_writeTo_3 (by decide +kernel) ?_
    refine r_icmp_ge (pc := 5) (tgt := 36) C dX6_writeTo_5 (by decide) (fun h5 => ?_) (fun h5 => ?_)
    · have h5 := c_le (by omega) (by omega) h5
      refine G.cI (f' := wrT N c) (fun j hj => by rw [it_putI, if_pos hj]) ?_
      exact r_vret (pc := 36) C Z dX6_writeTo_36 rfl
    · have h5 := c_nle (by omega) (by omega) h5
      omega
  · show G M S E (0, 0) (va_up g ir (xI S 24 (it (fun t f => upd f t (wrT N c t)) t a))) 2 [some (.ref (E.1 iw)), some (.ref (E.1 ir)), some (.int (nI t))] []
    refine r_iload_n (pc := 2) C dX6_writeTo_2 rfl ?_
    refine r_bipush (pc := 3) (v := nI 24) C dX6_writeTo_3 (by decide +kernel) ?_
    refine r_icmp_ge (pc := 5) (tgt := 36) C dX6_writeTo_5 (by decide) (fun h5 => ?_) (fun h5 => ?_)
    · have h5 := c_le (by omega) (by omega) h5
      omega
    · have h5 := c_nle (by omega) (by omega) h5
      refine r_aload_n (pc := 8) C dX6_writeTo_8 rfl ?_
      refine r_iload_n (pc := 9) C dX6_writeTo_9 rfl ?_
      refine r_iload_n (pc := 10) C dX6_writeTo_10 rfl ?_
      refine r_aload_n (pc := 11) C dX6_writeTo_11 rfl ?_
      refine r_getf (pc := 12) C dX6_writeTo_12 fl_RX6_15 (Ce.up hw (by omega)) rfl ?_
      refine r_icmp_ge (pc := 15) (tgt := 28) C dX6_writeTo_15 (by decide) (fun h15 => ?_) (fun h15 => ?_)
      · have h15 := c_le (by omega) (by omega) h15
        refine r_iconst (pc := 28) (v := nI 0) C dX6_writeTo_28 (by decide +kernel) ?_
        refine r_ti (wrT N c t) (by unfold wrT; rw [if_neg (by omega)]; rfl) ?_
        refine r_iast2 (pc := 29) C dX6_writeTo_29 hr.1 rfl (by omega) (by omega) ?_
        refine r_iinc (pc := 30) (v := nI (t + 1)) C dX6_writeTo_30 rfl (nI_i1 _) (by decide) ?_
        refine G.eq (pc' := 33) (vs' := [some (.ref (E.1 iw)), some (.ref (E.1 ir)), some (.int (nI (t + 1)))]) (st' := []) ?_
        refine r_goto (pc := 33) (tgt := 2) C dX6_writeTo_33 (by decide) ?_
        exact ih
      · have h15 := c_nle (by omega) (by omega) h15
        refine r_aload_n (pc := 18) C dX6_writeTo_18 rfl ?_
        refine r_getf (pc := 19) C dX6_writeTo_19 fl_RX6_9 (Ce.up hw (by omega)) rfl ?_
        refine r_iload_n (pc := 22) C dX6_writeTo_22 rfl ?_
        refine r_lald (pc := 23) C dX6_writeTo_23 (Ce.up hc (by omega)) rfl (by omega) (by omega) ?_
        refine r_l2i (pc := 24) C dX6_writeTo_24 ?_
        refine r_goto (pc := 25) (tgt := 29) C dX6_writeTo_25 (by decide) ?_
        refine r_ti (wrT N c t) (by unfold wrT; rw [if_pos (by omega)]) ?_
        refine r_iast2 (pc := 29) C dX6_writeTo_29 hr.1 rfl (by omega) (by omega) ?_
        refine r_iinc (pc := 30) (v := nI (t + 1)) C dX6_writeTo_30 rfl (nI_i1 _) (by decide) ?_
        refine G.eq (pc' := 33) (vs' := [some (.ref (E.1 iw)), some (.ref (E.1 ir)), some (.int (nI (t + 1)))]) (st' := []) ?_
        refine r_goto (pc := 33) (tgt := 2) C dX6_writeTo_33 (by decide) ?_
        exact ih
/-- a product of rows: row i of it, and the whole -/
def prI (N : Nat) (a b : Nat → Int32) (i : Nat) (c : Nat → Int64) : Nat → Int64 := it (fun t f => vp_updL f (i + t) (f (i + t) + (a i).toInt64 * (b (i + t - i)).toInt64)) (N - i) c
def prF (N : Nat) (a b : Nat → Int32) : Nat → Int64 := it (fun i f => prI N a b i f) N (fun _ => 0)
set_option maxHeartbeats 4000000 in
set_option maxRecDepth 100000 in
theorem c_X6_setProduct {S : ST} {E : ET} {g : Nat → va_E} {iw ic N : Nat} {c : Nat → Int64} (N2 : Nat) (hw : Ce E g iw (.inr (6, [.ref (E.1 ic), .int (nI N)]))) (hc : Ce E g ic (xJ S 24 c)) (hN : N2 ≤ 24) (hne : iw ≠ ic) {ia ib : Nat} {a b : Nat → Int32} (ha : Ce E g ia (xI S 24 a)) (hb : Ce E g ib (xI S 24 b)) (h1 : ia ≠ iw) (h2 : ia ≠ ic) (h3 : ib ≠ iw) (h4 : ib ≠ ic) : CtV S E yX6_setProduct cX6_setProduct 6 none rmX6_setProduct [.ref (E.1 iw), .ref (E.1 ia), .ref (E.1 ib), .int (nI N2)] g (fun g' => g' = va_up (va_up g iw (.inr (6, [.ref (E.1 ic), .int (nI N2)]))) ic (xJ S 24 (prF N2 a b))) := by
  refine Ct.of RX6 (by decide +kernel) rfl (Nat.le_of_ble_eq_true rfl) (fun M C Z => ?_)
  refine G.eq (pc' := 0) (vs' := [some (.ref (E.1 iw)), some (.ref (E.1 ia)), some (.ref (E.1 ib)), some (.int (nI N2)), none, none]) (st' := []) ?_
  refine r_aload_n (pc := 0) C dX6_setProduct_0 rfl ?_
  refine r_iload_n (pc := 1) C dX6_setProduct_1 rfl ?_
  refine r_callV (pc := 2) C dX6_setProduct_2 cv_RX6_25 (c_X6_setZero N2 hw hc hne) ⟨rfl, rfl, by decide, by decide⟩ hw rfl rfl (Nat.le_of_ble_eq_true rfl) ⟨Nat.zero_le _, Nat.zero_le _⟩ ?_
  rintro _ _ ⟨rfl, rfl⟩
  show G M S E (0, 0) (va_up (va_up g iw (.inr (6, [.ref (E.1 ic), .int (nI N2)]))) ic (xJ S 24 (fun _ => 0))) 5 [some (.ref (E.1 iw)), some (.ref (E.1 ia)), some (.ref (E.1 ib)), some (.int (nI N2)), none, none] []
  refine r_iconst (pc := 5) (v := nI 0) C dX6_setProduct_5 (by decide +kernel) ?_
  refine r_istore (pc := 6) C dX6_setProduct_6 (by decide) ?_
  refine G.eq (pc' := 8) (vs' := [some (.ref (E.1 iw)), some (.ref (E.1 ia)), some (.ref (E.1 ib)), some (.int (nI N2)), some (.int (nI 0)), none]) (st' := []) ?_
  refine bk (P := fun t1 => G M S E (0, 0) (va_up (va_up g iw (.inr (6, [.ref (E.1 ic), .int (nI N2)]))) ic (xJ S 24 (it (fun i f => prI N2 a b i f) t1 (fun _ => 0)))) 8 [some (.ref (E.1 iw)), some (.ref (E.1 ia)), some (.ref (E.1 ib)), some (.int (nI N2)), some (.int (nI t1)), none] []) (T := N2) ?_ (fun t1 ht ih => ?_)
  · show G M S E (0, 0) (va_up (va_up g iw (.inr (6, [.ref (E.1 ic), .int (nI N2)]))) ic (xJ S 24 (it (fun i f => prI N2 a b i f) N2 (fun _ => 0)))) 8 [some (.ref (E.1 iw)), some (.ref (E.1 ia)), some (.ref (E.1 ib)), some (.int (nI N2)), some (.int (nI N2)), none] []
    refine r_iload (pc := 8) C dX6_setProduct_8 rfl ?_
    refine r_aload_n (pc := 10) C dX6_setProduct_10 rfl ?_
    refine r_getf (pc := 11) C dX6_setProduct_11 fl_RX6_15 (Ce.up (Ce.new hw) (by omega)) rfl ?_
    refine r_icmp_ge (pc := 14) (tgt := 66) C dX6_setProduct_14 (by decide) (fun h14 => ?_) (fun h14 => ?_)
    · have h14 := c_le (by omega) (by omega) h14
      exact r_vret (pc := 66) C Z dX6_setProduct_66 rfl
    · have h14 := c_nle (by omega) (by omega) h14
      omega
  · show G M S E (0, 0) (va_up (va_up g iw (.inr (6, [.ref (E.1 ic), .int (nI N2)]))) ic (xJ S 24 (it (fun i f => prI N2 a b i f) t1 (fun _ => 0)))) 8 [some (.ref (E.1 iw)), some (.ref (E.1 ia)), some (.ref (E.1 ib)), some (.int (nI N2)), some (.int (nI t1)), none] []
    refine r_iload (pc := 8) C dX6_setProduct_8 rfl ?_
    refine r_aload_n (pc := 10) C dX6_setProduct_10 rfl ?_
    refine r_getf (pc := 11) C dX6_setProduct_11 fl_RX6_15 (Ce.up (Ce.new hw) (by omega)) rfl ?_
    refine r_icmp_ge (pc := 14) (tgt := 66) C dX6_setProduct_14 (by decide) (fun h14 => ?_) (fun h14 => ?_)
    · have h14 := c_le (by omega) (by omega) h14
      omega
    · have h14 := c_nle (by omega) (by omega) h14
      refine r_iload (pc := 17) C dX6_setProduct_17 rfl ?_
      refine r_istore (pc := 19) C dX6_setProduct_19 (by decide) ?_
      refine G.eq (pc' := 21) (vs' := [some (.ref (E.1 iw)), some (.ref (E.1 ia)), some (.ref (E.1 ib)), some (.int (nI N2)), some (.int (nI t1)), some (.int (nI t1))]) (st' := []) ?_
      refine bk (P := fun t2 => G M S E (0, 0) (va_up (va_up g iw (.inr (6, [.ref (E.1 ic), .int (nI N2)]))) ic (xJ S 24 (it (fun t f => vp_updL f (t1 + t) (f (t1 + t) + (a t1).toInt64 * (b (t1 + t - t1)).toInt64)) t2 (it (fun i f => prI N2 a b i f) t1 (fun _ => 0))))) 21 [some (.ref (E.1 iw)), some (.ref (E.1 ia)), some (.ref (E.1 ib)), some (.int (nI N2)), some (.int (nI t1)), some (.int (nI (t1 + t2)))] []) (T := N2 - t1) ?_ (fun t2 ht ih => ?_)
      · show G M S E (0, 0) (va_up (va_up g iw (.inr (6, [.ref (E.1 ic), .int (nI N2)]))) ic (xJ S 24 (it (fun t f => vp_updL f (t1 + t) (f (t1 + t) + (a t1).toInt64 * (b (t1 + t - t1)).toInt64)) (N2 - t1) (it (fun i f => prI N2 a b i f) t1 (fun _ => 0))))) 21 [some (.ref (E.1 iw)), some (.ref (E.1 ia)), some (.ref (E.1 ib)), some (.int (nI N2)), some (.int (nI t1)), some (.int (nI (t1 + (N2 - t1))))] []
        refine r_iload (pc := 21) C dX6_setProduct_21 rfl ?_
        refine r_aload_n (pc := 23) C dX6_setProduct_23 rfl ?_
        refine r_getf (pc := 24) C dX6_setProduct_24 fl_RX6_15 (Ce.up (Ce.new hw) (by omega)) rfl ?_
        refine r_icmp_ge (pc := 27) (tgt := 60) C dX6_setProduct_27 (by decide) (fun h27 => ?_) (fun h27 => ?_)
        · have h27 := c_le (by omega) (by omega) h27
          refine r_iinc (pc := 60) (v := nI (t1 + 1)) C dX6_setProduct_60 rfl (nI_i1 _) (by decide) ?_
          refine G.eq (pc' := 63) (vs' := [some (.ref (E.1 iw)), some (.ref (E.1 ia)), some (.ref (E.1 ib)), some (.int (nI N2)), some (.int (nI (t1 + 1))), some (.int (nI (t1 + (N2 - t1))))]) (st' := []) ?_
          refine r_goto (pc := 63) (tgt := 8) C dX6_setProduct_63 (by decide) ?_
          refine G.wk (vs' := [some (.ref (E.1 iw)), some (.ref (E.1 ia)), some (.ref (E.1 ib)), some (.int (nI N2)), some (.int (nI (t1 + 1))), none]) ⟨rfl, rfl, rfl, rfl, rfl, trivial⟩ ?_
          exact ih
        · have h27 := c_nle (by omega) (by omega) h27
          omega
      · show G M S E (0, 0) (va_up (va_up g iw (.inr (6, [.ref (E.1 ic), .int (nI N2)]))) ic (xJ S 24 (it (fun t f => vp_updL f (t1 + t) (f (t1 + t) + (a t1).toInt64 * (b (t1 + t - t1)).toInt64)) t2 (it (fun i f => prI N2 a b i f) t1 (fun _ => 0))))) 21 [some (.ref (E.1 iw)), some (.ref (E.1 ia)), some (.ref (E.1 ib)), some (.int (nI N2)), some (.int (nI t1)), some (.int (nI (t1 + t2)))] []
        refine r_iload (pc := 21) C dX6_setProduct_21 rfl ?_
        refine r_aload_n (pc := 23) C dX6_setProduct_23 rfl ?_
        refine r_getf (pc := 24) C dX6_setProduct_24 fl_RX6_15 (Ce.up (Ce.new hw) (by omega)) rfl ?_
        refine r_icmp_ge (pc := 27) (tgt := 60) C dX6_setProduct_27 (by decide) (fun h27 => ?_) (fun h27 => ?_)
        · have h27 := c_le (by omega) (by omega) h27
          omega
        · have h27 := c_nle (by omega) (by omega) h27
          refine r_aload_n (pc := 30) C dX6_setProduct_30 rfl ?_
          refine r_getf (pc := 31) C dX6_setProduct_31 fl_RX6_9 (Ce.up (Ce.new hw) (by omega)) rfl ?_
          refine r_iload (pc := 34) C dX6_setProduct_34 rfl ?_
          refine r_dup2 (pc := 36) C dX6_setProduct_36 rfl rfl ?_
          refine r_lald (pc := 37) C dX6_setProduct_37 (Ce.new (Ce.up hc (by omega))) rfl (by omega) (by omega) ?_
          refine r_aload_n (pc := 38) C dX6_setProduct_38 rfl ?_
          refine r_iload (pc := 39) C dX6_setProduct_39 rfl ?_
          refine r_iald (pc := 41) C dX6_setProduct_41 (Ce.up (Ce.up ha (by omega)) (by omega)) rfl (by omega) (by omega) ?_
          refine r_i2l (pc := 42) C dX6_setProduct_42 ?_
          refine r_aload_n (pc := 43) C dX6_setProduct_43 rfl ?_
          refine r_iload (pc := 44) C dX6_setProduct_44 rfl ?_
          refine r_iload (pc := 46) C dX6_setProduct_46 rfl ?_
          refine r_isub (pc := 48) C dX6_setProduct_48 ?_
          refine r_ti (nI (t1 + t2 - t1)) (pk_sub (by omega)) ?_
          refine r_iald (pc := 49) C dX6_setProduct_49 (Ce.up (Ce.up hb (by omega)) (by omega)) rfl (by omega) (by omega) ?_
          refine r_i2l (pc := 50) C dX6_setProduct_50 ?_
          refine r_lmul (pc := 51) C dX6_setProduct_51 ?_
          refine r_ladd (pc := 52) C dX6_setProduct_52 ?_
          refine r_last2 (pc := 53) C dX6_setProduct_53 hc.1 rfl (by omega) (by omega) ?_
          refine r_iinc (pc := 54) (v := nI (t1 + t2 + 1)) C dX6_setProduct_54 rfl (nI_i1 _) (by decide) ?_
          refine G.eq (pc' := 57) (vs' := [some (.ref (E.1 iw)), some (.ref (E.1 ia)), some (.ref (E.1 ib)), some (.int (nI N2)), some (.int (nI t1)), some (.int (nI (t1 + t2 + 1)))]) (st' := []) ?_
          refine r_goto (pc := 57) (tgt := 21) C dX6_setProduct_57 (by decide) ?_
          exact ih
/-- a quotient of rows: what is left at k, the first k of it, whether all are in range -/
def quR (a b : Nat → Int32) (f : Nat → Int64) (k : Nat) : Int64 := it (fun t v => v - (b (1 + t)).toInt64 * f (k - (1 + t))) k (a k).toInt64
def quF (a b : Nat → Int32) (k : Nat) : Nat → Int64 := it (fun k f => vp_updL f k (quR a b f k * (b 0).toInt64)) k (fun _ => 0)
def quB (a b : Nat → Int32) (N : Nat) : Bool := allB (fun k => inR (quF a b (k + 1) k)) N
set_option maxHeartbeats 4000000 in
set_option maxRecDepth 100000 in
theorem c_X6_setQuotient {S : ST} {E : ET} {g : Nat → va_E} {iw ic N : Nat} {c : Nat → Int64} (N2 : Nat) (hw : Ce E g iw (.inr (6, [.ref (E.1 ic), .int (nI N)]))) (hc : Ce E g ic (xJ S 24 c)) (hN : N2 ≤ 24) (hne : iw ≠ ic) {ia ib : Nat} {a b : Nat → Int32} (ha : Ce E g ia (xI S 24 a)) (hb : Ce E g ib (xI S 24 b)) (h1 : ia ≠ iw) (h2 : ia ≠ ic) (h3 : ib ≠ iw) (h4 : ib ≠ ic) : CtI S E yX6_setQuotient cX6_setQuotient 8 (Option.some FieldType.boolean) rmX6_setQuotient [.ref (E.1 iw), .ref (E.1 ia), .ref (E.1 ib), .int (nI N2)] g (fun r g' => ∃ f : Nat → Int64, g' = va_up (va_up g iw (.inr (6, [.ref (E.1 ic), .int (nI N2)]))) ic (xJ S 24 f) ∧ r = b2i (quB a b N2) ∧ (quB a b N2 = true → f = quF a b N2)) := by
  refine Ct.of RX6 (by decide +kernel) rfl (Nat.le_of_ble_eq_true rfl) (fun M C Z => ?_)
  refine G.eq (pc' := 0) (vs' := [some (.ref (E.1 iw)), some (.ref (E.1 ia)), some (.ref (E.1 ib)), some (.int (nI N2)), none, none, none, none]) (st' := []) ?_
  refine r_aload_n (pc := 0) C dX6_setQuotient_0 rfl ?_
  refine r_iload_n (pc := 1) C dX6_setQuotient_1 rfl ?_
  refine r_callV (pc := 2) C dX6_setQuotient_2 cv_RX6_25 (c_X6_setZero N2 hw hc hne) ⟨rfl, rfl, by decide, by decide⟩ hw rfl rfl (Nat.le_of_ble_eq_true rfl) ⟨Nat.zero_le _, Nat.zero_le _⟩ ?_
  rintro _ _ ⟨rfl, rfl⟩
  show G M S E (0, 0) (va_up (va_up g iw (.inr (6, [.ref (E.1 ic), .int (nI N2)]))) ic (xJ S 24 (fun _ => 0))) 5 [some (.ref (E.1 iw)), some (.ref (E.1 ia)), some (.ref (E.1 ib)), some (.int (nI N2)), none, none, none, none] []
  refine r_iconst (pc := 5) (v := nI 0) C dX6_setQuotient_5 (by decide +kernel) ?_
  refine r_istore (pc := 6) C dX6_setQuotient_6 (by decide) ?_
  refine G.eq (pc' := 8) (vs' := [some (.ref (E.1 iw)), some (.ref (E.1 ia)), some (.ref (E.1 ib)), some (.int (nI N2)), some (.int (nI 0)), none, none, none]) (st' := []) ?_
  refine bk (P := fun t1 => (∀ j : Nat, j < t1 → inR (quF a b (j + 1) j) = true) → G M S E (0, 0) (va_up (va_up g iw (.inr (6, [.ref (E.1 ic), .int (nI N2)]))) ic (xJ S 24 (it (fun k f => vp_updL f k (quR a b f k * (b 0).toInt64)) t1 (fun _ => 0)))) 8 [some (.ref (E.1 iw)), some (.ref (E.1 ia)), some (.ref (E.1 ib)), some (.int (nI N2)), some (.int (nI t1)), none, none, none] []) (T := N2) (fun hh => ?_) (fun t1 ht ih hh => ?_) (fun j hj => absurd hj (Nat.not_lt_zero j))
  · show G M S E (0, 0) (va_up (va_up g iw (.inr (6, [.ref (E.1 ic), .int (nI N2)]))) ic (xJ S 24 (it (fun k f => vp_updL f k (quR a b f k * (b 0).toInt64)) N2 (fun _ => 0)))) 8 [some (.ref (E.1 iw)), some (.ref (E.1 ia)), some (.ref (E.1 ib)), some (.int (nI N2)), some (.int (nI N2)), none, none, none] []
    refine r_iload (pc := 8) C dX6_setQuotient_8 rfl ?_
    refine r_aload_n (pc := 10) C dX6_setQuotient_10 rfl ?_
    refine r_getf (pc := 11) C dX6_setQuotient_11 fl_RX6_15 (Ce.up (Ce.new hw) (by omega)) rfl ?_
    refine r_icmp_ge (pc := 14) (tgt := 96) C dX6_setQuotient_14 (by decide) (fun h14 => ?_) (fun h14 => ?_)
    · have h14 := c_le (by omega) (by omega) h14
      refine r_iconst (pc := 96) (v := nI 1) C dX6_setQuotient_96 (by decide +kernel) ?_
      exact r_iret (pc := 97) C Z dX6_setQuotient_97 rfl (⟨_, rfl, by rw [show quB a b N2 = true from allB_t hh]; rfl, fun _ => rfl⟩)
    · have h14 := c_nle (by omega) (by omega) h14
      omega
  · show G M S E (0, 0) (va_up (va_up g iw (.inr (6, [.ref (E.1 ic), .int (nI N2)]))) ic (xJ S 24 (it (fun k f => vp_updL f k (quR a b f k * (b 0).toInt64)) t1 (fun _ => 0)))) 8 [some (.ref (E.1 iw)), some (.ref (E.1 ia)), some (.ref (E.1 ib)), some (.int (nI N2)), some (.int (nI t1)), none, none, none] []
    refine r_iload (pc := 8) C dX6_setQuotient_8 rfl ?_
    refine r_aload_n (pc := 10) C dX6_setQuotient_10 rfl ?_
    refine r_getf (pc := 11) C dX6_setQuotient_11 fl_RX6_15 (Ce.up (Ce.new hw) (by omega)) rfl ?_
    refine r_icmp_ge (pc := 14) (tgt := 96) C dX6_setQuotient_14 (by decide) (fun h14 => ?_) (fun h14 => ?_)
    · have h14 := c_le (by omega) (by omega) h14
      omega
    · have h14 := c_nle (by omega) (by omega) h14
      refine r_aload_n (pc := 17) C dX6_setQuotient_17 rfl ?_
      refine r_iload (pc := 18) C dX6_setQuotient_18 rfl ?_
      refine r_iald (pc := 20) C dX6_setQuotient_20 (Ce.up (Ce.up ha (by omega)) (by omega)) rfl (by omega) (by omega) ?_
      refine r_i2l (pc := 21) C dX6_setQuotient_21 ?_
      refine r_lstore (pc := 22) C dX6_setQuotient_22 (by decide) ?_
      refine G.eq (pc' := 24) (vs' := [some (.ref (E.1 iw)), some (.ref (E.1 ia)), some (.ref (E.1 ib)), some (.int (nI N2)), some (.int (nI t1)), some (.long ((a t1).toInt64)), none, none]) (st' := []) ?_
      refine r_iconst (pc := 24) (v := nI 1) C dX6_setQuotient_24 (by decide +kernel) ?_
      refine r_istore (pc := 25) C dX6_setQuotient_25 (by decide) ?_
      refine G.eq (pc' := 27) (vs' := [some (.ref (E.1 iw)), some (.ref (E.1 ia)), some (.ref (E.1 ib)), some (.int (nI N2)), some (.int (nI t1)), some (.long ((a t1).toInt64)), none, some (.int (nI 1))]) (st' := []) ?_
      refine bk (P := fun t2 => G M S E (0, 0) (va_up (va_up g iw (.inr (6, [.ref (E.1 ic), .int (nI N2)]))) ic (xJ S 24 (it (fun k f => vp_updL f k (quR a b f k * (b 0).toInt64)) t1 (fun _ => 0)))) 27 [some (.ref (E.1 iw)), some (.ref (E.1 ia)), some (.ref (E.1 ib)), some (.int (nI N2)), some (.int (nI t1)), some (.long (it (fun t v => v - (b (1 + t)).toInt64 * (it (fun k f => vp_updL f k (quR a b f k * (b 0).toInt64)) t1 (fun _ => 0)) (t1 - (1 + t))) t2 (a t1).toInt64)), none, some (.int (nI (1 + t2)))] []) (T := t1) ?_ (fun t2 ht ih => ?_)
      · show G M S E (0, 0) (va_up (va_up g iw (.inr (6, [.ref (E.1 ic), .int (nI N2)]))) ic (xJ S 24 (it (fun k f => vp_updL f k (quR a b f k * (b 0).toInt64)) t1 (fun _ => 0)))) 27 [some (.ref (E.1 iw)), some (.ref (E.1 ia)), some (.ref (E.1 ib)), some (.int (nI N2)), some (.int (nI t1)), some (.long (it (fun t v => v - (b (1 + t)).toInt64 * (it (fun k f => vp_updL f k (quR a b f k * (b 0).toInt64)) t1 (fun _ => 0)) (t1 - (1 + t))) t1 (a t1).toInt64)), none, some (.int (nI (1 + t1)))] []
        refine r_iload (pc := 27) C dX6_setQuotient_27 rfl ?_
        refine r_iload (pc := 29) C dX6_setQuotient_29 rfl ?_
        refine r_icmp_gt (pc := 31) (tgt := 61) C dX6_setQuotient_31 (by decide) (fun h31 => ?_) (fun h31 => ?_)
        · have h31 := c_lt (by omega) (by omega) h31
          refine r_aload_n (pc := 61) C dX6_setQuotient_61 rfl ?_
          refine r_getf (pc := 62) C dX6_setQuotient_62 fl_RX6_9 (Ce.up (Ce.new hw) (by omega)) rfl ?_
          refine r_iload (pc := 65) C dX6_setQuotient_65 rfl ?_
          refine r_lload (pc := 67) C dX6_setQuotient_67 rfl ?_
          refine r_aload_n (pc := 69) C dX6_setQuotient_69 rfl ?_
          refine r_iconst (pc := 70) (v := nI 0) C dX6_setQuotient_70 (by decide +kernel) ?_
          refine r_iald (pc := 71) C dX6_setQuotient_71 (Ce.up (Ce.up hb (by omega)) (by omega)) rfl (by omega) (by omega) ?_
          refine r_i2l (pc := 72) C dX6_setQuotient_72 ?_
          refine r_lmul (pc := 73) C dX6_setQuotient_73 ?_
          refine r_last2 (pc := 74) C dX6_setQuotient_74 hc.1 rfl (by omega) (by omega) ?_
          refine r_aload_n (pc := 75) C dX6_setQuotient_75 rfl ?_
          refine r_getf (pc := 76) C dX6_setQuotient_76 fl_RX6_9 (Ce.up (Ce.new hw) (by omega)) rfl ?_
          refine r_iload (pc := 79) C dX6_setQuotient_79 rfl ?_
          refine r_lald (pc := 81) C dX6_setQuotient_81 (Ce.new (Ce.up hc (by omega))) rfl (by omega) (by omega) ?_
          refine r_callS (pc := 82) C dX6_setQuotient_82 cs_RX6_29 (c_X6_isInRange _) ⟨rfl, rfl, by decide, by decide⟩ rfl rfl (Nat.le_of_ble_eq_true rfl) ⟨Nat.zero_le _, Nat.zero_le _⟩ ?_
          rintro _ _ ⟨r, rfl, rfl, rfl⟩
          show G M S E (0, 0) (va_up (va_up g iw (.inr (6, [.ref (E.1 ic), .int (nI N2)]))) ic (xJ S 24 (vp_updL (it (fun k f => vp_updL f k (quR a b f k * (b 0).toInt64)) t1 (fun _ => 0)) t1 ((it (fun t v => v - (b (1 + t)).toInt64 * (it (fun k f => vp_updL f k (quR a b f k * (b 0).toInt64)) t1 (fun _ => 0)) (t1 - (1 + t))) t1 (a t1).toInt64) * ((b 0).toInt64))))) 85 [some (.ref (E.1 iw)), some (.ref (E.1 ia)), some (.ref (E.1 ib)), some (.int (nI N2)), some (.int (nI t1)), some (.long (it (fun t v => v - (b (1 + t)).toInt64 * (it (fun k f => vp_updL f k (quR a b f k * (b 0).toInt64)) t1 (fun _ => 0)) (t1 - (1 + t))) t1 (a t1).toInt64)), none, some (.int (nI (1 + t1)))] [.int (b2i (inR (quF a b (t1 + 1) t1)))]
          refine r_if_ne (pc := 85) (tgt := 90) C dX6_setQuotient_85 (by decide) (fun h85 => ?_) (fun h85 => ?_)
          · have h85 := b_t h85
            refine r_iinc (pc := 90) (v := nI (t1 + 1)) C dX6_setQuotient_90 rfl (nI_i1 _) (by decide) ?_
            refine G.eq (pc' := 93) (vs' := [some (.ref (E.1 iw)), some (.ref (E.1 ia)), some (.ref (E.1 ib)), some (.int (nI N2)), some (.int (nI (t1 + 1))), some (.long (it (fun t v => v - (b (1 + t)).toInt64 * (it (fun k f => vp_updL f k (quR a b f k * (b 0).toInt64)) t1 (fun _ => 0)) (t1 - (1 + t))) t1 (a t1).toInt64)), none, some (.int (nI (1 + t1)))]) (st' := []) ?_
            refine r_goto (pc := 93) (tgt := 8) C dX6_setQuotient_93 (by decide) ?_
            refine G.wk (vs' := [some (.ref (E.1 iw)), some (.ref (E.1 ia)), some (.ref (E.1 ib)), some (.int (nI N2)), some (.int (nI (t1 + 1))), none, none, none]) ⟨rfl, rfl, rfl, rfl, rfl, trivial⟩ ?_
            exact ih (lt_s hh h85)
          · have h85 := b_f h85
            refine r_iconst (pc := 88) (v := nI 0) C dX6_setQuotient_88 (by decide +kernel) ?_
            exact r_iret (pc := 89) C Z dX6_setQuotient_89 rfl (⟨_, rfl, by rw [show quB a b N2 = false from allB_f ht h85]; rfl, fun q => absurd (q.symm.trans (allB_f ht h85)) (by decide)⟩)
        · have h31 := c_nlt (by omega) (by omega) h31
          omega
      · show G M S E (0, 0) (va_up (va_up g iw (.inr (6, [.ref (E.1 ic), .int (nI N2)]))) ic (xJ S 24 (it (fun k f => vp_updL f k (quR a b f k * (b 0).toInt64)) t1 (fun _ => 0)))) 27 [some (.ref (E.1 iw)), some (.ref (E.1 ia)), some (.ref (E.1 ib)), some (.int (nI N2)), some (.int (nI t1)), some (.long (it (fun t v => v - (b (1 + t)).toInt64 * (it (fun k f => vp_updL f k (quR a b f k * (b 0).toInt64)) t1 (fun _ => 0)) (t1 - (1 + t))) t2 (a t1).toInt64)), none, some (.int (nI (1 + t2)))] []
        refine r_iload (pc := 27) C dX6_setQuotient_27 rfl ?_
        refine r_iload (pc := 29) C dX6_setQuotient_29 rfl ?_
        refine r_icmp_gt (pc := 31) (tgt := 61) C dX6_setQuotient_31 (by decide) (fun h31 => ?_) (fun h31 => ?_)
        · have h31 := c_lt (by omega) (by omega) h31
          omega
        · have h31 := c_nlt (by omega) (by omega) h31
          refine r_lload (pc := 34) C dX6_setQuotient_34 rfl ?_
          refine r_aload_n (pc := 36) C dX6_setQuotient_36 rfl ?_
          refine r_iload (pc := 37) C dX6_setQuotient_37 rfl ?_
          refine r_iald (pc := 39) C dX6_setQuotient_39 (Ce.up (Ce.up hb (by omega)) (by omega)) rfl (by omega) (by omega) ?_
          refine r_i2l (pc := 40) C dX6_setQuotient_40 ?_
          refine r_aload_n (pc := 41) C dX6_setQuotient_41 rfl ?_
          refine r_getf (pc := 42) C dX6_setQuotient_42 fl_RX6_9 (Ce.up (Ce.new hw) (by omega)) rfl ?_
          refine r_iload (pc := 45) C dX6_setQuotient_45 rfl ?_
          refine r_iload (pc := 47) C dX6_setQuotient_47 rfl ?_
          refine r_isub (pc := 49) C dX6_setQuotient_49 ?_
          refine r_ti (nI (t1 - (1 + t2))) (pk_sub (by omega)) ?_
          refine r_lald (pc := 50) C dX6_setQuotient_50 (Ce.new (Ce.up hc (by omega))) rfl (by omega) (by omega) ?_
          refine r_lmul (pc := 51) C dX6_setQuotient_51 ?_
          refine r_lsub (pc := 52) C dX6_setQuotient_52 ?_
          refine r_lstore (pc := 53) C dX6_setQuotient_53 (by decide) ?_
          refine G.eq (pc' := 55) (vs' := [some (.ref (E.1 iw)), some (.ref (E.1 ia)), some (.ref (E.1 ib)), some (.int (nI N2)), some (.int (nI t1)), some (.long ((it (fun t v => v - (b (1 + t)).toInt64 * (it (fun k f => vp_updL f k (quR a b f k * (b 0).toInt64)) t1 (fun _ => 0)) (t1 - (1 + t))) t2 (a t1).toInt64) - (((b (1 + t2)).toInt64) * ((it (fun k f => vp_updL f k (quR a b f k * (b 0).toInt64)) t1 (fun _ => 0)) (t1 - (1 + t2)))))), none, some (.int (nI (1 + t2)))]) (st' := []) ?_
          refine r_iinc (pc := 55) (v := nI (1 + t2 + 1)) C dX6_setQuotient_55 rfl (nI_i1 _) (by decide) ?_
          refine G.eq (pc' := 58) (vs' := [some (.ref (E.1 iw)), some (.ref (E.1 ia)), some (.ref (E.1 ib)), some (.int (nI N2)), some (.int (nI t1)), some (.long ((it (fun t v => v - (b (1 + t)).toInt64 * (it (fun k f => vp_updL f k (quR a b f k * (b 0).toInt64)) t1 (fun _ => 0)) (t1 - (1 + t))) t2 (a t1).toInt64) - (((b (1 + t2)).toInt64) * ((it (fun k f => vp_updL f k (quR a b f k * (b 0).toInt64)) t1 (fun _ => 0)) (t1 - (1 + t2)))))), none, some (.int (nI (1 + t2 + 1)))]) (st' := []) ?_
          refine r_goto (pc := 58) (tgt := 27) C dX6_setQuotient_58 (by decide) ?_
          exact ih
/-- so many times, over so many times -/
def tmE (N p e : Nat) (c : Nat → Int64) : Nat → Int64 := it (fun _ f => tmF N p f) e c
def ovE (N p e : Nat) (c : Nat → Int64) : Nat → Int64 := it (fun _ f => ovF N p f) e c
set_option maxHeartbeats 4000000 in
set_option maxRecDepth 100000 in
theorem c_X6_timesFactorToThe {S : ST} {E : ET} {g : Nat → va_E} {iw ic N : Nat} {c : Nat → Int64} (hw : Ce E g iw (.inr (6, [.ref (E.1 ic), .int (nI N)]))) (hc : Ce E g ic (xJ S 24 c)) (hN : N ≤ 24) (hne : iw ≠ ic) (p e : Nat) (hp : p < 2 ^ 20) (he : e < 2 ^ 20) : CtV S E yX6_timesFactorToThe cX6_timesFactorToThe 4 none rmX6_timesFactorToThe [.ref (E.1 iw), .int (nI p), .int (nI e)] g (fun g' => g' = va_up g ic (xJ S 24 (tmE N p e c))) := by
  refine Ct.of RX6 (by decide +kernel) rfl (Nat.le_of_ble_eq_true rfl) (fun M C Z => ?_)
  refine G.eq (pc' := 0) (vs' := [some (.ref (E.1 iw)), some (.int (nI p)), some (.int (nI e)), none]) (st' := []) ?_
  refine r_iconst (pc := 0) (v := nI 0) C dX6_timesFactorToThe_0 (by decide +kernel) ?_
  refine r_istore_n (pc := 1) C dX6_timesFactorToThe_1 (by decide) ?_
  refine G.eq (pc' := 2) (vs' := [some (.ref (E.1 iw)), some (.int (nI p)), some (.int (nI e)), some (.int (nI 0))]) (st' := []) ?_
  refine G.heap (Ce.id hc) ?_
  refine bk (P := fun t => G M S E (0, 0) (va_up g ic (xJ S 24 (it (fun _ f => tmF N p f) t c))) 2 [some (.ref (E.1 iw)), some (.int (nI p)), some (.int (nI e)), some (.int (nI t))] []) (T := e) ?_ (fun t ht ih => ?_)
  · show G M S E (0, 0) (va_up g ic (xJ S 24 (it (fun _ f => tmF N p f) e c))) 2 [some (.ref (E.1 iw)), some (.int (nI p)), some (.int (nI e)), some (.int (nI e))] []
    refine r_iload_n (pc := 2) C dX6_timesFactorToThe_2 rfl ?_
    refine r_iload_n (pc := 3) C dX6_timesFactorToThe_3 rfl ?_
    refine r_icmp_ge (pc := 4) (tgt := 18) C dX6_timesFactorToThe_4 (by decide) (fun h4 => ?_) (fun h4 => ?_)
    · have h4 := c_le (by omega) (by omega) h4
      refine r_iconst (pc := 18) (v := nI 0) C dX6_timesFactorToThe_18 (by decide +kernel) ?_
      refine r_istore_n (pc := 19) C dX6_timesFactorToThe_19 (by decide) ?_
      refine G.eq (pc' := 20) (vs' := [some (.ref (E.1 iw)), some (.int (nI p)), some (.int (nI e)), some (.int (nI 0))]) (st' := []) ?_
      refine r_iload_n (pc := 20) C dX6_timesFactorToThe_20 rfl ?_
      refine r_iload_n (pc := 21) C dX6_timesFactorToThe_21 rfl ?_
      refine r_icmp_le (pc := 22) (tgt := 36) C dX6_timesFactorToThe_22 (by decide) (fun h22 => ?_) (fun h22 => ?_)
      · have h22 := c_le (by omega) (by omega) h22
        exact r_vret (pc := 36) C Z dX6_timesFactorToThe_36 rfl
      · have h22 := c_nle (by omega) (by omega) h22
        omega
    · have h4 := c_nle (by omega) (by omega) h4
      omega
  · show G M S E (0, 0) (va_up g ic (xJ S 24 (it (fun _ f => tmF N p f) t c))) 2 [some (.ref (E.1 iw)), some (.int (nI p)), some (.int (nI e)), some (.int (nI t))] []
    refine r_iload_n (pc := 2) C dX6_timesFactorToThe_2 rfl ?_
    refine r_iload_n (pc := 3) C dX6_timesFactorToThe_3 rfl ?_
    refine r_icmp_ge (pc := 4) (tgt := 18) C dX6_timesFactorToThe_4 (by decide) (fun h4 => ?_) (fun h4 => ?_)
    · have h4 := c_le (by omega) (by omega) h4
      omega
    · have h4 := c_nle (by omega) (by omega) h4
      refine r_aload_n (pc := 7) C dX6_timesFactorToThe_7 rfl ?_
      refine r_iload_n (pc := 8) C dX6_timesFactorToThe_8 rfl ?_
      refine r_callV (pc := 9) C dX6_timesFactorToThe_9 cv_RX6_33 (c_X6_timesFactor (Ce.up hw (by omega)) (Ce.new hc) hN hne p (by omega)) ⟨rfl, rfl, by decide, by decide⟩ (Ce.up hw (by omega)) rfl rfl (Nat.le_of_ble_eq_true rfl) ⟨Nat.zero_le _, Nat.zero_le _⟩ ?_
      rintro _ _ ⟨rfl, rfl⟩
      rw [bx_uu]
      show G M S E (0, 0) (va_up g ic (xJ S 24 (tmF N p (it (fun _ f => tmF N p f) t c)))) 12 [some (.ref (E.1 iw)), some (.int (nI p)), some (.int (nI e)), some (.int (nI t))] []
      refine r_iinc (pc := 12) (v := nI (t + 1)) C dX6_timesFactorToThe_12 rfl (nI_i1 _) (by decide) ?_
      refine G.eq (pc' := 15) (vs' := [some (.ref (E.1 iw)), some (.int (nI p)), some (.int (nI e)), some (.int (nI (t + 1)))]) (st' := []) ?_
      refine r_goto (pc := 15) (tgt := 2) C dX6_timesFactorToThe_15 (by decide) ?_
      exact ih
set_option maxHeartbeats 4000000 in
set_option maxRecDepth 100000 in
theorem c_X6_timesFactorToThe_neg {S : ST} {E : ET} {g : Nat → va_E} {iw ic N : Nat} {c : Nat → Int64} (hw : Ce E g iw (.inr (6, [.ref (E.1 ic), .int (nI N)]))) (hc : Ce E g ic (xJ S 24 c)) (hN : N ≤ 24) (hne : iw ≠ ic) (p e : Nat) (hp : p < 2 ^ 20) (he : e < 2 ^ 20) : CtV S E yX6_timesFactorToThe cX6_timesFactorToThe 4 none rmX6_timesFactorToThe [.ref (E.1 iw), .int (nI p), .int (-(nI e))] g (fun g' => g' = va_up g ic (xJ S 24 (ovE N p e c))) := by
  refine Ct.of RX6 (by decide +kernel) rfl (Nat.le_of_ble_eq_true rfl) (fun M C Z => ?_)
  refine G.eq (pc' := 0) (vs' := [some (.ref (E.1 iw)), some (.int (nI p)), some (.int (-(nI e))), none]) (st' := []) ?_
  refine r_iconst (pc := 0) (v := nI 0) C dX6_timesFactorToThe_0 (by decide +kernel) ?_
  refine r_istore_n (pc := 1) C dX6_timesFactorToThe_1 (by decide) ?_
  refine G.eq (pc' := 2) (vs' := [some (.ref (E.1 iw)), some (.int (nI p)), some (.int (-(nI e))), some (.int (nI 0))]) (st' := []) ?_
  refine r_iload_n (pc := 2) C dX6_timesFactorToThe_2 rfl ?_
  refine r_iload_n (pc := 3) C dX6_timesFactorToThe_3 rfl ?_
  refine r_icmp_ge (pc := 4) (tgt := 18) C dX6_timesFactorToThe_4 (by decide) (fun h4 => ?_) (fun h4 => ?_)
  · refine r_iconst (pc := 18) (v := nI 0) C dX6_timesFactorToThe_18 (by decide +kernel) ?_
    refine r_istore_n (pc := 19) C dX6_timesFactorToThe_19 (by decide) ?_
    refine G.eq (pc' := 20) (vs' := [some (.ref (E.1 iw)), some (.int (nI p)), some (.int (-(nI e))), some (.int (nI 0))]) (st' := []) ?_
    rw [show nI 0 = -(nI 0) by decide +kernel]
    refine G.heap (Ce.id hc) ?_
    refine bk (P := fun t => G M S E (0, 0) (va_up g ic (xJ S 24 (it (fun _ f => ovF N p f) t c))) 20 [some (.ref (E.1 iw)), some (.int (nI p)), some (.int (-(nI e))), some (.int (-(nI t)))] []) (T := e) ?_ (fun t ht ih => ?_)
    · show G M S E (0, 0) (va_up g ic (xJ S 24 (it (fun _ f => ovF N p f) e c))) 20 [some (.ref (E.1 iw)), some (.int (nI p)), some (.int (-(nI e))), some (.int (-(nI e)))] []
      refine r_iload_n (pc := 20) C dX6_timesFactorToThe_20 rfl ?_
      refine r_iload_n (pc := 21) C dX6_timesFactorToThe_21 rfl ?_
      refine r_icmp_le (pc := 22) (tgt := 36) C dX6_timesFactorToThe_22 (by decide) (fun h22 => ?_) (fun h22 => ?_)
      · have h22 := ng_le (by omega) (by omega) h22
        exact r_vret (pc := 36) C Z dX6_timesFactorToThe_36 rfl
      · have h22 := ng_nle (by omega) (by omega) h22
        omega
    · show G M S E (0, 0) (va_up g ic (xJ S 24 (it (fun _ f => ovF N p f) t c))) 20 [some (.ref (E.1 iw)), some (.int (nI p)), some (.int (-(nI e))), some (.int (-(nI t)))] []
      refine r_iload_n (pc := 20) C dX6_timesFactorToThe_20 rfl ?_
      refine r_iload_n (pc := 21) C dX6_timesFactorToThe_21 rfl ?_
      refine r_icmp_le (pc := 22) (tgt := 36) C dX6_timesFactorToThe_22 (by decide) (fun h22 => ?_) (fun h22 => ?_)
      · have h22 := ng_le (by omega) (by omega) h22
        omega
      · have h22 := ng_nle (by omega) (by omega) h22
        refine r_aload_n (pc := 25) C dX6_timesFactorToThe_25 rfl ?_
        refine r_iload_n (pc := 26) C dX6_timesFactorToThe_26 rfl ?_
        refine r_callV (pc := 27) C dX6_timesFactorToThe_27 cv_RX6_36 (c_X6_overFactor (Ce.up hw (by omega)) (Ce.new hc) hN hne p (by omega)) ⟨rfl, rfl, by decide, by decide⟩ (Ce.up hw (by omega)) rfl rfl (Nat.le_of_ble_eq_true rfl) ⟨Nat.zero_le _, Nat.zero_le _⟩ ?_
        rintro _ _ ⟨rfl, rfl⟩
        rw [bx_uu]
        show G M S E (0, 0) (va_up g ic (xJ S 24 (ovF N p (it (fun _ f => ovF N p f) t c)))) 30 [some (.ref (E.1 iw)), some (.int (nI p)), some (.int (-(nI e))), some (.int (-(nI t)))] []
        refine r_iinc (pc := 30) (v := -(nI (t + 1))) C dX6_timesFactorToThe_30 rfl (ng_d _) (by decide) ?_
        refine G.eq (pc' := 33) (vs' := [some (.ref (E.1 iw)), some (.int (nI p)), some (.int (-(nI e))), some (.int (-(nI (t + 1))))]) (st' := []) ?_
        refine r_goto (pc := 33) (tgt := 20) C dX6_timesFactorToThe_33 (by decide) ?_
        exact ih
  · exact absurd (ng_le0 (by omega)) h4
