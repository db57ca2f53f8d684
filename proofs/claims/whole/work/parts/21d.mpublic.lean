def hereZ (z : MZ) : Int32 := if z.2.2.2.2.2.1 ≤ z.2.2.2.2.2.2.1 then -1 else nI (z.2.2.2.2.2.2.2.2.2.2.2.2.2.2.2.2.2.2.2.2.2.2.2.2.2.1 z.2.2.2.2.2.2.1)
def digZ (z : MZ) : Bool := btw (hereZ z).toInt64 48 57
set_option maxHeartbeats 4000000 in
set_option maxRecDepth 100000 in
theorem c_X8_here {S : ST} {E : ET} {g : Nat → va_E} {z : MZ} (hM : MC S E g z) (ha : z.2.2.2.2.2.2.1 < 2 ^ 30) (hh : z.2.2.2.2.2.1 ≤ 60) : CtI S E yX8_here cX8_here 1 (Option.some FieldType.int) rmX8_here [.ref (E.1 286)] g (fun u g' => u = hereZ z ∧ g = g') := by
  refine Ct.of RX8 (by decide +kernel) rfl (Nat.le_of_ble_eq_true rfl) (fun M C Z => ?_)
  refine G.eq (pc' := 0) (vs' := [some (.ref (E.1 286))]) (st' := []) ?_
  refine r_aload_n (pc := 0) C dX8_here_0 rfl ?_
  refine r_getf (pc := 1) C dX8_here_1 fl_RX8_252 hM.1 rfl ?_
  refine r_aload_n (pc := 4) C dX8_here_4 rfl ?_
  refine r_getf (pc := 5) C dX8_here_5 fl_RX8_242 hM.1 rfl ?_
  refine r_icmp_ge (pc := 8) (tgt := 23) C dX8_here_8 (by decide) (fun h8 => ?_) (fun h8 => ?_)
  · have h8 := c_le (by omega) (by omega) h8
    refine r_iconst (pc := 23) (v := (-1)) C dX8_here_23 (by decide +kernel) ?_
    exact r_iret (pc := 24) C Z dX8_here_24 rfl (⟨(if_pos h8).symm, rfl⟩)
  · have h8 := c_nle (by omega) (by omega) h8
    refine r_aload_n (pc := 11) C dX8_here_11 rfl ?_
    refine r_getf (pc := 12) C dX8_here_12 fl_RX8_65 hM.1 rfl ?_
    refine r_aload_n (pc := 15) C dX8_here_15 rfl ?_
    refine r_getf (pc := 16) C dX8_here_16 fl_RX8_252 hM.1 rfl ?_
    refine r_iald (pc := 19) C dX8_here_19 hM.2.2.2.2.2.2.2.2.2.2.2.2.2.2.2.1 rfl (by omega) (by omega) ?_
    refine r_ti (nI (z.2.2.2.2.2.2.2.2.2.2.2.2.2.2.2.2.2.2.2.2.2.2.2.2.2.1 z.2.2.2.2.2.2.1)) rfl ?_
    refine r_goto (pc := 20) (tgt := 24) C dX8_here_20 (by decide) ?_
    exact r_iret (pc := 24) C Z dX8_here_24 rfl (⟨(if_neg (by omega)).symm, rfl⟩)
set_option maxHeartbeats 4000000 in
set_option maxRecDepth 100000 in
theorem c_X8_isDigit {S : ST} {E : ET} {g : Nat → va_E} {z : MZ} (hM : MC S E g z) (ha : z.2.2.2.2.2.2.1 < 2 ^ 30) (hh : z.2.2.2.2.2.1 ≤ 60) : CtI S E yX8_isDigit cX8_isDigit 1 (Option.some FieldType.boolean) rmX8_isDigit [.ref (E.1 286)] g (fun u g' => u = b2i (digZ z) ∧ g = g') := by
  refine Ct.of RX8 (by decide +kernel) rfl (Nat.le_of_ble_eq_true rfl) (fun M C Z => ?_)
  refine G.eq (pc' := 0) (vs' := [some (.ref (E.1 286))]) (st' := []) ?_
  refine r_aload_n (pc := 0) C dX8_isDigit_0 rfl ?_
  refine r_callV (pc := 1) C dX8_isDigit_1 cv_RX8_255 (c_X8_here hM ha hh) ⟨rfl, rfl, by decide, by decide⟩ hM.1 rfl rfl (Nat.le_of_ble_eq_true rfl) ⟨Nat.zero_le _, Nat.zero_le _⟩ ?_
  rintro _ _ ⟨_, rfl, rfl, rfl⟩
  show G M S E (0, 0) g 4 [some (.ref (E.1 286))] [.int (hereZ z)]
  refine r_i2l (pc := 4) C dX8_isDigit_4 ?_
  refine r_ldc2 (pc := 5) C dX8_isDigit_5 qK_RX8_258 ?_
  refine r_ldc2 (pc := 8) C dX8_isDigit_8 qK_RX8_260 ?_
  refine r_callS (pc := 11) C dX8_isDigit_11 cs_RX8_7 (c_X8_isBetween ((hereZ z).toInt64) 48 57) ⟨rfl, rfl, by decide, by decide⟩ rfl rfl (Nat.le_of_ble_eq_true rfl) ⟨Nat.zero_le _, Nat.zero_le _⟩ ?_
  rintro _ _ ⟨_, rfl, rfl, rfl⟩
  show G M S E (0, 0) g 14 [some (.ref (E.1 286))] [.int (b2i (btw ((hereZ z).toInt64) 48 57))]
  exact r_iret (pc := 14) C Z dX8_isDigit_14 (b_n _) (⟨rfl, rfl⟩)
set_option maxHeartbeats 4000000 in
set_option maxRecDepth 100000 in
theorem c_X8_clearInput {S : ST} {E : ET} {g : Nat → va_E} {z : MZ} (hM : MC S E g z) : CtI S E yX8_clearInput cX8_clearInput 2 (Option.some FieldType.int) rmX8_clearInput [.ref (E.1 286)] g (fun u g' => u = nI z.2.2.2.2.2.1 ∧ MC S E g' (s_hd z 0) ∧ Fr g g' 286 308) := by
  refine Ct.of RX8 (by decide +kernel) rfl (Nat.le_of_ble_eq_true rfl) (fun M C Z => ?_)
  refine G.eq (pc' := 0) (vs' := [some (.ref (E.1 286)), none]) (st' := []) ?_
  refine r_aload_n (pc := 0) C dX8_clearInput_0 rfl ?_
  refine r_getf (pc := 1) C dX8_clearInput_1 fl_RX8_242 hM.1 rfl ?_
  refine r_istore_n (pc := 4) C dX8_clearInput_4 (by decide) ?_
  refine G.eq (pc' := 5) (vs' := [some (.ref (E.1 286)), some (.int (nI z.2.2.2.2.2.1))]) (st' := []) ?_
  refine r_aload_n (pc := 5) C dX8_clearInput_5 rfl ?_
  refine r_iconst (pc := 6) (v := nI 0) C dX8_clearInput_6 (by decide +kernel) ?_
  refine r_putf (pc := 7) C dX8_clearInput_7 fp_RX8_242 hM.1 rfl rfl (Nat.le_of_ble_eq_true rfl) ?_
  refine r_iload_n (pc := 10) C dX8_clearInput_10 rfl ?_
  exact r_iret (pc := 11) C Z dX8_clearInput_11 rfl (⟨rfl, ⟨(Ce.new hM.1), (Ce.up hM.2.1 (by decide)), (Ce.up hM.2.2.1 (by decide)), (Ce.up hM.2.2.2.1 (by decide)), (Ce.up hM.2.2.2.2.1 (by decide)), (Ce.up hM.2.2.2.2.2.1 (by decide)), (Ce.up hM.2.2.2.2.2.2.1 (by decide)), (Ce.up hM.2.2.2.2.2.2.2.1 (by decide)), (Ce.up hM.2.2.2.2.2.2.2.2.1 (by decide)), (Ce.up hM.2.2.2.2.2.2.2.2.2.1 (by decide)), (Ce.up hM.2.2.2.2.2.2.2.2.2.2.1 (by decide)), (Ce.up hM.2.2.2.2.2.2.2.2.2.2.2.1 (by decide)), (Ce.up hM.2.2.2.2.2.2.2.2.2.2.2.2.1 (by decide)), (Ce.up hM.2.2.2.2.2.2.2.2.2.2.2.2.2.1 (by decide)), (Ce.up hM.2.2.2.2.2.2.2.2.2.2.2.2.2.2.1 (by decide)), (Ce.up hM.2.2.2.2.2.2.2.2.2.2.2.2.2.2.2.1 (by decide)), (Ce.up hM.2.2.2.2.2.2.2.2.2.2.2.2.2.2.2.2.1 (by decide)), (Ce.up hM.2.2.2.2.2.2.2.2.2.2.2.2.2.2.2.2.2.1 (by decide)), (Ce.up hM.2.2.2.2.2.2.2.2.2.2.2.2.2.2.2.2.2.2.1 (by decide)), (Ce.up hM.2.2.2.2.2.2.2.2.2.2.2.2.2.2.2.2.2.2.2.1 (by decide)), (Ce.up hM.2.2.2.2.2.2.2.2.2.2.2.2.2.2.2.2.2.2.2.2.1 (by decide)), (Ce.up hM.2.2.2.2.2.2.2.2.2.2.2.2.2.2.2.2.2.2.2.2.2 (by decide))⟩, (Fr.rf.up (by omega) (by omega))⟩)
def ptZ (z : MZ) (i k : Nat) : Nat := if 16 ≤ k then 0 else z.2.2.2.2.2.2.2.2.2.2.2.2.2.2.2.2.2.2.2.2.2.1 (16 * i + k)
set_option maxHeartbeats 4000000 in
set_option maxRecDepth 100000 in
theorem c_X8_partAt {S : ST} {E : ET} {g : Nat → va_E} {z : MZ} (hM : MC S E g z) (i k : Nat) (hi : i < 231) (hk : k < 2 ^ 30) : CtI S E yX8_partAt cX8_partAt 3 (Option.some FieldType.int) rmX8_partAt [.ref (E.1 286), .int (nI i), .int (nI k)] g (fun u g' => u = nI (ptZ z i k) ∧ g = g') := by
  refine Ct.of RX8 (by decide +kernel) rfl (Nat.le_of_ble_eq_true rfl) (fun M C Z => ?_)
  refine G.eq (pc' := 0) (vs' := [some (.ref (E.1 286)), some (.int (nI i)), some (.int (nI k))]) (st' := []) ?_
  refine r_iload_n (pc := 0) C dX8_partAt_0 rfl ?_
  refine r_bipush (pc := 1) (v := nI 16) C dX8_partAt_1 (by decide +kernel) ?_
  refine r_icmp_ge (pc := 3) (tgt := 20) C dX8_partAt_3 (by decide) (fun h3 => ?_) (fun h3 => ?_)
  · have h3 := c_le (by omega) (by omega) h3
    refine r_iconst (pc := 20) (v := nI 0) C dX8_partAt_20 (by decide +kernel) ?_
    exact r_iret (pc := 21) C Z dX8_partAt_21 rfl (⟨by rw [show ptZ z i k = 0 from if_pos h3], rfl⟩)
  · have h3 := c_nle (by omega) (by omega) h3
    refine r_aload_n (pc := 6) C dX8_partAt_6 rfl ?_
    refine r_getf (pc := 7) C dX8_partAt_7 fl_RX8_52 hM.1 rfl ?_
    refine r_bipush (pc := 10) (v := nI 16) C dX8_partAt_10 (by decide +kernel) ?_
    refine r_iload_n (pc := 12) C dX8_partAt_12 rfl ?_
    refine r_imul (pc := 13) C dX8_partAt_13 ?_
    refine r_ti (nI (16 * i)) (pk_mul _ _) ?_
    refine r_iload_n (pc := 14) C dX8_partAt_14 rfl ?_
    refine r_iadd (pc := 15) C dX8_partAt_15 ?_
    refine r_ti (nI (16 * i + k)) (nI_add _ _) ?_
    refine r_iald (pc := 16) C dX8_partAt_16 hM.2.2.2.2.2.2.2.2.2.2.2.1 rfl (by omega) (by omega) ?_
    refine r_ti (nI (z.2.2.2.2.2.2.2.2.2.2.2.2.2.2.2.2.2.2.2.2.2.1 (16 * i + k))) rfl ?_
    refine r_goto (pc := 17) (tgt := 21) C dX8_partAt_17 (by decide) ?_
    exact r_iret (pc := 21) C Z dX8_partAt_21 rfl (⟨by rw [show ptZ z i k = z.2.2.2.2.2.2.2.2.2.2.2.2.2.2.2.2.2.2.2.2.2.1 (16 * i + k) from if_neg (by omega)], rfl⟩)
