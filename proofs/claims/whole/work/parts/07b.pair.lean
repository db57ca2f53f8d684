set_option maxHeartbeats 4000000 in
set_option maxRecDepth 100000 in
theorem c_X7_copyRow {S : ST} {E : ET} {g : Nat → va_E} {ia ib : Nat} {a b : Nat → Int32} (ha : Ce E g ia (xI S 24 a)) (hb : Ce E g ib (xI S 24 b)) : CtV S E yX7_copyRow cX7_copyRow 2 none rmX7_copyRow [.ref (E.1 ia), .ref (E.1 ib)] g (fun g' => g' = va_up g ib (xI S 24 a)) := by
  refine Ct.of RX7 (by decide +kernel) rfl (Nat.le_of_ble_eq_true rfl) (fun M C Z => ?_)
  refine G.eq (pc' := 0) (vs' := [some (.ref (E.1 ia)), some (.ref (E.1 ib))]) (st' := []) ?_
  refine r_aload_n (pc := 0) C dX7_copyRow_0 rfl ?_
  refine r_iconst (pc := 1) (v := nI 0) C dX7_copyRow_1 (by decide +kernel) ?_
  refine r_aload_n (pc := 2) C dX7_copyRow_2 rfl ?_
  refine r_iconst (pc := 3) (v := nI 0) C dX7_copyRow_3 (by decide +kernel) ?_
  refine r_bipush (pc := 4) (v := nI 24) C dX7_copyRow_4 (by decide +kernel) ?_
  refine r_acI (pc := 6) C dX7_copyRow_6 qM_RX7_288 ha hb (by decide) (by decide) (by decide) (by decide) (Nat.le_of_ble_eq_true rfl) (Nat.le_of_ble_eq_true rfl) ?_
  refine G.cI (f' := a) (fun j hj => by rw [pk_cpy_in (by omega) (by omega)]; simp) ?_
  exact r_vret (pc := 9) C Z dX7_copyRow_9 rfl
set_option maxHeartbeats 4000000 in
set_option maxRecDepth 100000 in
theorem c_X7_stepPower {S : ST} {E : ET} {g : Nat → va_E} (r k : Nat) : CtI S E yX7_stepPower cX7_stepPower 2 (Option.some FieldType.int) rmX7_stepPower [.int (nI r), .int (nI k)] g (fun v g' => v = nI (r * k + k * k) ∧ g = g') := by
  refine Ct.of RX7 (by decide +kernel) rfl (Nat.le_of_ble_eq_true rfl) (fun M C Z => ?_)
  refine G.eq (pc' := 0) (vs' := [some (.int (nI r)), some (.int (nI k))]) (st' := []) ?_
  refine r_iload_n (pc := 0) C dX7_stepPower_0 rfl ?_
  refine r_iload_n (pc := 1) C dX7_stepPower_1 rfl ?_
  refine r_imul (pc := 2) C dX7_stepPower_2 ?_
  refine r_ti (nI (r * k)) (pk_mul _ _) ?_
  refine r_iload_n (pc := 3) C dX7_stepPower_3 rfl ?_
  refine r_iload_n (pc := 4) C dX7_stepPower_4 rfl ?_
  refine r_imul (pc := 5) C dX7_stepPower_5 ?_
  refine r_ti (nI (k * k)) (pk_mul _ _) ?_
  refine r_iadd (pc := 6) C dX7_stepPower_6 ?_
  refine r_ti (nI (r * k + (k * k))) (nI_add _ _) ?_
  exact r_iret (pc := 7) C Z dX7_stepPower_7 rfl (⟨rfl, rfl⟩)
theorem it_row {α : Type} (x : Nat → α) (f : Nat → α) : ∀ {T j : Nat}, j < T → it (fun j f => va_up f j (x j)) T f j = x j
  | 0, j, h => absurd h (Nat.not_lt_zero j)
  | T + 1, j, h => by
    show va_up (it (fun j f => va_up f j (x j)) T f) T (x T) j = x j
    by_cases e : j = T
    · subst e; rw [va_up_self]
    · rw [va_up_ne _ _ e, it_row x f (by omega)]
set_option maxHeartbeats 4000000 in
set_option maxRecDepth 100000 in
theorem c_X2_copyFrom {S : ST} {E : ET} {g : Nat → va_E} {b d : Nat} {v u : PV} (hp : PairAt S E g b v) (hq : PairAt S E g d u) (hbd : b + 13 ≤ d ∨ d + 13 ≤ b) : CtV S E yX2_copyFrom cX2_copyFrom 3 none rmX2_copyFrom [.ref (E.1 b), .ref (E.1 d)] g (fun g' => PairAt S E g' b u ∧ Fr g g' b (b + 13)) := by
  refine Ct.of RX2 (by decide +kernel) rfl (Nat.le_of_ble_eq_true rfl) (fun M C Z => ?_)
  refine G.eq (pc' := 0) (vs' := [some (.ref (E.1 b)), some (.ref (E.1 d)), none]) (st' := []) ?_
  refine r_aload_n (pc := 0) C dX2_copyFrom_0 rfl ?_
  refine r_aload_n (pc := 1) C dX2_copyFrom_1 rfl ?_
  refine r_getf (pc := 2) C dX2_copyFrom_2 fl_RX2_9 hq.1 rfl ?_
  refine r_putf (pc := 5) C dX2_copyFrom_5 fp_RX2_9 hp.1 rfl rfl (Nat.le_of_ble_eq_true rfl) ?_
  refine r_iconst (pc := 8) (v := nI 0) C dX2_copyFrom_8 (by decide +kernel) ?_
  refine r_istore_n (pc := 9) C dX2_copyFrom_9 (by decide) ?_
  refine G.eq (pc' := 10) (vs' := [some (.ref (E.1 b)), some (.ref (E.1 d)), some (.int (nI 0))]) (st' := []) ?_
  refine bk (P := fun t => ∀ h : Nat → va_E, (PairAt S E h b (u.1, it (fun j f => va_up f j (u.2.1 j)) t v.2.1, it (fun j f => va_up f j (u.2.2 j)) t v.2.2) ∧ PairAt S E h d u ∧ Fr g h b (b + 13)) → G M S E (0, 0) h 10 [some (.ref (E.1 b)), some (.ref (E.1 d)), some (.int (nI t))] []) (T := 5) (fun h hI => ?_) (fun t ht ih h hI => ?_) _ (⟨hp.setR u.1, hq.out (by omega), Fr.up Fr.rf (by omega) (by omega)⟩)
  · obtain ⟨hp, hq, hf⟩ := hI
    show G M S E (0, 0) h 10 [some (.ref (E.1 b)), some (.ref (E.1 d)), some (.int (nI 5))] []
    refine r_iload_n (pc := 10) C dX2_copyFrom_10 rfl ?_
    refine r_iconst (pc := 11) (v := nI 5) C dX2_copyFrom_11 (by decide +kernel) ?_
    refine r_icmp_ge (pc := 12) (tgt := 51) C dX2_copyFrom_12 (by decide) (fun h12 => ?_) (fun h12 => ?_)
    · have h12 := c_le (by omega) (by omega) h12
      exact r_vret (pc := 51) C Z dX2_copyFrom_51 (⟨hp.cong rfl (fun j hj => it_row _ _ hj) (fun j hj => it_row _ _ hj), hf⟩)
    · have h12 := c_nle (by omega) (by omega) h12
      omega
  · obtain ⟨hp, hq, hf⟩ := hI
    show G M S E (0, 0) h 10 [some (.ref (E.1 b)), some (.ref (E.1 d)), some (.int (nI t))] []
    refine r_iload_n (pc := 10) C dX2_copyFrom_10 rfl ?_
    refine r_iconst (pc := 11) (v := nI 5) C dX2_copyFrom_11 (by decide +kernel) ?_
    refine r_icmp_ge (pc := 12) (tgt := 51) C dX2_copyFrom_12 (by decide) (fun h12 => ?_) (fun h12 => ?_)
    · have h12 := c_le (by omega) (by omega) h12
      omega
    · have h12 := c_nle (by omega) (by omega) h12
      refine r_aload_n (pc := 15) C dX2_copyFrom_15 rfl ?_
      refine r_getf (pc := 16) C dX2_copyFrom_16 fl_RX2_17 hq.1 rfl ?_
      refine r_iload_n (pc := 19) C dX2_copyFrom_19 rfl ?_
      refine r_aald (pc := 20) C dX2_copyFrom_20 hq.2.1 rfl rfl rfl (by omega) (by omega) rfl ?_
      refine r_aload_n (pc := 21) C dX2_copyFrom_21 rfl ?_
      refine r_getf (pc := 22) C dX2_copyFrom_22 fl_RX2_17 hp.1 rfl ?_
      refine r_iload_n (pc := 25) C dX2_copyFrom_25 rfl ?_
      refine r_aald (pc := 26) C dX2_copyFrom_26 hp.2.1 rfl rfl rfl (by omega) (by omega) rfl ?_
      refine r_callN (pc := 27) C dX2_copyFrom_27 cn_RX2_23 (c_X7_copyRow (hq.2.2.2 t (by omega)).1 (hp.2.2.2 t (by omega)).1) ⟨rfl, rfl, by decide, by decide⟩ rfl rfl (Nat.le_of_ble_eq_true rfl) ⟨Nat.zero_le _, Nat.zero_le _⟩ ?_
      rintro _ _ ⟨rfl, rfl⟩
      show G M S E (0, 0) (va_up h (b + 2 + t) (xI S 24 (u.2.1 t))) 30 [some (.ref (E.1 b)), some (.ref (E.1 d)), some (.int (nI t))] []
      refine r_aload_n (pc := 30) C dX2_copyFrom_30 rfl ?_
      refine r_getf (pc := 31) C dX2_copyFrom_31 fl_RX2_20 (Ce.up hq.1 (by omega)) rfl ?_
      refine r_iload_n (pc := 34) C dX2_copyFrom_34 rfl ?_
      refine r_aald (pc := 35) C dX2_copyFrom_35 (Ce.up hq.2.2.1 (by omega)) rfl rfl rfl (by omega) (by omega) rfl ?_
      refine r_aload_n (pc := 36) C dX2_copyFrom_36 rfl ?_
      refine r_getf (pc := 37) C dX2_copyFrom_37 fl_RX2_20 (Ce.up hp.1 (by omega)) rfl ?_
      refine r_iload_n (pc := 40) C dX2_copyFrom_40 rfl ?_
      refine r_aald (pc := 41) C dX2_copyFrom_41 (Ce.up hp.2.2.1 (by omega)) rfl rfl rfl (by omega) (by omega) rfl ?_
      refine r_callN (pc := 42) C dX2_copyFrom_42 cn_RX2_23 (c_X7_copyRow (Ce.up (hq.2.2.2 t (by omega)).2 (by omega)) (Ce.up (hp.2.2.2 t (by omega)).2 (by omega))) ⟨rfl, rfl, by decide, by decide⟩ rfl rfl (Nat.le_of_ble_eq_true rfl) ⟨Nat.zero_le _, Nat.zero_le _⟩ ?_
      rintro _ _ ⟨rfl, rfl⟩
      show G M S E (0, 0) (va_up (va_up h (b + 2 + t) (xI S 24 (u.2.1 t))) (b + 8 + t) (xI S 24 (u.2.2 t))) 45 [some (.ref (E.1 b)), some (.ref (E.1 d)), some (.int (nI t))] []
      refine r_iinc (pc := 45) (v := nI (t + 1)) C dX2_copyFrom_45 rfl (nI_i1 _) (by decide) ?_
      refine G.eq (pc' := 48) (vs' := [some (.ref (E.1 b)), some (.ref (E.1 d)), some (.int (nI (t + 1)))]) (st' := []) ?_
      refine r_goto (pc := 48) (tgt := 10) C dX2_copyFrom_48 (by decide) ?_
      exact (ih _ ⟨(hp.setA (u.2.1 t) (by omega)).setB (u.2.2 t) (by omega), (hq.out (by omega)).out (by omega), (hf.up (by omega) (by omega)).up (by omega) (by omega)⟩)
