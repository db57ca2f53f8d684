set_option maxHeartbeats 4000000 in
set_option maxRecDepth 100000 in
theorem c_X7_copyRow {S : ST} {E : ET} {g : Nat → va_E} {ia ib : Nat} {a b : Nat → Int32} (ha : Ce E g ia (xI S 24 a)) (hb : Ce E g ib (xI S 24 b)) : CtV S E yX7_copyRow cX7_copyRow 2 none rmX7_copyRow [.ref (E.1 ia), .ref (E.1 ib)] g (fun g' => g' = va_up g ib (xI S 24 a)) := by
  refine Ct.of RX7 (by decide +kernel) rfl (Nat.le_of_ble_eq_true rfl) (fun M C Z => ?_)
  refine G.eq (pc' := 0) (vs' := [some (.ref (E.1 ia)), some (.ref (E.1 ib))]) (st' := []) ?_
  refine r_aload_n (pc := 0) C dX7_copyRow_0 rfl ?_
  refine r_iconst (pc := 1) (v := nI 0) C dX7_copyRow_1 (by decide +kernel) ?_
  refine r_aload_n (pc := 2) C dX7_copyRow_2 rfl ?_
  refine r_iconst (pc := 3) (v := nI 0) C dX7_copyRow_3 (by decide +kernel) ?_
  refine r_bipush (pc := 4) (v := nI 24) C dX7_copyRow_4 (by decide +kernel) ?_
  refine r_acI (pc := 6) C dX7_copyRow_6 qM_RX7_288 ha hb (by decide) (by decide) (by decide) (by decide) (Nat.le_of_ble_eq_true rfl) (Nat.le_of_ble_eq_true rfl) ?_
  refine G.cI (f' := a) (fun j hj => by rw [pk_cpy_in (by omega) (by omega)]; simp) ?_
  exact r_vret (pc := 9) C Z dX7_copyRow_9 rfl
set_option maxHeartbeats 4000000 in
set_option maxRecDepth 100000 in
theorem c_X7_stepPower {S : ST} {E : ET} {g : Nat → va_E} (r k : Nat) : CtI S E yX7_stepPower cX7_stepPower 2 (Option.some FieldType.int) rmX7_stepPower [.int (nI r), .int (nI k)] g (fun v g' => v = nI (r * k + k * k) ∧ g = g') := by
  refine Ct.of RX7 (by decide +kernel) rfl (Nat.le_of_ble_eq_true rfl) (fun M C Z => ?_)
  refine G.eq (pc' := 0) (vs' := [some (.int (nI r)), some (.int (nI k))]) (st' := []) ?_
  refine r_iload_n (pc := 0) C dX7_stepPower_0 rfl ?_
  refine r_iload_n (pc := 1) C dX7_stepPower_1 rfl ?_
  refine r_imul (pc := 2) C dX7_stepPower_2 ?_
  refine r_ti (nI (r * k)) (pk_mul _ _) ?_
  refine r_iload_n (pc := 3) C dX7_stepPower_3 rfl ?_
  refine r_iload_n (pc := 4) C dX7_stepPower_4 rfl ?_
  refine r_imul (pc := 5) C dX7_stepPower_5 ?_
  refine r_ti (nI (k * k)) (pk_mul _ _) ?_
  refine r_iadd (pc := 6) C dX7_stepPower_6 ?_
  refine r_ti (nI (r * k + (k * k))) (nI_add _ _) ?_
  exact r_iret (pc := 7) C Z dX7_stepPower_7 rfl (⟨rfl, rfl⟩)
theorem it_row {α : Type} (x : Nat → α) (f : Nat → α) : ∀ {T j : Nat}, j < T → it (fun j f => va_up f j (x j)) T f j = x j
  | 0, j, h => absurd h (Nat.not_lt_zero j)
  | T + 1, j, h => by
    show va_up (it (fun j f => va_up f j (x j)) T f) T (x T) j = x j
    by_cases e : j = T
    · subst e; rw [va_up_self]
    · rw [va_up_ne _ _ e, it_row x f (by omega)]
set_option maxHeartbeats 4000000 in
set_option maxRecDepth 100000 in
theorem c_X2_copyFrom {S : ST} {E : ET} {g : Nat → va_E} {b d : Nat} {v u : PV} (hp : PairAt S E g b v) (hq : PairAt S E g d u) (hbd : b + 13 ≤ d ∨ d + 13 ≤ b) : CtV S E yX2_copyFrom cX2_copyFrom 3 none rmX2_copyFrom [.ref (E.1 b), .ref (E.1 d)] g (fun g' => PairAt S E g' b u ∧ Fr g g' b (b + 13)) := by
  refine Ct.of RX2 (by decide +kernel) rfl (Nat.le_of_ble_eq_true rfl) (fun M C Z => ?_)
  refine G.eq (pc' := 0) (vs' := [some (.ref (E.1 b)), some (.ref (E.1 d)), none]) (st' := []) ?_
  refine r_aload_n (pc := 0) C dX2_copyFrom_0 rfl ?_
  refine r_aload_n (pc := 1) C dX2_copyFrom_1 rfl ?_
  refine r_getf (pc := 2) C dX2_copyFrom_2 fl_RX2_9 hq.1 rfl ?_
  refine r_putf (pc := 5) C dX2_copyFrom_5 fp_RX2_9 hp.1 rfl rfl (Nat.le_of_ble_eq_true rfl) ?_
  refine r_iconst (pc := 8) (v := nI 0) C dX2_copyFrom_8 (by decide +kernel) ?_
  refine r_istore_n (pc := 9) C dX2_copyFrom_9 (by decide) ?_
  refine G.eq (pc' := 10) (vs' := [some (.ref (E.1 b)), some (.ref (E.1 d)), some (.int (nI 0))]) (st' := []) ?_
  refine bk (P := fun t => ∀ h : Nat → va_E, (PairAt S E h b (u.1, it (fun j f => va_up f j (u.2.1 j)) t v.2.1, it (fun j f => va_up f j (u.2.2 j)) t v.2.2) ∧ PairAt S E h d u ∧ Fr g h b (b + 13)) → G M S E (0, 0) h 10 [some (.ref (E.1 b)), some (.ref (E.1 d)), some (.int (nI t))] []) (T := 5) (fun h hI => ?_) (fun t ht ih h hI => ?_) _ (⟨hp.setR u.1, hq.out (by omega), Fr.up Fr.rf (by omega) (by omega)⟩)
  · obtain ⟨hp, hq, hf⟩ := hI
    show G M S E (0, 0) h 10 [some (.ref (E.1 b)), some (.ref (E.1 d)), some (.int (nI 5))] []
    refine r_iload_n (pc := 10) C dX2_copyFrom_10 rfl ?_
    refine r_iconst (pc := 11) (v := nI 5) C dX2_copyFrom_11 (by decide +kernel) ?_
    refine r_icmp_ge (pc := 12) (tgt := 51) C dX2_copyFrom_12 (by decide) (fun h12 => ?_) (fun h12 => ?_)
    · have h12 := c_le (by omega) (by omega) h12
      exact r_vret (pc := 51) C Z dX2_copyFrom_51 (⟨hp.cong rfl (fun j hj => it_row _ _ hj) (fun j hj => it_row _ _ hj), hf⟩)
    · have h12 := c_nle (by omega) (by omega) h12
      omega
  · obtain ⟨hp, hq, hf⟩ := hI
    show G M S E (0, 0) h 10 [some (.ref (E.1 b)), some (.ref (E.1 d)), some (.int (nI t))] []
    refine r_iload_n (pc := 10) C dX2_copyFrom_10 rfl ?_
    refine r_iconst (pc := 11) (v := nI 5) C dX2_copyFrom_11 (by decide +kernel) ?_
    refine r_icmp_ge (pc := 12) (tgt := 51) C dX2_copyFrom_12 (by decide) (fun h12 => ?_) (fun h12 => ?_)
    · have h12 := c_le (by omega) (by omega) h12
      omega
    · have h12 := c_nle (by omega) (by omega) h12
      refine r_aload_n (pc := 15) C dX2_copyFrom_15 rfl ?_
      refine r_getf (pc := 16) C dX2_copyFrom_16 fl_RX2_17 hq.1 rfl ?_
      refine r_iload_n (pc := 19) C dX2_copyFrom_19 rfl ?_
      refine r_aald (pc := 20) C dX2_copyFrom_20 hq.2.1 rfl rfl rfl (by omega) (by omega) rfl ?_
      refine r_aload_n (pc := 21) C dX2_copyFrom_21 rfl ?_
      refine r_getf (pc := 22) C dX2_copyFrom_22 fl_RX2_17 hp.1 rfl ?_
      refine r_iload_n (pc := 25) C dX2_copyFrom_25 rfl ?_
      refine r_aald (pc := 26) C dX2_copyFrom_26 hp.2.1 rfl rfl rfl (by omega) (by omega) rfl ?_
      refine r_callN (pc := 27) C dX2_copyFrom_27 cn_RX2_23 (c_X7_copyRow (hq.2.2.2 t (by omega)).1 (hp.2.2.2 t (by omega)).1) ⟨rfl, rfl, by decide, by decide⟩ rfl rfl (Nat.le_of_ble_eq_true rfl) ⟨Nat.zero_le _, Nat.zero_le _⟩ ?_
      rintro _ _ ⟨rfl, rfl⟩
      show G M S E (0, 0) (va_up h (b + 2 + t) (xI S 24 (u.2.1 t))) 30 [some (.ref (E.1 b)), some (.ref (E.1 d)), some (.int (nI t))] []
      refine r_aload_n (pc := 30) C dX2_copyFrom_30 rfl ?_
      refine r_getf (pc := 31) C dX2_copyFrom_31 fl_RX2_20 (Ce.up hq.1 (by omega)) rfl ?_
      refine r_iload_n (pc := 34) C dX2_copyFrom_34 rfl ?_
      refine r_aald (pc := 35) C dX2_copyFrom_35 (Ce.up hq.2.2.1 (by omega)) rfl rfl rfl (by omega) (by omega) rfl ?_
      refine r_aload_n (pc := 36) C dX2_copyFrom_36 rfl ?_
      refine r_getf (pc := 37) C dX2_copyFrom_37 fl_RX2_20 (Ce.up hp.1 (by omega)) rfl ?_
      refine r_iload_n (pc := 40) C dX2_copyFrom_40 rfl ?_
      refine r_aald (pc := 41) C dX2_copyFrom_41 (Ce.up hp.2.2.1 (by omega)) rfl rfl rfl (by omega) (by omega) rfl ?_
      refine r_callN (pc := 42) C dX2_copyFrom_42 cn_RX2_23 (c_X7_copyRow (Ce.up (hq.2.2.2 t (by omega)).2 (by omega)) (Ce.up (hp.2.2.2 t (by omega)).2 (by omega))) ⟨rfl, rfl, by decide, by decide⟩ rfl rfl (Nat.le_of_ble_eq_true rfl) ⟨Nat.zero_le _, Nat.zero_le _⟩ ?_
      rintro _ _ ⟨rfl, rfl⟩
      show G M S E (0, 0) (va_up (va_up h (b + 2 + t) (xI S 24 (u.2.1 t))) (b + 8 + t) (xI S 24 (u.2.2 t))) 45 [some (.ref (E.1 b)), some (.ref (E.1 d)), some (.int (nI t))] []
      refine r_iinc (pc := 45) (v := nI (t + 1)) C dX2_copyFrom_45 rfl (nI_i1 _) (by decide) ?_
      refine G.eq (pc' := 48) (vs' := [some (.ref (E.1 b)), some (.ref (E.1 d)), some (.int (nI (t + 1)))]) (st' := []) ?_
      refine r_goto (pc := 48) (tgt := 10) C dX2_copyFrom_48 (by decide) ?_
      exact (ih _ ⟨(hp.setA (u.2.1 t) (by omega)).setB (u.2.2 t) (by omega), (hq.out (by omega)).out (by omega), (hf.up (by omega) (by omega)).up (by omega) (by omega)⟩)
/-- alpha(j) over (q)(n - j) and (a q)(n + j) -/
def rtm (N r n j : Nat) (a : Nat → Int32) : Nat → Int64 := ovFs N (r + 1) (n + j) (ovFs N 1 (n - j) (plR N a (nI 1) (fun _ => 0)))
set_option maxHeartbeats 4000000 in
set_option maxRecDepth 100000 in
theorem c_X2_setRelationTerm {S : ST} {E : ET} {g : Nat → va_E} {b i N1 : Nat} {v : PV} {c : Nat → Int64} (hp : PairAt S E g b v) (hw : Ce E g i (.inr (6, [.ref (E.1 (i + 1)), .int (nI N1)]))) (hc : Ce E g (i + 1) (xJ S 24 c)) (hb : i + 2 ≤ b ∨ b + 13 ≤ i) (hr : v.1 ≤ 1) (N n j : Nat) (hN : N ≤ 24) (hn : n < 5) (hj : j ≤ n) : CtV S E yX2_setRelationTerm cX2_setRelationTerm 5 none rmX2_setRelationTerm [.ref (E.1 b), .ref (E.1 i), .int (nI n), .int (nI j), .int (nI N)] g (fun g' => g' = va_up (va_up g i (.inr (6, [.ref (E.1 (i + 1)), .int (nI N)]))) (i + 1) (xJ S 24 (rtm N v.1 n j (v.2.1 j)))) := by
  refine Ct.of RX2 (by decide +kernel) rfl (Nat.le_of_ble_eq_true rfl) (fun M C Z => ?_)
  refine G.eq (pc' := 0) (vs' := [some (.ref (E.1 b)), some (.ref (E.1 i)), some (.int (nI n)), some (.int (nI j)), some (.int (nI N))]) (st' := []) ?_
  refine r_aload_n (pc := 0) C dX2_setRelationTerm_0 rfl ?_
  refine r_iload (pc := 1) C dX2_setRelationTerm_1 rfl ?_
  refine r_callV (pc := 3) C dX2_setRelationTerm_3 cv_RX2_37 (c_X6_setZero N hw hc (by omega)) ⟨rfl, rfl, by decide, by decide⟩ hw rfl rfl (Nat.le_of_ble_eq_true rfl) ⟨Nat.zero_le _, Nat.zero_le _⟩ ?_
  rintro _ _ ⟨rfl, rfl⟩
  show G M S E (0, 0) (va_up (va_up g i (.inr (6, [.ref (E.1 (i + 1)), .int (nI N)]))) (i + 1) (xJ S 24 (fun _ => 0))) 6 [some (.ref (E.1 b)), some (.ref (E.1 i)), some (.int (nI n)), some (.int (nI j)), some (.int (nI N))] []
  refine r_aload_n (pc := 6) C dX2_setRelationTerm_6 rfl ?_
  refine r_aload_n (pc := 7) C dX2_setRelationTerm_7 rfl ?_
  refine r_getf (pc := 8) C dX2_setRelationTerm_8 fl_RX2_17 (Ce.up (Ce.up hp.1 (by omega)) (by omega)) rfl ?_
  refine r_iload_n (pc := 11) C dX2_setRelationTerm_11 rfl ?_
  refine r_aald (pc := 12) C dX2_setRelationTerm_12 (Ce.up (Ce.up hp.2.1 (by omega)) (by omega)) rfl rfl rfl (by omega) (by omega) rfl ?_
  refine r_iconst (pc := 13) (v := nI 1) C dX2_setRelationTerm_13 (by decide +kernel) ?_
  refine r_callV (pc := 14) C dX2_setRelationTerm_14 cv_RX2_59 (c_X6_plusRow (Ce.up (Ce.new hw) (by omega)) (Ce.new (Ce.up hc (by omega))) hN (by omega) (Ce.up (Ce.up (hp.2.2.2 j (by omega)).1 (by omega)) (by omega)) (by omega) (nI 1)) ⟨rfl, rfl, by decide, by decide⟩ (Ce.up (Ce.new hw) (by omega)) rfl rfl (Nat.le_of_ble_eq_true rfl) ⟨Nat.zero_le _, Nat.zero_le _⟩ ?_
  rintro _ _ ⟨rfl, rfl⟩
  rw [bx_uu]
  show G M S E (0, 0) (va_up (va_up g i (.inr (6, [.ref (E.1 (i + 1)), .int (nI N)]))) (i + 1) (xJ S 24 (plR N (v.2.1 j) (nI 1) (fun _ => 0)))) 17 [some (.ref (E.1 b)), some (.ref (E.1 i)), some (.int (nI n)), some (.int (nI j)), some (.int (nI N))] []
  refine r_aload_n (pc := 17) C dX2_setRelationTerm_17 rfl ?_
  refine r_iconst (pc := 18) (v := nI 1) C dX2_setRelationTerm_18 (by decide +kernel) ?_
  refine r_iload_n (pc := 19) C dX2_setRelationTerm_19 rfl ?_
  refine r_iload_n (pc := 20) C dX2_setRelationTerm_20 rfl ?_
  refine r_isub (pc := 21) C dX2_setRelationTerm_21 ?_
  refine r_ti (nI (n - j)) (pk_sub (by omega)) ?_
  refine r_callV (pc := 22) C dX2_setRelationTerm_22 cv_RX2_66 (c_X6_overFactors (Ce.up (Ce.new hw) (by omega)) (Ce.new (Ce.up hc (by omega))) hN (by omega) 1 (n - j) (by decide) (by omega)) ⟨rfl, rfl, by decide, by decide⟩ (Ce.up (Ce.new hw) (by omega)) rfl rfl (Nat.le_of_ble_eq_true rfl) ⟨Nat.zero_le _, Nat.zero_le _⟩ ?_
  rintro _ _ ⟨rfl, rfl⟩
  rw [bx_uu]
  show G M S E (0, 0) (va_up (va_up g i (.inr (6, [.ref (E.1 (i + 1)), .int (nI N)]))) (i + 1) (xJ S 24 (ovFs N 1 (n - j) (plR N (v.2.1 j) (nI 1) (fun _ => 0))))) 25 [some (.ref (E.1 b)), some (.ref (E.1 i)), some (.int (nI n)), some (.int (nI j)), some (.int (nI N))] []
  refine r_aload_n (pc := 25) C dX2_setRelationTerm_25 rfl ?_
  refine r_aload_n (pc := 26) C dX2_setRelationTerm_26 rfl ?_
  refine r_getf (pc := 27) C dX2_setRelationTerm_27 fl_RX2_9 (Ce.up (Ce.up hp.1 (by omega)) (by omega)) rfl ?_
  refine r_iconst (pc := 30) (v := nI 1) C dX2_setRelationTerm_30 (by decide +kernel) ?_
  refine r_iadd (pc := 31) C dX2_setRelationTerm_31 ?_
  refine r_ti (nI (v.1 + 1)) (nI_add _ _) ?_
  refine r_iload_n (pc := 32) C dX2_setRelationTerm_32 rfl ?_
  refine r_iload_n (pc := 33) C dX2_setRelationTerm_33 rfl ?_
  refine r_iadd (pc := 34) C dX2_setRelationTerm_34 ?_
  refine r_ti (nI (n + j)) (nI_add _ _) ?_
  refine r_callV (pc := 35) C dX2_setRelationTerm_35 cv_RX2_66 (c_X6_overFactors (Ce.up (Ce.new hw) (by omega)) (Ce.new (Ce.up hc (by omega))) hN (by omega) (v.1 + 1) (n + j) (by omega) (by omega)) ⟨rfl, rfl, by decide, by decide⟩ (Ce.up (Ce.new hw) (by omega)) rfl rfl (Nat.le_of_ble_eq_true rfl) ⟨Nat.zero_le _, Nat.zero_le _⟩ ?_
  rintro _ _ ⟨rfl, rfl⟩
  rw [bx_uu]
  show G M S E (0, 0) (va_up (va_up g i (.inr (6, [.ref (E.1 (i + 1)), .int (nI N)]))) (i + 1) (xJ S 24 (ovFs N (v.1 + 1) (n + j) (ovFs N 1 (n - j) (plR N (v.2.1 j) (nI 1) (fun _ => 0)))))) 38 [some (.ref (E.1 b)), some (.ref (E.1 i)), some (.int (nI n)), some (.int (nI j)), some (.int (nI N))] []
  exact r_vret (pc := 38) C Z dX2_setRelationTerm_38 rfl
/-- the defining relation's right side -/
def bSm (N r : Nat) (al : Nat → Nat → Int32) (n : Nat) : Nat → Int64 := it (fun j f => plW N (rtm N r n j (al j)) (nI 1) f) (n + 1) (fun _ => 0)
def bOk (N r : Nat) (al : Nat → Nat → Int32) : Bool := allB (fun n => fitB N (bSm N r al n)) 5
set_option maxHeartbeats 4000000 in
set_option maxRecDepth 100000 in
theorem c_X2_deriveBeta {S : ST} {E : ET} {g : Nat → va_E} {v : PV} (hp : PairAt S E g 253 v) (hW1 : Wd S E g 266) (hW2 : Wd S E g 268) (hr : v.1 ≤ 1) (N : Nat) (hN : N ≤ 24) : CtI S E yX2_deriveBeta cX2_deriveBeta 6 (Option.some FieldType.boolean) rmX2_deriveBeta [.ref (E.1 253), .int (nI N), .ref (E.1 266), .ref (E.1 268)] g (fun x g' => x = b2i (bOk N v.1 v.2.1) ∧ Wd S E g' 266 ∧ Wd S E g' 268 ∧ Fr g g' 253 270 ∧ ∃ be, PairAt S E g' 253 (v.1, v.2.1, be) ∧ (bOk N v.1 v.2.1 = true → ∀ j, j < 5 → be j = wrT N (bSm N v.1 v.2.1 j))) := by
  refine Ct.of RX2 (by decide +kernel) rfl (Nat.le_of_ble_eq_true rfl) (fun M C Z => ?_)
  refine G.eq (pc' := 0) (vs' := [some (.ref (E.1 253)), some (.int (nI N)), some (.ref (E.1 266)), some (.ref (E.1 268)), none, none]) (st' := []) ?_
  refine r_iconst (pc := 0) (v := nI 0) C dX2_deriveBeta_0 (by decide +kernel) ?_
  refine r_istore (pc := 1) C dX2_deriveBeta_1 (by decide) ?_
  refine G.eq (pc' := 3) (vs' := [some (.ref (E.1 253)), some (.int (nI N)), some (.ref (E.1 266)), some (.ref (E.1 268)), some (.int (nI 0)), none]) (st' := []) ?_
  refine bk (P := fun t => ∀ h : Nat → va_E, (PairAt S E h 253 (v.1, v.2.1, it (fun j f => va_up f j (wrT N (bSm N v.1 v.2.1 j))) t v.2.2) ∧ Wd S E h 266 ∧ Wd S E h 268 ∧ Fr g h 253 270 ∧ ∀ j : Nat, j < t → fitB N (bSm N v.1 v.2.1 j) = true) → G M S E (0, 0) h 3 [some (.ref (E.1 253)), some (.int (nI N)), some (.ref (E.1 266)), some (.ref (E.1 268)), some (.int (nI t)), none] []) (T := 5) (fun h hI => ?_) (fun t ht ih h hI => ?_) _ (⟨hp, hW1, hW2, Fr.rf, fun j hj => absurd hj (Nat.not_lt_zero j)⟩)
  · obtain ⟨hp, ⟨N1, c1, hw, hc⟩, ⟨N2, c2, hv, hd⟩, hf, hh⟩ := hI
    show G M S E (0, 0) h 3 [some (.ref (E.1 253)), some (.int (nI N)), some (.ref (E.1 266)), some (.ref (E.1 268)), some (.int (nI 5)), none] []
    refine r_iload (pc := 3) C dX2_deriveBeta_3 rfl ?_
    refine r_iconst (pc := 5) (v := nI 5) C dX2_deriveBeta_5 (by decide +kernel) ?_
    refine r_icmp_ge (pc := 6) (tgt := 72) C dX2_deriveBeta_6 (by decide) (fun h6 => ?_) (fun h6 => ?_)
    · have h6 := c_le (by omega) (by omega) h6
      refine r_iconst (pc := 72) (v := nI 1) C dX2_deriveBeta_72 (by decide +kernel) ?_
      exact r_iret (pc := 73) C Z dX2_deriveBeta_73 rfl (⟨by rw [show bOk N v.1 v.2.1 = true from allB_t hh]; rfl, ⟨N1, c1, hw, hc⟩, ⟨N2, c2, hv, hd⟩, hf, _, hp, fun _ j hj => it_row _ _ hj⟩)
    · have h6 := c_nle (by omega) (by omega) h6
      omega
  · obtain ⟨hp, ⟨N1, c1, hw, hc⟩, ⟨N2, c2, hv, hd⟩, hf, hh⟩ := hI
    show G M S E (0, 0) h 3 [some (.ref (E.1 253)), some (.int (nI N)), some (.ref (E.1 266)), some (.ref (E.1 268)), some (.int (nI t)), none] []
    refine r_iload (pc := 3) C dX2_deriveBeta_3 rfl ?_
    refine r_iconst (pc := 5) (v := nI 5) C dX2_deriveBeta_5 (by decide +kernel) ?_
    refine r_icmp_ge (pc := 6) (tgt := 72) C dX2_deriveBeta_6 (by decide) (fun h6 => ?_) (fun h6 => ?_)
    · have h6 := c_le (by omega) (by omega) h6
      omega
    · have h6 := c_nle (by omega) (by omega) h6
      refine r_aload_n (pc := 9) C dX2_deriveBeta_9 rfl ?_
      refine r_iload_n (pc := 10) C dX2_deriveBeta_10 rfl ?_
      refine r_callV (pc := 11) C dX2_deriveBeta_11 cv_RX2_37 (c_X6_setZero N hw hc (by omega)) ⟨rfl, rfl, by decide, by decide⟩ hw rfl rfl (Nat.le_of_ble_eq_true rfl) ⟨Nat.zero_le _, Nat.zero_le _⟩ ?_
      rintro _ _ ⟨rfl, rfl⟩
      show G M S E (0, 0) (va_up (va_up h 266 (.inr (6, [.ref (E.1 (266 + 1)), .int (nI N)]))) (266 + 1) (xJ S 24 (fun _ => 0))) 14 [some (.ref (E.1 253)), some (.int (nI N)), some (.ref (E.1 266)), some (.ref (E.1 268)), some (.int (nI t)), none] []
      refine r_iconst (pc := 14) (v := nI 0) C dX2_deriveBeta_14 (by decide +kernel) ?_
      refine r_istore (pc := 15) C dX2_deriveBeta_15 (by decide) ?_
      refine G.eq (pc' := 17) (vs' := [some (.ref (E.1 253)), some (.int (nI N)), some (.ref (E.1 266)), some (.ref (E.1 268)), some (.int (nI t)), some (.int (nI 0))]) (st' := []) ?_
      refine G.heap (Ce.id (Ce.up (Ce.up hv (by decide)) (by omega))) ?_
      refine G.heap (Ce.id (Ce.up (Ce.up (Ce.up hd (by omega)) (by omega)) (by omega))) ?_
      refine bk (P := fun t2 => G M S E (0, 0) (va_up (va_up (va_up (va_up h 266 (.inr (6, [.ref (E.1 (266 + 1)), .int (nI N)]))) (266 + 1) (xJ S 24 (it (fun j f => plW N (rtm N v.1 t j (v.2.1 j)) (nI 1) f) t2 (fun _ => 0)))) 268 (.inr (6, [.ref (E.1 (268 + 1)), .int (nI (prv N2 (fun _ => N) t2))]))) (268 + 1) (xJ S 24 (prv c2 (fun j => rtm N v.1 t j (v.2.1 j)) t2))) 17 [some (.ref (E.1 253)), some (.int (nI N)), some (.ref (E.1 266)), some (.ref (E.1 268)), some (.int (nI t)), some (.int (nI t2))] []) (T := t + 1) ?_ (fun t2 ht ih => ?_)
      · show G M S E (0, 0) (va_up (va_up (va_up (va_up h 266 (.inr (6, [.ref (E.1 (266 + 1)), .int (nI N)]))) (266 + 1) (xJ S 24 (it (fun j f => plW N (rtm N v.1 t j (v.2.1 j)) (nI 1) f) (t + 1) (fun _ => 0)))) 268 (.inr (6, [.ref (E.1 (268 + 1)), .int (nI (prv N2 (fun _ => N) (t + 1)))]))) (268 + 1) (xJ S 24 (prv c2 (fun j => rtm N v.1 t j (v.2.1 j)) (t + 1)))) 17 [some (.ref (E.1 253)), some (.int (nI N)), some (.ref (E.1 266)), some (.ref (E.1 268)), some (.int (nI t)), some (.int (nI (t + 1)))] []
        refine r_iload (pc := 17) C dX2_deriveBeta_17 rfl ?_
        refine r_iload (pc := 19) C dX2_deriveBeta_19 rfl ?_
        refine r_icmp_gt (pc := 21) (tgt := 46) C dX2_deriveBeta_21 (by decide) (fun h21 => ?_) (fun h21 => ?_)
        · have h21 := c_lt (by omega) (by omega) h21
          refine r_aload_n (pc := 46) C dX2_deriveBeta_46 rfl ?_
          refine r_callV (pc := 47) C dX2_deriveBeta_47 cv_RX2_51 (c_X6_fits (Ce.up (Ce.up (Ce.up (Ce.new hw) (by omega)) (by decide)) (by omega)) (Ce.up (Ce.up (Ce.new (Ce.up hc (by omega))) (by omega)) (by omega)) hN (by omega)) ⟨rfl, rfl, by decide, by decide⟩ (Ce.up (Ce.up (Ce.up (Ce.new hw) (by omega)) (by decide)) (by omega)) rfl rfl (Nat.le_of_ble_eq_true rfl) ⟨Nat.zero_le _, Nat.zero_le _⟩ ?_
          rintro _ _ ⟨r, rfl, rfl, rfl⟩
          show G M S E (0, 0) (va_up (va_up (va_up (va_up h 266 (.inr (6, [.ref (E.1 (266 + 1)), .int (nI N)]))) (266 + 1) (xJ S 24 (it (fun j f => plW N (rtm N v.1 t j (v.2.1 j)) (nI 1) f) (t + 1) (fun _ => 0)))) 268 (.inr (6, [.ref (E.1 (268 + 1)), .int (nI (prv N2 (fun _ => N) (t + 1)))]))) (268 + 1) (xJ S 24 (prv c2 (fun j => rtm N v.1 t j (v.2.1 j)) (t + 1)))) 50 [some (.ref (E.1 253)), some (.int (nI N)), some (.ref (E.1 266)), some (.ref (E.1 268)), some (.int (nI t)), some (.int (nI (t + 1)))] [.int (b2i (fitB N (bSm N v.1 v.2.1 t)))]
          refine r_if_ne (pc := 50) (tgt := 55) C dX2_deriveBeta_50 (by decide) (fun h50 => ?_) (fun h50 => ?_)
          · have h50 := b_t h50
            refine r_aload_n (pc := 55) C dX2_deriveBeta_55 rfl ?_
            refine r_aload_n (pc := 56) C dX2_deriveBeta_56 rfl ?_
            refine r_getf (pc := 57) C dX2_deriveBeta_57 fl_RX2_20 (Ce.up (Ce.up (Ce.up (Ce.up hp.1 (by decide)) (by omega)) (by decide)) (by omega)) rfl ?_
            refine r_iload (pc := 60) C dX2_deriveBeta_60 rfl ?_
            refine r_aald (pc := 62) C dX2_deriveBeta_62 (Ce.up (Ce.up (Ce.up (Ce.up hp.2.2.1 (by omega)) (by omega)) (by omega)) (by omega)) rfl rfl rfl (by omega) (by omega) rfl ?_
            refine r_callV (pc := 63) C dX2_deriveBeta_63 cv_RX2_55 (c_X6_writeTo (Ce.up (Ce.up (Ce.up (Ce.new hw) (by omega)) (by decide)) (by omega)) (Ce.up (Ce.up (Ce.new (Ce.up hc (by omega))) (by omega)) (by omega)) hN (by omega) (Ce.up (Ce.up (Ce.up (Ce.up (hp.2.2.2 t (by omega)).2 (by omega)) (by omega)) (by omega)) (by omega)) (by omega) (by omega)) ⟨rfl, rfl, by decide, by decide⟩ (Ce.up (Ce.up (Ce.up (Ce.new hw) (by omega)) (by decide)) (by omega)) rfl rfl (Nat.le_of_ble_eq_true rfl) ⟨Nat.zero_le _, Nat.zero_le _⟩ ?_
            rintro _ _ ⟨rfl, rfl⟩
            show G M S E (0, 0) (va_up (va_up (va_up (va_up (va_up h 266 (.inr (6, [.ref (E.1 (266 + 1)), .int (nI N)]))) (266 + 1) (xJ S 24 (it (fun j f => plW N (rtm N v.1 t j (v.2.1 j)) (nI 1) f) (t + 1) (fun _ => 0)))) 268 (.inr (6, [.ref (E.1 (268 + 1)), .int (nI (prv N2 (fun _ => N) (t + 1)))]))) (268 + 1) (xJ S 24 (prv c2 (fun j => rtm N v.1 t j (v.2.1 j)) (t + 1)))) (253 + 8 + t) (xI S 24 (wrT N (bSm N v.1 v.2.1 t)))) 66 [some (.ref (E.1 253)), some (.int (nI N)), some (.ref (E.1 266)), some (.ref (E.1 268)), some (.int (nI t)), some (.int (nI (t + 1)))] []
            refine r_iinc (pc := 66) (v := nI (t + 1)) C dX2_deriveBeta_66 rfl (nI_i1 _) (by decide) ?_
            refine G.eq (pc' := 69) (vs' := [some (.ref (E.1 253)), some (.int (nI N)), some (.ref (E.1 266)), some (.ref (E.1 268)), some (.int (nI (t + 1))), some (.int (nI (t + 1)))]) (st' := []) ?_
            refine r_goto (pc := 69) (tgt := 3) C dX2_deriveBeta_69 (by decide) ?_
            refine G.wk (vs' := [some (.ref (E.1 253)), some (.int (nI N)), some (.ref (E.1 266)), some (.ref (E.1 268)), some (.int (nI (t + 1))), none]) ⟨rfl, rfl, rfl, rfl, rfl, trivial⟩ ?_
            exact (ih _ ⟨(((((hp.out (by omega)).out (by omega)).out (by omega)).out (by omega)).setB (wrT N (bSm N v.1 v.2.1 t)) (by omega)), (Wd.of (Ce.up (Ce.up (Ce.up (Ce.up (Ce.new hw) (by omega)) (by decide)) (by omega)) (by omega)) (Ce.up (Ce.up (Ce.up (Ce.new (Ce.up hc (by omega))) (by omega)) (by omega)) (by omega))), (Wd.of (Ce.up (Ce.up (Ce.new (Ce.up (Ce.up hv (by decide)) (by omega))) (by omega)) (by omega)) (Ce.up (Ce.new (Ce.up (Ce.up (Ce.up hd (by omega)) (by omega)) (by omega))) (by omega))), (((((hf.up (by omega) (by omega)).up (by omega) (by omega)).up (by omega) (by omega)).up (by omega) (by omega)).up (by omega) (by omega)), lt_s hh h50⟩)
          · have h50 := b_f h50
            refine r_iconst (pc := 53) (v := nI 0) C dX2_deriveBeta_53 (by decide +kernel) ?_
            exact r_iret (pc := 54) C Z dX2_deriveBeta_54 rfl (⟨by rw [show bOk N v.1 v.2.1 = false from allB_f ht h50]; rfl, (Wd.of (Ce.up (Ce.up (Ce.up (Ce.new hw) (by omega)) (by decide)) (by omega)) (Ce.up (Ce.up (Ce.new (Ce.up hc (by omega))) (by omega)) (by omega))), (Wd.of (Ce.up (Ce.new (Ce.up (Ce.up hv (by decide)) (by omega))) (by omega)) (Ce.new (Ce.up (Ce.up (Ce.up hd (by omega)) (by omega)) (by omega)))), ((((hf.up (by omega) (by omega)).up (by omega) (by omega)).up (by omega) (by omega)).up (by omega) (by omega)), _, ((((hp.out (by omega)).out (by omega)).out (by omega)).out (by omega)), fun q => absurd (q.symm.trans (allB_f ht h50)) (by decide)⟩)
        · have h21 := c_nlt (by omega) (by omega) h21
          omega
      · show G M S E (0, 0) (va_up (va_up (va_up (va_up h 266 (.inr (6, [.ref (E.1 (266 + 1)), .int (nI N)]))) (266 + 1) (xJ S 24 (it (fun j f => plW N (rtm N v.1 t j (v.2.1 j)) (nI 1) f) t2 (fun _ => 0)))) 268 (.inr (6, [.ref (E.1 (268 + 1)), .int (nI (prv N2 (fun _ => N) t2))]))) (268 + 1) (xJ S 24 (prv c2 (fun j => rtm N v.1 t j (v.2.1 j)) t2))) 17 [some (.ref (E.1 253)), some (.int (nI N)), some (.ref (E.1 266)), some (.ref (E.1 268)), some (.int (nI t)), some (.int (nI t2))] []
        refine r_iload (pc := 17) C dX2_deriveBeta_17 rfl ?_
        refine r_iload (pc := 19) C dX2_deriveBeta_19 rfl ?_
        refine r_icmp_gt (pc := 21) (tgt := 46) C dX2_deriveBeta_21 (by decide) (fun h21 => ?_) (fun h21 => ?_)
        · have h21 := c_lt (by omega) (by omega) h21
          omega
        · have h21 := c_nlt (by omega) (by omega) h21
          refine r_aload_n (pc := 24) C dX2_deriveBeta_24 rfl ?_
          refine r_aload_n (pc := 25) C dX2_deriveBeta_25 rfl ?_
          refine r_iload (pc := 26) C dX2_deriveBeta_26 rfl ?_
          refine r_iload (pc := 28) C dX2_deriveBeta_28 rfl ?_
          refine r_iload_n (pc := 30) C dX2_deriveBeta_30 rfl ?_
          refine r_callV (pc := 31) C dX2_deriveBeta_31 cv_RX2_43 (c_X2_setRelationTerm (b := 253) (i := 268) (v := (v.1, v.2.1, it (fun j f => va_up f j (wrT N (bSm N v.1 v.2.1 j))) t v.2.2)) ((((hp.out (by omega)).out (by omega)).out (by omega)).out (by omega)) (Ce.up (Ce.new (Ce.up (Ce.up hv (by decide)) (by omega))) (by omega)) (Ce.new (Ce.up (Ce.up (Ce.up hd (by omega)) (by omega)) (by omega))) (by omega) hr N t t2 hN (by omega) (by omega)) ⟨rfl, rfl, by decide, by decide⟩ (Ce.up (Ce.up (Ce.up (Ce.up hp.1 (by decide)) (by omega)) (by decide)) (by omega)) rfl rfl (Nat.le_of_ble_eq_true rfl) ⟨Nat.zero_le _, Nat.zero_le _⟩ ?_
          rintro _ _ ⟨rfl, rfl⟩
          show G M S E (0, 0) (va_up (va_up (va_up (va_up (va_up (va_up h 266 (.inr (6, [.ref (E.1 (266 + 1)), .int (nI N)]))) (266 + 1) (xJ S 24 (it (fun j f => plW N (rtm N v.1 t j (v.2.1 j)) (nI 1) f) t2 (fun _ => 0)))) 268 (.inr (6, [.ref (E.1 (268 + 1)), .int (nI (prv N2 (fun _ => N) t2))]))) (268 + 1) (xJ S 24 (prv c2 (fun j => rtm N v.1 t j (v.2.1 j)) t2))) 268 (.inr (6, [.ref (E.1 (268 + 1)), .int (nI N)]))) (268 + 1) (xJ S 24 (rtm N v.1 t t2 (v.2.1 t2)))) 34 [some (.ref (E.1 253)), some (.int (nI N)), some (.ref (E.1 266)), some (.ref (E.1 268)), some (.int (nI t)), some (.int (nI t2))] []
          refine G.heap (show (va_up (va_up (va_up (va_up (va_up (va_up h 266 (.inr (6, [.ref (E.1 (266 + 1)), .int (nI N)]))) (266 + 1) (xJ S 24 (it (fun j f => plW N (rtm N v.1 t j (v.2.1 j)) (nI 1) f) t2 (fun _ => 0)))) 268 (.inr (6, [.ref (E.1 (268 + 1)), .int (nI (prv N2 (fun _ => N) t2))]))) (268 + 1) (xJ S 24 (prv c2 (fun j => rtm N v.1 t j (v.2.1 j)) t2))) 268 (.inr (6, [.ref (E.1 (268 + 1)), .int (nI N)]))) (268 + 1) (xJ S 24 (rtm N v.1 t t2 (v.2.1 t2)))) = (va_up (va_up (va_up (va_up h 266 (.inr (6, [.ref (E.1 (266 + 1)), .int (nI N)]))) (266 + 1) (xJ S 24 (it (fun j f => plW N (rtm N v.1 t j (v.2.1 j)) (nI 1) f) t2 (fun _ => 0)))) 268 (.inr (6, [.ref (E.1 (268 + 1)), .int (nI N)]))) (268 + 1) (xJ S 24 (rtm N v.1 t t2 (v.2.1 t2)))) from by funext q; simp only [va_up]; (repeat' split) <;> first | rfl | omega) ?_
          refine r_aload_n (pc := 34) C dX2_deriveBeta_34 rfl ?_
          refine r_aload_n (pc := 35) C dX2_deriveBeta_35 rfl ?_
          refine r_iconst (pc := 36) (v := nI 1) C dX2_deriveBeta_36 (by decide +kernel) ?_
          refine r_callV (pc := 37) C dX2_deriveBeta_37 cv_RX2_47 (c_X6_plusWide (Ce.up (Ce.up (Ce.up (Ce.new hw) (by omega)) (by decide)) (by omega)) (Ce.up (Ce.up (Ce.new (Ce.up hc (by omega))) (by omega)) (by omega)) hN (by omega) (Ce.up (Ce.new (Ce.up (Ce.up hv (by decide)) (by omega))) (by omega)) (Ce.new (Ce.up (Ce.up (Ce.up hd (by omega)) (by omega)) (by omega))) (by omega) (by omega) (nI 1)) ⟨rfl, rfl, by decide, by decide⟩ (Ce.up (Ce.up (Ce.up (Ce.new hw) (by omega)) (by decide)) (by omega)) rfl rfl (Nat.le_of_ble_eq_true rfl) ⟨Nat.zero_le _, Nat.zero_le _⟩ ?_
          rintro _ _ ⟨rfl, rfl⟩
          show G M S E (0, 0) (va_up (va_up (va_up (va_up (va_up h 266 (.inr (6, [.ref (E.1 (266 + 1)), .int (nI N)]))) (266 + 1) (xJ S 24 (it (fun j f => plW N (rtm N v.1 t j (v.2.1 j)) (nI 1) f) t2 (fun _ => 0)))) 268 (.inr (6, [.ref (E.1 (268 + 1)), .int (nI N)]))) (268 + 1) (xJ S 24 (rtm N v.1 t t2 (v.2.1 t2)))) (266 + 1) (xJ S 24 (plW N (rtm N v.1 t t2 (v.2.1 t2)) (nI 1) (it (fun j f => plW N (rtm N v.1 t j (v.2.1 j)) (nI 1) f) t2 (fun _ => 0))))) 40 [some (.ref (E.1 253)), some (.int (nI N)), some (.ref (E.1 266)), some (.ref (E.1 268)), some (.int (nI t)), some (.int (nI t2))] []
          refine G.heap (show (va_up (va_up (va_up (va_up (va_up h 266 (.inr (6, [.ref (E.1 (266 + 1)), .int (nI N)]))) (266 + 1) (xJ S 24 (it (fun j f => plW N (rtm N v.1 t j (v.2.1 j)) (nI 1) f) t2 (fun _ => 0)))) 268 (.inr (6, [.ref (E.1 (268 + 1)), .int (nI N)]))) (268 + 1) (xJ S 24 (rtm N v.1 t t2 (v.2.1 t2)))) (266 + 1) (xJ S 24 (plW N (rtm N v.1 t t2 (v.2.1 t2)) (nI 1) (it (fun j f => plW N (rtm N v.1 t j (v.2.1 j)) (nI 1) f) t2 (fun _ => 0))))) = (va_up (va_up (va_up (va_up h 266 (.inr (6, [.ref (E.1 (266 + 1)), .int (nI N)]))) (266 + 1) (xJ S 24 (plW N (rtm N v.1 t t2 (v.2.1 t2)) (nI 1) (it (fun j f => plW N (rtm N v.1 t j (v.2.1 j)) (nI 1) f) t2 (fun _ => 0))))) 268 (.inr (6, [.ref (E.1 (268 + 1)), .int (nI N)]))) (268 + 1) (xJ S 24 (rtm N v.1 t t2 (v.2.1 t2)))) from by funext q; simp only [va_up]; (repeat' split) <;> first | rfl | omega) ?_
          refine r_iinc (pc := 40) (v := nI (t2 + 1)) C dX2_deriveBeta_40 rfl (nI_i1 _) (by decide) ?_
          refine G.eq (pc' := 43) (vs' := [some (.ref (E.1 253)), some (.int (nI N)), some (.ref (E.1 266)), some (.ref (E.1 268)), some (.int (nI t)), some (.int (nI (t2 + 1)))]) (st' := []) ?_
          refine r_goto (pc := 43) (tgt := 17) C dX2_deriveBeta_43 (by decide) ?_
          exact ih
/-- alpha(n) out of beta(n) and the alphas before it -/
def aSm (N r : Nat) (al be : Nat → Nat → Int32) (n : Nat) : Nat → Int64 := tmFs N (r + 1) (n + n) (it (fun j f => plW N (rtm N r n j (al j)) (-1) f) n (plR N (be n) (nI 1) (fun _ => 0)))
def aIt (N r : Nat) (be : Nat → Nat → Int32) (t : Nat) (al : Nat → Nat → Int32) : Nat → Nat → Int32 := it (fun n f => va_up f n (wrT N (aSm N r f be n))) t al
def aOk (N r : Nat) (be al : Nat → Nat → Int32) : Bool := allB (fun n => fitB N (aSm N r (aIt N r be n al) be n)) 5
set_option maxHeartbeats 4000000 in
set_option maxRecDepth 100000 in
theorem c_X2_deriveAlpha {S : ST} {E : ET} {g : Nat → va_E} {v : PV} (hp : PairAt S E g 253 v) (hW1 : Wd S E g 266) (hW2 : Wd S E g 268) (hr : v.1 ≤ 1) (N : Nat) (hN : N ≤ 24) : CtI S E yX2_deriveAlpha cX2_deriveAlpha 6 (Option.some FieldType.boolean) rmX2_deriveAlpha [.ref (E.1 253), .int (nI N), .ref (E.1 266), .ref (E.1 268)] g (fun x g' => x = b2i (aOk N v.1 v.2.2 v.2.1) ∧ Wd S E g' 266 ∧ Wd S E g' 268 ∧ Fr g g' 253 270 ∧ ∃ al, PairAt S E g' 253 (v.1, al, v.2.2) ∧ (aOk N v.1 v.2.2 v.2.1 = true → al = aIt N v.1 v.2.2 5 v.2.1)) := by
  refine Ct.of RX2 (by decide +kernel) rfl (Nat.le_of_ble_eq_true rfl) (fun M C Z => ?_)
  refine G.eq (pc' := 0) (vs' := [some (.ref (E.1 253)), some (.int (nI N)), some (.ref (E.1 266)), some (.ref (E.1 268)), none, none]) (st' := []) ?_
  refine r_iconst (pc := 0) (v := nI 0) C dX2_deriveAlpha_0 (by decide +kernel) ?_
  refine r_istore (pc := 1) C dX2_deriveAlpha_1 (by decide) ?_
  refine G.eq (pc' := 3) (vs' := [some (.ref (E.1 253)), some (.int (nI N)), some (.ref (E.1 266)), some (.ref (E.1 268)), some (.int (nI 0)), none]) (st' := []) ?_
  refine bk (P := fun t => ∀ h : Nat → va_E, (PairAt S E h 253 (v.1, it (fun n f => va_up f n (wrT N (aSm N v.1 f v.2.2 n))) t v.2.1, v.2.2) ∧ Wd S E h 266 ∧ Wd S E h 268 ∧ Fr g h 253 270 ∧ ∀ j : Nat, j < t → fitB N (aSm N v.1 (aIt N v.1 v.2.2 j v.2.1) v.2.2 j) = true) → G M S E (0, 0) h 3 [some (.ref (E.1 253)), some (.int (nI N)), some (.ref (E.1 266)), some (.ref (E.1 268)), some (.int (nI t)), none] []) (T := 5) (fun h hI => ?_) (fun t ht ih h hI => ?_) _ (⟨hp, hW1, hW2, Fr.rf, fun j hj => absurd hj (Nat.not_lt_zero j)⟩)
  · obtain ⟨hp, ⟨N1, c1, hw, hc⟩, ⟨N2, c2, hv, hd⟩, hf, hh⟩ := hI
    show G M S E (0, 0) h 3 [some (.ref (E.1 253)), some (.int (nI N)), some (.ref (E.1 266)), some (.ref (E.1 268)), some (.int (nI 5)), none] []
    refine r_iload (pc := 3) C dX2_deriveAlpha_3 rfl ?_
    refine r_iconst (pc := 5) (v := nI 5) C dX2_deriveAlpha_5 (by decide +kernel) ?_
    refine r_icmp_ge (pc := 6) (tgt := 99) C dX2_deriveAlpha_6 (by decide) (fun h6 => ?_) (fun h6 => ?_)
    · have h6 := c_le (by omega) (by omega) h6
      refine r_iconst (pc := 99) (v := nI 1) C dX2_deriveAlpha_99 (by decide +kernel) ?_
      exact r_iret (pc := 100) C Z dX2_deriveAlpha_100 rfl (⟨by rw [show aOk N v.1 v.2.2 v.2.1 = true from allB_t hh]; rfl, ⟨N1, c1, hw, hc⟩, ⟨N2, c2, hv, hd⟩, hf, _, hp, fun _ => rfl⟩)
    · have h6 := c_nle (by omega) (by omega) h6
      omega
  · obtain ⟨hp, ⟨N1, c1, hw, hc⟩, ⟨N2, c2, hv, hd⟩, hf, hh⟩ := hI
    show G M S E (0, 0) h 3 [some (.ref (E.1 253)), some (.int (nI N)), some (.ref (E.1 266)), some (.ref (E.1 268)), some (.int (nI t)), none] []
    refine r_iload (pc := 3) C dX2_deriveAlpha_3 rfl ?_
    refine r_iconst (pc := 5) (v := nI 5) C dX2_deriveAlpha_5 (by decide +kernel) ?_
    refine r_icmp_ge (pc := 6) (tgt := 99) C dX2_deriveAlpha_6 (by decide) (fun h6 => ?_) (fun h6 => ?_)
    · have h6 := c_le (by omega) (by omega) h6
      omega
    · have h6 := c_nle (by omega) (by omega) h6
      refine r_aload_n (pc := 9) C dX2_deriveAlpha_9 rfl ?_
      refine r_iload_n (pc := 10) C dX2_deriveAlpha_10 rfl ?_
      refine r_callV (pc := 11) C dX2_deriveAlpha_11 cv_RX2_37 (c_X6_setZero N hw hc (by omega)) ⟨rfl, rfl, by decide, by decide⟩ hw rfl rfl (Nat.le_of_ble_eq_true rfl) ⟨Nat.zero_le _, Nat.zero_le _⟩ ?_
      rintro _ _ ⟨rfl, rfl⟩
      show G M S E (0, 0) (va_up (va_up h 266 (.inr (6, [.ref (E.1 (266 + 1)), .int (nI N)]))) (266 + 1) (xJ S 24 (fun _ => 0))) 14 [some (.ref (E.1 253)), some (.int (nI N)), some (.ref (E.1 266)), some (.ref (E.1 268)), some (.int (nI t)), none] []
      refine r_aload_n (pc := 14) C dX2_deriveAlpha_14 rfl ?_
      refine r_aload_n (pc := 15) C dX2_deriveAlpha_15 rfl ?_
      refine r_getf (pc := 16) C dX2_deriveAlpha_16 fl_RX2_20 (Ce.up (Ce.up hp.1 (by decide)) (by omega)) rfl ?_
      refine r_iload (pc := 19) C dX2_deriveAlpha_19 rfl ?_
      refine r_aald (pc := 21) C dX2_deriveAlpha_21 (Ce.up (Ce.up hp.2.2.1 (by omega)) (by omega)) rfl rfl rfl (by omega) (by omega) rfl ?_
      refine r_iconst (pc := 22) (v := nI 1) C dX2_deriveAlpha_22 (by decide +kernel) ?_
      refine r_callV (pc := 23) C dX2_deriveAlpha_23 cv_RX2_59 (c_X6_plusRow (Ce.up (Ce.new hw) (by omega)) (Ce.new (Ce.up hc (by omega))) hN (by omega) (Ce.up (Ce.up (hp.2.2.2 t (by omega)).2 (by omega)) (by omega)) (by omega) (nI 1)) ⟨rfl, rfl, by decide, by decide⟩ (Ce.up (Ce.new hw) (by omega)) rfl rfl (Nat.le_of_ble_eq_true rfl) ⟨Nat.zero_le _, Nat.zero_le _⟩ ?_
      rintro _ _ ⟨rfl, rfl⟩
      rw [bx_uu]
      show G M S E (0, 0) (va_up (va_up h 266 (.inr (6, [.ref (E.1 (266 + 1)), .int (nI N)]))) (266 + 1) (xJ S 24 (plR N (v.2.2 t) (nI 1) (fun _ => 0)))) 26 [some (.ref (E.1 253)), some (.int (nI N)), some (.ref (E.1 266)), some (.ref (E.1 268)), some (.int (nI t)), none] []
      refine r_iconst (pc := 26) (v := nI 0) C dX2_deriveAlpha_26 (by decide +kernel) ?_
      refine r_istore (pc := 27) C dX2_deriveAlpha_27 (by decide) ?_
      refine G.eq (pc' := 29) (vs' := [some (.ref (E.1 253)), some (.int (nI N)), some (.ref (E.1 266)), some (.ref (E.1 268)), some (.int (nI t)), some (.int (nI 0))]) (st' := []) ?_
      refine G.heap (Ce.id (Ce.up (Ce.up hv (by decide)) (by omega))) ?_
      refine G.heap (Ce.id (Ce.up (Ce.up (Ce.up hd (by omega)) (by omega)) (by omega))) ?_
      refine bk (P := fun t2 => G M S E (0, 0) (va_up (va_up (va_up (va_up h 266 (.inr (6, [.ref (E.1 (266 + 1)), .int (nI N)]))) (266 + 1) (xJ S 24 (it (fun j f => plW N (rtm N v.1 t j ((it (fun n f => va_up f n (wrT N (aSm N v.1 f v.2.2 n))) t v.2.1) j)) (-1) f) t2 (plR N (v.2.2 t) (nI 1) (fun _ => 0))))) 268 (.inr (6, [.ref (E.1 (268 + 1)), .int (nI (prv N2 (fun _ => N) t2))]))) (268 + 1) (xJ S 24 (prv c2 (fun j => rtm N v.1 t j ((it (fun n f => va_up f n (wrT N (aSm N v.1 f v.2.2 n))) t v.2.1) j)) t2))) 29 [some (.ref (E.1 253)), some (.int (nI N)), some (.ref (E.1 266)), some (.ref (E.1 268)), some (.int (nI t)), some (.int (nI t2))] []) (T := t) ?_ (fun t2 ht ih => ?_)
      · show G M S E (0, 0) (va_up (va_up (va_up (va_up h 266 (.inr (6, [.ref (E.1 (266 + 1)), .int (nI N)]))) (266 + 1) (xJ S 24 (it (fun j f => plW N (rtm N v.1 t j ((it (fun n f => va_up f n (wrT N (aSm N v.1 f v.2.2 n))) t v.2.1) j)) (-1) f) t (plR N (v.2.2 t) (nI 1) (fun _ => 0))))) 268 (.inr (6, [.ref (E.1 (268 + 1)), .int (nI (prv N2 (fun _ => N) t))]))) (268 + 1) (xJ S 24 (prv c2 (fun j => rtm N v.1 t j ((it (fun n f => va_up f n (wrT N (aSm N v.1 f v.2.2 n))) t v.2.1) j)) t))) 29 [some (.ref (E.1 253)), some (.int (nI N)), some (.ref (E.1 266)), some (.ref (E.1 268)), some (.int (nI t)), some (.int (nI t))] []
        refine r_iload (pc := 29) C dX2_deriveAlpha_29 rfl ?_
        refine r_iload (pc := 31) C dX2_deriveAlpha_31 rfl ?_
        refine r_icmp_ge (pc := 33) (tgt := 58) C dX2_deriveAlpha_33 (by decide) (fun h33 => ?_) (fun h33 => ?_)
        · have h33 := c_le (by omega) (by omega) h33
          refine r_aload_n (pc := 58) C dX2_deriveAlpha_58 rfl ?_
          refine r_aload_n (pc := 59) C dX2_deriveAlpha_59 rfl ?_
          refine r_getf (pc := 60) C dX2_deriveAlpha_60 fl_RX2_9 (Ce.up (Ce.up (Ce.up (Ce.up hp.1 (by decide)) (by omega)) (by decide)) (by omega)) rfl ?_
          refine r_iconst (pc := 63) (v := nI 1) C dX2_deriveAlpha_63 (by decide +kernel) ?_
          refine r_iadd (pc := 64) C dX2_deriveAlpha_64 ?_
          refine r_ti (nI (v.1 + 1)) (nI_add _ _) ?_
          refine r_iload (pc := 65) C dX2_deriveAlpha_65 rfl ?_
          refine r_iload (pc := 67) C dX2_deriveAlpha_67 rfl ?_
          refine r_iadd (pc := 69) C dX2_deriveAlpha_69 ?_
          refine r_ti (nI (t + t)) (nI_add _ _) ?_
          refine r_callV (pc := 70) C dX2_deriveAlpha_70 cv_RX2_62 (c_X6_timesFactors (Ce.up (Ce.up (Ce.up (Ce.new hw) (by omega)) (by decide)) (by omega)) (Ce.up (Ce.up (Ce.new (Ce.up hc (by omega))) (by omega)) (by omega)) hN (by omega) (v.1 + 1) (t + t) (by omega) (by omega)) ⟨rfl, rfl, by decide, by decide⟩ (Ce.up (Ce.up (Ce.up (Ce.new hw) (by omega)) (by decide)) (by omega)) rfl rfl (Nat.le_of_ble_eq_true rfl) ⟨Nat.zero_le _, Nat.zero_le _⟩ ?_
          rintro _ _ ⟨rfl, rfl⟩
          show G M S E (0, 0) (va_up (va_up (va_up (va_up (va_up h 266 (.inr (6, [.ref (E.1 (266 + 1)), .int (nI N)]))) (266 + 1) (xJ S 24 (it (fun j f => plW N (rtm N v.1 t j ((it (fun n f => va_up f n (wrT N (aSm N v.1 f v.2.2 n))) t v.2.1) j)) (-1) f) t (plR N (v.2.2 t) (nI 1) (fun _ => 0))))) 268 (.inr (6, [.ref (E.1 (268 + 1)), .int (nI (prv N2 (fun _ => N) t))]))) (268 + 1) (xJ S 24 (prv c2 (fun j => rtm N v.1 t j ((it (fun n f => va_up f n (wrT N (aSm N v.1 f v.2.2 n))) t v.2.1) j)) t))) (266 + 1) (xJ S 24 (tmFs N (v.1 + 1) (t + t) (it (fun j f => plW N (rtm N v.1 t j ((it (fun n f => va_up f n (wrT N (aSm N v.1 f v.2.2 n))) t v.2.1) j)) (-1) f) t (plR N (v.2.2 t) (nI 1) (fun _ => 0)))))) 73 [some (.ref (E.1 253)), some (.int (nI N)), some (.ref (E.1 266)), some (.ref (E.1 268)), some (.int (nI t)), some (.int (nI t))] []
          refine G.heap (show (va_up (va_up (va_up (va_up (va_up h 266 (.inr (6, [.ref (E.1 (266 + 1)), .int (nI N)]))) (266 + 1) (xJ S 24 (it (fun j f => plW N (rtm N v.1 t j ((it (fun n f => va_up f n (wrT N (aSm N v.1 f v.2.2 n))) t v.2.1) j)) (-1) f) t (plR N (v.2.2 t) (nI 1) (fun _ => 0))))) 268 (.inr (6, [.ref (E.1 (268 + 1)), .int (nI (prv N2 (fun _ => N) t))]))) (268 + 1) (xJ S 24 (prv c2 (fun j => rtm N v.1 t j ((it (fun n f => va_up f n (wrT N (aSm N v.1 f v.2.2 n))) t v.2.1) j)) t))) (266 + 1) (xJ S 24 (tmFs N (v.1 + 1) (t + t) (it (fun j f => plW N (rtm N v.1 t j ((it (fun n f => va_up f n (wrT N (aSm N v.1 f v.2.2 n))) t v.2.1) j)) (-1) f) t (plR N (v.2.2 t) (nI 1) (fun _ => 0)))))) = (va_up (va_up (va_up (va_up h 266 (.inr (6, [.ref (E.1 (266 + 1)), .int (nI N)]))) (266 + 1) (xJ S 24 (tmFs N (v.1 + 1) (t + t) (it (fun j f => plW N (rtm N v.1 t j ((it (fun n f => va_up f n (wrT N (aSm N v.1 f v.2.2 n))) t v.2.1) j)) (-1) f) t (plR N (v.2.2 t) (nI 1) (fun _ => 0)))))) 268 (.inr (6, [.ref (E.1 (268 + 1)), .int (nI (prv N2 (fun _ => N) t))]))) (268 + 1) (xJ S 24 (prv c2 (fun j => rtm N v.1 t j ((it (fun n f => va_up f n (wrT N (aSm N v.1 f v.2.2 n))) t v.2.1) j)) t))) from by funext q; simp only [va_up]; (repeat' split) <;> first | rfl | omega) ?_
          refine r_aload_n (pc := 73) C dX2_deriveAlpha_73 rfl ?_
          refine r_callV (pc := 74) C dX2_deriveAlpha_74 cv_RX2_51 (c_X6_fits (Ce.up (Ce.up (Ce.up (Ce.new hw) (by omega)) (by decide)) (by omega)) (Ce.up (Ce.up (Ce.new (Ce.up hc (by omega))) (by omega)) (by omega)) hN (by omega)) ⟨rfl, rfl, by decide, by decide⟩ (Ce.up (Ce.up (Ce.up (Ce.new hw) (by omega)) (by decide)) (by omega)) rfl rfl (Nat.le_of_ble_eq_true rfl) ⟨Nat.zero_le _, Nat.zero_le _⟩ ?_
          rintro _ _ ⟨r, rfl, rfl, rfl⟩
          show G M S E (0, 0) (va_up (va_up (va_up (va_up h 266 (.inr (6, [.ref (E.1 (266 + 1)), .int (nI N)]))) (266 + 1) (xJ S 24 (tmFs N (v.1 + 1) (t + t) (it (fun j f => plW N (rtm N v.1 t j ((it (fun n f => va_up f n (wrT N (aSm N v.1 f v.2.2 n))) t v.2.1) j)) (-1) f) t (plR N (v.2.2 t) (nI 1) (fun _ => 0)))))) 268 (.inr (6, [.ref (E.1 (268 + 1)), .int (nI (prv N2 (fun _ => N) t))]))) (268 + 1) (xJ S 24 (prv c2 (fun j => rtm N v.1 t j ((it (fun n f => va_up f n (wrT N (aSm N v.1 f v.2.2 n))) t v.2.1) j)) t))) 77 [some (.ref (E.1 253)), some (.int (nI N)), some (.ref (E.1 266)), some (.ref (E.1 268)), some (.int (nI t)), some (.int (nI t))] [.int (b2i (fitB N (aSm N v.1 (aIt N v.1 v.2.2 t v.2.1) v.2.2 t)))]
          refine r_if_ne (pc := 77) (tgt := 82) C dX2_deriveAlpha_77 (by decide) (fun h77 => ?_) (fun h77 => ?_)
          · have h77 := b_t h77
            refine r_aload_n (pc := 82) C dX2_deriveAlpha_82 rfl ?_
            refine r_aload_n (pc := 83) C dX2_deriveAlpha_83 rfl ?_
            refine r_getf (pc := 84) C dX2_deriveAlpha_84 fl_RX2_17 (Ce.up (Ce.up (Ce.up (Ce.up hp.1 (by decide)) (by omega)) (by decide)) (by omega)) rfl ?_
            refine r_iload (pc := 87) C dX2_deriveAlpha_87 rfl ?_
            refine r_aald (pc := 89) C dX2_deriveAlpha_89 (Ce.up (Ce.up (Ce.up (Ce.up hp.2.1 (by omega)) (by omega)) (by omega)) (by omega)) rfl rfl rfl (by omega) (by omega) rfl ?_
            refine r_callV (pc := 90) C dX2_deriveAlpha_90 cv_RX2_55 (c_X6_writeTo (Ce.up (Ce.up (Ce.up (Ce.new hw) (by omega)) (by decide)) (by omega)) (Ce.up (Ce.up (Ce.new (Ce.up hc (by omega))) (by omega)) (by omega)) hN (by omega) (Ce.up (Ce.up (Ce.up (Ce.up (hp.2.2.2 t (by omega)).1 (by omega)) (by omega)) (by omega)) (by omega)) (by omega) (by omega)) ⟨rfl, rfl, by decide, by decide⟩ (Ce.up (Ce.up (Ce.up (Ce.new hw) (by omega)) (by decide)) (by omega)) rfl rfl (Nat.le_of_ble_eq_true rfl) ⟨Nat.zero_le _, Nat.zero_le _⟩ ?_
            rintro _ _ ⟨rfl, rfl⟩
            show G M S E (0, 0) (va_up (va_up (va_up (va_up (va_up h 266 (.inr (6, [.ref (E.1 (266 + 1)), .int (nI N)]))) (266 + 1) (xJ S 24 (tmFs N (v.1 + 1) (t + t) (it (fun j f => plW N (rtm N v.1 t j ((it (fun n f => va_up f n (wrT N (aSm N v.1 f v.2.2 n))) t v.2.1) j)) (-1) f) t (plR N (v.2.2 t) (nI 1) (fun _ => 0)))))) 268 (.inr (6, [.ref (E.1 (268 + 1)), .int (nI (prv N2 (fun _ => N) t))]))) (268 + 1) (xJ S 24 (prv c2 (fun j => rtm N v.1 t j ((it (fun n f => va_up f n (wrT N (aSm N v.1 f v.2.2 n))) t v.2.1) j)) t))) (253 + 2 + t) (xI S 24 (wrT N (aSm N v.1 (aIt N v.1 v.2.2 t v.2.1) v.2.2 t)))) 93 [some (.ref (E.1 253)), some (.int (nI N)), some (.ref (E.1 266)), some (.ref (E.1 268)), some (.int (nI t)), some (.int (nI t))] []
            refine r_iinc (pc := 93) (v := nI (t + 1)) C dX2_deriveAlpha_93 rfl (nI_i1 _) (by decide) ?_
            refine G.eq (pc' := 96) (vs' := [some (.ref (E.1 253)), some (.int (nI N)), some (.ref (E.1 266)), some (.ref (E.1 268)), some (.int (nI (t + 1))), some (.int (nI t))]) (st' := []) ?_
            refine r_goto (pc := 96) (tgt := 3) C dX2_deriveAlpha_96 (by decide) ?_
            refine G.wk (vs' := [some (.ref (E.1 253)), some (.int (nI N)), some (.ref (E.1 266)), some (.ref (E.1 268)), some (.int (nI (t + 1))), none]) ⟨rfl, rfl, rfl, rfl, rfl, trivial⟩ ?_
            exact (ih _ ⟨(((((hp.out (by omega)).out (by omega)).out (by omega)).out (by omega)).setA (wrT N (aSm N v.1 (aIt N v.1 v.2.2 t v.2.1) v.2.2 t)) (by omega)), (Wd.of (Ce.up (Ce.up (Ce.up (Ce.up (Ce.new hw) (by omega)) (by decide)) (by omega)) (by omega)) (Ce.up (Ce.up (Ce.up (Ce.new (Ce.up hc (by omega))) (by omega)) (by omega)) (by omega))), (Wd.of (Ce.up (Ce.up (Ce.new (Ce.up (Ce.up hv (by decide)) (by omega))) (by omega)) (by omega)) (Ce.up (Ce.new (Ce.up (Ce.up (Ce.up hd (by omega)) (by omega)) (by omega))) (by omega))), (((((hf.up (by omega) (by omega)).up (by omega) (by omega)).up (by omega) (by omega)).up (by omega) (by omega)).up (by omega) (by omega)), lt_s hh h77⟩)
          · have h77 := b_f h77
            refine r_iconst (pc := 80) (v := nI 0) C dX2_deriveAlpha_80 (by decide +kernel) ?_
            exact r_iret (pc := 81) C Z dX2_deriveAlpha_81 rfl (⟨by rw [show aOk N v.1 v.2.2 v.2.1 = false from allB_f ht h77]; rfl, (Wd.of (Ce.up (Ce.up (Ce.up (Ce.new hw) (by omega)) (by decide)) (by omega)) (Ce.up (Ce.up (Ce.new (Ce.up hc (by omega))) (by omega)) (by omega))), (Wd.of (Ce.up (Ce.new (Ce.up (Ce.up hv (by decide)) (by omega))) (by omega)) (Ce.new (Ce.up (Ce.up (Ce.up hd (by omega)) (by omega)) (by omega)))), ((((hf.up (by omega) (by omega)).up (by omega) (by omega)).up (by omega) (by omega)).up (by omega) (by omega)), _, ((((hp.out (by omega)).out (by omega)).out (by omega)).out (by omega)), fun q => absurd (q.symm.trans (allB_f ht h77)) (by decide)⟩)
        · have h33 := c_nle (by omega) (by omega) h33
          omega
      · show G M S E (0, 0) (va_up (va_up (va_up (va_up h 266 (.inr (6, [.ref (E.1 (266 + 1)), .int (nI N)]))) (266 + 1) (xJ S 24 (it (fun j f => plW N (rtm N v.1 t j ((it (fun n f => va_up f n (wrT N (aSm N v.1 f v.2.2 n))) t v.2.1) j)) (-1) f) t2 (plR N (v.2.2 t) (nI 1) (fun _ => 0))))) 268 (.inr (6, [.ref (E.1 (268 + 1)), .int (nI (prv N2 (fun _ => N) t2))]))) (268 + 1) (xJ S 24 (prv c2 (fun j => rtm N v.1 t j ((it (fun n f => va_up f n (wrT N (aSm N v.1 f v.2.2 n))) t v.2.1) j)) t2))) 29 [some (.ref (E.1 253)), some (.int (nI N)), some (.ref (E.1 266)), some (.ref (E.1 268)), some (.int (nI t)), some (.int (nI t2))] []
        refine r_iload (pc := 29) C dX2_deriveAlpha_29 rfl ?_
        refine r_iload (pc := 31) C dX2_deriveAlpha_31 rfl ?_
        refine r_icmp_ge (pc := 33) (tgt := 58) C dX2_deriveAlpha_33 (by decide) (fun h33 => ?_) (fun h33 => ?_)
        · have h33 := c_le (by omega) (by omega) h33
          omega
        · have h33 := c_nle (by omega) (by omega) h33
          refine r_aload_n (pc := 36) C dX2_deriveAlpha_36 rfl ?_
          refine r_aload_n (pc := 37) C dX2_deriveAlpha_37 rfl ?_
          refine r_iload (pc := 38) C dX2_deriveAlpha_38 rfl ?_
          refine r_iload (pc := 40) C dX2_deriveAlpha_40 rfl ?_
          refine r_iload_n (pc := 42) C dX2_deriveAlpha_42 rfl ?_
          refine r_callV (pc := 43) C dX2_deriveAlpha_43 cv_RX2_43 (c_X2_setRelationTerm (b := 253) (i := 268) (v := (v.1, (it (fun n f => va_up f n (wrT N (aSm N v.1 f v.2.2 n))) t v.2.1), v.2.2)) ((((hp.out (by omega)).out (by omega)).out (by omega)).out (by omega)) (Ce.up (Ce.new (Ce.up (Ce.up hv (by decide)) (by omega))) (by omega)) (Ce.new (Ce.up (Ce.up (Ce.up hd (by omega)) (by omega)) (by omega))) (by omega) hr N t t2 hN (by omega) (by omega)) ⟨rfl, rfl, by decide, by decide⟩ (Ce.up (Ce.up (Ce.up (Ce.up hp.1 (by decide)) (by omega)) (by decide)) (by omega)) rfl rfl (Nat.le_of_ble_eq_true rfl) ⟨Nat.zero_le _, Nat.zero_le _⟩ ?_
          rintro _ _ ⟨rfl, rfl⟩
          show G M S E (0, 0) (va_up (va_up (va_up (va_up (va_up (va_up h 266 (.inr (6, [.ref (E.1 (266 + 1)), .int (nI N)]))) (266 + 1) (xJ S 24 (it (fun j f => plW N (rtm N v.1 t j ((it (fun n f => va_up f n (wrT N (aSm N v.1 f v.2.2 n))) t v.2.1) j)) (-1) f) t2 (plR N (v.2.2 t) (nI 1) (fun _ => 0))))) 268 (.inr (6, [.ref (E.1 (268 + 1)), .int (nI (prv N2 (fun _ => N) t2))]))) (268 + 1) (xJ S 24 (prv c2 (fun j => rtm N v.1 t j ((it (fun n f => va_up f n (wrT N (aSm N v.1 f v.2.2 n))) t v.2.1) j)) t2))) 268 (.inr (6, [.ref (E.1 (268 + 1)), .int (nI N)]))) (268 + 1) (xJ S 24 (rtm N v.1 t t2 ((it (fun n f => va_up f n (wrT N (aSm N v.1 f v.2.2 n))) t v.2.1) t2)))) 46 [some (.ref (E.1 253)), some (.int (nI N)), some (.ref (E.1 266)), some (.ref (E.1 268)), some (.int (nI t)), some (.int (nI t2))] []
          refine G.heap (show (va_up (va_up (va_up (va_up (va_up (va_up h 266 (.inr (6, [.ref (E.1 (266 + 1)), .int (nI N)]))) (266 + 1) (xJ S 24 (it (fun j f => plW N (rtm N v.1 t j ((it (fun n f => va_up f n (wrT N (aSm N v.1 f v.2.2 n))) t v.2.1) j)) (-1) f) t2 (plR N (v.2.2 t) (nI 1) (fun _ => 0))))) 268 (.inr (6, [.ref (E.1 (268 + 1)), .int (nI (prv N2 (fun _ => N) t2))]))) (268 + 1) (xJ S 24 (prv c2 (fun j => rtm N v.1 t j ((it (fun n f => va_up f n (wrT N (aSm N v.1 f v.2.2 n))) t v.2.1) j)) t2))) 268 (.inr (6, [.ref (E.1 (268 + 1)), .int (nI N)]))) (268 + 1) (xJ S 24 (rtm N v.1 t t2 ((it (fun n f => va_up f n (wrT N (aSm N v.1 f v.2.2 n))) t v.2.1) t2)))) = (va_up (va_up (va_up (va_up h 266 (.inr (6, [.ref (E.1 (266 + 1)), .int (nI N)]))) (266 + 1) (xJ S 24 (it (fun j f => plW N (rtm N v.1 t j ((it (fun n f => va_up f n (wrT N (aSm N v.1 f v.2.2 n))) t v.2.1) j)) (-1) f) t2 (plR N (v.2.2 t) (nI 1) (fun _ => 0))))) 268 (.inr (6, [.ref (E.1 (268 + 1)), .int (nI N)]))) (268 + 1) (xJ S 24 (rtm N v.1 t t2 ((it (fun n f => va_up f n (wrT N (aSm N v.1 f v.2.2 n))) t v.2.1) t2)))) from by funext q; simp only [va_up]; (repeat' split) <;> first | rfl | omega) ?_
          refine r_aload_n (pc := 46) C dX2_deriveAlpha_46 rfl ?_
          refine r_aload_n (pc := 47) C dX2_deriveAlpha_47 rfl ?_
          refine r_iconst (pc := 48) (v := (-1)) C dX2_deriveAlpha_48 (by decide +kernel) ?_
          refine r_callV (pc := 49) C dX2_deriveAlpha_49 cv_RX2_47 (c_X6_plusWide (Ce.up (Ce.up (Ce.up (Ce.new hw) (by omega)) (by decide)) (by omega)) (Ce.up (Ce.up (Ce.new (Ce.up hc (by omega))) (by omega)) (by omega)) hN (by omega) (Ce.up (Ce.new (Ce.up (Ce.up hv (by decide)) (by omega))) (by omega)) (Ce.new (Ce.up (Ce.up (Ce.up hd (by omega)) (by omega)) (by omega))) (by omega) (by omega) (-1)) ⟨rfl, rfl, by decide, by decide⟩ (Ce.up (Ce.up (Ce.up (Ce.new hw) (by omega)) (by decide)) (by omega)) rfl rfl (Nat.le_of_ble_eq_true rfl) ⟨Nat.zero_le _, Nat.zero_le _⟩ ?_
          rintro _ _ ⟨rfl, rfl⟩
          show G M S E (0, 0) (va_up (va_up (va_up (va_up (va_up h 266 (.inr (6, [.ref (E.1 (266 + 1)), .int (nI N)]))) (266 + 1) (xJ S 24 (it (fun j f => plW N (rtm N v.1 t j ((it (fun n f => va_up f n (wrT N (aSm N v.1 f v.2.2 n))) t v.2.1) j)) (-1) f) t2 (plR N (v.2.2 t) (nI 1) (fun _ => 0))))) 268 (.inr (6, [.ref (E.1 (268 + 1)), .int (nI N)]))) (268 + 1) (xJ S 24 (rtm N v.1 t t2 ((it (fun n f => va_up f n (wrT N (aSm N v.1 f v.2.2 n))) t v.2.1) t2)))) (266 + 1) (xJ S 24 (plW N (rtm N v.1 t t2 ((it (fun n f => va_up f n (wrT N (aSm N v.1 f v.2.2 n))) t v.2.1) t2)) (-1) (it (fun j f => plW N (rtm N v.1 t j ((it (fun n f => va_up f n (wrT N (aSm N v.1 f v.2.2 n))) t v.2.1) j)) (-1) f) t2 (plR N (v.2.2 t) (nI 1) (fun _ => 0)))))) 52 [some (.ref (E.1 253)), some (.int (nI N)), some (.ref (E.1 266)), some (.ref (E.1 268)), some (.int (nI t)), some (.int (nI t2))] []
          refine G.heap (show (va_up (va_up (va_up (va_up (va_up h 266 (.inr (6, [.ref (E.1 (266 + 1)), .int (nI N)]))) (266 + 1) (xJ S 24 (it (fun j f => plW N (rtm N v.1 t j ((it (fun n f => va_up f n (wrT N (aSm N v.1 f v.2.2 n))) t v.2.1) j)) (-1) f) t2 (plR N (v.2.2 t) (nI 1) (fun _ => 0))))) 268 (.inr (6, [.ref (E.1 (268 + 1)), .int (nI N)]))) (268 + 1) (xJ S 24 (rtm N v.1 t t2 ((it (fun n f => va_up f n (wrT N (aSm N v.1 f v.2.2 n))) t v.2.1) t2)))) (266 + 1) (xJ S 24 (plW N (rtm N v.1 t t2 ((it (fun n f => va_up f n (wrT N (aSm N v.1 f v.2.2 n))) t v.2.1) t2)) (-1) (it (fun j f => plW N (rtm N v.1 t j ((it (fun n f => va_up f n (wrT N (aSm N v.1 f v.2.2 n))) t v.2.1) j)) (-1) f) t2 (plR N (v.2.2 t) (nI 1) (fun _ => 0)))))) = (va_up (va_up (va_up (va_up h 266 (.inr (6, [.ref (E.1 (266 + 1)), .int (nI N)]))) (266 + 1) (xJ S 24 (plW N (rtm N v.1 t t2 ((it (fun n f => va_up f n (wrT N (aSm N v.1 f v.2.2 n))) t v.2.1) t2)) (-1) (it (fun j f => plW N (rtm N v.1 t j ((it (fun n f => va_up f n (wrT N (aSm N v.1 f v.2.2 n))) t v.2.1) j)) (-1) f) t2 (plR N (v.2.2 t) (nI 1) (fun _ => 0)))))) 268 (.inr (6, [.ref (E.1 (268 + 1)), .int (nI N)]))) (268 + 1) (xJ S 24 (rtm N v.1 t t2 ((it (fun n f => va_up f n (wrT N (aSm N v.1 f v.2.2 n))) t v.2.1) t2)))) from by funext q; simp only [va_up]; (repeat' split) <;> first | rfl | omega) ?_
          refine r_iinc (pc := 52) (v := nI (t2 + 1)) C dX2_deriveAlpha_52 rfl (nI_i1 _) (by decide) ?_
          refine G.eq (pc' := 55) (vs' := [some (.ref (E.1 253)), some (.int (nI N)), some (.ref (E.1 266)), some (.ref (E.1 268)), some (.int (nI t)), some (.int (nI (t2 + 1)))]) (st' := []) ?_
          refine r_goto (pc := 55) (tgt := 29) C dX2_deriveAlpha_55 (by decide) ?_
          exact ih
/-- the unit pair's beta -/
def uBe : Nat → Nat → Int32 := fun n => if n = 0 then upd (fun _ => 0) 0 (nI 1) else (fun _ => 0)
theorem uBe_eq {be : Nat → Nat → Int32} {j : Nat} (hj : j < 5) : va_up (it (fun j f => va_up f j (fun _ => 0)) 5 be) 0 (upd (it (fun j f => va_up f j (fun _ => 0)) 5 be 0) 0 (nI 1)) j = uBe j := by
  by_cases e : j = 0
  · subst e
    rw [va_up_self, it_row _ _ (by decide : 0 < 5)]
    rfl
  · rw [va_up_ne _ _ e, it_row _ _ hj]
    unfold uBe
    rw [if_neg e]
set_option maxHeartbeats 4000000 in
set_option maxRecDepth 100000 in
theorem c_X2_setUnit {S : ST} {E : ET} {g : Nat → va_E} {v : PV} (hp : PairAt S E g 253 v) (hW1 : Wd S E g 266) (hW2 : Wd S E g 268) (r : Nat) (hr : r ≤ 1) (N : Nat) (hN : N ≤ 24) : CtV S E yX2_setUnit cX2_setUnit 6 none rmX2_setUnit [.ref (E.1 253), .int (nI r), .int (nI N), .ref (E.1 266), .ref (E.1 268)] g (fun g' => Wd S E g' 266 ∧ Wd S E g' 268 ∧ Fr g g' 253 270 ∧ ∃ al, PairAt S E g' 253 (r, al, uBe) ∧ (aOk N r uBe v.2.1 = true → al = aIt N r uBe 5 v.2.1)) := by
  refine Ct.of RX2 (by decide +kernel) rfl (Nat.le_of_ble_eq_true rfl) (fun M C Z => ?_)
  refine G.eq (pc' := 0) (vs' := [some (.ref (E.1 253)), some (.int (nI r)), some (.int (nI N)), some (.ref (E.1 266)), some (.ref (E.1 268)), none]) (st' := []) ?_
  refine r_aload_n (pc := 0) C dX2_setUnit_0 rfl ?_
  refine r_iload_n (pc := 1) C dX2_setUnit_1 rfl ?_
  refine r_putf (pc := 2) C dX2_setUnit_2 fp_RX2_9 hp.1 rfl rfl (Nat.le_of_ble_eq_true rfl) ?_
  refine r_iconst (pc := 5) (v := nI 0) C dX2_setUnit_5 (by decide +kernel) ?_
  refine r_istore (pc := 6) C dX2_setUnit_6 (by decide) ?_
  refine G.eq (pc' := 8) (vs' := [some (.ref (E.1 253)), some (.int (nI r)), some (.int (nI N)), some (.ref (E.1 266)), some (.ref (E.1 268)), some (.int (nI 0))]) (st' := []) ?_
  refine bk (P := fun t => ∀ h : Nat → va_E, (PairAt S E h 253 (r, v.2.1, it (fun j f => va_up f j (fun _ => 0)) t v.2.2) ∧ Fr g h 253 266) → G M S E (0, 0) h 8 [some (.ref (E.1 253)), some (.int (nI r)), some (.int (nI N)), some (.ref (E.1 266)), some (.ref (E.1 268)), some (.int (nI t))] []) (T := 5) (fun h hI => ?_) (fun t ht ih h hI => ?_) _ (⟨hp.setR r, Fr.up Fr.rf (by omega) (by omega)⟩)
  · obtain ⟨hp, hf⟩ := hI
    show G M S E (0, 0) h 8 [some (.ref (E.1 253)), some (.int (nI r)), some (.int (nI N)), some (.ref (E.1 266)), some (.ref (E.1 268)), some (.int (nI 5))] []
    refine r_iload (pc := 8) C dX2_setUnit_8 rfl ?_
    refine r_iconst (pc := 10) (v := nI 5) C dX2_setUnit_10 (by decide +kernel) ?_
    refine r_icmp_ge (pc := 11) (tgt := 31) C dX2_setUnit_11 (by decide) (fun h11 => ?_) (fun h11 => ?_)
    · have h11 := c_le (by omega) (by omega) h11
      refine r_aload_n (pc := 31) C dX2_setUnit_31 rfl ?_
      refine r_getf (pc := 32) C dX2_setUnit_32 fl_RX2_20 hp.1 rfl ?_
      refine r_iconst (pc := 35) (v := nI 0) C dX2_setUnit_35 (by decide +kernel) ?_
      refine r_aald (pc := 36) C dX2_setUnit_36 hp.2.2.1 rfl rfl rfl (by omega) (by omega) rfl ?_
      refine r_iconst (pc := 37) (v := nI 0) C dX2_setUnit_37 (by decide +kernel) ?_
      refine r_iconst (pc := 38) (v := nI 1) C dX2_setUnit_38 (by decide +kernel) ?_
      refine r_iast (pc := 39) C dX2_setUnit_39 (hp.2.2.2 0 (by omega)).2 rfl (by omega) (by omega) ?_
      refine r_aload_n (pc := 40) C dX2_setUnit_40 rfl ?_
      refine r_iload_n (pc := 41) C dX2_setUnit_41 rfl ?_
      refine r_aload_n (pc := 42) C dX2_setUnit_42 rfl ?_
      refine r_aload (pc := 43) C dX2_setUnit_43 rfl ?_
      have hp2 := (hp.setB (t := 0) (upd ((it (fun j f => va_up f j (fun _ => 0)) 5 v.2.2) 0) 0 (nI 1)) (by omega))
      have hp3 : PairAt S E (va_up h (253 + 8 + 0) (xI S 24 (upd ((it (fun j f => va_up f j (fun _ => 0)) 5 v.2.2) 0) 0 (nI 1)))) 253 (r, v.2.1, uBe) := hp2.cong rfl (fun _ _ => rfl) (fun j hj => uBe_eq hj)
      have hf2 : Fr g (va_up h (253 + 8 + 0) (xI S 24 (upd ((it (fun j f => va_up f j (fun _ => 0)) 5 v.2.2) 0) 0 (nI 1)))) 253 266 := (hf.up (by omega) (by omega))
      generalize hg3 : (va_up h (253 + 8 + 0) (xI S 24 (upd ((it (fun j f => va_up f j (fun _ => 0)) 5 v.2.2) 0) 0 (nI 1)))) = g3 at hp3 hf2 ⊢
      clear hg3
      refine r_callV (pc := 45) C dX2_setUnit_45 cv_RX2_33 (c_X2_deriveAlpha hp3 (hW1.fr hf2 (by omega)) (hW2.fr hf2 (by omega)) hr N hN) ⟨rfl, rfl, by decide, by decide⟩ hp3.1 rfl rfl (Nat.le_of_ble_eq_true rfl) ⟨Nat.zero_le _, Nat.zero_le _⟩ ?_
      rintro _ g4 ⟨_, rfl, rfl, h1, h2, h3, al, h4, h5⟩
      show G M S E (0, 0) g4 48 [some (.ref (E.1 253)), some (.int (nI r)), some (.int (nI N)), some (.ref (E.1 266)), some (.ref (E.1 268)), some (.int (nI 5))] [.int (b2i (aOk N r uBe v.2.1))]
      refine r_pop (pc := 48) C dX2_setUnit_48 rfl ?_
      exact r_vret (pc := 49) C Z dX2_setUnit_49 (⟨h1, h2, hf2.wide (by omega) (by omega) |>.tr h3 (by omega) (by omega), al, h4, h5⟩)
    · have h11 := c_nle (by omega) (by omega) h11
      omega
  · obtain ⟨hp, hf⟩ := hI
    show G M S E (0, 0) h 8 [some (.ref (E.1 253)), some (.int (nI r)), some (.int (nI N)), some (.ref (E.1 266)), some (.ref (E.1 268)), some (.int (nI t))] []
    refine r_iload (pc := 8) C dX2_setUnit_8 rfl ?_
    refine r_iconst (pc := 10) (v := nI 5) C dX2_setUnit_10 (by decide +kernel) ?_
    refine r_icmp_ge (pc := 11) (tgt := 31) C dX2_setUnit_11 (by decide) (fun h11 => ?_) (fun h11 => ?_)
    · have h11 := c_le (by omega) (by omega) h11
      omega
    · have h11 := c_nle (by omega) (by omega) h11
      refine r_aload_n (pc := 14) C dX2_setUnit_14 rfl ?_
      refine r_getf (pc := 15) C dX2_setUnit_15 fl_RX2_20 hp.1 rfl ?_
      refine r_iload (pc := 18) C dX2_setUnit_18 rfl ?_
      refine r_aald (pc := 20) C dX2_setUnit_20 hp.2.2.1 rfl rfl rfl (by omega) (by omega) rfl ?_
      refine r_iconst (pc := 21) (v := nI 0) C dX2_setUnit_21 (by decide +kernel) ?_
      rw [show nI 0 = (0 : Int32) from rfl]
      refine r_callS (pc := 22) C dX2_setUnit_22 cs_RX2_27 (c_J7_fill_53178 0 (hp.2.2.2 t (by omega)).2 (by decide)) ⟨rfl, rfl, by decide, by decide⟩ rfl rfl (Nat.le_of_ble_eq_true rfl) ⟨Nat.zero_le _, Nat.zero_le _⟩ ?_
      rintro _ _ ⟨rfl, rfl⟩
      show G M S E (0, 0) (va_up h (253 + 8 + t) (xI S 24 (fun _ => 0))) 25 [some (.ref (E.1 253)), some (.int (nI r)), some (.int (nI N)), some (.ref (E.1 266)), some (.ref (E.1 268)), some (.int (nI t))] []
      refine r_iinc (pc := 25) (v := nI (t + 1)) C dX2_setUnit_25 rfl (nI_i1 _) (by decide) ?_
      refine G.eq (pc' := 28) (vs' := [some (.ref (E.1 253)), some (.int (nI r)), some (.int (nI N)), some (.ref (E.1 266)), some (.ref (E.1 268)), some (.int (nI (t + 1)))]) (st' := []) ?_
      refine r_goto (pc := 28) (tgt := 8) C dX2_setUnit_28 (by decide) ?_
      exact (ih _ ⟨(hp.setB (fun _ => 0) (by omega)), (hf.up (by omega) (by omega))⟩)
/-- a step of the chain: alpha(n), beta(n) -/
def sAl (N r : Nat) (al : Nat → Nat → Int32) (n : Nat) : Nat → Int64 := plS N (al n) (r * n + n * n) (fun _ => 0)
def sBt (N r : Nat) (be : Nat → Nat → Int32) (n j : Nat) : Nat → Int64 := ovFs N 1 (n - j) (plS N (be j) (r * j + j * j) (fun _ => 0))
def sBe (N r : Nat) (be : Nat → Nat → Int32) (n : Nat) : Nat → Int64 := it (fun j f => plW N (sBt N r be n j) (nI 1) f) (n + 1) (fun _ => 0)
def sOk (N r : Nat) (be : Nat → Nat → Int32) : Bool := allB (fun n => fitB N (sBe N r be n)) 5
theorem sp_lt {r k : Nat} (hr : r ≤ 1) (hk : k < 5) : r * k + k * k < 2 ^ 30 := by
  have h1 : r * k ≤ 1 * 4 := Nat.mul_le_mul hr (by omega)
  have h2 : k * k ≤ 4 * 4 := Nat.mul_le_mul (by omega) (by omega)
  omega
set_option maxHeartbeats 4000000 in
set_option maxRecDepth 100000 in
theorem c_X2_setNextOf {S : ST} {E : ET} {g : Nat → va_E} {v u : PV} {d : Nat} (hp : PairAt S E g 253 v) (hq : PairAt S E g d u) (hd0 : d + 13 ≤ 253) (hW1 : Wd S E g 266) (hW2 : Wd S E g 268) (hr : u.1 ≤ 1) (N : Nat) (hN : N ≤ 24) : CtI S E yX2_setNextOf cX2_setNextOf 7 (Option.some FieldType.boolean) rmX2_setNextOf [.ref (E.1 253), .ref (E.1 d), .int (nI N), .ref (E.1 266), .ref (E.1 268)] g (fun x g' => x = b2i (sOk N u.1 u.2.2) ∧ Wd S E g' 266 ∧ Wd S E g' 268 ∧ Fr g g' 253 270 ∧ ∃ al be, PairAt S E g' 253 (u.1, al, be) ∧ (sOk N u.1 u.2.2 = true → ∀ j, j < 5 → al j = wrT N (sAl N u.1 u.2.1 j) ∧ be j = wrT N (sBe N u.1 u.2.2 j))) := by
  refine Ct.of RX2 (by decide +kernel) rfl (Nat.le_of_ble_eq_true rfl) (fun M C Z => ?_)
  refine G.eq (pc' := 0) (vs' := [some (.ref (E.1 253)), some (.ref (E.1 d)), some (.int (nI N)), some (.ref (E.1 266)), some (.ref (E.1 268)), none, none]) (st' := []) ?_
  refine r_aload_n (pc := 0) C dX2_setNextOf_0 rfl ?_
  refine r_aload_n (pc := 1) C dX2_setNextOf_1 rfl ?_
  refine r_getf (pc := 2) C dX2_setNextOf_2 fl_RX2_9 hq.1 rfl ?_
  refine r_putf (pc := 5) C dX2_setNextOf_5 fp_RX2_9 hp.1 rfl rfl (Nat.le_of_ble_eq_true rfl) ?_
  refine r_iconst (pc := 8) (v := nI 0) C dX2_setNextOf_8 (by decide +kernel) ?_
  refine r_istore (pc := 9) C dX2_setNextOf_9 (by decide) ?_
  refine G.eq (pc' := 11) (vs' := [some (.ref (E.1 253)), some (.ref (E.1 d)), some (.int (nI N)), some (.ref (E.1 266)), some (.ref (E.1 268)), some (.int (nI 0)), none]) (st' := []) ?_
  refine bk (P := fun t => ∀ h : Nat → va_E, (PairAt S E h 253 (u.1, it (fun j f => va_up f j (wrT N (sAl N u.1 u.2.1 j))) t v.2.1, it (fun j f => va_up f j (wrT N (sBe N u.1 u.2.2 j))) t v.2.2) ∧ PairAt S E h d u ∧ Wd S E h 266 ∧ Wd S E h 268 ∧ Fr g h 253 270 ∧ ∀ j : Nat, j < t → fitB N (sBe N u.1 u.2.2 j) = true) → G M S E (0, 0) h 11 [some (.ref (E.1 253)), some (.ref (E.1 d)), some (.int (nI N)), some (.ref (E.1 266)), some (.ref (E.1 268)), some (.int (nI t)), none] []) (T := 5) (fun h hI => ?_) (fun t ht ih h hI => ?_) _ (⟨hp.setR u.1, hq.out (by omega), hW1.fr (Fr.up (lo := 253) (hi := 254) Fr.rf (by omega) (by omega)) (by omega), hW2.fr (Fr.up (lo := 253) (hi := 254) Fr.rf (by omega) (by omega)) (by omega), Fr.up Fr.rf (by omega) (by omega), fun j hj => absurd hj (Nat.not_lt_zero j)⟩)
  · obtain ⟨hp, hq, ⟨N1, c1, hw, hc⟩, ⟨N2, c2, hv, hd⟩, hf, hh⟩ := hI
    show G M S E (0, 0) h 11 [some (.ref (E.1 253)), some (.ref (E.1 d)), some (.int (nI N)), some (.ref (E.1 266)), some (.ref (E.1 268)), some (.int (nI 5)), none] []
    refine r_iload (pc := 11) C dX2_setNextOf_11 rfl ?_
    refine r_iconst (pc := 13) (v := nI 5) C dX2_setNextOf_13 (by decide +kernel) ?_
    refine r_icmp_ge (pc := 14) (tgt := 145) C dX2_setNextOf_14 (by decide) (fun h14 => ?_) (fun h14 => ?_)
    · have h14 := c_le (by omega) (by omega) h14
      refine r_iconst (pc := 145) (v := nI 1) C dX2_setNextOf_145 (by decide +kernel) ?_
      exact r_iret (pc := 146) C Z dX2_setNextOf_146 rfl (⟨by rw [show sOk N u.1 u.2.2 = true from allB_t hh]; rfl, ⟨N1, c1, hw, hc⟩, ⟨N2, c2, hv, hd⟩, hf, _, _, hp, fun _ j hj => ⟨it_row _ _ hj, it_row _ _ hj⟩⟩)
    · have h14 := c_nle (by omega) (by omega) h14
      omega
  · obtain ⟨hp, hq, ⟨N1, c1, hw, hc⟩, ⟨N2, c2, hv, hd⟩, hf, hh⟩ := hI
    show G M S E (0, 0) h 11 [some (.ref (E.1 253)), some (.ref (E.1 d)), some (.int (nI N)), some (.ref (E.1 266)), some (.ref (E.1 268)), some (.int (nI t)), none] []
    refine r_iload (pc := 11) C dX2_setNextOf_11 rfl ?_
    refine r_iconst (pc := 13) (v := nI 5) C dX2_setNextOf_13 (by decide +kernel) ?_
    refine r_icmp_ge (pc := 14) (tgt := 145) C dX2_setNextOf_14 (by decide) (fun h14 => ?_) (fun h14 => ?_)
    · have h14 := c_le (by omega) (by omega) h14
      omega
    · have h14 := c_nle (by omega) (by omega) h14
      refine r_aload_n (pc := 17) C dX2_setNextOf_17 rfl ?_
      refine r_iload_n (pc := 18) C dX2_setNextOf_18 rfl ?_
      refine r_callV (pc := 19) C dX2_setNextOf_19 cv_RX2_37 (c_X6_setZero N hw hc (by omega)) ⟨rfl, rfl, by decide, by decide⟩ hw rfl rfl (Nat.le_of_ble_eq_true rfl) ⟨Nat.zero_le _, Nat.zero_le _⟩ ?_
      rintro _ _ ⟨rfl, rfl⟩
      show G M S E (0, 0) (va_up (va_up h 266 (.inr (6, [.ref (E.1 (266 + 1)), .int (nI N)]))) (266 + 1) (xJ S 24 (fun _ => 0))) 22 [some (.ref (E.1 253)), some (.ref (E.1 d)), some (.int (nI N)), some (.ref (E.1 266)), some (.ref (E.1 268)), some (.int (nI t)), none] []
      refine r_aload_n (pc := 22) C dX2_setNextOf_22 rfl ?_
      refine r_aload_n (pc := 23) C dX2_setNextOf_23 rfl ?_
      refine r_getf (pc := 24) C dX2_setNextOf_24 fl_RX2_17 (Ce.up (Ce.up hq.1 (by omega)) (by omega)) rfl ?_
      refine r_iload (pc := 27) C dX2_setNextOf_27 rfl ?_
      refine r_aald (pc := 29) C dX2_setNextOf_29 (Ce.up (Ce.up hq.2.1 (by omega)) (by omega)) rfl rfl rfl (by omega) (by omega) rfl ?_
      refine r_aload_n (pc := 30) C dX2_setNextOf_30 rfl ?_
      refine r_getf (pc := 31) C dX2_setNextOf_31 fl_RX2_9 (Ce.up (Ce.up hp.1 (by decide)) (by omega)) rfl ?_
      refine r_iload (pc := 34) C dX2_setNextOf_34 rfl ?_
      refine r_callN (pc := 36) C dX2_setNextOf_36 cn_RX2_69 (c_X7_stepPower u.1 t) ⟨rfl, rfl, by decide, by decide⟩ rfl rfl (Nat.le_of_ble_eq_true rfl) ⟨Nat.zero_le _, Nat.zero_le _⟩ ?_
      rintro _ _ ⟨_, rfl, rfl, rfl⟩
      show G M S E (0, 0) (va_up (va_up h 266 (.inr (6, [.ref (E.1 (266 + 1)), .int (nI N)]))) (266 + 1) (xJ S 24 (fun _ => 0))) 39 [some (.ref (E.1 253)), some (.ref (E.1 d)), some (.int (nI N)), some (.ref (E.1 266)), some (.ref (E.1 268)), some (.int (nI t)), none] [.int (nI (u.1 * t + t * t)), .ref (E.1 (d + 2 + t)), .ref (E.1 266)]
      have hpw : u.1 * t + t * t < 2 ^ 30 := sp_lt hr (by omega)
      refine r_callV (pc := 39) C dX2_setNextOf_39 cv_RX2_73 (c_X6_plusShifted (Ce.up (Ce.new hw) (by omega)) (Ce.new (Ce.up hc (by omega))) hN (by omega) (Ce.up (Ce.up (hq.2.2.2 t (by omega)).1 (by omega)) (by omega)) (by omega) (u.1 * t + t * t) hpw) ⟨rfl, rfl, by decide, by decide⟩ (Ce.up (Ce.new hw) (by omega)) rfl rfl (Nat.le_of_ble_eq_true rfl) ⟨Nat.zero_le _, Nat.zero_le _⟩ ?_
      rintro _ _ ⟨rfl, rfl⟩
      rw [bx_uu]
      show G M S E (0, 0) (va_up (va_up h 266 (.inr (6, [.ref (E.1 (266 + 1)), .int (nI N)]))) (266 + 1) (xJ S 24 (plS N (u.2.1 t) (u.1 * t + t * t) (fun _ => 0)))) 42 [some (.ref (E.1 253)), some (.ref (E.1 d)), some (.int (nI N)), some (.ref (E.1 266)), some (.ref (E.1 268)), some (.int (nI t)), none] []
      refine r_aload_n (pc := 42) C dX2_setNextOf_42 rfl ?_
      refine r_aload_n (pc := 43) C dX2_setNextOf_43 rfl ?_
      refine r_getf (pc := 44) C dX2_setNextOf_44 fl_RX2_17 (Ce.up (Ce.up hp.1 (by decide)) (by omega)) rfl ?_
      refine r_iload (pc := 47) C dX2_setNextOf_47 rfl ?_
      refine r_aald (pc := 49) C dX2_setNextOf_49 (Ce.up (Ce.up hp.2.1 (by omega)) (by omega)) rfl rfl rfl (by omega) (by omega) rfl ?_
      refine r_callV (pc := 50) C dX2_setNextOf_50 cv_RX2_55 (c_X6_writeTo (Ce.up (Ce.new hw) (by omega)) (Ce.new (Ce.up hc (by omega))) hN (by omega) (Ce.up (Ce.up (hp.2.2.2 t (by omega)).1 (by omega)) (by omega)) (by omega) (by omega)) ⟨rfl, rfl, by decide, by decide⟩ (Ce.up (Ce.new hw) (by omega)) rfl rfl (Nat.le_of_ble_eq_true rfl) ⟨Nat.zero_le _, Nat.zero_le _⟩ ?_
      rintro _ _ ⟨rfl, rfl⟩
      show G M S E (0, 0) (va_up (va_up (va_up h 266 (.inr (6, [.ref (E.1 (266 + 1)), .int (nI N)]))) (266 + 1) (xJ S 24 (plS N (u.2.1 t) (u.1 * t + t * t) (fun _ => 0)))) (253 + 2 + t) (xI S 24 (wrT N (sAl N u.1 u.2.1 t)))) 53 [some (.ref (E.1 253)), some (.ref (E.1 d)), some (.int (nI N)), some (.ref (E.1 266)), some (.ref (E.1 268)), some (.int (nI t)), none] []
      refine r_aload_n (pc := 53) C dX2_setNextOf_53 rfl ?_
      refine r_iload_n (pc := 54) C dX2_setNextOf_54 rfl ?_
      refine r_callV (pc := 55) C dX2_setNextOf_55 cv_RX2_37 (c_X6_setZero N (Ce.up (Ce.up (Ce.new hw) (by omega)) (by omega)) (Ce.up (Ce.new (Ce.up hc (by omega))) (by omega)) (by omega)) ⟨rfl, rfl, by decide, by decide⟩ (Ce.up (Ce.up (Ce.new hw) (by omega)) (by omega)) rfl rfl (Nat.le_of_ble_eq_true rfl) ⟨Nat.zero_le _, Nat.zero_le _⟩ ?_
      rintro _ _ ⟨rfl, rfl⟩
      show G M S E (0, 0) (va_up (va_up (va_up (va_up (va_up h 266 (.inr (6, [.ref (E.1 (266 + 1)), .int (nI N)]))) (266 + 1) (xJ S 24 (plS N (u.2.1 t) (u.1 * t + t * t) (fun _ => 0)))) (253 + 2 + t) (xI S 24 (wrT N (sAl N u.1 u.2.1 t)))) 266 (.inr (6, [.ref (E.1 (266 + 1)), .int (nI N)]))) (266 + 1) (xJ S 24 (fun _ => 0))) 58 [some (.ref (E.1 253)), some (.ref (E.1 d)), some (.int (nI N)), some (.ref (E.1 266)), some (.ref (E.1 268)), some (.int (nI t)), none] []
      refine G.heap (show (va_up (va_up (va_up (va_up (va_up h 266 (.inr (6, [.ref (E.1 (266 + 1)), .int (nI N)]))) (266 + 1) (xJ S 24 (plS N (u.2.1 t) (u.1 * t + t * t) (fun _ => 0)))) (253 + 2 + t) (xI S 24 (wrT N (sAl N u.1 u.2.1 t)))) 266 (.inr (6, [.ref (E.1 (266 + 1)), .int (nI N)]))) (266 + 1) (xJ S 24 (fun _ => 0))) = (va_up (va_up (va_up h 266 (.inr (6, [.ref (E.1 (266 + 1)), .int (nI N)]))) (266 + 1) (xJ S 24 (fun _ => 0))) (253 + 2 + t) (xI S 24 (wrT N (sAl N u.1 u.2.1 t)))) from by funext q; simp only [va_up]; (repeat' split) <;> first | rfl | omega) ?_
      refine r_iconst (pc := 58) (v := nI 0) C dX2_setNextOf_58 (by decide +kernel) ?_
      refine r_istore (pc := 59) C dX2_setNextOf_59 (by decide) ?_
      refine G.eq (pc' := 61) (vs' := [some (.ref (E.1 253)), some (.ref (E.1 d)), some (.int (nI N)), some (.ref (E.1 266)), some (.ref (E.1 268)), some (.int (nI t)), some (.int (nI 0))]) (st' := []) ?_
      refine G.heap (Ce.id (Ce.up (Ce.up (Ce.up hv (by decide)) (by omega)) (by omega))) ?_
      refine G.heap (Ce.id (Ce.up (Ce.up (Ce.up (Ce.up hd (by omega)) (by omega)) (by omega)) (by omega))) ?_
      refine bk (P := fun t2 => G M S E (0, 0) (va_up (va_up (va_up (va_up (va_up h 266 (.inr (6, [.ref (E.1 (266 + 1)), .int (nI N)]))) (266 + 1) (xJ S 24 (it (fun j f => plW N (sBt N u.1 u.2.2 t j) (nI 1) f) t2 (fun _ => 0)))) (253 + 2 + t) (xI S 24 (wrT N (sAl N u.1 u.2.1 t)))) 268 (.inr (6, [.ref (E.1 (268 + 1)), .int (nI (prv N2 (fun _ => N) t2))]))) (268 + 1) (xJ S 24 (prv c2 (fun j => sBt N u.1 u.2.2 t j) t2))) 61 [some (.ref (E.1 253)), some (.ref (E.1 d)), some (.int (nI N)), some (.ref (E.1 266)), some (.ref (E.1 268)), some (.int (nI t)), some (.int (nI t2))] []) (T := t + 1) ?_ (fun t2 ht ih => ?_)
      · show G M S E (0, 0) (va_up (va_up (va_up (va_up (va_up h 266 (.inr (6, [.ref (E.1 (266 + 1)), .int (nI N)]))) (266 + 1) (xJ S 24 (it (fun j f => plW N (sBt N u.1 u.2.2 t j) (nI 1) f) (t + 1) (fun _ => 0)))) (253 + 2 + t) (xI S 24 (wrT N (sAl N u.1 u.2.1 t)))) 268 (.inr (6, [.ref (E.1 (268 + 1)), .int (nI (prv N2 (fun _ => N) (t + 1)))]))) (268 + 1) (xJ S 24 (prv c2 (fun j => sBt N u.1 u.2.2 t j) (t + 1)))) 61 [some (.ref (E.1 253)), some (.ref (E.1 d)), some (.int (nI N)), some (.ref (E.1 266)), some (.ref (E.1 268)), some (.int (nI t)), some (.int (nI (t + 1)))] []
        refine r_iload (pc := 61) C dX2_setNextOf_61 rfl ?_
        refine r_iload (pc := 63) C dX2_setNextOf_63 rfl ?_
        refine r_icmp_gt (pc := 65) (tgt := 119) C dX2_setNextOf_65 (by decide) (fun h65 => ?_) (fun h65 => ?_)
        · have h65 := c_lt (by omega) (by omega) h65
          refine r_aload_n (pc := 119) C dX2_setNextOf_119 rfl ?_
          refine r_callV (pc := 120) C dX2_setNextOf_120 cv_RX2_51 (c_X6_fits (Ce.up (Ce.up (Ce.up (Ce.up (Ce.new hw) (by omega)) (by omega)) (by decide)) (by omega)) (Ce.up (Ce.up (Ce.up (Ce.new (Ce.up hc (by omega))) (by omega)) (by omega)) (by omega)) hN (by omega)) ⟨rfl, rfl, by decide, by decide⟩ (Ce.up (Ce.up (Ce.up (Ce.up (Ce.new hw) (by omega)) (by omega)) (by decide)) (by omega)) rfl rfl (Nat.le_of_ble_eq_true rfl) ⟨Nat.zero_le _, Nat.zero_le _⟩ ?_
          rintro _ _ ⟨r, rfl, rfl, rfl⟩
          show G M S E (0, 0) (va_up (va_up (va_up (va_up (va_up h 266 (.inr (6, [.ref (E.1 (266 + 1)), .int (nI N)]))) (266 + 1) (xJ S 24 (it (fun j f => plW N (sBt N u.1 u.2.2 t j) (nI 1) f) (t + 1) (fun _ => 0)))) (253 + 2 + t) (xI S 24 (wrT N (sAl N u.1 u.2.1 t)))) 268 (.inr (6, [.ref (E.1 (268 + 1)), .int (nI (prv N2 (fun _ => N) (t + 1)))]))) (268 + 1) (xJ S 24 (prv c2 (fun j => sBt N u.1 u.2.2 t j) (t + 1)))) 123 [some (.ref (E.1 253)), some (.ref (E.1 d)), some (.int (nI N)), some (.ref (E.1 266)), some (.ref (E.1 268)), some (.int (nI t)), some (.int (nI (t + 1)))] [.int (b2i (fitB N (sBe N u.1 u.2.2 t)))]
          refine r_if_ne (pc := 123) (tgt := 128) C dX2_setNextOf_123 (by decide) (fun h123 => ?_) (fun h123 => ?_)
          · have h123 := b_t h123
            refine r_aload_n (pc := 128) C dX2_setNextOf_128 rfl ?_
            refine r_aload_n (pc := 129) C dX2_setNextOf_129 rfl ?_
            refine r_getf (pc := 130) C dX2_setNextOf_130 fl_RX2_20 (Ce.up (Ce.up (Ce.up (Ce.up (Ce.up hp.1 (by decide)) (by omega)) (by omega)) (by decide)) (by omega)) rfl ?_
            refine r_iload (pc := 133) C dX2_setNextOf_133 rfl ?_
            refine r_aald (pc := 135) C dX2_setNextOf_135 (Ce.up (Ce.up (Ce.up (Ce.up (Ce.up hp.2.2.1 (by omega)) (by omega)) (by omega)) (by omega)) (by omega)) rfl rfl rfl (by omega) (by omega) rfl ?_
            refine r_callV (pc := 136) C dX2_setNextOf_136 cv_RX2_55 (c_X6_writeTo (Ce.up (Ce.up (Ce.up (Ce.up (Ce.new hw) (by omega)) (by omega)) (by decide)) (by omega)) (Ce.up (Ce.up (Ce.up (Ce.new (Ce.up hc (by omega))) (by omega)) (by omega)) (by omega)) hN (by omega) (Ce.up (Ce.up (Ce.up (Ce.up (Ce.up (hp.2.2.2 t (by omega)).2 (by omega)) (by omega)) (by omega)) (by omega)) (by omega)) (by omega) (by omega)) ⟨rfl, rfl, by decide, by decide⟩ (Ce.up (Ce.up (Ce.up (Ce.up (Ce.new hw) (by omega)) (by omega)) (by decide)) (by omega)) rfl rfl (Nat.le_of_ble_eq_true rfl) ⟨Nat.zero_le _, Nat.zero_le _⟩ ?_
            rintro _ _ ⟨rfl, rfl⟩
            show G M S E (0, 0) (va_up (va_up (va_up (va_up (va_up (va_up h 266 (.inr (6, [.ref (E.1 (266 + 1)), .int (nI N)]))) (266 + 1) (xJ S 24 (it (fun j f => plW N (sBt N u.1 u.2.2 t j) (nI 1) f) (t + 1) (fun _ => 0)))) (253 + 2 + t) (xI S 24 (wrT N (sAl N u.1 u.2.1 t)))) 268 (.inr (6, [.ref (E.1 (268 + 1)), .int (nI (prv N2 (fun _ => N) (t + 1)))]))) (268 + 1) (xJ S 24 (prv c2 (fun j => sBt N u.1 u.2.2 t j) (t + 1)))) (253 + 8 + t) (xI S 24 (wrT N (sBe N u.1 u.2.2 t)))) 139 [some (.ref (E.1 253)), some (.ref (E.1 d)), some (.int (nI N)), some (.ref (E.1 266)), some (.ref (E.1 268)), some (.int (nI t)), some (.int (nI (t + 1)))] []
            refine r_iinc (pc := 139) (v := nI (t + 1)) C dX2_setNextOf_139 rfl (nI_i1 _) (by decide) ?_
            refine G.eq (pc' := 142) (vs' := [some (.ref (E.1 253)), some (.ref (E.1 d)), some (.int (nI N)), some (.ref (E.1 266)), some (.ref (E.1 268)), some (.int (nI (t + 1))), some (.int (nI (t + 1)))]) (st' := []) ?_
            refine r_goto (pc := 142) (tgt := 11) C dX2_setNextOf_142 (by decide) ?_
            refine G.wk (vs' := [some (.ref (E.1 253)), some (.ref (E.1 d)), some (.int (nI N)), some (.ref (E.1 266)), some (.ref (E.1 268)), some (.int (nI (t + 1))), none]) ⟨rfl, rfl, rfl, rfl, rfl, rfl, trivial⟩ ?_
            exact (ih _ ⟨((((((hp.out (by omega)).out (by omega)).setA (wrT N (sAl N u.1 u.2.1 t)) (by omega)).out (by omega)).out (by omega)).setB (wrT N (sBe N u.1 u.2.2 t)) (by omega)), ((((((hq.out (by omega)).out (by omega)).out (by omega)).out (by omega)).out (by omega)).out (by omega)), (Wd.of (Ce.up (Ce.up (Ce.up (Ce.up (Ce.up (Ce.new hw) (by omega)) (by omega)) (by decide)) (by omega)) (by omega)) (Ce.up (Ce.up (Ce.up (Ce.up (Ce.new (Ce.up hc (by omega))) (by omega)) (by omega)) (by omega)) (by omega))), (Wd.of (Ce.up (Ce.up (Ce.new (Ce.up (Ce.up (Ce.up hv (by decide)) (by omega)) (by omega))) (by omega)) (by omega)) (Ce.up (Ce.new (Ce.up (Ce.up (Ce.up (Ce.up hd (by omega)) (by omega)) (by omega)) (by omega))) (by omega))), ((((((hf.up (by omega) (by omega)).up (by omega) (by omega)).up (by omega) (by omega)).up (by omega) (by omega)).up (by omega) (by omega)).up (by omega) (by omega)), lt_s hh h123⟩)
          · have h123 := b_f h123
            refine r_iconst (pc := 126) (v := nI 0) C dX2_setNextOf_126 (by decide +kernel) ?_
            exact r_iret (pc := 127) C Z dX2_setNextOf_127 rfl (⟨by rw [show sOk N u.1 u.2.2 = false from allB_f ht h123]; rfl, (Wd.of (Ce.up (Ce.up (Ce.up (Ce.up (Ce.new hw) (by omega)) (by omega)) (by decide)) (by omega)) (Ce.up (Ce.up (Ce.up (Ce.new (Ce.up hc (by omega))) (by omega)) (by omega)) (by omega))), (Wd.of (Ce.up (Ce.new (Ce.up (Ce.up (Ce.up hv (by decide)) (by omega)) (by omega))) (by omega)) (Ce.new (Ce.up (Ce.up (Ce.up (Ce.up hd (by omega)) (by omega)) (by omega)) (by omega)))), (((((hf.up (by omega) (by omega)).up (by omega) (by omega)).up (by omega) (by omega)).up (by omega) (by omega)).up (by omega) (by omega)), _, _, (((((hp.out (by omega)).out (by omega)).setA (wrT N (sAl N u.1 u.2.1 t)) (by omega)).out (by omega)).out (by omega)), fun q => absurd (q.symm.trans (allB_f ht h123)) (by decide)⟩)
        · have h65 := c_nlt (by omega) (by omega) h65
          omega
      · show G M S E (0, 0) (va_up (va_up (va_up (va_up (va_up h 266 (.inr (6, [.ref (E.1 (266 + 1)), .int (nI N)]))) (266 + 1) (xJ S 24 (it (fun j f => plW N (sBt N u.1 u.2.2 t j) (nI 1) f) t2 (fun _ => 0)))) (253 + 2 + t) (xI S 24 (wrT N (sAl N u.1 u.2.1 t)))) 268 (.inr (6, [.ref (E.1 (268 + 1)), .int (nI (prv N2 (fun _ => N) t2))]))) (268 + 1) (xJ S 24 (prv c2 (fun j => sBt N u.1 u.2.2 t j) t2))) 61 [some (.ref (E.1 253)), some (.ref (E.1 d)), some (.int (nI N)), some (.ref (E.1 266)), some (.ref (E.1 268)), some (.int (nI t)), some (.int (nI t2))] []
        refine r_iload (pc := 61) C dX2_setNextOf_61 rfl ?_
        refine r_iload (pc := 63) C dX2_setNextOf_63 rfl ?_
        refine r_icmp_gt (pc := 65) (tgt := 119) C dX2_setNextOf_65 (by decide) (fun h65 => ?_) (fun h65 => ?_)
        · have h65 := c_lt (by omega) (by omega) h65
          omega
        · have h65 := c_nlt (by omega) (by omega) h65
          refine r_aload (pc := 68) C dX2_setNextOf_68 rfl ?_
          refine r_iload_n (pc := 70) C dX2_setNextOf_70 rfl ?_
          refine r_callV (pc := 71) C dX2_setNextOf_71 cv_RX2_37 (c_X6_setZero N (Ce.up (Ce.new (Ce.up (Ce.up (Ce.up hv (by decide)) (by omega)) (by omega))) (by omega)) (Ce.new (Ce.up (Ce.up (Ce.up (Ce.up hd (by omega)) (by omega)) (by omega)) (by omega))) (by omega)) ⟨rfl, rfl, by decide, by decide⟩ (Ce.up (Ce.new (Ce.up (Ce.up (Ce.up hv (by decide)) (by omega)) (by omega))) (by omega)) rfl rfl (Nat.le_of_ble_eq_true rfl) ⟨Nat.zero_le _, Nat.zero_le _⟩ ?_
          rintro _ _ ⟨rfl, rfl⟩
          show G M S E (0, 0) (va_up (va_up (va_up (va_up (va_up (va_up (va_up h 266 (.inr (6, [.ref (E.1 (266 + 1)), .int (nI N)]))) (266 + 1) (xJ S 24 (it (fun j f => plW N (sBt N u.1 u.2.2 t j) (nI 1) f) t2 (fun _ => 0)))) (253 + 2 + t) (xI S 24 (wrT N (sAl N u.1 u.2.1 t)))) 268 (.inr (6, [.ref (E.1 (268 + 1)), .int (nI (prv N2 (fun _ => N) t2))]))) (268 + 1) (xJ S 24 (prv c2 (fun j => sBt N u.1 u.2.2 t j) t2))) 268 (.inr (6, [.ref (E.1 (268 + 1)), .int (nI N)]))) (268 + 1) (xJ S 24 (fun _ => 0))) 74 [some (.ref (E.1 253)), some (.ref (E.1 d)), some (.int (nI N)), some (.ref (E.1 266)), some (.ref (E.1 268)), some (.int (nI t)), some (.int (nI t2))] []
          refine G.heap (show (va_up (va_up (va_up (va_up (va_up (va_up (va_up h 266 (.inr (6, [.ref (E.1 (266 + 1)), .int (nI N)]))) (266 + 1) (xJ S 24 (it (fun j f => plW N (sBt N u.1 u.2.2 t j) (nI 1) f) t2 (fun _ => 0)))) (253 + 2 + t) (xI S 24 (wrT N (sAl N u.1 u.2.1 t)))) 268 (.inr (6, [.ref (E.1 (268 + 1)), .int (nI (prv N2 (fun _ => N) t2))]))) (268 + 1) (xJ S 24 (prv c2 (fun j => sBt N u.1 u.2.2 t j) t2))) 268 (.inr (6, [.ref (E.1 (268 + 1)), .int (nI N)]))) (268 + 1) (xJ S 24 (fun _ => 0))) = (va_up (va_up (va_up (va_up (va_up h 266 (.inr (6, [.ref (E.1 (266 + 1)), .int (nI N)]))) (266 + 1) (xJ S 24 (it (fun j f => plW N (sBt N u.1 u.2.2 t j) (nI 1) f) t2 (fun _ => 0)))) (253 + 2 + t) (xI S 24 (wrT N (sAl N u.1 u.2.1 t)))) 268 (.inr (6, [.ref (E.1 (268 + 1)), .int (nI N)]))) (268 + 1) (xJ S 24 (fun _ => 0))) from by funext q; simp only [va_up]; (repeat' split) <;> first | rfl | omega) ?_
          refine r_aload (pc := 74) C dX2_setNextOf_74 rfl ?_
          refine r_aload_n (pc := 76) C dX2_setNextOf_76 rfl ?_
          refine r_getf (pc := 77) C dX2_setNextOf_77 fl_RX2_20 (Ce.up (Ce.up (Ce.up (Ce.up (Ce.up hq.1 (by omega)) (by omega)) (by omega)) (by omega)) (by omega)) rfl ?_
          refine r_iload (pc := 80) C dX2_setNextOf_80 rfl ?_
          refine r_aald (pc := 82) C dX2_setNextOf_82 (Ce.up (Ce.up (Ce.up (Ce.up (Ce.up hq.2.2.1 (by omega)) (by omega)) (by omega)) (by omega)) (by omega)) rfl rfl rfl (by omega) (by omega) rfl ?_
          refine r_aload_n (pc := 83) C dX2_setNextOf_83 rfl ?_
          refine r_getf (pc := 84) C dX2_setNextOf_84 fl_RX2_9 (Ce.up (Ce.up (Ce.up (Ce.up (Ce.up hp.1 (by decide)) (by omega)) (by omega)) (by decide)) (by omega)) rfl ?_
          refine r_iload (pc := 87) C dX2_setNextOf_87 rfl ?_
          refine r_callN (pc := 89) C dX2_setNextOf_89 cn_RX2_69 (c_X7_stepPower u.1 t2) ⟨rfl, rfl, by decide, by decide⟩ rfl rfl (Nat.le_of_ble_eq_true rfl) ⟨Nat.zero_le _, Nat.zero_le _⟩ ?_
          rintro _ _ ⟨_, rfl, rfl, rfl⟩
          show G M S E (0, 0) (va_up (va_up (va_up (va_up (va_up h 266 (.inr (6, [.ref (E.1 (266 + 1)), .int (nI N)]))) (266 + 1) (xJ S 24 (it (fun j f => plW N (sBt N u.1 u.2.2 t j) (nI 1) f) t2 (fun _ => 0)))) (253 + 2 + t) (xI S 24 (wrT N (sAl N u.1 u.2.1 t)))) 268 (.inr (6, [.ref (E.1 (268 + 1)), .int (nI N)]))) (268 + 1) (xJ S 24 (fun _ => 0))) 92 [some (.ref (E.1 253)), some (.ref (E.1 d)), some (.int (nI N)), some (.ref (E.1 266)), some (.ref (E.1 268)), some (.int (nI t)), some (.int (nI t2))] [.int (nI (u.1 * t2 + t2 * t2)), .ref (E.1 (d + 8 + t2)), .ref (E.1 268)]
          have hpw2 : u.1 * t2 + t2 * t2 < 2 ^ 30 := sp_lt hr (by omega)
          refine r_callV (pc := 92) C dX2_setNextOf_92 cv_RX2_73 (c_X6_plusShifted (Ce.up (Ce.new (Ce.up (Ce.up (Ce.up hv (by decide)) (by omega)) (by omega))) (by omega)) (Ce.new (Ce.up (Ce.up (Ce.up (Ce.up hd (by omega)) (by omega)) (by omega)) (by omega))) hN (by omega) (Ce.up (Ce.up (Ce.up (Ce.up (Ce.up (hq.2.2.2 t2 (by omega)).2 (by omega)) (by omega)) (by omega)) (by omega)) (by omega)) (by omega) (u.1 * t2 + t2 * t2) hpw2) ⟨rfl, rfl, by decide, by decide⟩ (Ce.up (Ce.new (Ce.up (Ce.up (Ce.up hv (by decide)) (by omega)) (by omega))) (by omega)) rfl rfl (Nat.le_of_ble_eq_true rfl) ⟨Nat.zero_le _, Nat.zero_le _⟩ ?_
          rintro _ _ ⟨rfl, rfl⟩
          rw [bx_uu]
          show G M S E (0, 0) (va_up (va_up (va_up (va_up (va_up h 266 (.inr (6, [.ref (E.1 (266 + 1)), .int (nI N)]))) (266 + 1) (xJ S 24 (it (fun j f => plW N (sBt N u.1 u.2.2 t j) (nI 1) f) t2 (fun _ => 0)))) (253 + 2 + t) (xI S 24 (wrT N (sAl N u.1 u.2.1 t)))) 268 (.inr (6, [.ref (E.1 (268 + 1)), .int (nI N)]))) (268 + 1) (xJ S 24 (plS N (u.2.2 t2) (u.1 * t2 + t2 * t2) (fun _ => 0)))) 95 [some (.ref (E.1 253)), some (.ref (E.1 d)), some (.int (nI N)), some (.ref (E.1 266)), some (.ref (E.1 268)), some (.int (nI t)), some (.int (nI t2))] []
          refine r_aload (pc := 95) C dX2_setNextOf_95 rfl ?_
          refine r_iconst (pc := 97) (v := nI 1) C dX2_setNextOf_97 (by decide +kernel) ?_
          refine r_iload (pc := 98) C dX2_setNextOf_98 rfl ?_
          refine r_iload (pc := 100) C dX2_setNextOf_100 rfl ?_
          refine r_isub (pc := 102) C dX2_setNextOf_102 ?_
          refine r_ti (nI (t - t2)) (pk_sub (by omega)) ?_
          refine r_callV (pc := 103) C dX2_setNextOf_103 cv_RX2_66 (c_X6_overFactors (Ce.up (Ce.new (Ce.up (Ce.up (Ce.up hv (by decide)) (by omega)) (by omega))) (by omega)) (Ce.new (Ce.up (Ce.up (Ce.up (Ce.up hd (by omega)) (by omega)) (by omega)) (by omega))) hN (by omega) 1 (t - t2) (by decide) (by omega)) ⟨rfl, rfl, by decide, by decide⟩ (Ce.up (Ce.new (Ce.up (Ce.up (Ce.up hv (by decide)) (by omega)) (by omega))) (by omega)) rfl rfl (Nat.le_of_ble_eq_true rfl) ⟨Nat.zero_le _, Nat.zero_le _⟩ ?_
          rintro _ _ ⟨rfl, rfl⟩
          rw [bx_uu]
          show G M S E (0, 0) (va_up (va_up (va_up (va_up (va_up h 266 (.inr (6, [.ref (E.1 (266 + 1)), .int (nI N)]))) (266 + 1) (xJ S 24 (it (fun j f => plW N (sBt N u.1 u.2.2 t j) (nI 1) f) t2 (fun _ => 0)))) (253 + 2 + t) (xI S 24 (wrT N (sAl N u.1 u.2.1 t)))) 268 (.inr (6, [.ref (E.1 (268 + 1)), .int (nI N)]))) (268 + 1) (xJ S 24 (ovFs N 1 (t - t2) (plS N (u.2.2 t2) (u.1 * t2 + t2 * t2) (fun _ => 0))))) 106 [some (.ref (E.1 253)), some (.ref (E.1 d)), some (.int (nI N)), some (.ref (E.1 266)), some (.ref (E.1 268)), some (.int (nI t)), some (.int (nI t2))] []
          refine r_aload_n (pc := 106) C dX2_setNextOf_106 rfl ?_
          refine r_aload (pc := 107) C dX2_setNextOf_107 rfl ?_
          refine r_iconst (pc := 109) (v := nI 1) C dX2_setNextOf_109 (by decide +kernel) ?_
          refine r_callV (pc := 110) C dX2_setNextOf_110 cv_RX2_47 (c_X6_plusWide (Ce.up (Ce.up (Ce.up (Ce.up (Ce.new hw) (by omega)) (by omega)) (by decide)) (by omega)) (Ce.up (Ce.up (Ce.up (Ce.new (Ce.up hc (by omega))) (by omega)) (by omega)) (by omega)) hN (by omega) (Ce.up (Ce.new (Ce.up (Ce.up (Ce.up hv (by decide)) (by omega)) (by omega))) (by omega)) (Ce.new (Ce.up (Ce.up (Ce.up (Ce.up hd (by omega)) (by omega)) (by omega)) (by omega))) (by omega) (by omega) (nI 1)) ⟨rfl, rfl, by decide, by decide⟩ (Ce.up (Ce.up (Ce.up (Ce.up (Ce.new hw) (by omega)) (by omega)) (by decide)) (by omega)) rfl rfl (Nat.le_of_ble_eq_true rfl) ⟨Nat.zero_le _, Nat.zero_le _⟩ ?_
          rintro _ _ ⟨rfl, rfl⟩
          show G M S E (0, 0) (va_up (va_up (va_up (va_up (va_up (va_up h 266 (.inr (6, [.ref (E.1 (266 + 1)), .int (nI N)]))) (266 + 1) (xJ S 24 (it (fun j f => plW N (sBt N u.1 u.2.2 t j) (nI 1) f) t2 (fun _ => 0)))) (253 + 2 + t) (xI S 24 (wrT N (sAl N u.1 u.2.1 t)))) 268 (.inr (6, [.ref (E.1 (268 + 1)), .int (nI N)]))) (268 + 1) (xJ S 24 (ovFs N 1 (t - t2) (plS N (u.2.2 t2) (u.1 * t2 + t2 * t2) (fun _ => 0))))) (266 + 1) (xJ S 24 (plW N (sBt N u.1 u.2.2 t t2) (nI 1) (it (fun j f => plW N (sBt N u.1 u.2.2 t j) (nI 1) f) t2 (fun _ => 0))))) 113 [some (.ref (E.1 253)), some (.ref (E.1 d)), some (.int (nI N)), some (.ref (E.1 266)), some (.ref (E.1 268)), some (.int (nI t)), some (.int (nI t2))] []
          refine G.heap (show (va_up (va_up (va_up (va_up (va_up (va_up h 266 (.inr (6, [.ref (E.1 (266 + 1)), .int (nI N)]))) (266 + 1) (xJ S 24 (it (fun j f => plW N (sBt N u.1 u.2.2 t j) (nI 1) f) t2 (fun _ => 0)))) (253 + 2 + t) (xI S 24 (wrT N (sAl N u.1 u.2.1 t)))) 268 (.inr (6, [.ref (E.1 (268 + 1)), .int (nI N)]))) (268 + 1) (xJ S 24 (ovFs N 1 (t - t2) (plS N (u.2.2 t2) (u.1 * t2 + t2 * t2) (fun _ => 0))))) (266 + 1) (xJ S 24 (plW N (sBt N u.1 u.2.2 t t2) (nI 1) (it (fun j f => plW N (sBt N u.1 u.2.2 t j) (nI 1) f) t2 (fun _ => 0))))) = (va_up (va_up (va_up (va_up (va_up h 266 (.inr (6, [.ref (E.1 (266 + 1)), .int (nI N)]))) (266 + 1) (xJ S 24 (plW N (sBt N u.1 u.2.2 t t2) (nI 1) (it (fun j f => plW N (sBt N u.1 u.2.2 t j) (nI 1) f) t2 (fun _ => 0))))) (253 + 2 + t) (xI S 24 (wrT N (sAl N u.1 u.2.1 t)))) 268 (.inr (6, [.ref (E.1 (268 + 1)), .int (nI N)]))) (268 + 1) (xJ S 24 (ovFs N 1 (t - t2) (plS N (u.2.2 t2) (u.1 * t2 + t2 * t2) (fun _ => 0))))) from by funext q; simp only [va_up]; (repeat' split) <;> first | rfl | omega) ?_
          refine r_iinc (pc := 113) (v := nI (t2 + 1)) C dX2_setNextOf_113 rfl (nI_i1 _) (by decide) ?_
          refine G.eq (pc' := 116) (vs' := [some (.ref (E.1 253)), some (.ref (E.1 d)), some (.int (nI N)), some (.ref (E.1 266)), some (.ref (E.1 268)), some (.int (nI t)), some (.int (nI (t2 + 1)))]) (st' := []) ?_
          refine r_goto (pc := 116) (tgt := 61) C dX2_setNextOf_116 (by decide) ?_
          exact ih
