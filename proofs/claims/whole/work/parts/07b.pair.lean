set_option maxHeartbeats 4000000 in
set_option maxRecDepth 100000 in
theorem c_X7_copyRow {S : ST} {E : ET} {g : Nat → va_E} {ia ib : Nat} {a b : Nat → Int32} (ha : Ce E g ia (xI S 24 a)) (hb : Ce E g ib (xI S 24 b)) : CtV S E yX7_copyRow cX7_copyRow 2 none rmX7_copyRow [.ref (E.1 ia), .ref (E.1 ib)] g (fun g' => g' = va_up g ib (xI S 24 a)) := by
  refine Ct.of RX7 (by decide +kernel) rfl (Nat.le_of_ble_eq_true rfl) (fun M C Z => ?_)
  refine G.eq (pc' := 0) (vs' := [some (.ref (E.1 ia)), some (.ref (E.1 ib))]) (st' := []) ?_
  refine r_aload_n (pc := 0) C dX7_copyRow_0 rfl ?_
  refine r_iconst (pc := 1) (v := nI 0) C dX7_copyRow_1 (by decide +kernel) ?_
  refine r_aload_n (pc := 2) C dX7_copyRow_2 rfl ?_
  refine r_iconst (pc := 3) (v := nI 0) C dX7_copyRow_3 (by decide +kernel) ?_
  refine r_bipush (pc := 4) (v := nI 24) C dX7_copyRow_4 (by decide +kernel) ?_
  refine r_acI (pc := 6) C dX7_copyRow_6 qM_RX7_288 ha hb (by decide) (by decide) (by decide) (by decide) (Nat.le_of_ble_eq_true rfl) (Nat.le_of_ble_eq_true rfl) ?_
  refine G.cI (f' := a) (fun j hj => by rw [pk_cpy_in (by omega) (by omega)]; simp) ?_
  exact r_vret (pc := 9) C Z dX7_copyRow_9 rfl
set_option maxHeartbeats 4000000 in
set_option maxRecDepth 100000 in
theorem c_X7_stepPower {S : ST} {E : ET} {g : Nat → va_E} (r k : Nat) : CtI S E yX7_stepPower cX7_stepPower 2 (Option.some FieldType.int) rmX7_stepPower [.int (nI r), .int (nI k)] g (fun v g' => v = nI (r * k + k * k) ∧ g = g') := by
  refine Ct.of RX7 (by decide +kernel) rfl (Nat.le_of_ble_eq_true rfl) (fun M C Z => ?_)
  refine G.eq (pc' := 0) (vs' := [some (.int (nI r)), some (.int (nI k))]) (st' := []) ?_
  refine r_iload_n (pc := 0) C dX7_stepPower_0 rfl ?_
  refine r_iload_n (pc := 1) C dX7_stepPower_1 rfl ?_
  refine r_imul (pc := 2) C dX7_stepPower_2 ?_
  refine r_ti (nI (r * k)) (pk_mul _ _) ?_
  refine r_iload_n (pc := 3) C dX7_stepPower_3 rfl ?_
  refine r_iload_n (pc := 4) C dX7_stepPower_4 rfl ?_
  refine r_imul (pc := 5) C dX7_stepPower_5 ?_
  refine r_ti (nI (k * k)) (pk_mul _ _) ?_
  refine r_iadd (pc := 6) C dX7_stepPower_6 ?_
  refine r_ti (nI (r * k + (k * k))) (nI_add _ _) ?_
  exact r_iret (pc := 7) C Z dX7_stepPower_7 rfl (⟨rfl, rfl⟩)
theorem it_row {α : Type} (x : Nat → α) (f : Nat → α) : ∀ {T j : Nat}, j < T → it (fun j f => va_up f j (x j)) T f j = x j
  | 0, j, h => absurd h (Nat.not_lt_zero j)
  | T + 1, j, h => by
    show va_up (it (fun j f => va_up f j (x j)) T f) T (x T) j = x j
    by_cases e : j = T
    · subst e; rw [va_up_self]
    · rw [va_up_ne _ _ e, it_row x f (by omega)]
set_option maxHeartbeats 4000000 in
set_option maxRecDepth 100000 in
theorem c_X2_copyFrom {S : ST} {E : ET} {g : Nat → va_E} {b d : Nat} {v u : PV} (hp : PairAt S E g b v) (hq : PairAt S E g d u) (hbd : b + 13 ≤ d ∨ d + 13 ≤ b) : CtV S E yX2_copyFrom cX2_copyFrom 3 none rmX2_copyFrom [.ref (E.1 b), .ref (E.1 d)] g (fun g' => PairAt S E g' b u ∧ Fr g g' b (b + 13)) := by
  refine Ct.of RX2 (by decide +kernel) rfl (Nat.le_of_ble_eq_true rfl) (fun M C Z => ?_)
  refine G.eq (pc' := 0) (vs' := [some (.ref (E.1 b)), some (.ref (E.1 d)), none]) (st' := []) ?_
  refine r_aload_n (pc := 0) C dX2_copyFrom_0 rfl ?_
  refine r_aload_n (pc := 1) C dX2_copyFrom_1 rfl ?_
  refine r_getf (pc := 2) C dX2_copyFrom_2 fl_RX2_9 hq.1 rfl ?_
  refine r_putf (pc := 5) C dX2_copyFrom_5 fp_RX2_9 hp.1 rfl rfl (Nat.le_of_ble_eq_true rfl) ?_
  refine r_iconst (pc := 8) (v := nI 0) C dX2_copyFrom_8 (by decide +kernel) ?_
  refine r_istore_n (pc := 9) C dX2_copyFrom_9 (by decide) ?_
  refine G.eq (pc' := 10) (vs' := [some (.ref (E.1 b)), some (.ref (E.1 d)), some (.int (nI 0))]) (st' := []) ?_
  refine bk (P := fun t => ∀ h : Nat → va_E, (PairAt S E h b (u.1, it (fun j f => va_up f j (u.2.1 j)) t v.2.1, it (fun j f => va_up f j (u.2.2 j)) t v.2.2) ∧ PairAt S E h d u ∧ Fr g h b (b + 13)) → G M S E (0, 0) h 10 [some (.ref (E.1 b)), some (.ref (E.1 d)), some (.int (nI t))] []) (T := 5) (fun h hI => ?_) (fun t ht ih h hI => ?_) _ (⟨hp.setR u.1, hq.out (by omega), Fr.up Fr.rf (by omega) (by omega)⟩)
  · obtain ⟨hp, hq, hf⟩ := hI
    show G M S E (0, 0) h 10 [some (.ref (E.1 b)), some (.ref (E.1 d)), some (.int (nI 5))] []
    refine r_iload_n (pc := 10) C dX2_copyFrom_10 rfl ?_
    refine r_iconst (pc := 11) (v := nI 5) C dX2_copyFrom_11 (by decide +kernel) ?_
    refine r_icmp_ge (pc := 12) (tgt := 51) C dX2_copyFrom_12 (by decide) (fun h12 => ?_) (fun h12 => ?_)
    · have h12 := c_le (by omega) (by omega) h12
      exact r_vret (pc := 51) C Z dX2_copyFrom_51 (⟨hp.cong rfl (fun j hj => it_row _ _ hj) (fun j hj => it_row _ _ hj), hf⟩)
    · have h12 := c_nle (by omega) (by omega) h12
      omega
  · obtain ⟨hp, hq, hf⟩ := hI
    show G M S E (0, 0) h 10 [some (.ref (E.1 b)), some (.ref (E.1 d)), some (.int (nI t))] []
    refine r_iload_n (pc := 10) C dX2_copyFrom_10 rfl ?_
    refine r_iconst (pc := 11) (v := nI 5) C dX2_copyFrom_11 (by decide +kernel) ?_
    refine r_icmp_ge (pc := 12) (tgt := 51) C dX2_copyFrom_12 (by decide) (fun h12 => ?_) (fun h12 => ?_)
    · have h12 := c_le (by omega) (by omega) h12
      omega
    · have h12 := c_nle (by omega) (by omega) h12
      refine r_aload_n (pc := 15) C dX2_copyFrom_15 rfl ?_
      refine r_getf (pc := 16) C dX2_copyFrom_16 fl_RX2_17 hq.1 rfl ?_
      refine r_iload_n (pc := 19) C dX2_copyFrom_19 rfl ?_
      refine r_aald (pc := 20) C dX2_copyFrom_20 hq.2.1 rfl rfl rfl (by omega) (by omega) rfl ?_
      refine r_aload_n (pc := 21) C dX2_copyFrom_21 rfl ?_
      refine r_getf (pc := 22) C dX2_copyFrom_22 fl_RX2_17 hp.1 rfl ?_
      refine r_iload_n (pc := 25) C dX2_copyFrom_25 rfl ?_
      refine r_aald (pc := 26) C dX2_copyFrom_26 hp.2.1 rfl rfl rfl (by omega) (by omega) rfl ?_
      refine r_callN (pc := 27) C dX2_copyFrom_27 cn_RX2_23 (c_X7_copyRow (hq.2.2.2 t (by omega)).1 (hp.2.2.2 t (by omega)).1) ⟨rfl, rfl, by decide, by decide⟩ rfl rfl (Nat.le_of_ble_eq_true rfl) ⟨Nat.zero_le _, Nat.zero_le _⟩ ?_
      rintro _ _ ⟨rfl, rfl⟩
      show G M S E (0, 0) (va_up h (b + 2 + t) (xI S 24 (u.2.1 t))) 30 [some (.ref (E.1 b)), some (.ref (E.1 d)), some (.int (nI t))] []
      refine r_aload_n (pc := 30) C dX2_copyFrom_30 rfl ?_
      refine r_getf (pc := 31) C dX2_copyFrom_31 fl_RX2_20 (Ce.up hq.1 (by omega)) rfl ?_
      refine r_iload_n (pc := 34) C dX2_copyFrom_34 rfl ?_
      refine r_aald (pc := 35) C dX2_copyFrom_35 (Ce.up hq.2.2.1 (by omega)) rfl rfl rfl (by omega) (by omega) rfl ?_
      refine r_aload_n (pc := 36) C dX2_copyFrom_36 rfl ?_
      refine r_getf (pc := 37) C dX2_copyFrom_37 fl_RX2_20 (Ce.up hp.1 (by omega)) rfl ?_
      refine r_iload_n (pc := 40) C dX2_copyFrom_40 rfl ?_
      refine r_aald (pc := 41) C dX2_copyFrom_41 (Ce.up hp.2.2.1 (by omega)) rfl rfl rfl (by omega) (by omega) rfl ?_
      refine r_callN (pc := 42) C dX2_copyFrom_42 cn_RX2_23 (c_X7_copyRow (Ce.up (hq.2.2.2 t (by omega)).2 (by omega)) (Ce.up (hp.2.2.2 t (by omega)).2 (by omega))) ⟨rfl, rfl, by decide, by decide⟩ rfl rfl (Nat.le_of_ble_eq_true rfl) ⟨Nat.zero_le _, Nat.zero_le _⟩ ?_
      rintro _ _ ⟨rfl, rfl⟩
      show G M S E (0, 0) (va_up (va_up h (b + 2 + t) (xI S 24 (u.2.1 t))) (b + 8 + t) (xI S 24 (u.2.2 t))) 45 [some (.ref (E.1 b)), some (.ref (E.1 d)), some (.int (nI t))] []
      refine r_iinc (pc := 45) (v := nI (t + 1)) C dX2_copyFrom_45 rfl (nI_i1 _) (by decide) ?_
      refine G.eq (pc' := 48) (vs' := [some (.ref (E.1 b)), some (.ref (E.1 d)), some (.int (nI (t + 1)))]) (st' := []) ?_
      refine r_goto (pc := 48) (tgt := 10) C dX2_copyFrom_48 (by decide) ?_
      exact (ih _ ⟨(hp.setA (u.2.1 t) (by omega)).setB (u.2.2 t) (by omega), (hq.out (by omega)).out (by omega), (hf.up (by omega) (by omega)).up (by omega) (by omega)⟩)
/-- alpha(j) over (q)(n - j) and (a q)(n + j) -/
def rtm (N r n j : Nat) (a : Nat → Int32) : Nat → Int64 := ovFs N (r + 1) (n + j) (ovFs N 1 (n - j) (plR N a (nI 1) (fun _ => 0)))
set_option maxHeartbeats 4000000 in
set_option maxRecDepth 100000 in
theorem c_X2_setRelationTerm {S : ST} {E : ET} {g : Nat → va_E} {b i N1 : Nat} {v : PV} {c : Nat → Int64} (hp : PairAt S E g b v) (hw : Ce E g i (.inr (6, [.ref (E.1 (i + 1)), .int (nI N1)]))) (hc : Ce E g (i + 1) (xJ S 24 c)) (hb : i + 2 ≤ b ∨ b + 13 ≤ i) (hr : v.1 ≤ 1) (N n j : Nat) (hN : N ≤ 24) (hn : n < 5) (hj : j ≤ n) : CtV S E yX2_setRelationTerm cX2_setRelationTerm 5 none rmX2_setRelationTerm [.ref (E.1 b), .ref (E.1 i), .int (nI n), .int (nI j), .int (nI N)] g (fun g' => g' = va_up (va_up g i (.inr (6, [.ref (E.1 (i + 1)), .int (nI N)]))) (i + 1) (xJ S 24 (rtm N v.1 n j (v.2.1 j)))) := by
  refine Ct.of RX2 (by decide +kernel) rfl (Nat.le_of_ble_eq_true rfl) (fun M C Z => ?_)
  refine G.eq (pc' := 0) (vs' := [some (.ref (E.1 b)), some (.ref (E.1 i)), some (.int (nI n)), some (.int (nI j)), some (.int (nI N))]) (st' := []) ?_
  refine r_aload_n (pc := 0) C dX2_setRelationTerm_0 rfl ?_
  refine r_iload (pc := 1) C dX2_setRelationTerm_1 rfl ?_
  refine r_callV (pc := 3) C dX2_setRelationTerm_3 cv_RX2_37 (c_X6_setZero N hw hc (by omega)) ⟨rfl, rfl, by decide, by decide⟩ hw rfl rfl (Nat.le_of_ble_eq_true rfl) ⟨Nat.zero_le _, Nat.zero_le _⟩ ?_
  rintro _ _ ⟨rfl, rfl⟩
  show G M S E (0, 0) (va_up (va_up g i (.inr (6, [.ref (E.1 (i + 1)), .int (nI N)]))) (i + 1) (xJ S 24 (fun _ => 0))) 6 [some (.ref (E.1 b)), some (.ref (E.1 i)), some (.int (nI n)), some (.int (nI j)), some (.int (nI N))] []
  refine r_aload_n (pc := 6) C dX2_setRelationTerm_6 rfl ?_
  refine r_aload_n (pc := 7) C dX2_setRelationTerm_7 rfl ?_
  refine r_getf (pc := 8) C dX2_setRelationTerm_8 fl_RX2_17 (Ce.up (Ce.up hp.1 (by omega)) (by omega)) rfl ?_
  refine r_iload_n (pc := 11) C dX2_setRelationTerm_11 rfl ?_
  refine r_aald (pc := 12) C dX2_setRelationTerm_12 (Ce.up (Ce.up hp.2.1 (by omega)) (by omega)) rfl rfl rfl (by omega) (by omega) rfl ?_
  refine r_iconst (pc := 13) (v := nI 1) C dX2_setRelationTerm_13 (by decide +kernel) ?_
  refine r_callV (pc := 14) C dX2_setRelationTerm_14 cv_RX2_59 (c_X6_plusRow (Ce.up (Ce.new hw) (by omega)) (Ce.new (Ce.up hc (by omega))) hN (by omega) (Ce.up (Ce.up (hp.2.2.2 j (by omega)).1 (by omega)) (by omega)) (by omega) (nI 1)) ⟨rfl, rfl, by decide, by decide⟩ (Ce.up (Ce.new hw) (by omega)) rfl rfl (Nat.le_of_ble_eq_true rfl) ⟨Nat.zero_le _, Nat.zero_le _⟩ ?_
  rintro _ _ ⟨rfl, rfl⟩
  rw [bx_uu]
  show G M S E (0, 0) (va_up (va_up g i (.inr (6, [.ref (E.1 (i + 1)), .int (nI N)]))) (i + 1) (xJ S 24 (plR N (v.2.1 j) (nI 1) (fun _ => 0)))) 17 [some (.ref (E.1 b)), some (.ref (E.1 i)), some (.int (nI n)), some (.int (nI j)), some (.int (nI N))] []
  refine r_aload_n (pc := 17) C dX2_setRelationTerm_17 rfl ?_
  refine r_iconst (pc := 18) (v := nI 1) C dX2_setRelationTerm_18 (by decide +kernel) ?_
  refine r_iload_n (pc := 19) C dX2_setRelationTerm_19 rfl ?_
  refine r_iload_n (pc := 20) C dX2_setRelationTerm_20 rfl ?_
  refine r_isub (pc := 21) C dX2_setRelationTerm_21 ?_
  refine r_ti (nI (n - j)) (pk_sub (by omega)) ?_
  refine r_callV (pc := 22) C dX2_setRelationTerm_22 cv_RX2_66 (c_X6_overFactors (Ce.up (Ce.new hw) (by omega)) (Ce.new (Ce.up hc (by omega))) hN (by omega) 1 (n - j) (by decide) (by omega)) ⟨rfl, rfl, by decide, by decide⟩ (Ce.up (Ce.new hw) (by omega)) rfl rfl (Nat.le_of_ble_eq_true rfl) ⟨Nat.zero_le _, Nat.zero_le _⟩ ?_
  rintro _ _ ⟨rfl, rfl⟩
  rw [bx_uu]
  show G M S E (0, 0) (va_up (va_up g i (.inr (6, [.ref (E.1 (i + 1)), .int (nI N)]))) (i + 1) (xJ S 24 (ovFs N 1 (n - j) (plR N (v.2.1 j) (nI 1) (fun _ => 0))))) 25 [some (.ref (E.1 b)), some (.ref (E.1 i)), some (.int (nI n)), some (.int (nI j)), some (.int (nI N))] []
  refine r_aload_n (pc := 25) C dX2_setRelationTerm_25 rfl ?_
  refine r_aload_n (pc := 26) C dX2_setRelationTerm_26 rfl ?_
  refine r_getf (pc := 27) C dX2_setRelationTerm_27 fl_RX2_9 (Ce.up (Ce.up hp.1 (by omega)) (by omega)) rfl ?_
  refine r_iconst (pc := 30) (v := nI 1) C dX2_setRelationTerm_30 (by decide +kernel) ?_
  refine r_iadd (pc := 31) C dX2_setRelationTerm_31 ?_
  refine r_ti (nI (v.1 + 1)) (nI_add _ _) ?_
  refine r_iload_n (pc := 32) C dX2_setRelationTerm_32 rfl ?_
  refine r_iload_n (pc := 33) C dX2_setRelationTerm_33 rfl ?_
  refine r_iadd (pc := 34) C dX2_setRelationTerm_34 ?_
  refine r_ti (nI (n + j)) (nI_add _ _) ?_
  refine r_callV (pc := 35) C dX2_setRelationTerm_35 cv_RX2_66 (c_X6_overFactors (Ce.up (Ce.new hw) (by omega)) (Ce.new (Ce.up hc (by omega))) hN (by omega) (v.1 + 1) (n + j) (by omega) (by omega)) ⟨rfl, rfl, by decide, by decide⟩ (Ce.up (Ce.new hw) (by omega)) rfl rfl (Nat.le_of_ble_eq_true rfl) ⟨Nat.zero_le _, Nat.zero_le _⟩ ?_
  rintro _ _ ⟨rfl, rfl⟩
  rw [bx_uu]
  show G M S E (0, 0) (va_up (va_up g i (.inr (6, [.ref (E.1 (i + 1)), .int (nI N)]))) (i + 1) (xJ S 24 (ovFs N (v.1 + 1) (n + j) (ovFs N 1 (n - j) (plR N (v.2.1 j) (nI 1) (fun _ => 0)))))) 38 [some (.ref (E.1 b)), some (.ref (E.1 i)), some (.int (nI n)), some (.int (nI j)), some (.int (nI N))] []
  exact r_vret (pc := 38) C Z dX2_setRelationTerm_38 rfl
/-- the defining relation's right side -/
def bSm (N r : Nat) (al : Nat → Nat → Int32) (n : Nat) : Nat → Int64 := it (fun j f => plW N (rtm N r n j (al j)) (nI 1) f) (n + 1) (fun _ => 0)
def bOk (N r : Nat) (al : Nat → Nat → Int32) : Bool := allB (fun n => fitB N (bSm N r al n)) 5
set_option maxHeartbeats 4000000 in
set_option maxRecDepth 100000 in
theorem c_X2_deriveBeta {S : ST} {E : ET} {g : Nat → va_E} {v : PV} (hp : PairAt S E g 253 v) (hW1 : Wd S E g 266) (hW2 : Wd S E g 268) (hr : v.1 ≤ 1) (N : Nat) (hN : N ≤ 24) : CtI S E yX2_deriveBeta cX2_deriveBeta 6 (Option.some FieldType.boolean) rmX2_deriveBeta [.ref (E.1 253), .int (nI N), .ref (E.1 266), .ref (E.1 268)] g (fun x g' => x = b2i (bOk N v.1 v.2.1) ∧ Wd S E g' 266 ∧ Wd S E g' 268 ∧ Fr g g' 253 270 ∧ ∃ be, PairAt S E g' 253 (v.1, v.2.1, be) ∧ (bOk N v.1 v.2.1 = true → ∀ j, j < 5 → be j = wrT N (bSm N v.1 v.2.1 j))) := by
  refine Ct.of RX2 (by decide +kernel) rfl (Nat.le_of_ble_eq_true rfl) (fun M C Z => ?_)
  refine G.eq (pc' := 0) (vs' := [some (.ref (E.1 253)), some (.int (nI N)), some (.ref (E.1 266)), some (.ref (E.1 268)), none, none]) (st' := []) ?_
  refine r_iconst (pc := 0) (v := nI 0) C dX2_deriveBeta_0 (by decide +kernel) ?_
  refine r_istore (pc := 1) C dX2_deriveBeta_1 (by decide) ?_
  refine G.eq (pc' := 3) (vs' := [some (.ref (E.1 253)), some (.int (nI N)), some (.ref (E.1 266)), some (.ref (E.1 268)), some (.int (nI 0)), none]) (st' := []) ?_
  refine bk (P := fun t => ∀ h : Nat → va_E, (PairAt S E h 253 (v.1, v.2.1, it (fun j f => va_up f j (wrT N (bSm N v.1 v.2.1 j))) t v.2.2) ∧ Wd S E h 266 ∧ Wd S E h 268 ∧ Fr g h 253 270 ∧ ∀ j : Nat, j < t → fitB N (bSm N v.1 v.2.1 j) = true) → G M S E (0, 0) h 3 [some (.ref (E.1 253)), some (.int (nI N)), some (.ref (E.1 266)), some (.ref (E.1 268)), some (.int (nI t)), none] []) (T := 5) (fun h hI => ?_) (fun t ht ih h hI => ?_) _ (⟨hp, hW1, hW2, Fr.rf, fun j hj => absurd hj (Nat.not_lt_zero j)⟩)
  · obtain ⟨hp, ⟨N1, c1, hw, hc⟩, ⟨N2, c2, hv, hd⟩, hf, hh⟩ := hI
    show G M S E (0, 0) h 3 [some (.ref (E.1 253)), some (.int (nI N)), some (.ref (E.1 266)), some (.ref (E.1 268)), some (.int (nI 5)), none] []
    refine r_iload (pc := 3) C dX2_deriveBeta_3 rfl ?_
    refine r_iconst (pc := 5) (v := nI 5) C dX2_deriveBeta_5 (by decide +kernel) ?_
    refine r_icmp_ge (pc := 6) (tgt := 72) C dX2_deriveBeta_6 (by decide) (fun h6 => ?_) (fun h6 => ?_)
    · have h6 := c_le (by omega) (by omega) h6
      refine r_iconst (pc := 72) (v := nI 1) C dX2_deriveBeta_72 (by decide +kernel) ?_
      exact r_iret (pc := 73) C Z dX2_deriveBeta_73 rfl (⟨by rw [show bOk N v.1 v.2.1 = true from allB_t hh]; rfl, ⟨N1, c1, hw, hc⟩, ⟨N2, c2, hv, hd⟩, hf, _, hp, fun _ j hj => it_row _ _ hj⟩)
    · have h6 := c_nle (by omega) (by omega) h6
      omega
  · obtain ⟨hp, ⟨N1, c1, hw, hc⟩, ⟨N2, c2, hv, hd⟩, hf, hh⟩ := hI
    show G M S E (0, 0) h 3 [some (.ref (E.1 253)), some (.int (nI N)), some (.ref (E.1 266)), some (.ref (E.1 268)), some (.int (nI t)), none] []
    refine r_iload (pc := 3) C dX2_deriveBeta_3 rfl ?_
    refine r_iconst (pc := 5) (v := nI 5) C dX2_deriveBeta_5 (by decide +kernel) ?_
    refine r_icmp_ge (pc := 6) (tgt := 72) C dX2_deriveBeta_6 (by decide) (fun h6 => ?_) (fun h6 => ?_)
    · have h6 := c_le (by omega) (by omega) h6
      omega
    · have h6 := c_nle (by omega) (by omega) h6
      refine r_aload_n (pc := 9) C dX2_deriveBeta_9 rfl ?_
      refine r_iload_n (pc := 10) C dX2_deriveBeta_10 rfl ?_
      refine r_callV (pc := 11) C dX2_deriveBeta_11 cv_RX2_37 (c_X6_setZero N hw hc (by omega)) ⟨rfl, rfl, by decide, by decide⟩ hw rfl rfl (Nat.le_of_ble_eq_true rfl) ⟨Nat.zero_le _, Nat.zero_le _⟩ ?_
      rintro _ _ ⟨rfl, rfl⟩
      show G M S E (0, 0) (va_up (va_up h 266 (.inr (6, [.ref (E.1 (266 + 1)), .int (nI N)]))) (266 + 1) (xJ S 24 (fun _ => 0))) 14 [some (.ref (E.1 253)), some (.int (nI N)), some (.ref (E.1 266)), some (.ref (E.1 268)), some (.int (nI t)), none] []
      refine r_iconst (pc := 14) (v := nI 0) C dX2_deriveBeta_14 (by decide +kernel) ?_
      refine r_istore (pc := 15) C dX2_deriveBeta_15 (by decide) ?_
      refine G.eq (pc' := 17) (vs' := [some (.ref (E.1 253)), some (.int (nI N)), some (.ref (E.1 266)), some (.ref (E.1 268)), some (.int (nI t)), some (.int (nI 0))]) (st' := []) ?_
      refine G.heap (Ce.id (Ce.up (Ce.up hv (by decide)) (by omega))) ?_
      refine G.heap (Ce.id (Ce.up (Ce.up (Ce.up hd (by omega)) (by omega)) (by omega))) ?_
      refine bk (P := fun t2 => G M S E (0, 0) (va_up (va_up (va_up (va_up h 266 (.inr (6, [.ref (E.1 (266 + 1)), .int (nI N)]))) (266 + 1) (xJ S 24 (it (fun j f => plW N (rtm N v.1 t j (v.2.1 j)) (nI 1) f) t2 (fun _ => 0)))) 268 (.inr (6, [.ref (E.1 (268 + 1)), .int (nI (prv N2 (fun _ => N) t2))]))) (268 + 1) (xJ S 24 (prv c2 (fun j => rtm N v.1 t j (v.2.1 j)) t2))) 17 [some (.ref (E.1 253)), some (.int (nI N)), some (.ref (E.1 266)), some (.ref (E.1 268)), some (.int (nI t)), some (.int (nI t2))] []) (T := t + 1) ?_ (fun t2 ht ih => ?_)
      · show G M S E (0, 0) (va_up (va_up (va_up (va_up h 266 (.inr (6, [.ref (E.1 (266 + 1)), .int (nI N)]))) (266 + 1) (xJ S 24 (it (fun j f => plW N (rtm N v.1 t j (v.2.1 j)) (nI 1) f) (t + 1) (fun _ => 0)))) 268 (.inr (6, [.ref (E.1 (268 + 1)), .int (nI (prv N2 (fun _ => N) (t + 1)))]))) (268 + 1) (xJ S 24 (prv c2 (fun j => rtm N v.1 t j (v.2.1 j)) (t + 1)))) 17 [some (.ref (E.1 253)), some (.int (nI N)), some (.ref (E.1 266)), some (.ref (E.1 268)), some (.int (nI t)), some (.int (nI (t + 1)))] []
        refine r_iload (pc := 17) C dX2_deriveBeta_17 rfl ?_
        refine r_iload (pc := 19) C dX2_deriveBeta_19 rfl ?_
        refine r_icmp_gt (pc := 21) (tgt := 46) C dX2_deriveBeta_21 (by decide) (fun h21 => ?_) (fun h21 => ?_)
        · have h21 := c_lt (by omega) (by omega) h21
          refine r_aload_n (pc := 46) C dX2_deriveBeta_46 rfl ?_
          refine r_callV (pc := 47) C dX2_deriveBeta_47 cv_RX2_51 (c_X6_fits (Ce.up (Ce.up (Ce.up (Ce.new hw) (by omega)) (by decide)) (by omega)) (Ce.up (Ce.up (Ce.new (Ce.up hc (by omega))) (by omega)) (by omega)) hN (by omega)) ⟨rfl, rfl, by decide, by decide⟩ (Ce.up (Ce.up (Ce.up (Ce.new hw) (by omega)) (by decide)) (by omega)) rfl rfl (Nat.le_of_ble_eq_true rfl) ⟨Nat.zero_le _, Nat.zero_le _⟩ ?_
          rintro _ _ ⟨r, rfl, rfl, rfl⟩
          show G M S E (0, 0) (va_up (va_up (va_up (va_up h 266 (.inr (6, [.ref (E.1 (266 + 1)), .int (nI N)]))) (266 + 1) (xJ S 24 (it (fun j f => plW N (rtm N v.1 t j (v.2.1 j)) (nI 1) f) (t + 1) (fun _ => 0)))) 268 (.inr (6, [.ref (E.1 (268 + 1)), .int (nI (prv N2 (fun _ => N) (t + 1)))]))) (268 + 1) (xJ S 24 (prv c2 (fun j => rtm N v.1 t j (v.2.1 j)) (t + 1)))) 50 [some (.ref (E.1 253)), some (.int (nI N)), some (.ref (E.1 266)), some (.ref (E.1 268)), some (.int (nI t)), some (.int (nI (t + 1)))] [.int (b2i (fitB N (bSm N v.1 v.2.1 t)))]
          refine r_if_ne (pc := 50) (tgt := 55) C dX2_deriveBeta_50 (by decide) (fun h50 => ?_) (fun h50 => ?_)
          · have h50 := b_t h50
            refine r_aload_n (pc := 55) C dX2_deriveBeta_55 rfl ?_
            refine r_aload_n (pc := 56) C dX2_deriveBeta_56 rfl ?_
            refine r_getf (pc := 57) C dX2_deriveBeta_57 fl_RX2_20 (Ce.up (Ce.up (Ce.up (Ce.up hp.1 (by decide)) (by omega)) (by decide)) (by omega)) rfl ?_
            refine r_iload (pc := 60) C dX2_deriveBeta_60 rfl ?_
            refine r_aald (pc := 62) C dX2_deriveBeta_62 (Ce.up (Ce.up (Ce.up (Ce.up hp.2.2.1 (by omega)) (by omega)) (by omega)) (by omega)) rfl rfl rfl (by omega) (by omega) rfl ?_
            refine r_callV (pc := 63) C dX2_deriveBeta_63 cv_RX2_55 (c_X6_writeTo (Ce.up (Ce.up (Ce.up (Ce.new hw) (by omega)) (by decide)) (by omega)) (Ce.up (Ce.up (Ce.new (Ce.up hc (by omega))) (by omega)) (by omega)) hN (by omega) (Ce.up (Ce.up (Ce.up (Ce.up (hp.2.2.2 t (by omega)).2 (by omega)) (by omega)) (by omega)) (by omega)) (by omega) (by omega)) ⟨rfl, rfl, by decide, by decide⟩ (Ce.up (Ce.up (Ce.up (Ce.new hw) (by omega)) (by decide)) (by omega)) rfl rfl (Nat.le_of_ble_eq_true rfl) ⟨Nat.zero_le _, Nat.zero_le _⟩ ?_
            rintro _ _ ⟨rfl, rfl⟩
            show G M S E (0, 0) (va_up (va_up (va_up (va_up (va_up h 266 (.inr (6, [.ref (E.1 (266 + 1)), .int (nI N)]))) (266 + 1) (xJ S 24 (it (fun j f => plW N (rtm N v.1 t j (v.2.1 j)) (nI 1) f) (t + 1) (fun _ => 0)))) 268 (.inr (6, [.ref (E.1 (268 + 1)), .int (nI (prv N2 (fun _ => N) (t + 1)))]))) (268 + 1) (xJ S 24 (prv c2 (fun j => rtm N v.1 t j (v.2.1 j)) (t + 1)))) (253 + 8 + t) (xI S 24 (wrT N (bSm N v.1 v.2.1 t)))) 66 [some (.ref (E.1 253)), some (.int (nI N)), some (.ref (E.1 266)), some (.ref (E.1 268)), some (.int (nI t)), some (.int (nI (t + 1)))] []
            refine r_iinc (pc := 66) (v := nI (t + 1)) C dX2_deriveBeta_66 rfl (nI_i1 _) (by decide) ?_
            refine G.eq (pc' := 69) (vs' := [some (.ref (E.1 253)), some (.int (nI N)), some (.ref (E.1 266)), some (.ref (E.1 268)), some (.int (nI (t + 1))), some (.int (nI (t + 1)))]) (st' := []) ?_
            refine r_goto (pc := 69) (tgt := 3) C dX2_deriveBeta_69 (by decide) ?_
            refine G.wk (vs' := [some (.ref (E.1 253)), some (.int (nI N)), some (.ref (E.1 266)), some (.ref (E.1 268)), some (.int (nI (t + 1))), none]) ⟨rfl, rfl, rfl, rfl, rfl, trivial⟩ ?_
            exact (ih _ ⟨(((((hp.out (by omega)).out (by omega)).out (by omega)).out (by omega)).setB (wrT N (bSm N v.1 v.2.1 t)) (by omega)), (Wd.of (Ce.up (Ce.up (Ce.up (Ce.up (Ce.new hw) (by omega)) (by decide)) (by omega)) (by omega)) (Ce.up (Ce.up (Ce.up (Ce.new (Ce.up hc (by omega))) (by omega)) (by omega)) (by omega))), (Wd.of (Ce.up (Ce.up (Ce.new (Ce.up (Ce.up hv (by decide)) (by omega))) (by omega)) (by omega)) (Ce.up (Ce.new (Ce.up (Ce.up (Ce.up hd (by omega)) (by omega)) (by omega))) (by omega))), (((((hf.up (by omega) (by omega)).up (by omega) (by omega)).up (by omega) (by omega)).up (by omega) (by omega)).up (by omega) (by omega)), lt_s hh h50⟩)
          · have h50 := b_f h50
            refine r_iconst (pc := 53) (v := nI 0) C dX2_deriveBeta_53 (by decide +kernel) ?_
            exact r_iret (pc := 54) C Z dX2_deriveBeta_54 rfl (⟨by rw [show bOk N v.1 v.2.1 = false from allB_f ht h50]; rfl, (Wd.of (Ce.up (Ce.up (Ce.up (Ce.new hw) (by omega)) (by decide)) (by omega)) (Ce.up (Ce.up (Ce.new (Ce.up hc (by omega))) (by omega)) (by omega))), (Wd.of (Ce.up (Ce.new (Ce.up (Ce.up hv (by decide)) (by omega))) (by omega)) (Ce.new (Ce.up (Ce.up (Ce.up hd (by omega)) (by omega)) (by omega)))), ((((hf.up (by omega) (by omega)).up (by omega) (by omega)).up (by omega) (by omega)).up (by omega) (by omega)), _, ((((hp.out (by omega)).out (by omega)).out (by omega)).out (by omega)), fun q => absurd (q.symm.trans (allB_f ht h50)) (by decide)⟩)
        · have h21 := c_nlt (by omega) (by omega) h21
          omega
      · show G M S E (0, 0) (va_up (va_up (va_up (va_up h 266 (.inr (6, [.ref (E.1 (266 + 1)), .int (nI N)]))) (266 + 1) (xJ S 24 (it (fun j f => plW N (rtm N v.1 t j (v.2.1 j)) (nI 1) f) t2 (fun _ => 0)))) 268 (.inr (6, [.ref (E.1 (268 + 1)), .int (nI (prv N2 (fun _ => N) t2))]))) (268 + 1) (xJ S 24 (prv c2 (fun j => rtm N v.1 t j (v.2.1 j)) t2))) 17 [some (.ref (E.1 253)), some (.int (nI N)), some (.ref (E.1 266)), some (.ref (E.1 268)), some (.int (nI t)), some (.int (nI t2))] []
        refine r_iload (pc := 17) C dX2_deriveBeta_17 rfl ?_
        refine r_iload (pc := 19) C dX2_deriveBeta_19 rfl ?_
        refine r_icmp_gt (pc := 21) (tgt := 46) C dX2_deriveBeta_21 (by decide) (fun h21 => ?_) (fun h21 => ?_)
        · have h21 := c_lt (by omega) (by omega) h21
          omega
        · have h21 := c_nlt (by omega) (by omega) h21
          refine r_aload_n (pc := 24) C dX2_deriveBeta_24 rfl ?_
          refine r_aload_n (pc := 25) C dX2_deriveBeta_25 rfl ?_
          refine r_iload (pc := 26) C dX2_deriveBeta_26 rfl ?_
          refine r_iload (pc := 28) C dX2_deriveBeta_28 rfl ?_
          refine r_iload_n (pc := 30) C dX2_deriveBeta_30 rfl ?_
          refine r_callV (pc := 31) C dX2_deriveBeta_31 cv_RX2_43 (c_X2_setRelationTerm (b := 253) (i := 268) (v := (v.1, v.2.1, it (fun j f => va_up f j (wrT N (bSm N v.1 v.2.1 j))) t v.2.2)) ((((hp.out (by omega)).out (by omega)).out (by omega)).out (by omega)) (Ce.up (Ce.new (Ce.up (Ce.up hv (by decide)) (by omega))) (by omega)) (Ce.new (Ce.up (Ce.up (Ce.up hd (by omega)) (by omega)) (by omega))) (by omega) hr N t t2 hN (by omega) (by omega)) ⟨rfl, rfl, by decide, by decide⟩ (Ce.up (Ce.up (Ce.up (Ce.up hp.1 (by decide)) (by omega)) (by decide)) (by omega)) rfl rfl (Nat.le_of_ble_eq_true rfl) ⟨Nat.zero_le _, Nat.zero_le _⟩ ?_
          rintro _ _ ⟨rfl, rfl⟩
          show G M S E (0, 0) (va_up (va_up (va_up (va_up (va_up (va_up h 266 (.inr (6, [.ref (E.1 (266 + 1)), .int (nI N)]))) (266 + 1) (xJ S 24 (it (fun j f => plW N (rtm N v.1 t j (v.2.1 j)) (nI 1) f) t2 (fun _ => 0)))) 268 (.inr (6, [.ref (E.1 (268 + 1)), .int (nI (prv N2 (fun _ => N) t2))]))) (268 + 1) (xJ S 24 (prv c2 (fun j => rtm N v.1 t j (v.2.1 j)) t2))) 268 (.inr (6, [.ref (E.1 (268 + 1)), .int (nI N)]))) (268 + 1) (xJ S 24 (rtm N v.1 t t2 (v.2.1 t2)))) 34 [some (.ref (E.1 253)), some (.int (nI N)), some (.ref (E.1 266)), some (.ref (E.1 268)), some (.int (nI t)), some (.int (nI t2))] []
          refine G.heap (show (va_up (va_up (va_up (va_up (va_up (va_up h 266 (.inr (6, [.ref (E.1 (266 + 1)), .int (nI N)]))) (266 + 1) (xJ S 24 (it (fun j f => plW N (rtm N v.1 t j (v.2.1 j)) (nI 1) f) t2 (fun _ => 0)))) 268 (.inr (6, [.ref (E.1 (268 + 1)), .int (nI (prv N2 (fun _ => N) t2))]))) (268 + 1) (xJ S 24 (prv c2 (fun j => rtm N v.1 t j (v.2.1 j)) t2))) 268 (.inr (6, [.ref (E.1 (268 + 1)), .int (nI N)]))) (268 + 1) (xJ S 24 (rtm N v.1 t t2 (v.2.1 t2)))) = (va_up (va_up (va_up (va_up h 266 (.inr (6, [.ref (E.1 (266 + 1)), .int (nI N)]))) (266 + 1) (xJ S 24 (it (fun j f => plW N (rtm N v.1 t j (v.2.1 j)) (nI 1) f) t2 (fun _ => 0)))) 268 (.inr (6, [.ref (E.1 (268 + 1)), .int (nI N)]))) (268 + 1) (xJ S 24 (rtm N v.1 t t2 (v.2.1 t2)))) from by funext q; simp only [va_up]; (repeat' split) <;> first | rfl | omega) ?_
          refine r_aload_n (pc := 34) C dX2_deriveBeta_34 rfl ?_
          refine r_aload_n (pc := 35) C dX2_deriveBeta_35 rfl ?_
          refine r_iconst (pc := 36) (v := nI 1) C dX2_deriveBeta_36 (by decide +kernel) ?_
          refine r_callV (pc := 37) C dX2_deriveBeta_37 cv_RX2_47 (c_X6_plusWide (Ce.up (Ce.up (Ce.up (Ce.new hw) (by omega)) (by decide)) (by omega)) (Ce.up (Ce.up (Ce.new (Ce.up hc (by omega))) (by omega)) (by omega)) hN (by omega) (Ce.up (Ce.new (Ce.up (Ce.up hv (by decide)) (by omega))) (by omega)) (Ce.new (Ce.up (Ce.up (Ce.up hd (by omega)) (by omega)) (by omega))) (by omega) (by omega) (nI 1)) ⟨rfl, rfl, by decide, by decide⟩ (Ce.up (Ce.up (Ce.up (Ce.new hw) (by omega)) (by decide)) (by omega)) rfl rfl (Nat.le_of_ble_eq_true rfl) ⟨Nat.zero_le _, Nat.zero_le _⟩ ?_
          rintro _ _ ⟨rfl, rfl⟩
          show G M S E (0, 0) (va_up (va_up (va_up (va_up (va_up h 266 (.inr (6, [.ref (E.1 (266 + 1)), .int (nI N)]))) (266 + 1) (xJ S 24 (it (fun j f => plW N (rtm N v.1 t j (v.2.1 j)) (nI 1) f) t2 (fun _ => 0)))) 268 (.inr (6, [.ref (E.1 (268 + 1)), .int (nI N)]))) (268 + 1) (xJ S 24 (rtm N v.1 t t2 (v.2.1 t2)))) (266 + 1) (xJ S 24 (plW N (rtm N v.1 t t2 (v.2.1 t2)) (nI 1) (it (fun j f => plW N (rtm N v.1 t j (v.2.1 j)) (nI 1) f) t2 (fun _ => 0))))) 40 [some (.ref (E.1 253)), some (.int (nI N)), some (.ref (E.1 266)), some (.ref (E.1 268)), some (.int (nI t)), some (.int (nI t2))] []
          refine G.heap (show (va_up (va_up (va_up (va_up (va_up h 266 (.inr (6, [.ref (E.1 (266 + 1)), .int (nI N)]))) (266 + 1) (xJ S 24 (it (fun j f => plW N (rtm N v.1 t j (v.2.1 j)) (nI 1) f) t2 (fun _ => 0)))) 268 (.inr (6, [.ref (E.1 (268 + 1)), .int (nI N)]))) (268 + 1) (xJ S 24 (rtm N v.1 t t2 (v.2.1 t2)))) (266 + 1) (xJ S 24 (plW N (rtm N v.1 t t2 (v.2.1 t2)) (nI 1) (it (fun j f => plW N (rtm N v.1 t j (v.2.1 j)) (nI 1) f) t2 (fun _ => 0))))) = (va_up (va_up (va_up (va_up h 266 (.inr (6, [.ref (E.1 (266 + 1)), .int (nI N)]))) (266 + 1) (xJ S 24 (plW N (rtm N v.1 t t2 (v.2.1 t2)) (nI 1) (it (fun j f => plW N (rtm N v.1 t j (v.2.1 j)) (nI 1) f) t2 (fun _ => 0))))) 268 (.inr (6, [.ref (E.1 (268 + 1)), .int (nI N)]))) (268 + 1) (xJ S 24 (rtm N v.1 t t2 (v.2.1 t2)))) from by funext q; simp only [va_up]; (repeat' split) <;> first | rfl | omega) ?_
          refine r_iinc (pc := 40) (v := nI (t2 + 1)) C dX2_deriveBeta_40 rfl (nI_i1 _) (by decide) ?_
          refine G.eq (pc' := 43) (vs' := [some (.ref (E.1 253)), some (.int (nI N)), some (.ref (E.1 266)), some (.ref (E.1 268)), some (.int (nI t)), some (.int (nI (t2 + 1)))]) (st' := []) ?_
          refine r_goto (pc := 43) (tgt := 17) C dX2_deriveBeta_43 (by decide) ?_
          exact ih
