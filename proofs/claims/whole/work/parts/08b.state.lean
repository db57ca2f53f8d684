set_option maxHeartbeats 4000000 in
set_option maxRecDepth 100000 in
theorem c_X5_setPair {S : ST} {E : ET} {g : Nat → va_E} {b d : Nat} {v : SV} {u : PV} {rem : Nat → PV} (hL : StL S E g b v rem) (hp : PairAt S E g d u) (hd : d + 13 ≤ b ∨ b + 126 ≤ d) : CtV S E yX5_setPair cX5_setPair 2 none rmX5_setPair [.ref (E.1 b), .ref (E.1 d)] g (fun g' => StL S E g' b (v.1, v.2.1, u, nI 0, 0) rem ∧ Fr g g' b (b + 126)) := by
  refine Ct.of RX5 (by decide +kernel) rfl (Nat.le_of_ble_eq_true rfl) (fun M C Z => ?_)
  obtain ⟨pi, ra, hs, hl⟩ := hL
  refine G.eq (pc' := 0) (vs' := [some (.ref (E.1 b)), some (.ref (E.1 d))]) (st' := []) ?_
  refine r_aload_n (pc := 0) C dX5_setPair_0 rfl ?_
  refine r_getf (pc := 1) C dX5_setPair_1 fl_RX5_23 hs.1 rfl ?_
  refine r_aload_n (pc := 4) C dX5_setPair_4 rfl ?_
  refine r_callV (pc := 5) C dX5_setPair_5 cv_RX5_41 (c_X2_copyFrom hs.2.2.2.2.1 hp (by omega)) ⟨rfl, rfl, by decide, by decide⟩ hs.2.2.2.2.1.1 rfl rfl (Nat.le_of_ble_eq_true rfl) ⟨Nat.zero_le _, Nat.zero_le _⟩ ?_
  rintro _ g2 ⟨rfl, hp2, hf2⟩
  have hs2 := hs.pairNew hp2 hf2
  show G M S E (0, 0) g2 8 [some (.ref (E.1 b)), some (.ref (E.1 d))] []
  refine r_aload_n (pc := 8) C dX5_setPair_8 rfl ?_
  refine r_iconst (pc := 9) (v := nI 0) C dX5_setPair_9 (by decide +kernel) ?_
  refine r_putf (pc := 10) C dX5_setPair_10 fp_RX5_27 hs2.1 rfl rfl (Nat.le_of_ble_eq_true rfl) ?_
  refine r_aload_n (pc := 13) C dX5_setPair_13 rfl ?_
  refine r_iconst (pc := 14) (v := nI 0) C dX5_setPair_14 (by decide +kernel) ?_
  refine r_putf2 (pc := 15) C dX5_setPair_15 fp_RX5_34 hs2.1.1 rfl rfl (Nat.le_of_ble_eq_true rfl) ?_
  exact r_vret (pc := 18) C Z dX5_setPair_18 (⟨⟨pi, ra, (hs2.obj v.1 (nI 0) v.2.2.2.2 hs2.2.2.2.2.2.2.2.2).obj v.1 (nI 0) 0 (by decide) |> fun q => by rw [bx_uu] at q; exact q, fun i hi => absurd hi (Nat.not_lt_zero i)⟩, (Fr.wide hf2 (by omega) (by omega)).up (by omega) (by omega)⟩)
theorem it_perm {pi : Nat → Nat} (hi : ∀ i j : Nat, i < 8 → j < 8 → pi i = pi j → i = j) (rb : Nat → PV) (pj : Nat → Nat) (ra : Nat → PV) : ∀ {T i : Nat}, T ≤ 8 → i < T → it (fun i f => va_up f (pi i) (rb (pj i))) T ra (pi i) = rb (pj i)
  | 0, i, _, h => absurd h (Nat.not_lt_zero i)
  | T + 1, i, hT, h => by
    show va_up (it (fun i f => va_up f (pi i) (rb (pj i))) T ra) (pi T) (rb (pj T)) (pi i) = rb (pj i)
    by_cases e : i = T
    · subst e; rw [va_up_self]
    · rw [va_up_ne _ _ (fun q => e (hi i T (by omega) (by omega) q)), it_perm hi rb pj ra (by omega) (by omega)]
set_option maxHeartbeats 4000000 in
set_option maxRecDepth 100000 in
theorem c_X5_copyFrom {S : ST} {E : ET} {g : Nat → va_E} {b d : Nat} {v u : SV} {rem rem2 : Nat → PV} (hL : StL S E g b v rem) (hM : StL S E g d u rem2) (hbd : b + 126 ≤ d ∨ d + 126 ≤ b) : CtV S E yX5_copyFrom cX5_copyFrom 3 none rmX5_copyFrom [.ref (E.1 b), .ref (E.1 d)] g (fun g' => StL S E g' b u rem2 ∧ Fr g g' b (b + 126)) := by
  refine Ct.of RX5 (by decide +kernel) rfl (Nat.le_of_ble_eq_true rfl) (fun M C Z => ?_)
  obtain ⟨pi, ra, hs, hl⟩ := hL
  obtain ⟨pj, rb, ht, hm⟩ := hM
  refine G.eq (pc' := 0) (vs' := [some (.ref (E.1 b)), some (.ref (E.1 d)), none]) (st' := []) ?_
  refine r_aload_n (pc := 0) C dX5_copyFrom_0 rfl ?_
  refine r_aload_n (pc := 1) C dX5_copyFrom_1 rfl ?_
  refine r_getf (pc := 2) C dX5_copyFrom_2 fl_RX5_9 ht.1 rfl ?_
  refine r_putf (pc := 5) C dX5_copyFrom_5 fp_RX5_9 hs.1 rfl rfl (Nat.le_of_ble_eq_true rfl) ?_
  refine r_iconst (pc := 8) (v := nI 0) C dX5_copyFrom_8 (by decide +kernel) ?_
  refine r_istore_n (pc := 9) C dX5_copyFrom_9 (by decide) ?_
  refine G.eq (pc' := 10) (vs' := [some (.ref (E.1 b)), some (.ref (E.1 d)), some (.int (nI 0))]) (st' := []) ?_
  refine bk (P := fun t => ∀ h : Nat → va_E, (StAt S E h b (u.1, it (fun j f => va_up f j (u.2.1 j)) t v.2.1, v.2.2) pi ra ∧ StAt S E h d u pj rb ∧ Fr g h b (b + 126)) → G M S E (0, 0) h 10 [some (.ref (E.1 b)), some (.ref (E.1 d)), some (.int (nI t))] []) (T := 6) (fun h hI => ?_) (fun t ht ih h hI => ?_) _ (⟨hs.obj u.1 v.2.2.2.1 v.2.2.2.2 hs.2.2.2.2.2.2.2.2, ht.out (by omega), Fr.up Fr.rf (by omega) (by omega)⟩)
  · obtain ⟨hs, ht, hf⟩ := hI
    show G M S E (0, 0) h 10 [some (.ref (E.1 b)), some (.ref (E.1 d)), some (.int (nI 6))] []
    refine r_iload_n (pc := 10) C dX5_copyFrom_10 rfl ?_
    refine r_bipush (pc := 11) (v := nI 6) C dX5_copyFrom_11 (by decide +kernel) ?_
    refine r_icmp_ge (pc := 13) (tgt := 37) C dX5_copyFrom_13 (by decide) (fun h13 => ?_) (fun h13 => ?_)
    · have h13 := c_le (by omega) (by omega) h13
      have hs := hs.regs (fun j hj => it_row u.2.1 v.2.1 hj)
      refine r_aload_n (pc := 37) C dX5_copyFrom_37 rfl ?_
      refine r_getf (pc := 38) C dX5_copyFrom_38 fl_RX5_23 hs.1 rfl ?_
      refine r_aload_n (pc := 41) C dX5_copyFrom_41 rfl ?_
      refine r_getf (pc := 42) C dX5_copyFrom_42 fl_RX5_23 ht.1 rfl ?_
      refine r_callV (pc := 45) C dX5_copyFrom_45 cv_RX5_41 (c_X2_copyFrom hs.2.2.2.2.1 ht.2.2.2.2.1 (by omega)) ⟨rfl, rfl, by decide, by decide⟩ hs.2.2.2.2.1.1 rfl rfl (Nat.le_of_ble_eq_true rfl) ⟨Nat.zero_le _, Nat.zero_le _⟩ ?_
      rintro _ g2 ⟨rfl, hp2, hf2⟩
      have hs2 := hs.pairNew hp2 hf2
      have ht2 := ht.fr hf2 (by omega)
      have hf3 := hf.tr hf2 (by omega) (by omega)
      show G M S E (0, 0) g2 48 [some (.ref (E.1 b)), some (.ref (E.1 d)), some (.int (nI 6))] []
      refine r_aload_n (pc := 48) C dX5_copyFrom_48 rfl ?_
      refine r_aload_n (pc := 49) C dX5_copyFrom_49 rfl ?_
      refine r_getf (pc := 50) C dX5_copyFrom_50 fl_RX5_27 ht2.1 rfl ?_
      refine r_putf (pc := 53) C dX5_copyFrom_53 fp_RX5_27 hs2.1 rfl rfl (Nat.le_of_ble_eq_true rfl) ?_
      refine r_aload_n (pc := 56) C dX5_copyFrom_56 rfl ?_
      refine r_aload_n (pc := 57) C dX5_copyFrom_57 rfl ?_
      refine r_getf (pc := 58) C dX5_copyFrom_58 fl_RX5_34 (Ce.up ht2.1 (by omega)) rfl ?_
      refine r_putf2 (pc := 61) C dX5_copyFrom_61 fp_RX5_34 hs2.1.1 rfl rfl (Nat.le_of_ble_eq_true rfl) ?_
      refine r_iconst (pc := 64) (v := nI 0) C dX5_copyFrom_64 (by decide +kernel) ?_
      refine r_istore_n (pc := 65) C dX5_copyFrom_65 (by decide) ?_
      refine G.eq (pc' := 66) (vs' := [some (.ref (E.1 b)), some (.ref (E.1 d)), some (.int (nI 0))]) (st' := []) ?_
      have hle : u.2.2.2.2 ≤ 8 := ht2.2.2.2.2.2.2.2.2
      refine bk (P := fun t => ∀ h : Nat → va_E, (StAt S E h b u pi (it (fun i f => va_up f (pi i) (rb (pj i))) t ra) ∧ StAt S E h d u pj rb ∧ Fr g h b (b + 126)) → G M S E (0, 0) h 66 [some (.ref (E.1 b)), some (.ref (E.1 d)), some (.int (nI t))] []) (T := u.2.2.2.2) (fun h hI => ?_) (fun t ht ih h hI => ?_) _ (⟨(hs2.obj u.1 u.2.2.2.1 v.2.2.2.2 hs2.2.2.2.2.2.2.2.2).obj u.1 u.2.2.2.1 u.2.2.2.2 ht2.2.2.2.2.2.2.2.2 |> fun q => by rw [bx_uu] at q; exact q, ht2.out (by omega), hf3.up (by omega) (by omega)⟩)
      · obtain ⟨hs, ht, hf⟩ := hI
        show G M S E (0, 0) h 66 [some (.ref (E.1 b)), some (.ref (E.1 d)), some (.int (nI u.2.2.2.2))] []
        refine r_iload_n (pc := 66) C dX5_copyFrom_66 rfl ?_
        refine r_aload_n (pc := 67) C dX5_copyFrom_67 rfl ?_
        refine r_getf (pc := 68) C dX5_copyFrom_68 fl_RX5_34 hs.1 rfl ?_
        refine r_icmp_ge (pc := 71) (tgt := 95) C dX5_copyFrom_71 (by decide) (fun h71 => ?_) (fun h71 => ?_)
        · have h71 := c_le (by omega) (by omega) h71
          exact r_vret (pc := 95) C Z dX5_copyFrom_95 (⟨⟨pi, _, hs, fun i hi => (it_perm hs.2.2.2.2.2.2.2.1 rb pj ra hle hi).trans (hm i hi)⟩, hf⟩)
        · have h71 := c_nle (by omega) (by omega) h71
          omega
      · obtain ⟨hs, ht, hf⟩ := hI
        show G M S E (0, 0) h 66 [some (.ref (E.1 b)), some (.ref (E.1 d)), some (.int (nI t))] []
        refine r_iload_n (pc := 66) C dX5_copyFrom_66 rfl ?_
        refine r_aload_n (pc := 67) C dX5_copyFrom_67 rfl ?_
        refine r_getf (pc := 68) C dX5_copyFrom_68 fl_RX5_34 hs.1 rfl ?_
        refine r_icmp_ge (pc := 71) (tgt := 95) C dX5_copyFrom_71 (by decide) (fun h71 => ?_) (fun h71 => ?_)
        · have h71 := c_le (by omega) (by omega) h71
          omega
        · have h71 := c_nle (by omega) (by omega) h71
          refine r_aload_n (pc := 74) C dX5_copyFrom_74 rfl ?_
          refine r_getf (pc := 75) C dX5_copyFrom_75 fl_RX5_30 hs.1 rfl ?_
          refine r_iload_n (pc := 78) C dX5_copyFrom_78 rfl ?_
          refine r_aald (pc := 79) C dX5_copyFrom_79 hs.2.2.1 rfl rfl rfl (by omega) (by omega) rfl ?_
          refine r_aload_n (pc := 80) C dX5_copyFrom_80 rfl ?_
          refine r_getf (pc := 81) C dX5_copyFrom_81 fl_RX5_30 ht.1 rfl ?_
          refine r_iload_n (pc := 84) C dX5_copyFrom_84 rfl ?_
          refine r_aald (pc := 85) C dX5_copyFrom_85 ht.2.2.1 rfl rfl rfl (by omega) (by omega) rfl ?_
          refine r_callV (pc := 86) C dX5_copyFrom_86 cv_RX5_41 (c_X2_copyFrom (hs.2.2.2.2.2.1 (pi t) (hs.2.2.2.2.2.2.1 t (by omega))) (ht.2.2.2.2.2.1 (pj t) (ht.2.2.2.2.2.2.1 t (by omega))) (by have := hs.2.2.2.2.2.2.1 t (by omega); have := ht.2.2.2.2.2.2.1 t (by omega); omega)) ⟨rfl, rfl, by decide, by decide⟩ (hs.2.2.2.2.2.1 (pi t) (hs.2.2.2.2.2.2.1 t (by omega))).1 rfl rfl (Nat.le_of_ble_eq_true rfl) ⟨Nat.zero_le _, Nat.zero_le _⟩ ?_
          rintro _ g2 ⟨rfl, hp2, hf2⟩
          have hlt := hs.2.2.2.2.2.2.1 t (by omega)
          have hs2 := hs.remNew hlt hp2 hf2
          have ht2 := ht.fr hf2 (by omega)
          have hf3 := hf.tr hf2 (by omega) (by omega)
          show G M S E (0, 0) g2 89 [some (.ref (E.1 b)), some (.ref (E.1 d)), some (.int (nI t))] []
          refine r_iinc (pc := 89) (v := nI (t + 1)) C dX5_copyFrom_89 rfl (nI_i1 _) (by decide) ?_
          refine G.eq (pc' := 92) (vs' := [some (.ref (E.1 b)), some (.ref (E.1 d)), some (.int (nI (t + 1)))]) (st' := []) ?_
          refine r_goto (pc := 92) (tgt := 66) C dX5_copyFrom_92 (by decide) ?_
          exact (ih _ ⟨hs2, ht2, hf3⟩)
    · have h13 := c_nle (by omega) (by omega) h13
      omega
  · obtain ⟨hs, ht, hf⟩ := hI
    show G M S E (0, 0) h 10 [some (.ref (E.1 b)), some (.ref (E.1 d)), some (.int (nI t))] []
    refine r_iload_n (pc := 10) C dX5_copyFrom_10 rfl ?_
    refine r_bipush (pc := 11) (v := nI 6) C dX5_copyFrom_11 (by decide +kernel) ?_
    refine r_icmp_ge (pc := 13) (tgt := 37) C dX5_copyFrom_13 (by decide) (fun h13 => ?_) (fun h13 => ?_)
    · have h13 := c_le (by omega) (by omega) h13
      omega
    · have h13 := c_nle (by omega) (by omega) h13
      refine r_aload_n (pc := 16) C dX5_copyFrom_16 rfl ?_
      refine r_getf (pc := 17) C dX5_copyFrom_17 fl_RX5_17 ht.1 rfl ?_
      refine r_iload_n (pc := 20) C dX5_copyFrom_20 rfl ?_
      refine r_aald (pc := 21) C dX5_copyFrom_21 ht.2.1 rfl rfl rfl (by omega) (by omega) rfl ?_
      refine r_aload_n (pc := 22) C dX5_copyFrom_22 rfl ?_
      refine r_getf (pc := 23) C dX5_copyFrom_23 fl_RX5_17 hs.1 rfl ?_
      refine r_iload_n (pc := 26) C dX5_copyFrom_26 rfl ?_
      refine r_aald (pc := 27) C dX5_copyFrom_27 hs.2.1 rfl rfl rfl (by omega) (by omega) rfl ?_
      refine r_callN (pc := 28) C dX5_copyFrom_28 cn_RX5_37 (c_X7_copyRow (ht.2.2.2.1 t (by omega)) (hs.2.2.2.1 t (by omega))) ⟨rfl, rfl, by decide, by decide⟩ rfl rfl (Nat.le_of_ble_eq_true rfl) ⟨Nat.zero_le _, Nat.zero_le _⟩ ?_
      rintro _ _ ⟨rfl, rfl⟩
      show G M S E (0, 0) (va_up h (b + 2 + t) (xI S 24 (u.2.1 t))) 31 [some (.ref (E.1 b)), some (.ref (E.1 d)), some (.int (nI t))] []
      refine r_iinc (pc := 31) (v := nI (t + 1)) C dX5_copyFrom_31 rfl (nI_i1 _) (by decide) ?_
      refine G.eq (pc' := 34) (vs' := [some (.ref (E.1 b)), some (.ref (E.1 d)), some (.int (nI (t + 1)))]) (st' := []) ?_
      refine r_goto (pc := 34) (tgt := 10) C dX5_copyFrom_34 (by decide) ?_
      exact (ih _ ⟨hs.reg (u.2.1 t) (by omega), ht.out (by omega), hf.up (by omega) (by omega)⟩)
set_option maxHeartbeats 4000000 in
set_option maxRecDepth 100000 in
theorem c_X5_goBack {S : ST} {E : ET} {g : Nat → va_E} {b : Nat} {v : SV} {rem : Nat → PV} (hL : StL S E g b v rem) (hc : 0 < v.2.2.2.2) : CtV S E yX5_goBack cX5_goBack 1 none rmX5_goBack [.ref (E.1 b)] g (fun g' => StL S E g' b (v.1, v.2.1, rem (v.2.2.2.2 - 1), v.2.2.2.1 - nI 1, v.2.2.2.2 - 1) rem ∧ Fr g g' b (b + 126)) := by
  refine Ct.of RX5 (by decide +kernel) rfl (Nat.le_of_ble_eq_true rfl) (fun M C Z => ?_)
  obtain ⟨pi, ra, hs, hl⟩ := hL
  have hle := hs.2.2.2.2.2.2.2.2
  refine G.eq (pc' := 0) (vs' := [some (.ref (E.1 b))]) (st' := []) ?_
  refine r_aload_n (pc := 0) C dX5_goBack_0 rfl ?_
  refine r_getf (pc := 1) C dX5_goBack_1 fl_RX5_34 hs.1 rfl ?_
  refine r_if_le (pc := 4) (tgt := 43) C dX5_goBack_4 (by decide) (fun h4 => ?_) (fun h4 => ?_)
  · have h4 := z_le (by omega) h4
    omega
  · have h4 := z_nle (by omega) h4
    refine r_aload_n (pc := 7) C dX5_goBack_7 rfl ?_
    refine r_dup (pc := 8) C dX5_goBack_8 rfl ?_
    refine r_getf (pc := 9) C dX5_goBack_9 fl_RX5_34 hs.1 rfl ?_
    refine r_iconst (pc := 12) (v := nI 1) C dX5_goBack_12 (by decide +kernel) ?_
    refine r_isub (pc := 13) C dX5_goBack_13 ?_
    refine r_ti (nI (v.2.2.2.2 - 1)) (pk_sub (by omega)) ?_
    refine r_putf (pc := 14) C dX5_goBack_14 fp_RX5_34 hs.1 rfl rfl (Nat.le_of_ble_eq_true rfl) ?_
    refine r_aload_n (pc := 17) C dX5_goBack_17 rfl ?_
    refine r_getf (pc := 18) C dX5_goBack_18 fl_RX5_23 (Ce.new hs.1) rfl ?_
    refine r_aload_n (pc := 21) C dX5_goBack_21 rfl ?_
    refine r_getf (pc := 22) C dX5_goBack_22 fl_RX5_30 (Ce.new hs.1) rfl ?_
    refine r_aload_n (pc := 25) C dX5_goBack_25 rfl ?_
    refine r_getf (pc := 26) C dX5_goBack_26 fl_RX5_34 (Ce.new hs.1) rfl ?_
    refine r_aald (pc := 29) C dX5_goBack_29 (Ce.up hs.2.2.1 (by omega)) rfl rfl rfl (by omega) (by omega) rfl ?_
    have hs1 := hs.obj v.1 v.2.2.2.1 (v.2.2.2.2 - 1) (by omega)
    have hlt := hs.2.2.2.2.2.2.1 (v.2.2.2.2 - 1) (by omega)
    refine r_callV (pc := 30) C dX5_goBack_30 cv_RX5_41 (c_X2_copyFrom hs1.2.2.2.2.1 (hs1.2.2.2.2.2.1 (pi (v.2.2.2.2 - 1)) hlt) (by omega)) ⟨rfl, rfl, by decide, by decide⟩ (Ce.up hs.2.2.2.2.1.1 (by omega)) rfl rfl (Nat.le_of_ble_eq_true rfl) ⟨Nat.zero_le _, Nat.zero_le _⟩ ?_
    rintro _ g2 ⟨rfl, hp2, hf2⟩
    have hs2 := hs1.pairNew hp2 hf2
    show G M S E (0, 0) g2 33 [some (.ref (E.1 b))] []
    refine r_aload_n (pc := 33) C dX5_goBack_33 rfl ?_
    refine r_dup (pc := 34) C dX5_goBack_34 rfl ?_
    refine r_getf (pc := 35) C dX5_goBack_35 fl_RX5_27 hs2.1 rfl ?_
    refine r_iconst (pc := 38) (v := nI 1) C dX5_goBack_38 (by decide +kernel) ?_
    refine r_isub (pc := 39) C dX5_goBack_39 ?_
    refine r_putf (pc := 40) C dX5_goBack_40 fp_RX5_27 hs2.1 rfl rfl (Nat.le_of_ble_eq_true rfl) ?_
    exact r_vret (pc := 43) C Z dX5_goBack_43 (⟨⟨pi, ra, (hl (v.2.2.2.2 - 1) (by omega)) ▸ hs2.obj v.1 (v.2.2.2.1 - nI 1) (v.2.2.2.2 - 1) (by omega), fun i hi => hl i (by have hi : i < v.2.2.2.2 - 1 := hi; omega)⟩, ((Fr.up Fr.rf (by omega) (by omega)).tr hf2 (by omega) (by omega)).up (by omega) (by omega)⟩)
theorem fo_step {α : Type} {f : Nat → α} {t j : Nat} (_ : 0 ≤ t) : va_up (fun j => if j < t then some (f (j + 1)) else some (f j)) (1 + t - 1) (some (f (1 + t))) j = if j < t + 1 then some (f (j + 1)) else some (f j) := by
  rw [show 1 + t - 1 = t by omega]
  by_cases e : j = t
  · subst e; rw [va_up_self, if_pos (by omega), Nat.add_comm]
  · rw [va_up_ne _ _ e]
    by_cases h : j < t
    · rw [if_pos h, if_pos (by omega)]
    · rw [if_neg h, if_neg (by omega)]
theorem fo_end {E : ET} {b j : Nat} {pi : Nat → Nat} (hj : j < 8) : va_up (fun j => if j < 7 then some (E.1 (b + 22 + 13 * pi (j + 1))) else some (E.1 (b + 22 + 13 * pi j))) 7 (some (E.1 (b + 22 + 13 * pi 0))) j = some (E.1 (b + 22 + 13 * (if j < 7 then pi (j + 1) else pi 0))) := by
  by_cases e : j = 7
  · subst e; rw [va_up_self, if_neg (by omega)]
  · rw [va_up_ne _ _ e, if_pos (by omega), if_pos (by omega)]
theorem fo_lt {pi : Nat → Nat} (h : ∀ i : Nat, i < 8 → pi i < 8) : ∀ i : Nat, i < 8 → (if i < 7 then pi (i + 1) else pi 0) < 8 := fun i hi => by
  by_cases e : i < 7
  · rw [if_pos e]; exact h _ (by omega)
  · rw [if_neg e]; exact h _ (by omega)
theorem fo_inj {pi : Nat → Nat} (h : ∀ i j : Nat, i < 8 → j < 8 → pi i = pi j → i = j) : ∀ i j : Nat, i < 8 → j < 8 → (if i < 7 then pi (i + 1) else pi 0) = (if j < 7 then pi (j + 1) else pi 0) → i = j := fun i j hi hj q => by
  by_cases e1 : i < 7 <;> by_cases e2 : j < 7
  · rw [if_pos e1, if_pos e2] at q
    have := h _ _ (by omega) (by omega) q
    omega
  · rw [if_pos e1, if_neg e2] at q
    have := h _ _ (by omega) (by omega) q
    omega
  · rw [if_neg e1, if_pos e2] at q
    have := h _ _ (by omega) (by omega) q
    omega
  · omega
set_option maxHeartbeats 4000000 in
set_option maxRecDepth 100000 in
theorem c_X5_forgetOldest {S : ST} {E : ET} {g : Nat → va_E} {b : Nat} {v : SV} {rem : Nat → PV} (hL : StL S E g b v rem) (hc : v.2.2.2.2 = 8) : CtV S E yX5_forgetOldest cX5_forgetOldest 3 none rmX5_forgetOldest [.ref (E.1 b)] g (fun g' => StL S E g' b (v.1, v.2.1, v.2.2.1, v.2.2.2.1, 7) (fun i => rem (i + 1)) ∧ Fr g g' b (b + 126)) := by
  refine Ct.of RX5 (by decide +kernel) rfl (Nat.le_of_ble_eq_true rfl) (fun M C Z => ?_)
  obtain ⟨pi, ra, hs, hl⟩ := hL
  have hle := hs.2.2.2.2.2.2.2.2
  refine G.eq (pc' := 0) (vs' := [some (.ref (E.1 b)), none, none]) (st' := []) ?_
  refine r_aload_n (pc := 0) C dX5_forgetOldest_0 rfl ?_
  refine r_getf (pc := 1) C dX5_forgetOldest_1 fl_RX5_30 hs.1 rfl ?_
  refine r_iconst (pc := 4) (v := nI 0) C dX5_forgetOldest_4 (by decide +kernel) ?_
  refine r_aald (pc := 5) C dX5_forgetOldest_5 hs.2.2.1 rfl rfl rfl (by omega) (by omega) rfl ?_
  refine r_astore_n (pc := 6) C dX5_forgetOldest_6 (by decide) ?_
  refine G.eq (pc' := 7) (vs' := [some (.ref (E.1 b)), some (.ref (E.1 (b + 22 + 13 * pi 0))), none]) (st' := []) ?_
  refine r_iconst (pc := 7) (v := nI 1) C dX5_forgetOldest_7 (by decide +kernel) ?_
  refine r_istore_n (pc := 8) C dX5_forgetOldest_8 (by decide) ?_
  refine G.eq (pc' := 9) (vs' := [some (.ref (E.1 b)), some (.ref (E.1 (b + 22 + 13 * pi 0))), some (.int (nI 1))]) (st' := []) ?_
  refine G.heap (Ce.id hs.2.2.1) ?_
  refine G.cR (f' := fun j => if j < 0 then some (E.1 (b + 22 + 13 * pi (j + 1))) else some (E.1 (b + 22 + 13 * pi j))) (fun j hj => by simp) ?_
  refine bk (P := fun t => G M S E (0, 0) (va_up g (b + 21) (xR S 4 8 (fun j => if j < t then some (E.1 (b + 22 + 13 * pi (j + 1))) else some (E.1 (b + 22 + 13 * pi j))))) 9 [some (.ref (E.1 b)), some (.ref (E.1 (b + 22 + 13 * pi 0))), some (.int (nI (1 + t)))] []) (T := 7) ?_ (fun t ht ih => ?_)
  · show G M S E (0, 0) (va_up g (b + 21) (xR S 4 8 (fun j => if j < 7 then some (E.1 (b + 22 + 13 * pi (j + 1))) else some (E.1 (b + 22 + 13 * pi j))))) 9 [some (.ref (E.1 b)), some (.ref (E.1 (b + 22 + 13 * pi 0))), some (.int (nI (1 + 7)))] []
    refine r_iload_n (pc := 9) C dX5_forgetOldest_9 rfl ?_
    refine r_bipush (pc := 10) (v := nI 8) C dX5_forgetOldest_10 (by decide +kernel) ?_
    refine r_icmp_ge (pc := 12) (tgt := 35) C dX5_forgetOldest_12 (by decide) (fun h12 => ?_) (fun h12 => ?_)
    · have h12 := c_le (by omega) (by omega) h12
      refine r_aload_n (pc := 35) C dX5_forgetOldest_35 rfl ?_
      refine r_getf (pc := 36) C dX5_forgetOldest_36 fl_RX5_30 (Ce.up hs.1 (by omega)) rfl ?_
      refine r_bipush (pc := 39) (v := nI 7) C dX5_forgetOldest_39 (by decide +kernel) ?_
      refine r_aload_n (pc := 41) C dX5_forgetOldest_41 rfl ?_
      refine r_aast (pc := 42) C dX5_forgetOldest_42 (Ce.new hs.2.2.1) (Ce.up (hs.2.2.2.2.2.1 (pi 0) (hs.2.2.2.2.2.2.1 0 (by omega))).1 (by omega)) rfl rfl rfl (by omega) (by omega) ?_
      rw [bx_uu]
      refine G.cR (f' := fun j => some (E.1 (b + 22 + 13 * (if j < 7 then pi (j + 1) else pi 0)))) (fun j hj => fo_end hj) ?_
      have hs1 := hs.perm (pi' := fun j => if j < 7 then pi (j + 1) else pi 0) (f := fun j => some (E.1 (b + 22 + 13 * (if j < 7 then pi (j + 1) else pi 0)))) (fun _ _ => rfl) (fo_lt hs.2.2.2.2.2.2.1) (fo_inj hs.2.2.2.2.2.2.2.1)
      refine r_aload_n (pc := 43) C dX5_forgetOldest_43 rfl ?_
      refine r_bipush (pc := 44) (v := nI 7) C dX5_forgetOldest_44 (by decide +kernel) ?_
      refine r_putf (pc := 46) C dX5_forgetOldest_46 fp_RX5_34 (Ce.up hs.1 (by omega)) rfl rfl (Nat.le_of_ble_eq_true rfl) ?_
      exact r_vret (pc := 49) C Z dX5_forgetOldest_49 (⟨⟨_, ra, hs1.obj v.1 v.2.2.2.1 7 (by decide), fun i hi => by have hi : i < 7 := hi; rw [if_pos hi]; exact hl (i + 1) (by omega)⟩, (Fr.up Fr.rf (by omega) (by omega)).up (by omega) (by omega)⟩)
    · have h12 := c_nle (by omega) (by omega) h12
      omega
  · show G M S E (0, 0) (va_up g (b + 21) (xR S 4 8 (fun j => if j < t then some (E.1 (b + 22 + 13 * pi (j + 1))) else some (E.1 (b + 22 + 13 * pi j))))) 9 [some (.ref (E.1 b)), some (.ref (E.1 (b + 22 + 13 * pi 0))), some (.int (nI (1 + t)))] []
    refine r_iload_n (pc := 9) C dX5_forgetOldest_9 rfl ?_
    refine r_bipush (pc := 10) (v := nI 8) C dX5_forgetOldest_10 (by decide +kernel) ?_
    refine r_icmp_ge (pc := 12) (tgt := 35) C dX5_forgetOldest_12 (by decide) (fun h12 => ?_) (fun h12 => ?_)
    · have h12 := c_le (by omega) (by omega) h12
      omega
    · have h12 := c_nle (by omega) (by omega) h12
      refine r_aload_n (pc := 15) C dX5_forgetOldest_15 rfl ?_
      refine r_getf (pc := 16) C dX5_forgetOldest_16 fl_RX5_30 (Ce.up hs.1 (by omega)) rfl ?_
      refine r_iload_n (pc := 19) C dX5_forgetOldest_19 rfl ?_
      refine r_iconst (pc := 20) (v := nI 1) C dX5_forgetOldest_20 (by decide +kernel) ?_
      refine r_isub (pc := 21) C dX5_forgetOldest_21 ?_
      refine r_ti (nI (1 + t - 1)) (pk_sub (by omega)) ?_
      refine r_aload_n (pc := 22) C dX5_forgetOldest_22 rfl ?_
      refine r_getf (pc := 23) C dX5_forgetOldest_23 fl_RX5_30 (Ce.up hs.1 (by omega)) rfl ?_
      refine r_iload_n (pc := 26) C dX5_forgetOldest_26 rfl ?_
      refine r_aald (pc := 27) C dX5_forgetOldest_27 (Ce.new hs.2.2.1) rfl rfl rfl (by omega) (by omega) (if_neg (by omega)) ?_
      refine r_aast (pc := 28) C dX5_forgetOldest_28 (Ce.new hs.2.2.1) (Ce.up (hs.2.2.2.2.2.1 (pi (1 + t)) (hs.2.2.2.2.2.2.1 (1 + t) (by omega))).1 (by omega)) rfl rfl rfl (by omega) (by omega) ?_
      rw [bx_uu]
      refine G.cR (f' := fun j => if j < (t + 1) then some (E.1 (b + 22 + 13 * pi (j + 1))) else some (E.1 (b + 22 + 13 * pi j))) (fun j hj => fo_step (by omega)) ?_
      refine r_iinc (pc := 29) (v := nI (1 + t + 1)) C dX5_forgetOldest_29 rfl (nI_i1 _) (by decide) ?_
      refine G.eq (pc' := 32) (vs' := [some (.ref (E.1 b)), some (.ref (E.1 (b + 22 + 13 * pi 0))), some (.int (nI (1 + t + 1)))]) (st' := []) ?_
      refine r_goto (pc := 32) (tgt := 9) C dX5_forgetOldest_32 (by decide) ?_
      exact ih
/-- what is remembered behind a step -/
def cG (k : Nat) : Nat := if k = 8 then 8 else k + 1
def rmG (k : Nat) (rem : Nat → PV) (pv : PV) : Nat → PV := if k = 8 then (fun i => if i < 7 then rem (i + 1) else pv) else (fun i => if i < k then rem i else pv)
theorem gg_last {pi : Nat → Nat} {ra rem : Nat → PV} {k i : Nat} {pv : PV} (hi : ∀ i j : Nat, i < 8 → j < 8 → pi i = pi j → i = j) (hl : ∀ i : Nat, i < k → ra (pi i) = rem i) (hk : k < 8) (h : i < k + 1) : va_up ra (pi k) pv (pi i) = if i < k then rem i else pv := by
  by_cases e : i = k
  · subst e; rw [va_up_self, if_neg (by omega)]
  · rw [va_up_ne _ _ (fun q => e (hi i k (by omega) hk q)), if_pos (by omega)]
    exact hl i (by omega)
set_option maxHeartbeats 4000000 in
set_option maxRecDepth 100000 in
theorem c_X5_goOnTo {S : ST} {E : ET} {g : Nat → va_E} {b d : Nat} {v : SV} {u : PV} {rem : Nat → PV} (hL : StL S E g b v rem) (hp : PairAt S E g d u) (hd : d + 13 ≤ b ∨ b + 126 ≤ d) : CtV S E yX5_goOnTo cX5_goOnTo 2 none rmX5_goOnTo [.ref (E.1 b), .ref (E.1 d)] g (fun g' => StL S E g' b (v.1, v.2.1, u, v.2.2.2.1 + nI 1, cG v.2.2.2.2) (rmG v.2.2.2.2 rem v.2.2.1) ∧ Fr g g' b (b + 126)) := by
  refine Ct.of RX5 (by decide +kernel) rfl (Nat.le_of_ble_eq_true rfl) (fun M C Z => ?_)
  obtain ⟨pi0, ra0, hs0, hl0⟩ := id hL
  have hle := hs0.2.2.2.2.2.2.2.2
  refine G.eq (pc' := 0) (vs' := [some (.ref (E.1 b)), some (.ref (E.1 d))]) (st' := []) ?_
  refine r_aload_n (pc := 0) C dX5_goOnTo_0 rfl ?_
  refine r_getf (pc := 1) C dX5_goOnTo_1 fl_RX5_34 hs0.1 rfl ?_
  refine r_bipush (pc := 4) (v := nI 8) C dX5_goOnTo_4 (by decide +kernel) ?_
  refine r_icmp_ne (pc := 6) (tgt := 13) C dX5_goOnTo_6 (by decide) (fun h6 => ?_) (fun h6 => ?_)
  · have h6 := c_ne (by omega) (by omega) h6
    obtain ⟨pi, ra, hs, hl⟩ := hL
    have hlt := hs.2.2.2.2.2.2.1 v.2.2.2.2 (by omega)
    show G M S E (0, 0) g 13 [some (.ref (E.1 b)), some (.ref (E.1 d))] []
    refine r_aload_n (pc := 13) C dX5_goOnTo_13 rfl ?_
    refine r_getf (pc := 14) C dX5_goOnTo_14 fl_RX5_30 hs.1 rfl ?_
    refine G.eq (pc' := 17) (vs' := [some (.ref (E.1 b)), some (.ref (E.1 d))]) (st' := [.ref (E.1 (b + 21))]) ?_
    refine r_aload_n (pc := 17) C dX5_goOnTo_17 rfl ?_
    refine r_getf (pc := 18) C dX5_goOnTo_18 fl_RX5_34 hs.1 rfl ?_
    refine G.eq (pc' := 21) (vs' := [some (.ref (E.1 b)), some (.ref (E.1 d))]) (st' := [.int (nI v.2.2.2.2), .ref (E.1 (b + 21))]) ?_
    refine r_aald (pc := 21) C dX5_goOnTo_21 hs.2.2.1 rfl rfl rfl (by omega) (by omega) rfl ?_
    refine r_aload_n (pc := 22) C dX5_goOnTo_22 rfl ?_
    refine r_getf (pc := 23) C dX5_goOnTo_23 fl_RX5_23 hs.1 rfl ?_
    refine G.eq (pc' := 26) (vs' := [some (.ref (E.1 b)), some (.ref (E.1 d))]) (st' := [.ref (E.1 (b + 8)), .ref (E.1 (b + 22 + 13 * pi v.2.2.2.2))]) ?_
    refine r_callV (pc := 26) C dX5_goOnTo_26 cv_RX5_41 (c_X2_copyFrom (hs.2.2.2.2.2.1 (pi v.2.2.2.2) hlt) hs.2.2.2.2.1 (by omega)) ⟨rfl, rfl, by decide, by decide⟩ (hs.2.2.2.2.2.1 (pi v.2.2.2.2) (hs.2.2.2.2.2.2.1 v.2.2.2.2 (by omega))).1 rfl rfl (Nat.le_of_ble_eq_true rfl) ⟨Nat.zero_le _, Nat.zero_le _⟩ ?_
    rintro _ g2 ⟨rfl, hp2, hf2⟩
    have hs2 := hs.remNew hlt hp2 hf2
    have hq2 := hp.fr hf2 (by omega)
    have hff := (Fr.rf (g := g) (lo := b) (hi := b + 126)).tr hf2 (by omega) (by omega)
    show G M S E (0, 0) g2 29 [some (.ref (E.1 b)), some (.ref (E.1 d))] []
    refine r_aload_n (pc := 29) C dX5_goOnTo_29 rfl ?_
    refine r_dup (pc := 30) C dX5_goOnTo_30 rfl ?_
    refine r_getf (pc := 31) C dX5_goOnTo_31 fl_RX5_34 hs2.1 rfl ?_
    refine G.eq (pc' := 34) (vs' := [some (.ref (E.1 b)), some (.ref (E.1 d))]) (st' := [.int (nI v.2.2.2.2), .ref (E.1 b)]) ?_
    refine r_iconst (pc := 34) (v := nI 1) C dX5_goOnTo_34 (by decide +kernel) ?_
    refine r_iadd (pc := 35) C dX5_goOnTo_35 ?_
    refine r_ti (nI (v.2.2.2.2 + 1)) (nI_add _ _) ?_
    refine r_putf (pc := 36) C dX5_goOnTo_36 fp_RX5_34 hs2.1 rfl rfl (Nat.le_of_ble_eq_true rfl) ?_
    refine r_aload_n (pc := 39) C dX5_goOnTo_39 rfl ?_
    refine r_getf (pc := 40) C dX5_goOnTo_40 fl_RX5_23 (Ce.new hs2.1) rfl ?_
    refine G.eq (pc' := 43) (vs' := [some (.ref (E.1 b)), some (.ref (E.1 d))]) (st' := [.ref (E.1 (b + 8))]) ?_
    refine r_aload_n (pc := 43) C dX5_goOnTo_43 rfl ?_
    have hs3 := hs2.obj v.1 v.2.2.2.1 (v.2.2.2.2 + 1) (by omega)
    refine r_callV (pc := 44) C dX5_goOnTo_44 cv_RX5_41 (c_X2_copyFrom hs3.2.2.2.2.1 (hq2.out (by omega)) (by omega)) ⟨rfl, rfl, by decide, by decide⟩ (Ce.up hs2.2.2.2.2.1.1 (by omega)) rfl rfl (Nat.le_of_ble_eq_true rfl) ⟨Nat.zero_le _, Nat.zero_le _⟩ ?_
    rintro _ g3 ⟨rfl, hp2, hf2⟩
    have hs4 := hs3.pairNew hp2 hf2
    have hff2 := (hff.up (by omega) (by omega)).tr hf2 (by omega) (by omega)
    show G M S E (0, 0) g3 47 [some (.ref (E.1 b)), some (.ref (E.1 d))] []
    refine r_aload_n (pc := 47) C dX5_goOnTo_47 rfl ?_
    refine r_dup (pc := 48) C dX5_goOnTo_48 rfl ?_
    refine r_getf (pc := 49) C dX5_goOnTo_49 fl_RX5_27 hs4.1 rfl ?_
    refine G.eq (pc' := 52) (vs' := [some (.ref (E.1 b)), some (.ref (E.1 d))]) (st' := [.int v.2.2.2.1, .ref (E.1 b)]) ?_
    refine r_iconst (pc := 52) (v := nI 1) C dX5_goOnTo_52 (by decide +kernel) ?_
    refine r_iadd (pc := 53) C dX5_goOnTo_53 ?_
    refine r_putf (pc := 54) C dX5_goOnTo_54 fp_RX5_27 hs4.1 rfl rfl (Nat.le_of_ble_eq_true rfl) ?_
    have hs5 := hs4.obj v.1 (v.2.2.2.1 + nI 1) (v.2.2.2.2 + 1) (by omega)
    rw [show cG v.2.2.2.2 = v.2.2.2.2 + 1 from if_neg h6, show rmG v.2.2.2.2 rem v.2.2.1 = (fun i => if i < v.2.2.2.2 then rem i else v.2.2.1) from if_neg h6] at Z
    exact r_vret (pc := 57) C Z dX5_goOnTo_57 (⟨⟨pi, _, hs5, fun i hi => by have hi : i < v.2.2.2.2 + 1 := hi; exact gg_last hs.2.2.2.2.2.2.2.1 hl (by omega) hi⟩, hff2.up (by omega) (by omega)⟩)
  · have h6 := c_eq (by omega) (by omega) h6
    refine r_aload_n (pc := 9) C dX5_goOnTo_9 rfl ?_
    refine r_callV (pc := 10) C dX5_goOnTo_10 cv_RX5_45 (c_X5_forgetOldest hL h6) ⟨rfl, rfl, by decide, by decide⟩ hs0.1 rfl rfl (Nat.le_of_ble_eq_true rfl) ⟨Nat.zero_le _, Nat.zero_le _⟩ ?_
    rintro _ g1 ⟨rfl, hL1, hf1⟩
    have hq1 := hp.fr hf1 (by omega)
    obtain ⟨pi, ra, hs, hl⟩ := hL1
    have hlt := hs.2.2.2.2.2.2.1 7 (by omega)
    show G M S E (0, 0) g1 13 [some (.ref (E.1 b)), some (.ref (E.1 d))] []
    refine r_aload_n (pc := 13) C dX5_goOnTo_13 rfl ?_
    refine r_getf (pc := 14) C dX5_goOnTo_14 fl_RX5_30 hs.1 rfl ?_
    refine G.eq (pc' := 17) (vs' := [some (.ref (E.1 b)), some (.ref (E.1 d))]) (st' := [.ref (E.1 (b + 21))]) ?_
    refine r_aload_n (pc := 17) C dX5_goOnTo_17 rfl ?_
    refine r_getf (pc := 18) C dX5_goOnTo_18 fl_RX5_34 hs.1 rfl ?_
    refine G.eq (pc' := 21) (vs' := [some (.ref (E.1 b)), some (.ref (E.1 d))]) (st' := [.int (nI 7), .ref (E.1 (b + 21))]) ?_
    refine r_aald (pc := 21) C dX5_goOnTo_21 hs.2.2.1 rfl rfl rfl (by omega) (by omega) rfl ?_
    refine r_aload_n (pc := 22) C dX5_goOnTo_22 rfl ?_
    refine r_getf (pc := 23) C dX5_goOnTo_23 fl_RX5_23 hs.1 rfl ?_
    refine G.eq (pc' := 26) (vs' := [some (.ref (E.1 b)), some (.ref (E.1 d))]) (st' := [.ref (E.1 (b + 8)), .ref (E.1 (b + 22 + 13 * pi 7))]) ?_
    refine r_callV (pc := 26) C dX5_goOnTo_26 cv_RX5_41 (c_X2_copyFrom (hs.2.2.2.2.2.1 (pi 7) hlt) hs.2.2.2.2.1 (by omega)) ⟨rfl, rfl, by decide, by decide⟩ (hs.2.2.2.2.2.1 (pi 7) (hs.2.2.2.2.2.2.1 7 (by omega))).1 rfl rfl (Nat.le_of_ble_eq_true rfl) ⟨Nat.zero_le _, Nat.zero_le _⟩ ?_
    rintro _ g2 ⟨rfl, hp2, hf2⟩
    have hs2 := hs.remNew hlt hp2 hf2
    have hq2 := hq1.fr hf2 (by omega)
    have hff := hf1.tr hf2 (by omega) (by omega)
    show G M S E (0, 0) g2 29 [some (.ref (E.1 b)), some (.ref (E.1 d))] []
    refine r_aload_n (pc := 29) C dX5_goOnTo_29 rfl ?_
    refine r_dup (pc := 30) C dX5_goOnTo_30 rfl ?_
    refine r_getf (pc := 31) C dX5_goOnTo_31 fl_RX5_34 hs2.1 rfl ?_
    refine G.eq (pc' := 34) (vs' := [some (.ref (E.1 b)), some (.ref (E.1 d))]) (st' := [.int (nI 7), .ref (E.1 b)]) ?_
    refine r_iconst (pc := 34) (v := nI 1) C dX5_goOnTo_34 (by decide +kernel) ?_
    refine r_iadd (pc := 35) C dX5_goOnTo_35 ?_
    refine r_ti (nI 8) (nI_add _ _) ?_
    refine r_putf (pc := 36) C dX5_goOnTo_36 fp_RX5_34 hs2.1 rfl rfl (Nat.le_of_ble_eq_true rfl) ?_
    refine r_aload_n (pc := 39) C dX5_goOnTo_39 rfl ?_
    refine r_getf (pc := 40) C dX5_goOnTo_40 fl_RX5_23 (Ce.new hs2.1) rfl ?_
    refine G.eq (pc' := 43) (vs' := [some (.ref (E.1 b)), some (.ref (E.1 d))]) (st' := [.ref (E.1 (b + 8))]) ?_
    refine r_aload_n (pc := 43) C dX5_goOnTo_43 rfl ?_
    have hs3 := hs2.obj v.1 v.2.2.2.1 (7 + 1) (by omega)
    refine r_callV (pc := 44) C dX5_goOnTo_44 cv_RX5_41 (c_X2_copyFrom hs3.2.2.2.2.1 (hq2.out (by omega)) (by omega)) ⟨rfl, rfl, by decide, by decide⟩ (Ce.up hs2.2.2.2.2.1.1 (by omega)) rfl rfl (Nat.le_of_ble_eq_true rfl) ⟨Nat.zero_le _, Nat.zero_le _⟩ ?_
    rintro _ g3 ⟨rfl, hp2, hf2⟩
    have hs4 := hs3.pairNew hp2 hf2
    have hff2 := (hff.up (by omega) (by omega)).tr hf2 (by omega) (by omega)
    show G M S E (0, 0) g3 47 [some (.ref (E.1 b)), some (.ref (E.1 d))] []
    refine r_aload_n (pc := 47) C dX5_goOnTo_47 rfl ?_
    refine r_dup (pc := 48) C dX5_goOnTo_48 rfl ?_
    refine r_getf (pc := 49) C dX5_goOnTo_49 fl_RX5_27 hs4.1 rfl ?_
    refine G.eq (pc' := 52) (vs' := [some (.ref (E.1 b)), some (.ref (E.1 d))]) (st' := [.int v.2.2.2.1, .ref (E.1 b)]) ?_
    refine r_iconst (pc := 52) (v := nI 1) C dX5_goOnTo_52 (by decide +kernel) ?_
    refine r_iadd (pc := 53) C dX5_goOnTo_53 ?_
    refine r_putf (pc := 54) C dX5_goOnTo_54 fp_RX5_27 hs4.1 rfl rfl (Nat.le_of_ble_eq_true rfl) ?_
    have hs5 := hs4.obj v.1 (v.2.2.2.1 + nI 1) (7 + 1) (by omega)
    rw [show cG v.2.2.2.2 = 8 from if_pos h6, show rmG v.2.2.2.2 rem v.2.2.1 = (fun i => if i < 7 then rem (i + 1) else v.2.2.1) from if_pos h6] at Z
    exact r_vret (pc := 57) C Z dX5_goOnTo_57 (⟨⟨pi, _, hs5, fun i hi => by have hi : i < 7 + 1 := hi; exact gg_last (rem := fun i => rem (i + 1)) hs.2.2.2.2.2.2.2.1 hl (by omega) hi⟩, hff2.up (by omega) (by omega)⟩)
