abbrev rmX2_init : Room := { frames := 1, cells := 12, slots := 250, locals := 40 }
abbrev rmX5_init : Room := { frames := 2, cells := 125, slots := 2435, locals := 80 }
set_option maxHeartbeats 4000000 in
set_option maxRecDepth 100000 in
theorem c_X2_init {S : ST} {b : Nat} {g : Nat → va_E} {i : Nat} (ho : Ce (fun i => b + i, i + 1) g i (.inr (2, [.int (nI 0), .null, .null]))) : Cn S b (i + 1) (i + 13) yX2_init cX2_init 1 rmX2_init [.ref (b + i)] g 250 (fun g' => PairAt S (fun i => b + i, i + 13) g' i zPV ∧ Fr g g' i (i + 13)) := by
  refine Cn.of RX2 (by decide +kernel) rfl rfl (Nat.le_of_ble_eq_true rfl) (fun M C Z B => ?_)
  refine G.eq (pc' := 0) (vs' := [some (.ref (b + i))]) (st' := []) ?_
  refine r_aload_n (pc := 0) C dX2_init_0 rfl ?_
  refine r_objI (pc := 1) C dX2_init_1 qM_RX2_3 (Nat.le_of_ble_eq_true rfl) (Nat.le_of_ble_eq_true rfl) ?_
  refine r_aload_n (pc := 4) C dX2_init_4 rfl ?_
  refine r_iconst (pc := 5) (v := nI 0) C dX2_init_5 (by decide +kernel) ?_
  refine r_putf (pc := 6) C dX2_init_6 fp_RX2_9 ho rfl rfl (Nat.le_of_ble_eq_true rfl) ?_
  show G M S (fun i => b + i, i + 1) (0, 0) (va_up g i (.inr (2, [.int (nI 0), .null, .null]))) 9 [some (.ref (b + i))] []
  refine r_aload_n (pc := 9) C dX2_init_9 rfl ?_
  refine r_iconst (pc := 10) (v := nI 5) C dX2_init_10 (by decide +kernel) ?_
  refine r_bipush (pc := 11) (v := nI 24) C dX2_init_11 (by decide +kernel) ?_
  refine r_mna (pc := 13) (k := (i + 1)) (n := (0, 0)) C B (show i + 1 = (i + 1) + 0 by omega) dX2_init_13 qL_RX2_15 rfl rfl (by decide) (by decide) (show 0 + (1 + 5) ≤ 12 by omega) (show 0 + (5 + 5 * 24) ≤ 250 by omega) ?_
  rintro g1 a1 r1 f1
  show G M S (fun i => b + i, i + 7) (6, 125) g1 17 [some (.ref (b + i))] [.ref (b + (i + 1)), .ref (b + i)]
  have q1 : Fr g g1 i (i + 13) := fun q hq => (f1 q (by omega)).trans ((Fr.up (Fr.rf (lo := i) (hi := i + 13)) (by omega) (by omega)) q hq)
  refine r_putF (pc := 17) C Z dX2_init_17 ff_RX2_17 (Ce.gr ((Ce.new ho).fr f1 (by omega)) (show i + 1 ≤ i + 7 by omega)) rfl rfl (Nat.le_of_ble_eq_true rfl) ?_
  show G M S (fun i => b + i, i + 7) (6, 125) (va_up g1 i (.inr (2, [.int (nI 0), .ref (b + (i + 1)), .null]))) 20 [some (.ref (b + i))] []
  refine r_aload_n (pc := 20) C dX2_init_20 rfl ?_
  refine r_iconst (pc := 21) (v := nI 5) C dX2_init_21 (by decide +kernel) ?_
  refine r_bipush (pc := 22) (v := nI 24) C dX2_init_22 (by decide +kernel) ?_
  refine r_mna (pc := 24) (k := (i + 7)) (n := (6, 125)) C B (show i + 7 = (i + 1) + 6 by omega) dX2_init_24 qL_RX2_15 rfl rfl (by decide) (by decide) (show 6 + (1 + 5) ≤ 12 by omega) (show 125 + (5 + 5 * 24) ≤ 250 by omega) ?_
  rintro g2 a2 r2 f2
  show G M S (fun i => b + i, i + 13) (12, 250) g2 28 [some (.ref (b + i))] [.ref (b + (i + 7)), .ref (b + i)]
  have q2 : Fr g g2 i (i + 13) := fun q hq => (f2 q (by omega)).trans ((q1.up (by omega) (by omega)) q hq)
  refine r_putF (pc := 28) C Z dX2_init_28 ff_RX2_20 (Ce.gr ((Ce.new (Ce.gr ((Ce.new ho).fr f1 (by omega)) (show i + 1 ≤ i + 7 by omega))).fr f2 (by omega)) (show i + 7 ≤ i + 13 by omega)) rfl rfl (Nat.le_of_ble_eq_true rfl) ?_
  show G M S (fun i => b + i, i + 13) (12, 250) (va_up g2 i (.inr (2, [.int (nI 0), .ref (b + (i + 1)), .ref (b + (i + 7))]))) 31 [some (.ref (b + i))] []
  exact r_vretC (pc := 31) C Z dX2_init_31 (⟨⟨(Ce.new (Ce.gr ((Ce.new (Ce.gr ((Ce.new ho).fr f1 (by omega)) (show i + 1 ≤ i + 7 by omega))).fr f2 (by omega)) (show i + 7 ≤ i + 13 by omega))), (Ce.up (Ce.gr ((Ce.up a1 (by omega)).fr f2 (by omega)) (show i + 7 ≤ i + 13 by omega)) (by omega)), (Ce.up a2 (by omega)), fun j hj => ⟨((((r1 j hj).up (by omega)).fr f2 (by omega)).gr (show i + 7 ≤ i + 13 by omega)).up (by omega), (r2 j hj).up (by omega)⟩⟩, q2.up (by omega) (by omega)⟩) (by show (_, _) = (_, _); congr 1 <;> omega)
theorem rm_s (b i t j : Nat) : va_up (fun j => if j < t then some (b + (i + 22 + 13 * j)) else none) t (some (b + (i + 22 + 13 * t))) j = if j < t + 1 then some (b + (i + 22 + 13 * j)) else none := by
  by_cases e : j = t
  · subst e; rw [va_up_self, if_pos (by omega)]
  · rw [va_up_ne _ _ e]
    by_cases h : j < t
    · rw [if_pos h, if_pos (by omega)]
    · rw [if_neg h, if_neg (by omega)]
set_option maxHeartbeats 4000000 in
set_option maxRecDepth 100000 in
theorem c_X5_init {S : ST} {b : Nat} {g : Nat → va_E} {i : Nat} (ho : Ce (fun i => b + i, i + 1) g i (.inr (5, [.int (nI 0), .null, .null, .int (nI 0), .null, .int (nI 0)]))) : Cn S b (i + 1) (i + 126) yX5_init cX5_init 2 rmX5_init [.ref (b + i)] g 2435 (fun g' => StL S (fun i => b + i, i + 126) g' i zSV (fun _ => zPV) ∧ Fr g g' i (i + 126)) := by
  refine Cn.of RX5 (by decide +kernel) rfl rfl (Nat.le_of_ble_eq_true rfl) (fun M C Z B => ?_)
  refine G.eq (pc' := 0) (vs' := [some (.ref (b + i)), none]) (st' := []) ?_
  refine r_aload_n (pc := 0) C dX5_init_0 rfl ?_
  refine r_objI (pc := 1) C dX5_init_1 qM_RX5_3 (Nat.le_of_ble_eq_true rfl) (Nat.le_of_ble_eq_true rfl) ?_
  refine r_aload_n (pc := 4) C dX5_init_4 rfl ?_
  refine r_bipush (pc := 5) (v := nI 12) C dX5_init_5 (by decide +kernel) ?_
  refine r_putf (pc := 7) C dX5_init_7 fp_RX5_9 ho rfl rfl (Nat.le_of_ble_eq_true rfl) ?_
  show G M S (fun i => b + i, i + 1) (0, 0) (va_up g i (.inr (5, [.int (nI 12), .null, .null, .int (nI 0), .null, .int (nI 0)]))) 10 [some (.ref (b + i)), none] []
  refine r_aload_n (pc := 10) C dX5_init_10 rfl ?_
  refine r_bipush (pc := 11) (v := nI 6) C dX5_init_11 (by decide +kernel) ?_
  refine r_bipush (pc := 13) (v := nI 24) C dX5_init_13 (by decide +kernel) ?_
  refine r_mna (pc := 15) (k := (i + 1)) (n := (0, 0)) C B (show i + 1 = (i + 1) + 0 by omega) dX5_init_15 qL_RX5_15 rfl rfl (by decide) (by decide) (show 0 + (1 + 6) ≤ 125 by omega) (show 0 + (6 + 6 * 24) ≤ 2435 by omega) ?_
  rintro g1 a1 r1 f1
  show G M S (fun i => b + i, i + 8) (7, 150) g1 19 [some (.ref (b + i)), none] [.ref (b + (i + 1)), .ref (b + i)]
  have q1 : Fr g g1 i (i + 126) := fun q hq => (f1 q (by omega)).trans ((Fr.up (Fr.rf (lo := i) (hi := i + 126)) (by omega) (by omega)) q hq)
  refine r_putF (pc := 19) C Z dX5_init_19 ff_RX5_17 (Ce.gr ((Ce.new ho).fr f1 (by omega)) (show i + 1 ≤ i + 8 by omega)) rfl rfl (Nat.le_of_ble_eq_true rfl) ?_
  show G M S (fun i => b + i, i + 8) (7, 150) (va_up g1 i (.inr (5, [.int (nI 12), .ref (b + (i + 1)), .null, .int (nI 0), .null, .int (nI 0)]))) 22 [some (.ref (b + i)), none] []
  refine r_aload_n (pc := 22) C dX5_init_22 rfl ?_
  refine r_new (pc := 23) (k := (i + 8)) (n := (7, 150)) C B (show i + 8 = (i + 1) + 7 by omega) dX5_init_23 nw_RX5_20 (show 7 + 1 ≤ 125 by omega) (show 150 + 3 ≤ 2435 by omega) ?_
  show G M S (fun i => b + i, i + 9) (8, 153) (va_up (va_up g1 i (.inr (5, [.int (nI 12), .ref (b + (i + 1)), .null, .int (nI 0), .null, .int (nI 0)]))) (i + 8) (.inr (2, [.int (nI 0), .null, .null]))) 26 [some (.ref (b + i)), none] [.ref (b + (i + 8)), .ref (b + i)]
  refine r_dup (pc := 26) C dX5_init_26 rfl ?_
  have q2 := (q1.up (e := .inr (5, [.int (nI 12), .ref (b + (i + 1)), .null, .int (nI 0), .null, .int (nI 0)])) (q := i) (by omega) (by omega)).up (e := .inr (2, [.int (nI 0), .null, .null])) (q := i + 8) (by omega) (by omega)
  refine r_callIN (pc := 27) (k := (i + 9)) (k1 := (i + 21)) (n := (8, 153)) C B (show i + 9 = (i + 1) + 8 by omega) dX5_init_27 (by decide +kernel) qI_X2_init qN_RX2 qC_X2_init rfl (by decide +kernel) (c_X2_init (Ce.nw (show i + 8 < i + 9 by omega))) ⟨show 12 = i + 21 - (i + 9) by omega, rfl, by decide, by decide⟩ (Nat.le_of_ble_eq_true rfl) ⟨(show 8 + (i + 21 - (i + 9)) ≤ 125 by omega), (show 153 + 250 ≤ 2435 by omega)⟩ ?_
  rintro g2 ⟨hp, f2⟩
  rw [show i + 21 - (i + 9) = 12 by omega]
  show G M S (fun i => b + i, i + 21) (20, 403) g2 30 [some (.ref (b + i)), none] [.ref (b + (i + 8)), .ref (b + i)]
  have q3 : Fr g g2 i (i + 126) := q2.tr f2 (by omega) (by omega)
  have r2 : ∀ j : Nat, j < 6 → Ce (fun i => b + i, i + 21) g2 (i + 1 + 1 + j) (xI S 24 (fun _ => 0)) := fun j hj => (((((r1 j hj).up (by omega)).gr (show i + 8 ≤ i + 9 by omega)).up (by omega)).fr f2 (by omega)).gr (show i + 9 ≤ i + 21 by omega)
  refine r_putF (pc := 30) C Z dX5_init_30 ff_RX5_23 (Ce.gr ((Ce.up (Ce.new (Ce.gr (Ce.gr ((Ce.new ho).fr f1 (by omega)) (show i + 1 ≤ i + 8 by omega)) (show _ ≤ i + 9 by omega))) (by omega)).fr f2 (by omega)) (show i + 9 ≤ i + 21 by omega)) rfl rfl (Nat.le_of_ble_eq_true rfl) ?_
  show G M S (fun i => b + i, i + 21) (20, 403) (va_up g2 i (.inr (5, [.int (nI 12), .ref (b + (i + 1)), .ref (b + (i + 8)), .int (nI 0), .null, .int (nI 0)]))) 33 [some (.ref (b + i)), none] []
  refine r_aload_n (pc := 33) C dX5_init_33 rfl ?_
  refine r_iconst (pc := 34) (v := nI 0) C dX5_init_34 (by decide +kernel) ?_
  refine r_putf2 (pc := 35) C dX5_init_35 fp_RX5_27 (show i < i + 21 by omega) rfl rfl (Nat.le_of_ble_eq_true rfl) ?_
  show G M S (fun i => b + i, i + 21) (20, 403) (va_up g2 i (.inr (5, [.int (nI 12), .ref (b + (i + 1)), .ref (b + (i + 8)), .int (nI 0), .null, .int (nI 0)]))) 38 [some (.ref (b + i)), none] []
  refine r_aload_n (pc := 38) C dX5_init_38 rfl ?_
  refine r_bipush (pc := 39) (v := nI 8) C dX5_init_39 (by decide +kernel) ?_
  refine r_newR (t := 4) (pc := 41) (k := (i + 21)) (n := (20, 403)) C B (show i + 21 = (i + 1) + 20 by omega) dX5_init_41 qL_RX5_20 (by decide) rfl (by decide) (show 20 + 1 ≤ 125 by omega) (show 403 + 8 ≤ 2435 by omega) ?_
  show G M S (fun i => b + i, i + 22) (21, 411) (va_up (va_up g2 i (.inr (5, [.int (nI 12), .ref (b + (i + 1)), .ref (b + (i + 8)), .int (nI 0), .null, .int (nI 0)]))) (i + 21) (xR S 4 8 (fun _ => none))) 44 [some (.ref (b + i)), none] [.ref (b + (i + 21)), .ref (b + i)]
  refine r_putF (pc := 44) C Z dX5_init_44 ff_RX5_30 (Ce.up (Ce.new (Ce.gr (Ce.gr ((Ce.up (Ce.new (Ce.gr (Ce.gr ((Ce.new ho).fr f1 (by omega)) (show i + 1 ≤ i + 8 by omega)) (show _ ≤ i + 9 by omega))) (by omega)).fr f2 (by omega)) (show i + 9 ≤ i + 21 by omega)) (show _ ≤ i + 22 by omega))) (by omega)) rfl rfl (Nat.le_of_ble_eq_true rfl) ?_
  show G M S (fun i => b + i, i + 22) (21, 411) (va_up (va_up (va_up g2 i (.inr (5, [.int (nI 12), .ref (b + (i + 1)), .ref (b + (i + 8)), .int (nI 0), .null, .int (nI 0)]))) (i + 21) (xR S 4 8 (fun _ => none))) i (.inr (5, [.int (nI 12), .ref (b + (i + 1)), .ref (b + (i + 8)), .int (nI 0), .ref (b + (i + 21)), .int (nI 0)]))) 47 [some (.ref (b + i)), none] []
  refine r_aload_n (pc := 47) C dX5_init_47 rfl ?_
  refine r_iconst (pc := 48) (v := nI 0) C dX5_init_48 (by decide +kernel) ?_
  refine r_putf2 (pc := 49) C dX5_init_49 fp_RX5_34 (show i < i + 22 by omega) rfl rfl (Nat.le_of_ble_eq_true rfl) ?_
  show G M S (fun i => b + i, i + 22) (21, 411) (va_up (va_up (va_up g2 i (.inr (5, [.int (nI 12), .ref (b + (i + 1)), .ref (b + (i + 8)), .int (nI 0), .null, .int (nI 0)]))) (i + 21) (xR S 4 8 (fun _ => none))) i (.inr (5, [.int (nI 12), .ref (b + (i + 1)), .ref (b + (i + 8)), .int (nI 0), .ref (b + (i + 21)), .int (nI 0)]))) 52 [some (.ref (b + i)), none] []
  refine r_iconst (pc := 52) (v := nI 0) C dX5_init_52 (by decide +kernel) ?_
  refine r_istore_n (pc := 53) C dX5_init_53 (by decide) ?_
  refine G.eq (pc' := 54) (vs' := [some (.ref (b + i)), some (.int (nI 0))]) (st' := []) ?_
  refine bk (P := fun t => ∀ h : Nat → va_E, (Ce (fun i => b + i, i + 22 + 13 * t) h i (.inr (5, [.int (nI 12), .ref (b + (i + 1)), .ref (b + (i + 8)), .int (nI 0), .ref (b + (i + 21)), .int (nI 0)])) ∧ Ce (fun i => b + i, i + 22 + 13 * t) h (i + 1) (xR S 3 6 (fun j => some (b + (i + 1 + 1 + j)))) ∧ (∀ j : Nat, j < 6 → Ce (fun i => b + i, i + 22 + 13 * t) h (i + 1 + 1 + j) (xI S 24 (fun _ => 0))) ∧ PairAt S (fun i => b + i, i + 22 + 13 * t) h (i + 8) zPV ∧ Ce (fun i => b + i, i + 22 + 13 * t) h (i + 21) (xR S 4 8 (fun j => if j < t then some (b + (i + 22 + 13 * j)) else none)) ∧ (∀ j : Nat, j < t → PairAt S (fun i => b + i, i + 22 + 13 * t) h (i + 22 + 13 * j) zPV) ∧ Fr g h i (i + 126)) → G M S (fun i => b + i, i + 22 + 13 * t) (21 + 13 * t, 411 + 253 * t) h 54 [some (.ref (b + i)), some (.int (nI t))] []) (T := 8) (fun h hI => ?_) (fun t ht ih h hI => ?_) _ ⟨((Ce.new (Ce.up (Ce.new (Ce.gr (Ce.gr ((Ce.up (Ce.new (Ce.gr (Ce.gr ((Ce.new ho).fr f1 (by omega)) (show i + 1 ≤ i + 8 by omega)) (show _ ≤ i + 9 by omega))) (by omega)).fr f2 (by omega)) (show i + 9 ≤ i + 21 by omega)) (show _ ≤ i + 22 by omega))) (by omega))).gr (show i + 22 ≤ i + 22 + 13 * 0 by omega)), ((Ce.up (Ce.up (Ce.up (Ce.gr (Ce.gr ((Ce.up (Ce.up (Ce.gr a1 (show _ ≤ i + 9 by omega)) (by omega)) (by omega)).fr f2 (by omega)) (show i + 9 ≤ i + 21 by omega)) (show _ ≤ i + 22 by omega)) (by omega)) (by omega)) (by omega)).gr (show i + 22 ≤ i + 22 + 13 * 0 by omega)), fun j hj => (((((r2 j hj).up (by omega)).up (by omega)).up (by omega)).gr (show i + 21 ≤ i + 22 + 13 * 0 by omega)), ((((hp.out (by omega)).out (by omega)).out (by omega)).gr (show i + 21 ≤ i + 22 + 13 * 0 by omega)), ((Ce.up (Ce.nw (show i + 21 < i + 22 by omega)) (by omega)).gr (show i + 22 ≤ i + 22 + 13 * 0 by omega)), fun j hj => absurd hj (Nat.not_lt_zero j), (((q3.up (by omega) (by omega)).up (by omega) (by omega)).up (by omega) (by omega))⟩
  · obtain ⟨io, ia, ir, ip, im, iq, ifr⟩ := hI
    show G M S (fun i => b + i, i + 22 + 13 * 8) (21 + 13 * 8, 411 + 253 * 8) h 54 [some (.ref (b + i)), some (.int (nI 8))] []
    refine r_iload_n (pc := 54) C dX5_init_54 rfl ?_
    refine r_bipush (pc := 55) (v := nI 8) C dX5_init_55 (by decide +kernel) ?_
    refine r_icmp_ge (pc := 57) (tgt := 79) C dX5_init_57 (by decide) (fun h57 => ?_) (fun h57 => ?_)
    · have h57 := c_le (by omega) (by omega) h57
      refine G.heap (Ce.id im) ?_
      refine G.cR (f' := fun j => some (b + (i + 22 + 13 * j))) (fun j hj => if_pos hj) ?_
      exact r_vretC (pc := 79) C Z dX5_init_79 (⟨⟨fun j => j, fun _ => zPV, ⟨(Ce.up io (by omega)), (Ce.up ia (by omega)), (Ce.new im), fun j hj => (ir j hj).up (by omega), ip.out (by omega), fun j hj => (iq j hj).out (by omega), fun j hj => hj, fun _ _ _ _ e => e, Nat.zero_le _⟩, fun j hj => rfl⟩, ifr.up (by omega) (by omega)⟩) (by show (_, _) = (_, _); congr 1 <;> omega)
    · have h57 := c_nle (by omega) (by omega) h57
      omega
  · obtain ⟨io, ia, ir, ip, im, iq, ifr⟩ := hI
    show G M S (fun i => b + i, i + 22 + 13 * t) (21 + 13 * t, 411 + 253 * t) h 54 [some (.ref (b + i)), some (.int (nI t))] []
    refine r_iload_n (pc := 54) C dX5_init_54 rfl ?_
    refine r_bipush (pc := 55) (v := nI 8) C dX5_init_55 (by decide +kernel) ?_
    refine r_icmp_ge (pc := 57) (tgt := 79) C dX5_init_57 (by decide) (fun h57 => ?_) (fun h57 => ?_)
    · have h57 := c_le (by omega) (by omega) h57
      omega
    · have h57 := c_nle (by omega) (by omega) h57
      refine r_aload_n (pc := 60) C dX5_init_60 rfl ?_
      refine r_getf (pc := 61) C dX5_init_61 fl_RX5_30 io rfl ?_
      refine r_iload_n (pc := 64) C dX5_init_64 rfl ?_
      refine r_new (pc := 65) (k := (i + 22 + 13 * t)) (n := (21 + 13 * t, 411 + 253 * t)) C B (show i + 22 + 13 * t = (i + 1) + (21 + 13 * t) by omega) dX5_init_65 nw_RX5_20 (show 21 + 13 * t + 1 ≤ 125 by omega) (show 411 + 253 * t + 3 ≤ 2435 by omega) ?_
      show G M S (fun i => b + i, i + 22 + 13 * t + 1) (21 + 13 * t + 1, 411 + 253 * t + 3) (va_up h (i + 22 + 13 * t) (.inr (2, [.int (nI 0), .null, .null]))) 68 [some (.ref (b + i)), some (.int (nI t))] [.ref (b + (i + 22 + 13 * t)), .int (nI t), .ref (b + (i + 21))]
      refine r_dup (pc := 68) C dX5_init_68 rfl ?_
      have k1 := ifr.up (e := .inr (2, [.int (nI 0), .null, .null])) (q := i + 22 + 13 * t) (by omega) (by omega)
      refine r_callIN (pc := 69) (k := (i + 22 + 13 * t + 1)) (k1 := (i + 22 + 13 * t + 13)) (n := (21 + 13 * t + 1, 411 + 253 * t + 3)) C B (show i + 22 + 13 * t + 1 = (i + 1) + (21 + 13 * t + 1) by omega) dX5_init_69 (by decide +kernel) qI_X2_init qN_RX2 qC_X2_init rfl (by decide +kernel) (c_X2_init (Ce.nw (show i + 22 + 13 * t < i + 22 + 13 * t + 1 by omega))) ⟨show 12 = i + 22 + 13 * t + 13 - (i + 22 + 13 * t + 1) by omega, rfl, by decide, by decide⟩ (Nat.le_of_ble_eq_true rfl) ⟨(show 21 + 13 * t + 1 + (i + 22 + 13 * t + 13 - (i + 22 + 13 * t + 1)) ≤ 125 by omega), (show 411 + 253 * t + 3 + 250 ≤ 2435 by omega)⟩ ?_
      rintro h2 ⟨hp, f2⟩
      rw [show i + 22 + 13 * t + 13 - (i + 22 + 13 * t + 1) = 12 by omega]
      show G M S (fun i => b + i, i + 22 + 13 * t + 13) (21 + 13 * t + 13, 411 + 253 * t + 253) h2 72 [some (.ref (b + i)), some (.int (nI t))] [.ref (b + (i + 22 + 13 * t)), .int (nI t), .ref (b + (i + 21))]
      have k2 : Fr g h2 i (i + 126) := k1.tr f2 (by omega) (by omega)
      refine r_aast (pc := 72) C dX5_init_72 (Ce.gr ((Ce.up (Ce.gr im (show _ ≤ i + 22 + 13 * t + 1 by omega)) (by omega)).fr f2 (by omega)) (show i + 22 + 13 * t + 1 ≤ i + 22 + 13 * t + 13 by omega)) hp.1 rfl rfl rfl (by omega) (by omega) ?_
      show G M S (fun i => b + i, i + 22 + 13 * t + 13) (21 + 13 * t + 13, 411 + 253 * t + 253) (va_up h2 (i + 21) (xR S 4 8 (va_up (fun j => if j < t then some (b + (i + 22 + 13 * j)) else none) t (some (b + (i + 22 + 13 * t)))))) 73 [some (.ref (b + i)), some (.int (nI t))] []
      refine G.cR (f' := fun j => if j < t + 1 then some (b + (i + 22 + 13 * j)) else none) (fun j _ => rm_s b i t j) ?_
      refine r_iinc (pc := 73) (v := nI (t + 1)) C dX5_init_73 rfl (nI_i1 _) (by decide) ?_
      refine G.eq (pc' := 76) (vs' := [some (.ref (b + i)), some (.int (nI (t + 1)))]) (st' := []) ?_
      refine r_goto (pc := 76) (tgt := 54) C dX5_init_76 (by decide) ?_
      have e9 : i + 22 + 13 * (t + 1) = i + 22 + 13 * t + 13 := by omega
      have n9 : (21 + 13 * (t + 1), 411 + 253 * (t + 1)) = (21 + 13 * t + 13, 411 + 253 * t + 253) := by congr 1 <;> omega
      have iq2 : ∀ j : Nat, j < t + 1 → PairAt S (fun i => b + i, i + 22 + 13 * t + 13) (va_up h2 (i + 21) (xR S 4 8 (fun j => if j < t + 1 then some (b + (i + 22 + 13 * j)) else none))) (i + 22 + 13 * j) zPV := fun j hj => by
        by_cases ej : j = t
        · subst ej; exact hp.out (by omega)
        · exact (((((iq j (by omega)).gr (show i + 22 + 13 * t ≤ i + 22 + 13 * t + 1 by omega)).out (by omega)).fr f2 (by omega)).gr (show i + 22 + 13 * t + 1 ≤ i + 22 + 13 * t + 13 by omega)).out (by omega)
      have hh := ih (va_up h2 (i + 21) (xR S 4 8 (fun j => if j < t + 1 then some (b + (i + 22 + 13 * j)) else none))) (by rw [e9]; exact ⟨(Ce.up (Ce.gr ((Ce.up (Ce.gr io (show _ ≤ i + 22 + 13 * t + 1 by omega)) (by omega)).fr f2 (by omega)) (show i + 22 + 13 * t + 1 ≤ i + 22 + 13 * t + 13 by omega)) (by omega)), (Ce.up (Ce.gr ((Ce.up (Ce.gr ia (show _ ≤ i + 22 + 13 * t + 1 by omega)) (by omega)).fr f2 (by omega)) (show i + 22 + 13 * t + 1 ≤ i + 22 + 13 * t + 13 by omega)) (by omega)), fun j hj => (((((ir j hj).gr (show i + 22 + 13 * t ≤ i + 22 + 13 * t + 1 by omega)).up (by omega)).fr f2 (by omega)).gr (show i + 22 + 13 * t + 1 ≤ i + 22 + 13 * t + 13 by omega)).up (by omega), ((((ip.gr (show i + 22 + 13 * t ≤ i + 22 + 13 * t + 1 by omega)).out (by omega)).fr f2 (by omega)).gr (show i + 22 + 13 * t + 1 ≤ i + 22 + 13 * t + 13 by omega)).out (by omega), (Ce.new (Ce.gr ((Ce.up (Ce.gr im (show _ ≤ i + 22 + 13 * t + 1 by omega)) (by omega)).fr f2 (by omega)) (show i + 22 + 13 * t + 1 ≤ i + 22 + 13 * t + 13 by omega))), iq2, k2.up (by omega) (by omega)⟩)
      rw [e9, n9] at hh
      exact hh
