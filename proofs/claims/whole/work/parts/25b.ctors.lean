theorem Ce.gr {F : Nat → Nat} {k k1 : Nat} {g : Nat → va_E} {i : Nat} {e : va_E} (c : Ce (F, k) g i e) (h : k ≤ k1) : Ce (F, k1) g i e := ⟨Nat.lt_of_lt_of_le c.1 h, c.2⟩
theorem Ce.nw {F : Nat → Nat} {k : Nat} {g : Nat → va_E} {i : Nat} {e : va_E} (h : i < k) : Ce (F, k) (va_up g i e) i e := ⟨h, va_up_self _ _ _⟩
theorem Wd.gr {S : ST} {F : Nat → Nat} {k k1 : Nat} {g : Nat → va_E} {i : Nat} (c : Wd S (F, k) g i) (h : k ≤ k1) : Wd S (F, k1) g i := by
  obtain ⟨N, f, h1, h2⟩ := c
  exact ⟨N, f, h1.gr h, h2.gr h⟩
theorem PairAt.gr {S : ST} {F : Nat → Nat} {k k1 : Nat} {g : Nat → va_E} {i : Nat} {v : PV} (c : PairAt S (F, k) g i v) (h : k ≤ k1) : PairAt S (F, k1) g i v := ⟨c.1.gr h, c.2.1.gr h, c.2.2.1.gr h, fun j hj => ⟨(c.2.2.2 j hj).1.gr h, (c.2.2.2 j hj).2.gr h⟩⟩
theorem StAt.gr {S : ST} {F : Nat → Nat} {k k1 : Nat} {g : Nat → va_E} {i : Nat} {v : SV} {pi : Nat → Nat} {ra : Nat → PV} (c : StAt S (F, k) g i v pi ra) (h : k ≤ k1) : StAt S (F, k1) g i v pi ra := ⟨c.1.gr h, c.2.1.gr h, c.2.2.1.gr h, fun j hj => (c.2.2.2.1 j hj).gr h, c.2.2.2.2.1.gr h, fun j hj => (c.2.2.2.2.2.1 j hj).gr h, c.2.2.2.2.2.2⟩
theorem StL.gr {S : ST} {F : Nat → Nat} {k k1 : Nat} {g : Nat → va_E} {i : Nat} {v : SV} {rem : Nat → PV} (c : StL S (F, k) g i v rem) (h : k ≤ k1) : StL S (F, k1) g i v rem := by
  obtain ⟨pi, ra, h1, h2⟩ := c
  exact ⟨pi, ra, h1.gr h, h2⟩
def zPV : PV := (0, fun _ _ => 0, fun _ _ => 0)
def zSV : SV := (12, fun _ _ => 0, zPV, nI 0, 0)
theorem nw_RX5_20 : NW RX5 20 2 3 [.int (nI 0), .null, .null] := ⟨RX2, TX2, tyX2, rfl, uw_X2, tyX2_ok, qL_RX5_20, qA_RX2, qN_RX2, fun j hj => by
  match j, hj with
  | 0, _ => rfl
  | 1, _ => rfl
  | 2, _ => rfl
  | j + 3, hj => omega⟩
theorem nw_RX7_11 : NW RX7 11 5 6 [.int (nI 0), .null, .null, .int (nI 0), .null, .int (nI 0)] := ⟨RX5, TX5, tyX5, rfl, uw_X5, tyX5_ok, qL_RX7_11, qA_RX5, qN_RX5, fun j hj => by
  match j, hj with
  | 0, _ => rfl
  | 1, _ => rfl
  | 2, _ => rfl
  | 3, _ => rfl
  | 4, _ => rfl
  | 5, _ => rfl
  | j + 6, hj => omega⟩
theorem nw_RX7_25 : NW RX7 25 2 3 [.int (nI 0), .null, .null] := ⟨RX2, TX2, tyX2, rfl, uw_X2, tyX2_ok, qL_RX7_25, qA_RX2, qN_RX2, fun j hj => by
  match j, hj with
  | 0, _ => rfl
  | 1, _ => rfl
  | 2, _ => rfl
  | j + 3, hj => omega⟩
theorem nw_RX7_32 : NW RX7 32 6 2 [.null, .int (nI 0)] := ⟨RX6, TX6, tyX6, rfl, uw_X6, tyX6_ok, qL_RX7_32, qA_RX6, qN_RX6, fun j hj => by
  match j, hj with
  | 0, _ => rfl
  | 1, _ => rfl
  | j + 2, hj => omega⟩
theorem nw_RX7_46 : NW RX7 46 3 2 [.null, .int (nI 0)] := ⟨RX3, TX3, tyX3, rfl, uw_X3, tyX3_ok, qL_RX7_46, qA_RX3, qN_RX3, fun j hj => by
  match j, hj with
  | 0, _ => rfl
  | 1, _ => rfl
  | j + 2, hj => omega⟩
theorem nw_RX7_53 : NW RX7 53 0 3 [.null, .int (nI 0), .int (nI 0)] := ⟨RX0, TX0, tyX0, rfl, uw_X0, tyX0_ok, qL_RX7_53, qA_RX0, qN_RX0, fun j hj => by
  match j, hj with
  | 0, _ => rfl
  | 1, _ => rfl
  | 2, _ => rfl
  | j + 3, hj => omega⟩
theorem nw_RX7_60 : NW RX7 60 1 2 [.null, .int (nI 0)] := ⟨RX1, TX1, tyX1, rfl, uw_X1, tyX1_ok, qL_RX7_60, qA_RX1, qN_RX1, fun j hj => by
  match j, hj with
  | 0, _ => rfl
  | 1, _ => rfl
  | j + 2, hj => omega⟩
theorem nw_RX7_67 : NW RX7 67 4 4 [.null, .int (nI 0), .int (nI 0), .int (nI 0)] := ⟨RX4, TX4, tyX4, rfl, uw_X4, tyX4_ok, qL_RX7_67, qA_RX4, qN_RX4, fun j hj => by
  match j, hj with
  | 0, _ => rfl
  | 1, _ => rfl
  | 2, _ => rfl
  | 3, _ => rfl
  | j + 4, hj => omega⟩
theorem nw_RL_7 : NW RL 7 7 11 [.null, .null, .int (nI 0), .null, .null, .null, .null, .null, .null, .null, .null] := ⟨RX7, TX7, tyX7, rfl, uw_X7, tyX7_ok, qL_RL_7, qA_RX7, qN_RX7, fun j hj => by
  match j, hj with
  | 0, _ => rfl
  | 1, _ => rfl
  | 2, _ => rfl
  | 3, _ => rfl
  | 4, _ => rfl
  | 5, _ => rfl
  | 6, _ => rfl
  | 7, _ => rfl
  | 8, _ => rfl
  | 9, _ => rfl
  | 10, _ => rfl
  | j + 11, hj => omega⟩
theorem nw_RL_10 : NW RL 10 8 32 [.int (nI 0), .int (nI 0), .int (nI 0), .int (nI 0), .null, .null, .null, .null, .null, .null, .null, .null, .null, .null, .null, .null, .int (nI 0), .null, .null, .null, .null, .int (nI 0), .int (nI 0), .int (nI 0), .null, .null, .null, .null, .null, .int (nI 0), .int (nI 0), .int (nI 0)] := ⟨RX8, TX8, tyX8, rfl, uw_X8, tyX8_ok, qL_RL_10, qA_RX8, qN_RX8, fun j hj => by
  match j, hj with
  | 0, _ => rfl
  | 1, _ => rfl
  | 2, _ => rfl
  | 3, _ => rfl
  | 4, _ => rfl
  | 5, _ => rfl
  | 6, _ => rfl
  | 7, _ => rfl
  | 8, _ => rfl
  | 9, _ => rfl
  | 10, _ => rfl
  | 11, _ => rfl
  | 12, _ => rfl
  | 13, _ => rfl
  | 14, _ => rfl
  | 15, _ => rfl
  | 16, _ => rfl
  | 17, _ => rfl
  | 18, _ => rfl
  | 19, _ => rfl
  | 20, _ => rfl
  | 21, _ => rfl
  | 22, _ => rfl
  | 23, _ => rfl
  | 24, _ => rfl
  | 25, _ => rfl
  | 26, _ => rfl
  | 27, _ => rfl
  | 28, _ => rfl
  | 29, _ => rfl
  | 30, _ => rfl
  | 31, _ => rfl
  | j + 32, hj => omega⟩
theorem ff_RX0_9 : FF RX0 9 0 0 (.array .byte) := ⟨RX0, TX0, 3, tyX0, rfl, by decide, qF_RX0_9, uw_X0, tyX0_ok, nmX0, rfl, rfl, by decide +kernel⟩
theorem ff_RX1_9 : FF RX1 9 1 0 (.array .byte) := ⟨RX1, TX1, 2, tyX1, rfl, by decide, qF_RX1_9, uw_X1, tyX1_ok, nmX1, rfl, rfl, by decide +kernel⟩
theorem ff_RX2_17 : FF RX2 17 2 1 (.array (.array .int)) := ⟨RX2, TX2, 3, tyX2, rfl, by decide, qF_RX2_17, uw_X2, tyX2_ok, nmX2, rfl, rfl, by decide +kernel⟩
theorem ff_RX2_20 : FF RX2 20 2 2 (.array (.array .int)) := ⟨RX2, TX2, 3, tyX2, rfl, by decide, qF_RX2_20, uw_X2, tyX2_ok, nmX2, rfl, rfl, by decide +kernel⟩
theorem ff_RX3_9 : FF RX3 9 3 0 (.array .byte) := ⟨RX3, TX3, 2, tyX3, rfl, by decide, qF_RX3_9, uw_X3, tyX3_ok, nmX3, rfl, rfl, by decide +kernel⟩
theorem ff_RX4_9 : FF RX4 9 4 0 (.array .long) := ⟨RX4, TX4, 4, tyX4, rfl, by decide, qF_RX4_9, uw_X4, tyX4_ok, nmX4, rfl, rfl, by decide +kernel⟩
theorem ff_RX5_17 : FF RX5 17 5 1 (.array (.array .int)) := ⟨RX5, TX5, 6, tyX5, rfl, by decide, qF_RX5_17, uw_X5, tyX5_ok, nmX5, rfl, rfl, by decide +kernel⟩
theorem ff_RX5_23 : FF RX5 23 5 2 (.object "BaileyChain$Pai\x72") := ⟨RX5, TX5, 6, tyX5, rfl, by decide, qF_RX5_23, uw_X5, tyX5_ok, nmX5, rfl, rfl, by decide +kernel⟩
theorem ff_RX5_30 : FF RX5 30 5 4 (.array (.object "BaileyChain$Pai\x72")) := ⟨RX5, TX5, 6, tyX5, rfl, by decide, qF_RX5_30, uw_X5, tyX5_ok, nmX5, rfl, rfl, by decide +kernel⟩
theorem ff_RX6_9 : FF RX6 9 6 0 (.array .long) := ⟨RX6, TX6, 2, tyX6, rfl, by decide, qF_RX6_9, uw_X6, tyX6_ok, nmX6, rfl, rfl, by decide +kernel⟩
theorem ff_RX7_14 : FF RX7 14 7 0 (.object "BaileyChain$State") := ⟨RX7, TX7, 11, tyX7, rfl, by decide, qF_RX7_14, uw_X7, tyX7_ok, nmX7, rfl, rfl, by decide +kernel⟩
theorem ff_RX7_18 : FF RX7 18 7 1 (.object "BaileyChain$State") := ⟨RX7, TX7, 11, tyX7, rfl, by decide, qF_RX7_18, uw_X7, tyX7_ok, nmX7, rfl, rfl, by decide +kernel⟩
theorem ff_RX7_28 : FF RX7 28 7 3 (.object "BaileyChain$Pai\x72") := ⟨RX7, TX7, 11, tyX7, rfl, by decide, qF_RX7_28, uw_X7, tyX7_ok, nmX7, rfl, rfl, by decide +kernel⟩
theorem ff_RX7_35 : FF RX7 35 7 4 (.object "BaileyChain$Wide") := ⟨RX7, TX7, 11, tyX7, rfl, by decide, qF_RX7_35, uw_X7, tyX7_ok, nmX7, rfl, rfl, by decide +kernel⟩
theorem ff_RX7_39 : FF RX7 39 7 5 (.object "BaileyChain$Wide") := ⟨RX7, TX7, 11, tyX7, rfl, by decide, qF_RX7_39, uw_X7, tyX7_ok, nmX7, rfl, rfl, by decide +kernel⟩
theorem ff_RX7_42 : FF RX7 42 7 6 (.array .long) := ⟨RX7, TX7, 11, tyX7, rfl, by decide, qF_RX7_42, uw_X7, tyX7_ok, nmX7, rfl, rfl, by decide +kernel⟩
theorem ff_RX7_49 : FF RX7 49 7 7 (.object "BaileyChain$Partitions") := ⟨RX7, TX7, 11, tyX7, rfl, by decide, qF_RX7_49, uw_X7, tyX7_ok, nmX7, rfl, rfl, by decide +kernel⟩
theorem ff_RX7_56 : FF RX7 56 7 8 (.object "BaileyChain$Input") := ⟨RX7, TX7, 11, tyX7, rfl, by decide, qF_RX7_56, uw_X7, tyX7_ok, nmX7, rfl, rfl, by decide +kernel⟩
theorem ff_RX7_63 : FF RX7 63 7 9 (.object "BaileyChain$Output") := ⟨RX7, TX7, 11, tyX7, rfl, by decide, qF_RX7_63, uw_X7, tyX7_ok, nmX7, rfl, rfl, by decide +kernel⟩
theorem ff_RX7_69 : FF RX7 69 7 10 (.array (.object "BaileyChain$Slot")) := ⟨RX7, TX7, 11, tyX7, rfl, by decide, qF_RX7_69, uw_X7, tyX7_ok, nmX7, rfl, rfl, by decide +kernel⟩
theorem ff_RX8_21 : FF RX8 21 8 4 (.array .long) := ⟨RX8, TX8, 32, tyX8, rfl, by decide, qF_RX8_21, uw_X8, tyX8_ok, nmX8, rfl, rfl, by decide +kernel⟩
theorem ff_RX8_25 : FF RX8 25 8 5 (.array .long) := ⟨RX8, TX8, 32, tyX8, rfl, by decide, qF_RX8_25, uw_X8, tyX8_ok, nmX8, rfl, rfl, by decide +kernel⟩
theorem ff_RX8_28 : FF RX8 28 8 6 (.array .long) := ⟨RX8, TX8, 32, tyX8, rfl, by decide, qF_RX8_28, uw_X8, tyX8_ok, nmX8, rfl, rfl, by decide +kernel⟩
theorem ff_RX8_31 : FF RX8 31 8 7 (.array .long) := ⟨RX8, TX8, 32, tyX8, rfl, by decide, qF_RX8_31, uw_X8, tyX8_ok, nmX8, rfl, rfl, by decide +kernel⟩
theorem ff_RX8_34 : FF RX8 34 8 8 (.array .long) := ⟨RX8, TX8, 32, tyX8, rfl, by decide, qF_RX8_34, uw_X8, tyX8_ok, nmX8, rfl, rfl, by decide +kernel⟩
theorem ff_RX8_37 : FF RX8 37 8 9 (.array .long) := ⟨RX8, TX8, 32, tyX8, rfl, by decide, qF_RX8_37, uw_X8, tyX8_ok, nmX8, rfl, rfl, by decide +kernel⟩
theorem ff_RX8_40 : FF RX8 40 8 10 (.array .long) := ⟨RX8, TX8, 32, tyX8, rfl, by decide, qF_RX8_40, uw_X8, tyX8_ok, nmX8, rfl, rfl, by decide +kernel⟩
theorem ff_RX8_43 : FF RX8 43 8 11 (.array .long) := ⟨RX8, TX8, 32, tyX8, rfl, by decide, qF_RX8_43, uw_X8, tyX8_ok, nmX8, rfl, rfl, by decide +kernel⟩
theorem ff_RX8_46 : FF RX8 46 8 12 (.array .long) := ⟨RX8, TX8, 32, tyX8, rfl, by decide, qF_RX8_46, uw_X8, tyX8_ok, nmX8, rfl, rfl, by decide +kernel⟩
theorem ff_RX8_49 : FF RX8 49 8 13 (.array .long) := ⟨RX8, TX8, 32, tyX8, rfl, by decide, qF_RX8_49, uw_X8, tyX8_ok, nmX8, rfl, rfl, by decide +kernel⟩
theorem ff_RX8_52 : FF RX8 52 8 14 (.array .int) := ⟨RX8, TX8, 32, tyX8, rfl, by decide, qF_RX8_52, uw_X8, tyX8_ok, nmX8, rfl, rfl, by decide +kernel⟩
theorem ff_RX8_56 : FF RX8 56 8 15 (.array .int) := ⟨RX8, TX8, 32, tyX8, rfl, by decide, qF_RX8_56, uw_X8, tyX8_ok, nmX8, rfl, rfl, by decide +kernel⟩
theorem ff_RX8_59 : FF RX8 59 8 17 (.array .int) := ⟨RX8, TX8, 32, tyX8, rfl, by decide, qF_RX8_59, uw_X8, tyX8_ok, nmX8, rfl, rfl, by decide +kernel⟩
theorem ff_RX8_62 : FF RX8 62 8 18 (.array .int) := ⟨RX8, TX8, 32, tyX8, rfl, by decide, qF_RX8_62, uw_X8, tyX8_ok, nmX8, rfl, rfl, by decide +kernel⟩
theorem ff_RX8_65 : FF RX8 65 8 19 (.array .int) := ⟨RX8, TX8, 32, tyX8, rfl, by decide, qF_RX8_65, uw_X8, tyX8_ok, nmX8, rfl, rfl, by decide +kernel⟩
theorem ff_RX8_68 : FF RX8 68 8 20 (.array .int) := ⟨RX8, TX8, 32, tyX8, rfl, by decide, qF_RX8_68, uw_X8, tyX8_ok, nmX8, rfl, rfl, by decide +kernel⟩
theorem ff_RX8_71 : FF RX8 71 8 24 (.array .int) := ⟨RX8, TX8, 32, tyX8, rfl, by decide, qF_RX8_71, uw_X8, tyX8_ok, nmX8, rfl, rfl, by decide +kernel⟩
theorem ff_RX8_74 : FF RX8 74 8 25 (.array .int) := ⟨RX8, TX8, 32, tyX8, rfl, by decide, qF_RX8_74, uw_X8, tyX8_ok, nmX8, rfl, rfl, by decide +kernel⟩
theorem ff_RX8_77 : FF RX8 77 8 26 (.array .long) := ⟨RX8, TX8, 32, tyX8, rfl, by decide, qF_RX8_77, uw_X8, tyX8_ok, nmX8, rfl, rfl, by decide +kernel⟩
theorem ff_RX8_80 : FF RX8 80 8 27 (.array .long) := ⟨RX8, TX8, 32, tyX8, rfl, by decide, qF_RX8_80, uw_X8, tyX8_ok, nmX8, rfl, rfl, by decide +kernel⟩
theorem ff_RX8_83 : FF RX8 83 8 28 (.array .long) := ⟨RX8, TX8, 32, tyX8, rfl, by decide, qF_RX8_83, uw_X8, tyX8_ok, nmX8, rfl, rfl, by decide +kernel⟩
abbrev rmX6_init : Room := { frames := 1, cells := 1, slots := 24, locals := 40 }
set_option maxHeartbeats 4000000 in
set_option maxRecDepth 100000 in
theorem c_X6_init {S : ST} {b : Nat} {g : Nat → va_E} {i : Nat} (ho : Ce (fun i => b + i, i + 1) g i (.inr (6, [.null, .int (nI 0)]))) : Cn S b (i + 1) (i + 2) yX6_init cX6_init 1 rmX6_init [.ref (b + i)] g 24 (fun g' => Ce (fun i => b + i, i + 2) g' i (.inr (6, [.ref (b + (i + 1)), .int (nI 4)])) ∧ Ce (fun i => b + i, i + 2) g' (i + 1) (xJ S 24 (fun _ => 0)) ∧ Fr g g' i (i + 2)) := by
  refine Cn.of RX6 (by decide +kernel) rfl rfl (Nat.le_of_ble_eq_true rfl) (fun M C Z B => ?_)
  refine G.eq (pc' := 0) (vs' := [some (.ref (b + i))]) (st' := []) ?_
  refine r_aload_n (pc := 0) C dX6_init_0 rfl ?_
  refine r_objI (pc := 1) C dX6_init_1 qM_RX6_3 (Nat.le_of_ble_eq_true rfl) (Nat.le_of_ble_eq_true rfl) ?_
  refine r_aload_n (pc := 4) C dX6_init_4 rfl ?_
  refine r_bipush (pc := 5) (v := nI 24) C dX6_init_5 (by decide +kernel) ?_
  refine r_newJ (pc := 7) (k := (i + 1)) (n := (0, 0)) C B (show i + 1 = (i + 1) + 0 by omega) dX6_init_7 rfl (by decide) (show 0 + 1 ≤ 1 by omega) (show 0 + 24 ≤ 24 by omega) ?_
  show G M S (fun i => b + i, i + 2) (1, 24) (va_up g (i + 1) (xJ S 24 (fun _ => 0))) 9 [some (.ref (b + i))] [.ref (b + (i + 1)), .ref (b + i)]
  refine r_putF (pc := 9) C Z dX6_init_9 ff_RX6_9 (Ce.up (Ce.gr ho (show _ ≤ i + 2 by omega)) (by omega)) rfl rfl (Nat.le_of_ble_eq_true rfl) ?_
  show G M S (fun i => b + i, i + 2) (1, 24) (va_up (va_up g (i + 1) (xJ S 24 (fun _ => 0))) i (.inr (6, [.ref (b + (i + 1)), .int (nI 0)]))) 12 [some (.ref (b + i))] []
  refine r_aload_n (pc := 12) C dX6_init_12 rfl ?_
  refine r_iconst (pc := 13) (v := nI 4) C dX6_init_13 (by decide +kernel) ?_
  refine r_putf2 (pc := 14) C dX6_init_14 fp_RX6_15 (show i < i + 2 by omega) rfl rfl (Nat.le_of_ble_eq_true rfl) ?_
  show G M S (fun i => b + i, i + 2) (1, 24) (va_up (va_up g (i + 1) (xJ S 24 (fun _ => 0))) i (.inr (6, [.ref (b + (i + 1)), .int (nI 4)]))) 17 [some (.ref (b + i))] []
  exact r_vretC (pc := 17) C Z dX6_init_17 (⟨(Ce.new (Ce.up (Ce.gr ho (show _ ≤ i + 2 by omega)) (by omega))), (Ce.up (Ce.nw (show i + 1 < i + 2 by omega)) (by omega)), ((Fr.rf.up (by omega) (by omega)).up (by omega) (by omega))⟩) (by show (_, _) = (_, _); congr 1 <;> omega)
abbrev rmX0_init : Room := { frames := 1, cells := 1, slots := 60, locals := 40 }
set_option maxHeartbeats 4000000 in
set_option maxRecDepth 100000 in
theorem c_X0_init {S : ST} {b : Nat} {g : Nat → va_E} {i : Nat} (ho : Ce (fun i => b + i, i + 1) g i (.inr (0, [.null, .int (nI 0), .int (nI 0)]))) : Cn S b (i + 1) (i + 2) yX0_init cX0_init 1 rmX0_init [.ref (b + i)] g 60 (fun g' => Ce (fun i => b + i, i + 2) g' i (.inr (0, [.ref (b + (i + 1)), .int (nI 0), .int (nI 0)])) ∧ Ce (fun i => b + i, i + 2) g' (i + 1) (xB S 60 (fun _ => 0)) ∧ Fr g g' i (i + 2)) := by
  refine Cn.of RX0 (by decide +kernel) rfl rfl (Nat.le_of_ble_eq_true rfl) (fun M C Z B => ?_)
  refine G.eq (pc' := 0) (vs' := [some (.ref (b + i))]) (st' := []) ?_
  refine r_aload_n (pc := 0) C dX0_init_0 rfl ?_
  refine r_objI (pc := 1) C dX0_init_1 qM_RX0_3 (Nat.le_of_ble_eq_true rfl) (Nat.le_of_ble_eq_true rfl) ?_
  refine r_aload_n (pc := 4) C dX0_init_4 rfl ?_
  refine r_bipush (pc := 5) (v := nI 60) C dX0_init_5 (by decide +kernel) ?_
  refine r_newB (pc := 7) (k := (i + 1)) (n := (0, 0)) C B (show i + 1 = (i + 1) + 0 by omega) dX0_init_7 rfl (by decide) (show 0 + 1 ≤ 1 by omega) (show 0 + 60 ≤ 60 by omega) ?_
  show G M S (fun i => b + i, i + 2) (1, 60) (va_up g (i + 1) (xB S 60 (fun _ => 0))) 9 [some (.ref (b + i))] [.ref (b + (i + 1)), .ref (b + i)]
  refine r_putF (pc := 9) C Z dX0_init_9 ff_RX0_9 (Ce.up (Ce.gr ho (show _ ≤ i + 2 by omega)) (by omega)) rfl rfl (Nat.le_of_ble_eq_true rfl) ?_
  show G M S (fun i => b + i, i + 2) (1, 60) (va_up (va_up g (i + 1) (xB S 60 (fun _ => 0))) i (.inr (0, [.ref (b + (i + 1)), .int (nI 0), .int (nI 0)]))) 12 [some (.ref (b + i))] []
  refine r_aload_n (pc := 12) C dX0_init_12 rfl ?_
  refine r_iconst (pc := 13) (v := nI 0) C dX0_init_13 (by decide +kernel) ?_
  refine r_putf2 (pc := 14) C dX0_init_14 fp_RX0_15 (show i < i + 2 by omega) rfl rfl (Nat.le_of_ble_eq_true rfl) ?_
  show G M S (fun i => b + i, i + 2) (1, 60) (va_up (va_up g (i + 1) (xB S 60 (fun _ => 0))) i (.inr (0, [.ref (b + (i + 1)), .int (nI 0), .int (nI 0)]))) 17 [some (.ref (b + i))] []
  refine r_aload_n (pc := 17) C dX0_init_17 rfl ?_
  refine r_iconst (pc := 18) (v := nI 0) C dX0_init_18 (by decide +kernel) ?_
  refine r_putf2 (pc := 19) C dX0_init_19 fp_RX0_19 (show i < i + 2 by omega) rfl rfl (Nat.le_of_ble_eq_true rfl) ?_
  show G M S (fun i => b + i, i + 2) (1, 60) (va_up (va_up g (i + 1) (xB S 60 (fun _ => 0))) i (.inr (0, [.ref (b + (i + 1)), .int (nI 0), .int (nI 0)]))) 22 [some (.ref (b + i))] []
  exact r_vretC (pc := 22) C Z dX0_init_22 (⟨(Ce.new (Ce.up (Ce.gr ho (show _ ≤ i + 2 by omega)) (by omega))), (Ce.up (Ce.nw (show i + 1 < i + 2 by omega)) (by omega)), ((Fr.rf.up (by omega) (by omega)).up (by omega) (by omega))⟩) (by show (_, _) = (_, _); congr 1 <;> omega)
abbrev rmX1_init : Room := { frames := 1, cells := 1, slots := 336, locals := 40 }
set_option maxHeartbeats 4000000 in
set_option maxRecDepth 100000 in
theorem c_X1_init {S : ST} {b : Nat} {g : Nat → va_E} {i : Nat} (ho : Ce (fun i => b + i, i + 1) g i (.inr (1, [.null, .int (nI 0)]))) : Cn S b (i + 1) (i + 2) yX1_init cX1_init 1 rmX1_init [.ref (b + i)] g 336 (fun g' => Ce (fun i => b + i, i + 2) g' i (.inr (1, [.ref (b + (i + 1)), .int (nI 0)])) ∧ Ce (fun i => b + i, i + 2) g' (i + 1) (xB S 336 (fun _ => 0)) ∧ Fr g g' i (i + 2)) := by
  refine Cn.of RX1 (by decide +kernel) rfl rfl (Nat.le_of_ble_eq_true rfl) (fun M C Z B => ?_)
  refine G.eq (pc' := 0) (vs' := [some (.ref (b + i))]) (st' := []) ?_
  refine r_aload_n (pc := 0) C dX1_init_0 rfl ?_
  refine r_objI (pc := 1) C dX1_init_1 qM_RX1_3 (Nat.le_of_ble_eq_true rfl) (Nat.le_of_ble_eq_true rfl) ?_
  refine r_aload_n (pc := 4) C dX1_init_4 rfl ?_
  refine r_sipush (pc := 5) (v := nI 336) C dX1_init_5 (by decide +kernel) ?_
  refine r_newB (pc := 8) (k := (i + 1)) (n := (0, 0)) C B (show i + 1 = (i + 1) + 0 by omega) dX1_init_8 rfl (by decide) (show 0 + 1 ≤ 1 by omega) (show 0 + 336 ≤ 336 by omega) ?_
  show G M S (fun i => b + i, i + 2) (1, 336) (va_up g (i + 1) (xB S 336 (fun _ => 0))) 10 [some (.ref (b + i))] [.ref (b + (i + 1)), .ref (b + i)]
  refine r_putF (pc := 10) C Z dX1_init_10 ff_RX1_9 (Ce.up (Ce.gr ho (show _ ≤ i + 2 by omega)) (by omega)) rfl rfl (Nat.le_of_ble_eq_true rfl) ?_
  show G M S (fun i => b + i, i + 2) (1, 336) (va_up (va_up g (i + 1) (xB S 336 (fun _ => 0))) i (.inr (1, [.ref (b + (i + 1)), .int (nI 0)]))) 13 [some (.ref (b + i))] []
  refine r_aload_n (pc := 13) C dX1_init_13 rfl ?_
  refine r_iconst (pc := 14) (v := nI 0) C dX1_init_14 (by decide +kernel) ?_
  refine r_putf2 (pc := 15) C dX1_init_15 fp_RX1_15 (show i < i + 2 by omega) rfl rfl (Nat.le_of_ble_eq_true rfl) ?_
  show G M S (fun i => b + i, i + 2) (1, 336) (va_up (va_up g (i + 1) (xB S 336 (fun _ => 0))) i (.inr (1, [.ref (b + (i + 1)), .int (nI 0)]))) 18 [some (.ref (b + i))] []
  exact r_vretC (pc := 18) C Z dX1_init_18 (⟨(Ce.new (Ce.up (Ce.gr ho (show _ ≤ i + 2 by omega)) (by omega))), (Ce.up (Ce.nw (show i + 1 < i + 2 by omega)) (by omega)), ((Fr.rf.up (by omega) (by omega)).up (by omega) (by omega))⟩) (by show (_, _) = (_, _); congr 1 <;> omega)
abbrev rmX3_init : Room := { frames := 1, cells := 1, slots := 3696, locals := 40 }
set_option maxHeartbeats 4000000 in
set_option maxRecDepth 100000 in
theorem c_X3_init {S : ST} {b : Nat} {g : Nat → va_E} {i : Nat} (ho : Ce (fun i => b + i, i + 1) g i (.inr (3, [.null, .int (nI 0)]))) : Cn S b (i + 1) (i + 2) yX3_init cX3_init 1 rmX3_init [.ref (b + i)] g 3696 (fun g' => Ce (fun i => b + i, i + 2) g' i (.inr (3, [.ref (b + (i + 1)), .int (nI 0)])) ∧ Ce (fun i => b + i, i + 2) g' (i + 1) (xB S 3696 (fun _ => 0)) ∧ Fr g g' i (i + 2)) := by
  refine Cn.of RX3 (by decide +kernel) rfl rfl (Nat.le_of_ble_eq_true rfl) (fun M C Z B => ?_)
  refine G.eq (pc' := 0) (vs' := [some (.ref (b + i))]) (st' := []) ?_
  refine r_aload_n (pc := 0) C dX3_init_0 rfl ?_
  refine r_objI (pc := 1) C dX3_init_1 qM_RX3_3 (Nat.le_of_ble_eq_true rfl) (Nat.le_of_ble_eq_true rfl) ?_
  refine r_aload_n (pc := 4) C dX3_init_4 rfl ?_
  refine r_sipush (pc := 5) (v := nI 3696) C dX3_init_5 (by decide +kernel) ?_
  refine r_newB (pc := 8) (k := (i + 1)) (n := (0, 0)) C B (show i + 1 = (i + 1) + 0 by omega) dX3_init_8 rfl (by decide) (show 0 + 1 ≤ 1 by omega) (show 0 + 3696 ≤ 3696 by omega) ?_
  show G M S (fun i => b + i, i + 2) (1, 3696) (va_up g (i + 1) (xB S 3696 (fun _ => 0))) 10 [some (.ref (b + i))] [.ref (b + (i + 1)), .ref (b + i)]
  refine r_putF (pc := 10) C Z dX3_init_10 ff_RX3_9 (Ce.up (Ce.gr ho (show _ ≤ i + 2 by omega)) (by omega)) rfl rfl (Nat.le_of_ble_eq_true rfl) ?_
  show G M S (fun i => b + i, i + 2) (1, 3696) (va_up (va_up g (i + 1) (xB S 3696 (fun _ => 0))) i (.inr (3, [.ref (b + (i + 1)), .int (nI 0)]))) 13 [some (.ref (b + i))] []
  refine r_aload_n (pc := 13) C dX3_init_13 rfl ?_
  refine r_iconst (pc := 14) (v := nI 0) C dX3_init_14 (by decide +kernel) ?_
  refine r_putf2 (pc := 15) C dX3_init_15 fp_RX3_15 (show i < i + 2 by omega) rfl rfl (Nat.le_of_ble_eq_true rfl) ?_
  show G M S (fun i => b + i, i + 2) (1, 3696) (va_up (va_up g (i + 1) (xB S 3696 (fun _ => 0))) i (.inr (3, [.ref (b + (i + 1)), .int (nI 0)]))) 18 [some (.ref (b + i))] []
  exact r_vretC (pc := 18) C Z dX3_init_18 (⟨(Ce.new (Ce.up (Ce.gr ho (show _ ≤ i + 2 by omega)) (by omega))), (Ce.up (Ce.nw (show i + 1 < i + 2 by omega)) (by omega)), ((Fr.rf.up (by omega) (by omega)).up (by omega) (by omega))⟩) (by show (_, _) = (_, _); congr 1 <;> omega)
abbrev rmX4_init : Room := { frames := 1, cells := 1, slots := 40, locals := 40 }
set_option maxHeartbeats 4000000 in
set_option maxRecDepth 100000 in
theorem c_X4_init {S : ST} {b : Nat} {g : Nat → va_E} {i : Nat} (ho : Ce (fun i => b + i, i + 1) g i (.inr (4, [.null, .int (nI 0), .int (nI 0), .int (nI 0)]))) : Cn S b (i + 1) (i + 2) yX4_init cX4_init 1 rmX4_init [.ref (b + i)] g 40 (fun g' => Ce (fun i => b + i, i + 2) g' i (.inr (4, [.ref (b + (i + 1)), .int (nI 0), .int (nI 0), .int (nI 0)])) ∧ Ce (fun i => b + i, i + 2) g' (i + 1) (xJ S 40 (fun _ => 0)) ∧ Fr g g' i (i + 2)) := by
  refine Cn.of RX4 (by decide +kernel) rfl rfl (Nat.le_of_ble_eq_true rfl) (fun M C Z B => ?_)
  refine G.eq (pc' := 0) (vs' := [some (.ref (b + i))]) (st' := []) ?_
  refine r_aload_n (pc := 0) C dX4_init_0 rfl ?_
  refine r_objI (pc := 1) C dX4_init_1 qM_RX4_3 (Nat.le_of_ble_eq_true rfl) (Nat.le_of_ble_eq_true rfl) ?_
  refine r_aload_n (pc := 4) C dX4_init_4 rfl ?_
  refine r_bipush (pc := 5) (v := nI 40) C dX4_init_5 (by decide +kernel) ?_
  refine r_newJ (pc := 7) (k := (i + 1)) (n := (0, 0)) C B (show i + 1 = (i + 1) + 0 by omega) dX4_init_7 rfl (by decide) (show 0 + 1 ≤ 1 by omega) (show 0 + 40 ≤ 40 by omega) ?_
  show G M S (fun i => b + i, i + 2) (1, 40) (va_up g (i + 1) (xJ S 40 (fun _ => 0))) 9 [some (.ref (b + i))] [.ref (b + (i + 1)), .ref (b + i)]
  refine r_putF (pc := 9) C Z dX4_init_9 ff_RX4_9 (Ce.up (Ce.gr ho (show _ ≤ i + 2 by omega)) (by omega)) rfl rfl (Nat.le_of_ble_eq_true rfl) ?_
  show G M S (fun i => b + i, i + 2) (1, 40) (va_up (va_up g (i + 1) (xJ S 40 (fun _ => 0))) i (.inr (4, [.ref (b + (i + 1)), .int (nI 0), .int (nI 0), .int (nI 0)]))) 12 [some (.ref (b + i))] []
  refine r_aload_n (pc := 12) C dX4_init_12 rfl ?_
  refine r_iconst (pc := 13) (v := nI 0) C dX4_init_13 (by decide +kernel) ?_
  refine r_putf2 (pc := 14) C dX4_init_14 fp_RX4_15 (show i < i + 2 by omega) (by decide) rfl (Nat.le_of_ble_eq_true rfl) ?_
  show G M S (fun i => b + i, i + 2) (1, 40) (va_up (va_up g (i + 1) (xJ S 40 (fun _ => 0))) i (.inr (4, [.ref (b + (i + 1)), .int (nI 0), .int (nI 0), .int (nI 0)]))) 17 [some (.ref (b + i))] []
  refine r_aload_n (pc := 17) C dX4_init_17 rfl ?_
  refine r_iconst (pc := 18) (v := nI 0) C dX4_init_18 (by decide +kernel) ?_
  refine r_putf2 (pc := 19) C dX4_init_19 fp_RX4_19 (show i < i + 2 by omega) rfl rfl (Nat.le_of_ble_eq_true rfl) ?_
  show G M S (fun i => b + i, i + 2) (1, 40) (va_up (va_up g (i + 1) (xJ S 40 (fun _ => 0))) i (.inr (4, [.ref (b + (i + 1)), .int (nI 0), .int (nI 0), .int (nI 0)]))) 22 [some (.ref (b + i))] []
  refine r_aload_n (pc := 22) C dX4_init_22 rfl ?_
  refine r_iconst (pc := 23) (v := nI 0) C dX4_init_23 (by decide +kernel) ?_
  refine r_putf2 (pc := 24) C dX4_init_24 fp_RX4_23 (show i < i + 2 by omega) rfl rfl (Nat.le_of_ble_eq_true rfl) ?_
  show G M S (fun i => b + i, i + 2) (1, 40) (va_up (va_up g (i + 1) (xJ S 40 (fun _ => 0))) i (.inr (4, [.ref (b + (i + 1)), .int (nI 0), .int (nI 0), .int (nI 0)]))) 27 [some (.ref (b + i))] []
  exact r_vretC (pc := 27) C Z dX4_init_27 (⟨(Ce.new (Ce.up (Ce.gr ho (show _ ≤ i + 2 by omega)) (by omega))), (Ce.up (Ce.nw (show i + 1 < i + 2 by omega)) (by omega)), ((Fr.rf.up (by omega) (by omega)).up (by omega) (by omega))⟩) (by show (_, _) = (_, _); congr 1 <;> omega)
