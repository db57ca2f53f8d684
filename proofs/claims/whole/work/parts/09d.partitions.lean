/-! partitions: the places as counts; rows of 16 -/
theorem mn_nI {a b : Nat} (ha : a < 2 ^ 31) (hb : b < 2 ^ 31) : minI (nI a) (nI b) = nI (min a b) := by
  unfold minI
  by_cases h : b < a
  · rw [if_pos (nI_lt h ha), Nat.min_eq_right (by omega)]
  · rw [if_neg (nI_nlt (by omega) hb), Nat.min_eq_left (by omega)]
theorem ff_rest (tot lg t : Nat) : tot - lg * t - min lg (tot - lg * t) = tot - lg * (t + 1) := by
  rw [Nat.mul_succ]
  omega
theorem mI_p {j : Nat} (h : 0 < j) : mI j = nI (j - 1) := by
  cases j with
  | zero => omega
  | succ j => exact mI_s j
/-- places i .. of a row filled with parts of at most lg, tot in all, from place f on: t of them -/
def ffT (y : Nat → Nat) (i f lg tot t : Nat) : Nat → Nat := fun j => if i * 16 + f ≤ j ∧ j < i * 16 + f + t then min lg (tot - lg * (j - (i * 16 + f))) else y j
theorem ffT_0 (y : Nat → Nat) (i f lg tot j : Nat) : ffT y i f lg tot 0 j = y j := by unfold ffT; rw [if_neg (by omega)]
theorem ffT_s (y : Nat → Nat) (i f lg tot t j : Nat) : va_up (ffT y i f lg tot t) (i * 16 + (f + t)) (min lg (tot - lg * t)) j = ffT y i f lg tot (t + 1) j := by
  by_cases e : j = i * 16 + (f + t)
  · subst e
    rw [va_up_self]
    unfold ffT
    rw [if_pos (by omega), show i * 16 + (f + t) - (i * 16 + f) = t by omega]
  · rw [va_up_ne _ _ e]
    unfold ffT
    by_cases h : i * 16 + f ≤ j ∧ j < i * 16 + f + t
    · rw [if_pos h, if_pos (by omega)]
    · rw [if_neg h, if_neg (by omega)]
/-- one behind the last place below j with a part above 1 -/
def lpN (z : Nat → Nat) : Nat → Nat
  | 0 => 0
  | j + 1 => if 1 < z j then j + 1 else lpN z j
theorem lpN_le (z : Nat → Nat) : ∀ j : Nat, lpN z j ≤ j
  | 0 => Nat.le_refl _
  | j + 1 => by
    have := lpN_le z j
    unfold lpN
    split <;> omega
theorem lpN_cong {z z' : Nat → Nat} : ∀ {j : Nat}, (∀ k, k < j → z k = z' k) → lpN z j = lpN z' j
  | 0, _ => rfl
  | j + 1, h => by
    unfold lpN
    rw [h j (by omega), lpN_cong (fun k hk => h k (by omega))]
/-- the sum of n places from l on -/
def smN (z : Nat → Nat) (l n : Nat) : Nat := it (fun t s => s + z (l + t)) n 0
/-- the row behind a row -/
def nxF (z : Nat → Nat) (k : Nat) : Nat := if k < lpN z 16 - 1 then z k else min (z (lpN z 16 - 1) - 1) (smN z (lpN z 16 - 1) (16 - (lpN z 16 - 1)) - (z (lpN z 16 - 1) - 1) * (k - (lpN z 16 - 1)))
set_option maxHeartbeats 4000000 in
set_option maxRecDepth 100000 in
theorem c_X3_at {S : ST} {E : ET} {g : Nat → va_E} {q cn : Nat} {y : Nat → Nat} (hq : Ce E g q (.inr (3, [.ref (E.1 (q + 1)), .int (nI cn)]))) (hy : Ce E g (q + 1) (xB S 3696 (fun k => nI (y k)))) (hb : ∀ k, y k ≤ 16) (i pl : Nat) (hi : i < 231) (hk : pl < 16) : CtI S E yX3_at cX3_at 3 (Option.some FieldType.int) rmX3_at [.ref (E.1 q), .int (nI i), .int (nI pl)] g (fun v g' => v = nI (y (i * 16 + pl)) ∧ g = g') := by
  refine Ct.of RX3 (by decide +kernel) rfl (Nat.le_of_ble_eq_true rfl) (fun M C Z => ?_)
  refine G.eq (pc' := 0) (vs' := [some (.ref (E.1 q)), some (.int (nI i)), some (.int (nI pl))]) (st' := []) ?_
  refine r_aload_n (pc := 0) C dX3_at_0 rfl ?_
  refine r_getf (pc := 1) C dX3_at_1 fl_RX3_9 hq rfl ?_
  refine r_iload_n (pc := 4) C dX3_at_4 rfl ?_
  refine r_bipush (pc := 5) (v := nI 16) C dX3_at_5 (by decide +kernel) ?_
  refine r_imul (pc := 7) C dX3_at_7 ?_
  refine r_ti (nI (i * 16)) (pk_mul _ _) ?_
  refine r_iload_n (pc := 8) C dX3_at_8 rfl ?_
  refine r_iadd (pc := 9) C dX3_at_9 ?_
  refine r_ti (nI (i * 16 + pl)) (nI_add _ _) ?_
  refine r_bald (pc := 10) C dX3_at_10 hy rfl (by omega) (by omega) ?_
  refine r_ti (nI (y (i * 16 + pl))) rfl ?_
  exact r_iret (pc := 11) C Z dX3_at_11 rfl (⟨rfl, rfl⟩)
set_option maxHeartbeats 4000000 in
set_option maxRecDepth 100000 in
theorem c_X3_put {S : ST} {E : ET} {g : Nat → va_E} {q cn : Nat} {y : Nat → Nat} (hq : Ce E g q (.inr (3, [.ref (E.1 (q + 1)), .int (nI cn)]))) (hy : Ce E g (q + 1) (xB S 3696 (fun k => nI (y k)))) (hb : ∀ k, y k ≤ 16) (i pl v : Nat) (hi : i < 231) (hk : pl < 16) (hv : v < 128) : CtV S E yX3_put cX3_put 4 none rmX3_put [.ref (E.1 q), .int (nI i), .int (nI pl), .int (nI v)] g (fun g' => g' = va_up g (q + 1) (xB S 3696 (fun k => nI (va_up y (i * 16 + pl) v k)))) := by
  refine Ct.of RX3 (by decide +kernel) rfl (Nat.le_of_ble_eq_true rfl) (fun M C Z => ?_)
  refine G.eq (pc' := 0) (vs' := [some (.ref (E.1 q)), some (.int (nI i)), some (.int (nI pl)), some (.int (nI v))]) (st' := []) ?_
  refine r_aload_n (pc := 0) C dX3_put_0 rfl ?_
  refine r_getf (pc := 1) C dX3_put_1 fl_RX3_9 hq rfl ?_
  refine r_iload_n (pc := 4) C dX3_put_4 rfl ?_
  refine r_bipush (pc := 5) (v := nI 16) C dX3_put_5 (by decide +kernel) ?_
  refine r_imul (pc := 7) C dX3_put_7 ?_
  refine r_ti (nI (i * 16)) (pk_mul _ _) ?_
  refine r_iload_n (pc := 8) C dX3_put_8 rfl ?_
  refine r_iadd (pc := 9) C dX3_put_9 ?_
  refine r_ti (nI (i * 16 + pl)) (nI_add _ _) ?_
  refine r_iload_n (pc := 10) C dX3_put_10 rfl ?_
  refine r_i2b (pc := 11) C dX3_put_11 ?_
  refine r_bast (pc := 12) C dX3_put_12 hy rfl (by omega) (by omega) ?_
  rw [nar8 hv]
  refine G.cB (f' := fun j => nI (va_up y (i * 16 + pl) v j)) (fun j hj => pt_up) ?_
  exact r_vret (pc := 13) C Z dX3_put_13 rfl
theorem ffT_le {y : Nat → Nat} {i f lg tot t : Nat} (hb : ∀ k, y k ≤ 16) (hlg : lg ≤ 16) (k : Nat) : ffT y i f lg tot t k ≤ 16 := by
  unfold ffT
  split
  · omega
  · exact hb k
set_option maxHeartbeats 4000000 in
set_option maxRecDepth 100000 in
theorem c_X3_fillFrom {S : ST} {E : ET} {g : Nat → va_E} {q cn : Nat} {y : Nat → Nat} (hq : Ce E g q (.inr (3, [.ref (E.1 (q + 1)), .int (nI cn)]))) (hy : Ce E g (q + 1) (xB S 3696 (fun k => nI (y k)))) (hb : ∀ k, y k ≤ 16) (i f lg tot : Nat) (hi : i < 231) (hf : f ≤ 16) (hlg : lg ≤ 16) (htot : tot ≤ 1000) : CtV S E yX3_fillFrom cX3_fillFrom 8 none rmX3_fillFrom [.ref (E.1 q), .int (nI i), .int (nI f), .int (nI lg), .int (nI tot)] g (fun g' => g' = va_up g (q + 1) (xB S 3696 (fun k => nI (ffT y i f lg tot (16 - f) k)))) := by
  refine Ct.of RX3 (by decide +kernel) rfl (Nat.le_of_ble_eq_true rfl) (fun M C Z => ?_)
  refine G.eq (pc' := 0) (vs' := [some (.ref (E.1 q)), some (.int (nI i)), some (.int (nI f)), some (.int (nI lg)), some (.int (nI tot)), none, none, none]) (st' := []) ?_
  refine r_iload (pc := 0) C dX3_fillFrom_0 rfl ?_
  refine r_istore (pc := 2) C dX3_fillFrom_2 (by decide) ?_
  refine G.eq (pc' := 4) (vs' := [some (.ref (E.1 q)), some (.int (nI i)), some (.int (nI f)), some (.int (nI lg)), some (.int (nI tot)), some (.int (nI tot)), none, none]) (st' := []) ?_
  refine r_iload_n (pc := 4) C dX3_fillFrom_4 rfl ?_
  refine r_istore (pc := 5) C dX3_fillFrom_5 (by decide) ?_
  refine G.eq (pc' := 7) (vs' := [some (.ref (E.1 q)), some (.int (nI i)), some (.int (nI f)), some (.int (nI lg)), some (.int (nI tot)), some (.int (nI tot)), some (.int (nI f)), none]) (st' := []) ?_
  refine G.heap (Ce.id hy) ?_
  refine G.cB (f' := fun k => nI ((ffT y i f lg tot 0) k)) (fun j _ => by show nI (y j) = nI _; rw [ffT_0]) ?_
  refine bk (P := fun t => G M S E (0, 0) (va_up g (q + 1) (xB S 3696 (fun k => nI ((ffT y i f lg tot t) k)))) 7 [some (.ref (E.1 q)), some (.int (nI i)), some (.int (nI f)), some (.int (nI lg)), some (.int (nI tot)), some (.int (nI (tot - lg * t))), some (.int (nI (f + t))), none] []) (T := 16 - f) ?_ (fun t ht ih => ?_)
  · show G M S E (0, 0) (va_up g (q + 1) (xB S 3696 (fun k => nI ((ffT y i f lg tot (16 - f)) k)))) 7 [some (.ref (E.1 q)), some (.int (nI i)), some (.int (nI f)), some (.int (nI lg)), some (.int (nI tot)), some (.int (nI (tot - lg * (16 - f)))), some (.int (nI (f + (16 - f)))), none] []
    refine r_iload (pc := 7) C dX3_fillFrom_7 rfl ?_
    refine r_bipush (pc := 9) (v := nI 16) C dX3_fillFrom_9 (by decide +kernel) ?_
    refine r_icmp_ge (pc := 11) (tgt := 44) C dX3_fillFrom_11 (by decide) (fun h11 => ?_) (fun h11 => ?_)
    · have h11 := c_le (by omega) (by omega) h11
      exact r_vret (pc := 44) C Z dX3_fillFrom_44 rfl
    · have h11 := c_nle (by omega) (by omega) h11
      omega
  · show G M S E (0, 0) (va_up g (q + 1) (xB S 3696 (fun k => nI ((ffT y i f lg tot t) k)))) 7 [some (.ref (E.1 q)), some (.int (nI i)), some (.int (nI f)), some (.int (nI lg)), some (.int (nI tot)), some (.int (nI (tot - lg * t))), some (.int (nI (f + t))), none] []
    refine r_iload (pc := 7) C dX3_fillFrom_7 rfl ?_
    refine r_bipush (pc := 9) (v := nI 16) C dX3_fillFrom_9 (by decide +kernel) ?_
    refine r_icmp_ge (pc := 11) (tgt := 44) C dX3_fillFrom_11 (by decide) (fun h11 => ?_) (fun h11 => ?_)
    · have h11 := c_le (by omega) (by omega) h11
      omega
    · have h11 := c_nle (by omega) (by omega) h11
      refine r_iload_n (pc := 14) C dX3_fillFrom_14 rfl ?_
      refine r_iload (pc := 15) C dX3_fillFrom_15 rfl ?_
      refine r_mmin (pc := 17) C dX3_fillFrom_17 qM_RX3_27 (by decide) (Nat.le_of_ble_eq_true rfl) ⟨Nat.zero_le _, Nat.zero_le _⟩ ?_
      refine r_ti (nI (min lg (tot - lg * t))) (mn_nI (by omega) (by omega)) ?_
      refine r_istore (pc := 20) C dX3_fillFrom_20 (by decide) ?_
      refine G.eq (pc' := 22) (vs' := [some (.ref (E.1 q)), some (.int (nI i)), some (.int (nI f)), some (.int (nI lg)), some (.int (nI tot)), some (.int (nI (tot - lg * t))), some (.int (nI (f + t))), some (.int (nI (min lg (tot - lg * t))))]) (st' := []) ?_
      refine r_aload_n (pc := 22) C dX3_fillFrom_22 rfl ?_
      refine r_iload_n (pc := 23) C dX3_fillFrom_23 rfl ?_
      refine r_iload (pc := 24) C dX3_fillFrom_24 rfl ?_
      refine r_iload (pc := 26) C dX3_fillFrom_26 rfl ?_
      refine r_callV (pc := 28) C dX3_fillFrom_28 cv_RX3_33 (c_X3_put (y := (ffT y i f lg tot t)) (Ce.up hq (by omega)) (Ce.new hy) (ffT_le hb hlg) i (f + t) (min lg (tot - lg * t)) hi (by omega) (by omega)) ⟨rfl, rfl, by decide, by decide⟩ (Ce.up hq (by omega)) rfl rfl (Nat.le_of_ble_eq_true rfl) ⟨Nat.zero_le _, Nat.zero_le _⟩ ?_
      rintro _ _ ⟨rfl, rfl⟩
      rw [bx_uu]
      show G M S E (0, 0) (va_up g (q + 1) (xB S 3696 (fun k => nI (va_up (ffT y i f lg tot t) (i * 16 + (f + t)) (min lg (tot - lg * t)) k)))) 31 [some (.ref (E.1 q)), some (.int (nI i)), some (.int (nI f)), some (.int (nI lg)), some (.int (nI tot)), some (.int (nI (tot - lg * t))), some (.int (nI (f + t))), some (.int (nI (min lg (tot - lg * t))))] []
      refine G.cB (f' := fun k => nI ((ffT y i f lg tot (t + 1)) k)) (fun j _ => by show nI _ = nI _; rw [ffT_s]) ?_
      refine r_iload (pc := 31) C dX3_fillFrom_31 rfl ?_
      refine r_iload (pc := 33) C dX3_fillFrom_33 rfl ?_
      refine r_isub (pc := 35) C dX3_fillFrom_35 ?_
      refine r_ti (nI (tot - lg * t - (min lg (tot - lg * t)))) (pk_sub (by omega)) ?_
      refine r_ti (nI (tot - lg * (t + 1))) (by rw [ff_rest]) ?_
      refine r_istore (pc := 36) C dX3_fillFrom_36 (by decide) ?_
      refine G.eq (pc' := 38) (vs' := [some (.ref (E.1 q)), some (.int (nI i)), some (.int (nI f)), some (.int (nI lg)), some (.int (nI tot)), some (.int (nI (tot - lg * (t + 1)))), some (.int (nI (f + t))), some (.int (nI (min lg (tot - lg * t))))]) (st' := []) ?_
      refine r_iinc (pc := 38) (v := nI (f + t + 1)) C dX3_fillFrom_38 rfl (nI_i1 _) (by decide) ?_
      refine G.eq (pc' := 41) (vs' := [some (.ref (E.1 q)), some (.int (nI i)), some (.int (nI f)), some (.int (nI lg)), some (.int (nI tot)), some (.int (nI (tot - lg * (t + 1)))), some (.int (nI (f + t + 1))), some (.int (nI (min lg (tot - lg * t))))]) (st' := []) ?_
      refine r_goto (pc := 41) (tgt := 7) C dX3_fillFrom_41 (by decide) ?_
      refine G.wk (vs' := [some (.ref (E.1 q)), some (.int (nI i)), some (.int (nI f)), some (.int (nI lg)), some (.int (nI tot)), some (.int (nI (tot - lg * (t + 1)))), some (.int (nI (f + t + 1))), none]) ⟨rfl, rfl, rfl, rfl, rfl, rfl, rfl, trivial⟩ ?_
      exact ih
set_option maxHeartbeats 4000000 in
set_option maxRecDepth 100000 in
theorem c_X3_lastPlaceAboveOne {S : ST} {E : ET} {g : Nat → va_E} {q cn : Nat} {y : Nat → Nat} (hq : Ce E g q (.inr (3, [.ref (E.1 (q + 1)), .int (nI cn)]))) (hy : Ce E g (q + 1) (xB S 3696 (fun k => nI (y k)))) (hb : ∀ k, y k ≤ 16) (i : Nat) (hi : i < 231) : CtI S E yX3_lastPlaceAboveOne cX3_lastPlaceAboveOne 3 (Option.some FieldType.int) rmX3_lastPlaceAboveOne [.ref (E.1 q), .int (nI i)] g (fun v g' => v = mI (lpN (fun k => y (i * 16 + k)) 16) ∧ g = g') := by
  refine Ct.of RX3 (by decide +kernel) rfl (Nat.le_of_ble_eq_true rfl) (fun M C Z => ?_)
  refine G.eq (pc' := 0) (vs' := [some (.ref (E.1 q)), some (.int (nI i)), none]) (st' := []) ?_
  refine r_bipush (pc := 0) (v := nI 15) C dX3_lastPlaceAboveOne_0 (by decide +kernel) ?_
  refine r_istore_n (pc := 2) C dX3_lastPlaceAboveOne_2 (by decide) ?_
  refine G.eq (pc' := 3) (vs' := [some (.ref (E.1 q)), some (.int (nI i)), some (.int (nI 15))]) (st' := []) ?_
  rw [show nI 15 = mI 16 by decide +kernel]
  refine bk (P := fun t => (lpN (fun k => y (i * 16 + k)) 16 = lpN (fun k => y (i * 16 + k)) (16 - t)) → G M S E (0, 0) g 3 [some (.ref (E.1 q)), some (.int (nI i)), some (.int (mI (16 - t)))] []) (T := 16) (fun hh => ?_) (fun t ht ih hh => ?_) rfl
  · show G M S E (0, 0) g 3 [some (.ref (E.1 q)), some (.int (nI i)), some (.int (mI (16 - 16)))] []
    refine r_iload_n (pc := 3) C dX3_lastPlaceAboveOne_3 rfl ?_
    refine r_if_lt (pc := 4) (tgt := 25) C dX3_lastPlaceAboveOne_4 (by decide) (fun h4 => ?_) (fun h4 => ?_)
    · have h4 := m_lt0 (by omega) h4
      refine r_iconst (pc := 25) (v := (-1)) C dX3_lastPlaceAboveOne_25 (by decide +kernel) ?_
      exact r_iret (pc := 26) C Z dX3_lastPlaceAboveOne_26 rfl (⟨by rw [hh]; exact (by decide +kernel : (-1 : Int32) = mI 0), rfl⟩)
    · have h4 := m_nlt0 (by omega) h4
      omega
  · show G M S E (0, 0) g 3 [some (.ref (E.1 q)), some (.int (nI i)), some (.int (mI (16 - t)))] []
    refine r_iload_n (pc := 3) C dX3_lastPlaceAboveOne_3 rfl ?_
    refine r_if_lt (pc := 4) (tgt := 25) C dX3_lastPlaceAboveOne_4 (by decide) (fun h4 => ?_) (fun h4 => ?_)
    · have h4 := m_lt0 (by omega) h4
      omega
    · have h4 := m_nlt0 (by omega) h4
      rw [show 16 - t = 16 - t - 1 + 1 by omega, mI_s]
      refine r_aload_n (pc := 7) C dX3_lastPlaceAboveOne_7 rfl ?_
      refine r_iload_n (pc := 8) C dX3_lastPlaceAboveOne_8 rfl ?_
      refine r_iload_n (pc := 9) C dX3_lastPlaceAboveOne_9 rfl ?_
      refine r_callV (pc := 10) C dX3_lastPlaceAboveOne_10 cv_RX3_41 (c_X3_at (y := y) hq hy hb i (16 - t - 1) (by omega) (by omega)) ⟨rfl, rfl, by decide, by decide⟩ hq rfl rfl (Nat.le_of_ble_eq_true rfl) ⟨Nat.zero_le _, Nat.zero_le _⟩ ?_
      rintro _ _ ⟨_, rfl, rfl, rfl⟩
      show G M S E (0, 0) g 13 [some (.ref (E.1 q)), some (.int (nI i)), some (.int (nI (16 - t - 1)))] [.int (nI (y (i * 16 + (16 - t - 1))))]
      have hbb := hb (i * 16 + (16 - t - 1))
      refine r_iconst (pc := 13) (v := nI 1) C dX3_lastPlaceAboveOne_13 (by decide +kernel) ?_
      refine r_icmp_le (pc := 14) (tgt := 19) C dX3_lastPlaceAboveOne_14 (by decide) (fun h14 => ?_) (fun h14 => ?_)
      · have h14 := c_le (by omega) (by omega) h14
        refine r_iinc (pc := 19) (v := mI (16 - t - 1)) C dX3_lastPlaceAboveOne_19 rfl (nI_m1 _) (by decide) ?_
        refine G.eq (pc' := 22) (vs' := [some (.ref (E.1 q)), some (.int (nI i)), some (.int (mI (16 - t - 1)))]) (st' := []) ?_
        refine r_goto (pc := 22) (tgt := 3) C dX3_lastPlaceAboveOne_22 (by decide) ?_
        exact (ih (by rw [hh, show 16 - t = 16 - t - 1 + 1 by omega]; exact if_neg (by show ¬ 1 < y _; omega)))
      · have h14 := c_nle (by omega) (by omega) h14
        refine r_iload_n (pc := 17) C dX3_lastPlaceAboveOne_17 rfl ?_
        have e : lpN (fun k => y (i * 16 + k)) (16 - t) = 16 - t := by rw [show 16 - t = 16 - t - 1 + 1 by omega]; exact if_pos (by show 1 < y _; omega)
        exact r_iret (pc := 18) C Z dX3_lastPlaceAboveOne_18 rfl (⟨by rw [hh, e, mI_p (by omega)], rfl⟩)
theorem m_ge0 {j : Nat} (h : j < 2 ^ 31) (c : 0 ≤ mI j) : 0 < j := (mI_ge0 h).mp c
theorem m_nge0 {j : Nat} (h : j < 2 ^ 31) (c : ¬ 0 ≤ mI j) : j = 0 := Nat.eq_zero_of_not_pos fun q => c ((mI_ge0 h).mpr q)
theorem lpN_gt (z : Nat → Nat) : ∀ j : Nat, 0 < lpN z j → 1 < z (lpN z j - 1)
  | 0, h => absurd h (Nat.lt_irrefl 0)
  | j + 1, h => by
    by_cases e : 1 < z j
    · rw [show lpN z (j + 1) = j + 1 from if_pos e]; exact e
    · have e2 : lpN z (j + 1) = lpN z j := if_neg e
      rw [e2] at h ⊢
      exact lpN_gt z j h
theorem smN_le {z : Nat → Nat} {l : Nat} (hz : ∀ k, z k ≤ 16) : ∀ n : Nat, smN z l n ≤ 16 * n
  | 0 => Nat.le_refl _
  | n + 1 => by
    have h1 := smN_le (l := l) hz n
    have h2 := hz (l + n)
    show smN z l n + z (l + n) ≤ _
    omega
/-- t places copied from row i - 1 to row i -/
def cpT (y : Nat → Nat) (i t : Nat) : Nat → Nat := fun j => if i * 16 ≤ j ∧ j < i * 16 + t then y ((i - 1) * 16 + (j - i * 16)) else y j
theorem cpT_0 (y : Nat → Nat) (i j : Nat) : cpT y i 0 j = y j := by unfold cpT; rw [if_neg (by omega)]
theorem cpT_low {y : Nat → Nat} {i t j : Nat} (h : j < i * 16) : cpT y i t j = y j := by unfold cpT; rw [if_neg (by omega)]
theorem cpT_s {y : Nat → Nat} {i t : Nat} (ht : t < 16) (hi : 1 ≤ i) (j : Nat) : va_up (cpT y i t) (i * 16 + t) (y ((i - 1) * 16 + t)) j = cpT y i (t + 1) j := by
  by_cases e : j = i * 16 + t
  · subst e
    rw [va_up_self]
    unfold cpT
    rw [if_pos (by omega), show i * 16 + t - i * 16 = t by omega]
  · rw [va_up_ne _ _ e]
    unfold cpT
    by_cases h : i * 16 ≤ j ∧ j < i * 16 + t
    · rw [if_pos h, if_pos (by omega)]
    · rw [if_neg h, if_neg (by omega)]
theorem cpT_le {y : Nat → Nat} {i t : Nat} (hb : ∀ k, y k ≤ 16) (k : Nat) : cpT y i t k ≤ 16 := by
  unfold cpT
  split <;> exact hb _
/-- row i made of row i - 1 -/
def mkN (y : Nat → Nat) (i : Nat) : Nat → Nat := fun j => if i * 16 ≤ j ∧ j < i * 16 + 16 then nxF (fun k => y ((i - 1) * 16 + k)) (j - i * 16) else y j
theorem mkN_eq {y : Nat → Nat} {i l : Nat} (hl : l = lpN (fun k => y ((i - 1) * 16 + k)) 16 - 1) (hl2 : l < 16) (j : Nat) : ffT (cpT y i l) i l (y ((i - 1) * 16 + l) - 1) (smN (fun k => y ((i - 1) * 16 + k)) l (16 - l)) (16 - l) j = mkN y i j := by
  unfold mkN ffT
  by_cases h : i * 16 ≤ j ∧ j < i * 16 + 16
  · rw [if_pos h]
    unfold nxF
    rw [← hl]
    by_cases h2 : i * 16 + l ≤ j
    · rw [if_pos (by omega), if_neg (by omega), show j - i * 16 - l = j - (i * 16 + l) by omega]
    · rw [if_neg (by omega), if_pos (by omega)]
      unfold cpT
      rw [if_pos (by omega)]
  · rw [if_neg h, if_neg (by omega)]
    unfold cpT
    rw [if_neg (by omega)]
theorem mkN_le {y : Nat → Nat} {i : Nat} (hb : ∀ k, y k ≤ 16) (k : Nat) : mkN y i k ≤ 16 := by
  unfold mkN nxF
  split
  · split
    · exact hb _
    · exact Nat.le_trans (Nat.min_le_left _ _) (Nat.le_trans (Nat.sub_le _ _) (hb _))
  · exact hb k
set_option maxHeartbeats 4000000 in
set_option maxRecDepth 100000 in
theorem c_X3_makeNext {S : ST} {E : ET} {g : Nat → va_E} {q cn : Nat} {y : Nat → Nat} (hq : Ce E g q (.inr (3, [.ref (E.1 (q + 1)), .int (nI cn)]))) (hy : Ce E g (q + 1) (xB S 3696 (fun k => nI (y k)))) (hb : ∀ k, y k ≤ 16) (i : Nat) (hi : i < 231) (h1 : 1 ≤ i) : CtI S E yX3_makeNext cX3_makeNext 5 (Option.some FieldType.boolean) rmX3_makeNext [.ref (E.1 q), .int (nI i)] g (fun v g' => (lpN (fun k => y ((i - 1) * 16 + k)) 16 = 0 → v = b2i false ∧ g = g') ∧ (lpN (fun k => y ((i - 1) * 16 + k)) 16 ≠ 0 → v = b2i true ∧ g' = va_up g (q + 1) (xB S 3696 (fun k => nI (mkN y i k))))) := by
  refine Ct.of RX3 (by decide +kernel) rfl (Nat.le_of_ble_eq_true rfl) (fun M C Z => ?_)
  refine G.eq (pc' := 0) (vs' := [some (.ref (E.1 q)), some (.int (nI i)), none, none, none]) (st' := []) ?_
  have hle := lpN_le (fun k => y ((i - 1) * 16 + k)) 16
  refine r_aload_n (pc := 0) C dX3_makeNext_0 rfl ?_
  refine r_iload_n (pc := 1) C dX3_makeNext_1 rfl ?_
  refine r_iconst (pc := 2) (v := nI 1) C dX3_makeNext_2 (by decide +kernel) ?_
  refine r_isub (pc := 3) C dX3_makeNext_3 ?_
  refine r_ti (nI (i - 1)) (pk_sub (by omega)) ?_
  refine r_callV (pc := 4) C dX3_makeNext_4 cv_RX3_37 (c_X3_lastPlaceAboveOne hq hy hb (i - 1) (by omega)) ⟨rfl, rfl, by decide, by decide⟩ hq rfl rfl (Nat.le_of_ble_eq_true rfl) ⟨Nat.zero_le _, Nat.zero_le _⟩ ?_
  rintro _ _ ⟨_, rfl, rfl, rfl⟩
  show G M S E (0, 0) g 7 [some (.ref (E.1 q)), some (.int (nI i)), none, none, none] [.int (mI (lpN (fun k => y ((i - 1) * 16 + k)) 16))]
  refine r_istore_n (pc := 7) C dX3_makeNext_7 (by decide) ?_
  refine G.eq (pc' := 8) (vs' := [some (.ref (E.1 q)), some (.int (nI i)), some (.int (mI (lpN (fun k => y ((i - 1) * 16 + k)) 16))), none, none]) (st' := []) ?_
  refine r_iload_n (pc := 8) C dX3_makeNext_8 rfl ?_
  refine r_if_ge (pc := 9) (tgt := 14) C dX3_makeNext_9 (by decide) (fun h9 => ?_) (fun h9 => ?_)
  · have h9 := m_ge0 (by omega) h9
    have hgt := lpN_gt (fun k => y ((i - 1) * 16 + k)) 16 h9
    rw [mI_p h9]
    obtain ⟨l, hl⟩ : ∃ l, l = lpN (fun k => y ((i - 1) * 16 + k)) 16 - 1 := ⟨_, rfl⟩
    rw [← hl] at hgt ⊢
    have hgt2 : 1 < y ((i - 1) * 16 + l) := hgt
    refine r_iconst (pc := 14) (v := nI 0) C dX3_makeNext_14 (by decide +kernel) ?_
    refine r_istore_n (pc := 15) C dX3_makeNext_15 (by decide) ?_
    refine G.eq (pc' := 16) (vs' := [some (.ref (E.1 q)), some (.int (nI i)), some (.int (nI l)), some (.int (nI 0)), none]) (st' := []) ?_
    refine G.heap (Ce.id hy) ?_
    refine G.cB (f' := fun k => nI (cpT y i 0 k)) (fun j _ => by show nI (y j) = nI _; rw [cpT_0]) ?_
    refine bk (P := fun t => G M S E (0, 0) (va_up g (q + 1) (xB S 3696 (fun k => nI (cpT y i t k)))) 16 [some (.ref (E.1 q)), some (.int (nI i)), some (.int (nI l)), some (.int (nI t)), none] []) (T := l) ?_ (fun t ht ih => ?_)
    · show G M S E (0, 0) (va_up g (q + 1) (xB S 3696 (fun k => nI (cpT y i l k)))) 16 [some (.ref (E.1 q)), some (.int (nI i)), some (.int (nI l)), some (.int (nI l)), none] []
      refine r_iload_n (pc := 16) C dX3_makeNext_16 rfl ?_
      refine r_iload_n (pc := 17) C dX3_makeNext_17 rfl ?_
      refine r_icmp_ge (pc := 18) (tgt := 41) C dX3_makeNext_18 (by decide) (fun h18 => ?_) (fun h18 => ?_)
      · have h18 := c_le (by omega) (by omega) h18
        refine r_iconst (pc := 41) (v := nI 0) C dX3_makeNext_41 (by decide +kernel) ?_
        refine r_istore_n (pc := 42) C dX3_makeNext_42 (by decide) ?_
        refine G.eq (pc' := 43) (vs' := [some (.ref (E.1 q)), some (.int (nI i)), some (.int (nI l)), some (.int (nI 0)), none]) (st' := []) ?_
        refine r_iload_n (pc := 43) C dX3_makeNext_43 rfl ?_
        refine r_istore (pc := 44) C dX3_makeNext_44 (by decide) ?_
        refine G.eq (pc' := 46) (vs' := [some (.ref (E.1 q)), some (.int (nI i)), some (.int (nI l)), some (.int (nI 0)), some (.int (nI l))]) (st' := []) ?_
        refine bk (P := fun t => G M S E (0, 0) (va_up g (q + 1) (xB S 3696 (fun k => nI (cpT y i l k)))) 46 [some (.ref (E.1 q)), some (.int (nI i)), some (.int (nI l)), some (.int (nI (it (fun t s => s + y ((i - 1) * 16 + (l + t))) t 0))), some (.int (nI (l + t)))] []) (T := 16 - l) ?_ (fun t ht ih => ?_)
        · show G M S E (0, 0) (va_up g (q + 1) (xB S 3696 (fun k => nI (cpT y i l k)))) 46 [some (.ref (E.1 q)), some (.int (nI i)), some (.int (nI l)), some (.int (nI (it (fun t s => s + y ((i - 1) * 16 + (l + t))) (16 - l) 0))), some (.int (nI (l + (16 - l))))] []
          refine r_iload (pc := 46) C dX3_makeNext_46 rfl ?_
          refine r_bipush (pc := 48) (v := nI 16) C dX3_makeNext_48 (by decide +kernel) ?_
          refine r_icmp_ge (pc := 50) (tgt := 71) C dX3_makeNext_50 (by decide) (fun h50 => ?_) (fun h50 => ?_)
          · have h50 := c_le (by omega) (by omega) h50
            have hsm : smN (fun k => y ((i - 1) * 16 + k)) l (16 - l) ≤ 16 * (16 - l) := smN_le (fun k => hb _) _
            show G M S E (0, 0) (va_up g (q + 1) (xB S 3696 (fun k => nI (cpT y i l k)))) 71 [some (.ref (E.1 q)), some (.int (nI i)), some (.int (nI l)), some (.int (nI (smN (fun k => y ((i - 1) * 16 + k)) l (16 - l)))), some (.int (nI (l + (16 - l))))] []
            refine r_aload_n (pc := 71) C dX3_makeNext_71 rfl ?_
            refine r_iload_n (pc := 72) C dX3_makeNext_72 rfl ?_
            refine r_iload_n (pc := 73) C dX3_makeNext_73 rfl ?_
            refine r_aload_n (pc := 74) C dX3_makeNext_74 rfl ?_
            refine r_iload_n (pc := 75) C dX3_makeNext_75 rfl ?_
            refine r_iconst (pc := 76) (v := nI 1) C dX3_makeNext_76 (by decide +kernel) ?_
            refine r_isub (pc := 77) C dX3_makeNext_77 ?_
            refine r_ti (nI (i - 1)) (pk_sub (by omega)) ?_
            refine r_iload_n (pc := 78) C dX3_makeNext_78 rfl ?_
            refine r_callV (pc := 79) C dX3_makeNext_79 cv_RX3_41 (c_X3_at (y := cpT y i l) (Ce.up hq (by omega)) (Ce.new hy) (cpT_le hb) (i - 1) l (by omega) (by omega)) ⟨rfl, rfl, by decide, by decide⟩ (Ce.up hq (by omega)) rfl rfl (Nat.le_of_ble_eq_true rfl) ⟨Nat.zero_le _, Nat.zero_le _⟩ ?_
            rintro _ _ ⟨_, rfl, rfl, rfl⟩
            show G M S E (0, 0) (va_up g (q + 1) (xB S 3696 (fun k => nI (cpT y i l k)))) 82 [some (.ref (E.1 q)), some (.int (nI i)), some (.int (nI l)), some (.int (nI (smN (fun k => y ((i - 1) * 16 + k)) l (16 - l)))), some (.int (nI (l + (16 - l))))] [.int (nI ((cpT y i l) ((i - 1) * 16 + l))), .int (nI l), .int (nI i), .ref (E.1 q)]
            rw [cpT_low (show (i - 1) * 16 + l < i * 16 by omega)]
            have hbl := hb ((i - 1) * 16 + l)
            refine r_iconst (pc := 82) (v := nI 1) C dX3_makeNext_82 (by decide +kernel) ?_
            refine r_isub (pc := 83) C dX3_makeNext_83 ?_
            refine r_ti (nI (y ((i - 1) * 16 + l) - 1)) (pk_sub (by omega)) ?_
            refine r_iload_n (pc := 84) C dX3_makeNext_84 rfl ?_
            refine r_callV (pc := 85) C dX3_makeNext_85 cv_RX3_19 (c_X3_fillFrom (y := cpT y i l) (Ce.up hq (by omega)) (Ce.new hy) (cpT_le hb) i l (y ((i - 1) * 16 + l) - 1) (smN (fun k => y ((i - 1) * 16 + k)) l (16 - l)) hi (by omega) (by omega) (by omega)) ⟨rfl, rfl, by decide, by decide⟩ (Ce.up hq (by omega)) rfl rfl (Nat.le_of_ble_eq_true rfl) ⟨Nat.zero_le _, Nat.zero_le _⟩ ?_
            rintro _ _ ⟨rfl, rfl⟩
            rw [bx_uu]
            show G M S E (0, 0) (va_up g (q + 1) (xB S 3696 (fun k => nI (ffT (cpT y i l) i l (y ((i - 1) * 16 + l) - 1) (smN (fun k => y ((i - 1) * 16 + k)) l (16 - l)) (16 - l) k)))) 88 [some (.ref (E.1 q)), some (.int (nI i)), some (.int (nI l)), some (.int (nI (smN (fun k => y ((i - 1) * 16 + k)) l (16 - l)))), some (.int (nI (l + (16 - l))))] []
            refine G.cB (f' := fun k => nI (mkN y i k)) (fun j _ => by show nI _ = nI _; rw [mkN_eq hl (by omega)]) ?_
            refine r_iconst (pc := 88) (v := nI 1) C dX3_makeNext_88 (by decide +kernel) ?_
            exact r_iret (pc := 89) C Z dX3_makeNext_89 rfl (⟨fun q => absurd q (by omega), fun _ => ⟨rfl, rfl⟩⟩)
          · have h50 := c_nle (by omega) (by omega) h50
            omega
        · show G M S E (0, 0) (va_up g (q + 1) (xB S 3696 (fun k => nI (cpT y i l k)))) 46 [some (.ref (E.1 q)), some (.int (nI i)), some (.int (nI l)), some (.int (nI (it (fun t s => s + y ((i - 1) * 16 + (l + t))) t 0))), some (.int (nI (l + t)))] []
          refine r_iload (pc := 46) C dX3_makeNext_46 rfl ?_
          refine r_bipush (pc := 48) (v := nI 16) C dX3_makeNext_48 (by decide +kernel) ?_
          refine r_icmp_ge (pc := 50) (tgt := 71) C dX3_makeNext_50 (by decide) (fun h50 => ?_) (fun h50 => ?_)
          · have h50 := c_le (by omega) (by omega) h50
            omega
          · have h50 := c_nle (by omega) (by omega) h50
            refine r_iload_n (pc := 53) C dX3_makeNext_53 rfl ?_
            refine r_aload_n (pc := 54) C dX3_makeNext_54 rfl ?_
            refine r_iload_n (pc := 55) C dX3_makeNext_55 rfl ?_
            refine r_iconst (pc := 56) (v := nI 1) C dX3_makeNext_56 (by decide +kernel) ?_
            refine r_isub (pc := 57) C dX3_makeNext_57 ?_
            refine r_ti (nI (i - 1)) (pk_sub (by omega)) ?_
            refine r_iload (pc := 58) C dX3_makeNext_58 rfl ?_
            refine r_callV (pc := 60) C dX3_makeNext_60 cv_RX3_41 (c_X3_at (y := cpT y i l) (Ce.up hq (by omega)) (Ce.new hy) (cpT_le hb) (i - 1) (l + t) (by omega) (by omega)) ⟨rfl, rfl, by decide, by decide⟩ (Ce.up hq (by omega)) rfl rfl (Nat.le_of_ble_eq_true rfl) ⟨Nat.zero_le _, Nat.zero_le _⟩ ?_
            rintro _ _ ⟨_, rfl, rfl, rfl⟩
            show G M S E (0, 0) (va_up g (q + 1) (xB S 3696 (fun k => nI (cpT y i l k)))) 63 [some (.ref (E.1 q)), some (.int (nI i)), some (.int (nI l)), some (.int (nI (it (fun t s => s + y ((i - 1) * 16 + (l + t))) t 0))), some (.int (nI (l + t)))] [.int (nI ((cpT y i l) ((i - 1) * 16 + (l + t)))), .int (nI (it (fun t s => s + y ((i - 1) * 16 + (l + t))) t 0))]
            rw [cpT_low (show (i - 1) * 16 + (l + t) < i * 16 by omega)]
            refine r_iadd (pc := 63) C dX3_makeNext_63 ?_
            refine r_ti (nI (it (fun t s => s + y ((i - 1) * 16 + (l + t))) t 0 + (y ((i - 1) * 16 + (l + t))))) (nI_add _ _) ?_
            refine r_istore_n (pc := 64) C dX3_makeNext_64 (by decide) ?_
            refine G.eq (pc' := 65) (vs' := [some (.ref (E.1 q)), some (.int (nI i)), some (.int (nI l)), some (.int (nI (it (fun t s => s + y ((i - 1) * 16 + (l + t))) t 0 + (y ((i - 1) * 16 + (l + t)))))), some (.int (nI (l + t)))]) (st' := []) ?_
            refine r_iinc (pc := 65) (v := nI (l + t + 1)) C dX3_makeNext_65 rfl (nI_i1 _) (by decide) ?_
            refine G.eq (pc' := 68) (vs' := [some (.ref (E.1 q)), some (.int (nI i)), some (.int (nI l)), some (.int (nI (it (fun t s => s + y ((i - 1) * 16 + (l + t))) t 0 + (y ((i - 1) * 16 + (l + t)))))), some (.int (nI (l + t + 1)))]) (st' := []) ?_
            refine r_goto (pc := 68) (tgt := 46) C dX3_makeNext_68 (by decide) ?_
            exact ih
      · have h18 := c_nle (by omega) (by omega) h18
        omega
    · show G M S E (0, 0) (va_up g (q + 1) (xB S 3696 (fun k => nI (cpT y i t k)))) 16 [some (.ref (E.1 q)), some (.int (nI i)), some (.int (nI l)), some (.int (nI t)), none] []
      refine r_iload_n (pc := 16) C dX3_makeNext_16 rfl ?_
      refine r_iload_n (pc := 17) C dX3_makeNext_17 rfl ?_
      refine r_icmp_ge (pc := 18) (tgt := 41) C dX3_makeNext_18 (by decide) (fun h18 => ?_) (fun h18 => ?_)
      · have h18 := c_le (by omega) (by omega) h18
        omega
      · have h18 := c_nle (by omega) (by omega) h18
        refine r_aload_n (pc := 21) C dX3_makeNext_21 rfl ?_
        refine r_iload_n (pc := 22) C dX3_makeNext_22 rfl ?_
        refine r_iload_n (pc := 23) C dX3_makeNext_23 rfl ?_
        refine r_aload_n (pc := 24) C dX3_makeNext_24 rfl ?_
        refine r_iload_n (pc := 25) C dX3_makeNext_25 rfl ?_
        refine r_iconst (pc := 26) (v := nI 1) C dX3_makeNext_26 (by decide +kernel) ?_
        refine r_isub (pc := 27) C dX3_makeNext_27 ?_
        refine r_ti (nI (i - 1)) (pk_sub (by omega)) ?_
        refine r_iload_n (pc := 28) C dX3_makeNext_28 rfl ?_
        refine r_callV (pc := 29) C dX3_makeNext_29 cv_RX3_41 (c_X3_at (y := cpT y i t) (Ce.up hq (by omega)) (Ce.new hy) (cpT_le hb) (i - 1) t (by omega) (by omega)) ⟨rfl, rfl, by decide, by decide⟩ (Ce.up hq (by omega)) rfl rfl (Nat.le_of_ble_eq_true rfl) ⟨Nat.zero_le _, Nat.zero_le _⟩ ?_
        rintro _ _ ⟨_, rfl, rfl, rfl⟩
        show G M S E (0, 0) (va_up g (q + 1) (xB S 3696 (fun k => nI (cpT y i t k)))) 32 [some (.ref (E.1 q)), some (.int (nI i)), some (.int (nI l)), some (.int (nI t)), none] [.int (nI ((cpT y i t) ((i - 1) * 16 + t))), .int (nI t), .int (nI i), .ref (E.1 q)]
        rw [cpT_low (show (i - 1) * 16 + t < i * 16 by omega)]
        have hbt := hb ((i - 1) * 16 + t)
        refine r_callV (pc := 32) C dX3_makeNext_32 cv_RX3_33 (c_X3_put (y := cpT y i t) (Ce.up hq (by omega)) (Ce.new hy) (cpT_le hb) i t (y ((i - 1) * 16 + t)) hi (by omega) (by omega)) ⟨rfl, rfl, by decide, by decide⟩ (Ce.up hq (by omega)) rfl rfl (Nat.le_of_ble_eq_true rfl) ⟨Nat.zero_le _, Nat.zero_le _⟩ ?_
        rintro _ _ ⟨rfl, rfl⟩
        rw [bx_uu]
        show G M S E (0, 0) (va_up g (q + 1) (xB S 3696 (fun k => nI (va_up (cpT y i t) (i * 16 + t) (y ((i - 1) * 16 + t)) k)))) 35 [some (.ref (E.1 q)), some (.int (nI i)), some (.int (nI l)), some (.int (nI t)), none] []
        refine G.cB (f' := fun k => nI (cpT y i (t + 1) k)) (fun j _ => by show nI _ = nI _; rw [cpT_s (by omega) h1]) ?_
        refine r_iinc (pc := 35) (v := nI (t + 1)) C dX3_makeNext_35 rfl (nI_i1 _) (by decide) ?_
        refine G.eq (pc' := 38) (vs' := [some (.ref (E.1 q)), some (.int (nI i)), some (.int (nI l)), some (.int (nI (t + 1))), none]) (st' := []) ?_
        refine r_goto (pc := 38) (tgt := 16) C dX3_makeNext_38 (by decide) ?_
        exact ih
  · have h9 := m_nge0 (by omega) h9
    refine r_iconst (pc := 12) (v := nI 0) C dX3_makeNext_12 (by decide +kernel) ?_
    exact r_iret (pc := 13) C Z dX3_makeNext_13 rfl (⟨fun _ => ⟨rfl, rfl⟩, fun q => absurd h9 q⟩)
/-- the places when t more rows stand -/
def ysF (m : Nat) (y : Nat → Nat) (t : Nat) : Nat → Nat := it (fun t y => mkN y (1 + t)) t (ffT y 0 0 m m 16)
theorem ysF_le {m : Nat} {y : Nat → Nat} (hb : ∀ k, y k ≤ 16) (hm : m ≤ 16) : ∀ (t k : Nat), ysF m y t k ≤ 16
  | 0, k => ffT_le hb hm k
  | t + 1, k => mkN_le (ysF_le hb hm t) k
set_option maxHeartbeats 4000000 in
set_option maxRecDepth 100000 in
theorem c_X3_fillWith {S : ST} {E : ET} {g : Nat → va_E} {q cn : Nat} {y : Nat → Nat} (hq : Ce E g q (.inr (3, [.ref (E.1 (q + 1)), .int (nI cn)]))) (hy : Ce E g (q + 1) (xB S 3696 (fun k => nI (y k)))) (hb : ∀ k, y k ≤ 16) (m : Nat) (hm : m ≤ 16) (T : Nat) (hT : T + 1 ≤ 231) (hgo : ∀ t, t < T → lpN (fun k => ysF m y t ((1 + t - 1) * 16 + k)) 16 ≠ 0) (hend : T + 1 < 231 → lpN (fun k => ysF m y T ((1 + T - 1) * 16 + k)) 16 = 0) : CtV S E yX3_fillWith cX3_fillWith 2 none rmX3_fillWith [.ref (E.1 q), .int (nI m)] g (fun g' => g' = va_up (va_up g (q + 1) (xB S 3696 (fun k => nI (ysF m y T k)))) q (.inr (3, [.ref (E.1 (q + 1)), .int (nI (1 + T))]))) := by
  refine Ct.of RX3 (by decide +kernel) rfl (Nat.le_of_ble_eq_true rfl) (fun M C Z => ?_)
  refine G.eq (pc' := 0) (vs' := [some (.ref (E.1 q)), some (.int (nI m))]) (st' := []) ?_
  refine r_aload_n (pc := 0) C dX3_fillWith_0 rfl ?_
  refine r_iconst (pc := 1) (v := nI 0) C dX3_fillWith_1 (by decide +kernel) ?_
  refine r_iconst (pc := 2) (v := nI 0) C dX3_fillWith_2 (by decide +kernel) ?_
  refine r_iload_n (pc := 3) C dX3_fillWith_3 rfl ?_
  refine r_iload_n (pc := 4) C dX3_fillWith_4 rfl ?_
  refine r_callV (pc := 5) C dX3_fillWith_5 cv_RX3_19 (c_X3_fillFrom hq hy hb 0 0 m m (by decide) (by decide) hm (by omega)) ⟨rfl, rfl, by decide, by decide⟩ hq rfl rfl (Nat.le_of_ble_eq_true rfl) ⟨Nat.zero_le _, Nat.zero_le _⟩ ?_
  rintro _ _ ⟨rfl, rfl⟩
  show G M S E (0, 0) (va_up g (q + 1) (xB S 3696 (fun k => nI (ffT y 0 0 m m 16 k)))) 8 [some (.ref (E.1 q)), some (.int (nI m))] []
  refine r_aload_n (pc := 8) C dX3_fillWith_8 rfl ?_
  refine r_iconst (pc := 9) (v := nI 1) C dX3_fillWith_9 (by decide +kernel) ?_
  refine r_putf (pc := 10) C dX3_fillWith_10 fp_RX3_15 (Ce.up hq (by omega)) rfl rfl (Nat.le_of_ble_eq_true rfl) ?_
  refine bk (P := fun t => G M S E (0, 0) (va_up (va_up g (q + 1) (xB S 3696 (fun k => nI (ysF m y t k)))) q (.inr (3, [.ref (E.1 (q + 1)), .int (nI (1 + t))]))) 13 [some (.ref (E.1 q)), some (.int (nI m))] []) (T := T) ?_ (fun t ht ih => ?_)
  · show G M S E (0, 0) (va_up (va_up g (q + 1) (xB S 3696 (fun k => nI (ysF m y T k)))) q (.inr (3, [.ref (E.1 (q + 1)), .int (nI (1 + T))]))) 13 [some (.ref (E.1 q)), some (.int (nI m))] []
    refine r_aload_n (pc := 13) C dX3_fillWith_13 rfl ?_
    refine r_getf (pc := 14) C dX3_fillWith_14 fl_RX3_15 (Ce.new (Ce.up hq (by omega))) rfl ?_
    refine r_sipush (pc := 17) (v := nI 231) C dX3_fillWith_17 (by decide +kernel) ?_
    refine r_icmp_ge (pc := 20) (tgt := 47) C dX3_fillWith_20 (by decide) (fun h20 => ?_) (fun h20 => ?_)
    · have h20 := c_le (by omega) (by omega) h20
      exact r_vret (pc := 47) C Z dX3_fillWith_47 rfl
    · have h20 := c_nle (by omega) (by omega) h20
      refine r_aload_n (pc := 23) C dX3_fillWith_23 rfl ?_
      refine r_aload_n (pc := 24) C dX3_fillWith_24 rfl ?_
      refine r_getf (pc := 25) C dX3_fillWith_25 fl_RX3_15 (Ce.new (Ce.up hq (by omega))) rfl ?_
      refine r_callV (pc := 28) C dX3_fillWith_28 cv_RX3_23 (c_X3_makeNext (y := ysF m y T) (Ce.new (Ce.up hq (by omega))) (Ce.up (Ce.new hy) (by omega)) (ysF_le hb hm T) (1 + T) (by omega) (by omega)) ⟨rfl, rfl, by decide, by decide⟩ (Ce.new (Ce.up hq (by omega))) rfl rfl (Nat.le_of_ble_eq_true rfl) ⟨Nat.zero_le _, Nat.zero_le _⟩ ?_
      rintro _ g2 ⟨r2, rfl, hr1, hr2⟩
      obtain ⟨rfl, rfl⟩ := hr1 (hend (by omega))
      show G M S E (0, 0) (va_up (va_up g (q + 1) (xB S 3696 (fun k => nI (ysF m y T k)))) q (.inr (3, [.ref (E.1 (q + 1)), .int (nI (1 + T))]))) 31 [some (.ref (E.1 q)), some (.int (nI m))] [.int (b2i false)]
      refine r_if_eq (pc := 31) (tgt := 47) C dX3_fillWith_31 (by decide) (fun h31 => ?_) (fun h31 => ?_)
      · have h31 := b_f h31
        exact r_vret (pc := 47) C Z dX3_fillWith_47 rfl
      · have h31 := b_t h31
        exact absurd h31 (by decide)
  · show G M S E (0, 0) (va_up (va_up g (q + 1) (xB S 3696 (fun k => nI (ysF m y t k)))) q (.inr (3, [.ref (E.1 (q + 1)), .int (nI (1 + t))]))) 13 [some (.ref (E.1 q)), some (.int (nI m))] []
    refine r_aload_n (pc := 13) C dX3_fillWith_13 rfl ?_
    refine r_getf (pc := 14) C dX3_fillWith_14 fl_RX3_15 (Ce.new (Ce.up hq (by omega))) rfl ?_
    refine r_sipush (pc := 17) (v := nI 231) C dX3_fillWith_17 (by decide +kernel) ?_
    refine r_icmp_ge (pc := 20) (tgt := 47) C dX3_fillWith_20 (by decide) (fun h20 => ?_) (fun h20 => ?_)
    · have h20 := c_le (by omega) (by omega) h20
      omega
    · have h20 := c_nle (by omega) (by omega) h20
      refine r_aload_n (pc := 23) C dX3_fillWith_23 rfl ?_
      refine r_aload_n (pc := 24) C dX3_fillWith_24 rfl ?_
      refine r_getf (pc := 25) C dX3_fillWith_25 fl_RX3_15 (Ce.new (Ce.up hq (by omega))) rfl ?_
      refine r_callV (pc := 28) C dX3_fillWith_28 cv_RX3_23 (c_X3_makeNext (y := ysF m y t) (Ce.new (Ce.up hq (by omega))) (Ce.up (Ce.new hy) (by omega)) (ysF_le hb hm t) (1 + t) (by omega) (by omega)) ⟨rfl, rfl, by decide, by decide⟩ (Ce.new (Ce.up hq (by omega))) rfl rfl (Nat.le_of_ble_eq_true rfl) ⟨Nat.zero_le _, Nat.zero_le _⟩ ?_
      rintro _ g2 ⟨r2, rfl, hr1, hr2⟩
      obtain ⟨rfl, rfl⟩ := hr2 (hgo t ht)
      show G M S E (0, 0) (va_up (va_up (va_up g (q + 1) (xB S 3696 (fun k => nI (ysF m y t k)))) q (.inr (3, [.ref (E.1 (q + 1)), .int (nI (1 + t))]))) (q + 1) (xB S 3696 (fun k => nI (mkN (ysF m y t) (1 + t) k)))) 31 [some (.ref (E.1 q)), some (.int (nI m))] [.int (b2i true)]
      refine G.heap (show (va_up (va_up (va_up g (q + 1) (xB S 3696 (fun k => nI (ysF m y t k)))) q (.inr (3, [.ref (E.1 (q + 1)), .int (nI (1 + t))]))) (q + 1) (xB S 3696 (fun k => nI (mkN (ysF m y t) (1 + t) k)))) = (va_up (va_up g (q + 1) (xB S 3696 (fun k => nI (mkN (ysF m y t) (1 + t) k)))) q (.inr (3, [.ref (E.1 (q + 1)), .int (nI (1 + t))]))) from by funext q; simp only [va_up]; (repeat' split) <;> first | rfl | omega) ?_
      refine r_if_eq (pc := 31) (tgt := 47) C dX3_fillWith_31 (by decide) (fun h31 => ?_) (fun h31 => ?_)
      · have h31 := b_f h31
        exact absurd h31 (by decide)
      · have h31 := b_t h31
        refine r_aload_n (pc := 34) C dX3_fillWith_34 rfl ?_
        refine r_dup (pc := 35) C dX3_fillWith_35 rfl ?_
        refine r_getf (pc := 36) C dX3_fillWith_36 fl_RX3_15 (Ce.new (Ce.up hq (by omega))) rfl ?_
        refine r_iconst (pc := 39) (v := nI 1) C dX3_fillWith_39 (by decide +kernel) ?_
        refine r_iadd (pc := 40) C dX3_fillWith_40 ?_
        refine r_ti (nI (1 + t + 1)) (nI_add _ _) ?_
        refine r_putf2 (pc := 41) C dX3_fillWith_41 fp_RX3_15 hq.1 rfl rfl (Nat.le_of_ble_eq_true rfl) ?_
        refine r_goto (pc := 44) (tgt := 13) C dX3_fillWith_44 (by decide) ?_
        exact ih
def gpB (gp a b : Nat) : Bool := decide ((gp : Int) ≤ (a : Int) - b)
theorem gp_t {gp a b : Nat} (h1 : gp < 2 ^ 30) (h2 : a < 2 ^ 30) (h3 : b < 2 ^ 30) (h : nI gp ≤ nI a - nI b) : gpB gp a b = true := by
  rw [Int32.le_iff_toInt_le, pk_sub_toInt h2 h3, nI_toInt (by omega)] at h
  exact decide_eq_true h
theorem gp_f {gp a b : Nat} (h1 : gp < 2 ^ 30) (h2 : a < 2 ^ 30) (h3 : b < 2 ^ 30) (h : ¬ nI gp ≤ nI a - nI b) : gpB gp a b = false := by
  rw [Int32.le_iff_toInt_le, pk_sub_toInt h2 h3, nI_toInt (by omega)] at h
  exact decide_eq_false h
def hgP (gp : Nat) (z : Nat → Nat) (t : Nat) : Bool := bif decide (0 < z (1 + t)) then gpB gp (z (1 + t - 1)) (z (1 + t)) else true
def hgB (gp : Nat) (z : Nat → Nat) : Bool := allB (hgP gp z) 15
def odP (z : Nat → Nat) (t : Nat) : Bool := bif decide (0 < z t) then decide (z t % 2 ≠ 0) else true
def odB (z : Nat → Nat) : Bool := allB (odP z) 16
def calF (z : Nat → Nat) (ls t s : Nat) : Nat := if ls ≤ z t then s + 1 else s
def cal (z : Nat → Nat) (ls : Nat) : Nat := it (calF z ls) 16 0
theorem calF_le (z : Nat → Nat) (ls : Nat) : ∀ t : Nat, it (calF z ls) t 0 ≤ t
  | 0 => Nat.le_refl _
  | t + 1 => by
    have := calF_le z ls t
    show calF z ls t (it (calF z ls) t 0) ≤ t + 1
    rw [calF]
    split <;> omega
def scB (z : Nat → Nat) : Bool := allB (fun t => decide (z t = cal z (t + 1))) 16
def psF (f : Nat) (z : Nat → Nat) : Bool := if f = 1 then hgB 1 z else if f = 2 then odB z else if f = 3 then hgB 2 z else if f = 4 then decide (cal z 1 = cal z 2) else if f = 5 then decide (cal z 1 % 2 = 0) else if f = 6 then scB z else false
set_option maxHeartbeats 4000000 in
set_option maxRecDepth 100000 in
theorem c_X3_hasGaps {S : ST} {E : ET} {g : Nat → va_E} {q cn : Nat} {y : Nat → Nat} (hq : Ce E g q (.inr (3, [.ref (E.1 (q + 1)), .int (nI cn)]))) (hy : Ce E g (q + 1) (xB S 3696 (fun k => nI (y k)))) (hb : ∀ k, y k ≤ 16) (i gp : Nat) (hi : i < 231) (hg : gp < 100) : CtI S E yX3_hasGaps cX3_hasGaps 5 (Option.some FieldType.boolean) rmX3_hasGaps [.ref (E.1 q), .int (nI i), .int (nI gp)] g (fun v g' => v = b2i (hgB gp (fun k => y (i * 16 + k))) ∧ g = g') := by
  refine Ct.of RX3 (by decide +kernel) rfl (Nat.le_of_ble_eq_true rfl) (fun M C Z => ?_)
  refine G.eq (pc' := 0) (vs' := [some (.ref (E.1 q)), some (.int (nI i)), some (.int (nI gp)), none, none]) (st' := []) ?_
  refine r_iconst (pc := 0) (v := nI 1) C dX3_hasGaps_0 (by decide +kernel) ?_
  refine r_istore_n (pc := 1) C dX3_hasGaps_1 (by decide) ?_
  refine G.eq (pc' := 2) (vs' := [some (.ref (E.1 q)), some (.int (nI i)), some (.int (nI gp)), some (.int (nI 1)), none]) (st' := []) ?_
  refine bk (P := fun t => (∀ j : Nat, j < t → hgP gp (fun k => y (i * 16 + k)) j = true) → G M S E (0, 0) g 2 [some (.ref (E.1 q)), some (.int (nI i)), some (.int (nI gp)), some (.int (nI (1 + t))), none] []) (T := 15) (fun hh => ?_) (fun t ht ih hh => ?_) (fun j hj => absurd hj (Nat.not_lt_zero j))
  · show G M S E (0, 0) g 2 [some (.ref (E.1 q)), some (.int (nI i)), some (.int (nI gp)), some (.int (nI (1 + 15))), none] []
    refine r_iload_n (pc := 2) C dX3_hasGaps_2 rfl ?_
    refine r_bipush (pc := 3) (v := nI 16) C dX3_hasGaps_3 (by decide +kernel) ?_
    refine r_icmp_ge (pc := 5) (tgt := 44) C dX3_hasGaps_5 (by decide) (fun h5 => ?_) (fun h5 => ?_)
    · have h5 := c_le (by omega) (by omega) h5
      refine r_iconst (pc := 44) (v := nI 1) C dX3_hasGaps_44 (by decide +kernel) ?_
      exact r_iret (pc := 45) C Z dX3_hasGaps_45 rfl (⟨by rw [show hgB gp (fun k => y (i * 16 + k)) = true from allB_t hh]; rfl, rfl⟩)
    · have h5 := c_nle (by omega) (by omega) h5
      omega
  · show G M S E (0, 0) g 2 [some (.ref (E.1 q)), some (.int (nI i)), some (.int (nI gp)), some (.int (nI (1 + t))), none] []
    refine r_iload_n (pc := 2) C dX3_hasGaps_2 rfl ?_
    refine r_bipush (pc := 3) (v := nI 16) C dX3_hasGaps_3 (by decide +kernel) ?_
    refine r_icmp_ge (pc := 5) (tgt := 44) C dX3_hasGaps_5 (by decide) (fun h5 => ?_) (fun h5 => ?_)
    · have h5 := c_le (by omega) (by omega) h5
      omega
    · have h5 := c_nle (by omega) (by omega) h5
      refine r_aload_n (pc := 8) C dX3_hasGaps_8 rfl ?_
      refine r_iload_n (pc := 9) C dX3_hasGaps_9 rfl ?_
      refine r_iload_n (pc := 10) C dX3_hasGaps_10 rfl ?_
      refine r_callV (pc := 11) C dX3_hasGaps_11 cv_RX3_41 (c_X3_at (y := y) hq hy hb i (1 + t) (by omega) (by omega)) ⟨rfl, rfl, by decide, by decide⟩ hq rfl rfl (Nat.le_of_ble_eq_true rfl) ⟨Nat.zero_le _, Nat.zero_le _⟩ ?_
      rintro _ _ ⟨_, rfl, rfl, rfl⟩
      show G M S E (0, 0) g 14 [some (.ref (E.1 q)), some (.int (nI i)), some (.int (nI gp)), some (.int (nI (1 + t))), none] [.int (nI (y (i * 16 + (1 + t))))]
      have hb1 := hb (i * 16 + (1 + t))
      have hb2 := hb (i * 16 + (1 + t - 1))
      refine r_istore (pc := 14) C dX3_hasGaps_14 (by decide) ?_
      refine G.eq (pc' := 16) (vs' := [some (.ref (E.1 q)), some (.int (nI i)), some (.int (nI gp)), some (.int (nI (1 + t))), some (.int (nI (y (i * 16 + (1 + t)))))]) (st' := []) ?_
      refine r_iload (pc := 16) C dX3_hasGaps_16 rfl ?_
      refine r_if_le (pc := 18) (tgt := 38) C dX3_hasGaps_18 (by decide) (fun h18 => ?_) (fun h18 => ?_)
      · have h18 := z_le (by omega) h18
        refine r_iinc (pc := 38) (v := nI (1 + t + 1)) C dX3_hasGaps_38 rfl (nI_i1 _) (by decide) ?_
        refine G.eq (pc' := 41) (vs' := [some (.ref (E.1 q)), some (.int (nI i)), some (.int (nI gp)), some (.int (nI (1 + t + 1))), some (.int (nI (y (i * 16 + (1 + t)))))]) (st' := []) ?_
        refine r_goto (pc := 41) (tgt := 2) C dX3_hasGaps_41 (by decide) ?_
        refine G.wk (vs' := [some (.ref (E.1 q)), some (.int (nI i)), some (.int (nI gp)), some (.int (nI (1 + t + 1))), none]) ⟨rfl, rfl, rfl, rfl, trivial⟩ ?_
        exact (ih (lt_s hh (by unfold hgP; rw [show decide (0 < (fun k => y (i * 16 + k)) (1 + t)) = false from decide_eq_false (by show ¬ 0 < y _; omega)]; rfl)))
      · have h18 := z_nle (by omega) h18
        refine r_aload_n (pc := 21) C dX3_hasGaps_21 rfl ?_
        refine r_iload_n (pc := 22) C dX3_hasGaps_22 rfl ?_
        refine r_iload_n (pc := 23) C dX3_hasGaps_23 rfl ?_
        refine r_iconst (pc := 24) (v := nI 1) C dX3_hasGaps_24 (by decide +kernel) ?_
        refine r_isub (pc := 25) C dX3_hasGaps_25 ?_
        refine r_ti (nI (1 + t - 1)) (pk_sub (by omega)) ?_
        refine r_callV (pc := 26) C dX3_hasGaps_26 cv_RX3_41 (c_X3_at (y := y) hq hy hb i (1 + t - 1) (by omega) (by omega)) ⟨rfl, rfl, by decide, by decide⟩ hq rfl rfl (Nat.le_of_ble_eq_true rfl) ⟨Nat.zero_le _, Nat.zero_le _⟩ ?_
        rintro _ _ ⟨_, rfl, rfl, rfl⟩
        show G M S E (0, 0) g 29 [some (.ref (E.1 q)), some (.int (nI i)), some (.int (nI gp)), some (.int (nI (1 + t))), some (.int (nI (y (i * 16 + (1 + t)))))] [.int (nI (y (i * 16 + (1 + t - 1))))]
        refine r_iload (pc := 29) C dX3_hasGaps_29 rfl ?_
        refine r_isub (pc := 31) C dX3_hasGaps_31 ?_
        refine r_iload_n (pc := 32) C dX3_hasGaps_32 rfl ?_
        refine r_icmp_ge (pc := 33) (tgt := 38) C dX3_hasGaps_33 (by decide) (fun h33 => ?_) (fun h33 => ?_)
        · have hg := gp_t (by omega) (by omega) (by omega) h33
          refine r_iinc (pc := 38) (v := nI (1 + t + 1)) C dX3_hasGaps_38 rfl (nI_i1 _) (by decide) ?_
          refine G.eq (pc' := 41) (vs' := [some (.ref (E.1 q)), some (.int (nI i)), some (.int (nI gp)), some (.int (nI (1 + t + 1))), some (.int (nI (y (i * 16 + (1 + t)))))]) (st' := []) ?_
          refine r_goto (pc := 41) (tgt := 2) C dX3_hasGaps_41 (by decide) ?_
          refine G.wk (vs' := [some (.ref (E.1 q)), some (.int (nI i)), some (.int (nI gp)), some (.int (nI (1 + t + 1))), none]) ⟨rfl, rfl, rfl, rfl, trivial⟩ ?_
          exact (ih (lt_s hh (by unfold hgP; rw [show decide (0 < (fun k => y (i * 16 + k)) (1 + t)) = true from decide_eq_true h18]; exact hg)))
        · have hg := gp_f (by omega) (by omega) (by omega) h33
          refine r_iconst (pc := 36) (v := nI 0) C dX3_hasGaps_36 (by decide +kernel) ?_
          exact r_iret (pc := 37) C Z dX3_hasGaps_37 rfl (⟨by rw [show hgB gp (fun k => y (i * 16 + k)) = false from allB_f ht (by unfold hgP; rw [show decide (0 < (fun k => y (i * 16 + k)) (1 + t)) = true from decide_eq_true h18]; exact hg)]; rfl, rfl⟩)
set_option maxHeartbeats 4000000 in
set_option maxRecDepth 100000 in
theorem c_X3_hasOddPartsOnly {S : ST} {E : ET} {g : Nat → va_E} {q cn : Nat} {y : Nat → Nat} (hq : Ce E g q (.inr (3, [.ref (E.1 (q + 1)), .int (nI cn)]))) (hy : Ce E g (q + 1) (xB S 3696 (fun k => nI (y k)))) (hb : ∀ k, y k ≤ 16) (i : Nat) (hi : i < 231) : CtI S E yX3_hasOddPartsOnly cX3_hasOddPartsOnly 4 (Option.some FieldType.boolean) rmX3_hasOddPartsOnly [.ref (E.1 q), .int (nI i)] g (fun v g' => v = b2i (odB (fun k => y (i * 16 + k))) ∧ g = g') := by
  refine Ct.of RX3 (by decide +kernel) rfl (Nat.le_of_ble_eq_true rfl) (fun M C Z => ?_)
  refine G.eq (pc' := 0) (vs' := [some (.ref (E.1 q)), some (.int (nI i)), none, none]) (st' := []) ?_
  refine r_iconst (pc := 0) (v := nI 0) C dX3_hasOddPartsOnly_0 (by decide +kernel) ?_
  refine r_istore_n (pc := 1) C dX3_hasOddPartsOnly_1 (by decide) ?_
  refine G.eq (pc' := 2) (vs' := [some (.ref (E.1 q)), some (.int (nI i)), some (.int (nI 0)), none]) (st' := []) ?_
  refine bk (P := fun t => (∀ j : Nat, j < t → odP (fun k => y (i * 16 + k)) j = true) → G M S E (0, 0) g 2 [some (.ref (E.1 q)), some (.int (nI i)), some (.int (nI t)), none] []) (T := 16) (fun hh => ?_) (fun t ht ih hh => ?_) (fun j hj => absurd hj (Nat.not_lt_zero j))
  · show G M S E (0, 0) g 2 [some (.ref (E.1 q)), some (.int (nI i)), some (.int (nI 16)), none] []
    refine r_iload_n (pc := 2) C dX3_hasOddPartsOnly_2 rfl ?_
    refine r_bipush (pc := 3) (v := nI 16) C dX3_hasOddPartsOnly_3 (by decide +kernel) ?_
    refine r_icmp_ge (pc := 5) (tgt := 33) C dX3_hasOddPartsOnly_5 (by decide) (fun h5 => ?_) (fun h5 => ?_)
    · have h5 := c_le (by omega) (by omega) h5
      refine r_iconst (pc := 33) (v := nI 1) C dX3_hasOddPartsOnly_33 (by decide +kernel) ?_
      exact r_iret (pc := 34) C Z dX3_hasOddPartsOnly_34 rfl (⟨by rw [show odB (fun k => y (i * 16 + k)) = true from allB_t hh]; rfl, rfl⟩)
    · have h5 := c_nle (by omega) (by omega) h5
      omega
  · show G M S E (0, 0) g 2 [some (.ref (E.1 q)), some (.int (nI i)), some (.int (nI t)), none] []
    refine r_iload_n (pc := 2) C dX3_hasOddPartsOnly_2 rfl ?_
    refine r_bipush (pc := 3) (v := nI 16) C dX3_hasOddPartsOnly_3 (by decide +kernel) ?_
    refine r_icmp_ge (pc := 5) (tgt := 33) C dX3_hasOddPartsOnly_5 (by decide) (fun h5 => ?_) (fun h5 => ?_)
    · have h5 := c_le (by omega) (by omega) h5
      omega
    · have h5 := c_nle (by omega) (by omega) h5
      refine r_aload_n (pc := 8) C dX3_hasOddPartsOnly_8 rfl ?_
      refine r_iload_n (pc := 9) C dX3_hasOddPartsOnly_9 rfl ?_
      refine r_iload_n (pc := 10) C dX3_hasOddPartsOnly_10 rfl ?_
      refine r_callV (pc := 11) C dX3_hasOddPartsOnly_11 cv_RX3_41 (c_X3_at (y := y) hq hy hb i t (by omega) (by omega)) ⟨rfl, rfl, by decide, by decide⟩ hq rfl rfl (Nat.le_of_ble_eq_true rfl) ⟨Nat.zero_le _, Nat.zero_le _⟩ ?_
      rintro _ _ ⟨_, rfl, rfl, rfl⟩
      show G M S E (0, 0) g 14 [some (.ref (E.1 q)), some (.int (nI i)), some (.int (nI t)), none] [.int (nI (y (i * 16 + t)))]
      have hb1 := hb (i * 16 + t)
      refine r_istore_n (pc := 14) C dX3_hasOddPartsOnly_14 (by decide) ?_
      refine G.eq (pc' := 15) (vs' := [some (.ref (E.1 q)), some (.int (nI i)), some (.int (nI t)), some (.int (nI (y (i * 16 + t))))]) (st' := []) ?_
      refine r_iload_n (pc := 15) C dX3_hasOddPartsOnly_15 rfl ?_
      refine r_if_le (pc := 16) (tgt := 27) C dX3_hasOddPartsOnly_16 (by decide) (fun h16 => ?_) (fun h16 => ?_)
      · have h16 := z_le (by omega) h16
        refine r_iinc (pc := 27) (v := nI (t + 1)) C dX3_hasOddPartsOnly_27 rfl (nI_i1 _) (by decide) ?_
        refine G.eq (pc' := 30) (vs' := [some (.ref (E.1 q)), some (.int (nI i)), some (.int (nI (t + 1))), some (.int (nI (y (i * 16 + t))))]) (st' := []) ?_
        refine r_goto (pc := 30) (tgt := 2) C dX3_hasOddPartsOnly_30 (by decide) ?_
        refine G.wk (vs' := [some (.ref (E.1 q)), some (.int (nI i)), some (.int (nI (t + 1))), none]) ⟨rfl, rfl, rfl, trivial⟩ ?_
        exact (ih (lt_s hh (by unfold odP; rw [show decide (0 < (fun k => y (i * 16 + k)) t) = false from decide_eq_false (by show ¬ 0 < y _; omega)]; rfl)))
      · have h16 := z_nle (by omega) h16
        refine r_iload_n (pc := 19) C dX3_hasOddPartsOnly_19 rfl ?_
        refine r_iconst (pc := 20) (v := nI 2) C dX3_hasOddPartsOnly_20 (by decide +kernel) ?_
        refine r_irem (pc := 21) C dX3_hasOddPartsOnly_21 (nI_ne0 (by omega) (by omega)) ?_
        refine r_ti (nI ((y (i * 16 + t)) % 2)) (pk_rem (by omega) (by omega) (by omega)) ?_
        refine r_if_ne (pc := 22) (tgt := 27) C dX3_hasOddPartsOnly_22 (by decide) (fun h22 => ?_) (fun h22 => ?_)
        · have h22 := z_ne (by omega) h22
          refine r_iinc (pc := 27) (v := nI (t + 1)) C dX3_hasOddPartsOnly_27 rfl (nI_i1 _) (by decide) ?_
          refine G.eq (pc' := 30) (vs' := [some (.ref (E.1 q)), some (.int (nI i)), some (.int (nI (t + 1))), some (.int (nI (y (i * 16 + t))))]) (st' := []) ?_
          refine r_goto (pc := 30) (tgt := 2) C dX3_hasOddPartsOnly_30 (by decide) ?_
          refine G.wk (vs' := [some (.ref (E.1 q)), some (.int (nI i)), some (.int (nI (t + 1))), none]) ⟨rfl, rfl, rfl, trivial⟩ ?_
          exact (ih (lt_s hh (by unfold odP; rw [show decide (0 < (fun k => y (i * 16 + k)) t) = true from decide_eq_true h16]; exact decide_eq_true h22)))
        · have h22 := z_eq (by omega) h22
          refine r_iconst (pc := 25) (v := nI 0) C dX3_hasOddPartsOnly_25 (by decide +kernel) ?_
          exact r_iret (pc := 26) C Z dX3_hasOddPartsOnly_26 rfl (⟨by rw [show odB (fun k => y (i * 16 + k)) = false from allB_f ht (by unfold odP; rw [show decide (0 < (fun k => y (i * 16 + k)) t) = true from decide_eq_true h16]; exact decide_eq_false (fun q => q h22))]; rfl, rfl⟩)
set_option maxHeartbeats 4000000 in
set_option maxRecDepth 100000 in
theorem c_X3_countAtLeast {S : ST} {E : ET} {g : Nat → va_E} {q cn : Nat} {y : Nat → Nat} (hq : Ce E g q (.inr (3, [.ref (E.1 (q + 1)), .int (nI cn)]))) (hy : Ce E g (q + 1) (xB S 3696 (fun k => nI (y k)))) (hb : ∀ k, y k ≤ 16) (i ls : Nat) (hi : i < 231) (hl : ls < 100) : CtI S E yX3_countAtLeast cX3_countAtLeast 5 (Option.some FieldType.int) rmX3_countAtLeast [.ref (E.1 q), .int (nI i), .int (nI ls)] g (fun v g' => v = nI (cal (fun k => y (i * 16 + k)) ls) ∧ g = g') := by
  refine Ct.of RX3 (by decide +kernel) rfl (Nat.le_of_ble_eq_true rfl) (fun M C Z => ?_)
  refine G.eq (pc' := 0) (vs' := [some (.ref (E.1 q)), some (.int (nI i)), some (.int (nI ls)), none, none]) (st' := []) ?_
  refine r_iconst (pc := 0) (v := nI 0) C dX3_countAtLeast_0 (by decide +kernel) ?_
  refine r_istore_n (pc := 1) C dX3_countAtLeast_1 (by decide) ?_
  refine G.eq (pc' := 2) (vs' := [some (.ref (E.1 q)), some (.int (nI i)), some (.int (nI ls)), some (.int (nI 0)), none]) (st' := []) ?_
  refine r_iconst (pc := 2) (v := nI 0) C dX3_countAtLeast_2 (by decide +kernel) ?_
  refine r_istore (pc := 3) C dX3_countAtLeast_3 (by decide) ?_
  refine G.eq (pc' := 5) (vs' := [some (.ref (E.1 q)), some (.int (nI i)), some (.int (nI ls)), some (.int (nI 0)), some (.int (nI 0))]) (st' := []) ?_
  refine bk (P := fun t => G M S E (0, 0) g 5 [some (.ref (E.1 q)), some (.int (nI i)), some (.int (nI ls)), some (.int (nI (it (calF (fun k => y (i * 16 + k)) ls) t 0))), some (.int (nI t))] []) (T := 16) ?_ (fun t ht ih => ?_)
  · show G M S E (0, 0) g 5 [some (.ref (E.1 q)), some (.int (nI i)), some (.int (nI ls)), some (.int (nI (it (calF (fun k => y (i * 16 + k)) ls) 16 0))), some (.int (nI 16))] []
    refine r_iload (pc := 5) C dX3_countAtLeast_5 rfl ?_
    refine r_bipush (pc := 7) (v := nI 16) C dX3_countAtLeast_7 (by decide +kernel) ?_
    refine r_icmp_ge (pc := 9) (tgt := 32) C dX3_countAtLeast_9 (by decide) (fun h9 => ?_) (fun h9 => ?_)
    · have h9 := c_le (by omega) (by omega) h9
      refine r_iload_n (pc := 32) C dX3_countAtLeast_32 rfl ?_
      exact r_iret (pc := 33) C Z dX3_countAtLeast_33 rfl (⟨rfl, rfl⟩)
    · have h9 := c_nle (by omega) (by omega) h9
      omega
  · show G M S E (0, 0) g 5 [some (.ref (E.1 q)), some (.int (nI i)), some (.int (nI ls)), some (.int (nI (it (calF (fun k => y (i * 16 + k)) ls) t 0))), some (.int (nI t))] []
    refine r_iload (pc := 5) C dX3_countAtLeast_5 rfl ?_
    refine r_bipush (pc := 7) (v := nI 16) C dX3_countAtLeast_7 (by decide +kernel) ?_
    refine r_icmp_ge (pc := 9) (tgt := 32) C dX3_countAtLeast_9 (by decide) (fun h9 => ?_) (fun h9 => ?_)
    · have h9 := c_le (by omega) (by omega) h9
      omega
    · have h9 := c_nle (by omega) (by omega) h9
      refine r_aload_n (pc := 12) C dX3_countAtLeast_12 rfl ?_
      refine r_iload_n (pc := 13) C dX3_countAtLeast_13 rfl ?_
      refine r_iload (pc := 14) C dX3_countAtLeast_14 rfl ?_
      refine r_callV (pc := 16) C dX3_countAtLeast_16 cv_RX3_41 (c_X3_at (y := y) hq hy hb i t (by omega) (by omega)) ⟨rfl, rfl, by decide, by decide⟩ hq rfl rfl (Nat.le_of_ble_eq_true rfl) ⟨Nat.zero_le _, Nat.zero_le _⟩ ?_
      rintro _ _ ⟨_, rfl, rfl, rfl⟩
      show G M S E (0, 0) g 19 [some (.ref (E.1 q)), some (.int (nI i)), some (.int (nI ls)), some (.int (nI (it (calF (fun k => y (i * 16 + k)) ls) t 0))), some (.int (nI t))] [.int (nI (y (i * 16 + t)))]
      have hb1 := hb (i * 16 + t)
      refine r_iload_n (pc := 19) C dX3_countAtLeast_19 rfl ?_
      refine r_icmp_lt (pc := 20) (tgt := 26) C dX3_countAtLeast_20 (by decide) (fun h20 => ?_) (fun h20 => ?_)
      · have h20 := c_lt (by omega) (by omega) h20
        rw [show it (calF (fun k => y (i * 16 + k)) ls) t 0 = it (calF (fun k => y (i * 16 + k)) ls) (t + 1) 0 from (if_neg (by show ¬ ls ≤ y _; omega)).symm]
        refine r_iinc (pc := 26) (v := nI (t + 1)) C dX3_countAtLeast_26 rfl (nI_i1 _) (by decide) ?_
        refine G.eq (pc' := 29) (vs' := [some (.ref (E.1 q)), some (.int (nI i)), some (.int (nI ls)), some (.int (nI (it (calF (fun k => y (i * 16 + k)) ls) (t + 1) 0))), some (.int (nI (t + 1)))]) (st' := []) ?_
        refine r_goto (pc := 29) (tgt := 5) C dX3_countAtLeast_29 (by decide) ?_
        exact ih
      · have h20 := c_nlt (by omega) (by omega) h20
        refine r_iinc (pc := 23) (v := nI (it (calF (fun k => y (i * 16 + k)) ls) t 0 + 1)) C dX3_countAtLeast_23 rfl (nI_i1 _) (by decide) ?_
        refine G.eq (pc' := 26) (vs' := [some (.ref (E.1 q)), some (.int (nI i)), some (.int (nI ls)), some (.int (nI (it (calF (fun k => y (i * 16 + k)) ls) t 0 + 1))), some (.int (nI t))]) (st' := []) ?_
        rw [show it (calF (fun k => y (i * 16 + k)) ls) t 0 + 1 = it (calF (fun k => y (i * 16 + k)) ls) (t + 1) 0 from (if_pos (by show ls ≤ y _; omega)).symm]
        refine r_iinc (pc := 26) (v := nI (t + 1)) C dX3_countAtLeast_26 rfl (nI_i1 _) (by decide) ?_
        refine G.eq (pc' := 29) (vs' := [some (.ref (E.1 q)), some (.int (nI i)), some (.int (nI ls)), some (.int (nI (it (calF (fun k => y (i * 16 + k)) ls) (t + 1) 0))), some (.int (nI (t + 1)))]) (st' := []) ?_
        refine r_goto (pc := 29) (tgt := 5) C dX3_countAtLeast_29 (by decide) ?_
        exact ih
set_option maxHeartbeats 4000000 in
set_option maxRecDepth 100000 in
theorem c_X3_isSelfConjugate {S : ST} {E : ET} {g : Nat → va_E} {q cn : Nat} {y : Nat → Nat} (hq : Ce E g q (.inr (3, [.ref (E.1 (q + 1)), .int (nI cn)]))) (hy : Ce E g (q + 1) (xB S 3696 (fun k => nI (y k)))) (hb : ∀ k, y k ≤ 16) (i : Nat) (hi : i < 231) : CtI S E yX3_isSelfConjugate cX3_isSelfConjugate 3 (Option.some FieldType.boolean) rmX3_isSelfConjugate [.ref (E.1 q), .int (nI i)] g (fun v g' => v = b2i (scB (fun k => y (i * 16 + k))) ∧ g = g') := by
  refine Ct.of RX3 (by decide +kernel) rfl (Nat.le_of_ble_eq_true rfl) (fun M C Z => ?_)
  refine G.eq (pc' := 0) (vs' := [some (.ref (E.1 q)), some (.int (nI i)), none]) (st' := []) ?_
  refine r_iconst (pc := 0) (v := nI 0) C dX3_isSelfConjugate_0 (by decide +kernel) ?_
  refine r_istore_n (pc := 1) C dX3_isSelfConjugate_1 (by decide) ?_
  refine G.eq (pc' := 2) (vs' := [some (.ref (E.1 q)), some (.int (nI i)), some (.int (nI 0))]) (st' := []) ?_
  refine bk (P := fun t => (∀ j : Nat, j < t → decide ((fun k => y (i * 16 + k)) j = cal (fun k => y (i * 16 + k)) (j + 1)) = true) → G M S E (0, 0) g 2 [some (.ref (E.1 q)), some (.int (nI i)), some (.int (nI t))] []) (T := 16) (fun hh => ?_) (fun t ht ih hh => ?_) (fun j hj => absurd hj (Nat.not_lt_zero j))
  · show G M S E (0, 0) g 2 [some (.ref (E.1 q)), some (.int (nI i)), some (.int (nI 16))] []
    refine r_iload_n (pc := 2) C dX3_isSelfConjugate_2 rfl ?_
    refine r_bipush (pc := 3) (v := nI 16) C dX3_isSelfConjugate_3 (by decide +kernel) ?_
    refine r_icmp_ge (pc := 5) (tgt := 33) C dX3_isSelfConjugate_5 (by decide) (fun h5 => ?_) (fun h5 => ?_)
    · have h5 := c_le (by omega) (by omega) h5
      refine r_iconst (pc := 33) (v := nI 1) C dX3_isSelfConjugate_33 (by decide +kernel) ?_
      exact r_iret (pc := 34) C Z dX3_isSelfConjugate_34 rfl (⟨by rw [show scB (fun k => y (i * 16 + k)) = true from allB_t hh]; rfl, rfl⟩)
    · have h5 := c_nle (by omega) (by omega) h5
      omega
  · show G M S E (0, 0) g 2 [some (.ref (E.1 q)), some (.int (nI i)), some (.int (nI t))] []
    refine r_iload_n (pc := 2) C dX3_isSelfConjugate_2 rfl ?_
    refine r_bipush (pc := 3) (v := nI 16) C dX3_isSelfConjugate_3 (by decide +kernel) ?_
    refine r_icmp_ge (pc := 5) (tgt := 33) C dX3_isSelfConjugate_5 (by decide) (fun h5 => ?_) (fun h5 => ?_)
    · have h5 := c_le (by omega) (by omega) h5
      omega
    · have h5 := c_nle (by omega) (by omega) h5
      refine r_aload_n (pc := 8) C dX3_isSelfConjugate_8 rfl ?_
      refine r_iload_n (pc := 9) C dX3_isSelfConjugate_9 rfl ?_
      refine r_iload_n (pc := 10) C dX3_isSelfConjugate_10 rfl ?_
      refine r_callV (pc := 11) C dX3_isSelfConjugate_11 cv_RX3_41 (c_X3_at (y := y) hq hy hb i t (by omega) (by omega)) ⟨rfl, rfl, by decide, by decide⟩ hq rfl rfl (Nat.le_of_ble_eq_true rfl) ⟨Nat.zero_le _, Nat.zero_le _⟩ ?_
      rintro _ _ ⟨_, rfl, rfl, rfl⟩
      show G M S E (0, 0) g 14 [some (.ref (E.1 q)), some (.int (nI i)), some (.int (nI t))] [.int (nI (y (i * 16 + t)))]
      have hb1 := hb (i * 16 + t)
      refine r_aload_n (pc := 14) C dX3_isSelfConjugate_14 rfl ?_
      refine r_iload_n (pc := 15) C dX3_isSelfConjugate_15 rfl ?_
      refine r_iload_n (pc := 16) C dX3_isSelfConjugate_16 rfl ?_
      refine r_iconst (pc := 17) (v := nI 1) C dX3_isSelfConjugate_17 (by decide +kernel) ?_
      refine r_iadd (pc := 18) C dX3_isSelfConjugate_18 ?_
      refine r_ti (nI (t + 1)) (nI_add _ _) ?_
      refine r_callV (pc := 19) C dX3_isSelfConjugate_19 cv_RX3_60 (c_X3_countAtLeast hq hy hb i (t + 1) hi (by omega)) ⟨rfl, rfl, by decide, by decide⟩ hq rfl rfl (Nat.le_of_ble_eq_true rfl) ⟨Nat.zero_le _, Nat.zero_le _⟩ ?_
      rintro _ _ ⟨_, rfl, rfl, rfl⟩
      show G M S E (0, 0) g 22 [some (.ref (E.1 q)), some (.int (nI i)), some (.int (nI t))] [.int (nI (cal (fun k => y (i * 16 + k)) (t + 1))), .int (nI (y (i * 16 + t)))]
      have hct1 := calF_le (fun k => y (i * 16 + k)) (t + 1) 16
      have hct1 : cal (fun k => y (i * 16 + k)) (t + 1) ≤ 16 := hct1
      refine r_icmp_eq (pc := 22) (tgt := 27) C dX3_isSelfConjugate_22 (by decide) (fun h22 => ?_) (fun h22 => ?_)
      · have h22 := c_eq (by omega) (by omega) h22
        refine r_iinc (pc := 27) (v := nI (t + 1)) C dX3_isSelfConjugate_27 rfl (nI_i1 _) (by decide) ?_
        refine G.eq (pc' := 30) (vs' := [some (.ref (E.1 q)), some (.int (nI i)), some (.int (nI (t + 1)))]) (st' := []) ?_
        refine r_goto (pc := 30) (tgt := 2) C dX3_isSelfConjugate_30 (by decide) ?_
        exact (ih (lt_s hh (decide_eq_true h22)))
      · have h22 := c_ne (by omega) (by omega) h22
        refine r_iconst (pc := 25) (v := nI 0) C dX3_isSelfConjugate_25 (by decide +kernel) ?_
        exact r_iret (pc := 26) C Z dX3_isSelfConjugate_26 rfl (⟨by rw [show scB (fun k => y (i * 16 + k)) = false from allB_f ht (decide_eq_false h22)]; rfl, rfl⟩)
set_option maxHeartbeats 4000000 in
set_option maxRecDepth 100000 in
theorem c_X3_passes {S : ST} {E : ET} {g : Nat → va_E} {q cn : Nat} {y : Nat → Nat} (hq : Ce E g q (.inr (3, [.ref (E.1 (q + 1)), .int (nI cn)]))) (hy : Ce E g (q + 1) (xB S 3696 (fun k => nI (y k)))) (hb : ∀ k, y k ≤ 16) (i f : Nat) (hi : i < 231) (h1 : 1 ≤ f) (h6 : f ≤ 6) : CtI S E yX3_passes cX3_passes 3 (Option.some FieldType.boolean) rmX3_passes [.ref (E.1 q), .int (nI i), .int (nI f)] g (fun v g' => v = b2i (psF f (fun k => y (i * 16 + k))) ∧ g = g') := by
  refine Ct.of RX3 (by decide +kernel) rfl (Nat.le_of_ble_eq_true rfl) (fun M C Z => ?_)
  refine G.eq (pc' := 0) (vs' := [some (.ref (E.1 q)), some (.int (nI i)), some (.int (nI f))]) (st' := []) ?_
  rcases (show f = 1 ∨ f = 2 ∨ f = 3 ∨ f = 4 ∨ f = 5 ∨ f = 6 by omega) with rfl | rfl | rfl | rfl | rfl | rfl
  · refine r_iload_n (pc := 0) C dX3_passes_0 rfl ?_
    refine r_tableIn (pc := 1) (tgt := 40) (off := 39) C dX3_passes_1 (by decide +kernel) (by decide +kernel) (by decide +kernel) (by decide) ?_
    refine r_aload_n (pc := 40) C dX3_passes_40 rfl ?_
    refine r_iload_n (pc := 41) C dX3_passes_41 rfl ?_
    refine r_iconst (pc := 42) (v := nI 1) C dX3_passes_42 (by decide +kernel) ?_
    refine r_callV (pc := 43) C dX3_passes_43 cv_RX3_54 (c_X3_hasGaps hq hy hb i 1 hi (by decide)) ⟨rfl, rfl, by decide, by decide⟩ hq rfl rfl (Nat.le_of_ble_eq_true rfl) ⟨Nat.zero_le _, Nat.zero_le _⟩ ?_
    rintro _ _ ⟨_, rfl, rfl, rfl⟩
    show G M S E (0, 0) g 46 [some (.ref (E.1 q)), some (.int (nI i)), some (.int (nI 1))] [.int (b2i (hgB 1 (fun k => y (i * 16 + k))))]
    exact r_iret (pc := 46) C Z dX3_passes_46 (b_n _) (⟨rfl, rfl⟩)
  · refine r_iload_n (pc := 0) C dX3_passes_0 rfl ?_
    refine r_tableIn (pc := 1) (tgt := 47) (off := 46) C dX3_passes_1 (by decide +kernel) (by decide +kernel) (by decide +kernel) (by decide) ?_
    refine r_aload_n (pc := 47) C dX3_passes_47 rfl ?_
    refine r_iload_n (pc := 48) C dX3_passes_48 rfl ?_
    refine r_callV (pc := 49) C dX3_passes_49 cv_RX3_57 (c_X3_hasOddPartsOnly hq hy hb i hi) ⟨rfl, rfl, by decide, by decide⟩ hq rfl rfl (Nat.le_of_ble_eq_true rfl) ⟨Nat.zero_le _, Nat.zero_le _⟩ ?_
    rintro _ _ ⟨_, rfl, rfl, rfl⟩
    show G M S E (0, 0) g 52 [some (.ref (E.1 q)), some (.int (nI i)), some (.int (nI 2))] [.int (b2i (odB (fun k => y (i * 16 + k))))]
    exact r_iret (pc := 52) C Z dX3_passes_52 (b_n _) (⟨rfl, rfl⟩)
  · refine r_iload_n (pc := 0) C dX3_passes_0 rfl ?_
    refine r_tableIn (pc := 1) (tgt := 53) (off := 52) C dX3_passes_1 (by decide +kernel) (by decide +kernel) (by decide +kernel) (by decide) ?_
    refine r_aload_n (pc := 53) C dX3_passes_53 rfl ?_
    refine r_iload_n (pc := 54) C dX3_passes_54 rfl ?_
    refine r_iconst (pc := 55) (v := nI 2) C dX3_passes_55 (by decide +kernel) ?_
    refine r_callV (pc := 56) C dX3_passes_56 cv_RX3_54 (c_X3_hasGaps hq hy hb i 2 hi (by decide)) ⟨rfl, rfl, by decide, by decide⟩ hq rfl rfl (Nat.le_of_ble_eq_true rfl) ⟨Nat.zero_le _, Nat.zero_le _⟩ ?_
    rintro _ _ ⟨_, rfl, rfl, rfl⟩
    show G M S E (0, 0) g 59 [some (.ref (E.1 q)), some (.int (nI i)), some (.int (nI 3))] [.int (b2i (hgB 2 (fun k => y (i * 16 + k))))]
    exact r_iret (pc := 59) C Z dX3_passes_59 (b_n _) (⟨rfl, rfl⟩)
  · refine r_iload_n (pc := 0) C dX3_passes_0 rfl ?_
    refine r_tableIn (pc := 1) (tgt := 60) (off := 59) C dX3_passes_1 (by decide +kernel) (by decide +kernel) (by decide +kernel) (by decide) ?_
    refine r_aload_n (pc := 60) C dX3_passes_60 rfl ?_
    refine r_iload_n (pc := 61) C dX3_passes_61 rfl ?_
    refine r_iconst (pc := 62) (v := nI 1) C dX3_passes_62 (by decide +kernel) ?_
    refine r_callV (pc := 63) C dX3_passes_63 cv_RX3_60 (c_X3_countAtLeast hq hy hb i 1 hi (by omega)) ⟨rfl, rfl, by decide, by decide⟩ hq rfl rfl (Nat.le_of_ble_eq_true rfl) ⟨Nat.zero_le _, Nat.zero_le _⟩ ?_
    rintro _ _ ⟨_, rfl, rfl, rfl⟩
    show G M S E (0, 0) g 66 [some (.ref (E.1 q)), some (.int (nI i)), some (.int (nI 4))] [.int (nI (cal (fun k => y (i * 16 + k)) 1))]
    have hc1 := calF_le (fun k => y (i * 16 + k)) 1 16
    have hc1 : cal (fun k => y (i * 16 + k)) 1 ≤ 16 := hc1
    refine r_aload_n (pc := 66) C dX3_passes_66 rfl ?_
    refine r_iload_n (pc := 67) C dX3_passes_67 rfl ?_
    refine r_iconst (pc := 68) (v := nI 2) C dX3_passes_68 (by decide +kernel) ?_
    refine r_callV (pc := 69) C dX3_passes_69 cv_RX3_60 (c_X3_countAtLeast hq hy hb i 2 hi (by omega)) ⟨rfl, rfl, by decide, by decide⟩ hq rfl rfl (Nat.le_of_ble_eq_true rfl) ⟨Nat.zero_le _, Nat.zero_le _⟩ ?_
    rintro _ _ ⟨_, rfl, rfl, rfl⟩
    show G M S E (0, 0) g 72 [some (.ref (E.1 q)), some (.int (nI i)), some (.int (nI 4))] [.int (nI (cal (fun k => y (i * 16 + k)) 2)), .int (nI (cal (fun k => y (i * 16 + k)) 1))]
    have hc2 := calF_le (fun k => y (i * 16 + k)) 2 16
    have hc2 : cal (fun k => y (i * 16 + k)) 2 ≤ 16 := hc2
    refine r_icmp_ne (pc := 72) (tgt := 79) C dX3_passes_72 (by decide) (fun h72 => ?_) (fun h72 => ?_)
    · have h72 := c_ne (by omega) (by omega) h72
      refine r_iconst (pc := 79) (v := nI 0) C dX3_passes_79 (by decide +kernel) ?_
      exact r_iret (pc := 80) C Z dX3_passes_80 rfl (⟨by rw [show psF 4 (fun k => y (i * 16 + k)) = false from decide_eq_false h72]; rfl, rfl⟩)
    · have h72 := c_eq (by omega) (by omega) h72
      refine r_iconst (pc := 75) (v := nI 1) C dX3_passes_75 (by decide +kernel) ?_
      refine r_goto (pc := 76) (tgt := 80) C dX3_passes_76 (by decide) ?_
      exact r_iret (pc := 80) C Z dX3_passes_80 rfl (⟨by rw [show psF 4 (fun k => y (i * 16 + k)) = true from decide_eq_true h72]; rfl, rfl⟩)
  · refine r_iload_n (pc := 0) C dX3_passes_0 rfl ?_
    refine r_tableIn (pc := 1) (tgt := 81) (off := 80) C dX3_passes_1 (by decide +kernel) (by decide +kernel) (by decide +kernel) (by decide) ?_
    refine r_aload_n (pc := 81) C dX3_passes_81 rfl ?_
    refine r_iload_n (pc := 82) C dX3_passes_82 rfl ?_
    refine r_iconst (pc := 83) (v := nI 1) C dX3_passes_83 (by decide +kernel) ?_
    refine r_callV (pc := 84) C dX3_passes_84 cv_RX3_60 (c_X3_countAtLeast hq hy hb i 1 hi (by omega)) ⟨rfl, rfl, by decide, by decide⟩ hq rfl rfl (Nat.le_of_ble_eq_true rfl) ⟨Nat.zero_le _, Nat.zero_le _⟩ ?_
    rintro _ _ ⟨_, rfl, rfl, rfl⟩
    show G M S E (0, 0) g 87 [some (.ref (E.1 q)), some (.int (nI i)), some (.int (nI 5))] [.int (nI (cal (fun k => y (i * 16 + k)) 1))]
    have hc1 := calF_le (fun k => y (i * 16 + k)) 1 16
    have hc1 : cal (fun k => y (i * 16 + k)) 1 ≤ 16 := hc1
    refine r_iconst (pc := 87) (v := nI 2) C dX3_passes_87 (by decide +kernel) ?_
    refine r_irem (pc := 88) C dX3_passes_88 (nI_ne0 (by omega) (by omega)) ?_
    refine r_ti (nI ((cal (fun k => y (i * 16 + k)) 1) % 2)) (pk_rem (by omega) (by omega) (by omega)) ?_
    refine r_if_ne (pc := 89) (tgt := 96) C dX3_passes_89 (by decide) (fun h89 => ?_) (fun h89 => ?_)
    · have h89 := z_ne (by omega) h89
      refine r_iconst (pc := 96) (v := nI 0) C dX3_passes_96 (by decide +kernel) ?_
      exact r_iret (pc := 97) C Z dX3_passes_97 rfl (⟨by rw [show psF 5 (fun k => y (i * 16 + k)) = false from decide_eq_false h89]; rfl, rfl⟩)
    · have h89 := z_eq (by omega) h89
      refine r_iconst (pc := 92) (v := nI 1) C dX3_passes_92 (by decide +kernel) ?_
      refine r_goto (pc := 93) (tgt := 97) C dX3_passes_93 (by decide) ?_
      exact r_iret (pc := 97) C Z dX3_passes_97 rfl (⟨by rw [show psF 5 (fun k => y (i * 16 + k)) = true from decide_eq_true h89]; rfl, rfl⟩)
  · refine r_iload_n (pc := 0) C dX3_passes_0 rfl ?_
    refine r_tableIn (pc := 1) (tgt := 98) (off := 97) C dX3_passes_1 (by decide +kernel) (by decide +kernel) (by decide +kernel) (by decide) ?_
    refine r_aload_n (pc := 98) C dX3_passes_98 rfl ?_
    refine r_iload_n (pc := 99) C dX3_passes_99 rfl ?_
    refine r_callV (pc := 100) C dX3_passes_100 cv_RX3_63 (c_X3_isSelfConjugate hq hy hb i hi) ⟨rfl, rfl, by decide, by decide⟩ hq rfl rfl (Nat.le_of_ble_eq_true rfl) ⟨Nat.zero_le _, Nat.zero_le _⟩ ?_
    rintro _ _ ⟨_, rfl, rfl, rfl⟩
    show G M S E (0, 0) g 103 [some (.ref (E.1 q)), some (.int (nI i)), some (.int (nI 6))] [.int (b2i (scB (fun k => y (i * 16 + k))))]
    exact r_iret (pc := 103) C Z dX3_passes_103 (b_n _) (⟨rfl, rfl⟩)
def cpR (y : Nat → Nat) (a b : Nat) : Nat → Nat := fun j => if b * 16 ≤ j ∧ j < b * 16 + 16 then y (a * 16 + (j - b * 16)) else y j
theorem cpR_eq (y : Nat → Nat) (a b j : Nat) : va_cpy (fun k => nI (y k)) (fun k => nI (y k)) (a * 16) (b * 16) 16 j = nI (cpR y a b j) := by
  unfold va_cpy cpR
  split <;> rfl
def koF (f t : Nat) (s : (Nat → Nat) × Nat) : (Nat → Nat) × Nat := bif psF f (fun k => s.1 (t * 16 + k)) then (cpR s.1 t s.2, s.2 + 1) else s
theorem koF_le (f : Nat) (y : Nat → Nat) : ∀ t : Nat, (it (koF f) t (y, 0)).2 ≤ t
  | 0 => Nat.le_refl _
  | t + 1 => by
    have := koF_le f y t
    show (koF f t (it (koF f) t (y, 0))).2 ≤ t + 1
    rw [koF]
    cases psF f (fun k => (it (koF f) t (y, 0)).1 (t * 16 + k)) with
    | true => simp only [cond_true]; omega
    | false => simp only [cond_false]; omega
theorem koF_hb (f : Nat) {y : Nat → Nat} (hb : ∀ k, y k ≤ 16) : ∀ t k : Nat, (it (koF f) t (y, 0)).1 k ≤ 16
  | 0, k => hb k
  | t + 1, k => by
    have := koF_hb f hb t
    show (koF f t (it (koF f) t (y, 0))).1 k ≤ 16
    rw [koF]
    cases psF f (fun k => (it (koF f) t (y, 0)).1 (t * 16 + k)) with
    | true =>
      simp only [cond_true]
      unfold cpR
      split <;> exact this _
    | false => exact this k
theorem fit8 {v : Nat} (h : v ≤ 16) : fits .byte (.int (nI v)) = true := by
  have : ∀ v : Nat, v < 17 → fits .byte (.int (nI v)) = true := by decide +kernel
  exact this v (by omega)
set_option maxHeartbeats 4000000 in
set_option maxRecDepth 100000 in
theorem c_X3_keepOnly {S : ST} {E : ET} {g : Nat → va_E} {q cn : Nat} {y : Nat → Nat} (hq : Ce E g q (.inr (3, [.ref (E.1 (q + 1)), .int (nI cn)]))) (hy : Ce E g (q + 1) (xB S 3696 (fun k => nI (y k)))) (hb : ∀ k, y k ≤ 16) (f : Nat) (hc : cn ≤ 231) (h1 : 1 ≤ f) (h6 : f ≤ 6) : CtV S E yX3_keepOnly cX3_keepOnly 4 none rmX3_keepOnly [.ref (E.1 q), .int (nI f)] g (fun g' => g' = va_up (va_up g (q + 1) (xB S 3696 (fun k => nI ((it (koF f) cn (y, 0)).1 k)))) q (.inr (3, [.ref (E.1 (q + 1)), .int (nI (it (koF f) cn (y, 0)).2)]))) := by
  refine Ct.of RX3 (by decide +kernel) rfl (Nat.le_of_ble_eq_true rfl) (fun M C Z => ?_)
  refine G.eq (pc' := 0) (vs' := [some (.ref (E.1 q)), some (.int (nI f)), none, none]) (st' := []) ?_
  refine r_iconst (pc := 0) (v := nI 0) C dX3_keepOnly_0 (by decide +kernel) ?_
  refine r_istore_n (pc := 1) C dX3_keepOnly_1 (by decide) ?_
  refine G.eq (pc' := 2) (vs' := [some (.ref (E.1 q)), some (.int (nI f)), some (.int (nI 0)), none]) (st' := []) ?_
  refine r_iconst (pc := 2) (v := nI 0) C dX3_keepOnly_2 (by decide +kernel) ?_
  refine r_istore_n (pc := 3) C dX3_keepOnly_3 (by decide) ?_
  refine G.eq (pc' := 4) (vs' := [some (.ref (E.1 q)), some (.int (nI f)), some (.int (nI 0)), some (.int (nI 0))]) (st' := []) ?_
  refine G.heap (Ce.id hy) ?_
  show G M S E (0, 0) (va_up g (q + 1) (xB S 3696 (fun k => nI ((it (koF f) 0 (y, 0)).1 k)))) 4 [some (.ref (E.1 q)), some (.int (nI f)), some (.int (nI 0)), some (.int (nI 0))] []
  refine bk (P := fun t => G M S E (0, 0) (va_up g (q + 1) (xB S 3696 (fun k => nI ((it (koF f) t (y, 0)).1 k)))) 4 [some (.ref (E.1 q)), some (.int (nI f)), some (.int (nI ((it (koF f) t (y, 0)).2))), some (.int (nI t))] []) (T := cn) ?_ (fun t ht ih => ?_)
  · show G M S E (0, 0) (va_up g (q + 1) (xB S 3696 (fun k => nI ((it (koF f) cn (y, 0)).1 k)))) 4 [some (.ref (E.1 q)), some (.int (nI f)), some (.int (nI ((it (koF f) cn (y, 0)).2))), some (.int (nI cn))] []
    refine r_iload_n (pc := 4) C dX3_keepOnly_4 rfl ?_
    refine r_aload_n (pc := 5) C dX3_keepOnly_5 rfl ?_
    refine r_getf (pc := 6) C dX3_keepOnly_6 fl_RX3_15 (Ce.up hq (by omega)) rfl ?_
    refine r_icmp_ge (pc := 9) (tgt := 51) C dX3_keepOnly_9 (by decide) (fun h9 => ?_) (fun h9 => ?_)
    · have h9 := c_le (by omega) (by omega) h9
      refine r_aload_n (pc := 51) C dX3_keepOnly_51 rfl ?_
      refine r_iload_n (pc := 52) C dX3_keepOnly_52 rfl ?_
      refine r_putf (pc := 53) C dX3_keepOnly_53 fp_RX3_15 (Ce.up hq (by omega)) rfl rfl (Nat.le_of_ble_eq_true rfl) ?_
      exact r_vret (pc := 56) C Z dX3_keepOnly_56 rfl
    · have h9 := c_nle (by omega) (by omega) h9
      omega
  · show G M S E (0, 0) (va_up g (q + 1) (xB S 3696 (fun k => nI ((it (koF f) t (y, 0)).1 k)))) 4 [some (.ref (E.1 q)), some (.int (nI f)), some (.int (nI ((it (koF f) t (y, 0)).2))), some (.int (nI t))] []
    refine r_iload_n (pc := 4) C dX3_keepOnly_4 rfl ?_
    refine r_aload_n (pc := 5) C dX3_keepOnly_5 rfl ?_
    refine r_getf (pc := 6) C dX3_keepOnly_6 fl_RX3_15 (Ce.up hq (by omega)) rfl ?_
    refine r_icmp_ge (pc := 9) (tgt := 51) C dX3_keepOnly_9 (by decide) (fun h9 => ?_) (fun h9 => ?_)
    · have h9 := c_le (by omega) (by omega) h9
      omega
    · have h9 := c_nle (by omega) (by omega) h9
      have hko := koF_le f y t
      have hkb := koF_hb f hb t
      refine r_aload_n (pc := 12) C dX3_keepOnly_12 rfl ?_
      refine r_iload_n (pc := 13) C dX3_keepOnly_13 rfl ?_
      refine r_iload_n (pc := 14) C dX3_keepOnly_14 rfl ?_
      refine r_callV (pc := 15) C dX3_keepOnly_15 cv_RX3_44 (c_X3_passes (y := (it (koF f) t (y, 0)).1) (Ce.up hq (by omega)) (Ce.new hy) hkb t f (by omega) h1 h6) ⟨rfl, rfl, by decide, by decide⟩ (Ce.up hq (by omega)) rfl rfl (Nat.le_of_ble_eq_true rfl) ⟨Nat.zero_le _, Nat.zero_le _⟩ ?_
      rintro _ _ ⟨_, rfl, rfl, rfl⟩
      show G M S E (0, 0) (va_up g (q + 1) (xB S 3696 (fun k => nI ((it (koF f) t (y, 0)).1 k)))) 18 [some (.ref (E.1 q)), some (.int (nI f)), some (.int (nI ((it (koF f) t (y, 0)).2))), some (.int (nI t))] [.int (b2i (psF f (fun k => (it (koF f) t (y, 0)).1 (t * 16 + k))))]
      refine r_if_eq (pc := 18) (tgt := 45) C dX3_keepOnly_18 (by decide) (fun h18 => ?_) (fun h18 => ?_)
      · have h18 := b_f h18
        rw [show it (koF f) t (y, 0) = it (koF f) (t + 1) (y, 0) by show _ = koF f t _; rw [koF, h18]; rfl]
        refine r_iinc (pc := 45) (v := nI (t + 1)) C dX3_keepOnly_45 rfl (nI_i1 _) (by decide) ?_
        refine G.eq (pc' := 48) (vs' := [some (.ref (E.1 q)), some (.int (nI f)), some (.int (nI ((it (koF f) (t + 1) (y, 0)).2))), some (.int (nI (t + 1)))]) (st' := []) ?_
        refine r_goto (pc := 48) (tgt := 4) C dX3_keepOnly_48 (by decide) ?_
        exact ih
      · have h18 := b_t h18
        refine r_aload_n (pc := 21) C dX3_keepOnly_21 rfl ?_
        refine r_getf (pc := 22) C dX3_keepOnly_22 fl_RX3_9 (Ce.up hq (by omega)) rfl ?_
        refine r_iload_n (pc := 25) C dX3_keepOnly_25 rfl ?_
        refine r_bipush (pc := 26) (v := nI 16) C dX3_keepOnly_26 (by decide +kernel) ?_
        refine r_imul (pc := 28) C dX3_keepOnly_28 ?_
        refine r_ti (nI (t * 16)) (pk_mul _ _) ?_
        refine r_aload_n (pc := 29) C dX3_keepOnly_29 rfl ?_
        refine r_getf (pc := 30) C dX3_keepOnly_30 fl_RX3_9 (Ce.up hq (by omega)) rfl ?_
        refine r_iload_n (pc := 33) C dX3_keepOnly_33 rfl ?_
        refine r_bipush (pc := 34) (v := nI 16) C dX3_keepOnly_34 (by decide +kernel) ?_
        refine r_imul (pc := 36) C dX3_keepOnly_36 ?_
        refine r_ti (nI (((it (koF f) t (y, 0)).2) * 16)) (pk_mul _ _) ?_
        refine r_bipush (pc := 37) (v := nI 16) C dX3_keepOnly_37 (by decide +kernel) ?_
        refine r_acB (pc := 39) C dX3_keepOnly_39 qM_RX3_48 (Ce.new hy) (Ce.new hy) (by omega) (by omega) (by decide) (by decide) (fun j _ => fit8 (hkb _)) (Nat.le_of_ble_eq_true rfl) (Nat.le_of_ble_eq_true rfl) ?_
        rw [bx_uu]
        refine G.cB (f' := fun k => nI (cpR (it (koF f) t (y, 0)).1 t (it (koF f) t (y, 0)).2 k)) (fun j _ => cpR_eq _ _ _ _) ?_
        show G M S E (0, 0) (va_up g (q + 1) (xB S 3696 (fun k => nI (cpR (it (koF f) t (y, 0)).1 t (it (koF f) t (y, 0)).2 k)))) 42 [some (.ref (E.1 q)), some (.int (nI f)), some (.int (nI ((it (koF f) t (y, 0)).2))), some (.int (nI t))] []
        refine r_iinc (pc := 42) (v := nI ((it (koF f) t (y, 0)).2 + 1)) C dX3_keepOnly_42 rfl (nI_i1 _) (by decide) ?_
        refine G.eq (pc' := 45) (vs' := [some (.ref (E.1 q)), some (.int (nI f)), some (.int (nI ((it (koF f) t (y, 0)).2 + 1))), some (.int (nI t))]) (st' := []) ?_
        have hst : koF f t (it (koF f) t (y, 0)) = (cpR (it (koF f) t (y, 0)).1 t (it (koF f) t (y, 0)).2, (it (koF f) t (y, 0)).2 + 1) := by rw [koF, h18]; rfl
        have hs1 : cpR (it (koF f) t (y, 0)).1 t (it (koF f) t (y, 0)).2 = (it (koF f) (t + 1) (y, 0)).1 := by show _ = (koF f t _).1; rw [hst]
        have hs2 : (it (koF f) t (y, 0)).2 + 1 = (it (koF f) (t + 1) (y, 0)).2 := by show _ = (koF f t _).2; rw [hst]
        rw [hs1, hs2]
        show G M S E (0, 0) (va_up g (q + 1) (xB S 3696 (fun k => nI ((it (koF f) (t + 1) (y, 0)).1 k)))) 45 [some (.ref (E.1 q)), some (.int (nI f)), some (.int (nI ((it (koF f) (t + 1) (y, 0)).2))), some (.int (nI t))] []
        refine r_iinc (pc := 45) (v := nI (t + 1)) C dX3_keepOnly_45 rfl (nI_i1 _) (by decide) ?_
        refine G.eq (pc' := 48) (vs' := [some (.ref (E.1 q)), some (.int (nI f)), some (.int (nI ((it (koF f) (t + 1) (y, 0)).2))), some (.int (nI (t + 1)))]) (st' := []) ?_
        refine r_goto (pc := 48) (tgt := 4) C dX3_keepOnly_48 (by decide) ?_
        exact ih
