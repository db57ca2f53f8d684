/-! partitions: the places as counts; rows of 16 -/
theorem mn_nI {a b : Nat} (ha : a < 2 ^ 31) (hb : b < 2 ^ 31) : minI (nI a) (nI b) = nI (min a b) := by
  unfold minI
  by_cases h : b < a
  · rw [if_pos (nI_lt h ha), Nat.min_eq_right (by omega)]
  · rw [if_neg (nI_nlt (by omega) hb), Nat.min_eq_left (by omega)]
theorem ff_rest (tot lg t : Nat) : tot - lg * t - min lg (tot - lg * t) = tot - lg * (t + 1) := by
  rw [Nat.mul_succ]
  omega
theorem mI_p {j : Nat} (h : 0 < j) : mI j = nI (j - 1) := by
  cases j with
  | zero => omega
  | succ j => exact mI_s j
/-- places i .. of a row filled with parts of at most lg, tot in all, from place f on: t of them -/
def ffT (y : Nat → Nat) (i f lg tot t : Nat) : Nat → Nat := fun j => if i * 16 + f ≤ j ∧ j < i * 16 + f + t then min lg (tot - lg * (j - (i * 16 + f))) else y j
theorem ffT_0 (y : Nat → Nat) (i f lg tot j : Nat) : ffT y i f lg tot 0 j = y j := by unfold ffT; rw [if_neg (by omega)]
theorem ffT_s (y : Nat → Nat) (i f lg tot t j : Nat) : va_up (ffT y i f lg tot t) (i * 16 + (f + t)) (min lg (tot - lg * t)) j = ffT y i f lg tot (t + 1) j := by
  by_cases e : j = i * 16 + (f + t)
  · subst e
    rw [va_up_self]
    unfold ffT
    rw [if_pos (by omega), show i * 16 + (f + t) - (i * 16 + f) = t by omega]
  · rw [va_up_ne _ _ e]
    unfold ffT
    by_cases h : i * 16 + f ≤ j ∧ j < i * 16 + f + t
    · rw [if_pos h, if_pos (by omega)]
    · rw [if_neg h, if_neg (by omega)]
/-- one behind the last place below j with a part above 1 -/
def lpN (z : Nat → Nat) : Nat → Nat
  | 0 => 0
  | j + 1 => if 1 < z j then j + 1 else lpN z j
theorem lpN_le (z : Nat → Nat) : ∀ j : Nat, lpN z j ≤ j
  | 0 => Nat.le_refl _
  | j + 1 => by
    have := lpN_le z j
    unfold lpN
    split <;> omega
theorem lpN_cong {z z' : Nat → Nat} : ∀ {j : Nat}, (∀ k, k < j → z k = z' k) → lpN z j = lpN z' j
  | 0, _ => rfl
  | j + 1, h => by
    unfold lpN
    rw [h j (by omega), lpN_cong (fun k hk => h k (by omega))]
/-- the sum of n places from l on -/
def smN (z : Nat → Nat) (l n : Nat) : Nat := it (fun t s => s + z (l + t)) n 0
/-- the row behind a row -/
def nxF (z : Nat → Nat) (k : Nat) : Nat := if k < lpN z 16 - 1 then z k else min (z (lpN z 16 - 1) - 1) (smN z (lpN z 16 - 1) (16 - (lpN z 16 - 1)) - (z (lpN z 16 - 1) - 1) * (k - (lpN z 16 - 1)))
set_option maxHeartbeats 4000000 in
set_option maxRecDepth 100000 in
theorem c_X3_at {S : ST} {E : ET} {g : Nat → va_E} {q cn : Nat} {y : Nat → Nat} (hq : Ce E g q (.inr (3, [.ref (E.1 (q + 1)), .int (nI cn)]))) (hy : Ce E g (q + 1) (xB S 3696 (fun k => nI (y k)))) (hb : ∀ k, y k ≤ 16) (i pl : Nat) (hi : i < 231) (hk : pl < 16) : CtI S E yX3_at cX3_at 3 (Option.some FieldType.int) rmX3_at [.ref (E.1 q), .int (nI i), .int (nI pl)] g (fun v g' => v = nI (y (i * 16 + pl)) ∧ g = g') := by
  refine Ct.of RX3 (by decide +kernel) rfl (Nat.le_of_ble_eq_true rfl) (fun M C Z => ?_)
  refine G.eq (pc' := 0) (vs' := [some (.ref (E.1 q)), some (.int (nI i)), some (.int (nI pl))]) (st' := []) ?_
  refine r_aload_n (pc := 0) C dX3_at_0 rfl ?_
  refine r_getf (pc := 1) C dX3_at_1 fl_RX3_9 hq rfl ?_
  refine r_iload_n (pc := 4) C dX3_at_4 rfl ?_
  refine r_bipush (pc := 5) (v := nI 16) C dX3_at_5 (by decide +kernel) ?_
  refine r_imul (pc := 7) C dX3_at_7 ?_
  refine r_ti (nI (i * 16)) (pk_mul _ _) ?_
  refine r_iload_n (pc := 8) C dX3_at_8 rfl ?_
  refine r_iadd (pc := 9) C dX3_at_9 ?_
  refine r_ti (nI (i * 16 + pl)) (nI_add _ _) ?_
  refine r_bald (pc := 10) C dX3_at_10 hy rfl (by omega) (by omega) ?_
  refine r_ti (nI (y (i * 16 + pl))) rfl ?_
  exact r_iret (pc := 11) C Z dX3_at_11 rfl (⟨rfl, rfl⟩)
set_option maxHeartbeats 4000000 in
set_option maxRecDepth 100000 in
theorem c_X3_put {S : ST} {E : ET} {g : Nat → va_E} {q cn : Nat} {y : Nat → Nat} (hq : Ce E g q (.inr (3, [.ref (E.1 (q + 1)), .int (nI cn)]))) (hy : Ce E g (q + 1) (xB S 3696 (fun k => nI (y k)))) (hb : ∀ k, y k ≤ 16) (i pl v : Nat) (hi : i < 231) (hk : pl < 16) (hv : v < 128) : CtV S E yX3_put cX3_put 4 none rmX3_put [.ref (E.1 q), .int (nI i), .int (nI pl), .int (nI v)] g (fun g' => g' = va_up g (q + 1) (xB S 3696 (fun k => nI (va_up y (i * 16 + pl) v k)))) := by
  refine Ct.of RX3 (by decide +kernel) rfl (Nat.le_of_ble_eq_true rfl) (fun M C Z => ?_)
  refine G.eq (pc' := 0) (vs' := [some (.ref (E.1 q)), some (.int (nI i)), some (.int (nI pl)), some (.int (nI v))]) (st' := []) ?_
  refine r_aload_n (pc := 0) C dX3_put_0 rfl ?_
  refine r_getf (pc := 1) C dX3_put_1 fl_RX3_9 hq rfl ?_
  refine r_iload_n (pc := 4) C dX3_put_4 rfl ?_
  refine r_bipush (pc := 5) (v := nI 16) C dX3_put_5 (by decide +kernel) ?_
  refine r_imul (pc := 7) C dX3_put_7 ?_
  refine r_ti (nI (i * 16)) (pk_mul _ _) ?_
  refine r_iload_n (pc := 8) C dX3_put_8 rfl ?_
  refine r_iadd (pc := 9) C dX3_put_9 ?_
  refine r_ti (nI (i * 16 + pl)) (nI_add _ _) ?_
  refine r_iload_n (pc := 10) C dX3_put_10 rfl ?_
  refine r_i2b (pc := 11) C dX3_put_11 ?_
  refine r_bast (pc := 12) C dX3_put_12 hy rfl (by omega) (by omega) ?_
  rw [nar8 hv]
  refine G.cB (f' := fun j => nI (va_up y (i * 16 + pl) v j)) (fun j hj => pt_up) ?_
  exact r_vret (pc := 13) C Z dX3_put_13 rfl
theorem ffT_le {y : Nat → Nat} {i f lg tot t : Nat} (hb : ∀ k, y k ≤ 16) (hlg : lg ≤ 16) (k : Nat) : ffT y i f lg tot t k ≤ 16 := by
  unfold ffT
  split
  · omega
  · exact hb k
set_option maxHeartbeats 4000000 in
set_option maxRecDepth 100000 in
theorem c_X3_fillFrom {S : ST} {E : ET} {g : Nat → va_E} {q cn : Nat} {y : Nat → Nat} (hq : Ce E g q (.inr (3, [.ref (E.1 (q + 1)), .int (nI cn)]))) (hy : Ce E g (q + 1) (xB S 3696 (fun k => nI (y k)))) (hb : ∀ k, y k ≤ 16) (i f lg tot : Nat) (hi : i < 231) (hf : f ≤ 16) (hlg : lg ≤ 16) (htot : tot ≤ 1000) : CtV S E yX3_fillFrom cX3_fillFrom 8 none rmX3_fillFrom [.ref (E.1 q), .int (nI i), .int (nI f), .int (nI lg), .int (nI tot)] g (fun g' => g' = va_up g (q + 1) (xB S 3696 (fun k => nI (ffT y i f lg tot (16 - f) k)))) := by
  refine Ct.of RX3 (by decide +kernel) rfl (Nat.le_of_ble_eq_true rfl) (fun M C Z => ?_)
  refine G.eq (pc' := 0) (vs' := [some (.ref (E.1 q)), some (.int (nI i)), some (.int (nI f)), some (.int (nI lg)), some (.int (nI tot)), none, none, none]) (st' := []) ?_
  refine r_iload (pc := 0) C dX3_fillFrom_0 rfl ?_
  refine r_istore (pc := 2) C dX3_fillFrom_2 (by decide) ?_
  refine G.eq (pc' := 4) (vs' := [some (.ref (E.1 q)), some (.int (nI i)), some (.int (nI f)), some (.int (nI lg)), some (.int (nI tot)), some (.int (nI tot)), none, none]) (st' := []) ?_
  refine r_iload_n (pc := 4) C dX3_fillFrom_4 rfl ?_
  refine r_istore (pc := 5) C dX3_fillFrom_5 (by decide) ?_
  refine G.eq (pc' := 7) (vs' := [some (.ref (E.1 q)), some (.int (nI i)), some (.int (nI f)), some (.int (nI lg)), some (.int (nI tot)), some (.int (nI tot)), some (.int (nI f)), none]) (st' := []) ?_
  refine G.heap (Ce.id hy) ?_
  refine G.cB (f' := fun k => nI ((ffT y i f lg tot 0) k)) (fun j _ => by show nI (y j) = nI _; rw [ffT_0]) ?_
  refine bk (P := fun t => G M S E (0, 0) (va_up g (q + 1) (xB S 3696 (fun k => nI ((ffT y i f lg tot t) k)))) 7 [some (.ref (E.1 q)), some (.int (nI i)), some (.int (nI f)), some (.int (nI lg)), some (.int (nI tot)), some (.int (nI (tot - lg * t))), some (.int (nI (f + t))), none] []) (T := 16 - f) ?_ (fun t ht ih => ?_)
  · show G M S E (0, 0) (va_up g (q + 1) (xB S 3696 (fun k => nI ((ffT y i f lg tot (16 - f)) k)))) 7 [some (.ref (E.1 q)), some (.int (nI i)), some (.int (nI f)), some (.int (nI lg)), some (.int (nI tot)), some (.int (nI (tot - lg * (16 - f)))), some (.int (nI (f + (16 - f)))), none] []
    refine r_iload (pc := 7) C dX3_fillFrom_7 rfl ?_
    refine r_bipush (pc := 9) (v := nI 16) C dX3_fillFrom_9 (by decide +kernel) ?_
    refine r_icmp_ge (pc := 11) (tgt := 44) C dX3_fillFrom_11 (by decide) (fun h11 => ?_) (fun h11 => ?_)
    · have h11 := c_le (by omega) (by omega) h11
      exact r_vret (pc := 44) C Z dX3_fillFrom_44 rfl
    · have h11 := c_nle (by omega) (by omega) h11
      omega
  · show G M S E (0, 0) (va_up g (q + 1) (xB S 3696 (fun k => nI ((ffT y i f lg tot t) k)))) 7 [some (.ref (E.1 q)), some (.int (nI i)), some (.int (nI f)), some (.int (nI lg)), some (.int (nI tot)), some (.int (nI (tot - lg * t))), some (.int (nI (f + t))), none] []
    refine r_iload (pc := 7) C dX3_fillFrom_7 rfl ?_
    refine r_bipush (pc := 9) (v := nI 16) C dX3_fillFrom_9 (by decide +kernel) ?_
    refine r_icmp_ge (pc := 11) (tgt := 44) C dX3_fillFrom_11 (by decide) (fun h11 => ?_) (fun h11 => ?_)
    · have h11 := c_le (by omega) (by omega) h11
      omega
    · have h11 := c_nle (by omega) (by omega) h11
      refine r_iload_n (pc := 14) C dX3_fillFrom_14 rfl ?_
      refine r_iload (pc := 15) C dX3_fillFrom_15 rfl ?_
      refine r_mmin (pc := 17) C dX3_fillFrom_17 qM_RX3_27 (by decide) (Nat.le_of_ble_eq_true rfl) ⟨Nat.zero_le _, Nat.zero_le _⟩ ?_
      refine r_ti (nI (min lg (tot - lg * t))) (mn_nI (by omega) (by omega)) ?_
      refine r_istore (pc := 20) C dX3_fillFrom_20 (by decide) ?_
      refine G.eq (pc' := 22) (vs' := [some (.ref (E.1 q)), some (.int (nI i)), some (.int (nI f)), some (.int (nI lg)), some (.int (nI tot)), some (.int (nI (tot - lg * t))), some (.int (nI (f + t))), some (.int (nI (min lg (tot - lg * t))))]) (st' := []) ?_
      refine r_aload_n (pc := 22) C dX3_fillFrom_22 rfl ?_
      refine r_iload_n (pc := 23) C dX3_fillFrom_23 rfl ?_
      refine r_iload (pc := 24) C dX3_fillFrom_24 rfl ?_
      refine r_iload (pc := 26) C dX3_fillFrom_26 rfl ?_
      refine r_callV (pc := 28) C dX3_fillFrom_28 cv_RX3_33 (c_X3_put (y := (ffT y i f lg tot t)) (Ce.up hq (by omega)) (Ce.new hy) (ffT_le hb hlg) i (f + t) (min lg (tot - lg * t)) hi (by omega) (by omega)) ⟨rfl, rfl, by decide, by decide⟩ (Ce.up hq (by omega)) rfl rfl (Nat.le_of_ble_eq_true rfl) ⟨Nat.zero_le _, Nat.zero_le _⟩ ?_
      rintro _ _ ⟨rfl, rfl⟩
      rw [bx_uu]
      show G M S E (0, 0) (va_up g (q + 1) (xB S 3696 (fun k => nI (va_up (ffT y i f lg tot t) (i * 16 + (f + t)) (min lg (tot - lg * t)) k)))) 31 [some (.ref (E.1 q)), some (.int (nI i)), some (.int (nI f)), some (.int (nI lg)), some (.int (nI tot)), some (.int (nI (tot - lg * t))), some (.int (nI (f + t))), some (.int (nI (min lg (tot - lg * t))))] []
      refine G.cB (f' := fun k => nI ((ffT y i f lg tot (t + 1)) k)) (fun j _ => by show nI _ = nI _; rw [ffT_s]) ?_
      refine r_iload (pc := 31) C dX3_fillFrom_31 rfl ?_
      refine r_iload (pc := 33) C dX3_fillFrom_33 rfl ?_
      refine r_isub (pc := 35) C dX3_fillFrom_35 ?_
      refine r_ti (nI (tot - lg * t - (min lg (tot - lg * t)))) (pk_sub (by omega)) ?_
      refine r_ti (nI (tot - lg * (t + 1))) (by rw [ff_rest]) ?_
      refine r_istore (pc := 36) C dX3_fillFrom_36 (by decide) ?_
      refine G.eq (pc' := 38) (vs' := [some (.ref (E.1 q)), some (.int (nI i)), some (.int (nI f)), some (.int (nI lg)), some (.int (nI tot)), some (.int (nI (tot - lg * (t + 1)))), some (.int (nI (f + t))), some (.int (nI (min lg (tot - lg * t))))]) (st' := []) ?_
      refine r_iinc (pc := 38) (v := nI (f + t + 1)) C dX3_fillFrom_38 rfl (nI_i1 _) (by decide) ?_
      refine G.eq (pc' := 41) (vs' := [some (.ref (E.1 q)), some (.int (nI i)), some (.int (nI f)), some (.int (nI lg)), some (.int (nI tot)), some (.int (nI (tot - lg * (t + 1)))), some (.int (nI (f + t + 1))), some (.int (nI (min lg (tot - lg * t))))]) (st' := []) ?_
      refine r_goto (pc := 41) (tgt := 7) C dX3_fillFrom_41 (by decide) ?_
      refine G.wk (vs' := [some (.ref (E.1 q)), some (.int (nI i)), some (.int (nI f)), some (.int (nI lg)), some (.int (nI tot)), some (.int (nI (tot - lg * (t + 1)))), some (.int (nI (f + t + 1))), none]) ⟨rfl, rfl, rfl, rfl, rfl, rfl, rfl, trivial⟩ ?_
      exact ih
set_option maxHeartbeats 4000000 in
set_option maxRecDepth 100000 in
theorem c_X3_lastPlaceAboveOne {S : ST} {E : ET} {g : Nat → va_E} {q cn : Nat} {y : Nat → Nat} (hq : Ce E g q (.inr (3, [.ref (E.1 (q + 1)), .int (nI cn)]))) (hy : Ce E g (q + 1) (xB S 3696 (fun k => nI (y k)))) (hb : ∀ k, y k ≤ 16) (i : Nat) (hi : i < 231) : CtI S E yX3_lastPlaceAboveOne cX3_lastPlaceAboveOne 3 (Option.some FieldType.int) rmX3_lastPlaceAboveOne [.ref (E.1 q), .int (nI i)] g (fun v g' => v = mI (lpN (fun k => y (i * 16 + k)) 16) ∧ g = g') := by
  refine Ct.of RX3 (by decide +kernel) rfl (Nat.le_of_ble_eq_true rfl) (fun M C Z => ?_)
  refine G.eq (pc' := 0) (vs' := [some (.ref (E.1 q)), some (.int (nI i)), none]) (st' := []) ?_
  refine r_bipush (pc := 0) (v := nI 15) C dX3_lastPlaceAboveOne_0 (by decide +kernel) ?_
  refine r_istore_n (pc := 2) C dX3_lastPlaceAboveOne_2 (by decide) ?_
  refine G.eq (pc' := 3) (vs' := [some (.ref (E.1 q)), some (.int (nI i)), some (.int (nI 15))]) (st' := []) ?_
  rw [show nI 15 = mI 16 by decide +kernel]
  refine bk (P := fun t => (lpN (fun k => y (i * 16 + k)) 16 = lpN (fun k => y (i * 16 + k)) (16 - t)) → G M S E (0, 0) g 3 [some (.ref (E.1 q)), some (.int (nI i)), some (.int (mI (16 - t)))] []) (T := 16) (fun hh => ?_) (fun t ht ih hh => ?_) rfl
  · show G M S E (0, 0) g 3 [some (.ref (E.1 q)), some (.int (nI i)), some (.int (mI (16 - 16)))] []
    refine r_iload_n (pc := 3) C dX3_lastPlaceAboveOne_3 rfl ?_
    refine r_if_lt (pc := 4) (tgt := 25) C dX3_lastPlaceAboveOne_4 (by decide) (fun h4 => ?_) (fun h4 => ?_)
    · have h4 := m_lt0 (by omega) h4
      refine r_iconst (pc := 25) (v := (-1)) C dX3_lastPlaceAboveOne_25 (by decide +kernel) ?_
      exact r_iret (pc := 26) C Z dX3_lastPlaceAboveOne_26 rfl (⟨by rw [hh]; exact (by decide +kernel : (-1 : Int32) = mI 0), rfl⟩)
    · have h4 := m_nlt0 (by omega) h4
      omega
  · show G M S E (0, 0) g 3 [some (.ref (E.1 q)), some (.int (nI i)), some (.int (mI (16 - t)))] []
    refine r_iload_n (pc := 3) C dX3_lastPlaceAboveOne_3 rfl ?_
    refine r_if_lt (pc := 4) (tgt := 25) C dX3_lastPlaceAboveOne_4 (by decide) (fun h4 => ?_) (fun h4 => ?_)
    · have h4 := m_lt0 (by omega) h4
      omega
    · have h4 := m_nlt0 (by omega) h4
      rw [show 16 - t = 16 - t - 1 + 1 by omega, mI_s]
      refine r_aload_n (pc := 7) C dX3_lastPlaceAboveOne_7 rfl ?_
      refine r_iload_n (pc := 8) C dX3_lastPlaceAboveOne_8 rfl ?_
      refine r_iload_n (pc := 9) C dX3_lastPlaceAboveOne_9 rfl ?_
      refine r_callV (pc := 10) C dX3_lastPlaceAboveOne_10 cv_RX3_41 (c_X3_at (y := y) hq hy hb i (16 - t - 1) (by omega) (by omega)) ⟨rfl, rfl, by decide, by decide⟩ hq rfl rfl (Nat.le_of_ble_eq_true rfl) ⟨Nat.zero_le _, Nat.zero_le _⟩ ?_
      rintro _ _ ⟨_, rfl, rfl, rfl⟩
      show G M S E (0, 0) g 13 [some (.ref (E.1 q)), some (.int (nI i)), some (.int (nI (16 - t - 1)))] [.int (nI (y (i * 16 + (16 - t - 1))))]
      have hbb := hb (i * 16 + (16 - t - 1))
      refine r_iconst (pc := 13) (v := nI 1) C dX3_lastPlaceAboveOne_13 (by decide +kernel) ?_
      refine r_icmp_le (pc := 14) (tgt := 19) C dX3_lastPlaceAboveOne_14 (by decide) (fun h14 => ?_) (fun h14 => ?_)
      · have h14 := c_le (by omega) (by omega) h14
        refine r_iinc (pc := 19) (v := mI (16 - t - 1)) C dX3_lastPlaceAboveOne_19 rfl (nI_m1 _) (by decide) ?_
        refine G.eq (pc' := 22) (vs' := [some (.ref (E.1 q)), some (.int (nI i)), some (.int (mI (16 - t - 1)))]) (st' := []) ?_
        refine r_goto (pc := 22) (tgt := 3) C dX3_lastPlaceAboveOne_22 (by decide) ?_
        exact (ih (by rw [hh, show 16 - t = 16 - t - 1 + 1 by omega]; exact if_neg (by show ¬ 1 < y _; omega)))
      · have h14 := c_nle (by omega) (by omega) h14
        refine r_iload_n (pc := 17) C dX3_lastPlaceAboveOne_17 rfl ?_
        have e : lpN (fun k => y (i * 16 + k)) (16 - t) = 16 - t := by rw [show 16 - t = 16 - t - 1 + 1 by omega]; exact if_pos (by show 1 < y _; omega)
        exact r_iret (pc := 18) C Z dX3_lastPlaceAboveOne_18 rfl (⟨by rw [hh, e, mI_p (by omega)], rfl⟩)
