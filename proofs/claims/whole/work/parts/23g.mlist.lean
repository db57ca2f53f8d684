theorem lpN_ab (z : Nat → Nat) : ∀ n j : Nat, lpN z n ≤ j → j < n → z j ≤ 1
  | 0, j, _, h => absurd h (Nat.not_lt_zero j)
  | n + 1, j, h1, h2 => by
    rw [lpN] at h1
    by_cases q : 1 < z n
    · simp only [q, if_true, decide_true, cond_true] at h1
      omega
    · simp only [q, if_false, decide_false, cond_false] at h1
      by_cases e : j = n
      · subst e; omega
      · exact lpN_ab z n j h1 (by omega)
def sR (z : Nat → Nat) (t : Nat) : Nat := it (fun s a => a + z (16 - s - 1)) t 0
theorem sR_s (z : Nat → Nat) (t : Nat) : sR z (t + 1) = sR z t + z (16 - t - 1) := rfl
theorem sR_le {z : Nat → Nat} (hz : ∀ k, k < 16 → z k ≤ 16) : ∀ t : Nat, t ≤ 16 → sR z t ≤ 16 * t
  | 0, _ => Nat.le_refl _
  | t + 1, h => by
    have h1 := sR_le hz t (by omega)
    have h2 := hz (16 - t - 1) (by omega)
    rw [sR_s]; omega
theorem smN_s (z : Nat → Nat) (l n : Nat) : smN z l (n + 1) = smN z l n + z (l + n) := rfl
theorem smN_c (z : Nat → Nat) : ∀ l n : Nat, smN z l (n + 1) = z l + smN z (l + 1) n
  | l, 0 => by rw [smN_s]; show 0 + z (l + 0) = z l + 0; rw [Nat.add_zero, Nat.zero_add, Nat.add_zero]
  | l, n + 1 => by
    rw [smN_s, smN_c z l n, smN_s z (l + 1) n, show l + 1 + n = l + (n + 1) by omega]
    omega
theorem smN_cat (z : Nat → Nat) (l : Nat) : ∀ n m : Nat, smN z l (n + m) = smN z l n + smN z (l + n) m
  | n, 0 => rfl
  | n, m + 1 => by
    rw [show n + (m + 1) = n + m + 1 by omega, smN_s, smN_cat z l n m, smN_s, show l + (n + m) = l + n + m by omega]
    omega
theorem smN_ge {z : Nat → Nat} {l : Nat} : ∀ n : Nat, (∀ j, j < n → 1 ≤ z (l + j)) → n ≤ smN z l n
  | 0, _ => Nat.le_refl _
  | n + 1, h => by
    have h1 := smN_ge n (fun j hj => h j (by omega))
    have h2 := h n (by omega)
    rw [smN_s]; omega
theorem sR_sm (z : Nat → Nat) : ∀ t : Nat, t ≤ 16 → sR z t = smN z (16 - t) t
  | 0, _ => rfl
  | t + 1, h => by
    rw [sR_s, sR_sm z t (by omega), smN_c, show 16 - (t + 1) + 1 = 16 - t by omega, show 16 - (t + 1) = 16 - t - 1 by omega]
    omega
def zzF (z : Nat → Nat) (t j : Nat) : Nat := if j < 16 - t then z j else 0
theorem zz_s (z : Nat → Nat) {t : Nat} (ht : t < 16) (j : Nat) : upd (fun k => nI (zzF z t k)) (16 - t - 1) (nI 0) j = nI (zzF z (t + 1) j) := by
  rw [pt_up]
  congr 1
  unfold zzF
  by_cases e : j = 16 - t - 1
  · subst e; rw [va_up_self, if_neg (by omega)]
  · rw [va_up_ne _ _ e]
    by_cases q : j < 16 - t
    · rw [if_pos q, if_pos (by omega)]
    · rw [if_neg q, if_neg (by omega)]
def wwF (z : Nat → Nat) (p M L t j : Nat) : Nat := if j < p then z j else if j = p then M else if j < p + 1 + t then min M (L - M * (j - (p + 1))) else 0
theorem ww_0 (z : Nat → Nat) {p M L : Nat} (hp : p < 16) (j : Nat) : upd (fun k => nI (zzF z (16 - (p + 1)) k)) p (nI M) j = nI (wwF z p M L 0 j) := by
  rw [pt_up]
  congr 1
  unfold zzF wwF
  by_cases e : j = p
  · subst e; rw [va_up_self, if_neg (by omega), if_pos rfl]
  · rw [va_up_ne _ _ e]
    by_cases q : j < p
    · rw [if_pos q, if_pos (by omega)]
    · rw [if_neg q, if_neg e, if_neg (by omega), if_neg (by omega)]
theorem ww_s (z : Nat → Nat) (p M L t j : Nat) : upd (fun k => nI (wwF z p M L t k)) (p + t + 1) (nI (min M (L - M * t))) j = nI (wwF z p M L (t + 1) j) := by
  rw [pt_up]
  congr 1
  unfold wwF
  by_cases e : j = p + t + 1
  · subst e
    rw [va_up_self, if_neg (by omega), if_neg (by omega), if_pos (by omega), show p + t + 1 - (p + 1) = t by omega]
  · rw [va_up_ne _ _ e]
    by_cases q : j < p
    · rw [if_pos q, if_pos q]
    · rw [if_neg q, if_neg q]
      by_cases q2 : j = p
      · rw [if_pos q2, if_pos q2]
      · rw [if_neg q2, if_neg q2]
        by_cases q3 : j < p + 1 + t
        · rw [if_pos q3, if_pos (by omega)]
        · rw [if_neg q3, if_neg (by omega)]
theorem ww_at (z : Nat → Nat) (p M L t : Nat) : wwF z p M L (t + 1) (p + t + 1) = min M (L - M * t) := by
  unfold wwF
  rw [if_neg (by omega), if_neg (by omega), if_pos (by omega), show p + t + 1 - (p + 1) = t by omega]
theorem ww_end {z : Nat → Nat} {p M L : Nat} (hlp : lpN z 16 = p + 1) (hM : M = z p - 1) (hL : L = sR z (16 - (p + 1)) + 1) (h1 : 1 < z p) {j : Nat} (hj : j < 16) : wwF z p M L (sbT L M) j = nxF z j := by
  have hp16 : p + 1 ≤ 16 := by have := lpN_le z 16; omega
  have hsm : smN z p (16 - p) = M + L := by
    rw [show 16 - p = 16 - (p + 1) + 1 by omega, smN_c, hL, sR_sm z _ (by omega), show 16 - (16 - (p + 1)) = p + 1 by omega]
    omega
  unfold nxF wwF
  rw [hlp, Nat.add_sub_cancel, hsm, ← hM]
  by_cases q : j < p
  · rw [if_pos q, if_pos q]
  · rw [if_neg q, if_neg q]
    by_cases q2 : j = p
    · subst q2
      rw [if_pos rfl, Nat.sub_self, Nat.mul_zero]
      omega
    · rw [if_neg q2]
      have e1 : M + L - M * (j - p) = L - M * (j - (p + 1)) := by
        rw [show j - p = j - (p + 1) + 1 by omega, Nat.mul_succ]
        omega
      rw [e1]
      by_cases q3 : j < p + 1 + sbT L M
      · rw [if_pos q3]
      · rw [if_neg q3]
        have h2 := (sb_ge (n := L) (k := M) (by omega)).1
        have h3 : M * sbT L M ≤ M * (j - (p + 1)) := Nat.mul_le_mul_left M (by omega)
        rw [show L - M * (j - (p + 1)) = 0 by omega]
        omega
def VR (z : Nat → Nat) : Prop := (∀ k, k < 16 → z k ≤ 16) ∧ (∀ j, j < lpN z 16 - 1 → 1 ≤ z j) ∧ smN z 0 16 ≤ 16
theorem VR.sum {z : Nat → Nat} (h : VR z) {p : Nat} (hlp : lpN z 16 = p + 1) (h1 : 1 < z p) : p + (z p - 1) + (sR z (16 - (p + 1)) + 1) ≤ 16 := by
  have hp16 : p + 1 ≤ 16 := by have := lpN_le z 16; omega
  have h2 := h.2.2
  have e : smN z 0 (p + (16 - p)) = smN z 0 p + smN z (0 + p) (16 - p) := smN_cat z 0 p (16 - p)
  rw [show p + (16 - p) = 16 by omega, Nat.zero_add] at e
  have h3 : p ≤ smN z 0 p := smN_ge p (fun j hj => by rw [Nat.zero_add]; exact h.2.1 j (by omega))
  have h4 : smN z p (16 - p) = z p + sR z (16 - (p + 1)) := by
    rw [show 16 - p = 16 - (p + 1) + 1 by omega, smN_c, sR_sm z _ (by omega), show 16 - (16 - (p + 1)) = p + 1 by omega]
  omega
set_option maxHeartbeats 4000000 in
set_option maxRecDepth 100000 in
theorem c_X8_isNext_f {S : ST} {E : ET} {g : Nat → va_E} {N r : Nat} (hMB : MB E g N r) (hN : N ≤ 24) (hr : r ≤ 1) {z : Nat → Nat} (c298 : Ce E g 298 (xI S 16 (fun k => nI (z k)))) (hv : VR z) (hlp : lpN z 16 = 0) : CtI S E yX8_isNext cX8_isNext 4 (Option.some FieldType.boolean) rmX8_isNext [.ref (E.1 286)] g (fun u g' => u = b2i false ∧ ∃ w : Nat → Nat, g' = va_up g 298 (xI S 16 (fun k => nI (w k)))) := by
  refine Ct.of RX8 (by decide +kernel) rfl (Nat.le_of_ble_eq_true rfl) (fun M C Z => ?_)
  obtain ⟨fs, hb_⟩ := id hMB
  refine G.eq (pc' := 0) (vs' := [some (.ref (E.1 286)), none, none, none]) (st' := []) ?_
  refine r_bipush (pc := 0) (v := nI 15) C dX8_isNext_0 (by decide +kernel) ?_
  refine r_ti (mI 16) (by decide +kernel) ?_
  refine r_istore_n (pc := 2) C dX8_isNext_2 (by decide) ?_
  refine G.eq (pc' := 3) (vs' := [some (.ref (E.1 286)), some (.int (mI 16)), none, none]) (st' := []) ?_
  refine r_iconst (pc := 3) (v := nI 0) C dX8_isNext_3 (by decide +kernel) ?_
  refine r_istore_n (pc := 4) C dX8_isNext_4 (by decide) ?_
  refine G.eq (pc' := 5) (vs' := [some (.ref (E.1 286)), some (.int (mI 16)), some (.int (nI 0)), none]) (st' := []) ?_
  refine G.heap (Ce.id c298) ?_
  refine G.cI (f' := fun k => nI (zzF z 0 k)) (fun j hj => by rw [show zzF z 0 j = z j from if_pos (by omega)]) ?_
  show G M S E (0, 0) (va_up g 298 (xI S 16 (fun k => nI (zzF z 0 k)))) 5 [some (.ref (E.1 286)), some (.int (mI 16)), some (.int (nI 0)), none] []
  refine bk (P := fun t => G M S E (0, 0) (va_up g 298 (xI S 16 (fun k => nI (zzF z t k)))) 5 [some (.ref (E.1 286)), some (.int (mI (16 - t))), some (.int (nI (sR z t))), none] []) (T := 16) ?_ (fun t ht ih => ?_)
  · show G M S E (0, 0) (va_up g 298 (xI S 16 (fun k => nI (zzF z 16 k)))) 5 [some (.ref (E.1 286)), some (.int (mI (16 - 16))), some (.int (nI (sR z 16))), none] []
    refine r_iload_n (pc := 5) C dX8_isNext_5 rfl ?_
    refine r_if_lt (pc := 6) (tgt := 41) C dX8_isNext_6 (by decide) (fun h6 => ?_) (fun h6 => ?_)
    · have h6 := m_lt0 (by omega) h6
      refine r_iload_n (pc := 41) C dX8_isNext_41 rfl ?_
      refine r_if_ge (pc := 42) (tgt := 47) C dX8_isNext_42 (by decide) (fun h42 => ?_) (fun h42 => ?_)
      · have h42 := m_ge0 (by omega) h42
        omega
      · have h42 := m_nge0 (by omega) h42
        refine r_iconst (pc := 45) (v := nI 0) C dX8_isNext_45 (by decide +kernel) ?_
        exact r_iret (pc := 46) C Z dX8_isNext_46 rfl (⟨rfl, _, rfl⟩)
    · have h6 := m_nlt0 (by omega) h6
      omega
  · show G M S E (0, 0) (va_up g 298 (xI S 16 (fun k => nI (zzF z t k)))) 5 [some (.ref (E.1 286)), some (.int (mI (16 - t))), some (.int (nI (sR z t))), none] []
    have hlw := lpN_ab z 16 (16 - t - 1) (by omega) (by omega)
    have hzz : zzF z t (16 - t - 1) = z (16 - t - 1) := if_pos (by omega)
    have hsl := sR_le hv.1 t (by omega)
    refine r_iload_n (pc := 5) C dX8_isNext_5 rfl ?_
    refine r_if_lt (pc := 6) (tgt := 41) C dX8_isNext_6 (by decide) (fun h6 => ?_) (fun h6 => ?_)
    · have h6 := m_lt0 (by omega) h6
      omega
    · have h6 := m_nlt0 (by omega) h6
      rw [show 16 - t = 16 - t - 1 + 1 by omega, mI_s]
      refine r_aload_n (pc := 9) C dX8_isNext_9 rfl ?_
      refine r_getf (pc := 10) C dX8_isNext_10 fl_RX8_56 (Ce.up hb_.1 (by decide)) hb_.2.2.2.2.2.2.2.2.2.2.2.2.2.2.1 ?_
      refine r_iload_n (pc := 13) C dX8_isNext_13 rfl ?_
      refine r_iald (pc := 14) C dX8_isNext_14 (Ce.new c298) rfl (by omega) (by omega) ?_
      refine r_ti (nI (zzF z t (16 - t - 1))) rfl ?_
      refine r_iconst (pc := 15) (v := nI 2) C dX8_isNext_15 (by decide +kernel) ?_
      refine r_icmp_ge (pc := 16) (tgt := 41) C dX8_isNext_16 (by decide) (fun h16 => ?_) (fun h16 => ?_)
      · have h16 := c_le (by omega) (by omega) h16
        omega
      · have h16 := c_nle (by omega) (by omega) h16
        refine r_iload_n (pc := 19) C dX8_isNext_19 rfl ?_
        refine r_aload_n (pc := 20) C dX8_isNext_20 rfl ?_
        refine r_getf (pc := 21) C dX8_isNext_21 fl_RX8_56 (Ce.up hb_.1 (by decide)) hb_.2.2.2.2.2.2.2.2.2.2.2.2.2.2.1 ?_
        refine r_iload_n (pc := 24) C dX8_isNext_24 rfl ?_
        refine r_iald (pc := 25) C dX8_isNext_25 (Ce.new c298) rfl (by omega) (by omega) ?_
        refine r_ti (nI (zzF z t (16 - t - 1))) rfl ?_
        refine r_iadd (pc := 26) C dX8_isNext_26 ?_
        refine r_ti (nI (sR z t + (zzF z t (16 - t - 1)))) (nI_add _ _) ?_
        refine r_istore_n (pc := 27) C dX8_isNext_27 (by decide) ?_
        refine G.eq (pc' := 28) (vs' := [some (.ref (E.1 286)), some (.int (nI (16 - t - 1))), some (.int (nI (sR z t + (zzF z t (16 - t - 1))))), none]) (st' := []) ?_
        have e2 : sR z t + zzF z t (16 - t - 1) = sR z (t + 1) := by rw [hzz, sR_s]
        rw [e2]
        show G M S E (0, 0) (va_up g 298 (xI S 16 (fun k => nI (zzF z t k)))) 28 [some (.ref (E.1 286)), some (.int (nI (16 - t - 1))), some (.int (nI (sR z (t + 1)))), none] []
        refine r_aload_n (pc := 28) C dX8_isNext_28 rfl ?_
        refine r_getf (pc := 29) C dX8_isNext_29 fl_RX8_56 (Ce.up hb_.1 (by decide)) hb_.2.2.2.2.2.2.2.2.2.2.2.2.2.2.1 ?_
        refine r_iload_n (pc := 32) C dX8_isNext_32 rfl ?_
        refine r_iconst (pc := 33) (v := nI 0) C dX8_isNext_33 (by decide +kernel) ?_
        refine r_iast2 (pc := 34) C dX8_isNext_34 c298.1 rfl (by omega) (by omega) ?_
        refine G.cI (f' := fun k => nI (zzF z (t + 1) k)) (fun j _ => zz_s z (by omega) j) ?_
        refine r_iinc (pc := 35) (v := mI (16 - t - 1)) C dX8_isNext_35 rfl (nI_m1 _) (by decide) ?_
        refine G.eq (pc' := 38) (vs' := [some (.ref (E.1 286)), some (.int (mI (16 - t - 1))), some (.int (nI (sR z (t + 1)))), none]) (st' := []) ?_
        refine r_goto (pc := 38) (tgt := 5) C dX8_isNext_38 (by decide) ?_
        exact ih
set_option maxHeartbeats 4000000 in
set_option maxRecDepth 100000 in
theorem c_X8_isNext_t {S : ST} {E : ET} {g : Nat → va_E} {N r : Nat} (hMB : MB E g N r) (hN : N ≤ 24) (hr : r ≤ 1) {z : Nat → Nat} (c298 : Ce E g 298 (xI S 16 (fun k => nI (z k)))) (hv : VR z) {p : Nat} (hlp : lpN z 16 = p + 1) : CtI S E yX8_isNext cX8_isNext 4 (Option.some FieldType.boolean) rmX8_isNext [.ref (E.1 286)] g (fun u g' => u = b2i true ∧ g' = va_up g 298 (xI S 16 (fun k => nI (nxF z k)))) := by
  refine Ct.of RX8 (by decide +kernel) rfl (Nat.le_of_ble_eq_true rfl) (fun M C Z => ?_)
  obtain ⟨fs, hb_⟩ := id hMB
  refine G.eq (pc' := 0) (vs' := [some (.ref (E.1 286)), none, none, none]) (st' := []) ?_
  have hp16 : p + 1 ≤ 16 := by have := lpN_le z 16; omega
  have hgt : 1 < z p := by have := lpN_gt z 16 (by omega); rw [hlp, Nat.add_sub_cancel] at this; exact this
  have hsum := hv.sum hlp hgt
  refine r_bipush (pc := 0) (v := nI 15) C dX8_isNext_0 (by decide +kernel) ?_
  refine r_ti (mI 16) (by decide +kernel) ?_
  refine r_istore_n (pc := 2) C dX8_isNext_2 (by decide) ?_
  refine G.eq (pc' := 3) (vs' := [some (.ref (E.1 286)), some (.int (mI 16)), none, none]) (st' := []) ?_
  refine r_iconst (pc := 3) (v := nI 0) C dX8_isNext_3 (by decide +kernel) ?_
  refine r_istore_n (pc := 4) C dX8_isNext_4 (by decide) ?_
  refine G.eq (pc' := 5) (vs' := [some (.ref (E.1 286)), some (.int (mI 16)), some (.int (nI 0)), none]) (st' := []) ?_
  refine G.heap (Ce.id c298) ?_
  refine G.cI (f' := fun k => nI (zzF z 0 k)) (fun j hj => by rw [show zzF z 0 j = z j from if_pos (by omega)]) ?_
  show G M S E (0, 0) (va_up g 298 (xI S 16 (fun k => nI (zzF z 0 k)))) 5 [some (.ref (E.1 286)), some (.int (mI 16)), some (.int (nI 0)), none] []
  obtain ⟨Mo, hM⟩ : ∃ Mo, Mo = z p - 1 := ⟨_, rfl⟩
  obtain ⟨L, hL⟩ : ∃ L, L = sR z (16 - (p + 1)) + 1 := ⟨_, rfl⟩
  have hM1 : 1 ≤ Mo := by omega
  rw [← hM, ← hL] at hsum
  refine bk (P := fun t => G M S E (0, 0) (va_up g 298 (xI S 16 (fun k => nI (zzF z t k)))) 5 [some (.ref (E.1 286)), some (.int (mI (16 - t))), some (.int (nI (sR z t))), none] []) (T := 16 - (p + 1)) ?_ (fun t ht ih => ?_)
  · show G M S E (0, 0) (va_up g 298 (xI S 16 (fun k => nI (zzF z (16 - (p + 1)) k)))) 5 [some (.ref (E.1 286)), some (.int (mI (16 - (16 - (p + 1))))), some (.int (nI (sR z (16 - (p + 1))))), none] []
    have hT : 16 - (16 - (p + 1)) = p + 1 := by omega
    rw [hT, mI_s]
    show G M S E (0, 0) (va_up g 298 (xI S 16 (fun k => nI (zzF z (16 - (p + 1)) k)))) 5 [some (.ref (E.1 286)), some (.int (nI p)), some (.int (nI (sR z (16 - (p + 1))))), none] []
    have hzz : zzF z (16 - (p + 1)) p = z p := if_pos (by omega)
    have hzp := hv.1 p (by omega)
    refine r_iload_n (pc := 5) C dX8_isNext_5 rfl ?_
    refine r_if_lt (pc := 6) (tgt := 41) C dX8_isNext_6 (by decide) (fun h6 => ?_) (fun h6 => ?_)
    · have h6 := z_lt (by omega) h6
      exact h6.elim
    · have h6 := z_nlt (by omega) h6
      refine r_aload_n (pc := 9) C dX8_isNext_9 rfl ?_
      refine r_getf (pc := 10) C dX8_isNext_10 fl_RX8_56 (Ce.up hb_.1 (by decide)) hb_.2.2.2.2.2.2.2.2.2.2.2.2.2.2.1 ?_
      refine r_iload_n (pc := 13) C dX8_isNext_13 rfl ?_
      refine r_iald (pc := 14) C dX8_isNext_14 (Ce.new c298) rfl (by omega) (by omega) ?_
      refine r_ti (nI (zzF z (16 - (p + 1)) p)) rfl ?_
      refine r_iconst (pc := 15) (v := nI 2) C dX8_isNext_15 (by decide +kernel) ?_
      refine r_icmp_ge (pc := 16) (tgt := 41) C dX8_isNext_16 (by decide) (fun h16 => ?_) (fun h16 => ?_)
      · have h16 := c_le (by omega) (by omega) h16
        refine r_iload_n (pc := 41) C dX8_isNext_41 rfl ?_
        refine r_if_ge (pc := 42) (tgt := 47) C dX8_isNext_42 (by decide) (fun h42 => ?_) (fun h42 => ?_)
        · have h42 := z_ge (by omega) h42
          refine r_aload_n (pc := 47) C dX8_isNext_47 rfl ?_
          refine r_getf (pc := 48) C dX8_isNext_48 fl_RX8_56 (Ce.up hb_.1 (by decide)) hb_.2.2.2.2.2.2.2.2.2.2.2.2.2.2.1 ?_
          refine r_iload_n (pc := 51) C dX8_isNext_51 rfl ?_
          refine r_dup2 (pc := 52) C dX8_isNext_52 rfl rfl ?_
          refine r_iald (pc := 53) C dX8_isNext_53 (Ce.new c298) rfl (by omega) (by omega) ?_
          refine r_ti (nI (zzF z (16 - (p + 1)) p)) rfl ?_
          refine r_iconst (pc := 54) (v := nI 1) C dX8_isNext_54 (by decide +kernel) ?_
          refine r_isub (pc := 55) C dX8_isNext_55 ?_
          refine r_ti (nI (zzF z (16 - (p + 1)) p - 1)) (pk_sub (by omega)) ?_
          refine r_ti (nI Mo) (congrArg nI (by rw [hzz, hM])) ?_
          refine r_iast2 (pc := 56) C dX8_isNext_56 c298.1 rfl (by omega) (by omega) ?_
          refine G.cI (f' := fun k => nI (wwF z p Mo L 0 k)) (fun j _ => ww_0 z (by omega) j) ?_
          refine r_iinc (pc := 57) (v := nI (sR z (16 - (p + 1)) + 1)) C dX8_isNext_57 rfl (nI_i1 _) (by decide) ?_
          refine G.eq (pc' := 60) (vs' := [some (.ref (E.1 286)), some (.int (nI p)), some (.int (nI (sR z (16 - (p + 1)) + 1))), none]) (st' := []) ?_
          rw [← hL]
          show G M S E (0, 0) (va_up g 298 (xI S 16 (fun k => nI (wwF z p Mo L 0 k)))) 60 [some (.ref (E.1 286)), some (.int (nI p)), some (.int (nI L)), none] []
          refine r_aload_n (pc := 60) C dX8_isNext_60 rfl ?_
          refine r_getf (pc := 61) C dX8_isNext_61 fl_RX8_56 (Ce.up hb_.1 (by decide)) hb_.2.2.2.2.2.2.2.2.2.2.2.2.2.2.1 ?_
          refine r_iload_n (pc := 64) C dX8_isNext_64 rfl ?_
          refine r_iald (pc := 65) C dX8_isNext_65 (Ce.new c298) rfl (by omega) (by omega) ?_
          refine r_ti (nI (wwF z p Mo L 0 p)) rfl ?_
          refine r_ti (nI Mo) (congrArg nI (by unfold wwF; rw [if_neg (by omega), if_pos rfl])) ?_
          refine r_istore_n (pc := 66) C dX8_isNext_66 (by decide) ?_
          refine G.eq (pc' := 67) (vs' := [some (.ref (E.1 286)), some (.int (nI p)), some (.int (nI L)), some (.int (nI Mo))]) (st' := []) ?_
          refine bk (P := fun t2 => G M S E (0, 0) (va_up g 298 (xI S 16 (fun k => nI (wwF z p Mo L t2 k)))) 67 [some (.ref (E.1 286)), some (.int (nI (p + t2))), some (.int (nI (L - Mo * t2))), some (.int (nI Mo))] []) (T := sbT L Mo) ?_ (fun t2 ht ih => ?_)
          · show G M S E (0, 0) (va_up g 298 (xI S 16 (fun k => nI (wwF z p Mo L (sbT L Mo) k)))) 67 [some (.ref (E.1 286)), some (.int (nI (p + (sbT L Mo)))), some (.int (nI (L - Mo * (sbT L Mo)))), some (.int (nI Mo))] []
            have hq := sb_ge (n := L) (k := Mo) hM1
            refine r_iload_n (pc := 67) C dX8_isNext_67 rfl ?_
            refine r_if_le (pc := 68) (tgt := 102) C dX8_isNext_68 (by decide) (fun h68 => ?_) (fun h68 => ?_)
            · have h68 := z_le (by omega) h68
              refine G.cI (f' := fun k => nI (nxF z k)) (fun j hj => congrArg nI (ww_end hlp hM hL hgt hj)) ?_
              refine r_iconst (pc := 102) (v := nI 1) C dX8_isNext_102 (by decide +kernel) ?_
              exact r_iret (pc := 103) C Z dX8_isNext_103 rfl (⟨rfl, rfl⟩)
            · have h68 := z_nle (by omega) h68
              omega
          · show G M S E (0, 0) (va_up g 298 (xI S 16 (fun k => nI (wwF z p Mo L t2 k)))) 67 [some (.ref (E.1 286)), some (.int (nI (p + t2))), some (.int (nI (L - Mo * t2))), some (.int (nI Mo))] []
            have hq := sb_lt (n := L) (k := Mo) hM1 ht
            refine r_iload_n (pc := 67) C dX8_isNext_67 rfl ?_
            refine r_if_le (pc := 68) (tgt := 102) C dX8_isNext_68 (by decide) (fun h68 => ?_) (fun h68 => ?_)
            · have h68 := z_le (by omega) h68
              omega
            · have h68 := z_nle (by omega) h68
              refine r_iinc (pc := 71) (v := nI (p + t2 + 1)) C dX8_isNext_71 rfl (nI_i1 _) (by decide) ?_
              refine G.eq (pc' := 74) (vs' := [some (.ref (E.1 286)), some (.int (nI (p + t2 + 1))), some (.int (nI (L - Mo * t2))), some (.int (nI Mo))]) (st' := []) ?_
              refine r_aload_n (pc := 74) C dX8_isNext_74 rfl ?_
              refine r_getf (pc := 75) C dX8_isNext_75 fl_RX8_56 (Ce.up hb_.1 (by decide)) hb_.2.2.2.2.2.2.2.2.2.2.2.2.2.2.1 ?_
              refine r_iload_n (pc := 78) C dX8_isNext_78 rfl ?_
              refine r_iload_n (pc := 79) C dX8_isNext_79 rfl ?_
              refine r_iload_n (pc := 80) C dX8_isNext_80 rfl ?_
              refine r_icmp_ge (pc := 81) (tgt := 88) C dX8_isNext_81 (by decide) (fun h81 => ?_) (fun h81 => ?_)
              · have h81 := c_le (by omega) (by omega) h81
                refine r_iload_n (pc := 88) C dX8_isNext_88 rfl ?_
                refine r_ti (nI (min Mo (L - Mo * t2))) (congrArg nI (by omega)) ?_
                refine r_iast2 (pc := 89) C dX8_isNext_89 c298.1 rfl (by omega) (by omega) ?_
                refine G.cI (f' := fun k => nI (wwF z p Mo L (t2 + 1) k)) (fun j _ => ww_s z p Mo L t2 j) ?_
                refine r_iload_n (pc := 90) C dX8_isNext_90 rfl ?_
                refine r_aload_n (pc := 91) C dX8_isNext_91 rfl ?_
                refine r_getf (pc := 92) C dX8_isNext_92 fl_RX8_56 (Ce.up hb_.1 (by decide)) hb_.2.2.2.2.2.2.2.2.2.2.2.2.2.2.1 ?_
                refine r_iload_n (pc := 95) C dX8_isNext_95 rfl ?_
                refine r_iald (pc := 96) C dX8_isNext_96 (Ce.new c298) rfl (by omega) (by omega) ?_
                refine r_ti (nI (wwF z p Mo L (t2 + 1) (p + t2 + 1))) rfl ?_
                refine r_ti (nI (min Mo (L - Mo * t2))) (congrArg nI (ww_at z p Mo L t2)) ?_
                refine r_isub (pc := 97) C dX8_isNext_97 ?_
                refine r_ti (nI (L - Mo * t2 - (min Mo (L - Mo * t2)))) (pk_sub (by omega)) ?_
                refine r_ti (nI (L - Mo * (t2 + 1))) (congrArg nI (by rw [Nat.mul_succ]; omega)) ?_
                refine r_istore_n (pc := 98) C dX8_isNext_98 (by decide) ?_
                refine G.eq (pc' := 99) (vs' := [some (.ref (E.1 286)), some (.int (nI (p + t2 + 1))), some (.int (nI (L - Mo * (t2 + 1)))), some (.int (nI Mo))]) (st' := []) ?_
                refine r_goto (pc := 99) (tgt := 67) C dX8_isNext_99 (by decide) ?_
                exact ih
              · have h81 := c_nle (by omega) (by omega) h81
                refine r_iload_n (pc := 84) C dX8_isNext_84 rfl ?_
                refine r_goto (pc := 85) (tgt := 89) C dX8_isNext_85 (by decide) ?_
                refine r_ti (nI (min Mo (L - Mo * t2))) (congrArg nI (by omega)) ?_
                refine r_iast2 (pc := 89) C dX8_isNext_89 c298.1 rfl (by omega) (by omega) ?_
                refine G.cI (f' := fun k => nI (wwF z p Mo L (t2 + 1) k)) (fun j _ => ww_s z p Mo L t2 j) ?_
                refine r_iload_n (pc := 90) C dX8_isNext_90 rfl ?_
                refine r_aload_n (pc := 91) C dX8_isNext_91 rfl ?_
                refine r_getf (pc := 92) C dX8_isNext_92 fl_RX8_56 (Ce.up hb_.1 (by decide)) hb_.2.2.2.2.2.2.2.2.2.2.2.2.2.2.1 ?_
                refine r_iload_n (pc := 95) C dX8_isNext_95 rfl ?_
                refine r_iald (pc := 96) C dX8_isNext_96 (Ce.new c298) rfl (by omega) (by omega) ?_
                refine r_ti (nI (wwF z p Mo L (t2 + 1) (p + t2 + 1))) rfl ?_
                refine r_ti (nI (min Mo (L - Mo * t2))) (congrArg nI (ww_at z p Mo L t2)) ?_
                refine r_isub (pc := 97) C dX8_isNext_97 ?_
                refine r_ti (nI (L - Mo * t2 - (min Mo (L - Mo * t2)))) (pk_sub (by omega)) ?_
                refine r_ti (nI (L - Mo * (t2 + 1))) (congrArg nI (by rw [Nat.mul_succ]; omega)) ?_
                refine r_istore_n (pc := 98) C dX8_isNext_98 (by decide) ?_
                refine G.eq (pc' := 99) (vs' := [some (.ref (E.1 286)), some (.int (nI (p + t2 + 1))), some (.int (nI (L - Mo * (t2 + 1)))), some (.int (nI Mo))]) (st' := []) ?_
                refine r_goto (pc := 99) (tgt := 67) C dX8_isNext_99 (by decide) ?_
                exact ih
        · have h42 := z_nge (by omega) h42
          exact h42.elim
      · have h16 := c_nle (by omega) (by omega) h16
        omega
  · show G M S E (0, 0) (va_up g 298 (xI S 16 (fun k => nI (zzF z t k)))) 5 [some (.ref (E.1 286)), some (.int (mI (16 - t))), some (.int (nI (sR z t))), none] []
    have hlw := lpN_ab z 16 (16 - t - 1) (by omega) (by omega)
    have hzz : zzF z t (16 - t - 1) = z (16 - t - 1) := if_pos (by omega)
    have hsl := sR_le hv.1 t (by omega)
    refine r_iload_n (pc := 5) C dX8_isNext_5 rfl ?_
    refine r_if_lt (pc := 6) (tgt := 41) C dX8_isNext_6 (by decide) (fun h6 => ?_) (fun h6 => ?_)
    · have h6 := m_lt0 (by omega) h6
      omega
    · have h6 := m_nlt0 (by omega) h6
      rw [show 16 - t = 16 - t - 1 + 1 by omega, mI_s]
      refine r_aload_n (pc := 9) C dX8_isNext_9 rfl ?_
      refine r_getf (pc := 10) C dX8_isNext_10 fl_RX8_56 (Ce.up hb_.1 (by decide)) hb_.2.2.2.2.2.2.2.2.2.2.2.2.2.2.1 ?_
      refine r_iload_n (pc := 13) C dX8_isNext_13 rfl ?_
      refine r_iald (pc := 14) C dX8_isNext_14 (Ce.new c298) rfl (by omega) (by omega) ?_
      refine r_ti (nI (zzF z t (16 - t - 1))) rfl ?_
      refine r_iconst (pc := 15) (v := nI 2) C dX8_isNext_15 (by decide +kernel) ?_
      refine r_icmp_ge (pc := 16) (tgt := 41) C dX8_isNext_16 (by decide) (fun h16 => ?_) (fun h16 => ?_)
      · have h16 := c_le (by omega) (by omega) h16
        omega
      · have h16 := c_nle (by omega) (by omega) h16
        refine r_iload_n (pc := 19) C dX8_isNext_19 rfl ?_
        refine r_aload_n (pc := 20) C dX8_isNext_20 rfl ?_
        refine r_getf (pc := 21) C dX8_isNext_21 fl_RX8_56 (Ce.up hb_.1 (by decide)) hb_.2.2.2.2.2.2.2.2.2.2.2.2.2.2.1 ?_
        refine r_iload_n (pc := 24) C dX8_isNext_24 rfl ?_
        refine r_iald (pc := 25) C dX8_isNext_25 (Ce.new c298) rfl (by omega) (by omega) ?_
        refine r_ti (nI (zzF z t (16 - t - 1))) rfl ?_
        refine r_iadd (pc := 26) C dX8_isNext_26 ?_
        refine r_ti (nI (sR z t + (zzF z t (16 - t - 1)))) (nI_add _ _) ?_
        refine r_istore_n (pc := 27) C dX8_isNext_27 (by decide) ?_
        refine G.eq (pc' := 28) (vs' := [some (.ref (E.1 286)), some (.int (nI (16 - t - 1))), some (.int (nI (sR z t + (zzF z t (16 - t - 1))))), none]) (st' := []) ?_
        have e2 : sR z t + zzF z t (16 - t - 1) = sR z (t + 1) := by rw [hzz, sR_s]
        rw [e2]
        show G M S E (0, 0) (va_up g 298 (xI S 16 (fun k => nI (zzF z t k)))) 28 [some (.ref (E.1 286)), some (.int (nI (16 - t - 1))), some (.int (nI (sR z (t + 1)))), none] []
        refine r_aload_n (pc := 28) C dX8_isNext_28 rfl ?_
        refine r_getf (pc := 29) C dX8_isNext_29 fl_RX8_56 (Ce.up hb_.1 (by decide)) hb_.2.2.2.2.2.2.2.2.2.2.2.2.2.2.1 ?_
        refine r_iload_n (pc := 32) C dX8_isNext_32 rfl ?_
        refine r_iconst (pc := 33) (v := nI 0) C dX8_isNext_33 (by decide +kernel) ?_
        refine r_iast2 (pc := 34) C dX8_isNext_34 c298.1 rfl (by omega) (by omega) ?_
        refine G.cI (f' := fun k => nI (zzF z (t + 1) k)) (fun j _ => zz_s z (by omega) j) ?_
        refine r_iinc (pc := 35) (v := mI (16 - t - 1)) C dX8_isNext_35 rfl (nI_m1 _) (by decide) ?_
        refine G.eq (pc' := 38) (vs' := [some (.ref (E.1 286)), some (.int (mI (16 - t - 1))), some (.int (nI (sR z (t + 1)))), none]) (st' := []) ?_
        refine r_goto (pc := 38) (tgt := 5) C dX8_isNext_38 (by decide) ?_
        exact ih
