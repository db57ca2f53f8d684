/-! partitions, both sides -/
theorem pc_iff {z : Nat → Nat} (hz : ZT z) {k : Nat} (hk : k < 16) : k < pcF z ↔ 0 < z k := by
  constructor
  · exact pcF_pos
  · intro h
    by_cases q : k < pcF z
    · exact q
    · have e := pcF_end (z := z) (by omega)
      have := hz (pcF z) k (by omega) hk e
      omega
theorem bool_iff {a b : Bool} (h : a = true ↔ b = true) : a = b := by
  cases a with
  | true => exact (h.mp rfl).symm
  | false =>
    cases b with
    | true => exact h.mpr rfl
    | false => rfl
theorem cnt_pre {p : Nat → Bool} {m : Nat} (h1 : ∀ k, k < m → p k = true) : ∀ d : Nat, (∀ k, m ≤ k → k < m + d → p k = false) → cntN p (m + d) = m
  | 0, _ => by
    induction m with
    | zero => rfl
    | succ m ih => rw [Nat.add_zero, cntN_s, h1 m (by omega)]; have := ih (fun k hk => h1 k (by omega)) (fun k a b => by omega); rw [Nat.add_zero] at this; rw [this]; rfl
  | d + 1, h => by
    show cntN p (m + d + 1) = m
    rw [cntN_s, h (m + d) (by omega) (by omega), cnt_pre h1 d (fun k a b => h k a (by omega))]
    rfl
theorem cnt_cut {p : Nat → Bool} {m : Nat} : ∀ d : Nat, (∀ k, m ≤ k → k < m + d → p k = false) → cntN p (m + d) = cntN p m
  | 0, _ => rfl
  | d + 1, h => by
    show cntN p (m + d + 1) = _
    rw [cntN_s, h (m + d) (by omega) (by omega), cnt_cut d (fun k a b => h k a (by omega))]
    rfl
theorem cal_cnt (z : Nat → Nat) (l : Nat) : cal z l = cntN (fun t => decide (l ≤ z t)) 16 := it_cong (fun t s _ => by
  show (if l ≤ z t then s + 1 else s) = bif decide (l ≤ z t) then s + 1 else s
  by_cases q : l ≤ z t
  · rw [if_pos q, show decide (l ≤ z t) = true from decide_eq_true q]; rfl
  · rw [if_neg q, show decide (l ≤ z t) = false from decide_eq_false q]; rfl)
theorem cal_1 {z : Nat → Nat} (hz : ZT z) : cal z 1 = pcF z := by
  rw [cal_cnt]
  have hle := pcF_le z
  have := cnt_pre (p := fun t => decide (1 ≤ z t)) (m := pcF z) (fun k hk => decide_eq_true (pcF_pos hk)) (16 - pcF z) (fun k a b => decide_eq_false (fun q => by
    have := (pc_iff hz (show k < 16 by omega)).mpr q
    omega))
  rw [show pcF z + (16 - pcF z) = 16 by omega] at this
  exact this
theorem zx_lt {z : Nat → Nat} {k : Nat} (h : k < 16) : zx z k = z k := if_neg (by omega)
theorem zx_ge {z : Nat → Nat} {k : Nat} (h : 16 ≤ k) : zx z k = 0 := if_pos h
theorem ps_0 {z : Nat → Nat} (hz : ZT z) : psF 1 z = mpB 0 z := by
  show hgB 1 z = allB (mpP 0 z) (pcF z)
  have hle := pcF_le z
  refine bool_iff ?_
  unfold hgB
  rw [allB_iff, allB_iff]
  constructor
  · intro h k hk
    show (decide (zx z (k + 1) = 0) || decide (zx z (k + 1) < z k)) = true
    rw [Bool.or_eq_true, decide_eq_true_eq, decide_eq_true_eq]
    by_cases q : k + 1 < 16
    · rw [zx_lt q]
      have := h k (by omega)
      unfold hgP gpB at this
      rw [show 1 + k = k + 1 by omega, show k + 1 - 1 = k by omega] at this
      by_cases w : z (k + 1) = 0
      · exact .inl w
      · rw [show decide (0 < z (k + 1)) = true from decide_eq_true (by omega), cond_true, decide_eq_true_eq] at this
        exact .inr (by omega)
    · exact .inl (zx_ge (by omega))
  · intro h t ht
    unfold hgP gpB
    rw [show 1 + t = t + 1 by omega, show t + 1 - 1 = t by omega]
    by_cases w : 0 < z (t + 1)
    · rw [show decide (0 < z (t + 1)) = true from decide_eq_true w, cond_true, decide_eq_true_eq]
      have hp : t < pcF z := (pc_iff hz (by omega)).mpr (by
        by_cases q : z t = 0
        · have := hz t (t + 1) (by omega) (by omega) q; omega
        · omega)
      have : (decide (zx z (t + 1) = 0) || decide (zx z (t + 1) < z t)) = true := h t hp
      rw [Bool.or_eq_true, decide_eq_true_eq, decide_eq_true_eq, zx_lt (by omega)] at this
      omega
    · rw [show decide (0 < z (t + 1)) = false from decide_eq_false w]; rfl
theorem ps_1 {z : Nat → Nat} (hz : ZT z) : psF 2 z = mpB 1 z := by
  show odB z = allB (mpP 1 z) (pcF z)
  have hle := pcF_le z
  refine bool_iff ?_
  unfold odB
  rw [allB_iff, allB_iff]
  constructor
  · intro h k hk
    show decide (z k % 2 = 1) = true
    have := h k (by omega)
    unfold odP at this
    rw [show decide (0 < z k) = true from decide_eq_true (pcF_pos hk), cond_true, decide_eq_true_eq] at this
    exact decide_eq_true (by omega)
  · intro h t ht
    unfold odP
    by_cases w : 0 < z t
    · rw [show decide (0 < z t) = true from decide_eq_true w, cond_true, decide_eq_true_eq]
      have : decide (z t % 2 = 1) = true := h t ((pc_iff hz ht).mpr w)
      rw [decide_eq_true_eq] at this
      omega
    · rw [show decide (0 < z t) = false from decide_eq_false w]; rfl
theorem nI_sub {a b : Nat} (ha : a ≤ 16) (hb : b ≤ 16) : (nI a - nI b).toInt = (a : Int) - b := by
  rw [Int32.toInt_sub, nI_toInt (by omega), nI_toInt (by omega)]
  exact Int.bmod_eq_of_le (by omega) (by omega)
theorem ps_2 {z : Nat → Nat} (hz : ZT z) (h16 : ∀ k, z k ≤ 16) : psF 3 z = mpB 2 z := by
  show hgB 2 z = allB (mpP 2 z) (pcF z)
  have hle := pcF_le z
  refine bool_iff ?_
  unfold hgB
  rw [allB_iff, allB_iff]
  constructor
  · intro h k hk
    show (decide (zx z (k + 1) = 0) || decide (¬ nI (z k) - nI (zx z (k + 1)) < nI 2)) = true
    rw [Bool.or_eq_true, decide_eq_true_eq, decide_eq_true_eq]
    by_cases q : k + 1 < 16
    · rw [zx_lt q]
      have := h k (by omega)
      unfold hgP gpB at this
      rw [show 1 + k = k + 1 by omega, show k + 1 - 1 = k by omega] at this
      by_cases w : z (k + 1) = 0
      · exact .inl w
      · rw [show decide (0 < z (k + 1)) = true from decide_eq_true (by omega), cond_true, decide_eq_true_eq] at this
        refine .inr ?_
        rw [Int32.lt_iff_toInt_lt, nI_sub (h16 _) (h16 _), show (nI 2).toInt = 2 by decide]
        omega
    · exact .inl (zx_ge (by omega))
  · intro h t ht
    unfold hgP gpB
    rw [show 1 + t = t + 1 by omega, show t + 1 - 1 = t by omega]
    by_cases w : 0 < z (t + 1)
    · rw [show decide (0 < z (t + 1)) = true from decide_eq_true w, cond_true, decide_eq_true_eq]
      have hp : t < pcF z := (pc_iff hz (by omega)).mpr (by
        by_cases q : z t = 0
        · have := hz t (t + 1) (by omega) (by omega) q; omega
        · omega)
      have : (decide (zx z (t + 1) = 0) || decide (¬ nI (z t) - nI (zx z (t + 1)) < nI 2)) = true := h t hp
      rw [Bool.or_eq_true, decide_eq_true_eq, decide_eq_true_eq, zx_lt (by omega), Int32.lt_iff_toInt_lt, nI_sub (h16 _) (h16 _), show (nI 2).toInt = 2 by decide] at this
      omega
    · rw [show decide (0 < z (t + 1)) = false from decide_eq_false w]; rfl
theorem ps_3 {z : Nat → Nat} (hz : ZT z) : psF 4 z = mpB 3 z := by
  show decide (cal z 1 = cal z 2) = allB (mpP 3 z) (pcF z)
  have hle := pcF_le z
  refine bool_iff ?_
  rw [allB_iff, decide_eq_true_eq, cal_cnt, cal_cnt]
  constructor
  · intro h k hk
    show decide (¬ z k = 1) = true
    refine decide_eq_true (fun e => ?_)
    have := cnt_lt (p := fun t => decide (2 ≤ z t)) (q := fun t => decide (1 ≤ z t)) (j := k) (decide_eq_false (by omega)) (decide_eq_true (by omega)) (n := 16) (by omega) (fun j _ hj => decide_eq_true (by have := of_decide_eq_true hj; omega))
    omega
  · intro h
    refine cntN_cg (fun k hk => decide_eq_decide.mpr ⟨fun q => ?_, fun q => by omega⟩)
    have : decide (¬ z k = 1) = true := h k ((pc_iff hz hk).mpr q)
    rw [decide_eq_true_eq] at this
    omega
theorem ps_4 {z : Nat → Nat} (hz : ZT z) : psF 5 z = mpB 4 z := by
  show decide (cal z 1 % 2 = 0) = decide (pcF z % 2 = 0)
  rw [cal_1 hz]
theorem ps_5 {z : Nat → Nat} (hz : ZT z) : psF 6 z = mpB 5 z := by
  show scB z = scZ z
  have hle := pcF_le z
  refine allB_cong (fun t _ => ?_)
  rw [cal_cnt]
  have := cnt_cut (p := fun k => decide (1 + t ≤ z k)) (m := pcF z) (16 - pcF z) (fun k a b => decide_eq_false (fun q => by
    have := (pc_iff hz (show k < 16 by omega)).mpr (by omega)
    omega))
  rw [show pcF z + (16 - pcF z) = 16 by omega] at this
  rw [← this, show t + 1 = 1 + t by omega]
  exact decide_eq_decide.mpr ⟨fun e => e.symm, fun e => e.symm⟩
theorem ps_eq {z : Nat → Nat} (hz : ZT z) (h16 : ∀ k, z k ≤ 16) {w : Nat} (hw : w < 6) : psF (w + 1) z = mpB w z := by
  match w, hw with
  | 0, _ => exact ps_0 hz
  | 1, _ => exact ps_1 hz
  | 2, _ => exact ps_2 hz h16
  | 3, _ => exact ps_3 hz
  | 4, _ => exact ps_4 hz
  | 5, _ => exact ps_5 hz
/-- the words -/
theorem wd_tab : ∀ w : Nat, w < 6 → strL.getD w 0 = bgN (w + 1) - bgN w ∧ ∀ k : Nat, k < 13 → k < strL.getD w 0 → chN w k = wdN (bgN w + k) := by decide
theorem str_13 : ∀ w : Nat, w < 6 → strL.getD w 0 ≤ 13 := by decide
theorem ho_eq {L : Nat} {x : Nat → Nat} {w : Nat} (hw : w < 6) : wmB L x w = hoB L x w := by
  obtain ⟨h1, h2⟩ := wd_tab w hw
  have h3 := str_13 w hw
  unfold wmB hoB
  rw [← h1]
  by_cases e : strL.getD w 0 = L
  · rw [show decide (L = strL.getD w 0) = true from decide_eq_true e.symm, show decide (strL.getD w 0 = L) = true from decide_eq_true e, Bool.true_and, Bool.true_and]
    exact allB_cong (fun k hk => by rw [h2 k (by omega) (by omega)])
  · rw [show decide (L = strL.getD w 0) = false from decide_eq_false (fun q => e q.symm), show decide (strL.getD w 0 = L) = false from decide_eq_false e, Bool.false_and, Bool.false_and]
theorem wi_eq (L : Nat) (x : Nat → Nat) : (flN L x = 0 ∧ wiF L x = -7) ∨ ∃ w, w < 6 ∧ flN L x = w + 1 ∧ wiF L x = nI w := by
  have e : wiF L x = (bif hoB L x 0 then nI 0 else bif hoB L x 1 then nI 1 else bif hoB L x 2 then nI 2 else bif hoB L x 3 then nI 3 else bif hoB L x 4 then nI 4 else bif hoB L x 5 then nI 5 else -7) := by
    rw [← ho_eq (show 0 < 6 by decide), ← ho_eq (show 1 < 6 by decide), ← ho_eq (show 2 < 6 by decide), ← ho_eq (show 3 < 6 by decide), ← ho_eq (show 4 < 6 by decide), ← ho_eq (show 5 < 6 by decide)]
    rfl
  rw [e]
  unfold flN
  cases hoB L x 0 with
  | true => exact .inr ⟨0, by decide, rfl, rfl⟩
  | false =>
    cases hoB L x 1 with
    | true => exact .inr ⟨1, by decide, rfl, rfl⟩
    | false =>
      cases hoB L x 2 with
      | true => exact .inr ⟨2, by decide, rfl, rfl⟩
      | false =>
        cases hoB L x 3 with
        | true => exact .inr ⟨3, by decide, rfl, rfl⟩
        | false =>
          cases hoB L x 4 with
          | true => exact .inr ⟨4, by decide, rfl, rfl⟩
          | false =>
            cases hoB L x 5 with
            | true => exact .inr ⟨5, by decide, rfl, rfl⟩
            | false => exact .inl ⟨rfl, rfl⟩
/-- the rows that stay -/
theorem ZT_cg {a b : Nat → Nat} (h : ∀ k, k < 16 → a k = b k) (hz : ZT b) : ZT a := fun j k hjk hk hj => by
  rw [h k hk]
  exact hz j k hjk hk (by rw [← h j (by omega)]; exact hj)
theorem ko_eq {w : Nat} (hw : w < 6) {y : Nat → Nat} {n : Nat} (h16 : ∀ k, y k ≤ 16) (hz : ∀ i, i < n → ZT (fun k => y (i * 16 + k))) : ∀ T, T ≤ n → it (koM w) T (y, 0) = it (koF (w + 1)) T (y, 0) ∧ (it (koF (w + 1)) T (y, 0)).2 ≤ T ∧ (∀ k, (it (koF (w + 1)) T (y, 0)).1 k ≤ 16) ∧ (∀ j, T * 16 ≤ j → (it (koF (w + 1)) T (y, 0)).1 j = y j) ∧ ∀ i, i < (it (koF (w + 1)) T (y, 0)).2 → ZT (fun k => (it (koF (w + 1)) T (y, 0)).1 (i * 16 + k))
  | 0, _ => ⟨rfl, Nat.le_refl _, h16, fun _ _ => rfl, fun i hi => absurd hi (Nat.not_lt_zero _)⟩
  | T + 1, hT => by
    obtain ⟨i1, i2, i3, i4, i5⟩ := ko_eq hw h16 hz T (by omega)
    rw [it_succ, it_succ, i1]
    revert i2 i3 i4 i5
    generalize it (koF (w + 1)) T (y, 0) = s
    intro i2 i3 i4 i5
    have zr : ZT (fun k => s.1 (T * 16 + k)) := ZT_cg (fun k _ => i4 (T * 16 + k) (by omega)) (hz T (by omega))
    have e := ps_eq zr (fun k => i3 _) hw
    unfold koM koF
    rw [e, show (fun k => s.1 (16 * T + k)) = (fun k => s.1 (T * 16 + k)) from funext (fun k => by rw [Nat.mul_comm])]
    cases mpB w (fun k => s.1 (T * 16 + k)) with
    | false =>
      rw [cond_false]
      exact ⟨rfl, by omega, i3, fun j hj => i4 j (by omega), i5⟩
    | true =>
      rw [cond_true]
      refine ⟨rfl, by show s.2 + 1 ≤ T + 1; omega, fun k => ?_, fun j hj => ?_, fun i hi => ?_⟩
      · show cpR s.1 T s.2 k ≤ 16
        unfold cpR
        by_cases q : s.2 * 16 ≤ k ∧ k < s.2 * 16 + 16
        · rw [if_pos q]; exact i3 _
        · rw [if_neg q]; exact i3 _
      · show cpR s.1 T s.2 j = y j
        unfold cpR
        rw [if_neg (by omega)]
        exact i4 j (by omega)
      · have hi : i < s.2 + 1 := hi
        by_cases q : i = s.2
        · refine ZT_cg (fun k hk => ?_) zr
          show cpR s.1 T s.2 (i * 16 + k) = s.1 (T * 16 + k)
          unfold cpR
          rw [if_pos (by omega), show i * 16 + k - s.2 * 16 = k by omega]
        · refine ZT_cg (fun k hk => ?_) (i5 i (by omega))
          show cpR s.1 T s.2 (i * 16 + k) = s.1 (i * 16 + k)
          unfold cpR
          rw [if_neg (by omega)]
theorem rr_flt {K : KV} {z : MZ} (h : RR K z) : Sm K z (oFlt K) (qFlt z) := by
  have hc := h.clr
  obtain ⟨h1, h2, ⟨p1, p2, p3, p4, p5⟩, ⟨n1, n2, n3, n4⟩, h5, h6, h7, h8⟩ := h
  unfold oFlt qFlt
  rw [n1, n2, p1, p2]
  rcases wi_eq K.2.2.2.2.2.2.1.1 K.2.2.2.2.2.2.1.2 with ⟨e1, e2⟩ | ⟨w, hw, e1, e2⟩
  · rw [e1, e2, if_pos rfl, if_neg (by decide)]
    exact ⟨rfl, hc⟩
  · rw [e1, e2, if_neg (by omega), if_pos (nI_ge0 (by omega)), iN_nI (by omega)]
    obtain ⟨i1, i2, i3, i4, i5⟩ := ko_eq hw p4 p5 K.2.2.2.2.2.1.1 (Nat.le_refl _)
    rw [i1]
    revert i2 i3 i4 i5
    generalize it (koF (w + 1)) K.2.2.2.2.2.1.1 (K.2.2.2.2.2.1.2, 0) = s
    intro i2 i3 i4 i5
    refine ⟨rfl, ?_⟩
    simp only [RR, kPt, kIn, s_hfp, R2, R3]
    exact ⟨h1, h2, ⟨trivial, trivial, by omega, i3, i5⟩, ⟨trivial, n2, Nat.zero_le _, n4⟩, h5, h6, h7, h8⟩
theorem rr_lst {K : KV} {z : MZ} (h : RR K z) (x : Int32) : Sm K z (oLst K x) (qLst z x) := by
  have hs := h
  obtain ⟨h1, h2, ⟨p1, p2, p3, p4, p5⟩, h4, h5, h6, h7, h8⟩ := h
  unfold oLst qLst
  rw [btw_rg (x := x) (p := nI 1) (q := nI 16) (by decide) (by decide), p2]
  by_cases q1 : x < nI 1
  · rw [if_pos q1, if_pos q1]; exact .same hs _
  · rw [if_neg q1, if_neg q1]
    by_cases q2 : x ≤ nI 16
    · rw [if_pos q2, if_pos q2, ← ysF_ls]
      have hx : 1 ≤ iN x ∧ iN x ≤ 16 := by
        rw [Int32.lt_iff_toInt_lt, show (nI 1).toInt = 1 by decide] at q1
        rw [Int32.le_iff_toInt_le, show (nI 16).toInt = 16 by decide] at q2
        unfold iN
        omega
      have hp := pcN_b hx.2
      obtain ⟨ra, _, _⟩ := rw_all hx.1 hx.2
      have e : 1 + (pcN (iN x) - 1) = pcN (iN x) - 1 + 1 := by omega
      have r16 : ∀ k, ysF (iN x) K.2.2.2.2.2.1.2 (pcN (iN x) - 1) k ≤ 16 := fun k => by
        by_cases q : k < (pcN (iN x) - 1 + 1) * 16
        · have := ysF_row (iN x) K.2.2.2.2.2.1.2 (pcN (iN x) - 1) (k / 16) (k % 16) (by omega) (Nat.mod_lt _ (by decide))
          rw [show k / 16 * 16 + k % 16 = k by omega] at this
          rw [this]
          exact (ra (k / 16) (by omega)).1.1 _ (Nat.mod_lt _ (by decide))
        · rw [ysF_out _ _ _ _ (by omega)]; exact p4 k
      have rz : ∀ i, i < pcN (iN x) - 1 + 1 → ZT (fun k => ysF (iN x) K.2.2.2.2.2.1.2 (pcN (iN x) - 1) (i * 16 + k)) := fun i hi => ZT_cg (fun k hk => ysF_row _ _ _ i k (by omega) hk) (ra i (by omega)).2
      rw [e]
      revert r16 rz
      generalize ysF (iN x) K.2.2.2.2.2.1.2 (pcN (iN x) - 1) = Y
      intro r16 rz
      refine ⟨rfl, ?_⟩
      simp only [RR, kPt, s_lp, R2]
      exact ⟨h1, h2, ⟨trivial, trivial, by omega, r16, rz⟩, h4, h5, h6, h7, h8⟩
    · rw [if_neg q2, if_neg q2]; exact .same hs _
theorem rr_prt {K : KV} {z : MZ} (h : RR K z) (x y : Int32) : oPrt K x y = qPrt z x y := by
  obtain ⟨p1, p2, p3, p4, p5⟩ := h.2.2.1
  unfold oPrt qPrt
  rw [p1, p2]
  by_cases h1 : x < 0
  · rw [if_pos h1, if_pos h1]
  · rw [if_neg h1, if_neg h1]
    by_cases h2 : 0 ≤ y
    · rw [if_pos h2, if_pos h2]
      by_cases h3 : K.2.2.2.2.2.1.1 ≤ iN x
      · rw [if_pos h3, if_neg (by omega)]
      · rw [if_neg h3, if_pos (show iN x < K.2.2.2.2.2.1.1 by omega)]
        have hz := p5 (iN x) (by omega)
        have er : (fun k => K.2.2.2.2.2.1.2 (16 * iN x + k)) = (fun k => K.2.2.2.2.2.1.2 (iN x * 16 + k)) := funext (fun k => by rw [Nat.mul_comm])
        rw [er, Nat.mul_comm 16]
        have hle := pcF_le (fun k => K.2.2.2.2.2.1.2 (iN x * 16 + k))
        by_cases h4 : iN y < 16
        · rw [if_pos h4]
          have w := pc_iff hz h4
          by_cases h5 : K.2.2.2.2.2.1.2 (iN x * 16 + iN y) = 0
          · rw [if_pos h5, if_neg (fun q => by
              have : 0 < K.2.2.2.2.2.1.2 (iN x * 16 + iN y) := w.mp q
              omega)]
          · rw [if_neg h5, if_pos (w.mpr (by
              show 0 < K.2.2.2.2.2.1.2 (iN x * 16 + iN y)
              omega))]
        · rw [if_neg h4, if_neg (by omega)]
    · rw [if_neg h2, if_neg h2]
theorem rr_cnt {K : KV} {z : MZ} (_ : RR K z) (x m y : Int32) : oCnt K x m y = qCnt z x m y := by
  unfold oCnt qCnt
  rw [btw_rg (x := x) (p := 0) (q := nI 60) (by decide) (by decide), rs_eq]
  by_cases h1 : x < 0
  · rw [if_pos h1, if_pos h1]
  · rw [if_neg h1, if_neg h1]
    by_cases h2 : x ≤ nI 60
    · rw [if_pos h2, if_neg (fun q => lt_nle.mp q h2)]
      cases rsB m y with
      | false => rw [cond_false, cond_false]
      | true =>
        rw [cond_true, cond_true]
        refine it_agree (N := iN x + 1) (fun t a b ht hab k hk => ?_) (fun k hk => ?_) (iN x) (Nat.lt_succ_self _)
        · cases inS (nI (1 + t)) m y with
          | false => exact hab k hk
          | true => exact ovF_agree hab k hk
        · unfold cz0 oneF
          rw [if_pos hk]
          by_cases e : k = 0
          · rw [e, pk_uLs, if_pos rfl]
          · rw [pk_uLn e, if_neg e]
    · rw [if_neg h2, if_pos (lt_nle.mpr h2)]
/-- the beginning -/
theorem rr_beg : RR kBeg mBeg := by
  have e := unA_fl (N := 12) (r := 0) (f := fun _ => 0) (by decide) (by decide) (by decide)
  have e1 : Fl 5 (unA 12 0) (cp120 (naZ 12 0 oneF (fun _ => 0) 5) 0 (fun _ => 0) 0) := e.1.cp
  have e2 : Fl 5 uBe (cp120 oneF 0 (fun _ => 0) 0) := one_fl.cp
  revert e1 e2
  unfold mBeg unZ mBeg0
  simp only [RR, kBeg, s_tnp, s_ss, R1, SI]
  intro e1 e2
  exact ⟨⟨trivial, trivial, trivial, trivial, fun _ _ _ _ => rfl, e1, e2, fun i hi => absurd hi (Nat.not_lt_zero _)⟩, ⟨by decide, by decide, Nat.zero_le _, Nat.zero_le _, fun t _ => ⟨fun _ _ => rfl, fun _ => rg0⟩, e.2, fun i hi => absurd hi (Nat.not_lt_zero _)⟩, ⟨rfl, rfl, Nat.zero_le _, fun _ => Nat.zero_le _, fun i hi => absurd hi (Nat.not_lt_zero _)⟩, ⟨rfl, rfl, Nat.zero_le _, fun _ => by show 0 < 128; decide⟩, ⟨rfl, rfl, Nat.zero_le _⟩, fun t _ => ⟨by show 0 < 4; decide, .inl ⟨rfl, rfl⟩⟩, ⟨rfl, fun q => absurd q (by decide)⟩, fun _ _ => rfl, fun _ _ => rfl⟩
