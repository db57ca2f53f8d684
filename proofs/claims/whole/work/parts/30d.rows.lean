/-! the rows of the partition list: RwOk, PtOk -/
theorem lpL_lp (l : List Nat) : ∀ (m : List Nat) (i r : Nat), (∀ k, k < m.length → m.getD k 0 = l.getD (i + k) 0) → r = lpN (fzN l) i → lpL m i r = lpN (fzN l) (i + m.length)
  | [], i, r, _, h => h
  | x :: m, i, r, hm, h => by
    have hx : x = fzN l i := by
      have := hm 0 (Nat.succ_pos _)
      rw [Nat.add_zero] at this
      exact this
    rw [lpL, lpL_lp l m (i + 1) _ (fun k hk => by
      have := hm (k + 1) (by simp; omega)
      rw [show i + 1 + k = i + (k + 1) by omega, ← this]
      rfl) (by
      rw [lpN]
      by_cases q : 1 < fzN l i
      · rw [if_pos q, hx, show Nat.ble 2 (fzN l i) = true from Nat.ble_eq_true_of_le q]; rfl
      · rw [if_neg q, hx, show Nat.ble 2 (fzN l i) = false from by
          cases e : Nat.ble 2 (fzN l i) with
          | false => rfl
          | true => exact absurd (Nat.le_of_ble_eq_true e) q, ← h]; rfl)]
    rw [List.length_cons, show i + 1 + m.length = i + (m.length + 1) by omega]
theorem smL_sm (l : List Nat) : ∀ (m : List Nat) (i : Nat), (∀ k, k < m.length → m.getD k 0 = l.getD (i + k) 0) → smL m = smN (fzN l) i m.length
  | [], i, _ => rfl
  | x :: m, i, hm => by
    have hx : x = fzN l i := by
      have := hm 0 (Nat.succ_pos _)
      rw [Nat.add_zero] at this
      exact this
    rw [smL, smL_sm l m (i + 1) (fun k hk => by
      have := hm (k + 1) (by simp; omega)
      rw [show i + 1 + k = i + (k + 1) by omega, ← this]
      rfl), List.length_cons, smN_c, hx]
theorem nxL_at (l : List Nat) (p M S : Nat) : ∀ (m : List Nat) (i k : Nat), k < m.length → (nxL l p M S i m).getD k 0 = if i + k < p then m.getD k 0 else min M (S - M * (i + k - p))
  | [], i, k, h => by simp at h
  | x :: m, i, 0, _ => by
    show (bif Nat.blt i p then x else min M (S - M * (i - p))) = _
    by_cases q : i < p
    · rw [if_pos (show i + 0 < p from q), show Nat.blt i p = true from Nat.ble_eq_true_of_le q]; rfl
    · rw [if_neg (show ¬ i + 0 < p from q), show Nat.blt i p = false from by
        cases e : Nat.blt i p with
        | false => rfl
        | true => exact absurd (Nat.le_of_ble_eq_true e) q]; rfl
  | x :: m, i, k + 1, h => by
    show (nxL l p M S (i + 1) m).getD k 0 = _
    rw [nxL_at l p M S m (i + 1) k (by simp at h; omega), show i + 1 + k = i + (k + 1) by omega]
    rfl
theorem nxL_len (l : List Nat) (p M S : Nat) : ∀ (m : List Nat) (i : Nat), (nxL l p M S i m).length = m.length
  | [], _ => rfl
  | x :: m, i => by
    show (nxL l p M S (i + 1) m).length + 1 = m.length + 1
    rw [nxL_len l p M S m (i + 1)]
theorem getD_drop (l : List Nat) (i k : Nat) : (l.drop i).getD k 0 = l.getD (i + k) 0 := by
  rw [List.getD_eq_getElem?_getD, List.getD_eq_getElem?_getD, List.getElem?_drop]
theorem nxt_fz {l : List Nat} (hl : l.length = 16) {k : Nat} (hk : k < 16) : fzN (nxtL l) k = nxF (fzN l) k := by
  have h1 : lpL l 0 0 = lpN (fzN l) 16 := by
    have := lpL_lp l l 0 0 (fun k _ => by rw [Nat.zero_add]) rfl
    rw [hl] at this
    simpa using this
  have hlp := lpN_le (fzN l) 16
  have h2 : smL (l.drop (lpN (fzN l) 16 - 1)) = smN (fzN l) (lpN (fzN l) 16 - 1) (16 - (lpN (fzN l) 16 - 1)) := by
    rw [smL_sm l _ (lpN (fzN l) 16 - 1) (fun k _ => getD_drop l _ k), List.length_drop, hl]
  show (nxtL l).getD k 0 = _
  unfold nxtL
  rw [h1, h2, nxL_at l _ _ _ l 0 k (by omega), Nat.zero_add]
  rfl
theorem nxt_len {l : List Nat} (hl : l.length = 16) : (nxtL l).length = 16 := by
  unfold nxtL
  rw [nxL_len]
  exact hl
theorem okL_sp : ∀ (l : List Nat) (p : Nat), okL l p = true → (∀ k, l.getD k 0 ≤ 16) ∧ (∀ j k, j ≤ k → l.getD j 0 = 0 → l.getD k 0 = 0)
  | [], _, _ => ⟨fun k => by simp, fun j k _ _ => by simp⟩
  | x :: l, p, h => by
    rw [okL, Bool.and_eq_true, Bool.and_eq_true] at h
    obtain ⟨h1, h2, h3⟩ := h
    obtain ⟨q1, q2⟩ := okL_sp l p h3
    refine ⟨fun k => ?_, fun j k hjk hj => ?_⟩
    · cases k with
      | zero => exact Nat.le_of_ble_eq_true h1
      | succ k => exact q1 k
    · cases j with
      | zero =>
        have hx : x = 0 := hj
        cases k with
        | zero => exact hx
        | succ k =>
          have h4 : smL l = 0 := by
            cases e : Nat.ble 1 x with
            | true => have := Nat.le_of_ble_eq_true e; omega
            | false => rw [e, Bool.false_or] at h2; exact Nat.eq_of_beq_eq_true h2
          have h5 : ∀ (l : List Nat), smL l = 0 → ∀ k, l.getD k 0 = 0 := by
            intro l
            induction l with
            | nil => intro _ k; simp
            | cons y l ih =>
              intro hs k
              rw [smL] at hs
              cases k with
              | zero => show y = 0; omega
              | succ k => exact ih (by omega) k
          exact h5 l h4 k
      | succ j =>
        cases k with
        | zero => omega
        | succ k => exact q2 j k (by omega) hj
/-- zeros stand at the end -/
def ZT (z : Nat → Nat) : Prop := ∀ j k, j ≤ k → k < 16 → z j = 0 → z k = 0
theorem lpN_cg {z z' : Nat → Nat} {n : Nat} (h : ∀ k, k < n → z k = z' k) : lpN z n = lpN z' n := lpN_cong h
theorem smN_cg {z z' : Nat → Nat} : ∀ {l n : Nat}, (∀ k, l ≤ k → k < l + n → z k = z' k) → smN z l n = smN z' l n
  | l, 0, _ => rfl
  | l, n + 1, h => by rw [smN_s, smN_s, smN_cg (fun k h1 h2 => h k h1 (by omega)), h (l + n) (by omega) (by omega)]
theorem nxF_cg {z z' : Nat → Nat} (h : ∀ k, k < 16 → z k = z' k) {k : Nat} (hk : k < 16) : nxF z k = nxF z' k := by
  unfold nxF
  have h1 := lpN_le z' 16
  rw [lpN_cg h]
  by_cases h0 : lpN z' 16 = 0
  · rw [h0, h 0 (by decide), smN_cg (fun k _ h2 => h k (by omega)), h k hk]
  · rw [h (lpN z' 16 - 1) (by omega), smN_cg (fun k _ h2 => h k (by omega)), h k hk]
theorem chk_sp : ∀ (T : Nat) (l : List Nat) (z : Nat → Nat), l.length = 16 → (∀ k, k < 16 → z k = fzN l k) → chkL T l = true → (∀ t, t ≤ T → VR (it (fun _ z => nxF z) t z) ∧ ZT (it (fun _ z => nxF z) t z)) ∧ (∀ t, t < T → lpN (it (fun _ z => nxF z) t z) 16 ≠ 0) ∧ lpN (it (fun _ z => nxF z) T z) 16 = 0 := by
  intro T l z hl hz h
  have vr : ∀ (l : List Nat) (z : Nat → Nat), l.length = 16 → (∀ k, k < 16 → z k = fzN l k) → okL l 0 = true → Nat.ble (smL l) 16 = true → VR z ∧ ZT z := by
    intro l z hl hz h1 h2
    obtain ⟨q1, q2⟩ := okL_sp l 0 h1
    have hzt : ZT z := fun j k hjk hk hj => by
      rw [hz k hk]
      exact q2 j k hjk (by rw [hz j (by omega)] at hj; exact hj)
    refine ⟨⟨fun k hk => by rw [hz k hk]; exact q1 k, fun j hj => ?_, ?_⟩, hzt⟩
    · have hle := lpN_le z 16
      have hgt := lpN_gt z 16 (by omega)
      by_cases e : z j = 0
      · have := hzt j (lpN z 16 - 1) (by omega) (by omega) e
        omega
      · omega
    · have := smL_sm l l 0 (fun k _ => by rw [Nat.zero_add])
      rw [hl] at this
      rw [smN_cg (z' := fzN l) (fun k _ hk => hz k (by omega)), ← this]
      exact Nat.le_of_ble_eq_true h2
  have lp : ∀ (l : List Nat) (z : Nat → Nat), l.length = 16 → (∀ k, k < 16 → z k = fzN l k) → lpL l 0 0 = lpN z 16 := by
    intro l z hl hz
    have := lpL_lp l l 0 0 (fun k _ => by rw [Nat.zero_add]) rfl
    rw [hl] at this
    rw [this, lpN_cg hz]
  have shift : ∀ (t : Nat) (z : Nat → Nat), it (fun _ z => nxF z) (t + 1) z = it (fun _ z => nxF z) t (nxF z) := by
    intro t
    induction t with
    | zero => intro z; rfl
    | succ t ih => intro z; show nxF (it _ (t + 1) z) = nxF (it _ t (nxF z)); rw [ih]
  induction T generalizing l z with
  | zero =>
    rw [chkL, Bool.and_eq_true, Bool.and_eq_true] at h
    refine ⟨fun t ht => ?_, fun t ht => absurd ht (Nat.not_lt_zero t), ?_⟩
    · rw [show t = 0 by omega]; exact vr l z hl hz h.1 h.2.1
    · show lpN z 16 = 0; rw [← lp l z hl hz]; exact Nat.eq_of_beq_eq_true h.2.2
  | succ T ih =>
    rw [chkL, Bool.and_eq_true, Bool.and_eq_true, Bool.and_eq_true] at h
    obtain ⟨h1, h2, h3, h4⟩ := h
    obtain ⟨a, b, c⟩ := ih (nxtL l) (nxF z) (nxt_len hl) (fun k hk => by rw [nxt_fz hl hk]; exact nxF_cg hz hk) h4
    refine ⟨fun t ht => ?_, fun t ht => ?_, by rw [shift]; exact c⟩
    · cases t with
      | zero => exact vr l z hl hz h1 h2
      | succ t => rw [shift]; exact a t (by omega)
    · cases t with
      | zero => show lpN z 16 ≠ 0; rw [← lp l z hl hz]; have := Nat.le_of_ble_eq_true h3; omega
      | succ t => rw [shift]; exact b t (by omega)
theorem chk_all : ∀ m : Nat, m < 17 → 1 ≤ m → chkL (pcN m - 1) (rowL m) = true := by decide +kernel
theorem rowL_fz {m k : Nat} (hk : k < 16) : row0 m k = fzN (rowL m) k := by
  match k, hk with
  | 0, _ => rfl
  | 1, _ => rfl
  | 2, _ => rfl
  | 3, _ => rfl
  | 4, _ => rfl
  | 5, _ => rfl
  | 6, _ => rfl
  | 7, _ => rfl
  | 8, _ => rfl
  | 9, _ => rfl
  | 10, _ => rfl
  | 11, _ => rfl
  | 12, _ => rfl
  | 13, _ => rfl
  | 14, _ => rfl
  | 15, _ => rfl
  | k + 16, h => omega
theorem rw_all {m : Nat} (h1 : 1 ≤ m) (h : m ≤ 16) : (∀ t, t ≤ pcN m - 1 → VR (rwF m t) ∧ ZT (rwF m t)) ∧ (∀ t, t < pcN m - 1 → lpN (rwF m t) 16 ≠ 0) ∧ lpN (rwF m (pcN m - 1)) 16 = 0 := chk_sp (pcN m - 1) (rowL m) (row0 m) rfl (fun k hk => rowL_fz hk) (chk_all m (by omega) h1)
theorem rwOk : RwOk := fun m h1 h => by
  obtain ⟨a, b, c⟩ := rw_all h1 h
  have := pcN_b h
  exact ⟨fun t ht => (a t (by omega)).1, b, c⟩
/-- the class's list has the same rows -/
theorem ysF_row (m : Nat) (y : Nat → Nat) : ∀ (t i k : Nat), i ≤ t → k < 16 → ysF m y t (i * 16 + k) = rwF m i k
  | 0, i, k, hi, hk => by
    rw [show i = 0 by omega, Nat.zero_mul, Nat.zero_add]
    show ffT y 0 0 m m 16 k = row0 m k
    unfold ffT row0
    rw [if_pos (by omega)]
    by_cases e : k = 0
    · subst e; rw [if_pos rfl]; simp
    · rw [if_neg e, show k - (0 * 16 + 0) = k by omega]
      have : m * 1 ≤ m * k := Nat.mul_le_mul_left m (by omega)
      omega
  | t + 1, i, k, hi, hk => by
    show mkN (ysF m y t) (1 + t) (i * 16 + k) = _
    unfold mkN
    by_cases e : i = t + 1
    · subst e
      rw [if_pos (by omega), show (t + 1) * 16 + k - (1 + t) * 16 = k by omega, show 1 + t - 1 = t by omega]
      show nxF _ k = nxF (rwF m t) k
      exact nxF_cg (fun j hj => ysF_row m y t t j (Nat.le_refl _) hj) hk
    · rw [if_neg (by omega)]
      exact ysF_row m y t i k (by omega) hk
theorem ysF_out (m : Nat) (y : Nat → Nat) : ∀ (t j : Nat), (t + 1) * 16 ≤ j → ysF m y t j = y j
  | 0, j, h => by
    show ffT y 0 0 m m 16 j = y j
    unfold ffT
    rw [if_neg (by omega)]
  | t + 1, j, h => by
    show mkN (ysF m y t) (1 + t) j = _
    unfold mkN
    rw [if_neg (by omega)]
    exact ysF_out m y t j (by omega)
theorem ysF_ls (m : Nat) (y : Nat → Nat) (T : Nat) : ysF m y T = lsI y (rwF m) (T + 1) 0 := by
  funext j
  unfold lsI
  by_cases h : j < 16 * (T + 1) + 0
  · rw [if_pos h]
    have := ysF_row m y T (j / 16) (j % 16) (by omega) (Nat.mod_lt _ (by decide))
    rw [show j / 16 * 16 + j % 16 = j by omega] at this
    exact this
  · rw [if_neg h]
    exact ysF_out m y T j (by omega)
theorem ptOk : PtOk := fun m y h1 h => by
  obtain ⟨a, b, c⟩ := rw_all h1 h
  have hp := pcN_b h
  refine ⟨fun t ht => ?_, fun _ => ?_⟩
  · rw [lpN_cg (z' := rwF m t) (fun k hk => by rw [show 1 + t - 1 = t by omega]; exact ysF_row m y t t k (Nat.le_refl _) hk)]
    exact b t ht
  · rw [lpN_cg (z' := rwF m (pcN m - 1)) (fun k hk => by rw [show 1 + (pcN m - 1) - 1 = pcN m - 1 by omega]; exact ysF_row m y _ _ k (Nat.le_refl _) hk)]
    exact c
