/-! storing a register on both sides -/
theorem RR.n {K : KV} {z : MZ} (h : RR K z) : z.1 = K.2.1.1 := h.1.1
theorem RR.r {K : KV} {z : MZ} (h : RR K z) : z.2.1 = K.2.1.2.2.1.1 := h.1.2.1
theorem RR.fr {K : KV} {z : MZ} (h : RR K z) : Fl 6 K.2.1.2.1 z.2.2.2.2.2.2.2.2.2.2.2.1 := h.1.2.2.2.2.1
theorem RR.fa {K : KV} {z : MZ} (h : RR K z) : Fl 5 K.2.1.2.2.1.2.1 z.2.2.2.2.2.2.2.2.2.2.2.2.1 := h.1.2.2.2.2.2.1
theorem RR.fb {K : KV} {z : MZ} (h : RR K z) : Fl 5 K.2.1.2.2.1.2.2 z.2.2.2.2.2.2.2.2.2.2.2.2.2.1 := h.1.2.2.2.2.2.2.1
theorem RR.n4 {K : KV} {z : MZ} (h : RR K z) : 4 ≤ K.2.1.1 := h.2.1.1
theorem RR.n24 {K : KV} {z : MZ} (h : RR K z) : K.2.1.1 ≤ 24 := h.2.1.2.1
theorem RR.r1 {K : KV} {z : MZ} (h : RR K z) : K.2.1.2.2.1.1 ≤ 1 := h.2.1.2.2.1
theorem RR.row {K : KV} {z : MZ} (h : RR K z) {t : Nat} (ht : t < 6) : RowOk K.2.1.1 (K.2.1.2.1 t) := h.2.1.2.2.2.2.1 t ht
theorem RR.pair {K : KV} {z : MZ} (h : RR K z) : PvOk K.2.1.1 K.2.1.2.2.1 := h.2.1.2.2.2.2.2.1
theorem RR.setRg {K : KV} {z : MZ} (h : RR K z) {rg : Nat → Nat → Int32} {f : Nat → Int64} (hf : Fl 6 rg f) (ho : ∀ t, t < 6 → RowOk K.2.1.1 (rg t)) : RR (kRg K rg) (s_fr z f) := by
  obtain ⟨⟨a0, a1, a2, a3, a4, a5, a6, a7⟩, ⟨b0, b1, b2, b3, b4, b5, b6⟩, h2, h3, h4, h5, h6, h7⟩ := h
  simp only [RR, kRg, s_fr, R1, SI]
  exact ⟨⟨a0, a1, a2, a3, hf, a5, a6, a7⟩, ⟨b0, b1, b2, b3, ho, b5, b6⟩, h2, h3, h4, h5, h6, h7⟩
theorem Sv.f1 {z : MZ} {c : Nat → Int64} : Sv (s_f1 z c) z := by simp only [Sv, s_f1, and_self]
theorem Sv.f1' {z : MZ} {c f : Nat → Int64} : Sv (s_fr (s_f1 z c) f) (s_fr z f) := by simp only [Sv, s_f1, s_fr, and_self]
theorem allB_pad {p p' : Nat → Bool} {n : Nat} : ∀ {m : Nat}, (∀ k, k < n → p' k = p k) → (∀ k, n ≤ k → k < n + m → p' k = true) → allB p' (n + m) = allB p n
  | 0, h, _ => allB_cong h
  | m + 1, h, h0 => by
    show (allB p' (n + m) && p' (n + m)) = _
    rw [h0 (n + m) (by omega) (by omega), Bool.and_true]
    exact allB_pad h (fun k h1 h2 => h0 k h1 (by omega))
theorem inR_0 : inR 0 = true := by decide
theorem fit_pad {N : Nat} {c c' : Nat → Int64} (hN : N ≤ 24) (e : ∀ k, k < N → c' k = c k) (e0 : ∀ k, N ≤ k → k < 24 → c' k = 0) : fitB 24 c' = fitB N c := by
  have := allB_pad (p := fun k => inR (c k)) (p' := fun k => inR (c' k)) (n := N) (m := 24 - N) (fun k hk => by rw [e k hk]) (fun k h1 h2 => by rw [e0 k h1 (by omega)]; exact inR_0)
  rw [show N + (24 - N) = 24 by omega] at this
  exact this
theorem cntN_cg {p p' : Nat → Bool} {n : Nat} (h : ∀ k, k < n → p k = p' k) : cntN p n = cntN p' n := it_cong (fun j s hj => by unfold cntF; rw [h j hj])
theorem i64_0 {x : Int32} : x.toInt64 = 0 ↔ x = 0 := by
  constructor
  · intro h
    have := congrArg Int64.toInt h
    rw [Int32.toInt_toInt64] at this
    exact Int32.toInt_inj.mp this
  · intro h; rw [h]; rfl
theorem i64_inj {x y : Int32} : x.toInt64 = y.toInt64 ↔ x = y := by
  constructor
  · intro h
    have := congrArg Int64.toInt h
    rw [Int32.toInt_toInt64, Int32.toInt_toInt64] at this
    exact Int32.toInt_inj.mp this
  · intro h; rw [h]
theorem inR_rg {x : Int64} (h : inR x = true) : rgI x.toInt32 := by
  have h1 := inR_t32 h
  have h2 := congrArg Int64.toInt h1
  rw [Int32.toInt_toInt64] at h2
  unfold inR at h
  rw [Bool.and_eq_true, decide_eq_true_eq, decide_eq_true_eq, Int64.le_iff_toInt_le, Int64.le_iff_toInt_le] at h
  unfold rgI
  rw [h2]
  exact h
theorem wrT_ok {N : Nat} {c : Nat → Int64} (h : fitB N c = true) : RowOk N (wrT N c) := by
  refine ⟨fun k hk => ?_, fun k => ?_⟩
  · unfold wrT; rw [if_neg (by omega)]
  · unfold wrT
    by_cases q : k < N
    · rw [if_pos q]; exact inR_rg (allB_iff.mp h k q)
    · rw [if_neg q]; exact ⟨by decide, by decide⟩
theorem wrT_at {N : Nat} {c c' : Nat → Int64} (h : fitB N c = true) (e : ∀ k, k < N → c' k = c k) (e0 : ∀ k, N ≤ k → k < 24 → c' k = 0) {k : Nat} (hk : k < 24) : c' k = (wrT N c k).toInt64 := by
  unfold wrT
  by_cases q : k < N
  · rw [if_pos q, inR_t32 (allB_iff.mp h k q), e k q]
  · rw [if_neg q, e0 k (by omega) hk]; rfl
theorem Fl.st {m : Nat} {rows : Nat → Nat → Int32} {f : Nat → Int64} (h : Fl m rows f) {t : Nat} {a : Nat → Int32} {c : Nat → Int64} (hc : ∀ k, k < 24 → c k = (a k).toInt64) : Fl m (va_up rows t a) (stR f t c) := fun s k hs hk => by
  unfold stR
  by_cases e : s = t
  · subst e
    rw [va_up_self, if_pos (by omega), show 24 * s + k - 24 * s = k by omega]
    exact hc k hk
  · rw [va_up_ne _ _ e, if_neg (by omega)]
    exact h s k hs hk
theorem up_ok {N m : Nat} {rows : Nat → Nat → Int32} (h : ∀ t, t < m → RowOk N (rows t)) {t : Nat} {a : Nat → Int32} (ha : RowOk N a) : ∀ s, s < m → RowOk N (va_up rows t a s) := fun s hs => by
  by_cases e : s = t
  · rw [e, va_up_self]; exact ha
  · rw [va_up_ne _ _ e]; exact h s hs
def EQ (N : Nat) (c c' : Nat → Int64) : Prop := (∀ k, k < N → c' k = c k) ∧ ∀ k, N ≤ k → k < 24 → c' k = 0
theorem sto_rr {K : KV} {z : MZ} (h : RR K z) {c c' : Nat → Int64} {t : Nat} (e : EQ K.2.1.1 c c') : (kp K c t).1 = (sto z c' t).1 ∧ RR (kp K c t).2 (sto z c' t).2 := by
  have hf := fit_pad h.n24 e.1 e.2
  have e1 : kp K c t = (bif fitB K.2.1.1 c then (nzN K.2.1.1 (wrT K.2.1.1 c), kRg K (va_up K.2.1.2.1 t (wrT K.2.1.1 c))) else (-3, K)) := by
    unfold kp kpR
    cases fitB K.2.1.1 c <;> rfl
  have e2 : sto z c' t = (bif fitB 24 c' then (nI (nzL z.1 c'), s_fr (s_f1 z c') (stR z.2.2.2.2.2.2.2.2.2.2.2.1 t c')) else (-3, s_f1 z c')) := by
    unfold sto stV stZ
    show (bif fitB 24 c' then _ else _, bif fitB 24 c' then _ else _) = _
    cases fitB 24 c' <;> rfl
  rw [e1, e2, hf]
  cases q : fitB K.2.1.1 c with
  | false => exact ⟨rfl, h.sv Sv.f1⟩
  | true =>
    refine ⟨?_, RR.sv ?_ Sv.f1'⟩
    · show nzN _ _ = nI _
      unfold nzN nzL
      rw [h.n]
      exact congrArg nI (cntN_cg (fun k hk => by
        rw [wrT_at q e.1 e.2 (Nat.lt_of_lt_of_le hk h.n24)]
        exact decide_eq_decide.mpr (not_congr i64_0.symm)))
    · exact h.setRg (h.fr.st (fun k hk => wrT_at q e.1 e.2 hk)) (up_ok (fun t ht => h.row ht) (wrT_ok q))
