/-! the relation between the class's state and the model's -/
def Fl (m : Nat) (rows : Nat → Nat → Int32) (f : Nat → Int64) : Prop := ∀ t k : Nat, t < m → k < 24 → f (24 * t + k) = (rows t k).toInt64
def RowOk (N : Nat) (a : Nat → Int32) : Prop := (∀ k, N ≤ k → a k = 0) ∧ ∀ k, rgI (a k)
/-- a state against flat rows -/
def R1 (v : SV) (rem : Nat → PV) (n r : Nat) (len : Int32) (m : Nat) (fr fa fb fe : Nat → Int64) : Prop :=
  n = v.1 ∧ r = v.2.2.1.1 ∧ len = v.2.2.2.1 ∧ m = v.2.2.2.2 ∧ Fl 6 v.2.1 fr ∧ Fl 5 v.2.2.1.2.1 fa ∧ Fl 5 v.2.2.1.2.2 fb ∧ ∀ i, i < v.2.2.2.2 → Fl 5 (rem i).2.1 (fun j => fe (240 * i + j)) ∧ Fl 5 (rem i).2.2 (fun j => fe (240 * i + 120 + j))
def PvOk (N : Nat) (p : PV) : Prop := ∀ t, t < 5 → RowOk N (p.2.1 t) ∧ RowOk N (p.2.2 t)
def SI (v : SV) (rem : Nat → PV) : Prop := 4 ≤ v.1 ∧ v.1 ≤ 24 ∧ v.2.2.1.1 ≤ 1 ∧ v.2.2.2.2 ≤ 8 ∧ (∀ t, t < 6 → RowOk v.1 (v.2.1 t)) ∧ PvOk v.1 v.2.2.1 ∧ ∀ i, i < v.2.2.2.2 → (rem i).1 = v.2.2.1.1 ∧ PvOk v.1 (rem i)
theorem SI.ok {v : SV} {rem : Nat → PV} (h : SI v rem) : SOk v := ⟨h.1, h.2.1, h.2.2.1⟩
def R2 (pt : Nat × (Nat → Nat)) (pc : Nat) (fp : Nat → Nat) : Prop := pc = pt.1 ∧ fp = pt.2 ∧ pt.1 ≤ 231 ∧ (∀ k, pt.2 k ≤ 16) ∧ ∀ i, i < pt.1 → ZT (fun k => pt.2 (i * 16 + k))
def R3 (inp : Nat × (Nat → Nat)) (hd : Nat) (fi : Nat → Nat) : Prop := hd = inp.1 ∧ fi = inp.2 ∧ inp.1 ≤ 60 ∧ ∀ k, inp.2 k < 128
def R4 (out : BV) (wr : Nat) (fo : Nat → Int32) : Prop := wr = out.1 ∧ fo = out.2 ∧ out.1 ≤ 336
def R5 (sl : Nat → SlV) (st : Nat → Nat) (ss : Nat → Int32) (fl : Nat → Int64) : Prop := ∀ t, t < 4 → st t < 4 ∧ (((sl t).1 = false ∧ ss t = -1) ∨ ((sl t).1 = true ∧ ss t = nI (sl t).2.2.1 ∧ (sl t).2.2.1 ≤ 40 ∧ st t = (sl t).2.1 ∧ ∀ j, j < 40 → fl (40 * t + j) = (sl t).2.2.2 j))
def R6 (b : Bool) (v : SV) (rem : Nat → PV) (hs : Bool) (fs : Nat → Int64) : Prop := hs = b ∧ (b = true → SI v rem ∧ fs 0 = (nI v.1).toInt64 ∧ fs 1 = (nI v.2.2.1.1).toInt64 ∧ fs 2 = v.2.2.2.1.toInt64 ∧ fs 3 = (nI v.2.2.2.2).toInt64 ∧ R1 v rem v.1 v.2.2.1.1 v.2.2.2.1 v.2.2.2.2 (fun j => fs (4 + j)) (fun j => fs (4 + 144 + j)) (fun j => fs (4 + 144 + 120 + j)) (fun j => fs (4 + 144 + 120 + 120 + j)))
def RR (k : KV) (z : MZ) : Prop := R1 k.2.1 k.2.2.1 z.1 z.2.1 z.2.2.1 z.2.2.2.1 z.2.2.2.2.2.2.2.2.2.2.2.1 z.2.2.2.2.2.2.2.2.2.2.2.2.1 z.2.2.2.2.2.2.2.2.2.2.2.2.2.1 z.2.2.2.2.2.2.2.2.2.2.2.2.2.2.1 ∧ SI k.2.1 k.2.2.1 ∧ R2 k.2.2.2.2.2.1 z.2.2.2.2.1 z.2.2.2.2.2.2.2.2.2.2.2.2.2.2.2.2.2.2.2.2.2.1 ∧ R3 k.2.2.2.2.2.2.1 z.2.2.2.2.2.1 z.2.2.2.2.2.2.2.2.2.2.2.2.2.2.2.2.2.2.2.2.2.2.2.2.2.1 ∧ R4 k.2.2.2.2.2.2.2.1 z.2.2.2.2.2.2.2.1 z.2.2.2.2.2.2.2.2.2.2.2.2.2.2.2.2.2.2.2.2.2.2.2.2.2.2.1 ∧ R5 k.2.2.2.2.2.2.2.2 z.2.2.2.2.2.2.2.2.2.2.2.2.2.2.2.2.2.2.2.2.2.2.2.2.2.2.2.1 z.2.2.2.2.2.2.2.2.2.2.2.2.2.2.2.2.2.2.2.2.2.2.2.2.2.2.2.2.1 z.2.2.2.2.2.2.2.2.2.2.2.2.2.2.2.2.2.2.2.2.2.2.2.2.2.2.2.2.2.1 ∧ R6 k.1 k.2.2.2.1 k.2.2.2.2.1 z.2.2.2.2.2.2.2.2.2.1 z.2.2.2.2.2.2.2.2.2.2.2.2.2.2.2.2.2.2.2.2.2.2.2.2.2.2.2.2.2.2.2 ∧ WdOk z
theorem RR.sv {k : KV} {z y : MZ} (h : RR k y) (s : Sv z y) : RR k z := by
  obtain ⟨e0, e1, e2, e3, e4, e5, e6, e7, e8, e9, e10, e11, e12, e13, e14, e15, e16, e17, e18, e19, e20⟩ := s
  unfold RR WdOk at h ⊢
  rw [e0, e1, e2, e3, e4, e5, e6, e7, e8, e9, e10, e11, e12, e13, e14, e15, e16, e17, e18, e19, e20]
  exact h
/-! pointwise what loops do -/
theorem it_map {c : Nat → Int64} (F : Nat → Int64 → Int64) : ∀ n k : Nat, it (fun t h => vp_updL h t (F t (h t))) n c k = if k < n then F k (c k) else c k
  | 0, k => by rw [if_neg (by omega)]; rfl
  | n + 1, k => by
    rw [it_succ]
    by_cases e : k = n
    · subst e
      rw [pk_uLs, it_map F k k, if_neg (by omega), if_pos (by omega)]
    · rw [pk_uLn e, it_map F n k]
      by_cases h : k < n
      · rw [if_pos h, if_pos (by omega)]
      · rw [if_neg h, if_neg (by omega)]
theorem plR_at {N : Nat} {a : Nat → Int32} {k : Int32} {c : Nat → Int64} (j : Nat) : plR N a k c j = if j < N then c j + k.toInt64 * (a j).toInt64 else c j := it_map (fun t x => x + k.toInt64 * (a t).toInt64) N j
theorem plW_at {N : Nat} {b : Nat → Int64} {k : Int32} {c : Nat → Int64} (j : Nat) : plW N b k c j = if j < N then c j + k.toInt64 * b j else c j := it_map (fun t x => x + k.toInt64 * b t) N j
theorem adW_at {N : Nat} {b c : Nat → Int64} (j : Nat) : adW N b c j = if j < N then c j + b j else c j := it_map (fun t x => x + b t) N j
/-- updates below N only -/
theorem it_keep {f : Nat → (Nat → Int64) → (Nat → Int64)} {N : Nat} : ∀ {n : Nat} {c : Nat → Int64}, (∀ t h, t < n → ∀ k, N ≤ k → f t h k = h k) → ∀ k, N ≤ k → it f n c k = c k
  | 0, _, _, _, _ => rfl
  | n + 1, c, h, k, hk => by
    rw [it_succ, h n _ (Nat.lt_succ_self _) k hk]
    exact it_keep (fun t g ht => h t g (by omega)) k hk
/-- two runs agree below N, where each step keeps to that -/
theorem it_agree {f h : Nat → (Nat → Int64) → (Nat → Int64)} {N : Nat} : ∀ {n : Nat} {c d : Nat → Int64}, (∀ t a b, t < n → (∀ k, k < N → a k = b k) → ∀ k, k < N → f t a k = h t b k) → (∀ k, k < N → c k = d k) → ∀ k, k < N → it f n c k = it h n d k
  | 0, _, _, _, hc => hc
  | n + 1, c, d, hs, hc => fun k hk => by
    rw [it_succ, it_succ]
    exact hs n _ _ (Nat.lt_succ_self _) (it_agree (fun t a b ht => hs t a b (by omega)) hc) k hk
theorem ovF_keep {N p : Nat} {c : Nat → Int64} {k : Nat} (hk : N ≤ k) : ovF N p c k = c k := it_keep (N := N) (fun t h ht k hk => pk_uLn (by omega)) k hk
theorem tmF_keep {N p : Nat} {c : Nat → Int64} {k : Nat} (hk : N ≤ k) : tmF N p c k = c k := it_keep (N := N) (fun t h ht k hk => pk_uLn (by omega)) k hk
theorem ovF_agree {N p : Nat} {c d : Nat → Int64} (h : ∀ k, k < N → c k = d k) : ∀ k, k < N → ovF N p c k = ovF N p d k := it_agree (fun t a b ht hab k hk => by
  by_cases e : k = p + t
  · subst e; rw [pk_uLs, pk_uLs, hab _ hk, hab _ (by omega)]
  · rw [pk_uLn e, pk_uLn e, hab k hk]) h
theorem tmF_agree {N p : Nat} {c d : Nat → Int64} (h : ∀ k, k < N → c k = d k) : ∀ k, k < N → tmF N p c k = tmF N p d k := it_agree (fun t a b ht hab k hk => by
  by_cases e : k = N - t - 1
  · subst e; rw [pk_uLs, pk_uLs, hab _ (by omega), hab _ (by omega)]
  · rw [pk_uLn e, pk_uLn e, hab k hk]) h
theorem ovFs_agree {N p n : Nat} {c d : Nat → Int64} (h : ∀ k, k < N → c k = d k) : ∀ k, k < N → ovFs N p n c k = ovFs N p n d k := it_agree (fun t a b _ hab => ovF_agree hab) h
theorem tmFs_agree {N p n : Nat} {c d : Nat → Int64} (h : ∀ k, k < N → c k = d k) : ∀ k, k < N → tmFs N p n c k = tmFs N p n d k := it_agree (fun t a b _ hab => tmF_agree hab) h
theorem ovFs_keep {N p n : Nat} {c : Nat → Int64} {k : Nat} (hk : N ≤ k) : ovFs N p n c k = c k := it_keep (N := N) (fun t h _ k hk => ovF_keep hk) k hk
theorem tmFs_keep {N p n : Nat} {c : Nat → Int64} {k : Nat} (hk : N ≤ k) : tmFs N p n c k = c k := it_keep (N := N) (fun t h _ k hk => tmF_keep hk) k hk
/-- plusShifted -/
theorem plS_at {N : Nat} {a : Nat → Int32} {p : Nat} {c : Nat → Int64} (k : Nat) : plS N a p c k = if p ≤ k ∧ k < N then c k + (a (k - p)).toInt64 else c k := by
  have key : ∀ n : Nat, it (fun t f => vp_updL f (t + p) (f (t + p) + (a t).toInt64)) n c k = if p ≤ k ∧ k < n + p then c k + (a (k - p)).toInt64 else c k := by
    intro n
    induction n with
    | zero => rw [if_neg (by omega)]; rfl
    | succ n ih =>
      rw [it_succ]
      by_cases e : k = n + p
      · have ih2 := ih
        rw [if_neg (by omega)] at ih2
        subst e
        rw [pk_uLs, ih2, if_pos (by omega), Nat.add_sub_cancel]
      · rw [pk_uLn e, ih]
        by_cases q : p ≤ k ∧ k < n + p
        · rw [if_pos q, if_pos (by omega)]
        · rw [if_neg q, if_neg (by omega)]
  unfold plS
  rw [key]
  by_cases q : p ≤ k ∧ k < N
  · rw [if_pos (by omega), if_pos q]
  · rw [if_neg (by omega), if_neg q]
theorem shF_at {N p : Nat} {c : Nat → Int64} (k : Nat) : shF N p c N k = if k < N then (if p ≤ k then c (k - p) else 0) else c k := by
  have key : ∀ n : Nat, n ≤ N → it (fun t f => vp_updL f (N - t - 1) (if p ≤ N - t - 1 then f (N - t - 1 - p) else 0)) n c k = if N - n ≤ k ∧ k < N then (if p ≤ k then c (k - p) else 0) else c k := by
    intro n
    induction n generalizing k with
    | zero => intro _; rw [if_neg (by omega)]; rfl
    | succ n ih =>
      intro hn
      rw [it_succ]
      by_cases e : k = N - n - 1
      · subst e
        rw [pk_uLs, if_pos (show N - (n + 1) ≤ N - n - 1 ∧ N - n - 1 < N by omega)]
        by_cases q : p ≤ N - n - 1
        · rw [if_pos q, if_pos q, ih (N - n - 1 - p) (by omega), if_neg (by omega)]
        · rw [if_neg q, if_neg q]
      · rw [pk_uLn e, ih k (by omega)]
        by_cases q : N - n ≤ k ∧ k < N
        · rw [if_pos q, if_pos (show N - (n + 1) ≤ k ∧ k < N by omega)]
        · rw [if_neg q, if_neg (show ¬ (N - (n + 1) ≤ k ∧ k < N) by omega)]
  unfold shF
  rw [key N (Nat.le_refl _)]
  by_cases q : k < N
  · rw [if_pos (show N - N ≤ k ∧ k < N by omega), if_pos q]
  · rw [if_neg (show ¬ (N - N ≤ k ∧ k < N) by omega), if_neg q]
theorem swZ_at {N p : Nat} {f : Nat → Int64} {i : Nat} (k : Nat) : swZ N p f i k = if k < N then (if p ≤ k then f (24 * i + (k - p)) else 0) else 0 := by
  unfold swZ
  rw [shF_at]
  unfold ldF
  by_cases q : k < N
  · rw [if_pos q, if_pos q]
    by_cases q2 : p ≤ k
    · rw [if_pos q2, if_pos q2, if_pos (by omega)]
    · rw [if_neg q2, if_neg q2]
  · rw [if_neg q, if_neg q, if_neg q]
theorem it_shiftS {σ : Type} {f h : Nat → σ → σ} {a : Nat} (e : ∀ t s, h t s = f (t + a) s) : ∀ (n : Nat) (s : σ), it h n (it f a s) = it f (n + a) s
  | 0, s => by rw [Nat.zero_add]; rfl
  | n + 1, s => by rw [it_succ, it_shiftS e n s, e, show n + 1 + a = n + a + 1 by omega, it_succ]
theorem it_id {σ : Type} {f : Nat → σ → σ} {a : Nat} (h : ∀ t s, a ≤ t → f t s = s) : ∀ (n : Nat) (s : σ), it f (a + n) s = it f a s
  | 0, s => rfl
  | n + 1, s => by rw [show a + (n + 1) = a + n + 1 by omega, it_succ, h _ _ (by omega), it_id h n s]
theorem ovF_big {N p : Nat} (h : N ≤ p) (c : Nat → Int64) : ovF N p c = c := by
  unfold ovF
  rw [show N - p = 0 by omega]
  rfl
