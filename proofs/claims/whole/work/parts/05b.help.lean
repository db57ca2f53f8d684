/-! comparisons of counts -/
theorem c_le {a b : Nat} (ha : a < 2 ^ 31) (hb : b < 2 ^ 31) (h : nI a ≤ nI b) : a ≤ b := (nI_leI ha hb).mp h
theorem c_nle {a b : Nat} (ha : a < 2 ^ 31) (hb : b < 2 ^ 31) (h : ¬ nI a ≤ nI b) : b < a := Nat.not_le.mp fun q => h ((nI_leI ha hb).mpr q)
theorem c_lt {a b : Nat} (ha : a < 2 ^ 31) (hb : b < 2 ^ 31) (h : nI a < nI b) : a < b := (nI_ltI ha hb).mp h
theorem c_nlt {a b : Nat} (ha : a < 2 ^ 31) (hb : b < 2 ^ 31) (h : ¬ nI a < nI b) : b ≤ a := Nat.not_lt.mp fun q => h ((nI_ltI ha hb).mpr q)
theorem c_eq {a b : Nat} (ha : a < 2 ^ 31) (hb : b < 2 ^ 31) (h : nI a = nI b) : a = b := (nI_eq ha hb).mp h
theorem c_ne {a b : Nat} (ha : a < 2 ^ 31) (hb : b < 2 ^ 31) (h : ¬ nI a = nI b) : a ≠ b := fun q => h ((nI_eq ha hb).mpr q)
theorem m_lt {j p : Nat} (h : j < 2 ^ 31) (hp : p < 2 ^ 31) (c : mI j < nI p) : j ≤ p := by
  rw [Int32.lt_iff_toInt_lt, mI_toInt h, nI_toInt hp] at c; omega
theorem m_nlt {j p : Nat} (h : j < 2 ^ 31) (hp : p < 2 ^ 31) (c : ¬ mI j < nI p) : p < j := by
  rw [Int32.lt_iff_toInt_lt, mI_toInt h, nI_toInt hp] at c; omega
theorem m_lt0 {j : Nat} (h : j < 2 ^ 31) (c : mI j < 0) : j = 0 := (mI_lt0 h).mp c
theorem m_nlt0 {j : Nat} (h : j < 2 ^ 31) (c : ¬ mI j < 0) : 0 < j := Nat.pos_of_ne_zero fun q => c ((mI_lt0 h).mpr q)
def b2i (b : Bool) : Int32 := bif b then 1 else 0
theorem b_f {b : Bool} (h : b2i b = 0) : b = false := by
  cases b with
  | true => exact absurd h (by decide)
  | false => rfl
theorem b_t {b : Bool} (h : ¬ b2i b = 0) : b = true := by
  cases b with
  | true => rfl
  | false => exact absurd rfl h
theorem b_n (b : Bool) : narrow .boolean (.int (b2i b)) = .int (b2i b) := by cases b <;> rfl
theorem b_fit (b : Bool) : fits .boolean (.int (b2i b)) = true := by cases b <;> rfl
/-! comparisons of longs -/
theorem k_eq {x y : Int64} (h : lg_cmp x y = 0) : x = y := by
  unfold lg_cmp at h
  split at h
  · exact absurd h (by decide)
  · split at h
    · assumption
    · exact absurd h (by decide)
theorem k_ne {x y : Int64} (h : ¬ lg_cmp x y = 0) : ¬ x = y := fun e => h (by subst e; simp [lg_cmp])
theorem k_ge {x y : Int64} (h : 0 ≤ lg_cmp x y) : y ≤ x := (lg_cmp_ge x y).mp h
theorem k_nge {x y : Int64} (h : ¬ 0 ≤ lg_cmp x y) : ¬ y ≤ x := fun q => h ((lg_cmp_ge x y).mpr q)
theorem k_gt {x y : Int64} (h : 0 < lg_cmp x y) : y < x := by
  unfold lg_cmp at h
  split at h
  · assumption
  · split at h <;> exact absurd h (by decide)
theorem k_ngt {x y : Int64} (h : ¬ 0 < lg_cmp x y) : ¬ y < x := fun q => h (by
  unfold lg_cmp
  rw [if_pos (show x > y from q)]; decide)
theorem k_le {x y : Int64} (h : lg_cmp x y ≤ 0) : ¬ y < x := fun q => absurd h (by
  unfold lg_cmp
  rw [if_pos (show x > y from q)]; decide)
theorem k_nle {x y : Int64} (h : ¬ lg_cmp x y ≤ 0) : y < x := by
  unfold lg_cmp at h
  split at h
  · assumption
  · split at h <;> exact absurd (by decide) h
theorem k_lt {x y : Int64} (h : lg_cmp x y < 0) : ¬ y ≤ x := fun q => absurd ((lg_cmp_ge x y).mpr q) (Int32.not_le.mpr h)
theorem k_nlt {x y : Int64} (h : ¬ lg_cmp x y < 0) : y ≤ x := (lg_cmp_ge x y).mp (Int32.not_lt.mp h)
/-! an array's contents count only below its length -/
theorem arrV_cong {cA : ClassId} {N : Nat} {f f' : Nat → Value} (h : ∀ j : Nat, j < N → f j = f' j) : arrV cA N f = arrV cA N f' := by
  unfold arrV
  congr 1
  apply Array.ext
  · simp
  · intro i h1 h2
    simp only [Array.getElem_ofFn]
    exact h i (by simpa using h1)
theorem HP.cong {S : ST} {E : ET} {g : Nat → va_E} {i : Nat} {cA : ClassId} {z z' : vp_A} {H : Heap} (hz : vp_cell cA z = vp_cell cA z') (h : HP S E (va_up g i (.inl (cA, z))) H) : HP S E (va_up g i (.inl (cA, z'))) H := fun j hj => by
  have := h j hj
  by_cases e : j = i
  · subst e
    rw [va_up_self] at this ⊢
    show H[E.1 j]? = some (vp_cell cA z')
    rw [← hz]
    exact this
  · rw [va_up_ne _ _ e] at this ⊢
    exact this
section GCG
variable {M : MT} {S : ST} {E : ET} {n : Nat × Nat} {g : Nat → va_E} {pc : Nat} {vs : List (Option Value)} {st : List Value}
theorem G.cong {i : Nat} {cA : ClassId} {z z' : vp_A} (hz : vp_cell cA z = vp_cell cA z') (k : G M S E n (va_up g i (.inl (cA, z'))) pc vs st) : G M S E n (va_up g i (.inl (cA, z))) pc vs st := by
  obtain ⟨p, l, e, R, s, m, args, below, meth, c, A, Q⟩ := M
  intro H locs ls hP hD hS hl
  exact k H locs ls (HP.cong hz hP) hD hS hl
theorem G.cJ {i N : Nat} {f f' : Nat → Int64} (h : ∀ j : Nat, j < N → f j = f' j) (k : G M S E n (va_up g i (xJ S N f')) pc vs st) : G M S E n (va_up g i (xJ S N f)) pc vs st := by
  refine G.cong (z' := (N, .inr (.inl f'))) ?_ k
  exact arrV_cong (f := fun j => .long (f j)) (f' := fun j => .long (f' j)) (fun j hj => by rw [h j hj])
theorem G.cI {i N : Nat} {f f' : Nat → Int32} (h : ∀ j : Nat, j < N → f j = f' j) (k : G M S E n (va_up g i (xI S N f')) pc vs st) : G M S E n (va_up g i (xI S N f)) pc vs st := by
  refine G.cong (z' := (N, .inl f')) ?_ k
  exact arrV_cong (f := fun j => .int (f j)) (f' := fun j => .int (f' j)) (fun j hj => by rw [h j hj])
theorem G.cB {i N : Nat} {f f' : Nat → Int32} (h : ∀ j : Nat, j < N → f j = f' j) (k : G M S E n (va_up g i (xB S N f')) pc vs st) : G M S E n (va_up g i (xB S N f)) pc vs st := by
  refine G.cong (z' := (N, .inl f')) ?_ k
  exact arrV_cong (f := fun j => .int (f j)) (f' := fun j => .int (f' j)) (fun j hj => by rw [h j hj])
theorem G.cR {i N t : Nat} {f f' : Nat → Option Nat} (h : ∀ j : Nat, j < N → f j = f' j) (k : G M S E n (va_up g i (xR S t N f')) pc vs st) : G M S E n (va_up g i (xR S t N f)) pc vs st := by
  refine G.cong (z' := (N, .inr (.inr (.inr (.inr f'))))) ?_ k
  exact arrV_cong (f := fun j => va_rf (f j)) (f' := fun j => va_rf (f' j)) (fun j hj => by rw [h j hj])
end GCG
/-! what t rounds of a filling loop do -/
theorem it_fillL (v : Int64) (c : Nat → Int64) : ∀ T j : Nat, it (fun t f => vp_updL f t v) T c j = if j < T then v else c j
  | 0, j => by simp [it]
  | T + 1, j => by
    show vp_updL (it (fun t f => vp_updL f t v) T c) T v j = _
    by_cases h : j = T
    · subst h; rw [pk_uLs, if_pos (by omega)]
    · rw [pk_uLn h, it_fillL v c T j]
      by_cases h2 : j < T
      · rw [if_pos h2, if_pos (by omega)]
      · rw [if_neg h2, if_neg (by omega)]
theorem it_fillI (v : Int32) (c : Nat → Int32) : ∀ T j : Nat, it (fun t f => upd f t v) T c j = if j < T then v else c j
  | 0, j => by simp [it]
  | T + 1, j => by
    show upd (it (fun t f => upd f t v) T c) T v j = _
    by_cases h : j = T
    · subst h; rw [pk_us, if_pos (by omega)]
    · rw [pk_un h, it_fillI v c T j]
      by_cases h2 : j < T
      · rw [if_pos h2, if_pos (by omega)]
      · rw [if_neg h2, if_neg (by omega)]
theorem nI_m1 (a : Nat) : nI a + Int32.ofInt (-1) = mI a := by
  unfold mI
  rw [Int32.sub_eq_add_neg]
  rfl
/-- all below n have p -/
def allB (p : Nat → Bool) : Nat → Bool
  | 0 => true
  | n + 1 => allB p n && p n
theorem allB_iff {p : Nat → Bool} : ∀ {n : Nat}, allB p n = true ↔ ∀ j : Nat, j < n → p j = true
  | 0 => ⟨fun _ j h => absurd h (Nat.not_lt_zero j), fun _ => rfl⟩
  | n + 1 => by
    show (allB p n && p n) = true ↔ _
    rw [Bool.and_eq_true, allB_iff]
    exact ⟨fun h => lt_s h.1 h.2, fun h => ⟨fun j hj => h j (by omega), h n (by omega)⟩⟩
theorem allB_t {p : Nat → Bool} {n : Nat} (h : ∀ j : Nat, j < n → p j = true) : allB p n = true := allB_iff.mpr h
theorem allB_f {p : Nat → Bool} {n j : Nat} (hj : j < n) (h : p j = false) : allB p n = false := by
  cases e : allB p n with
  | false => rfl
  | true => rw [allB_iff.mp e j hj] at h; cases h
theorem it_putI (v : Nat → Int32) (c : Nat → Int32) : ∀ T j : Nat, it (fun t f => upd f t (v t)) T c j = if j < T then v j else c j
  | 0, j => by simp [it]
  | T + 1, j => by
    show upd (it (fun t f => upd f t (v t)) T c) T (v T) j = _
    by_cases h : j = T
    · subst h; rw [pk_us, if_pos (by omega)]
    · rw [pk_un h, it_putI v c T j]
      by_cases h2 : j < T
      · rw [if_pos h2, if_pos (by omega)]
      · rw [if_neg h2, if_neg (by omega)]
theorem it_putL (v : Nat → Int64) (c : Nat → Int64) : ∀ T j : Nat, it (fun t f => vp_updL f t (v t)) T c j = if j < T then v j else c j
  | 0, j => by simp [it]
  | T + 1, j => by
    show vp_updL (it (fun t f => vp_updL f t (v t)) T c) T (v T) j = _
    by_cases h : j = T
    · subst h; rw [pk_uLs, if_pos (by omega)]
    · rw [pk_uLn h, it_putL v c T j]
      by_cases h2 : j < T
      · rw [if_pos h2, if_pos (by omega)]
      · rw [if_neg h2, if_neg (by omega)]
/-- fewer slots are known -/
def leV : List (Option Value) → List (Option Value) → Prop
  | [], _ => True
  | none :: a, _ :: b => leV a b
  | some v :: a, some w :: b => v = w ∧ leV a b
  | _, _ => False
theorem leV_at : ∀ {a b : List (Option Value)}, leV a b → ∀ (i : Nat) (v : Value), a[i]? = some (some v) → b[i]? = some (some v)
  | [], _, _, i, v, h => by simp at h
  | none :: a, [], h, _, _, _ => h.elim
  | some x :: a, [], h, _, _, _ => h.elim
  | some x :: a, none :: b, h, _, _, _ => h.elim
  | none :: a, y :: b, h, 0, v, e => by cases e
  | none :: a, y :: b, h, i + 1, v, e => leV_at (a := a) (b := b) h i v e
  | some x :: a, some y :: b, h, 0, v, e => by cases e; rw [← h.1]; rfl
  | some x :: a, some y :: b, h, i + 1, v, e => leV_at (a := a) (b := b) h.2 i v e
theorem G.wk {M : MT} {S : ST} {E : ET} {n : Nat × Nat} {g : Nat → va_E} {pc : Nat} {vs vs' : List (Option Value)} {st : List Value} (h : leV vs' vs) (k : G M S E n g pc vs' st) : G M S E n g pc vs st := by
  obtain ⟨p, l, e, R, s, m, args, below, meth, c, A, Q⟩ := M
  intro H locs ls hP hD hS hl
  exact k H locs ls hP hD hS ⟨hl.1, hl.2.1, fun i v e => hl.2.2 i v (leV_at h i v e)⟩
theorem ng_toInt {e : Nat} (he : e < 2 ^ 30) : (-(nI e)).toInt = -(e : Int) := by
  have h := nI_toInt (n := e) (by omega)
  rw [Int32.toInt_neg, h]
  exact Int.bmod_eq_of_le (by omega) (by omega)
theorem ng_le {t e : Nat} (ht : t < 2 ^ 30) (he : e < 2 ^ 30) (h : -(nI t) ≤ -(nI e)) : e ≤ t := by
  rw [Int32.le_iff_toInt_le, ng_toInt ht, ng_toInt he] at h; omega
theorem ng_nle {t e : Nat} (ht : t < 2 ^ 30) (he : e < 2 ^ 30) (h : ¬ -(nI t) ≤ -(nI e)) : t < e := by
  rw [Int32.le_iff_toInt_le, ng_toInt ht, ng_toInt he] at h; omega
theorem ng_le0 {e : Nat} (he : e < 2 ^ 30) : -(nI e) ≤ nI 0 := by
  rw [Int32.le_iff_toInt_le, ng_toInt he, nI_toInt (by decide)]; omega
theorem ng_d (t : Nat) : -(nI t) + Int32.ofInt (-1) = -(nI (t + 1)) := by
  rw [show Int32.ofInt (-1) = -1 by decide +kernel, ← nI_1, Int32.neg_add, Int32.sub_eq_add_neg]
theorem z_eq {a : Nat} (ha : a < 2 ^ 31) (h : nI a = 0) : a = 0 := Nat.eq_zero_of_not_pos fun q => nI_ne0 q ha h
theorem z_ne {a : Nat} (_ : a < 2 ^ 31) (h : ¬ nI a = 0) : a ≠ 0 := fun q => h (by subst q; rfl)
theorem z_le {a : Nat} (ha : a < 2 ^ 31) (h : nI a ≤ 0) : a = 0 := Nat.eq_zero_of_not_pos fun q => nI_nle q ha h
theorem z_nle {a : Nat} (_ : a < 2 ^ 31) (h : ¬ nI a ≤ 0) : 0 < a := Nat.pos_of_ne_zero fun q => h (by subst q; decide)
theorem z_gt {a : Nat} (ha : a < 2 ^ 31) (h : 0 < nI a) : 0 < a := z_nle ha (Int32.not_le.mpr h)
theorem z_ngt {a : Nat} (ha : a < 2 ^ 31) (h : ¬ 0 < nI a) : a = 0 := z_le ha (Int32.not_lt.mp h)
theorem z_lt {a : Nat} (ha : a < 2 ^ 31) (h : nI a < 0) : False := nI_pos ha h
theorem z_nlt {a : Nat} (_ : a < 2 ^ 31) (_ : ¬ nI a < 0) : True := trivial
theorem z_ge {a : Nat} (_ : a < 2 ^ 31) (_ : 0 ≤ nI a) : True := trivial
theorem z_nge {a : Nat} (ha : a < 2 ^ 31) (h : ¬ 0 ≤ nI a) : False := h (nI_pos' ha)
