/-! loops: what t rounds do, backward induction, searches -/
def it {σ : Type} (f : Nat → σ → σ) : Nat → σ → σ
  | 0, s => s
  | t + 1, s => f t (it f t s)
theorem bk {P : Nat → Prop} {T : Nat} (he : P T) (hs : ∀ t : Nat, t < T → P (t + 1) → P t) : P 0 := by
  have key : ∀ k : Nat, k ≤ T → P (T - k) := by
    intro k
    induction k with
    | zero => intro _; exact he
    | succ k ih =>
      intro hk
      have h1 := ih (by omega)
      refine hs (T - (k + 1)) (by omega) ?_
      rw [show T - (k + 1) + 1 = T - k by omega]
      exact h1
  have := key T (Nat.le_refl _)
  rwa [Nat.sub_self] at this
theorem bkr {P : Nat → Nat → Prop} {N : Nat} (h0 : P N 0) (hs : ∀ t r : Nat, t + (r + 1) = N → P (t + 1) r → P t (r + 1)) : P 0 N := by
  have key : ∀ r t : Nat, t + r = N → P t r := by
    intro r
    induction r with
    | zero => intro t h; rw [show t = N by omega]; exact h0
    | succ r ih => intro t h; exact hs t r h (ih (t + 1) (by omega))
  exact key N 0 (by omega)
/-- the first place from i on, of r places, that has p; else d -/
def fd (p : Nat → Bool) (d : Int32) : Nat → Nat → Int32
  | 0, _ => d
  | r + 1, i => bif p i then nI i else fd p d r (i + 1)
theorem Ce.id {E : ET} {g : Nat → va_E} {i : Nat} {e : va_E} (h : Ce E g i e) : g = va_up g i e := by
  funext q
  by_cases hq : q = i
  · subst hq; rw [va_up_self, h.2]
  · rw [va_up_ne _ _ hq]
theorem up_comm {g : Nat → va_E} {i j : Nat} {e e' : va_E} (h : i ≠ j) : va_up (va_up g i e) j e' = va_up (va_up g j e') i e := by
  funext q
  by_cases h1 : q = i
  · subst h1; rw [va_up_ne _ _ h, va_up_self, va_up_self]
  · by_cases h2 : q = j
    · subst h2; rw [va_up_self, va_up_ne _ _ h1, va_up_self]
    · rw [va_up_ne _ _ h2, va_up_ne _ _ h1, va_up_ne _ _ h1, va_up_ne _ _ h2]
theorem nI_i1 (a : Nat) : nI a + Int32.ofInt 1 = nI (a + 1) := nI_1 a
/-- a count that may be one below 0 -/
def mI (j : Nat) : Int32 := nI j - 1
theorem mI_s (j : Nat) : mI (j + 1) = nI j := nI_pred j
theorem mI_toInt {j : Nat} (h : j < 2 ^ 31) : (mI j).toInt = (j : Int) - 1 := by
  cases j with
  | zero => decide +kernel
  | succ j => rw [mI_s, nI_toInt (by omega)]; omega
theorem mI_ge {j p : Nat} (h : j < 2 ^ 31) (hp : p < 2 ^ 31) : nI p ≤ mI j ↔ p < j := by
  rw [Int32.le_iff_toInt_le, mI_toInt h, nI_toInt hp]; omega
theorem mI_ge0 {j : Nat} (h : j < 2 ^ 31) : 0 ≤ mI j ↔ 0 < j := by
  rw [Int32.le_iff_toInt_le, mI_toInt h]
  show (0 : Int32).toInt ≤ _ ↔ _
  rw [Int32.toInt_zero]; omega
theorem mI_lt0 {j : Nat} (h : j < 2 ^ 31) : mI j < 0 ↔ j = 0 := by
  rw [Int32.lt_iff_toInt_lt, mI_toInt h, Int32.toInt_zero]; omega
theorem mI_d (j : Nat) : mI (j + 1) + Int32.ofInt (-1) = mI j := by
  rw [mI_s]
  unfold mI
  rw [Int32.sub_eq_add_neg]
  rfl
section G2
variable {M : MT} {S : ST} {E : ET} {n : Nat × Nat} {g : Nat → va_E} {pc : Nat} {vs : List (Option Value)} {rest : List Value} {cc : ByteArray} {nL : Nat} {own : String} {ret : Option FieldType} {rm : Room}
theorem r_iast2 {i N j : Nat} {f : Nat → Int32} {x z : Int32} (C : Cx M S cc nL own ret rm) (d : decode cc pc = .ok (.iastore, 1)) (hg : i < E.2) (hx' : x = nI j) (hj : j < N) (hN : N < 2 ^ 31) (kk : G M S E n (va_up g i (xI S N (upd f j z))) (pc + 1) vs rest) : G M S E n (va_up g i (xI S N f)) pc vs (.int z :: .int x :: .ref (E.1 i) :: rest) := by
  refine r_iast C d ⟨hg, va_up_self _ _ _⟩ hx' hj hN ?_
  rw [bx_uu]; exact kk
theorem r_last2 {i N j : Nat} {f : Nat → Int64} {x : Int32} {z : Int64} (C : Cx M S cc nL own ret rm) (d : decode cc pc = .ok (.lastore, 1)) (hg : i < E.2) (hx' : x = nI j) (hj : j < N) (hN : N < 2 ^ 31) (kk : G M S E n (va_up g i (xJ S N (vp_updL f j z))) (pc + 1) vs rest) : G M S E n (va_up g i (xJ S N f)) pc vs (.long z :: .int x :: .ref (E.1 i) :: rest) := by
  refine r_last C d ⟨hg, va_up_self _ _ _⟩ hx' hj hN ?_
  rw [bx_uu]; exact kk
theorem r_bast2 {i N j : Nat} {f : Nat → Int32} {x z : Int32} (C : Cx M S cc nL own ret rm) (d : decode cc pc = .ok (.bastore, 1)) (hg : i < E.2) (hx' : x = nI j) (hj : j < N) (hN : N < 2 ^ 31) (kk : G M S E n (va_up g i (xB S N (upd f j (vp_nar .byte z)))) (pc + 1) vs rest) : G M S E n (va_up g i (xB S N f)) pc vs (.int z :: .int x :: .ref (E.1 i) :: rest) := by
  refine r_bast C d ⟨hg, va_up_self _ _ _⟩ hx' hj hN ?_
  rw [bx_uu]; exact kk
theorem r_putf2 {index ci k i : Nat} {ty : FieldType} {fs : List Value} {v : Value} (C : Cx M S cc nL own ret rm) (d : decode cc pc = .ok (.putfield index, 3)) (f : FP own index ci k ty) (hg : i < E.2) (hn : narrow ty v = v) (hfit : fits ty v = true) (hlen : k < fs.length) (kk : G M S E n (va_up g i (.inr (ci, fs.set k v))) (pc + 3) vs rest) : G M S E n (va_up g i (.inr (ci, fs))) pc vs (v :: .ref (E.1 i) :: rest) := by
  refine r_putf C d f ⟨hg, va_up_self _ _ _⟩ hn hfit hlen ?_
  rw [bx_uu]; exact kk
end G2
