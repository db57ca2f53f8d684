/-! a state: precision, registers, pair, steps, how many pairs are remembered; pi: which stored pair is the i-th, ra: the stored pairs -/
abbrev SV : Type := Nat × (Nat → Nat → Int32) × PV × Int32 × Nat
def StO (E : ET) (b N : Nat) (st : Int32) (k : Nat) : va_E := .inr (5, [.int (nI N), .ref (E.1 (b + 1)), .ref (E.1 (b + 8)), .int st, .ref (E.1 (b + 21)), .int (nI k)])
def StAt (S : ST) (E : ET) (g : Nat → va_E) (b : Nat) (v : SV) (pi : Nat → Nat) (ra : Nat → PV) : Prop :=
  Ce E g b (.inr (5, [.int (nI v.1), .ref (E.1 (b + 1)), .ref (E.1 (b + 8)), .int v.2.2.2.1, .ref (E.1 (b + 21)), .int (nI v.2.2.2.2)])) ∧ Ce E g (b + 1) (xR S 3 6 (fun j => some (E.1 (b + 2 + j)))) ∧ Ce E g (b + 21) (xR S 4 8 (fun j => some (E.1 (b + 22 + 13 * pi j)))) ∧ (∀ j : Nat, j < 6 → Ce E g (b + 2 + j) (xI S 24 (v.2.1 j))) ∧ PairAt S E g (b + 8) v.2.2.1 ∧ (∀ j : Nat, j < 8 → PairAt S E g (b + 22 + 13 * j) (ra j)) ∧ (∀ i : Nat, i < 8 → pi i < 8) ∧ (∀ i j : Nat, i < 8 → j < 8 → pi i = pi j → i = j) ∧ v.2.2.2.2 ≤ 8
def StL (S : ST) (E : ET) (g : Nat → va_E) (b : Nat) (v : SV) (rem : Nat → PV) : Prop := ∃ (pi : Nat → Nat) (ra : Nat → PV), StAt S E g b v pi ra ∧ ∀ i : Nat, i < v.2.2.2.2 → ra (pi i) = rem i
theorem StAt.fr {S : ST} {E : ET} {g h : Nat → va_E} {lo hi b : Nat} {v : SV} {pi : Nat → Nat} {ra : Nat → PV} (c : StAt S E g b v pi ra) (hf : Fr g h lo hi) (hb : b + 126 ≤ lo ∨ hi ≤ b) : StAt S E h b v pi ra := by
  obtain ⟨h1, h2, h3, h4, h5, h6, h7, h8, h9⟩ := c
  exact ⟨h1.fr hf (by omega), h2.fr hf (by omega), h3.fr hf (by omega), fun j hj => (h4 j hj).fr hf (by omega), h5.fr hf (by omega), fun j hj => (h6 j hj).fr hf (by omega), h7, h8, h9⟩
theorem StL.fr {S : ST} {E : ET} {g h : Nat → va_E} {lo hi b : Nat} {v : SV} {rem : Nat → PV} (c : StL S E g b v rem) (hf : Fr g h lo hi) (hb : b + 126 ≤ lo ∨ hi ≤ b) : StL S E h b v rem := by
  obtain ⟨pi, ra, h1, h2⟩ := c
  exact ⟨pi, ra, h1.fr hf hb, h2⟩
theorem StAt.out {S : ST} {E : ET} {g : Nat → va_E} {b q : Nat} {v : SV} {pi : Nat → Nat} {ra : Nat → PV} {e : va_E} (c : StAt S E g b v pi ra) (hb : q < b ∨ b + 126 ≤ q) : StAt S E (va_up g q e) b v pi ra := c.fr (Fr.up (lo := q) (hi := q + 1) Fr.rf (Nat.le_refl _) (Nat.lt_succ_self _)) (by omega)
theorem StAt.obj {S : ST} {E : ET} {g : Nat → va_E} {b : Nat} {v : SV} {pi : Nat → Nat} {ra : Nat → PV} (c : StAt S E g b v pi ra) (N : Nat) (st : Int32) (k : Nat) (hk : k ≤ 8) : StAt S E (va_up g b (.inr (5, [.int (nI N), .ref (E.1 (b + 1)), .ref (E.1 (b + 8)), .int st, .ref (E.1 (b + 21)), .int (nI k)]))) b (N, v.2.1, v.2.2.1, st, k) pi ra := by
  obtain ⟨h1, h2, h3, h4, h5, h6, h7, h8, h9⟩ := c
  exact ⟨h1.new, h2.up (by omega), h3.up (by omega), fun j hj => (h4 j hj).up (by omega), h5.out (by omega), fun j hj => (h6 j hj).out (by omega), h7, h8, hk⟩
theorem StAt.reg {S : ST} {E : ET} {g : Nat → va_E} {b t : Nat} {v : SV} {pi : Nat → Nat} {ra : Nat → PV} (c : StAt S E g b v pi ra) (x : Nat → Int32) (ht : t < 6) : StAt S E (va_up g (b + 2 + t) (xI S 24 x)) b (v.1, va_up v.2.1 t x, v.2.2) pi ra := by
  obtain ⟨h1, h2, h3, h4, h5, h6, h7, h8, h9⟩ := c
  refine ⟨h1.up (by omega), h2.up (by omega), h3.up (by omega), fun j hj => ?_, h5.out (by omega), fun j hj => (h6 j hj).out (by omega), h7, h8, h9⟩
  by_cases e : j = t
  · subst e
    rw [show (v.1, va_up v.2.1 j x, v.2.2).2.1 j = x from va_up_self _ _ _]
    exact (h4 j hj).new
  · rw [show (v.1, va_up v.2.1 t x, v.2.2).2.1 j = v.2.1 j from va_up_ne _ _ e]
    exact (h4 j hj).up (by omega)
theorem StAt.pairNew {S : ST} {E : ET} {g g' : Nat → va_E} {b : Nat} {v : SV} {u : PV} {pi : Nat → Nat} {ra : Nat → PV} (c : StAt S E g b v pi ra) (hp : PairAt S E g' (b + 8) u) (hf : Fr g g' (b + 8) (b + 8 + 13)) : StAt S E g' b (v.1, v.2.1, u, v.2.2.2) pi ra := by
  obtain ⟨h1, h2, h3, h4, h5, h6, h7, h8, h9⟩ := c
  exact ⟨h1.fr hf (by omega), h2.fr hf (by omega), h3.fr hf (by omega), fun j hj => (h4 j hj).fr hf (by omega), hp, fun j hj => (h6 j hj).fr hf (by omega), h7, h8, h9⟩
theorem StAt.remNew {S : ST} {E : ET} {g g' : Nat → va_E} {b k : Nat} {v : SV} {u : PV} {pi : Nat → Nat} {ra : Nat → PV} (c : StAt S E g b v pi ra) (hk : k < 8) (hp : PairAt S E g' (b + 22 + 13 * k) u) (hf : Fr g g' (b + 22 + 13 * k) (b + 22 + 13 * k + 13)) : StAt S E g' b v pi (va_up ra k u) := by
  obtain ⟨h1, h2, h3, h4, h5, h6, h7, h8, h9⟩ := c
  refine ⟨h1.fr hf (by omega), h2.fr hf (by omega), h3.fr hf (by omega), fun j hj => (h4 j hj).fr hf (by omega), h5.fr hf (by omega), fun j hj => ?_, h7, h8, h9⟩
  by_cases e : j = k
  · subst e
    rw [va_up_self]
    exact hp
  · rw [va_up_ne _ _ e]
    exact (h6 j hj).fr hf (by omega)
theorem StAt.regs {S : ST} {E : ET} {g : Nat → va_E} {b N : Nat} {rg rg' : Nat → Nat → Int32} {w : PV × Int32 × Nat} {pi : Nat → Nat} {ra : Nat → PV} (c : StAt S E g b (N, rg, w) pi ra) (h : ∀ j, j < 6 → rg j = rg' j) : StAt S E g b (N, rg', w) pi ra := by
  obtain ⟨h1, h2, h3, h4, h5, h6, h7, h8, h9⟩ := c
  exact ⟨h1, h2, h3, fun j hj => by rw [show (N, rg', w).2.1 j = rg j from (h j hj).symm]; exact h4 j hj, h5, h6, h7, h8, h9⟩
theorem StAt.perm {S : ST} {E : ET} {g : Nat → va_E} {b : Nat} {v : SV} {pi pi' : Nat → Nat} {ra : Nat → PV} {f : Nat → Option Nat} (c : StAt S E g b v pi ra) (hf : ∀ j, j < 8 → f j = some (E.1 (b + 22 + 13 * pi' j))) (hp : ∀ i, i < 8 → pi' i < 8) (hi : ∀ i j, i < 8 → j < 8 → pi' i = pi' j → i = j) : StAt S E (va_up g (b + 21) (xR S 4 8 (fun j => some (E.1 (b + 22 + 13 * pi' j))))) b v pi' ra := by
  obtain ⟨h1, h2, h3, h4, h5, h6, h7, h8, h9⟩ := c
  exact ⟨h1.up (by omega), h2.up (by omega), h3.new, fun j hj => (h4 j hj).up (by omega), h5.out (by omega), fun j hj => (h6 j hj).out (by omega), hp, hi, h9⟩
section GAA
variable {M : MT} {S : ST} {E : ET} {n : Nat × Nat} {g : Nat → va_E} {pc : Nat} {vs : List (Option Value)} {rest : List Value} {cc : ByteArray} {nL : Nat} {own : String} {ret : Option FieldType} {rm : Room}
theorem r_aast {i iv ci t N j : Nat} {f : Nat → Option Nat} {fs : List Value} {q : vw_C} {x : Int32} (C : Cx M S cc nL own ret rm) (d : decode cc pc = .ok (.aastore, 1)) (hg : Ce E g i (xR S t N f)) (hv : Ce E g iv (.inr (ci, fs))) (hc : vwCl[ci]? = some q) (ht : (tyl S)[t]? = some (S.2 t, .object q.1)) (hx' : x = nI j) (hj : j < N) (hN : N < 2 ^ 31) (kk : G M S E n (va_up g i (xR S t N (va_up f j (some (E.1 iv))))) (pc + 1) vs rest) : G M S E n g pc vs (.ref (E.1 iv) :: .int x :: .ref (E.1 i) :: rest) := by
  obtain ⟨p, l, e, R, s, m, args, below, meth, c, A, Q⟩ := M
  obtain ⟨hx, hb, hml, hown, hts, hr, hlk, hK, hF, hA, hR⟩ := C
  intro H locs ls hP hD hS hl
  subst hx'
  refine va_astq hx hb hK hP.P (hD.D g) hS i t iv ci hg.at ht hv.at hc (vp_in_nI hj hN) d (fun H1 locs1 hP1 _ hS1 => ?_)
  rw [nI_clamp (Nat.lt_trans hj hN)] at hP1
  exact kk H1 locs1 ls (HP.set hg.1 hP1) hD hS1 hl
end GAA
