/-! System.arraycopy -/
section GAC
variable {M : MT} {S : ST} {E : ET} {n : Nat × Nat} {g : Nat → va_E} {pc : Nat} {vs : List (Option Value)} {rest : List Value} {cc : ByteArray} {nL : Nat} {own : String} {ret : Option FieldType} {rm : Room}
theorem r_acI {idx i0 i1 n0 n1 sp dp k : Nat} {f h : Nat → Int32} (C : Cx M S cc nL own ret rm) (d : decode cc pc = .ok (.invokestatic idx, 3)) (hl : Cond.methodLink own idx arraycopyName ∈ Tg) (h0 : Ce E g i0 (xI S n0 f)) (h1 : Ce E g i1 (xI S n1 h)) (hs : sp + k ≤ n0) (hd : dp + k ≤ n1) (b0 : n0 < 2 ^ 31) (b1 : n1 < 2 ^ 31) (hf : 1 ≤ rm.frames) (hlo : (rest.map fun v => v.category).sum + (nativeFrameWords "java/lang/System" "arraycopy" 5 + 11) ≤ rm.locals) (kk : G M S E n (va_up g i1 (xI S n1 (va_cpy f h sp dp k))) (pc + 3) vs rest) : G M S E n g pc vs (.int (nI k) :: .int (nI dp) :: .ref (E.1 i1) :: .int (nI sp) :: .ref (E.1 i0) :: rest) := by
  obtain ⟨p, l, e, R, s, m, args, below, meth, c, A, Q⟩ := M
  obtain ⟨hx, hb, hml, hown, hts, hr, hlk, hK, hF, hA, hR⟩ := C
  intro H locs ls hP hD hS hll
  subst hR
  have e1 := nI_clamp (n := sp) (by omega)
  have e2 := nI_clamp (n := dp) (by omega)
  have e3 := nI_clamp (n := k) (by omega)
  refine va_copyi hx hb hll.1.symm hown (hts _ hl) (hts _ qV_arraycopy) (hts _ qT_arraycopy) (hts _ qN_RJ10) hK hP.P (hD.D g) hS i0 i1 0 0 h0.at h1.at rfl rfl rfl (nI_pos (by omega)) (nI_pos (by omega)) (nI_pos (by omega)) (by rw [e1, e3]; exact hs) (by rw [e2, e3]; exact hd) (fun i _ => rfl) hf hlo d (fun H1 locs1 hP1 _ hS1 => ?_)
  rw [e1, e2, e3] at hP1
  exact kk H1 locs1 ls (HP.set h1.1 hP1) hD hS1 hll
theorem r_acB {idx i0 i1 n0 n1 sp dp k : Nat} {f h : Nat → Int32} (C : Cx M S cc nL own ret rm) (d : decode cc pc = .ok (.invokestatic idx, 3)) (hl : Cond.methodLink own idx arraycopyName ∈ Tg) (h0 : Ce E g i0 (xB S n0 f)) (h1 : Ce E g i1 (xB S n1 h)) (hs : sp + k ≤ n0) (hd : dp + k ≤ n1) (b0 : n0 < 2 ^ 31) (b1 : n1 < 2 ^ 31) (hfit : ∀ i, i < k → fits .byte (.int (f (sp + i))) = true) (hf : 1 ≤ rm.frames) (hlo : (rest.map fun v => v.category).sum + (nativeFrameWords "java/lang/System" "arraycopy" 5 + 11) ≤ rm.locals) (kk : G M S E n (va_up g i1 (xB S n1 (va_cpy f h sp dp k))) (pc + 3) vs rest) : G M S E n g pc vs (.int (nI k) :: .int (nI dp) :: .ref (E.1 i1) :: .int (nI sp) :: .ref (E.1 i0) :: rest) := by
  obtain ⟨p, l, e, R, s, m, args, below, meth, c, A, Q⟩ := M
  obtain ⟨hx, hb, hml, hown, hts, hr, hlk, hK, hF, hA, hR⟩ := C
  intro H locs ls hP hD hS hll
  subst hR
  have e1 := nI_clamp (n := sp) (by omega)
  have e2 := nI_clamp (n := dp) (by omega)
  have e3 := nI_clamp (n := k) (by omega)
  refine va_copyi hx hb hll.1.symm hown (hts _ hl) (hts _ qV_arraycopy) (hts _ qT_arraycopy) (hts _ qN_RJ10) hK hP.P (hD.D g) hS i0 i1 2 2 h0.at h1.at rfl rfl rfl (nI_pos (by omega)) (nI_pos (by omega)) (nI_pos (by omega)) (by rw [e1, e3]; exact hs) (by rw [e2, e3]; exact hd) (fun i hi => by rw [e1]; rw [e3] at hi; exact hfit i hi) hf hlo d (fun H1 locs1 hP1 _ hS1 => ?_)
  rw [e1, e2, e3] at hP1
  exact kk H1 locs1 ls (HP.set h1.1 hP1) hD hS1 hll
theorem r_acJ {idx i0 i1 n0 n1 sp dp k : Nat} {f h : Nat → Int64} (C : Cx M S cc nL own ret rm) (d : decode cc pc = .ok (.invokestatic idx, 3)) (hl : Cond.methodLink own idx arraycopyName ∈ Tg) (h0 : Ce E g i0 (xJ S n0 f)) (h1 : Ce E g i1 (xJ S n1 h)) (hs : sp + k ≤ n0) (hd : dp + k ≤ n1) (b0 : n0 < 2 ^ 31) (b1 : n1 < 2 ^ 31) (hf : 1 ≤ rm.frames) (hlo : (rest.map fun v => v.category).sum + (nativeFrameWords "java/lang/System" "arraycopy" 5 + 11) ≤ rm.locals) (kk : G M S E n (va_up g i1 (xJ S n1 (va_cpy f h sp dp k))) (pc + 3) vs rest) : G M S E n g pc vs (.int (nI k) :: .int (nI dp) :: .ref (E.1 i1) :: .int (nI sp) :: .ref (E.1 i0) :: rest) := by
  obtain ⟨p, l, e, R, s, m, args, below, meth, c, A, Q⟩ := M
  obtain ⟨hx, hb, hml, hown, hts, hr, hlk, hK, hF, hA, hR⟩ := C
  intro H locs ls hP hD hS hll
  subst hR
  have e1 := nI_clamp (n := sp) (by omega)
  have e2 := nI_clamp (n := dp) (by omega)
  have e3 := nI_clamp (n := k) (by omega)
  refine va_copyl hx hb hll.1.symm hown (hts _ hl) (hts _ qV_arraycopy) (hts _ qT_arraycopy) (hts _ qN_RJ10) hK hP.P (hD.D g) hS i0 i1 1 1 h0.at h1.at rfl rfl rfl (nI_pos (by omega)) (nI_pos (by omega)) (nI_pos (by omega)) (by rw [e1, e3]; exact hs) (by rw [e2, e3]; exact hd) (fun i _ => rfl) hf hlo d (fun H1 locs1 hP1 _ hS1 => ?_)
  rw [e1, e2, e3] at hP1
  exact kk H1 locs1 ls (HP.set h1.1 hP1) hD hS1 hll
end GAC
/-! the pictures: a wide series, a pair, what stays -/
/-- r, alpha, beta -/
abbrev PV : Type := Nat × (Nat → Nat → Int32) × (Nat → Nat → Int32)
def Wd (S : ST) (E : ET) (g : Nat → va_E) (i : Nat) : Prop := ∃ (N : Nat) (c : Nat → Int64), Ce E g i (.inr (6, [.ref (E.1 (i + 1)), .int (nI N)])) ∧ Ce E g (i + 1) (xJ S 24 c)
def PairAt (S : ST) (E : ET) (g : Nat → va_E) (b : Nat) (v : PV) : Prop := Ce E g b (.inr (2, [.int (nI v.1), .ref (E.1 (b + 1)), .ref (E.1 (b + 7))])) ∧ Ce E g (b + 1) (xR S 3 5 (fun j => some (E.1 (b + 2 + j)))) ∧ Ce E g (b + 7) (xR S 3 5 (fun j => some (E.1 (b + 8 + j)))) ∧ ∀ j : Nat, j < 5 → Ce E g (b + 2 + j) (xI S 24 (v.2.1 j)) ∧ Ce E g (b + 8 + j) (xI S 24 (v.2.2 j))
/-- outside lo .. hi nothing changes -/
def Fr (g g' : Nat → va_E) (lo hi : Nat) : Prop := ∀ q : Nat, (q < lo ∨ hi ≤ q) → g' q = g q
theorem Fr.rf {g : Nat → va_E} {lo hi : Nat} : Fr g g lo hi := fun _ _ => rfl
theorem Fr.up {g h : Nat → va_E} {lo hi q : Nat} {e : va_E} (hf : Fr g h lo hi) (h1 : lo ≤ q) (h2 : q < hi) : Fr g (va_up h q e) lo hi := fun k hk => by rw [va_up_ne _ _ (by omega)]; exact hf k hk
theorem Fr.tr {g h k : Nat → va_E} {lo hi lo' hi' : Nat} (h1 : Fr g h lo hi) (h2 : Fr h k lo' hi') (a : lo ≤ lo') (b : hi' ≤ hi) : Fr g k lo hi := fun q hq => (h2 q (by omega)).trans (h1 q hq)
theorem Fr.wide {g h : Nat → va_E} {lo hi lo' hi' : Nat} (h1 : Fr g h lo hi) (a : lo' ≤ lo) (b : hi ≤ hi') : Fr g h lo' hi' := fun q hq => h1 q (by omega)
theorem Ce.fr {E : ET} {g h : Nat → va_E} {lo hi i : Nat} {e : va_E} (c : Ce E g i e) (hf : Fr g h lo hi) (hi' : i < lo ∨ hi ≤ i) : Ce E h i e := ⟨c.1, by rw [hf i hi']; exact c.2⟩
theorem Ce.cast {E : ET} {g : Nat → va_E} {i j : Nat} {e : va_E} (c : Ce E g i e) (h : i = j) : Ce E g j e := h ▸ c
theorem Wd.fr {S : ST} {E : ET} {g h : Nat → va_E} {lo hi i : Nat} (c : Wd S E g i) (hf : Fr g h lo hi) (hi' : i + 1 < lo ∨ hi ≤ i) : Wd S E h i := by
  obtain ⟨N, c, h1, h2⟩ := c
  exact ⟨N, c, h1.fr hf (by omega), h2.fr hf (by omega)⟩
theorem Wd.of {S : ST} {E : ET} {g : Nat → va_E} {i N : Nat} {c : Nat → Int64} (h1 : Ce E g i (.inr (6, [.ref (E.1 (i + 1)), .int (nI N)]))) (h2 : Ce E g (i + 1) (xJ S 24 c)) : Wd S E g i := ⟨N, c, h1, h2⟩
theorem PairAt.fr {S : ST} {E : ET} {g h : Nat → va_E} {lo hi b : Nat} {v : PV} (c : PairAt S E g b v) (hf : Fr g h lo hi) (hb : b + 13 ≤ lo ∨ hi ≤ b) : PairAt S E h b v :=
  ⟨c.1.fr hf (by omega), c.2.1.fr hf (by omega), c.2.2.1.fr hf (by omega), fun j hj => ⟨(c.2.2.2 j hj).1.fr hf (by omega), (c.2.2.2 j hj).2.fr hf (by omega)⟩⟩
theorem PairAt.out {S : ST} {E : ET} {g : Nat → va_E} {b q : Nat} {v : PV} {e : va_E} (c : PairAt S E g b v) (hb : q < b ∨ b + 13 ≤ q) : PairAt S E (va_up g q e) b v := c.fr (Fr.up (lo := q) (hi := q + 1) Fr.rf (Nat.le_refl _) (Nat.lt_succ_self _)) (by omega)
theorem PairAt.setR {S : ST} {E : ET} {g : Nat → va_E} {b : Nat} {v : PV} (r : Nat) (c : PairAt S E g b v) : PairAt S E (va_up g b (.inr (2, [.int (nI r), .ref (E.1 (b + 1)), .ref (E.1 (b + 7))]))) b (r, v.2) :=
  ⟨c.1.new, c.2.1.up (by omega), c.2.2.1.up (by omega), fun j hj => ⟨(c.2.2.2 j hj).1.up (by omega), (c.2.2.2 j hj).2.up (by omega)⟩⟩
theorem PairAt.setA {S : ST} {E : ET} {g : Nat → va_E} {b t : Nat} {v : PV} (x : Nat → Int32) (c : PairAt S E g b v) (ht : t < 5) : PairAt S E (va_up g (b + 2 + t) (xI S 24 x)) b (v.1, va_up v.2.1 t x, v.2.2) :=
  ⟨c.1.up (by omega), c.2.1.up (by omega), c.2.2.1.up (by omega), fun j hj => by
    refine ⟨?_, (c.2.2.2 j hj).2.up (by omega)⟩
    by_cases e : j = t
    · subst e
      rw [show (v.1, va_up v.2.1 j x, v.2.2).2.1 j = x from va_up_self _ _ _]
      exact (c.2.2.2 j hj).1.new
    · rw [show (v.1, va_up v.2.1 t x, v.2.2).2.1 j = v.2.1 j from va_up_ne _ _ e]
      exact (c.2.2.2 j hj).1.up (by omega)⟩
theorem PairAt.setB {S : ST} {E : ET} {g : Nat → va_E} {b t : Nat} {v : PV} (x : Nat → Int32) (c : PairAt S E g b v) (ht : t < 5) : PairAt S E (va_up g (b + 8 + t) (xI S 24 x)) b (v.1, v.2.1, va_up v.2.2 t x) :=
  ⟨c.1.up (by omega), c.2.1.up (by omega), c.2.2.1.up (by omega), fun j hj => by
    refine ⟨(c.2.2.2 j hj).1.up (by omega), ?_⟩
    by_cases e : j = t
    · subst e
      rw [show (v.1, v.2.1, va_up v.2.2 j x).2.2 j = x from va_up_self _ _ _]
      exact (c.2.2.2 j hj).2.new
    · rw [show (v.1, v.2.1, va_up v.2.2 t x).2.2 j = v.2.2 j from va_up_ne _ _ e]
      exact (c.2.2.2 j hj).2.up (by omega)⟩
theorem PairAt.cong {S : ST} {E : ET} {g : Nat → va_E} {b : Nat} {v w : PV} (c : PairAt S E g b v) (h0 : v.1 = w.1) (h1 : ∀ j, j < 5 → v.2.1 j = w.2.1 j) (h2 : ∀ j, j < 5 → v.2.2 j = w.2.2 j) : PairAt S E g b w :=
  ⟨by rw [← h0]; exact c.1, c.2.1, c.2.2.1, fun j hj => ⟨by rw [← h1 j hj]; exact (c.2.2.2 j hj).1, by rw [← h2 j hj]; exact (c.2.2.2 j hj).2⟩⟩
/-- what stood before the first round, then what the last one left -/
def prv {α : Type} (c : α) (f : Nat → α) : Nat → α
  | 0 => c
  | j + 1 => f j
