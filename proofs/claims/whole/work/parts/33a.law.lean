/-! the law: what stands through it, the script's rows, one lemma a case of the switch -/
theorem RR.z4 {K : KV} {z : MZ} (h : RR K z) : 4 ≤ z.1 := by rw [h.n]; exact h.n4
theorem RR.z24 {K : KV} {z : MZ} (h : RR K z) : z.1 ≤ 24 := by rw [h.n]; exact h.n24
theorem RR.zr {K : KV} {z : MZ} (h : RR K z) : z.2.1 ≤ 1 := by rw [h.r]; exact h.r1
theorem RR.zm {K : KV} {z : MZ} (h : RR K z) : z.2.2.2.1 ≤ 8 := by rw [h.m]; exact h.m8
theorem RR.zL {K : KV} {z : MZ} (h : RR K z) : z.2.2.2.2.2.1 ≤ 60 := by
  obtain ⟨a, b, c, d⟩ := h.2.2.2.1
  rw [a]; exact c
theorem RR.z128 {K : KV} {z : MZ} (h : RR K z) : ∀ k, z.2.2.2.2.2.2.2.2.2.2.2.2.2.2.2.2.2.2.2.2.2.2.2.2.2.1 k < 128 := by
  obtain ⟨a, b, c, d⟩ := h.2.2.2.1
  rw [b]; exact d
theorem RR.zpc {K : KV} {z : MZ} (h : RR K z) : z.2.2.2.2.1 ≤ 231 := by
  obtain ⟨a, b, c, d, e⟩ := h.2.2.1
  rw [a]; exact c
theorem RR.zb {K : KV} {z : MZ} (h : RR K z) : ∀ k, z.2.2.2.2.2.2.2.2.2.2.2.2.2.2.2.2.2.2.2.2.2.1 k ≤ 16 := by
  obtain ⟨a, b, c, d, e⟩ := h.2.2.1
  rw [b]; exact d
theorem RR.zw {K : KV} {z : MZ} (h : RR K z) : z.2.2.2.2.2.2.2.1 ≤ 400 := by
  obtain ⟨a, b, c⟩ := h.2.2.2.2.1
  rw [a]; omega
theorem RR.zW {K : KV} {z : MZ} (h : RR K z) : WdOk z := h.2.2.2.2.2.2.2
theorem RR.zA {K : KV} {z : MZ} (h : RR K z) : ∀ t k : Nat, t < 6 → k < 24 → z.2.2.2.2.2.2.2.2.2.2.2.1 (24 * t + k) = (K.2.1.2.1 t k).toInt64 ∧ rgI (K.2.1.2.1 t k) := fun t k ht hk => ⟨h.fr t k ht hk, (h.row ht).2 k⟩
theorem RR.kA {K : KV} {z : MZ} (h : RR K z) : ∀ t j : Nat, t < 6 → rgI (K.2.1.2.1 t j) := fun t j ht => (h.row ht).2 j
theorem RR.so {K : KV} {z : MZ} (h : RR K z) : SOk K.2.1 := ⟨h.n4, h.n24, h.r1⟩
theorem rr_prec {K : KV} {z : MZ} (h : RR K z) : nI K.2.1.1 = nI z.1 := by rw [h.n]
theorem Sv.f2 {z : MZ} {c : Nat → Int64} : Sv (s_f2 z c) z := by simp only [Sv, s_f2, and_self]
theorem lg_self (x : Int64) : lg_cmp x x = 0 := by
  unfold lg_cmp
  rw [if_neg (by rw [gt_iff_lt, Int64.lt_iff_toInt_lt]; omega), if_pos rfl]
def LX : MT → Nat → Nat → (Nat → Int32) → Prop
  | (p, l, e, R, s, m, args, below, meth, c, A, Q), b0, L, xs => va_X b0 L xs s s.heap ∧ b0 < s.heap.size ∧ ¬ A b0
section LW
variable {M : MT} {S : ST} {E : ET} {n : Nat × Nat} {g : Nat → va_E} {pc : Nat} {vs : List (Option Value)} {rest : List Value} {cc : ByteArray} {nL : Nat} {own : String} {rt : Option FieldType} {rm : Room} {b0 L : Nat} {xs : Nat → Int32}
theorem r_sld {x : Int32} {j : Nat} (C : Cx M S cc nL own rt rm) (X : LX M b0 L xs) (d : decode cc pc = .ok (.iaload, 1)) (hx' : x = nI j) (hj : j < L) (hL : L ≤ 3072) (kk : G M S E n g (pc + 1) vs (.int (xs j) :: rest)) : G M S E n g pc vs (.int x :: .ref b0 :: rest) := by
  obtain ⟨p, l, e, R, s, m, args, below, meth, c, A, Q⟩ := M
  obtain ⟨hx, hb, hml, hown, hts, hr, hlk, hK, hF, hA, hR⟩ := C
  obtain ⟨x1, x2, x3⟩ := X
  intro H locs ls hP hD hS hl
  subst hx'
  have hc : (nI j).toNatClampNeg = j := nI_clamp (by omega)
  refine va_sld hx hb x1 x2 x3 hS (i := nI j) (fun q => ?_) d ?_
  · rcases q with q | q
    · exact nI_pos (show j < 2 ^ 31 by omega) q
    · rw [hc] at q; omega
  · rw [hc]; exact kk H locs ls hP hD hS hl
theorem r_slen (C : Cx M S cc nL own rt rm) (X : LX M b0 L xs) (d : decode cc pc = .ok (.arraylength, 1)) (kk : G M S E n g (pc + 1) vs (.int (nI L) :: rest)) : G M S E n g pc vs (.ref b0 :: rest) := by
  obtain ⟨p, l, e, R, s, m, args, below, meth, c, A, Q⟩ := M
  obtain ⟨hx, hb, hml, hown, hts, hr, hlk, hK, hF, hA, hR⟩ := C
  obtain ⟨x1, x2, x3⟩ := X
  intro H locs ls hP hD hS hl
  exact va_slen hx hb x1 x2 x3 hS d (kk H locs ls hP hD hS hl)
end LW
/-- where the loop goes on -/
def NX (M : MT) (S : ST) (E : ET) (n : Nat × Nat) (b0 i : Nat) : Prop := ∀ (g : Nat → va_E) (K : KV) (z : MZ), BC S E g K → MC S E g z → RR K z → G M S E n g 1542 [some (.ref b0), some (.ref (E.1 0)), some (.ref (E.1 286)), some (.int (nI i))] []
