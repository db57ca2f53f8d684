/-! kernel computing: the unit pair -/
def fzL (l : List Int64) : Nat → Int64 := fun k => l.getD k 0
def ovL (N p : Nat) (l : List Int64) : List Int64 := it (fun t l => l.set (p + t) (l.getD (p + t) 0 + l.getD (p + t - p) 0)) (N - p) l
def tmL (N p : Nat) (l : List Int64) : List Int64 := it (fun t l => l.set (N - t - 1) (l.getD (N - t - 1) 0 - l.getD (N - t - 1 - p) 0)) (N - p) l
def ovLs (N p k : Nat) (l : List Int64) : List Int64 := it (fun t l => ovL N (p + t) l) k l
def tmLs (N p k : Nat) (l : List Int64) : List Int64 := it (fun t l => tmL N (p + t) l) k l
def plL (N : Nat) (b : List Int64) (k : Int64) (l : List Int64) : List Int64 := it (fun t l => l.set t (l.getD t 0 + k * b.getD t 0)) N l
def z24 : List Int64 := List.replicate 24 0
def rwL (N : Nat) (l : List Int64) : List Int64 := it (fun t a => a.set t (l.getD t 0)) N z24
def beL (n : Nat) : List Int64 := bif Nat.beq n 0 then z24.set 0 1 else z24
def rtL (N r n j : Nat) (a : List Int64) : List Int64 := ovLs N (r + 1) (n + j) (ovLs N 1 (n - j) (plL N a 1 z24))
def asL (N r : Nat) (al : List (List Int64)) (n : Nat) : List Int64 := tmLs N (r + 1) (n + n) (it (fun j f => plL N (rtL N r n j (al.getD j [])) (-1) f) n (plL N (beL n) 1 z24))
def alL (N r : Nat) (t : Nat) : List (List Int64) := it (fun n al => al ++ [rwL N (asL N r al n)]) t []
def ftL : Nat → List Int64 → Bool
  | 0, _ => true
  | _ + 1, [] => true
  | N + 1, x :: l => inR x && ftL N l
def unL (N r : Nat) : Bool := allB (fun n => ftL N (asL N r (alL N r n) n)) 5
theorem fz_set {l : List Int64} {i : Nat} {v : Int64} (h : i < l.length) : fzL (l.set i v) = vp_updL (fzL l) i v := by
  funext k
  unfold fzL
  by_cases e : k = i
  · subst e
    rw [pk_uLs, List.getD_eq_getElem?_getD, List.getElem?_set_self h]
    rfl
  · rw [pk_uLn e, List.getD_eq_getElem?_getD, List.getElem?_set_ne (Ne.symm e), List.getD_eq_getElem?_getD]
theorem it_fz {f : Nat → List Int64 → List Int64} {h : Nat → (Nat → Int64) → (Nat → Int64)} : ∀ {n : Nat}, (∀ t l, t < n → l.length = 24 → fzL (f t l) = h t (fzL l) ∧ (f t l).length = 24) → ∀ {l : List Int64}, l.length = 24 → fzL (it f n l) = it h n (fzL l) ∧ (it f n l).length = 24
  | 0, _, _, hl => ⟨rfl, hl⟩
  | n + 1, hs, l, hl => by
    obtain ⟨h1, h2⟩ := it_fz (n := n) (fun t l ht hl => hs t l (by omega) hl) hl
    obtain ⟨h3, h4⟩ := hs n _ (Nat.lt_succ_self _) h2
    exact ⟨by show fzL (f n (it f n l)) = h n (it h n (fzL l)); rw [h3, h1], h4⟩
theorem ovL_fz {N p : Nat} (hN : N ≤ 24) {l : List Int64} (hl : l.length = 24) : fzL (ovL N p l) = ovF N p (fzL l) ∧ (ovL N p l).length = 24 := it_fz (f := fun t l => l.set (p + t) (l.getD (p + t) 0 + l.getD (p + t - p) 0)) (h := fun t f => vp_updL f (p + t) (f (p + t) + f (p + t - p))) (n := N - p) (fun t l ht hl => ⟨fz_set (by omega), by rw [List.length_set]; exact hl⟩) hl
theorem tmL_fz {N p : Nat} (hN : N ≤ 24) {l : List Int64} (hl : l.length = 24) : fzL (tmL N p l) = tmF N p (fzL l) ∧ (tmL N p l).length = 24 := it_fz (f := fun t l => l.set (N - t - 1) (l.getD (N - t - 1) 0 - l.getD (N - t - 1 - p) 0)) (h := fun t f => vp_updL f (N - t - 1) (f (N - t - 1) - f (N - t - 1 - p))) (n := N - p) (fun t l ht hl => ⟨fz_set (by omega), by rw [List.length_set]; exact hl⟩) hl
theorem ovLs_fz {N p k : Nat} (hN : N ≤ 24) {l : List Int64} (hl : l.length = 24) : fzL (ovLs N p k l) = ovFs N p k (fzL l) ∧ (ovLs N p k l).length = 24 := it_fz (f := fun t l => ovL N (p + t) l) (h := fun t f => ovF N (p + t) f) (n := k) (fun t l _ hl => ovL_fz (p := p + t) hN hl) hl
theorem tmLs_fz {N p k : Nat} (hN : N ≤ 24) {l : List Int64} (hl : l.length = 24) : fzL (tmLs N p k l) = tmFs N p k (fzL l) ∧ (tmLs N p k l).length = 24 := it_fz (f := fun t l => tmL N (p + t) l) (h := fun t f => tmF N (p + t) f) (n := k) (fun t l _ hl => tmL_fz (p := p + t) hN hl) hl
theorem z24_l : z24.length = 24 := List.length_replicate
theorem z24_fz : fzL z24 = fun _ => 0 := by
  funext k
  unfold fzL z24
  rw [List.getD_eq_getElem?_getD, List.getElem?_replicate]
  split <;> rfl
theorem plL_W {N : Nat} (hN : N ≤ 24) {b : List Int64} {k : Int32} {k' : Int64} (hk : k.toInt64 = k') {l : List Int64} (hl : l.length = 24) : fzL (plL N b k' l) = plW N (fzL b) k (fzL l) ∧ (plL N b k' l).length = 24 := by
  subst hk
  exact it_fz (fun t l ht hl => ⟨fz_set (by omega), by rw [List.length_set]; exact hl⟩) hl
theorem plL_R {N : Nat} (hN : N ≤ 24) {b : List Int64} {a : Nat → Int32} (hb : ∀ t, t < N → fzL b t = (a t).toInt64) {k : Int32} {k' : Int64} (hk : k.toInt64 = k') {l : List Int64} (hl : l.length = 24) : fzL (plL N b k' l) = plR N a k (fzL l) ∧ (plL N b k' l).length = 24 := by
  subst hk
  exact it_fz (fun t l ht hl => ⟨by rw [fz_set (by omega), ← hb t ht]; rfl, by rw [List.length_set]; exact hl⟩) hl
theorem rtL_fz {N r n j : Nat} (hN : N ≤ 24) {b : List Int64} {a : Nat → Int32} (hb : ∀ t, t < N → fzL b t = (a t).toInt64) : fzL (rtL N r n j b) = rtm N r n j a ∧ (rtL N r n j b).length = 24 := by
  unfold rtL rtm
  obtain ⟨h1, h2⟩ := plL_R hN hb (k := nI 1) (k' := 1) (by decide) z24_l
  obtain ⟨h3, h4⟩ := ovLs_fz (N := N) (p := 1) (k := n - j) hN h2
  obtain ⟨h5, h6⟩ := ovLs_fz (N := N) (p := r + 1) (k := n + j) hN h4
  rw [h5, h3, h1, z24_fz]
  exact ⟨rfl, h6⟩
theorem asL_fz {N r n : Nat} (hN : N ≤ 24) {al : List (List Int64)} {al' be : Nat → Nat → Int32} (ha : ∀ j, j < n → ∀ t, t < N → fzL (al.getD j []) t = (al' j t).toInt64) (hb : ∀ t, t < N → fzL (beL n) t = (be n t).toInt64) : fzL (asL N r al n) = aSm N r al' be n ∧ (asL N r al n).length = 24 := by
  unfold asL aSm
  obtain ⟨h1, h2⟩ := plL_R hN hb (k := nI 1) (k' := 1) (by decide) z24_l
  obtain ⟨h3, h4⟩ := it_fz (f := fun j f => plL N (rtL N r n j (al.getD j [])) (-1) f) (h := fun j f => plW N (rtm N r n j (al' j)) (-1) f) (n := n) (fun j l hj hl => by
    obtain ⟨q1, q2⟩ := plL_W hN (b := rtL N r n j (al.getD j [])) (k := -1) (k' := -1) (by decide) hl
    rw [q1, (rtL_fz hN (ha j hj)).1]
    exact ⟨rfl, q2⟩) h2
  obtain ⟨h5, h6⟩ := tmLs_fz (N := N) (p := r + 1) (k := n + n) hN h4
  rw [h5, h3, h1, z24_fz]
  exact ⟨rfl, h6⟩
theorem ftL_fit : ∀ (N : Nat) (l : List Int64) (off : Nat), N ≤ l.length → ftL N l = true → ∀ k, k < N → inR (fzL l k) = true
  | 0, _, _, _, _, k, h => absurd h (Nat.not_lt_zero k)
  | N + 1, [], _, hl, _, _, _ => by simp at hl
  | N + 1, x :: l, off, hl, h, k, hk => by
    rw [ftL, Bool.and_eq_true] at h
    cases k with
    | zero => exact h.1
    | succ k => exact ftL_fit N l off (by simp at hl; omega) h.2 k (by omega)
theorem rwL_fz {N : Nat} (hN : N ≤ 24) {l : List Int64} {t : Nat} (ht : t < N) : fzL (rwL N l) t = fzL l t := by
  unfold rwL
  obtain ⟨h1, _⟩ := it_fz (f := fun t a => a.set t (l.getD t 0)) (h := fun t a => vp_updL a t (fzL l t)) (n := N) (fun t a ht ha => ⟨fz_set (by omega), by rw [List.length_set]; exact ha⟩) z24_l
  rw [h1, it_putL (fzL l)]
  exact if_pos ht
theorem inR_t32 {x : Int64} (h : inR x = true) : x.toInt32.toInt64 = x := by
  unfold inR at h
  rw [Bool.and_eq_true] at h
  have h1 := Int64.le_iff_toInt_le.mp (of_decide_eq_true h.1)
  have h2 := Int64.le_iff_toInt_le.mp (of_decide_eq_true h.2)
  have h1' : (-100000000 : Int) ≤ x.toInt := h1
  have h2' : x.toInt ≤ (100000000 : Int) := h2
  apply Int64.toInt.inj
  rw [Int32.toInt_toInt64, Int64.toInt_toInt32]
  exact Int.bmod_eq_of_le (by omega) (by omega)
theorem beL_fz {n t : Nat} : fzL (beL n) t = (uBe n t).toInt64 := by
  unfold beL uBe
  by_cases h : n = 0
  · subst h
    rw [if_pos rfl]
    show fzL (z24.set 0 1) t = _
    rw [fz_set (by rw [z24_l]; decide), z24_fz]
    by_cases e : t = 0
    · subst e; rw [pk_uLs, pk_us]; decide
    · rw [pk_uLn e, pk_un e]; rfl
  · rw [if_neg h, show (Nat.beq n 0) = false from by cases n with | zero => exact absurd rfl h | succ n => rfl]
    show fzL z24 t = _
    rw [z24_fz]; rfl
theorem un_all {N r : Nat} (hN : N ≤ 24) (h : unL N r = true) : aOk N r uBe (fun _ _ => 0) = true := by
  have hf := allB_iff.mp h
  have key : ∀ n, n ≤ 5 → ((alL N r n).length = n ∧ ∀ j, j < n → ∀ t, t < N → fzL ((alL N r n).getD j []) t = (aIt N r uBe n (fun _ _ => 0) j t).toInt64) := by
    intro n
    induction n with
    | zero => exact fun _ => ⟨rfl, fun j hj => absurd hj (Nat.not_lt_zero j)⟩
    | succ n ih =>
      intro hn
      obtain ⟨hl, hr⟩ := ih (by omega)
      have he : alL N r (n + 1) = alL N r n ++ [rwL N (asL N r (alL N r n) n)] := rfl
      have ha : aIt N r uBe (n + 1) (fun _ _ => 0) = va_up (aIt N r uBe n (fun _ _ => 0)) n (wrT N (aSm N r (aIt N r uBe n (fun _ _ => 0)) uBe n)) := rfl
      refine ⟨by rw [he, List.length_append, hl]; rfl, fun j hj t ht => ?_⟩
      rw [he, ha, List.getD_eq_getElem?_getD]
      obtain ⟨e1, e2⟩ := asL_fz (r := r) (n := n) hN hr (fun t _ => beL_fz (n := n) (t := t))
      by_cases e : j = n
      · subst e
        rw [List.getElem?_append_right (by omega), hl, Nat.sub_self, va_up_self]
        show fzL (rwL N _) t = (wrT N _ t).toInt64
        rw [rwL_fz hN ht, e1]
        unfold wrT
        rw [if_pos ht]
        have := ftL_fit N _ 0 (by omega) (hf j (by omega)) t ht
        rw [e1] at this
        exact (inR_t32 this).symm
      · rw [List.getElem?_append_left (by omega), va_up_ne _ _ e, ← List.getD_eq_getElem?_getD]
        exact hr j (by omega) t ht
  refine allB_t fun n hn => allB_t fun k hk => ?_
  obtain ⟨hl, hr⟩ := key n (by omega)
  obtain ⟨e1, e2⟩ := asL_fz (r := r) (n := n) hN hr (fun t _ => beL_fz (n := n) (t := t))
  have := ftL_fit N _ 0 (by omega) (hf n hn) k hk
  rw [e1] at this
  exact this
