/-! pairs, both sides -/
theorem rg0 : rgI 0 := ⟨by decide, by decide⟩
theorem ld_pl {N : Nat} {a : Nat → Int32} {f : Nat → Int64} {j : Nat} (hN : N ≤ 24) (ha : ∀ k, k < 24 → f (24 * j + k) = (a k).toInt64) : ldF N f (24 * j) = plR N a (nI 1) (fun _ => 0) := by
  funext k
  rw [plR_at]
  unfold ldF
  by_cases q : k < N
  · rw [if_pos q, if_pos q, one64, ha k (by omega)]
  · rw [if_neg q, if_neg q]
theorem fac_eq {N r : Nat} {a : Nat → Int32} {f : Nat → Int64} {i j : Nat} (hN : N ≤ 24) (ha : ∀ k, k < 24 → f (24 * j + k) = (a k).toInt64) : facZ N r f i j = rtm N r i j a := by
  unfold facZ rtm
  rw [ld_pl hN ha]
theorem b_eq {N r : Nat} {al : Nat → Nat → Int32} {f : Nat → Int64} {i : Nat} (hN : N ≤ 24) (hi : i < 5) (ha : Fl 5 al f) : bZ N r f i (i + 1) = bSm N r al i := it_cong (fun j s hj => by rw [fac_eq hN (fun k hk => ha j k (by omega) hk)])
theorem plW_keep {N : Nat} {b c : Nat → Int64} {w : Int32} {k : Nat} (hk : N ≤ k) : plW N b w c k = c k := by rw [plW_at, if_neg (by omega)]
theorem bS_0 {N r : Nat} {al : Nat → Nat → Int32} {i k : Nat} (hk : N ≤ k) : bSm N r al i k = 0 := it_keep (N := N) (fun t h _ k hk => plW_keep hk) k hk
theorem bOk_eq {N r : Nat} {al : Nat → Nat → Int32} {f : Nat → Int64} (hN : N ≤ 24) (ha : Fl 5 al f) : bOkZ N r f = bOk N r al := allB_cong (fun i hi => by
  rw [b_eq hN hi ha]
  exact fit_pad hN (fun _ _ => rfl) (fun k hk _ => bS_0 hk))
theorem it_stR (c : Nat → Nat → Int64) (h : Nat → Int64) : ∀ (T s k : Nat), s < T → k < 24 → it (fun i h => stR h i (c i)) T h (24 * s + k) = c s k
  | 0, _, _, hs, _ => absurd hs (Nat.not_lt_zero _)
  | T + 1, s, k, hs, hk => by
    rw [it_succ]
    unfold stR
    by_cases e : s = T
    · subst e
      rw [if_pos (by omega), show 24 * s + k - 24 * s = k by omega]
    · rw [if_neg (by omega)]
      exact it_stR c h T s k (by omega) hk
theorem nb_fl {N r : Nat} {al : Nat → Nat → Int32} {f h : Nat → Int64} (hN : N ≤ 24) (ha : Fl 5 al f) (hok : bOk N r al = true) : Fl 5 (fun j => wrT N (bSm N r al j)) (nbZ N r f h 5) := fun s k hs hk => by
  rw [show nbZ N r f h 5 (24 * s + k) = bZ N r f s (s + 1) k from it_stR (fun i => bZ N r f i (i + 1)) h 5 s k hs hk, b_eq hN hs ha]
  exact wrT_at (allB_iff.mp hok s hs) (fun _ _ => rfl) (fun k hk _ => bS_0 hk) hk
theorem a_eq {N r : Nat} {al be : Nat → Nat → Int32} {f h : Nat → Int64} {i : Nat} (hN : N ≤ 24) (ha : ∀ j k, j < i → k < 24 → f (24 * j + k) = (al j k).toInt64) (hb : ∀ k, k < 24 → h (24 * i + k) = (be i k).toInt64) : aZ N r h f i = aSm N r al be i := by
  unfold aZ aSm aZ0
  rw [ld_pl hN hb, show 2 * i = i + i by omega]
  exact congrArg _ (it_cong (fun j s hj => by rw [fac_eq hN (fun k hk => ha j k hj hk)]))
theorem aS_0 {N r : Nat} {al be : Nat → Nat → Int32} {i k : Nat} (hk : N ≤ k) : aSm N r al be i k = 0 := by
  unfold aSm
  rw [tmFs_keep hk]
  refine (it_keep (N := N) (fun t h _ k hk => plW_keep hk) k hk).trans ?_
  rw [plR_at, if_neg (by omega)]
/-- the alphas out of the betas, row by row -/
theorem na_key {N r : Nat} {be al : Nat → Nat → Int32} {f h : Nat → Int64} (hN : N ≤ 24) (hb : Fl 5 be h) : ∀ T : Nat, T ≤ 5 → allB (fun i => fitB 24 (aZ N r h (naZ N r h f i) i)) T = allB (fun n => fitB N (aSm N r (aIt N r be n al) be n)) T ∧ (allB (fun n => fitB N (aSm N r (aIt N r be n al) be n)) T = true → ∀ s, s < T → RowOk N (aIt N r be T al s) ∧ ∀ k, k < 24 → naZ N r h f T (24 * s + k) = (aIt N r be T al s k).toInt64)
  | 0, _ => ⟨rfl, fun _ s hs => absurd hs (Nat.not_lt_zero _)⟩
  | T + 1, hT => by
    obtain ⟨i1, i2⟩ := na_key (al := al) (f := f) (r := r) hN hb T (by omega)
    have e : allB (fun n => fitB N (aSm N r (aIt N r be n al) be n)) T = true → aZ N r h (naZ N r h f T) T = aSm N r (aIt N r be T al) be T := fun q => a_eq hN (fun j k hj hk => (i2 q j hj).2 k hk) (fun k hk => hb T k (by omega) hk)
    have e2 : allB (fun n => fitB N (aSm N r (aIt N r be n al) be n)) T = true → fitB 24 (aZ N r h (naZ N r h f T) T) = fitB N (aSm N r (aIt N r be T al) be T) := fun q => by
      rw [e q]
      exact fit_pad hN (fun _ _ => rfl) (fun k hk _ => aS_0 hk)
    refine ⟨?_, fun q s hs => ?_⟩
    · show (allB _ T && _) = (allB _ T && _)
      rw [i1]
      cases q : allB (fun n => fitB N (aSm N r (aIt N r be n al) be n)) T with
      | false => rw [Bool.false_and, Bool.false_and]
      | true => exact congrArg (true && ·) (e2 q)
    · have q : (allB (fun n => fitB N (aSm N r (aIt N r be n al) be n)) T && fitB N (aSm N r (aIt N r be T al) be T)) = true := q
      rw [Bool.and_eq_true] at q
      have e3 : aIt N r be (T + 1) al = va_up (aIt N r be T al) T (wrT N (aSm N r (aIt N r be T al) be T)) := rfl
      have e4 : naZ N r h f (T + 1) = stR (naZ N r h f T) T (aZ N r h (naZ N r h f T) T) := rfl
      rw [e3, e4, e q.1]
      by_cases w : s = T
      · subst w
        rw [va_up_self]
        refine ⟨wrT_ok q.2, fun k hk => ?_⟩
        unfold stR
        rw [if_pos (by omega), show 24 * s + k - 24 * s = k by omega]
        exact wrT_at q.2 (fun _ _ => rfl) (fun k hk _ => aS_0 hk) hk
      · rw [va_up_ne _ _ w]
        obtain ⟨j1, j2⟩ := i2 q.1 s (by omega)
        refine ⟨j1, fun k hk => ?_⟩
        unfold stR
        rw [if_neg (by omega)]
        exact j2 k hk
theorem aOk_eq {N r : Nat} {be al : Nat → Nat → Int32} {f h : Nat → Int64} (hN : N ≤ 24) (hb : Fl 5 be h) : aOkZ N r h f = aOk N r be al := (na_key hN hb 5 (Nat.le_refl _)).1
theorem na_fl {N r : Nat} {be al : Nat → Nat → Int32} {f h : Nat → Int64} (hN : N ≤ 24) (hb : Fl 5 be h) (hok : aOk N r be al = true) : Fl 5 (aIt N r be 5 al) (naZ N r h f 5) ∧ ∀ s, s < 5 → RowOk N (aIt N r be 5 al s) :=
  ⟨fun s k hs hk => ((na_key hN hb 5 (Nat.le_refl _)).2 hok s hs).2 k hk, fun s hs => ((na_key (f := f) hN hb 5 (Nat.le_refl _)).2 hok s hs).1⟩
theorem one_fl : Fl 5 uBe oneF := fun t k _ hk => by
  unfold oneF uBe
  by_cases e : t = 0
  · rw [if_pos e]
    by_cases e2 : k = 0
    · rw [if_pos (by omega), e2, pk_us]; decide
    · rw [if_neg (by omega), pk_un e2]; rfl
  · rw [if_neg e, if_neg (by omega)]; rfl
theorem uBe_ok {N : Nat} (h : 4 ≤ N) : ∀ s, RowOk N (uBe s) := fun s => by
  unfold uBe
  by_cases e : s = 0
  · rw [if_pos e]
    refine ⟨fun k hk => by rw [pk_un (by omega)], fun k => ?_⟩
    by_cases e2 : k = 0
    · rw [e2, pk_us]; exact ⟨by decide, by decide⟩
    · rw [pk_un e2]; exact ⟨by decide, by decide⟩
  · rw [if_neg e]; exact ⟨fun _ _ => rfl, fun _ => rg0⟩
theorem unZ_ok : UnZ := fun n r f h4 h24 hr => by
  rw [aOk_eq (al := fun _ _ => 0) h24 one_fl]
  exact unOk n r h4 h24 hr
theorem Fl.cp {rows : Nat → Nat → Int32} {f h : Nat → Int64} (hf : Fl 5 rows f) : Fl 5 rows (cp120 f 0 h 0) := fun t k ht hk => by
  unfold cp120
  rw [if_pos (by omega), show 0 + (24 * t + k - 0) = 24 * t + k by omega]
  exact hf t k ht hk
theorem Fl.cpo {rows : Nat → Nat → Int32} {f h : Nat → Int64} {a : Nat} (hf : Fl 5 rows (fun j => f (a + j))) : Fl 5 rows (cp120 f a h 0) := fun t k ht hk => by
  unfold cp120
  rw [if_pos (by omega), show 24 * t + k - 0 = 24 * t + k by omega]
  exact hf t k ht hk
theorem unA_fl {N r : Nat} {f : Nat → Int64} (h4 : 4 ≤ N) (hN : N ≤ 24) (hr : r ≤ 1) : Fl 5 (unA N r) (naZ N r oneF f 5) ∧ PvOk N (r, unA N r, uBe) := by
  obtain ⟨a, b⟩ := na_fl (f := f) (al := fun _ _ => 0) hN one_fl (unOk N r h4 hN hr)
  exact ⟨a, fun s hs => ⟨b s hs, uBe_ok h4 s⟩⟩
theorem rr_uni0 {K : KV} {z : MZ} (h : RR K z) {r : Nat} (hr : r ≤ 1) : RR (kSt K (K.2.1.1, K.2.1.2.1, (r, unA K.2.1.1 r, uBe), nI 0, 0)) (unZ (s_r z r)) := by
  have e := unA_fl (f := z.2.2.2.2.2.2.2.2.2.2.2.2.2.2.2.2.2.2.1) h.n4 h.n24 hr
  have hn := h.n
  obtain ⟨⟨a0, a1, a2, a3, a4, a5, a6, a7⟩, ⟨b0, b1, b2, b3, b4, b5, b6⟩, h2, h3, h4, h5, h6, h7⟩ := h
  have e1 : Fl 5 (unA K.2.1.1 r) (cp120 (naZ z.1 r oneF z.2.2.2.2.2.2.2.2.2.2.2.2.2.2.2.2.2.2.1 5) 0 z.2.2.2.2.2.2.2.2.2.2.2.2.1 0) := by rw [hn]; exact e.1.cp
  have e2 : Fl 5 uBe (cp120 oneF 0 z.2.2.2.2.2.2.2.2.2.2.2.2.2.1 0) := one_fl.cp
  revert e1 e2
  unfold unZ
  simp only [RR, kSt, s_tnp, s_r, R1, SI]
  intro e1 e2
  exact ⟨⟨a0, trivial, trivial, trivial, a4, e1, e2, fun i hi => absurd hi (Nat.not_lt_zero _)⟩, ⟨b0, b1, hr, Nat.zero_le _, b4, e.2, fun i hi => absurd hi (Nat.not_lt_zero _)⟩, h2, h3, h4, h5, h6, h7⟩
theorem rr_uni {K : KV} {z : MZ} (h : RR K z) (x : Int32) : Sm K z (oUni K x) (qUni z x) := by
  unfold oUni qUni
  by_cases h0 : x = 0
  · rw [if_pos h0, h0, show btw (0 : Int32).toInt64 0 1 = true by decide, cond_true, show iN (0 : Int32) = 0 by decide]
    exact ⟨rfl, rr_uni0 h (by omega)⟩
  · rw [if_neg h0]
    by_cases h1 : x = nI 1
    · rw [if_pos h1, h1, show btw (nI 1).toInt64 0 1 = true by decide, cond_true, show iN (nI 1) = 1 by decide]
      exact ⟨rfl, rr_uni0 h (by omega)⟩
    · rw [if_neg h1]
      cases q : btw x.toInt64 0 1 with
      | false => exact .same h _
      | true =>
        obtain ⟨t, rfl, _, ht, _⟩ := btw_nat q (p := 0) (q := 1) (by decide) (by decide)
        have : t = 0 ∨ t = 1 := by omega
        rcases this with e | e
        · subst e; exact absurd rfl h0
        · subst e; exact absurd rfl h1
theorem rr_reset {K : KV} {z : MZ} (h : RR K z) (x : Int32) : Sm K z (oReset K x) (qRes z x) := by
  unfold oReset qRes
  rw [btw_rg (x := x) (p := nI 4) (q := nI 24) (by decide) (by decide)]
  by_cases h1 : x < nI 4
  · rw [if_pos h1, if_pos h1]; exact .same h _
  · rw [if_neg h1, if_neg h1]
    by_cases h2 : x ≤ nI 24
    · rw [if_pos h2, if_pos h2]
      have hx : 4 ≤ iN x ∧ iN x ≤ 24 := by
        rw [Int32.lt_iff_toInt_lt, show (nI 4).toInt = 4 by decide] at h1
        rw [Int32.le_iff_toInt_le, show (nI 24).toInt = 24 by decide] at h2
        unfold iN
        omega
      have e := unA_fl (f := z.2.2.2.2.2.2.2.2.2.2.2.2.2.2.2.2.2.2.1) hx.1 hx.2 (show 0 ≤ 1 by omega)
      refine ⟨by show nI _ = nI _; rw [h.n], ?_⟩
      obtain ⟨⟨a0, a1, a2, a3, a4, a5, a6, a7⟩, ⟨b0, b1, b2, b3, b4, b5, b6⟩, h2, h3, h4, h5, h6, h7⟩ := h
      have e1 : Fl 5 (unA (iN x) 0) (cp120 (naZ (iN x) 0 oneF z.2.2.2.2.2.2.2.2.2.2.2.2.2.2.2.2.2.2.1 5) 0 z.2.2.2.2.2.2.2.2.2.2.2.2.1 0) := e.1.cp
      have e2 : Fl 5 uBe (cp120 oneF 0 z.2.2.2.2.2.2.2.2.2.2.2.2.2.1 0) := one_fl.cp
      have e3 : Fl 6 (fun _ _ => 0) (fun _ => 0) := fun t k _ _ => rfl
      revert e1 e2
      unfold unZ
      simp only [RR, kSt, s_tnp, s_nr, R1, SI]
      intro e1 e2
      exact ⟨⟨trivial, trivial, trivial, trivial, e3, e1, e2, fun i hi => absurd hi (Nat.not_lt_zero _)⟩, ⟨hx.1, hx.2, Nat.zero_le _, Nat.zero_le _, fun t _ => ⟨fun _ _ => rfl, fun _ => rg0⟩, e.2, fun i hi => absurd hi (Nat.not_lt_zero _)⟩, h2, h3, h4, h5, h6, h7⟩
    · rw [if_neg h2, if_neg h2]; exact .same h _
/-- a row replaced -/
theorem Fl.rp {al rg : Nat → Nat → Int32} {f fr : Nat → Int64} (hf : Fl 5 al f) (hr : Fl 6 rg fr) {i t : Nat} (ht : t < 6) : Fl 5 (va_up al i (rg t)) (rpZ f fr i t) := fun s k hs hk => by
  unfold rpZ
  by_cases e : s = i
  · subst e
    rw [va_up_self, if_pos (by omega), show 24 * s + k - 24 * s = k by omega]
    exact hr t k ht hk
  · rw [va_up_ne _ _ e, if_neg (by omega)]
    exact hf s k hs hk
theorem chg_all (f fr : Nat → Int64) (i t : Nat) : ∀ n, chZ f fr i t n = bif allB (fun k => decide (f (24 * i + k) = fr (24 * t + k))) n then nI 0 else nI 1
  | 0 => rfl
  | n + 1 => by
    have ih := chg_all f fr i t n
    unfold chZ at ih ⊢
    rw [it_succ, ih]
    show _ = bif allB _ n && decide _ then _ else _
    by_cases q : f (24 * i + n) = fr (24 * t + n)
    · rw [if_pos q, show decide (f (24 * i + n) = fr (24 * t + n)) = true from decide_eq_true q, Bool.and_true]
    · rw [if_neg q, show decide (f (24 * i + n) = fr (24 * t + n)) = false from decide_eq_false q, Bool.and_false]
      rfl
theorem dif_all (N : Nat) (hN : N ≤ 24) (a b : Nat → Int32) : difI N a b = bif allB (fun k => decide (a k = b k)) N then nI 0 else nI 1 := by
  unfold difI difP
  cases q : allB (fun k => decide (a k = b k)) N with
  | true =>
    rw [fd_none (fun j _ hj => decide_eq_false (fun w => w (of_decide_eq_true (allB_iff.mp q j (by omega)))))]
    rfl
  | false =>
    rcases fd_cases (fun k => decide (¬ a k = b k)) (-7) N 0 with w | ⟨w, _, h2, h3, _⟩
    · exfalso
      have : allB (fun k => decide (a k = b k)) N = true := by
        refine allB_t (fun j hj => ?_)
        cases e : decide (a j = b j) with
        | true => rfl
        | false =>
          exfalso
          have key : ∀ (p : Nat → Bool) (r i j : Nat), i ≤ j → j < i + r → p j = true → fd p (-7) r i ≠ -7 ∨ N < r + i := by
            intro p r
            induction r with
            | zero => intro i j h1 h2 _; omega
            | succ r ih =>
              intro i j h1 h2 hp
              unfold fd
              cases hpi : p i with
              | true =>
                by_cases hb : N < r + 1 + i
                · exact .inr hb
                · left
                  rw [cond_true]
                  intro w
                  have w2 := congrArg Int32.toInt w
                  rw [nI_toInt (by omega), show (-7 : Int32).toInt = -7 by decide] at w2
                  omega
              | false =>
                rw [cond_false]
                have hne : i ≠ j := fun e => by rw [e, hp] at hpi; exact absurd hpi (by decide)
                rcases ih (i + 1) j (by omega) (by omega) hp with w | w
                · exact .inl w
                · exact .inr (by omega)
          rcases key (fun k => decide (¬ a k = b k)) N 0 j (Nat.zero_le _) (by omega) (decide_eq_true (of_decide_eq_false e)) with k1 | k1
          · exact k1 w
          · omega
      rw [q] at this
      exact absurd this (by decide)
    · rw [h3, show decide (nI w = -7) = false from decide_eq_false (fun e => by
        have := congrArg Int32.toInt e
        rw [nI_toInt (by omega), show (-7 : Int32).toInt = -7 by decide] at this
        omega)]
      rfl
theorem ch_eq {N : Nat} {a b : Nat → Int32} {f fr : Nat → Int64} {i t : Nat} (hN : N ≤ 24) (ha : ∀ k, k < 24 → f (24 * i + k) = (a k).toInt64) (hb : ∀ k, k < 24 → fr (24 * t + k) = (b k).toInt64) (oa : RowOk N a) (ob : RowOk N b) : difI N a b = chZ f fr i t 24 := by
  rw [dif_all N hN, chg_all]
  have := allB_pad (p := fun k => decide (a k = b k)) (p' := fun k => decide (f (24 * i + k) = fr (24 * t + k))) (n := N) (m := 24 - N) (fun k hk => by
    rw [ha k (by omega), hb k (by omega)]
    exact decide_eq_decide.mpr i64_inj) (fun k h1 h2 => by
    rw [ha k (by omega), hb k (by omega), oa.1 k h1, ob.1 k h1]
    exact decide_eq_true rfl)
  rw [show N + (24 - N) = 24 by omega] at this
  rw [this]
theorem RR.setP {K : KV} {z : MZ} (h : RR K z) {al be : Nat → Nat → Int32} {fa fb : Nat → Int64} (ha : Fl 5 al fa) (hb : Fl 5 be fb) (ho : ∀ t, t < 5 → RowOk K.2.1.1 (al t) ∧ RowOk K.2.1.1 (be t)) : RR (kSt K (K.2.1.1, K.2.1.2.1, (K.2.1.2.2.1.1, al, be), nI 0, 0)) (s_tnp z fa fb (nI 0) 0) := by
  obtain ⟨⟨a0, a1, a2, a3, a4, a5, a6, a7⟩, ⟨b0, b1, b2, b3, b4, b5, b6⟩, h2, h3, h4, h5, h6, h7⟩ := h
  simp only [RR, kSt, s_tnp, R1, SI]
  exact ⟨⟨a0, a1, trivial, trivial, a4, ha, hb, fun i hi => absurd hi (Nat.not_lt_zero _)⟩, ⟨b0, b1, b2, Nat.zero_le _, b4, ho, fun i hi => absurd hi (Nat.not_lt_zero _)⟩, h2, h3, h4, h5, h6, h7⟩
theorem rr_seA {K : KV} {z : MZ} (h : RR K z) (y x : Int32) : Sm K z (oSeA K y x) (qSeA z y x) := by
  have hn := h.n24
  unfold oSeA qSeA spA
  rw [h.n, h.r, btw_hix (n := 5) (by decide) (by decide)]
  cases hx : hix 6 x with
  | false => exact .same h _
  | true =>
    cases hy : hix 5 y with
    | false => exact .same h _
    | true =>
      have hx6' := hx6 hx
      have hy5 := hx5 hy
      have fl : Fl 5 (va_up K.2.1.2.2.1.2.1 (iN y) (K.2.1.2.1 (iN x))) (rpZ (cp120 z.2.2.2.2.2.2.2.2.2.2.2.2.1 0 z.2.2.2.2.2.2.2.2.2.2.2.2.2.2.2.2.2.2.1 0) z.2.2.2.2.2.2.2.2.2.2.2.1 (iN y) (iN x)) := (h.fa.cp).rp h.fr hx6'
      have ch : difI K.2.1.1 (K.2.1.2.2.1.2.1 (iN y)) (K.2.1.2.1 (iN x)) = chZ (cp120 z.2.2.2.2.2.2.2.2.2.2.2.2.1 0 z.2.2.2.2.2.2.2.2.2.2.2.2.2.2.2.2.2.2.1 0) z.2.2.2.2.2.2.2.2.2.2.2.1 (iN y) (iN x) 24 := ch_eq hn (fun k hk => (h.fa.cp) _ k hy5 hk) (fun k hk => h.fr _ k hx6' hk) (h.pair _ hy5).1 (h.row hx6')
      have e3 := bOk_eq (r := K.2.1.2.2.1.1) hn fl
      rw [cond_true, cond_true, cond_true, cond_true, e3]
      show Sm K z ((bif bOk K.2.1.1 K.2.1.2.2.1.1 (va_up K.2.1.2.2.1.2.1 (iN y) (K.2.1.2.1 (iN x))) then _ else _ : Int32 × SV).1, kSt K (bif bOk K.2.1.1 K.2.1.2.2.1.1 (va_up K.2.1.2.2.1.2.1 (iN y) (K.2.1.2.1 (iN x))) then _ else _ : Int32 × SV).2) _
      cases q : bOk K.2.1.1 K.2.1.2.2.1.1 (va_up K.2.1.2.2.1.2.1 (iN y) (K.2.1.2.1 (iN x))) with
      | false => exact .same h _
      | true =>
        rw [cond_true, cond_true]
        refine ⟨ch, h.setP (Fl.cp fl) (Fl.cp (nb_fl hn fl q)) (fun t ht => ⟨up_ok (fun s hs => (h.pair s hs).1) (h.row hx6') t ht, wrT_ok (allB_iff.mp q t ht)⟩)⟩
theorem rr_seB {K : KV} {z : MZ} (h : RR K z) (y x : Int32) : Sm K z (oSeB K y x) (qSeB z y x) := by
  have hn := h.n24
  unfold oSeB qSeB spB
  rw [h.n, h.r, btw_hix (n := 5) (by decide) (by decide)]
  cases hx : hix 6 x with
  | false => exact .same h _
  | true =>
    cases hy : hix 5 y with
    | false => exact .same h _
    | true =>
      have hx6' := hx6 hx
      have hy5 := hx5 hy
      have fl : Fl 5 (va_up K.2.1.2.2.1.2.2 (iN y) (K.2.1.2.1 (iN x))) (rpZ (cp120 z.2.2.2.2.2.2.2.2.2.2.2.2.2.1 0 z.2.2.2.2.2.2.2.2.2.2.2.2.2.2.2.2.2.2.2.1 0) z.2.2.2.2.2.2.2.2.2.2.2.1 (iN y) (iN x)) := (h.fb.cp).rp h.fr hx6'
      have ch : difI K.2.1.1 (K.2.1.2.2.1.2.2 (iN y)) (K.2.1.2.1 (iN x)) = chZ (cp120 z.2.2.2.2.2.2.2.2.2.2.2.2.2.1 0 z.2.2.2.2.2.2.2.2.2.2.2.2.2.2.2.2.2.2.2.1 0) z.2.2.2.2.2.2.2.2.2.2.2.1 (iN y) (iN x) 24 := ch_eq hn (fun k hk => (h.fb.cp) _ k hy5 hk) (fun k hk => h.fr _ k hx6' hk) (h.pair _ hy5).2 (h.row hx6')
      have e3 := aOk_eq (r := K.2.1.2.2.1.1) (al := fun _ _ => 0) (f := z.2.2.2.2.2.2.2.2.2.2.2.2.2.2.2.2.2.2.1) hn fl
      rw [cond_true, cond_true, cond_true, cond_true, e3]
      show Sm K z ((bif aOk K.2.1.1 K.2.1.2.2.1.1 (va_up K.2.1.2.2.1.2.2 (iN y) (K.2.1.2.1 (iN x))) (fun _ _ => 0) then _ else _ : Int32 × SV).1, kSt K (bif aOk K.2.1.1 K.2.1.2.2.1.1 (va_up K.2.1.2.2.1.2.2 (iN y) (K.2.1.2.1 (iN x))) (fun _ _ => 0) then _ else _ : Int32 × SV).2) _
      cases q : aOk K.2.1.1 K.2.1.2.2.1.1 (va_up K.2.1.2.2.1.2.2 (iN y) (K.2.1.2.1 (iN x))) (fun _ _ => 0) with
      | false => exact .same h _
      | true =>
        have na := na_fl (f := z.2.2.2.2.2.2.2.2.2.2.2.2.2.2.2.2.2.2.1) hn fl q
        rw [cond_true, cond_true]
        refine ⟨ch, h.setP (Fl.cp na.1) (Fl.cp fl) (fun t ht => ⟨na.2 t ht, up_ok (fun s hs => (h.pair s hs).2) (h.row hx6') t ht⟩)⟩
