def wdL : List Nat := [100, 105, 115, 116, 105, 110, 99, 116, 111, 100, 100, 103, 97, 112, 110, 111, 111, 110, 101, 115, 101, 118, 101, 110, 115, 101, 108, 102, 99, 111, 110, 106, 117, 103, 97, 116, 101]
def bgL : List Nat := [0, 8, 11, 14, 20, 24, 37]
def wdN (k : Nat) : Nat := wdL.getD k 0
def bgN (k : Nat) : Nat := bgL.getD k 0
theorem bg_le {t : Nat} (ht : t < 6) : bgN t ≤ bgN (t + 1) ∧ bgN (t + 1) ≤ 37 := by
  have : ∀ t : Nat, t < 6 → bgN t ≤ bgN (t + 1) ∧ bgN (t + 1) ≤ 37 := by decide
  exact this t ht
theorem wd_le (k : Nat) : wdN k < 128 := by
  by_cases h : k < 37
  · have : ∀ k : Nat, k < 37 → wdN k < 128 := by decide
    exact this k h
  · unfold wdN
    rw [List.getD_eq_getElem?_getD, List.getElem?_eq_none (by show 37 ≤ k; omega)]
    decide
def WdOk (z : MZ) : Prop := (∀ k, k < 37 → z.2.2.2.2.2.2.2.2.2.2.2.2.2.2.2.2.2.2.2.2.2.2.2.1 k = nI (wdN k)) ∧ ∀ k, k < 7 → z.2.2.2.2.2.2.2.2.2.2.2.2.2.2.2.2.2.2.2.2.2.2.2.2.1 k = nI (bgN k)
def wmB (hd : Nat) (fi : Nat → Nat) (w : Nat) : Bool := decide (hd = bgN (w + 1) - bgN w) && allB (fun k => decide (fi k = wdN (bgN w + k))) hd
def wiF (hd : Nat) (fi : Nat → Nat) : Int32 := fd (wmB hd fi) (-7) 6 0
theorem fd_cases (p : Nat → Bool) (d : Int32) : ∀ r i : Nat, fd p d r i = d ∨ ∃ w : Nat, i ≤ w ∧ w < i + r ∧ fd p d r i = nI w ∧ p w = true
  | 0, _ => Or.inl rfl
  | r + 1, i => by
    rw [fd]
    cases h : p i with
    | true => exact Or.inr ⟨i, Nat.le_refl _, by omega, rfl, h⟩
    | false =>
      rcases fd_cases p d r (i + 1) with e | ⟨w, h1, h2, h3, h4⟩
      · exact Or.inl e
      · exact Or.inr ⟨w, by omega, by omega, h3, h4⟩
theorem wi_cases (hd : Nat) (fi : Nat → Nat) : wiF hd fi = -7 ∨ ∃ w : Nat, w < 6 ∧ wiF hd fi = nI w := by
  rcases fd_cases (wmB hd fi) (-7) 6 0 with e | ⟨w, _, h2, h3, _⟩
  · exact Or.inl e
  · exact Or.inr ⟨w, by omega, h3⟩
def koM (w t : Nat) (s : (Nat → Nat) × Nat) : (Nat → Nat) × Nat := bif mpB w (fun k => s.1 (16 * t + k)) then (cpR s.1 t s.2, s.2 + 1) else s
theorem koM_t {w t : Nat} {s : (Nat → Nat) × Nat} (h : mpB w (fun k => s.1 (16 * t + k)) = true) : koM w t s = (cpR s.1 t s.2, s.2 + 1) := by unfold koM; rw [h]; rfl
theorem koM_f {w t : Nat} {s : (Nat → Nat) × Nat} (h : mpB w (fun k => s.1 (16 * t + k)) = false) : koM w t s = s := by unfold koM; rw [h]; rfl
theorem koM_le (w : Nat) (y : Nat → Nat) : ∀ t : Nat, (it (koM w) t (y, 0)).2 ≤ t
  | 0 => Nat.le_refl _
  | t + 1 => by
    have h := koM_le w y t
    rw [it_succ]
    cases e : mpB w (fun k => (it (koM w) t (y, 0)).1 (16 * t + k)) with
    | true => rw [koM_t e]; show _ + 1 ≤ _; omega
    | false => rw [koM_f e]; omega
theorem koM_hb (w : Nat) {y : Nat → Nat} (hb : ∀ k, y k ≤ 16) : ∀ t k : Nat, (it (koM w) t (y, 0)).1 k ≤ 16
  | 0, k => hb k
  | t + 1, k => by
    have h := koM_hb w hb t
    rw [it_succ]
    cases e : mpB w (fun k => (it (koM w) t (y, 0)).1 (16 * t + k)) with
    | true => rw [koM_t e]; show cpR _ _ _ k ≤ 16; unfold cpR; split <;> exact h _
    | false => rw [koM_f e]; exact h k
def cpI (y : Nat → Nat) (p kt q : Nat) : Nat → Nat := fun j => if kt * 16 ≤ j ∧ j < kt * 16 + q then y (p * 16 + (j - kt * 16)) else y j
theorem cpI_hb {y : Nat → Nat} {p kt q : Nat} (hb : ∀ k, y k ≤ 16) (k : Nat) : cpI y p kt q k ≤ 16 := by unfold cpI; split <;> exact hb _
theorem cpI_at {y : Nat → Nat} {p kt q : Nat} (hk : kt ≤ p) (hq : q < 16) : zx (fun k => cpI y p kt q (16 * p + k)) q = y (16 * p + q) := by
  unfold zx cpI
  rw [if_neg (by omega)]
  exact if_neg (by omega)
theorem cpI_s {y : Nat → Nat} {p kt q : Nat} (j : Nat) : upd (fun k => nI (cpI y p kt q k)) (16 * kt + q) (nI (y (16 * p + q))) j = nI (cpI y p kt (q + 1) j) := by
  rw [pt_up]
  congr 1
  unfold cpI
  by_cases e : j = 16 * kt + q
  · subst e
    rw [va_up_self, if_pos (by omega), show p * 16 + (16 * kt + q - kt * 16) = 16 * p + q by omega]
  · rw [va_up_ne _ _ e]
    by_cases h : kt * 16 ≤ j ∧ j < kt * 16 + q
    · rw [if_pos h, if_pos (by omega)]
    · rw [if_neg h, if_neg (by omega)]
theorem cpI_0 {y : Nat → Nat} {p kt : Nat} (j : Nat) : cpI y p kt 0 j = y j := if_neg (by omega)
def qFlt (z : MZ) : Int32 × MZ := if 0 ≤ wiF z.2.2.2.2.2.1 z.2.2.2.2.2.2.2.2.2.2.2.2.2.2.2.2.2.2.2.2.2.2.2.2.2.1 then (nI (it (koM (iN (wiF z.2.2.2.2.2.1 z.2.2.2.2.2.2.2.2.2.2.2.2.2.2.2.2.2.2.2.2.2.2.2.2.2.1))) z.2.2.2.2.1 (z.2.2.2.2.2.2.2.2.2.2.2.2.2.2.2.2.2.2.2.2.2.1, 0)).2, s_hfp z 0 (it (koM (iN (wiF z.2.2.2.2.2.1 z.2.2.2.2.2.2.2.2.2.2.2.2.2.2.2.2.2.2.2.2.2.2.2.2.2.1))) z.2.2.2.2.1 (z.2.2.2.2.2.2.2.2.2.2.2.2.2.2.2.2.2.2.2.2.2.1, 0)).1 (it (koM (iN (wiF z.2.2.2.2.2.1 z.2.2.2.2.2.2.2.2.2.2.2.2.2.2.2.2.2.2.2.2.2.2.2.2.2.1))) z.2.2.2.2.1 (z.2.2.2.2.2.2.2.2.2.2.2.2.2.2.2.2.2.2.2.2.2.1, 0)).2) else (-1, s_hd z 0)
set_option maxHeartbeats 4000000 in
set_option maxRecDepth 100000 in
theorem c_X8_wordInInput {S : ST} {E : ET} {g : Nat → va_E} {z : MZ} (hM : MC S E g z) (hW : WdOk z) (hL : z.2.2.2.2.2.1 ≤ 60) (h128 : ∀ k, z.2.2.2.2.2.2.2.2.2.2.2.2.2.2.2.2.2.2.2.2.2.2.2.2.2.1 k < 128) : CtI S E yX8_wordInInput cX8_wordInInput 4 (Option.some FieldType.int) rmX8_wordInInput [.ref (E.1 286)] g (fun u g' => u = wiF z.2.2.2.2.2.1 z.2.2.2.2.2.2.2.2.2.2.2.2.2.2.2.2.2.2.2.2.2.2.2.2.2.1 ∧ g = g') := by
  refine Ct.of RX8 (by decide +kernel) rfl (Nat.le_of_ble_eq_true rfl) (fun M C Z => ?_)
  refine G.eq (pc' := 0) (vs' := [some (.ref (E.1 286)), none, none, none]) (st' := []) ?_
  refine r_iconst (pc := 0) (v := nI 0) C dX8_wordInInput_0 (by decide +kernel) ?_
  refine r_istore_n (pc := 1) C dX8_wordInInput_1 (by decide) ?_
  refine G.eq (pc' := 2) (vs' := [some (.ref (E.1 286)), some (.int (nI 0)), none, none]) (st' := []) ?_
  refine bk (P := fun t2 => (∀ j : Nat, j < t2 → (wmB z.2.2.2.2.2.1 z.2.2.2.2.2.2.2.2.2.2.2.2.2.2.2.2.2.2.2.2.2.2.2.2.2.1) j = false) → G M S E (0, 0) g 2 [some (.ref (E.1 286)), some (.int (nI t2)), none, none] []) (T := 6) (fun hh => ?_) (fun t2 ht ih hh => ?_) (fun j hj => absurd hj (Nat.not_lt_zero j))
  · show G M S E (0, 0) g 2 [some (.ref (E.1 286)), some (.int (nI 6)), none, none] []
    refine r_iload_n (pc := 2) C dX8_wordInInput_2 rfl ?_
    refine r_bipush (pc := 3) (v := nI 6) C dX8_wordInInput_3 (by decide +kernel) ?_
    refine r_icmp_ge (pc := 5) (tgt := 96) C dX8_wordInInput_5 (by decide) (fun h5 => ?_) (fun h5 => ?_)
    · have h5 := c_le (by omega) (by omega) h5
      refine r_bipush (pc := 96) (v := (-7)) C dX8_wordInInput_96 (by decide +kernel) ?_
      exact r_iret (pc := 98) C Z dX8_wordInInput_98 rfl (⟨(fd_none (fun j _ hj => hh j (by omega))).symm, rfl⟩)
    · have h5 := c_nle (by omega) (by omega) h5
      omega
  · show G M S E (0, 0) g 2 [some (.ref (E.1 286)), some (.int (nI t2)), none, none] []
    refine r_iload_n (pc := 2) C dX8_wordInInput_2 rfl ?_
    refine r_bipush (pc := 3) (v := nI 6) C dX8_wordInInput_3 (by decide +kernel) ?_
    refine r_icmp_ge (pc := 5) (tgt := 96) C dX8_wordInInput_5 (by decide) (fun h5 => ?_) (fun h5 => ?_)
    · have h5 := c_le (by omega) (by omega) h5
      omega
    · have h5 := c_nle (by omega) (by omega) h5
      have hbg := bg_le (t := t2) (by omega)
      have hh2 := hh
      have ih2 := ih
      refine r_aload_n (pc := 8) C dX8_wordInInput_8 rfl ?_
      refine r_getf (pc := 9) C dX8_wordInInput_9 fl_RX8_242 hM.1 rfl ?_
      refine r_aload_n (pc := 12) C dX8_wordInInput_12 rfl ?_
      refine r_getf (pc := 13) C dX8_wordInInput_13 fl_RX8_62 hM.1 rfl ?_
      refine r_iload_n (pc := 16) C dX8_wordInInput_16 rfl ?_
      refine r_iconst (pc := 17) (v := nI 1) C dX8_wordInInput_17 (by decide +kernel) ?_
      refine r_iadd (pc := 18) C dX8_wordInInput_18 ?_
      refine r_ti (nI (t2 + 1)) (nI_add _ _) ?_
      refine r_iald (pc := 19) C dX8_wordInInput_19 hM.2.2.2.2.2.2.2.2.2.2.2.2.2.2.1 rfl (by omega) (by omega) ?_
      refine r_ti (nI (bgN (t2 + 1))) (hW.2 _ (by omega)) ?_
      refine r_aload_n (pc := 20) C dX8_wordInInput_20 rfl ?_
      refine r_getf (pc := 21) C dX8_wordInInput_21 fl_RX8_62 hM.1 rfl ?_
      refine r_iload_n (pc := 24) C dX8_wordInInput_24 rfl ?_
      refine r_iald (pc := 25) C dX8_wordInInput_25 hM.2.2.2.2.2.2.2.2.2.2.2.2.2.2.1 rfl (by omega) (by omega) ?_
      refine r_ti (nI (bgN t2)) (hW.2 _ (by omega)) ?_
      refine r_isub (pc := 26) C dX8_wordInInput_26 ?_
      refine r_ti (nI (bgN (t2 + 1) - (bgN t2))) (pk_sub (by omega)) ?_
      refine r_icmp_ne (pc := 27) (tgt := 34) C dX8_wordInInput_27 (by decide) (fun h27 => ?_) (fun h27 => ?_)
      · have h27 := c_ne (by omega) (by omega) h27
        refine r_iconst (pc := 34) (v := nI 0) C dX8_wordInInput_34 (by decide +kernel) ?_
        refine r_istore_n (pc := 35) C dX8_wordInInput_35 (by decide) ?_
        refine G.eq (pc' := 36) (vs' := [some (.ref (E.1 286)), some (.int (nI t2)), some (.int (nI 0)), none]) (st' := []) ?_
        refine r_iconst (pc := 36) (v := nI 0) C dX8_wordInInput_36 (by decide +kernel) ?_
        refine r_istore_n (pc := 37) C dX8_wordInInput_37 (by decide) ?_
        refine G.eq (pc' := 38) (vs' := [some (.ref (E.1 286)), some (.int (nI t2)), some (.int (nI 0)), some (.int (nI 0))]) (st' := []) ?_
        refine r_iload_n (pc := 38) C dX8_wordInInput_38 rfl ?_
        refine r_if_eq (pc := 39) (tgt := 84) C dX8_wordInInput_39 (by decide) (fun h39 => ?_) (fun h39 => ?_)
        · have h39 := z_eq (by omega) h39
          refine r_iload_n (pc := 84) C dX8_wordInInput_84 rfl ?_
          refine r_if_eq (pc := 85) (tgt := 90) C dX8_wordInInput_85 (by decide) (fun h85 => ?_) (fun h85 => ?_)
          · have h85 := z_eq (by omega) h85
            refine r_iinc (pc := 90) (v := nI (t2 + 1)) C dX8_wordInInput_90 rfl (nI_i1 _) (by decide) ?_
            refine G.eq (pc' := 93) (vs' := [some (.ref (E.1 286)), some (.int (nI (t2 + 1))), some (.int (nI 0)), some (.int (nI 0))]) (st' := []) ?_
            refine r_goto (pc := 93) (tgt := 2) C dX8_wordInInput_93 (by decide) ?_
            refine G.wk (vs' := [some (.ref (E.1 286)), some (.int (nI (t2 + 1))), none, none]) ⟨rfl, rfl, trivial⟩ ?_
            exact (ih2 (lt_s hh2 (by unfold wmB; rw [show decide (z.2.2.2.2.2.1 = bgN (t2 + 1) - bgN t2) = false from decide_eq_false (by omega)]; rfl)))
          · have h85 := z_ne (by omega) h85
            omega
        · have h39 := z_ne (by omega) h39
          omega
      · have h27 := c_eq (by omega) (by omega) h27
        refine r_iconst (pc := 30) (v := nI 1) C dX8_wordInInput_30 (by decide +kernel) ?_
        refine r_goto (pc := 31) (tgt := 35) C dX8_wordInInput_31 (by decide) ?_
        refine r_istore_n (pc := 35) C dX8_wordInInput_35 (by decide) ?_
        refine G.eq (pc' := 36) (vs' := [some (.ref (E.1 286)), some (.int (nI t2)), some (.int (nI 1)), none]) (st' := []) ?_
        refine r_iconst (pc := 36) (v := nI 0) C dX8_wordInInput_36 (by decide +kernel) ?_
        refine r_istore_n (pc := 37) C dX8_wordInInput_37 (by decide) ?_
        refine G.eq (pc' := 38) (vs' := [some (.ref (E.1 286)), some (.int (nI t2)), some (.int (nI 1)), some (.int (nI 0))]) (st' := []) ?_
        refine bk (P := fun t3 => (∀ j : Nat, j < t3 → (fun k => decide (z.2.2.2.2.2.2.2.2.2.2.2.2.2.2.2.2.2.2.2.2.2.2.2.2.2.1 k = wdN (bgN t2 + k))) j = true) → G M S E (0, 0) g 38 [some (.ref (E.1 286)), some (.int (nI t2)), some (.int (nI 1)), some (.int (nI t3))] []) (T := z.2.2.2.2.2.1) (fun hh => ?_) (fun t3 ht ih hh => ?_) (fun j hj => absurd hj (Nat.not_lt_zero j))
        · show G M S E (0, 0) g 38 [some (.ref (E.1 286)), some (.int (nI t2)), some (.int (nI 1)), some (.int (nI z.2.2.2.2.2.1))] []
          refine r_iload_n (pc := 38) C dX8_wordInInput_38 rfl ?_
          refine r_if_eq (pc := 39) (tgt := 84) C dX8_wordInInput_39 (by decide) (fun h39 => ?_) (fun h39 => ?_)
          · have h39 := z_eq (by omega) h39
            omega
          · have h39 := z_ne (by omega) h39
            refine r_iload_n (pc := 42) C dX8_wordInInput_42 rfl ?_
            refine r_aload_n (pc := 43) C dX8_wordInInput_43 rfl ?_
            refine r_getf (pc := 44) C dX8_wordInInput_44 fl_RX8_242 hM.1 rfl ?_
            refine r_icmp_ge (pc := 47) (tgt := 84) C dX8_wordInInput_47 (by decide) (fun h47 => ?_) (fun h47 => ?_)
            · have h47 := c_le (by omega) (by omega) h47
              refine r_iload_n (pc := 84) C dX8_wordInInput_84 rfl ?_
              refine r_if_eq (pc := 85) (tgt := 90) C dX8_wordInInput_85 (by decide) (fun h85 => ?_) (fun h85 => ?_)
              · have h85 := z_eq (by omega) h85
                omega
              · have h85 := z_ne (by omega) h85
                refine r_iload_n (pc := 88) C dX8_wordInInput_88 rfl ?_
                exact r_iret (pc := 89) C Z dX8_wordInInput_89 rfl (⟨by unfold wiF; exact (fd_first (p := (wmB z.2.2.2.2.2.1 z.2.2.2.2.2.2.2.2.2.2.2.2.2.2.2.2.2.2.2.2.2.2.2.2.2.1)) (fun j _ hj => hh2 j hj) (by unfold wmB; rw [show decide (z.2.2.2.2.2.1 = bgN (t2 + 1) - bgN t2) = true from decide_eq_true (by omega), show allB (fun k => decide (z.2.2.2.2.2.2.2.2.2.2.2.2.2.2.2.2.2.2.2.2.2.2.2.2.2.1 k = wdN (bgN t2 + k))) z.2.2.2.2.2.1 = true from allB_t hh]; rfl) (Nat.zero_le _) (by omega)).symm, rfl⟩)
            · have h47 := c_nle (by omega) (by omega) h47
              omega
        · show G M S E (0, 0) g 38 [some (.ref (E.1 286)), some (.int (nI t2)), some (.int (nI 1)), some (.int (nI t3))] []
          refine r_iload_n (pc := 38) C dX8_wordInInput_38 rfl ?_
          refine r_if_eq (pc := 39) (tgt := 84) C dX8_wordInInput_39 (by decide) (fun h39 => ?_) (fun h39 => ?_)
          · have h39 := z_eq (by omega) h39
            omega
          · have h39 := z_ne (by omega) h39
            refine r_iload_n (pc := 42) C dX8_wordInInput_42 rfl ?_
            refine r_aload_n (pc := 43) C dX8_wordInInput_43 rfl ?_
            refine r_getf (pc := 44) C dX8_wordInInput_44 fl_RX8_242 hM.1 rfl ?_
            refine r_icmp_ge (pc := 47) (tgt := 84) C dX8_wordInInput_47 (by decide) (fun h47 => ?_) (fun h47 => ?_)
            · have h47 := c_le (by omega) (by omega) h47
              omega
            · have h47 := c_nle (by omega) (by omega) h47
              have hfi := h128 t3
              have hwd := wd_le (bgN t2 + t3)
              refine r_aload_n (pc := 50) C dX8_wordInInput_50 rfl ?_
              refine r_getf (pc := 51) C dX8_wordInInput_51 fl_RX8_65 hM.1 rfl ?_
              refine r_iload_n (pc := 54) C dX8_wordInInput_54 rfl ?_
              refine r_iald (pc := 55) C dX8_wordInInput_55 hM.2.2.2.2.2.2.2.2.2.2.2.2.2.2.2.1 rfl (by omega) (by omega) ?_
              refine r_ti (nI (z.2.2.2.2.2.2.2.2.2.2.2.2.2.2.2.2.2.2.2.2.2.2.2.2.2.1 t3)) rfl ?_
              refine r_aload_n (pc := 56) C dX8_wordInInput_56 rfl ?_
              refine r_getf (pc := 57) C dX8_wordInInput_57 fl_RX8_59 hM.1 rfl ?_
              refine r_aload_n (pc := 60) C dX8_wordInInput_60 rfl ?_
              refine r_getf (pc := 61) C dX8_wordInInput_61 fl_RX8_62 hM.1 rfl ?_
              refine r_iload_n (pc := 64) C dX8_wordInInput_64 rfl ?_
              refine r_iald (pc := 65) C dX8_wordInInput_65 hM.2.2.2.2.2.2.2.2.2.2.2.2.2.2.1 rfl (by omega) (by omega) ?_
              refine r_ti (nI (bgN t2)) (hW.2 _ (by omega)) ?_
              refine r_iload_n (pc := 66) C dX8_wordInInput_66 rfl ?_
              refine r_iadd (pc := 67) C dX8_wordInInput_67 ?_
              refine r_ti (nI (bgN t2 + t3)) (nI_add _ _) ?_
              refine r_iald (pc := 68) C dX8_wordInInput_68 hM.2.2.2.2.2.2.2.2.2.2.2.2.2.1 rfl (by omega) (by omega) ?_
              refine r_ti (nI (wdN (bgN t2 + t3))) (hW.1 _ (by omega)) ?_
              refine r_icmp_ne (pc := 69) (tgt := 76) C dX8_wordInInput_69 (by decide) (fun h69 => ?_) (fun h69 => ?_)
              · have h69 := c_ne (by omega) (by omega) h69
                refine r_iconst (pc := 76) (v := nI 0) C dX8_wordInInput_76 (by decide +kernel) ?_
                refine r_istore_n (pc := 77) C dX8_wordInInput_77 (by decide) ?_
                refine G.eq (pc' := 78) (vs' := [some (.ref (E.1 286)), some (.int (nI t2)), some (.int (nI 0)), some (.int (nI t3))]) (st' := []) ?_
                refine r_iinc (pc := 78) (v := nI (t3 + 1)) C dX8_wordInInput_78 rfl (nI_i1 _) (by decide) ?_
                refine G.eq (pc' := 81) (vs' := [some (.ref (E.1 286)), some (.int (nI t2)), some (.int (nI 0)), some (.int (nI (t3 + 1)))]) (st' := []) ?_
                refine r_goto (pc := 81) (tgt := 38) C dX8_wordInInput_81 (by decide) ?_
                refine r_iload_n (pc := 38) C dX8_wordInInput_38 rfl ?_
                refine r_if_eq (pc := 39) (tgt := 84) C dX8_wordInInput_39 (by decide) (fun h39 => ?_) (fun h39 => ?_)
                · have h39 := z_eq (by omega) h39
                  refine r_iload_n (pc := 84) C dX8_wordInInput_84 rfl ?_
                  refine r_if_eq (pc := 85) (tgt := 90) C dX8_wordInInput_85 (by decide) (fun h85 => ?_) (fun h85 => ?_)
                  · have h85 := z_eq (by omega) h85
                    refine r_iinc (pc := 90) (v := nI (t2 + 1)) C dX8_wordInInput_90 rfl (nI_i1 _) (by decide) ?_
                    refine G.eq (pc' := 93) (vs' := [some (.ref (E.1 286)), some (.int (nI (t2 + 1))), some (.int (nI 0)), some (.int (nI (t3 + 1)))]) (st' := []) ?_
                    refine r_goto (pc := 93) (tgt := 2) C dX8_wordInInput_93 (by decide) ?_
                    refine G.wk (vs' := [some (.ref (E.1 286)), some (.int (nI (t2 + 1))), none, none]) ⟨rfl, rfl, trivial⟩ ?_
                    exact (ih2 (lt_s hh2 (by unfold wmB; rw [show allB (fun k => decide (z.2.2.2.2.2.2.2.2.2.2.2.2.2.2.2.2.2.2.2.2.2.2.2.2.2.1 k = wdN (bgN t2 + k))) z.2.2.2.2.2.1 = false from allB_f ht (decide_eq_false h69), Bool.and_false])))
                  · have h85 := z_ne (by omega) h85
                    omega
                · have h39 := z_ne (by omega) h39
                  omega
              · have h69 := c_eq (by omega) (by omega) h69
                refine r_iconst (pc := 72) (v := nI 1) C dX8_wordInInput_72 (by decide +kernel) ?_
                refine r_goto (pc := 73) (tgt := 77) C dX8_wordInInput_73 (by decide) ?_
                refine r_istore_n (pc := 77) C dX8_wordInInput_77 (by decide) ?_
                refine G.eq (pc' := 78) (vs' := [some (.ref (E.1 286)), some (.int (nI t2)), some (.int (nI 1)), some (.int (nI t3))]) (st' := []) ?_
                refine r_iinc (pc := 78) (v := nI (t3 + 1)) C dX8_wordInInput_78 rfl (nI_i1 _) (by decide) ?_
                refine G.eq (pc' := 81) (vs' := [some (.ref (E.1 286)), some (.int (nI t2)), some (.int (nI 1)), some (.int (nI (t3 + 1)))]) (st' := []) ?_
                refine r_goto (pc := 81) (tgt := 38) C dX8_wordInInput_81 (by decide) ?_
                exact (ih (lt_s hh (decide_eq_true h69)))
set_option maxHeartbeats 4000000 in
set_option maxRecDepth 100000 in
theorem c_X8_filterPartitions {S : ST} {E : ET} {g : Nat → va_E} {z : MZ} (hM : MC S E g z) (h4 : 4 ≤ z.1) (hN : z.1 ≤ 24) (hr : z.2.1 ≤ 1) (hW : WdOk z) (hL : z.2.2.2.2.2.1 ≤ 60) (h128 : ∀ k, z.2.2.2.2.2.2.2.2.2.2.2.2.2.2.2.2.2.2.2.2.2.2.2.2.2.1 k < 128) (hpc : z.2.2.2.2.1 ≤ 231) (hb : ∀ k, z.2.2.2.2.2.2.2.2.2.2.2.2.2.2.2.2.2.2.2.2.2.1 k ≤ 16) : CtI S E yX8_filterPartitions cX8_filterPartitions 5 (Option.some FieldType.int) rmX8_filterPartitions [.ref (E.1 286)] g (fun u g' => u = (qFlt z).1 ∧ MC S E g' (qFlt z).2 ∧ Fr g g' 286 308) := by
  refine Ct.of RX8 (by decide +kernel) rfl (Nat.le_of_ble_eq_true rfl) (fun M C Z => ?_)
  refine G.eq (pc' := 0) (vs' := [some (.ref (E.1 286)), none, none, none, none]) (st' := []) ?_
  refine r_aload_n (pc := 0) C dX8_filterPartitions_0 rfl ?_
  refine r_callV (pc := 1) C dX8_filterPartitions_1 cv_RX8_245 (c_X8_wordInInput hM hW hL h128) ⟨rfl, rfl, by decide, by decide⟩ hM.1 rfl rfl (Nat.le_of_ble_eq_true rfl) ⟨Nat.zero_le _, Nat.zero_le _⟩ ?_
  rintro _ _ ⟨_, rfl, rfl, rfl⟩
  show G M S E (0, 0) g 4 [some (.ref (E.1 286)), none, none, none, none] [.int (wiF z.2.2.2.2.2.1 z.2.2.2.2.2.2.2.2.2.2.2.2.2.2.2.2.2.2.2.2.2.2.2.2.2.1)]
  rcases wi_cases z.2.2.2.2.2.1 z.2.2.2.2.2.2.2.2.2.2.2.2.2.2.2.2.2.2.2.2.2.2.2.2.2.1 with hw | ⟨w, hw6, hw⟩
  · refine r_ti (-7) hw ?_
    refine r_istore_n (pc := 4) C dX8_filterPartitions_4 (by decide) ?_
    refine G.eq (pc' := 5) (vs' := [some (.ref (E.1 286)), some (.int (-7)), none, none, none]) (st' := []) ?_
    refine r_aload_n (pc := 5) C dX8_filterPartitions_5 rfl ?_
    refine r_iconst (pc := 6) (v := nI 0) C dX8_filterPartitions_6 (by decide +kernel) ?_
    refine r_putf (pc := 7) C dX8_filterPartitions_7 fp_RX8_242 hM.1 rfl rfl (Nat.le_of_ble_eq_true rfl) ?_
    refine r_iload_n (pc := 10) C dX8_filterPartitions_10 rfl ?_
    refine r_if_ge (pc := 11) (tgt := 16) C dX8_filterPartitions_11 (by decide) (fun h11 => ?_) (fun h11 => ?_)
    · exact absurd h11 (by decide)
    · refine r_iconst (pc := 14) (v := (-1)) C dX8_filterPartitions_14 (by decide +kernel) ?_
      exact r_iret (pc := 15) C Z dX8_filterPartitions_15 rfl (by rw [show qFlt z = (-1, s_hd z 0) by unfold qFlt; rw [hw]; rfl]; exact ⟨rfl, (by simp only [MC, s_n, s_r, s_len, s_rem, s_pc, s_hd, s_at_, s_wr, s_cu, s_hs, s_sv, s_fr, s_fa, s_fb, s_fe, s_f1, s_f2, s_f3, s_f4, s_f5, s_f6, s_fp, s_fc, s_wd, s_bg, s_fi, s_fo, s_st, s_ss, s_fl, s_fm, s_fs, s_tnp, s_scr, s_f12, s_wr2, s_ls, s_lp, s_hfp]; exact ⟨(Ce.new hM.1), (Ce.up hM.2.1 (by decide)), (Ce.up hM.2.2.1 (by decide)), (Ce.up hM.2.2.2.1 (by decide)), (Ce.up hM.2.2.2.2.1 (by decide)), (Ce.up hM.2.2.2.2.2.1 (by decide)), (Ce.up hM.2.2.2.2.2.2.1 (by decide)), (Ce.up hM.2.2.2.2.2.2.2.1 (by decide)), (Ce.up hM.2.2.2.2.2.2.2.2.1 (by decide)), (Ce.up hM.2.2.2.2.2.2.2.2.2.1 (by decide)), (Ce.up hM.2.2.2.2.2.2.2.2.2.2.1 (by decide)), (Ce.up hM.2.2.2.2.2.2.2.2.2.2.2.1 (by decide)), (Ce.up hM.2.2.2.2.2.2.2.2.2.2.2.2.1 (by decide)), (Ce.up hM.2.2.2.2.2.2.2.2.2.2.2.2.2.1 (by decide)), (Ce.up hM.2.2.2.2.2.2.2.2.2.2.2.2.2.2.1 (by decide)), (Ce.up hM.2.2.2.2.2.2.2.2.2.2.2.2.2.2.2.1 (by decide)), (Ce.up hM.2.2.2.2.2.2.2.2.2.2.2.2.2.2.2.2.1 (by decide)), (Ce.up hM.2.2.2.2.2.2.2.2.2.2.2.2.2.2.2.2.2.1 (by decide)), (Ce.up hM.2.2.2.2.2.2.2.2.2.2.2.2.2.2.2.2.2.2.1 (by decide)), (Ce.up hM.2.2.2.2.2.2.2.2.2.2.2.2.2.2.2.2.2.2.2.1 (by decide)), (Ce.up hM.2.2.2.2.2.2.2.2.2.2.2.2.2.2.2.2.2.2.2.2.1 (by decide)), (Ce.up hM.2.2.2.2.2.2.2.2.2.2.2.2.2.2.2.2.2.2.2.2.2 (by decide))⟩), (Fr.rf.up (by omega) (by omega))⟩)
  · refine r_ti (nI w) hw ?_
    refine r_istore_n (pc := 4) C dX8_filterPartitions_4 (by decide) ?_
    refine G.eq (pc' := 5) (vs' := [some (.ref (E.1 286)), some (.int (nI w)), none, none, none]) (st' := []) ?_
    refine r_aload_n (pc := 5) C dX8_filterPartitions_5 rfl ?_
    refine r_iconst (pc := 6) (v := nI 0) C dX8_filterPartitions_6 (by decide +kernel) ?_
    refine r_putf (pc := 7) C dX8_filterPartitions_7 fp_RX8_242 hM.1 rfl rfl (Nat.le_of_ble_eq_true rfl) ?_
    refine r_iload_n (pc := 10) C dX8_filterPartitions_10 rfl ?_
    refine r_if_ge (pc := 11) (tgt := 16) C dX8_filterPartitions_11 (by decide) (fun h11 => ?_) (fun h11 => ?_)
    · have h11 := z_ge (by omega) h11
      refine r_iconst (pc := 16) (v := nI 0) C dX8_filterPartitions_16 (by decide +kernel) ?_
      refine r_istore_n (pc := 17) C dX8_filterPartitions_17 (by decide) ?_
      refine G.eq (pc' := 18) (vs' := [some (.ref (E.1 286)), some (.int (nI w)), some (.int (nI 0)), none, none]) (st' := []) ?_
      refine r_iconst (pc := 18) (v := nI 0) C dX8_filterPartitions_18 (by decide +kernel) ?_
      refine r_istore_n (pc := 19) C dX8_filterPartitions_19 (by decide) ?_
      refine G.eq (pc' := 20) (vs' := [some (.ref (E.1 286)), some (.int (nI w)), some (.int (nI 0)), some (.int (nI 0)), none]) (st' := []) ?_
      refine G.heap (Ce.id (Ce.up hM.2.2.2.2.2.2.2.2.2.2.2.1 (by decide))) ?_
      refine bk (P := fun t => G M S E (0, 0) (va_up (va_up g 286 (.inr (8, [.int (nI z.1), .int (nI z.2.1), .int z.2.2.1, .int (nI z.2.2.2.1), .ref (E.1 287), .ref (E.1 288), .ref (E.1 289), .ref (E.1 290), .ref (E.1 291), .ref (E.1 292), .ref (E.1 293), .ref (E.1 294), .ref (E.1 295), .ref (E.1 296), .ref (E.1 297), .ref (E.1 298), .int (nI z.2.2.2.2.1), .ref (E.1 299), .ref (E.1 300), .ref (E.1 301), .ref (E.1 302), .int (nI 0), .int (nI z.2.2.2.2.2.2.1), .int (nI z.2.2.2.2.2.2.2.1), .ref (E.1 303), .ref (E.1 304), .ref (E.1 305), .ref (E.1 306), .ref (E.1 307), .int (nI z.2.2.2.2.2.2.2.2.1), .int (b2i z.2.2.2.2.2.2.2.2.2.1), .int (b2i z.2.2.2.2.2.2.2.2.2.2.1)]))) 297 (xI S 3696 (fun k => nI ((it (koM w) t (z.2.2.2.2.2.2.2.2.2.2.2.2.2.2.2.2.2.2.2.2.2.1, 0)).1 k)))) 20 [some (.ref (E.1 286)), some (.int (nI w)), some (.int (nI ((it (koM w) t (z.2.2.2.2.2.2.2.2.2.2.2.2.2.2.2.2.2.2.2.2.2.1, 0)).2))), some (.int (nI t)), none] []) (T := z.2.2.2.2.1) ?_ (fun t ht ih => ?_)
      · show G M S E (0, 0) (va_up (va_up g 286 (.inr (8, [.int (nI z.1), .int (nI z.2.1), .int z.2.2.1, .int (nI z.2.2.2.1), .ref (E.1 287), .ref (E.1 288), .ref (E.1 289), .ref (E.1 290), .ref (E.1 291), .ref (E.1 292), .ref (E.1 293), .ref (E.1 294), .ref (E.1 295), .ref (E.1 296), .ref (E.1 297), .ref (E.1 298), .int (nI z.2.2.2.2.1), .ref (E.1 299), .ref (E.1 300), .ref (E.1 301), .ref (E.1 302), .int (nI 0), .int (nI z.2.2.2.2.2.2.1), .int (nI z.2.2.2.2.2.2.2.1), .ref (E.1 303), .ref (E.1 304), .ref (E.1 305), .ref (E.1 306), .ref (E.1 307), .int (nI z.2.2.2.2.2.2.2.2.1), .int (b2i z.2.2.2.2.2.2.2.2.2.1), .int (b2i z.2.2.2.2.2.2.2.2.2.2.1)]))) 297 (xI S 3696 (fun k => nI ((it (koM w) z.2.2.2.2.1 (z.2.2.2.2.2.2.2.2.2.2.2.2.2.2.2.2.2.2.2.2.2.1, 0)).1 k)))) 20 [some (.ref (E.1 286)), some (.int (nI w)), some (.int (nI ((it (koM w) z.2.2.2.2.1 (z.2.2.2.2.2.2.2.2.2.2.2.2.2.2.2.2.2.2.2.2.2.1, 0)).2))), some (.int (nI z.2.2.2.2.1)), none] []
        refine r_iload_n (pc := 20) C dX8_filterPartitions_20 rfl ?_
        refine r_aload_n (pc := 21) C dX8_filterPartitions_21 rfl ?_
        refine r_getf (pc := 22) C dX8_filterPartitions_22 fl_RX8_226 (Ce.up (Ce.new hM.1) (by decide)) rfl ?_
        refine r_icmp_ge (pc := 25) (tgt := 84) C dX8_filterPartitions_25 (by decide) (fun h25 => ?_) (fun h25 => ?_)
        · have h25 := c_le (by omega) (by omega) h25
          refine r_aload_n (pc := 84) C dX8_filterPartitions_84 rfl ?_
          refine r_iload_n (pc := 85) C dX8_filterPartitions_85 rfl ?_
          refine r_putf (pc := 86) C dX8_filterPartitions_86 fp_RX8_226 (Ce.up (Ce.new hM.1) (by decide)) rfl rfl (Nat.le_of_ble_eq_true rfl) ?_
          refine r_aload_n (pc := 89) C dX8_filterPartitions_89 rfl ?_
          refine r_getf (pc := 90) C dX8_filterPartitions_90 fl_RX8_226 (Ce.new (Ce.up (Ce.new hM.1) (by decide))) rfl ?_
          exact r_iret (pc := 93) C Z dX8_filterPartitions_93 rfl (by rw [show qFlt z = (nI (it (koM w) z.2.2.2.2.1 (z.2.2.2.2.2.2.2.2.2.2.2.2.2.2.2.2.2.2.2.2.2.1, 0)).2, s_hfp z 0 (it (koM w) z.2.2.2.2.1 (z.2.2.2.2.2.2.2.2.2.2.2.2.2.2.2.2.2.2.2.2.2.1, 0)).1 (it (koM w) z.2.2.2.2.1 (z.2.2.2.2.2.2.2.2.2.2.2.2.2.2.2.2.2.2.2.2.2.1, 0)).2) by unfold qFlt; rw [hw, if_pos (nI_pos' (by omega)), iN_nI (by omega)]]; exact ⟨rfl, (by simp only [MC, s_n, s_r, s_len, s_rem, s_pc, s_hd, s_at_, s_wr, s_cu, s_hs, s_sv, s_fr, s_fa, s_fb, s_fe, s_f1, s_f2, s_f3, s_f4, s_f5, s_f6, s_fp, s_fc, s_wd, s_bg, s_fi, s_fo, s_st, s_ss, s_fl, s_fm, s_fs, s_tnp, s_scr, s_f12, s_wr2, s_ls, s_lp, s_hfp]; exact ⟨(Ce.new (Ce.up (Ce.new hM.1) (by decide))), (Ce.up (Ce.up (Ce.up hM.2.1 (by decide)) (by decide)) (by decide)), (Ce.up (Ce.up (Ce.up hM.2.2.1 (by decide)) (by decide)) (by decide)), (Ce.up (Ce.up (Ce.up hM.2.2.2.1 (by decide)) (by decide)) (by decide)), (Ce.up (Ce.up (Ce.up hM.2.2.2.2.1 (by decide)) (by decide)) (by decide)), (Ce.up (Ce.up (Ce.up hM.2.2.2.2.2.1 (by decide)) (by decide)) (by decide)), (Ce.up (Ce.up (Ce.up hM.2.2.2.2.2.2.1 (by decide)) (by decide)) (by decide)), (Ce.up (Ce.up (Ce.up hM.2.2.2.2.2.2.2.1 (by decide)) (by decide)) (by decide)), (Ce.up (Ce.up (Ce.up hM.2.2.2.2.2.2.2.2.1 (by decide)) (by decide)) (by decide)), (Ce.up (Ce.up (Ce.up hM.2.2.2.2.2.2.2.2.2.1 (by decide)) (by decide)) (by decide)), (Ce.up (Ce.up (Ce.up hM.2.2.2.2.2.2.2.2.2.2.1 (by decide)) (by decide)) (by decide)), (Ce.up (Ce.new (Ce.up hM.2.2.2.2.2.2.2.2.2.2.2.1 (by decide))) (by decide)), (Ce.up (Ce.up (Ce.up hM.2.2.2.2.2.2.2.2.2.2.2.2.1 (by decide)) (by decide)) (by decide)), (Ce.up (Ce.up (Ce.up hM.2.2.2.2.2.2.2.2.2.2.2.2.2.1 (by decide)) (by decide)) (by decide)), (Ce.up (Ce.up (Ce.up hM.2.2.2.2.2.2.2.2.2.2.2.2.2.2.1 (by decide)) (by decide)) (by decide)), (Ce.up (Ce.up (Ce.up hM.2.2.2.2.2.2.2.2.2.2.2.2.2.2.2.1 (by decide)) (by decide)) (by decide)), (Ce.up (Ce.up (Ce.up hM.2.2.2.2.2.2.2.2.2.2.2.2.2.2.2.2.1 (by decide)) (by decide)) (by decide)), (Ce.up (Ce.up (Ce.up hM.2.2.2.2.2.2.2.2.2.2.2.2.2.2.2.2.2.1 (by decide)) (by decide)) (by decide)), (Ce.up (Ce.up (Ce.up hM.2.2.2.2.2.2.2.2.2.2.2.2.2.2.2.2.2.2.1 (by decide)) (by decide)) (by decide)), (Ce.up (Ce.up (Ce.up hM.2.2.2.2.2.2.2.2.2.2.2.2.2.2.2.2.2.2.2.1 (by decide)) (by decide)) (by decide)), (Ce.up (Ce.up (Ce.up hM.2.2.2.2.2.2.2.2.2.2.2.2.2.2.2.2.2.2.2.2.1 (by decide)) (by decide)) (by decide)), (Ce.up (Ce.up (Ce.up hM.2.2.2.2.2.2.2.2.2.2.2.2.2.2.2.2.2.2.2.2.2 (by decide)) (by decide)) (by decide))⟩), (((Fr.rf.up (by omega) (by omega)).up (by omega) (by omega)).up (by omega) (by omega))⟩)
        · have h25 := c_nle (by omega) (by omega) h25
          omega
      · show G M S E (0, 0) (va_up (va_up g 286 (.inr (8, [.int (nI z.1), .int (nI z.2.1), .int z.2.2.1, .int (nI z.2.2.2.1), .ref (E.1 287), .ref (E.1 288), .ref (E.1 289), .ref (E.1 290), .ref (E.1 291), .ref (E.1 292), .ref (E.1 293), .ref (E.1 294), .ref (E.1 295), .ref (E.1 296), .ref (E.1 297), .ref (E.1 298), .int (nI z.2.2.2.2.1), .ref (E.1 299), .ref (E.1 300), .ref (E.1 301), .ref (E.1 302), .int (nI 0), .int (nI z.2.2.2.2.2.2.1), .int (nI z.2.2.2.2.2.2.2.1), .ref (E.1 303), .ref (E.1 304), .ref (E.1 305), .ref (E.1 306), .ref (E.1 307), .int (nI z.2.2.2.2.2.2.2.2.1), .int (b2i z.2.2.2.2.2.2.2.2.2.1), .int (b2i z.2.2.2.2.2.2.2.2.2.2.1)]))) 297 (xI S 3696 (fun k => nI ((it (koM w) t (z.2.2.2.2.2.2.2.2.2.2.2.2.2.2.2.2.2.2.2.2.2.1, 0)).1 k)))) 20 [some (.ref (E.1 286)), some (.int (nI w)), some (.int (nI ((it (koM w) t (z.2.2.2.2.2.2.2.2.2.2.2.2.2.2.2.2.2.2.2.2.2.1, 0)).2))), some (.int (nI t)), none] []
        refine r_iload_n (pc := 20) C dX8_filterPartitions_20 rfl ?_
        refine r_aload_n (pc := 21) C dX8_filterPartitions_21 rfl ?_
        refine r_getf (pc := 22) C dX8_filterPartitions_22 fl_RX8_226 (Ce.up (Ce.new hM.1) (by decide)) rfl ?_
        refine r_icmp_ge (pc := 25) (tgt := 84) C dX8_filterPartitions_25 (by decide) (fun h25 => ?_) (fun h25 => ?_)
        · have h25 := c_le (by omega) (by omega) h25
          omega
        · have h25 := c_nle (by omega) (by omega) h25
          have hkl := koM_le w z.2.2.2.2.2.2.2.2.2.2.2.2.2.2.2.2.2.2.2.2.2.1 t
          have hkb := koM_hb w hb t
          have ih2 := ih
          refine r_aload_n (pc := 28) C dX8_filterPartitions_28 rfl ?_
          refine r_iload_n (pc := 29) C dX8_filterPartitions_29 rfl ?_
          refine r_iload_n (pc := 30) C dX8_filterPartitions_30 rfl ?_
          refine r_callV (pc := 31) C dX8_filterPartitions_31 cv_RX8_249 (c_X8_passes (N := z.1) (r := z.2.1) ⟨_, (Ce.up (Ce.new hM.1) (by decide)), rfl, rfl, rfl, rfl, rfl, rfl, rfl, rfl, rfl, rfl, rfl, rfl, rfl, rfl, rfl, rfl, rfl, rfl, rfl, rfl, rfl, rfl, rfl⟩ hN hr (Ce.new (Ce.up hM.2.2.2.2.2.2.2.2.2.2.2.1 (by decide))) hkb t w (by omega) hw6) ⟨rfl, rfl, by decide, by decide⟩ (Ce.up (Ce.new hM.1) (by decide)) rfl rfl (Nat.le_of_ble_eq_true rfl) ⟨Nat.zero_le _, Nat.zero_le _⟩ ?_
          rintro _ _ ⟨_, rfl, rfl, rfl⟩
          show G M S E (0, 0) (va_up (va_up g 286 (.inr (8, [.int (nI z.1), .int (nI z.2.1), .int z.2.2.1, .int (nI z.2.2.2.1), .ref (E.1 287), .ref (E.1 288), .ref (E.1 289), .ref (E.1 290), .ref (E.1 291), .ref (E.1 292), .ref (E.1 293), .ref (E.1 294), .ref (E.1 295), .ref (E.1 296), .ref (E.1 297), .ref (E.1 298), .int (nI z.2.2.2.2.1), .ref (E.1 299), .ref (E.1 300), .ref (E.1 301), .ref (E.1 302), .int (nI 0), .int (nI z.2.2.2.2.2.2.1), .int (nI z.2.2.2.2.2.2.2.1), .ref (E.1 303), .ref (E.1 304), .ref (E.1 305), .ref (E.1 306), .ref (E.1 307), .int (nI z.2.2.2.2.2.2.2.2.1), .int (b2i z.2.2.2.2.2.2.2.2.2.1), .int (b2i z.2.2.2.2.2.2.2.2.2.2.1)]))) 297 (xI S 3696 (fun k => nI ((it (koM w) t (z.2.2.2.2.2.2.2.2.2.2.2.2.2.2.2.2.2.2.2.2.2.1, 0)).1 k)))) 34 [some (.ref (E.1 286)), some (.int (nI w)), some (.int (nI ((it (koM w) t (z.2.2.2.2.2.2.2.2.2.2.2.2.2.2.2.2.2.2.2.2.2.1, 0)).2))), some (.int (nI t)), none] [.int (b2i (mpB w (fun k => (it (koM w) t (z.2.2.2.2.2.2.2.2.2.2.2.2.2.2.2.2.2.2.2.2.2.1, 0)).1 (16 * t + k))))]
          refine r_if_ne (pc := 34) (tgt := 40) C dX8_filterPartitions_34 (by decide) (fun h34 => ?_) (fun h34 => ?_)
          · have h34 := b_t h34
            refine r_iconst (pc := 40) (v := nI 0) C dX8_filterPartitions_40 (by decide +kernel) ?_
            refine r_istore (pc := 41) C dX8_filterPartitions_41 (by decide) ?_
            refine G.eq (pc' := 43) (vs' := [some (.ref (E.1 286)), some (.int (nI w)), some (.int (nI ((it (koM w) t (z.2.2.2.2.2.2.2.2.2.2.2.2.2.2.2.2.2.2.2.2.2.1, 0)).2))), some (.int (nI t)), some (.int (nI 0))]) (st' := []) ?_
            refine G.cI (f' := fun k => nI (cpI (it (koM w) t (z.2.2.2.2.2.2.2.2.2.2.2.2.2.2.2.2.2.2.2.2.2.1, 0)).1 t (it (koM w) t (z.2.2.2.2.2.2.2.2.2.2.2.2.2.2.2.2.2.2.2.2.2.1, 0)).2 0 k)) (fun j _ => congrArg nI (cpI_0 j).symm) ?_
            show G M S E (0, 0) (va_up (va_up g 286 (.inr (8, [.int (nI z.1), .int (nI z.2.1), .int z.2.2.1, .int (nI z.2.2.2.1), .ref (E.1 287), .ref (E.1 288), .ref (E.1 289), .ref (E.1 290), .ref (E.1 291), .ref (E.1 292), .ref (E.1 293), .ref (E.1 294), .ref (E.1 295), .ref (E.1 296), .ref (E.1 297), .ref (E.1 298), .int (nI z.2.2.2.2.1), .ref (E.1 299), .ref (E.1 300), .ref (E.1 301), .ref (E.1 302), .int (nI 0), .int (nI z.2.2.2.2.2.2.1), .int (nI z.2.2.2.2.2.2.2.1), .ref (E.1 303), .ref (E.1 304), .ref (E.1 305), .ref (E.1 306), .ref (E.1 307), .int (nI z.2.2.2.2.2.2.2.2.1), .int (b2i z.2.2.2.2.2.2.2.2.2.1), .int (b2i z.2.2.2.2.2.2.2.2.2.2.1)]))) 297 (xI S 3696 (fun k => nI (cpI (it (koM w) t (z.2.2.2.2.2.2.2.2.2.2.2.2.2.2.2.2.2.2.2.2.2.1, 0)).1 t (it (koM w) t (z.2.2.2.2.2.2.2.2.2.2.2.2.2.2.2.2.2.2.2.2.2.1, 0)).2 0 k)))) 43 [some (.ref (E.1 286)), some (.int (nI w)), some (.int (nI ((it (koM w) t (z.2.2.2.2.2.2.2.2.2.2.2.2.2.2.2.2.2.2.2.2.2.1, 0)).2))), some (.int (nI t)), some (.int (nI 0))] []
            refine bk (P := fun t3 => G M S E (0, 0) (va_up (va_up g 286 (.inr (8, [.int (nI z.1), .int (nI z.2.1), .int z.2.2.1, .int (nI z.2.2.2.1), .ref (E.1 287), .ref (E.1 288), .ref (E.1 289), .ref (E.1 290), .ref (E.1 291), .ref (E.1 292), .ref (E.1 293), .ref (E.1 294), .ref (E.1 295), .ref (E.1 296), .ref (E.1 297), .ref (E.1 298), .int (nI z.2.2.2.2.1), .ref (E.1 299), .ref (E.1 300), .ref (E.1 301), .ref (E.1 302), .int (nI 0), .int (nI z.2.2.2.2.2.2.1), .int (nI z.2.2.2.2.2.2.2.1), .ref (E.1 303), .ref (E.1 304), .ref (E.1 305), .ref (E.1 306), .ref (E.1 307), .int (nI z.2.2.2.2.2.2.2.2.1), .int (b2i z.2.2.2.2.2.2.2.2.2.1), .int (b2i z.2.2.2.2.2.2.2.2.2.2.1)]))) 297 (xI S 3696 (fun k => nI (cpI (it (koM w) t (z.2.2.2.2.2.2.2.2.2.2.2.2.2.2.2.2.2.2.2.2.2.1, 0)).1 t (it (koM w) t (z.2.2.2.2.2.2.2.2.2.2.2.2.2.2.2.2.2.2.2.2.2.1, 0)).2 t3 k)))) 43 [some (.ref (E.1 286)), some (.int (nI w)), some (.int (nI ((it (koM w) t (z.2.2.2.2.2.2.2.2.2.2.2.2.2.2.2.2.2.2.2.2.2.1, 0)).2))), some (.int (nI t)), some (.int (nI t3))] []) (T := 16) ?_ (fun t3 ht ih => ?_)
            · show G M S E (0, 0) (va_up (va_up g 286 (.inr (8, [.int (nI z.1), .int (nI z.2.1), .int z.2.2.1, .int (nI z.2.2.2.1), .ref (E.1 287), .ref (E.1 288), .ref (E.1 289), .ref (E.1 290), .ref (E.1 291), .ref (E.1 292), .ref (E.1 293), .ref (E.1 294), .ref (E.1 295), .ref (E.1 296), .ref (E.1 297), .ref (E.1 298), .int (nI z.2.2.2.2.1), .ref (E.1 299), .ref (E.1 300), .ref (E.1 301), .ref (E.1 302), .int (nI 0), .int (nI z.2.2.2.2.2.2.1), .int (nI z.2.2.2.2.2.2.2.1), .ref (E.1 303), .ref (E.1 304), .ref (E.1 305), .ref (E.1 306), .ref (E.1 307), .int (nI z.2.2.2.2.2.2.2.2.1), .int (b2i z.2.2.2.2.2.2.2.2.2.1), .int (b2i z.2.2.2.2.2.2.2.2.2.2.1)]))) 297 (xI S 3696 (fun k => nI (cpI (it (koM w) t (z.2.2.2.2.2.2.2.2.2.2.2.2.2.2.2.2.2.2.2.2.2.1, 0)).1 t (it (koM w) t (z.2.2.2.2.2.2.2.2.2.2.2.2.2.2.2.2.2.2.2.2.2.1, 0)).2 16 k)))) 43 [some (.ref (E.1 286)), some (.int (nI w)), some (.int (nI ((it (koM w) t (z.2.2.2.2.2.2.2.2.2.2.2.2.2.2.2.2.2.2.2.2.2.1, 0)).2))), some (.int (nI t)), some (.int (nI 16))] []
              refine r_iload (pc := 43) C dX8_filterPartitions_43 rfl ?_
              refine r_bipush (pc := 45) (v := nI 16) C dX8_filterPartitions_45 (by decide +kernel) ?_
              refine r_icmp_ge (pc := 47) (tgt := 75) C dX8_filterPartitions_47 (by decide) (fun h47 => ?_) (fun h47 => ?_)
              · have h47 := c_le (by omega) (by omega) h47
                refine r_iinc (pc := 75) (v := nI ((it (koM w) t (z.2.2.2.2.2.2.2.2.2.2.2.2.2.2.2.2.2.2.2.2.2.1, 0)).2 + 1)) C dX8_filterPartitions_75 rfl (nI_i1 _) (by decide) ?_
                refine G.eq (pc' := 78) (vs' := [some (.ref (E.1 286)), some (.int (nI w)), some (.int (nI ((it (koM w) t (z.2.2.2.2.2.2.2.2.2.2.2.2.2.2.2.2.2.2.2.2.2.1, 0)).2 + 1))), some (.int (nI t)), some (.int (nI 16))]) (st' := []) ?_
                refine r_iinc (pc := 78) (v := nI (t + 1)) C dX8_filterPartitions_78 rfl (nI_i1 _) (by decide) ?_
                refine G.eq (pc' := 81) (vs' := [some (.ref (E.1 286)), some (.int (nI w)), some (.int (nI ((it (koM w) t (z.2.2.2.2.2.2.2.2.2.2.2.2.2.2.2.2.2.2.2.2.2.1, 0)).2 + 1))), some (.int (nI (t + 1))), some (.int (nI 16))]) (st' := []) ?_
                refine r_goto (pc := 81) (tgt := 20) C dX8_filterPartitions_81 (by decide) ?_
                rw [it_succ, koM_t h34] at ih2
                refine G.wk (vs' := [some (.ref (E.1 286)), some (.int (nI w)), some (.int (nI ((it (koM w) t (z.2.2.2.2.2.2.2.2.2.2.2.2.2.2.2.2.2.2.2.2.2.1, 0)).2 + 1))), some (.int (nI (t + 1))), none]) ⟨rfl, rfl, rfl, rfl, trivial⟩ ?_
                exact ih2
              · have h47 := c_nle (by omega) (by omega) h47
                omega
            · show G M S E (0, 0) (va_up (va_up g 286 (.inr (8, [.int (nI z.1), .int (nI z.2.1), .int z.2.2.1, .int (nI z.2.2.2.1), .ref (E.1 287), .ref (E.1 288), .ref (E.1 289), .ref (E.1 290), .ref (E.1 291), .ref (E.1 292), .ref (E.1 293), .ref (E.1 294), .ref (E.1 295), .ref (E.1 296), .ref (E.1 297), .ref (E.1 298), .int (nI z.2.2.2.2.1), .ref (E.1 299), .ref (E.1 300), .ref (E.1 301), .ref (E.1 302), .int (nI 0), .int (nI z.2.2.2.2.2.2.1), .int (nI z.2.2.2.2.2.2.2.1), .ref (E.1 303), .ref (E.1 304), .ref (E.1 305), .ref (E.1 306), .ref (E.1 307), .int (nI z.2.2.2.2.2.2.2.2.1), .int (b2i z.2.2.2.2.2.2.2.2.2.1), .int (b2i z.2.2.2.2.2.2.2.2.2.2.1)]))) 297 (xI S 3696 (fun k => nI (cpI (it (koM w) t (z.2.2.2.2.2.2.2.2.2.2.2.2.2.2.2.2.2.2.2.2.2.1, 0)).1 t (it (koM w) t (z.2.2.2.2.2.2.2.2.2.2.2.2.2.2.2.2.2.2.2.2.2.1, 0)).2 t3 k)))) 43 [some (.ref (E.1 286)), some (.int (nI w)), some (.int (nI ((it (koM w) t (z.2.2.2.2.2.2.2.2.2.2.2.2.2.2.2.2.2.2.2.2.2.1, 0)).2))), some (.int (nI t)), some (.int (nI t3))] []
              refine r_iload (pc := 43) C dX8_filterPartitions_43 rfl ?_
              refine r_bipush (pc := 45) (v := nI 16) C dX8_filterPartitions_45 (by decide +kernel) ?_
              refine r_icmp_ge (pc := 47) (tgt := 75) C dX8_filterPartitions_47 (by decide) (fun h47 => ?_) (fun h47 => ?_)
              · have h47 := c_le (by omega) (by omega) h47
                omega
              · have h47 := c_nle (by omega) (by omega) h47
                refine r_aload_n (pc := 50) C dX8_filterPartitions_50 rfl ?_
                refine r_getf (pc := 51) C dX8_filterPartitions_51 fl_RX8_52 (Ce.up (Ce.new hM.1) (by decide)) rfl ?_
                refine r_bipush (pc := 54) (v := nI 16) C dX8_filterPartitions_54 (by decide +kernel) ?_
                refine r_iload_n (pc := 56) C dX8_filterPartitions_56 rfl ?_
                refine r_imul (pc := 57) C dX8_filterPartitions_57 ?_
                refine r_ti (nI (16 * ((it (koM w) t (z.2.2.2.2.2.2.2.2.2.2.2.2.2.2.2.2.2.2.2.2.2.1, 0)).2))) (pk_mul _ _) ?_
                refine r_iload (pc := 58) C dX8_filterPartitions_58 rfl ?_
                refine r_iadd (pc := 60) C dX8_filterPartitions_60 ?_
                refine r_ti (nI (16 * ((it (koM w) t (z.2.2.2.2.2.2.2.2.2.2.2.2.2.2.2.2.2.2.2.2.2.1, 0)).2) + t3)) (nI_add _ _) ?_
                refine r_aload_n (pc := 61) C dX8_filterPartitions_61 rfl ?_
                refine r_iload_n (pc := 62) C dX8_filterPartitions_62 rfl ?_
                refine r_iload (pc := 63) C dX8_filterPartitions_63 rfl ?_
                refine r_callV (pc := 65) C dX8_filterPartitions_65 cv_RX8_232 (c_X8_partAt2 (N := z.1) (r := z.2.1) ⟨_, (Ce.up (Ce.new hM.1) (by decide)), rfl, rfl, rfl, rfl, rfl, rfl, rfl, rfl, rfl, rfl, rfl, rfl, rfl, rfl, rfl, rfl, rfl, rfl, rfl, rfl, rfl, rfl, rfl⟩ hN hr (Ce.new (Ce.up hM.2.2.2.2.2.2.2.2.2.2.2.1 (by decide))) (cpI_hb hkb) t t3 (by omega) (by omega)) ⟨rfl, rfl, by decide, by decide⟩ (Ce.up (Ce.new hM.1) (by decide)) rfl rfl (Nat.le_of_ble_eq_true rfl) ⟨Nat.zero_le _, Nat.zero_le _⟩ ?_
                rintro _ _ ⟨_, rfl, rfl, rfl⟩
                show G M S E (0, 0) (va_up (va_up g 286 (.inr (8, [.int (nI z.1), .int (nI z.2.1), .int z.2.2.1, .int (nI z.2.2.2.1), .ref (E.1 287), .ref (E.1 288), .ref (E.1 289), .ref (E.1 290), .ref (E.1 291), .ref (E.1 292), .ref (E.1 293), .ref (E.1 294), .ref (E.1 295), .ref (E.1 296), .ref (E.1 297), .ref (E.1 298), .int (nI z.2.2.2.2.1), .ref (E.1 299), .ref (E.1 300), .ref (E.1 301), .ref (E.1 302), .int (nI 0), .int (nI z.2.2.2.2.2.2.1), .int (nI z.2.2.2.2.2.2.2.1), .ref (E.1 303), .ref (E.1 304), .ref (E.1 305), .ref (E.1 306), .ref (E.1 307), .int (nI z.2.2.2.2.2.2.2.2.1), .int (b2i z.2.2.2.2.2.2.2.2.2.1), .int (b2i z.2.2.2.2.2.2.2.2.2.2.1)]))) 297 (xI S 3696 (fun k => nI (cpI (it (koM w) t (z.2.2.2.2.2.2.2.2.2.2.2.2.2.2.2.2.2.2.2.2.2.1, 0)).1 t (it (koM w) t (z.2.2.2.2.2.2.2.2.2.2.2.2.2.2.2.2.2.2.2.2.2.1, 0)).2 t3 k)))) 68 [some (.ref (E.1 286)), some (.int (nI w)), some (.int (nI ((it (koM w) t (z.2.2.2.2.2.2.2.2.2.2.2.2.2.2.2.2.2.2.2.2.2.1, 0)).2))), some (.int (nI t)), some (.int (nI t3))] [.int (nI (zx (fun k => cpI (it (koM w) t (z.2.2.2.2.2.2.2.2.2.2.2.2.2.2.2.2.2.2.2.2.2.1, 0)).1 t (it (koM w) t (z.2.2.2.2.2.2.2.2.2.2.2.2.2.2.2.2.2.2.2.2.2.1, 0)).2 t3 (16 * t + k)) t3)), .int (nI (16 * ((it (koM w) t (z.2.2.2.2.2.2.2.2.2.2.2.2.2.2.2.2.2.2.2.2.2.1, 0)).2) + t3)), .ref (E.1 297)]
                refine r_ti (nI ((it (koM w) t (z.2.2.2.2.2.2.2.2.2.2.2.2.2.2.2.2.2.2.2.2.2.1, 0)).1 (16 * t + t3))) (congrArg nI (cpI_at hkl (by omega))) ?_
                refine r_iast2 (pc := 68) C dX8_filterPartitions_68 hM.2.2.2.2.2.2.2.2.2.2.2.1.1 rfl (by omega) (by omega) ?_
                refine G.cI (f' := fun k => nI (cpI (it (koM w) t (z.2.2.2.2.2.2.2.2.2.2.2.2.2.2.2.2.2.2.2.2.2.1, 0)).1 t (it (koM w) t (z.2.2.2.2.2.2.2.2.2.2.2.2.2.2.2.2.2.2.2.2.2.1, 0)).2 (t3 + 1) k)) (fun j _ => cpI_s j) ?_
                refine r_iinc (pc := 69) (v := nI (t3 + 1)) C dX8_filterPartitions_69 rfl (nI_i1 _) (by decide) ?_
                refine G.eq (pc' := 72) (vs' := [some (.ref (E.1 286)), some (.int (nI w)), some (.int (nI ((it (koM w) t (z.2.2.2.2.2.2.2.2.2.2.2.2.2.2.2.2.2.2.2.2.2.1, 0)).2))), some (.int (nI t)), some (.int (nI (t3 + 1)))]) (st' := []) ?_
                refine r_goto (pc := 72) (tgt := 43) C dX8_filterPartitions_72 (by decide) ?_
                exact ih
          · have h34 := b_f h34
            refine r_goto (pc := 37) (tgt := 78) C dX8_filterPartitions_37 (by decide) ?_
            refine r_iinc (pc := 78) (v := nI (t + 1)) C dX8_filterPartitions_78 rfl (nI_i1 _) (by decide) ?_
            refine G.eq (pc' := 81) (vs' := [some (.ref (E.1 286)), some (.int (nI w)), some (.int (nI ((it (koM w) t (z.2.2.2.2.2.2.2.2.2.2.2.2.2.2.2.2.2.2.2.2.2.1, 0)).2))), some (.int (nI (t + 1))), none]) (st' := []) ?_
            refine r_goto (pc := 81) (tgt := 20) C dX8_filterPartitions_81 (by decide) ?_
            rw [it_succ, koM_f h34] at ih2
            exact ih2
    · have h11 := z_nge (by omega) h11
      exact h11.elim
