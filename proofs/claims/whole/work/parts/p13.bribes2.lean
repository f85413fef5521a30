section BRIBES2
variable {M sp he : Nat} {tr hate : Nat → Nat} {ch wd : List Nat} {mo sk hr se spo : Int32} {ts hs seats words told mouths mouth hates seated chain wordsM word : Nat → Int32}
theorem seatBits_l (h : ZZ M tr sp he hate ch wd mo sk hr ts hs se spo seats words told mouths mouth hates seated chain wordsM word) : ∀ (fuel k m : Nat), k ≤ ch.length → m < 128 → ch.length - k < fuel → X1_seatBits_l4 fuel (nI m) (nI k) se seats = some (nI (bts (ch.drop k) m)) := by
  intro fuel
  induction fuel with
  | zero => intro k m h1 h2 h3; omega
  | succ n ih =>
    intro k m h1 hm h3
    have hl := h.2.2.2.2.1.2.1
    have hse := h.2.2.2.2.2.1.1
    show X1_seatBits_b4 _ _ _ _ _ = _
    by_cases hk : k = ch.length
    · subst hk
      simp (disch := omega) only [X1_seatBits_b4, hse, List.drop_length, bts, pz_l0, pz_l1, pz_l2, pz_l3, pz_l4, pz_l5, pz_l6, pz_l7, pz_l8, pz_l9, pz_l10, pz_l11, pz_l12, pz_l13, pz_l20, pz_l21, pz_l31, pz_l32, pz_l34, pz_l35, pz_l36, pz_l37, pz_l38, pz_l39, pz_l44, pz_l48, pz_l50, pz_l57, pz_l59, pz_l70, pz_l99, pz_l100, pz_l104, pz_l105, pz_l116, pz_l128, pz_l199, pz_l200, pz_l255, pz_l9999, pz_l10000, pz_lt, pz_le, pz_eq, pz_cl, pz_in, pz_add, pz_mul, pz_sub, if_pos, if_neg, ↓reduceIte]
    · obtain ⟨i, hi, hi7, hg, e1, e2⟩ := h.seat (k := k) (by omega)
      have p3 := h.2.2.2.2.2.1.2.2.1 k (by omega)
      rw [hg] at p3
      have ho : (nI m ||| (nI 1 <<< (nI i &&& nI 31))) = nI (m ||| 2 ^ i) := or_at m hm i hi7
      have f := ih (k + 1) (m ||| 2 ^ i) (by omega) (or_lt m hm i hi7) (by omega)
      rw [hse] at f
      rw [dr_cons (by omega), hg, bts]
      simp (disch := omega) only [X1_seatBits_b4, hse, p3, gx_l, ho, pz_l0, pz_l1, pz_l2, pz_l3, pz_l4, pz_l5, pz_l6, pz_l7, pz_l8, pz_l9, pz_l10, pz_l11, pz_l12, pz_l13, pz_l20, pz_l21, pz_l31, pz_l32, pz_l34, pz_l35, pz_l36, pz_l37, pz_l38, pz_l39, pz_l44, pz_l48, pz_l50, pz_l57, pz_l59, pz_l70, pz_l99, pz_l100, pz_l104, pz_l105, pz_l116, pz_l128, pz_l199, pz_l200, pz_l255, pz_l9999, pz_l10000, pz_lt, pz_le, pz_eq, pz_cl, pz_in, pz_add, pz_mul, pz_sub, if_pos, if_neg, ↓reduceIte, f]
theorem bits16_l (h : ZZ M tr sp he hate ch wd mo sk hr ts hs se spo seats words told mouths mouth hates seated chain wordsM word) (K : Int32 → Int32 → Int32 → Int32 → (Nat → Int32) → (Nat → Int32) → (Nat → Int32) → Option (Int32 × Int32 × Int32)) (x1 b1 b2 : Int32) : ∀ (fuel k m : Nat), k ≤ ch.length → m < 128 → ch.length - k < fuel → X7_bribes_l16 K fuel x1 (nI m) (nI k) b1 b2 mouth seated chain = K x1 (nI (bts (ch.drop k) m)) b1 b2 mouth seated chain := by
  intro fuel
  induction fuel with
  | zero => intro k m h1 h2 h3; omega
  | succ n ih =>
    intro k m h1 hm h3
    have hl := h.2.2.2.2.1.2.1
    have q1 := h.2.2.2.2.2.2.1
    show X7_bribes_b16 _ _ _ _ _ _ _ _ _ _ = _
    by_cases hk : k = ch.length
    · subst hk
      simp (disch := omega) only [X7_bribes_b16, q1, List.drop_length, bts, pz_l0, pz_l1, pz_l2, pz_l3, pz_l4, pz_l5, pz_l6, pz_l7, pz_l8, pz_l9, pz_l10, pz_l11, pz_l12, pz_l13, pz_l20, pz_l21, pz_l31, pz_l32, pz_l34, pz_l35, pz_l36, pz_l37, pz_l38, pz_l39, pz_l44, pz_l48, pz_l50, pz_l57, pz_l59, pz_l70, pz_l99, pz_l100, pz_l104, pz_l105, pz_l116, pz_l128, pz_l199, pz_l200, pz_l255, pz_l9999, pz_l10000, pz_lt, pz_le, pz_eq, pz_cl, pz_in, pz_add, pz_mul, pz_sub, if_pos, if_neg, ↓reduceIte]
    · obtain ⟨i, hi, hi7, hg, e1, e2⟩ := h.seat (k := k) (by omega)
      have ho : (nI m ||| (nI 1 <<< (nI i &&& nI 31))) = nI (m ||| 2 ^ i) := or_at m hm i hi7
      have f := ih (k + 1) (m ||| 2 ^ i) (by omega) (or_lt m hm i hi7) (by omega)
      rw [dr_cons (by omega), hg, bts]
      simp (disch := omega) only [X7_bribes_b16, q1, e2, gx_l, ho, pz_l0, pz_l1, pz_l2, pz_l3, pz_l4, pz_l5, pz_l6, pz_l7, pz_l8, pz_l9, pz_l10, pz_l11, pz_l12, pz_l13, pz_l20, pz_l21, pz_l31, pz_l32, pz_l34, pz_l35, pz_l36, pz_l37, pz_l38, pz_l39, pz_l44, pz_l48, pz_l50, pz_l57, pz_l59, pz_l70, pz_l99, pz_l100, pz_l104, pz_l105, pz_l116, pz_l128, pz_l199, pz_l200, pz_l255, pz_l9999, pz_l10000, pz_lt, pz_le, pz_eq, pz_cl, pz_in, pz_add, pz_mul, pz_sub, if_pos, if_neg, ↓reduceIte, f]
theorem bribed_l (h : ZZ M tr sp he hate ch wd mo sk hr ts hs se spo seats words told mouths mouth hates seated chain wordsM word) {B : Nat} (hB : B < 128) : ∀ (fuel k s : Nat), k ≤ ch.length → s < 10 → ch.length - k < fuel → ∃ r, r < 10 ∧ X6_carried_l6 fuel (nI ch.length) (nI B) (nI s) (nI k) se seats mo ts = some (nI r) ∧ X7_isBribed_l4 X7_isBribed_b58 fuel (nI B) (nI s) (nI k) mouth seated chain = some (nI (if r = 1 then 1 else 0)) := by
  intro fuel
  induction fuel with
  | zero => intro k s h1 h2 h3; omega
  | succ n ih =>
    intro k s h1 hs10 h3
    have hl := h.2.2.2.2.1.2.1
    have hse := h.2.2.2.2.2.1.1
    have q1 := h.2.2.2.2.2.2.1
    by_cases hk : k = ch.length
    · subst hk
      refine ⟨s, hs10, ?_, ?_⟩
      · show X6_carried_b6 _ _ _ _ _ _ _ _ _ = _
        simp (disch := omega) only [X6_carried_b6, pz_l0, pz_l1, pz_l2, pz_l3, pz_l4, pz_l5, pz_l6, pz_l7, pz_l8, pz_l9, pz_l10, pz_l11, pz_l12, pz_l13, pz_l20, pz_l21, pz_l31, pz_l32, pz_l34, pz_l35, pz_l36, pz_l37, pz_l38, pz_l39, pz_l44, pz_l48, pz_l50, pz_l57, pz_l59, pz_l70, pz_l99, pz_l100, pz_l104, pz_l105, pz_l116, pz_l128, pz_l199, pz_l200, pz_l255, pz_l9999, pz_l10000, pz_lt, pz_le, pz_eq, pz_cl, pz_in, pz_add, pz_mul, pz_sub, if_pos, if_neg, ↓reduceIte]
      · show X7_isBribed_b4 _ _ _ _ _ _ _ _ = _
        by_cases hs1 : s = 1
        · simp (disch := omega) [X7_isBribed_b4, X7_isBribed_b58, q1, hs1, pz_l0, pz_l1, pz_l2, pz_l3, pz_l4, pz_l5, pz_l6, pz_l7, pz_l8, pz_l9, pz_l10, pz_l11, pz_l12, pz_l13, pz_l20, pz_l21, pz_l31, pz_l32, pz_l34, pz_l35, pz_l36, pz_l37, pz_l38, pz_l39, pz_l44, pz_l48, pz_l50, pz_l57, pz_l59, pz_l70, pz_l99, pz_l100, pz_l104, pz_l105, pz_l116, pz_l128, pz_l199, pz_l200, pz_l255, pz_l9999, pz_l10000, pz_lt, pz_le, pz_eq, pz_cl, pz_in, pz_add, pz_mul, pz_sub, if_pos, if_neg, ↓reduceIte]
        · simp (disch := omega) [X7_isBribed_b4, X7_isBribed_b58, q1, hs1, pz_l0, pz_l1, pz_l2, pz_l3, pz_l4, pz_l5, pz_l6, pz_l7, pz_l8, pz_l9, pz_l10, pz_l11, pz_l12, pz_l13, pz_l20, pz_l21, pz_l31, pz_l32, pz_l34, pz_l35, pz_l36, pz_l37, pz_l38, pz_l39, pz_l44, pz_l48, pz_l50, pz_l57, pz_l59, pz_l70, pz_l99, pz_l100, pz_l104, pz_l105, pz_l116, pz_l128, pz_l199, pz_l200, pz_l255, pz_l9999, pz_l10000, pz_lt, pz_le, pz_eq, pz_cl, pz_in, pz_add, pz_mul, pz_sub, if_pos, if_neg, ↓reduceIte]
    · obtain ⟨i, hi, hi7, -, e1, e2⟩ := h.seat (k := k) (by omega)
      obtain ⟨t1, t2⟩ := h.trait hi (w := 2) (by omega)
      have hkd := (h.2.1.2.2.2.2 i hi).2.2.2.1
      have hb : ((nI B >>> (nI i &&& nI 31)) &&& nI 1) = nI (if B.testBit i then 1 else 0) := bit_at B hB i hi7
      rw [hse] at e1
      by_cases hbit : B.testBit i = true
      · rw [if_pos hbit] at hb
        obtain ⟨r, hr10, f1, f2⟩ := ih (k + 1) (md 4 s) (by omega) (md_lt 4 (by omega) _ hs10) (by omega)
        rw [hse] at f1
        refine ⟨r, hr10, ?_, ?_⟩
        · show X6_carried_b6 _ _ _ _ _ _ _ _ _ = _
          simp (disch := omega) only [X6_carried_b6, X6_carried_b49, X6_carried_b70, X1_seated, hse, gx_b_some, e1, pz_l0, pz_l1, pz_l2, pz_l3, pz_l4, pz_l5, pz_l6, pz_l7, pz_l8, pz_l9, pz_l10, pz_l11, pz_l12, pz_l13, pz_l20, pz_l21, pz_l31, pz_l32, pz_l34, pz_l35, pz_l36, pz_l37, pz_l38, pz_l39, pz_l44, pz_l48, pz_l50, pz_l57, pz_l59, pz_l70, pz_l99, pz_l100, pz_l104, pz_l105, pz_l116, pz_l128, pz_l199, pz_l200, pz_l255, pz_l9999, pz_l10000, pz_lt, pz_le, pz_eq, pz_cl, pz_in, pz_add, pz_mul, pz_sub, if_pos, if_neg, ↓reduceIte, hb, c_turned 4 (by omega) _ hs10, f1]
        · show X7_isBribed_b4 _ _ _ _ _ _ _ _ = _
          simp (disch := omega) only [X7_isBribed_b4, X7_isBribed_b47, q1, e2, gx_l, gx_b_some, pz_l0, pz_l1, pz_l2, pz_l3, pz_l4, pz_l5, pz_l6, pz_l7, pz_l8, pz_l9, pz_l10, pz_l11, pz_l12, pz_l13, pz_l20, pz_l21, pz_l31, pz_l32, pz_l34, pz_l35, pz_l36, pz_l37, pz_l38, pz_l39, pz_l44, pz_l48, pz_l50, pz_l57, pz_l59, pz_l70, pz_l99, pz_l100, pz_l104, pz_l105, pz_l116, pz_l128, pz_l199, pz_l200, pz_l255, pz_l9999, pz_l10000, pz_lt, pz_le, pz_eq, pz_cl, pz_in, pz_add, pz_mul, pz_sub, if_pos, if_neg, ↓reduceIte, hb, q_made 4 (by omega) _ hs10, f2]
      · rw [if_neg hbit] at hb
        obtain ⟨r, hr10, f1, f2⟩ := ih (k + 1) (md (tr (5 * i + 2)) s) (by omega) (md_lt _ hkd _ hs10) (by omega)
        rw [hse] at f1
        refine ⟨r, hr10, ?_, ?_⟩
        · show X6_carried_b6 _ _ _ _ _ _ _ _ _ = _
          simp (disch := omega) only [X6_carried_b6, X6_carried_b49, X6_carried_b70, X1_seated, hse, gx_b_some, e1, pz_l0, pz_l1, pz_l2, pz_l3, pz_l4, pz_l5, pz_l6, pz_l7, pz_l8, pz_l9, pz_l10, pz_l11, pz_l12, pz_l13, pz_l20, pz_l21, pz_l31, pz_l32, pz_l34, pz_l35, pz_l36, pz_l37, pz_l38, pz_l39, pz_l44, pz_l48, pz_l50, pz_l57, pz_l59, pz_l70, pz_l99, pz_l100, pz_l104, pz_l105, pz_l116, pz_l128, pz_l199, pz_l200, pz_l255, pz_l9999, pz_l10000, pz_lt, pz_le, pz_eq, pz_cl, pz_in, pz_add, pz_mul, pz_sub, if_pos, if_neg, ↓reduceIte, hb, t1, c_turned _ hkd _ hs10, f1]
        · show X7_isBribed_b4 _ _ _ _ _ _ _ _ = _
          simp (disch := omega) only [X7_isBribed_b4, X7_isBribed_b47, q1, e2, t2, gx_l, gx_b_some, pz_l0, pz_l1, pz_l2, pz_l3, pz_l4, pz_l5, pz_l6, pz_l7, pz_l8, pz_l9, pz_l10, pz_l11, pz_l12, pz_l13, pz_l20, pz_l21, pz_l31, pz_l32, pz_l34, pz_l35, pz_l36, pz_l37, pz_l38, pz_l39, pz_l44, pz_l48, pz_l50, pz_l57, pz_l59, pz_l70, pz_l99, pz_l100, pz_l104, pz_l105, pz_l116, pz_l128, pz_l199, pz_l200, pz_l255, pz_l9999, pz_l10000, pz_lt, pz_le, pz_eq, pz_cl, pz_in, pz_add, pz_mul, pz_sub, if_pos, if_neg, ↓reduceIte, hb, q_made _ hkd _ hs10, f2]
end BRIBES2
