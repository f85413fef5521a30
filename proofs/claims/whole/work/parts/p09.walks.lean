/-! ===== a sense goes through the chain ===== -/
def ZZ (M : Nat) (tr : Nat → Nat) (sp he : Nat) (hate : Nat → Nat) (ch wd : List Nat) (mo sk hr : Int32) (ts hs : Nat → Int32) (se spo : Int32) (seats words : Nat → Int32) (told mouths mouth hates seated chain wordsM word : Nat → Int32) : Prop :=
  0 < M ∧ wC M tr sp he hate ∧ pC M tr sp he hate mo sk hr ts hs ∧ qC 0 M tr sp he hate told mouths mouth hates ∧ wH M ch wd ∧ pH ch wd se spo seats words ∧ qH 0 ch wd seated chain wordsM word
theorem bit_at : ∀ B, B < 128 → ∀ i, i < 7 → ((nI B >>> (nI i &&& 31)) &&& 1) = nI (if B.testBit i then 1 else 0) := by decide +kernel
section WALKS
variable {M sp he : Nat} {tr hate : Nat → Nat} {ch wd : List Nat} {mo sk hr se spo : Int32} {ts hs seats words told mouths mouth hates seated chain wordsM word : Nat → Int32}
theorem ZZ.seat (h : ZZ M tr sp he hate ch wd mo sk hr ts hs se spo seats words told mouths mouth hates seated chain wordsM word) {k : Nat} (hk : k < ch.length) : ∃ i, i < M ∧ i < 7 ∧ ch.getD k 0 = i ∧ X1_seatAt (nI k) se seats = some (nI i) ∧ chain k = nI i := by
  obtain ⟨h0, hwc, hp, hq, hw, hpH, hqH⟩ := h
  obtain ⟨w1, w2, w3, w4, w5⟩ := hw
  have hi := w3 _ (gd_mem hk)
  have c3 := hqH.2.2.1 k hk
  rw [Nat.mul_zero, Nat.zero_add] at c3
  refine ⟨ch.getD k 0, hi, by have := hwc.1; omega, rfl, ?_, c3⟩
  simp (disch := omega) only [X1_seatAt, hpH.1, hpH.2.2.1 k hk, pz_l0, pz_l1, pz_l2, pz_l3, pz_l4, pz_l5, pz_l6, pz_l7, pz_l8, pz_l9, pz_l10, pz_l11, pz_l12, pz_l13, pz_l20, pz_l21, pz_l31, pz_l32, pz_l34, pz_l35, pz_l36, pz_l37, pz_l38, pz_l39, pz_l44, pz_l48, pz_l50, pz_l57, pz_l59, pz_l70, pz_l99, pz_l100, pz_l104, pz_l105, pz_l116, pz_l128, pz_l199, pz_l200, pz_l255, pz_l9999, pz_l10000, pz_lt, pz_le, pz_eq, pz_cl, pz_in, pz_add, pz_mul, pz_sub, if_pos, if_neg, ↓reduceIte]
theorem ZZ.trait (h : ZZ M tr sp he hate ch wd mo sk hr ts hs se spo seats words told mouths mouth hates seated chain wordsM word) {i w : Nat} (hi : i < M) (hw : w < 5) : X0_trait (nI i) (nI w) mo ts = some (nI (tr (5 * i + w))) ∧ mouth (5 * i + w) = nI (tr (5 * i + w)) := by
  obtain ⟨h0, hwc, hp, hq, -, -, -⟩ := h
  have hM7 := hwc.1
  have c4 := hq.2.2.2.1 (5 * i + w) (by omega)
  rw [Nat.mul_zero, Nat.zero_add] at c4
  refine ⟨?_, c4⟩
  have hh := z_has hi hM7
  simp (disch := omega) only [X0_trait, hp.1, hh, gx_b_some, pz_l0, pz_l1, pz_l2, pz_l3, pz_l4, pz_l5, pz_l6, pz_l7, pz_l8, pz_l9, pz_l10, pz_l11, pz_l12, pz_l13, pz_l20, pz_l21, pz_l31, pz_l32, pz_l34, pz_l35, pz_l36, pz_l37, pz_l38, pz_l39, pz_l44, pz_l48, pz_l50, pz_l57, pz_l59, pz_l70, pz_l99, pz_l100, pz_l104, pz_l105, pz_l116, pz_l128, pz_l199, pz_l200, pz_l255, pz_l9999, pz_l10000, pz_lt, pz_le, pz_eq, pz_cl, pz_in, pz_add, pz_mul, pz_sub, if_pos, if_neg, ↓reduceIte]
  rw [Nat.mul_comm i 5, hp.2.2.2.1 (5 * i + w) (by omega)]
theorem carried_l (h : ZZ M tr sp he hate ch wd mo sk hr ts hs se spo seats words told mouths mouth hates seated chain wordsM word) (K : Nat) (hK : K ≤ ch.length) : ∀ (fuel k s : Nat), k ≤ K → s < 10 → K - k < fuel → ∃ r, r < 10 ∧ X6_carried_l6 fuel (nI K) (nI 0) (nI s) (nI k) se seats mo ts = some (nI r) ∧ X7_said_l45 fuel (nI K) (nI s) (nI k) mouth seated chain wordsM word = some (nI r) := by
  intro fuel
  induction fuel with
  | zero => intro k s h1 h2 h3; omega
  | succ n ih =>
    intro k s h1 hs10 h3
    have hl := h.2.2.2.2.1.2.1
    have hse := h.2.2.2.2.2.1.1
    by_cases hk : k = K
    · subst hk
      refine ⟨s, hs10, ?_, ?_⟩
      · show X6_carried_b6 _ _ _ _ _ _ _ _ _ = _
        simp (disch := omega) only [X6_carried_b6, pz_l0, pz_l1, pz_l2, pz_l3, pz_l4, pz_l5, pz_l6, pz_l7, pz_l8, pz_l9, pz_l10, pz_l11, pz_l12, pz_l13, pz_l20, pz_l21, pz_l31, pz_l32, pz_l34, pz_l35, pz_l36, pz_l37, pz_l38, pz_l39, pz_l44, pz_l48, pz_l50, pz_l57, pz_l59, pz_l70, pz_l99, pz_l100, pz_l104, pz_l105, pz_l116, pz_l128, pz_l199, pz_l200, pz_l255, pz_l9999, pz_l10000, pz_lt, pz_le, pz_eq, pz_cl, pz_in, pz_add, pz_mul, pz_sub, if_pos, if_neg, ↓reduceIte]
      · show X7_said_b45 _ _ _ _ _ _ _ _ _ = _
        simp (disch := omega) only [X7_said_b45, pz_l0, pz_l1, pz_l2, pz_l3, pz_l4, pz_l5, pz_l6, pz_l7, pz_l8, pz_l9, pz_l10, pz_l11, pz_l12, pz_l13, pz_l20, pz_l21, pz_l31, pz_l32, pz_l34, pz_l35, pz_l36, pz_l37, pz_l38, pz_l39, pz_l44, pz_l48, pz_l50, pz_l57, pz_l59, pz_l70, pz_l99, pz_l100, pz_l104, pz_l105, pz_l116, pz_l128, pz_l199, pz_l200, pz_l255, pz_l9999, pz_l10000, pz_lt, pz_le, pz_eq, pz_cl, pz_in, pz_add, pz_mul, pz_sub, if_pos, if_neg, ↓reduceIte]
    · obtain ⟨i, hi, hi7, -, e1, e2⟩ := h.seat (k := k) (by omega)
      obtain ⟨t1, t2⟩ := h.trait hi (w := 2) (by omega)
      have hkd := (h.2.1.2.2.2.2 i hi).2.2.2.1
      obtain ⟨r, hr10, f1, f2⟩ := ih (k + 1) (md (tr (5 * i + 2)) s) (by omega) (md_lt _ hkd _ hs10) (by omega)
      have hb0 := bit_at 0 (by omega) i hi7
      have hb1 : ((nI 0 >>> (nI i &&& nI 31)) &&& nI 1) = nI 0 := by rw [Nat.zero_testBit] at hb0; exact hb0
      rw [hse] at e1 f1
      refine ⟨r, hr10, ?_, ?_⟩
      · show X6_carried_b6 _ _ _ _ _ _ _ _ _ = _
        simp (disch := omega) only [X6_carried_b6, X6_carried_b49, X6_carried_b70, X1_seated, hse, gx_b_some, e1, pz_l0, pz_l1, pz_l2, pz_l3, pz_l4, pz_l5, pz_l6, pz_l7, pz_l8, pz_l9, pz_l10, pz_l11, pz_l12, pz_l13, pz_l20, pz_l21, pz_l31, pz_l32, pz_l34, pz_l35, pz_l36, pz_l37, pz_l38, pz_l39, pz_l44, pz_l48, pz_l50, pz_l57, pz_l59, pz_l70, pz_l99, pz_l100, pz_l104, pz_l105, pz_l116, pz_l128, pz_l199, pz_l200, pz_l255, pz_l9999, pz_l10000, pz_lt, pz_le, pz_eq, pz_cl, pz_in, pz_add, pz_mul, pz_sub, if_pos, if_neg, ↓reduceIte, hb1, t1, c_turned _ hkd _ hs10, f1]
      · show X7_said_b45 _ _ _ _ _ _ _ _ _ = _
        simp (disch := omega) only [X7_said_b45, e2, t2, q_made _ hkd _ hs10, gx_b_some, pz_l0, pz_l1, pz_l2, pz_l3, pz_l4, pz_l5, pz_l6, pz_l7, pz_l8, pz_l9, pz_l10, pz_l11, pz_l12, pz_l13, pz_l20, pz_l21, pz_l31, pz_l32, pz_l34, pz_l35, pz_l36, pz_l37, pz_l38, pz_l39, pz_l44, pz_l48, pz_l50, pz_l57, pz_l59, pz_l70, pz_l99, pz_l100, pz_l104, pz_l105, pz_l116, pz_l128, pz_l199, pz_l200, pz_l255, pz_l9999, pz_l10000, pz_lt, pz_le, pz_eq, pz_cl, pz_in, pz_add, pz_mul, pz_sub, if_pos, if_neg, ↓reduceIte, f2]
theorem w_said (h : ZZ M tr sp he hate ch wd mo sk hr ts hs se spo seats words told mouths mouth hates seated chain wordsM word) (x1 x2 : Int32) : ∃ r : Int32, X6_said x1 x2 se spo seats words mo ts = some r ∧ X7_said x1 x2 mouth seated chain wordsM word = some r := by
  obtain ⟨w1, w2, w3, w4, w5⟩ := h.2.2.2.2.1
  obtain ⟨p1, p2, p3, p4⟩ := h.2.2.2.2.2.1
  obtain ⟨q1, q2, q3, q4⟩ := h.2.2.2.2.2.2
  have z0 : (0 : Int32).toNatClampNeg = 0 := by decide
  have g3 : gx_in (0 : Int32) 3 := by decide
  by_cases hx1 : x1 < 0
  · exact ⟨-1, by simp [X6_said, hx1], by simp [X7_said, hx1]⟩
  · have hx1' : ¬ x1 < nI 0 := hx1
    rcases q_in4 x2 ch.length (by omega) (nI ch.length).toInt64 rfl with ⟨h1, h2⟩ | ⟨h0, h1, h2⟩ | hh
    · refine ⟨-1, by simp [X6_said, hx1, h1], ?_⟩
      simp (disch := omega) only [X7_said, if_neg hx1', q1, h2, gx_b_some, pz_l0, pz_l1, pz_l2, pz_l3, pz_l4, pz_l5, pz_l6, pz_l7, pz_l8, pz_l9, pz_l10, pz_l11, pz_l12, pz_l13, pz_l20, pz_l21, pz_l31, pz_l32, pz_l34, pz_l35, pz_l36, pz_l37, pz_l38, pz_l39, pz_l44, pz_l48, pz_l50, pz_l57, pz_l59, pz_l70, pz_l99, pz_l100, pz_l104, pz_l105, pz_l116, pz_l128, pz_l199, pz_l200, pz_l255, pz_l9999, pz_l10000, pz_lt, pz_le, pz_eq, pz_cl, pz_in, pz_add, pz_mul, pz_sub, if_pos, if_neg, ↓reduceIte]
    · have h3 : ¬ x2 ≤ nI ch.length := by
        intro h; rw [Int32.le_iff_toInt_le, pz_ti (by omega)] at h h1; omega
      refine ⟨-1, by simp [X6_said, hx1, h0, X1_seated, p1, gx_b_some, h3], ?_⟩
      simp (disch := omega) only [X7_said, if_neg hx1', q1, h2, gx_b_some, pz_l0, pz_l1, pz_l2, pz_l3, pz_l4, pz_l5, pz_l6, pz_l7, pz_l8, pz_l9, pz_l10, pz_l11, pz_l12, pz_l13, pz_l20, pz_l21, pz_l31, pz_l32, pz_l34, pz_l35, pz_l36, pz_l37, pz_l38, pz_l39, pz_l44, pz_l48, pz_l50, pz_l57, pz_l59, pz_l70, pz_l99, pz_l100, pz_l104, pz_l105, pz_l116, pz_l128, pz_l199, pz_l200, pz_l255, pz_l9999, pz_l10000, pz_lt, pz_le, pz_eq, pz_cl, pz_in, pz_add, pz_mul, pz_sub, if_pos, if_neg, ↓reduceIte]
    · obtain ⟨K, hK, rfl, h2⟩ := hh (by omega)
      rcases pz_ix x1 wd.length (by omega) with ⟨a1, a2⟩ | ⟨a0, a1, a2, a3⟩ | ⟨j, hj, rfl⟩
      · exact absurd a1 hx1
      · refine ⟨-4, ?_, ?_⟩
        · simp (disch := omega) [X6_said, hx1, X1_seated, X1_spoken, p1, p2, gx_b_some, a3, pz_l0, pz_l1, pz_l2, pz_l3, pz_l4, pz_l5, pz_l6, pz_l7, pz_l8, pz_l9, pz_l10, pz_l11, pz_l12, pz_l13, pz_l20, pz_l21, pz_l31, pz_l32, pz_l34, pz_l35, pz_l36, pz_l37, pz_l38, pz_l39, pz_l44, pz_l48, pz_l50, pz_l57, pz_l59, pz_l70, pz_l99, pz_l100, pz_l104, pz_l105, pz_l116, pz_l128, pz_l199, pz_l200, pz_l255, pz_l9999, pz_l10000, pz_lt, pz_le, pz_eq, pz_cl, pz_in, pz_add, pz_mul, pz_sub, if_pos, if_neg, ↓reduceIte]
        · simp (disch := omega) only [X7_said, if_neg hx1', q1, q2, h2, gx_b_some, pz_l0, pz_l1, pz_l2, pz_l3, pz_l4, pz_l5, pz_l6, pz_l7, pz_l8, pz_l9, pz_l10, pz_l11, pz_l12, pz_l13, pz_l20, pz_l21, pz_l31, pz_l32, pz_l34, pz_l35, pz_l36, pz_l37, pz_l38, pz_l39, pz_l44, pz_l48, pz_l50, pz_l57, pz_l59, pz_l70, pz_l99, pz_l100, pz_l104, pz_l105, pz_l116, pz_l128, pz_l199, pz_l200, pz_l255, pz_l9999, pz_l10000, pz_lt, pz_le, pz_eq, pz_cl, pz_in, pz_add, pz_mul, pz_sub, if_pos, if_neg, ↓reduceIte, if_neg a3]
      · have c4 := q4 j hj
        rw [Nat.mul_zero, Nat.zero_add] at c4
        have hs10 := w5 _ (gd_mem hj)
        obtain ⟨r, hr10, f1, f2⟩ := carried_l h K hK gx_F 0 (wd.getD j 0) (by omega) hs10 (by rw [gx_F_eq]; omega)
        refine ⟨nI r, ?_, ?_⟩
        · rw [p1] at f1
          simp (disch := omega) only [X6_said, X6_carried, X1_seated, X1_spoken, X1_wordAt, p1, p2, p4 j hj, gx_b_some, pz_l0, pz_l1, pz_l2, pz_l3, pz_l4, pz_l5, pz_l6, pz_l7, pz_l8, pz_l9, pz_l10, pz_l11, pz_l12, pz_l13, pz_l20, pz_l21, pz_l31, pz_l32, pz_l34, pz_l35, pz_l36, pz_l37, pz_l38, pz_l39, pz_l44, pz_l48, pz_l50, pz_l57, pz_l59, pz_l70, pz_l99, pz_l100, pz_l104, pz_l105, pz_l116, pz_l128, pz_l199, pz_l200, pz_l255, pz_l9999, pz_l10000, pz_lt, pz_le, pz_eq, pz_cl, pz_in, pz_add, pz_mul, pz_sub, if_pos, if_neg, ↓reduceIte, f1]
        · simp (disch := omega) only [X7_said, q1, q2, h2, gx_b_some, pz_l0, pz_l1, pz_l2, pz_l3, pz_l4, pz_l5, pz_l6, pz_l7, pz_l8, pz_l9, pz_l10, pz_l11, pz_l12, pz_l13, pz_l20, pz_l21, pz_l31, pz_l32, pz_l34, pz_l35, pz_l36, pz_l37, pz_l38, pz_l39, pz_l44, pz_l48, pz_l50, pz_l57, pz_l59, pz_l70, pz_l99, pz_l100, pz_l104, pz_l105, pz_l116, pz_l128, pz_l199, pz_l200, pz_l255, pz_l9999, pz_l10000, pz_lt, pz_le, pz_eq, pz_cl, pz_in, pz_add, pz_mul, pz_sub, if_pos, if_neg, ↓reduceIte, gx_l, c4, f2]
theorem judged_l (h : ZZ M tr sp he hate ch wd mo sk hr ts hs se spo seats words told mouths mouth hates seated chain wordsM word) : ∀ (fuel k t : Nat), k ≤ ch.length → t < 9 → ch.length - k < fuel → ∃ r : Int32, X6_judged_l10 X6_judged_b52 fuel (nI t) (nI k) se seats mo sk hr ts = some r ∧ X7_judged_l9 X7_judged_b43 fuel (nI t) (nI k) told mouth seated chain = some r := by
  intro fuel
  induction fuel with
  | zero => intro k s h1 h2 h3; omega
  | succ n ih =>
    intro k t h1 ht h3
    have hl := h.2.2.2.2.1.2.1
    have hse := h.2.2.2.2.2.1.1
    have q1 := h.2.2.2.2.2.2.1
    have hhr := h.2.2.1.2.2.1
    have hhe := h.2.1.2.2.1
    have htd := h.2.2.2.1.2.2.1
    rw [Nat.mul_zero, Nat.zero_add] at htd
    by_cases hk : k = ch.length
    · subst hk
      by_cases hte : t = he
      · refine ⟨-4, ?_, ?_⟩
        · show X6_judged_b10 _ _ _ _ _ _ _ _ _ _ = _
          simp (disch := omega) [X6_judged_b10, X6_judged_b52, X1_seated, X0_hears, hse, hhr, hte, gx_b_some, pz_l0, pz_l1, pz_l2, pz_l3, pz_l4, pz_l5, pz_l6, pz_l7, pz_l8, pz_l9, pz_l10, pz_l11, pz_l12, pz_l13, pz_l20, pz_l21, pz_l31, pz_l32, pz_l34, pz_l35, pz_l36, pz_l37, pz_l38, pz_l39, pz_l44, pz_l48, pz_l50, pz_l57, pz_l59, pz_l70, pz_l99, pz_l100, pz_l104, pz_l105, pz_l116, pz_l128, pz_l199, pz_l200, pz_l255, pz_l9999, pz_l10000, pz_lt, pz_le, pz_eq, pz_cl, pz_in, pz_add, pz_mul, pz_sub, if_pos, if_neg, ↓reduceIte]
        · show X7_judged_b9 _ _ _ _ _ _ _ _ = _
          simp (disch := omega) [X7_judged_b9, X7_judged_b43, q1, htd, hte, pz_l0, pz_l1, pz_l2, pz_l3, pz_l4, pz_l5, pz_l6, pz_l7, pz_l8, pz_l9, pz_l10, pz_l11, pz_l12, pz_l13, pz_l20, pz_l21, pz_l31, pz_l32, pz_l34, pz_l35, pz_l36, pz_l37, pz_l38, pz_l39, pz_l44, pz_l48, pz_l50, pz_l57, pz_l59, pz_l70, pz_l99, pz_l100, pz_l104, pz_l105, pz_l116, pz_l128, pz_l199, pz_l200, pz_l255, pz_l9999, pz_l10000, pz_lt, pz_le, pz_eq, pz_cl, pz_in, pz_add, pz_mul, pz_sub, if_pos, if_neg, ↓reduceIte]
      · refine ⟨nI ch.length, ?_, ?_⟩
        · show X6_judged_b10 _ _ _ _ _ _ _ _ _ _ = _
          simp (disch := omega) [X6_judged_b10, X6_judged_b52, X1_seated, X0_hears, hse, hhr, gx_b_some, pz_l0, pz_l1, pz_l2, pz_l3, pz_l4, pz_l5, pz_l6, pz_l7, pz_l8, pz_l9, pz_l10, pz_l11, pz_l12, pz_l13, pz_l20, pz_l21, pz_l31, pz_l32, pz_l34, pz_l35, pz_l36, pz_l37, pz_l38, pz_l39, pz_l44, pz_l48, pz_l50, pz_l57, pz_l59, pz_l70, pz_l99, pz_l100, pz_l104, pz_l105, pz_l116, pz_l128, pz_l199, pz_l200, pz_l255, pz_l9999, pz_l10000, pz_lt, pz_le, pz_eq, pz_cl, pz_in, pz_add, pz_mul, pz_sub, if_pos, if_neg, ↓reduceIte]
        · show X7_judged_b9 _ _ _ _ _ _ _ _ = _
          simp (disch := omega) [X7_judged_b9, X7_judged_b43, q1, htd, pz_l0, pz_l1, pz_l2, pz_l3, pz_l4, pz_l5, pz_l6, pz_l7, pz_l8, pz_l9, pz_l10, pz_l11, pz_l12, pz_l13, pz_l20, pz_l21, pz_l31, pz_l32, pz_l34, pz_l35, pz_l36, pz_l37, pz_l38, pz_l39, pz_l44, pz_l48, pz_l50, pz_l57, pz_l59, pz_l70, pz_l99, pz_l100, pz_l104, pz_l105, pz_l116, pz_l128, pz_l199, pz_l200, pz_l255, pz_l9999, pz_l10000, pz_lt, pz_le, pz_eq, pz_cl, pz_in, pz_add, pz_mul, pz_sub, if_pos, if_neg, ↓reduceIte]
    · obtain ⟨i, hi, hi7, -, e1, e2⟩ := h.seat (k := k) (by omega)
      obtain ⟨t1, t2⟩ := h.trait hi (w := 0) (by omega)
      obtain ⟨u1, u2⟩ := h.trait hi (w := 1) (by omega)
      obtain ⟨g0, g1, g01, -⟩ := h.2.1.2.2.2.2 i hi
      rw [Nat.add_zero] at t2
      have hhas := z_has hi h.2.1.1
      have p1 := h.2.2.1.1
      have p4 := h.2.2.1.2.2.2.1
      have a0 := p4 (5 * i) (by have := h.2.1.1; omega)
      have a1 := p4 (5 * i + 1) (by have := h.2.1.1; omega)
      rw [hse] at e1
      have n4 : ∀ a : Nat, a < 100 → ¬ nI a = -nI 4 := fun a ha e => by
        have := congrArg Int32.toInt e
        rw [pz_ti (by omega), show (-nI 4 : Int32).toInt = -4 by decide] at this
        omega
      by_cases c0 : tr (5 * i) = t
      · obtain ⟨r, f1, f2⟩ := ih (k + 1) (tr (5 * i + 1)) (by omega) (by omega) (by omega)
        rw [hse, p1] at f1
        refine ⟨r, ?_, ?_⟩
        · show X6_judged_b10 _ _ _ _ _ _ _ _ _ _ = _
          simp (disch := omega) only [X6_judged_b10, X1_seated, hse, gx_b_some, e1, X0_across, p1, hhas, gx_l, Nat.mul_comm i 5, a0, a1, c0, pz_l0, pz_l1, pz_l2, pz_l3, pz_l4, pz_l5, pz_l6, pz_l7, pz_l8, pz_l9, pz_l10, pz_l11, pz_l12, pz_l13, pz_l20, pz_l21, pz_l31, pz_l32, pz_l34, pz_l35, pz_l36, pz_l37, pz_l38, pz_l39, pz_l44, pz_l48, pz_l50, pz_l57, pz_l59, pz_l70, pz_l99, pz_l100, pz_l104, pz_l105, pz_l116, pz_l128, pz_l199, pz_l200, pz_l255, pz_l9999, pz_l10000, pz_lt, pz_le, pz_eq, pz_cl, pz_in, pz_add, pz_mul, pz_sub, if_pos, if_neg, ↓reduceIte, if_neg (n4 _ (Nat.lt_trans g1 (by omega : 9 < 100))), f1]
        · show X7_judged_b9 _ _ _ _ _ _ _ _ = _
          simp (disch := omega) only [X7_judged_b9, q1, e2, X7_speaks, t2, u2, c0, gx_b_some, pz_l0, pz_l1, pz_l2, pz_l3, pz_l4, pz_l5, pz_l6, pz_l7, pz_l8, pz_l9, pz_l10, pz_l11, pz_l12, pz_l13, pz_l20, pz_l21, pz_l31, pz_l32, pz_l34, pz_l35, pz_l36, pz_l37, pz_l38, pz_l39, pz_l44, pz_l48, pz_l50, pz_l57, pz_l59, pz_l70, pz_l99, pz_l100, pz_l104, pz_l105, pz_l116, pz_l128, pz_l199, pz_l200, pz_l255, pz_l9999, pz_l10000, pz_lt, pz_le, pz_eq, pz_cl, pz_in, pz_add, pz_mul, pz_sub, if_pos, if_neg, ↓reduceIte, f2]
      · by_cases c1 : tr (5 * i + 1) = t
        · obtain ⟨r, f1, f2⟩ := ih (k + 1) (tr (5 * i)) (by omega) (by omega) (by omega)
          rw [hse, p1] at f1
          refine ⟨r, ?_, ?_⟩
          · show X6_judged_b10 _ _ _ _ _ _ _ _ _ _ = _
            simp (disch := omega) only [X6_judged_b10, X1_seated, hse, gx_b_some, e1, X0_across, p1, hhas, gx_l, Nat.mul_comm i 5, a0, a1, pz_l0, pz_l1, pz_l2, pz_l3, pz_l4, pz_l5, pz_l6, pz_l7, pz_l8, pz_l9, pz_l10, pz_l11, pz_l12, pz_l13, pz_l20, pz_l21, pz_l31, pz_l32, pz_l34, pz_l35, pz_l36, pz_l37, pz_l38, pz_l39, pz_l44, pz_l48, pz_l50, pz_l57, pz_l59, pz_l70, pz_l99, pz_l100, pz_l104, pz_l105, pz_l116, pz_l128, pz_l199, pz_l200, pz_l255, pz_l9999, pz_l10000, pz_lt, pz_le, pz_eq, pz_cl, pz_in, pz_add, pz_mul, pz_sub, if_pos, if_neg, ↓reduceIte, if_neg (n4 _ (Nat.lt_trans g0 (by omega : 9 < 100))), f1]
          · show X7_judged_b9 _ _ _ _ _ _ _ _ = _
            simp (disch := omega) only [X7_judged_b9, q1, e2, X7_speaks, t2, u2, gx_b_some, pz_l0, pz_l1, pz_l2, pz_l3, pz_l4, pz_l5, pz_l6, pz_l7, pz_l8, pz_l9, pz_l10, pz_l11, pz_l12, pz_l13, pz_l20, pz_l21, pz_l31, pz_l32, pz_l34, pz_l35, pz_l36, pz_l37, pz_l38, pz_l39, pz_l44, pz_l48, pz_l50, pz_l57, pz_l59, pz_l70, pz_l99, pz_l100, pz_l104, pz_l105, pz_l116, pz_l128, pz_l199, pz_l200, pz_l255, pz_l9999, pz_l10000, pz_lt, pz_le, pz_eq, pz_cl, pz_in, pz_add, pz_mul, pz_sub, if_pos, if_neg, ↓reduceIte, f2]
        · refine ⟨nI k, ?_, ?_⟩
          · show X6_judged_b10 _ _ _ _ _ _ _ _ _ _ = _
            simp (disch := omega) only [X6_judged_b10, X1_seated, hse, gx_b_some, e1, X0_across, p1, hhas, gx_l, Nat.mul_comm i 5, a0, a1, pz_l0, pz_l1, pz_l2, pz_l3, pz_l4, pz_l5, pz_l6, pz_l7, pz_l8, pz_l9, pz_l10, pz_l11, pz_l12, pz_l13, pz_l20, pz_l21, pz_l31, pz_l32, pz_l34, pz_l35, pz_l36, pz_l37, pz_l38, pz_l39, pz_l44, pz_l48, pz_l50, pz_l57, pz_l59, pz_l70, pz_l99, pz_l100, pz_l104, pz_l105, pz_l116, pz_l128, pz_l199, pz_l200, pz_l255, pz_l9999, pz_l10000, pz_lt, pz_le, pz_eq, pz_cl, pz_in, pz_add, pz_mul, pz_sub, if_pos, if_neg, ↓reduceIte]
          · show X7_judged_b9 _ _ _ _ _ _ _ _ = _
            have m1 : ¬ (nI 0 : Int32) ≤ -nI 1 := by decide
            simp (disch := omega) only [X7_judged_b9, q1, e2, X7_speaks, t2, u2, gx_b_some, pz_l0, pz_l1, pz_l2, pz_l3, pz_l4, pz_l5, pz_l6, pz_l7, pz_l8, pz_l9, pz_l10, pz_l11, pz_l12, pz_l13, pz_l20, pz_l21, pz_l31, pz_l32, pz_l34, pz_l35, pz_l36, pz_l37, pz_l38, pz_l39, pz_l44, pz_l48, pz_l50, pz_l57, pz_l59, pz_l70, pz_l99, pz_l100, pz_l104, pz_l105, pz_l116, pz_l128, pz_l199, pz_l200, pz_l255, pz_l9999, pz_l10000, pz_lt, pz_le, pz_eq, pz_cl, pz_in, pz_add, pz_mul, pz_sub, if_pos, if_neg, ↓reduceIte, if_neg m1]
theorem w_judged (h : ZZ M tr sp he hate ch wd mo sk hr ts hs se spo seats words told mouths mouth hates seated chain wordsM word) : ∃ r : Int32, X6_judged se seats mo sk hr ts = some r ∧ X7_judged told mouth seated chain = some r := by
  obtain ⟨r, f1, f2⟩ := judged_l h gx_F 0 sp (by omega) h.2.1.2.1 (by have := h.2.2.2.2.1.2.1; rw [gx_F_eq]; omega)
  have e1 := h.2.2.1.2.1
  have e2 := h.2.2.2.1.2.1
  rw [Nat.mul_zero] at e2
  refine ⟨r, ?_, ?_⟩
  · simp only [X6_judged, X0_speaks, gx_b_some, pz_l0]
    rw [e1]
    rw [e1] at f1
    exact f1
  · simp (disch := omega) only [X7_judged, gx_l, e2, pz_l0, pz_l1, pz_l2, pz_l3, pz_l4, pz_l5, pz_l6, pz_l7, pz_l8, pz_l9, pz_l10, pz_l11, pz_l12, pz_l13, pz_l20, pz_l21, pz_l31, pz_l32, pz_l34, pz_l35, pz_l36, pz_l37, pz_l38, pz_l39, pz_l44, pz_l48, pz_l50, pz_l57, pz_l59, pz_l70, pz_l99, pz_l100, pz_l104, pz_l105, pz_l116, pz_l128, pz_l199, pz_l200, pz_l255, pz_l9999, pz_l10000, pz_lt, pz_le, pz_eq, pz_cl, pz_in, pz_add, pz_mul, pz_sub, if_pos, if_neg, ↓reduceIte, f2]
end WALKS
