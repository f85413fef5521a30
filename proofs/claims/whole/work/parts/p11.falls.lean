/-! ===== verdicts ===== -/
def lns (s : Nat) : Int32 := if s = 1 then 1 else if s = 2 then -1 else 0
theorem c_leaning : ∀ s, s < 10 → X6_leaning (nI s) = some (lns s) := by decide +kernel
theorem q_leans : ∀ s, s < 10 → X7_leans (nI s) = some (lns s) := by decide +kernel
def vdt (b : Int32) : Int32 := if b = 0 then 0 else if b ≤ 0 then 2 else 1
theorem c_verdict (b : Int32) : X6_verdictOf b = some (vdt b) := by
  unfold X6_verdictOf vdt
  by_cases h1 : b = 0
  · simp [h1]
  · by_cases h2 : b ≤ 0 <;> simp [h1, h2]
theorem q_verdict (b : Int32) : X7_verdict b = some (vdt b) := by
  unfold X7_verdict vdt
  by_cases h1 : b = 0
  · subst h1; decide
  · by_cases h2 : b ≤ 0
    · have h3 : ¬ (0 : Int32) ≤ b := fun h => h1 (Int32.toInt_inj.mp (by
        rw [Int32.le_iff_toInt_le] at h h2
        omega))
      simp [h1, h2, h3]
    · simp [h1, h2]
def lsm : List Nat → Int32 → Int32
  | [], b => b
  | s :: l, b => lsm l (b + lns s)
def lsT (tr : Nat → Nat) (z : Int32) (ch : List Nat) : List Nat → Nat → Int32 → Int32
  | [], _, b => b
  | s :: l, k, b => lsT tr z ch l (k + 1) (b + lns (trd tr z (nI k) ch 0 s))
section FALLS
variable {M sp he : Nat} {tr hate : Nat → Nat} {ch wd : List Nat} {mo sk hr se spo : Int32} {ts hs seats words told mouths mouth hates seated chain wordsM word : Nat → Int32}
theorem spv_l (h : ZZ M tr sp he hate ch wd mo sk hr ts hs se spo seats words told mouths mouth hates seated chain wordsM word) : ∀ (fuel k : Nat) (b : Int32), k ≤ wd.length → wd.length - k < fuel → X6_spokenVerdict_l4 X6_spokenVerdict_b35 fuel b (nI k) spo words = some (vdt (lsm (wd.drop k) b)) := by
  intro fuel
  induction fuel with
  | zero => intro k b h1 h2; omega
  | succ n ih =>
    intro k b h1 h2
    obtain ⟨w1, w2, w3, w4, w5⟩ := h.2.2.2.2.1
    obtain ⟨p1, p2, p3, p4⟩ := h.2.2.2.2.2.1
    show X6_spokenVerdict_b4 _ _ _ _ _ _ = _
    by_cases hk : k = wd.length
    · subst hk
      simp (disch := omega) only [X6_spokenVerdict_b4, X6_spokenVerdict_b35, X1_spoken, p2, gx_b_some, c_verdict, List.drop_length, lsm, pz_l0, pz_l1, pz_l2, pz_l3, pz_l4, pz_l5, pz_l6, pz_l7, pz_l8, pz_l9, pz_l10, pz_l11, pz_l12, pz_l13, pz_l20, pz_l21, pz_l31, pz_l32, pz_l34, pz_l35, pz_l36, pz_l37, pz_l38, pz_l39, pz_l44, pz_l48, pz_l50, pz_l57, pz_l59, pz_l70, pz_l99, pz_l100, pz_l104, pz_l105, pz_l116, pz_l128, pz_l199, pz_l200, pz_l255, pz_l9999, pz_l10000, pz_lt, pz_le, pz_eq, pz_cl, pz_in, pz_add, pz_mul, pz_sub, if_pos, if_neg, ↓reduceIte]
    · have hk2 : k < wd.length := by omega
      have hs10 := w5 _ (gd_mem hk2)
      have f := ih (k + 1) (b + lns (wd.getD k 0)) (by omega) (by omega)
      rw [p2] at f
      rw [dr_cons hk2, lsm]
      simp (disch := omega) only [X6_spokenVerdict_b4, X1_spoken, X1_wordAt, p2, p4 k hk2, gx_b_some, gx_l, c_leaning _ hs10, pz_l0, pz_l1, pz_l2, pz_l3, pz_l4, pz_l5, pz_l6, pz_l7, pz_l8, pz_l9, pz_l10, pz_l11, pz_l12, pz_l13, pz_l20, pz_l21, pz_l31, pz_l32, pz_l34, pz_l35, pz_l36, pz_l37, pz_l38, pz_l39, pz_l44, pz_l48, pz_l50, pz_l57, pz_l59, pz_l70, pz_l99, pz_l100, pz_l104, pz_l105, pz_l116, pz_l128, pz_l199, pz_l200, pz_l255, pz_l9999, pz_l10000, pz_lt, pz_le, pz_eq, pz_cl, pz_in, pz_add, pz_mul, pz_sub, if_pos, if_neg, ↓reduceIte, f]
theorem trv_l (h : ZZ M tr sp he hate ch wd mo sk hr ts hs se spo seats words told mouths mouth hates seated chain wordsM word) (z : Int32) : ∀ (fuel k : Nat) (b : Int32), k ≤ wd.length → wd.length - k < fuel → X6_triedVerdict_l4 X6_triedVerdict_b33 fuel z b (nI k) se spo seats words mo ts = some (vdt (lsT tr z ch (wd.drop k) k b)) := by
  intro fuel
  induction fuel with
  | zero => intro k b h1 h2; omega
  | succ n ih =>
    intro k b h1 h2
    obtain ⟨w1, w2, w3, w4, w5⟩ := h.2.2.2.2.1
    obtain ⟨p1, p2, p3, p4⟩ := h.2.2.2.2.2.1
    show X6_triedVerdict_b4 _ _ _ _ _ _ _ _ _ _ _ = _
    by_cases hk : k = wd.length
    · subst hk
      simp (disch := omega) only [X6_triedVerdict_b4, X6_triedVerdict_b33, X1_spoken, p2, gx_b_some, c_verdict, List.drop_length, lsT, pz_l0, pz_l1, pz_l2, pz_l3, pz_l4, pz_l5, pz_l6, pz_l7, pz_l8, pz_l9, pz_l10, pz_l11, pz_l12, pz_l13, pz_l20, pz_l21, pz_l31, pz_l32, pz_l34, pz_l35, pz_l36, pz_l37, pz_l38, pz_l39, pz_l44, pz_l48, pz_l50, pz_l57, pz_l59, pz_l70, pz_l99, pz_l100, pz_l104, pz_l105, pz_l116, pz_l128, pz_l199, pz_l200, pz_l255, pz_l9999, pz_l10000, pz_lt, pz_le, pz_eq, pz_cl, pz_in, pz_add, pz_mul, pz_sub, if_pos, if_neg, ↓reduceIte]
    · have hk2 : k < wd.length := by omega
      obtain ⟨g0, f1, f2⟩ := w_tried h z k hk2
      have f := ih (k + 1) (b + lns (trd tr z (nI k) ch 0 (wd.getD k 0))) (by omega) (by omega)
      rw [p2] at f f1
      rw [dr_cons hk2, lsT]
      simp (disch := omega) only [X6_triedVerdict_b4, X1_spoken, p2, f1, gx_b_some, gx_l, c_leaning _ g0, pz_l0, pz_l1, pz_l2, pz_l3, pz_l4, pz_l5, pz_l6, pz_l7, pz_l8, pz_l9, pz_l10, pz_l11, pz_l12, pz_l13, pz_l20, pz_l21, pz_l31, pz_l32, pz_l34, pz_l35, pz_l36, pz_l37, pz_l38, pz_l39, pz_l44, pz_l48, pz_l50, pz_l57, pz_l59, pz_l70, pz_l99, pz_l100, pz_l104, pz_l105, pz_l116, pz_l128, pz_l199, pz_l200, pz_l255, pz_l9999, pz_l10000, pz_lt, pz_le, pz_eq, pz_cl, pz_in, pz_add, pz_mul, pz_sub, if_pos, if_neg, ↓reduceIte, f]
theorem fal_l (h : ZZ M tr sp he hate ch wd mo sk hr ts hs se spo seats words told mouths mouth hates seated chain wordsM word) (K : Int32 → Int32 → Int32 → Int32 → Int32 → (Nat → Int32) → (Nat → Int32) → (Nat → Int32) → (Nat → Int32) → (Nat → Int32) → Option Int32) (x1 x2 x3 z : Int32) (hz : (x1 + x3) - (x1 + x3) / nI 10000 * nI 10000 = z) : ∀ (fuel k : Nat) (a b : Int32), k ≤ wd.length → wd.length - k < fuel → X7_falls_l28 K fuel x1 x2 x3 a b (nI k) mouth seated chain wordsM word = K x1 x2 x3 (lsm (wd.drop k) a) (lsT tr z ch (wd.drop k) k b) mouth seated chain wordsM word := by
  intro fuel
  induction fuel with
  | zero => intro k a b h1 h2; omega
  | succ n ih =>
    intro k a b h1 h2
    obtain ⟨w1, w2, w3, w4, w5⟩ := h.2.2.2.2.1
    obtain ⟨q1, q2, q3, q4⟩ := h.2.2.2.2.2.2
    show X7_falls_b28 _ _ _ _ _ _ _ _ _ _ _ _ _ = _
    by_cases hk : k = wd.length
    · subst hk
      simp (disch := omega) only [X7_falls_b28, q2, List.drop_length, lsT, lsm, pz_l0, pz_l1, pz_l2, pz_l3, pz_l4, pz_l5, pz_l6, pz_l7, pz_l8, pz_l9, pz_l10, pz_l11, pz_l12, pz_l13, pz_l20, pz_l21, pz_l31, pz_l32, pz_l34, pz_l35, pz_l36, pz_l37, pz_l38, pz_l39, pz_l44, pz_l48, pz_l50, pz_l57, pz_l59, pz_l70, pz_l99, pz_l100, pz_l104, pz_l105, pz_l116, pz_l128, pz_l199, pz_l200, pz_l255, pz_l9999, pz_l10000, pz_lt, pz_le, pz_eq, pz_cl, pz_in, pz_add, pz_mul, pz_sub, if_pos, if_neg, ↓reduceIte]
    · have hk2 : k < wd.length := by omega
      have c4 := q4 k hk2
      rw [Nat.mul_zero, Nat.zero_add] at c4
      have hs10 := w5 _ (gd_mem hk2)
      obtain ⟨g0, f1, f2⟩ := w_tried h z k hk2
      have f := ih (k + 1) (a + lns (wd.getD k 0)) (b + lns (trd tr z (nI k) ch 0 (wd.getD k 0))) (by omega) (by omega)
      rw [dr_cons hk2, lsT, lsm]
      simp (disch := omega) only [X7_falls_b28, q2, c4, gx_b_some, gx_l, q_leans _ hs10, q_leans _ g0, pz_l0, pz_l1, pz_l2, pz_l3, pz_l4, pz_l5, pz_l6, pz_l7, pz_l8, pz_l9, pz_l10, pz_l11, pz_l12, pz_l13, pz_l20, pz_l21, pz_l31, pz_l32, pz_l34, pz_l35, pz_l36, pz_l37, pz_l38, pz_l39, pz_l44, pz_l48, pz_l50, pz_l57, pz_l59, pz_l70, pz_l99, pz_l100, pz_l104, pz_l105, pz_l116, pz_l128, pz_l199, pz_l200, pz_l255, pz_l9999, pz_l10000, hz, f2, pz_lt, pz_le, pz_eq, pz_cl, pz_in, pz_add, pz_mul, pz_sub, if_pos, if_neg, ↓reduceIte, f]
theorem falls_l (h : ZZ M tr sp he hate ch wd mo sk hr ts hs se spo seats words told mouths mouth hates seated chain wordsM word) (x1 : Int32) : ∀ (fuel e : Nat) (cnt : Int32), e ≤ 10 → 10 - e < fuel → ∃ r : Int32, X6_falls_l23 fuel x1 (vdt (lsm wd 0)) cnt (nI e) se spo seats words mo ts = some r ∧ X7_falls_l13 fuel x1 cnt (nI e) mouth seated chain wordsM word = some r := by
  intro fuel
  induction fuel with
  | zero => intro e cnt h1 h2; omega
  | succ n ih =>
    intro e cnt h1 h2
    have hwl := h.2.2.2.2.1.2.2.2.1
    by_cases he : e = 10
    · subst he
      refine ⟨cnt, ?_, ?_⟩
      · show X6_falls_b23 _ _ _ _ _ _ _ _ _ _ _ = _
        simp (disch := omega) only [X6_falls_b23, pz_l0, pz_l1, pz_l2, pz_l3, pz_l4, pz_l5, pz_l6, pz_l7, pz_l8, pz_l9, pz_l10, pz_l11, pz_l12, pz_l13, pz_l20, pz_l21, pz_l31, pz_l32, pz_l34, pz_l35, pz_l36, pz_l37, pz_l38, pz_l39, pz_l44, pz_l48, pz_l50, pz_l57, pz_l59, pz_l70, pz_l99, pz_l100, pz_l104, pz_l105, pz_l116, pz_l128, pz_l199, pz_l200, pz_l255, pz_l9999, pz_l10000, pz_lt, pz_le, pz_eq, pz_cl, pz_in, pz_add, pz_mul, pz_sub, if_pos, if_neg, ↓reduceIte]
      · show X7_falls_b13 _ _ _ _ _ _ _ _ _ = _
        simp (disch := omega) only [X7_falls_b13, pz_l0, pz_l1, pz_l2, pz_l3, pz_l4, pz_l5, pz_l6, pz_l7, pz_l8, pz_l9, pz_l10, pz_l11, pz_l12, pz_l13, pz_l20, pz_l21, pz_l31, pz_l32, pz_l34, pz_l35, pz_l36, pz_l37, pz_l38, pz_l39, pz_l44, pz_l48, pz_l50, pz_l57, pz_l59, pz_l70, pz_l99, pz_l100, pz_l104, pz_l105, pz_l116, pz_l128, pz_l199, pz_l200, pz_l255, pz_l9999, pz_l10000, pz_lt, pz_le, pz_eq, pz_cl, pz_in, pz_add, pz_mul, pz_sub, if_pos, if_neg, ↓reduceIte]
    · obtain ⟨z, hz⟩ : ∃ z, (x1 + nI e) - (x1 + nI e) / nI 10000 * nI 10000 = z := ⟨_, rfl⟩
      have f1 := trv_l h z gx_F 0 0 (by omega) (by rw [gx_F_eq]; omega)
      have f2 := fal_l h (X7_falls_b81 (X7_falls_l13 n)) x1 cnt (nI e) z hz gx_F 0 0 0 (by omega) (by rw [gx_F_eq]; omega)
      rw [List.drop_zero] at f1 f2
      by_cases hv : vdt (lsT tr z ch wd 0 0) = vdt (lsm wd 0)
      · obtain ⟨r, g1, g2⟩ := ih (e + 1) cnt (by omega) (by omega)
        refine ⟨r, ?_, ?_⟩
        · show X6_falls_b23 _ _ _ _ _ _ _ _ _ _ _ = _
          simp (disch := omega) only [X6_falls_b23, X6_falls_b49, X6_triedVerdict, pz_l0, pz_l1, pz_l2, pz_l3, pz_l4, pz_l5, pz_l6, pz_l7, pz_l8, pz_l9, pz_l10, pz_l11, pz_l12, pz_l13, pz_l20, pz_l21, pz_l31, pz_l32, pz_l34, pz_l35, pz_l36, pz_l37, pz_l38, pz_l39, pz_l44, pz_l48, pz_l50, pz_l57, pz_l59, pz_l70, pz_l99, pz_l100, pz_l104, pz_l105, pz_l116, pz_l128, pz_l199, pz_l200, pz_l255, pz_l9999, pz_l10000, hz, pz_lt, pz_le, pz_eq, pz_cl, pz_in, pz_add, pz_mul, pz_sub, if_pos, if_neg, ↓reduceIte] at f1 ⊢
          have hv' : vdt (lsT tr z ch wd 0 (nI 0)) = vdt (lsm wd (nI 0)) := hv
          rw [f1, gx_b_some, if_pos hv']
          exact g1
        · show X7_falls_b13 _ _ _ _ _ _ _ _ _ = _
          simp (disch := omega) only [X7_falls_b13, pz_l0, pz_l1, pz_l2, pz_l3, pz_l4, pz_l5, pz_l6, pz_l7, pz_l8, pz_l9, pz_l10, pz_l11, pz_l12, pz_l13, pz_l20, pz_l21, pz_l31, pz_l32, pz_l34, pz_l35, pz_l36, pz_l37, pz_l38, pz_l39, pz_l44, pz_l48, pz_l50, pz_l57, pz_l59, pz_l70, pz_l99, pz_l100, pz_l104, pz_l105, pz_l116, pz_l128, pz_l199, pz_l200, pz_l255, pz_l9999, pz_l10000, pz_lt, pz_le, pz_eq, pz_cl, pz_in, pz_add, pz_mul, pz_sub, if_pos, if_neg, ↓reduceIte] at f2 ⊢
          rw [f2]
          simp only [X7_falls_b81, X7_falls_b100, q_verdict, gx_b_some, gx_l, pz_l0.symm, Int32.add_zero]
          rw [if_pos hv.symm]
          rw [pz_l1, pz_add]
          exact g2
      · obtain ⟨r, g1, g2⟩ := ih (e + 1) (cnt + 1) (by omega) (by omega)
        refine ⟨r, ?_, ?_⟩
        · show X6_falls_b23 _ _ _ _ _ _ _ _ _ _ _ = _
          simp (disch := omega) only [X6_falls_b23, X6_falls_b49, X6_triedVerdict, pz_l0, pz_l1, pz_l2, pz_l3, pz_l4, pz_l5, pz_l6, pz_l7, pz_l8, pz_l9, pz_l10, pz_l11, pz_l12, pz_l13, pz_l20, pz_l21, pz_l31, pz_l32, pz_l34, pz_l35, pz_l36, pz_l37, pz_l38, pz_l39, pz_l44, pz_l48, pz_l50, pz_l57, pz_l59, pz_l70, pz_l99, pz_l100, pz_l104, pz_l105, pz_l116, pz_l128, pz_l199, pz_l200, pz_l255, pz_l9999, pz_l10000, hz, pz_lt, pz_le, pz_eq, pz_cl, pz_in, pz_add, pz_mul, pz_sub, if_pos, if_neg, ↓reduceIte] at f1 ⊢
          have hv' : ¬ vdt (lsT tr z ch wd 0 (nI 0)) = vdt (lsm wd (nI 0)) := hv
          rw [f1, gx_b_some, if_neg hv']
          exact g1
        · show X7_falls_b13 _ _ _ _ _ _ _ _ _ = _
          simp (disch := omega) only [X7_falls_b13, pz_l0, pz_l1, pz_l2, pz_l3, pz_l4, pz_l5, pz_l6, pz_l7, pz_l8, pz_l9, pz_l10, pz_l11, pz_l12, pz_l13, pz_l20, pz_l21, pz_l31, pz_l32, pz_l34, pz_l35, pz_l36, pz_l37, pz_l38, pz_l39, pz_l44, pz_l48, pz_l50, pz_l57, pz_l59, pz_l70, pz_l99, pz_l100, pz_l104, pz_l105, pz_l116, pz_l128, pz_l199, pz_l200, pz_l255, pz_l9999, pz_l10000, pz_lt, pz_le, pz_eq, pz_cl, pz_in, pz_add, pz_mul, pz_sub, if_pos, if_neg, ↓reduceIte] at f2 ⊢
          rw [f2]
          simp only [X7_falls_b81, X7_falls_b100, q_verdict, gx_b_some, gx_l, pz_l0.symm]
          rw [if_neg (fun e => hv e.symm)]
          rw [pz_l1, pz_add]
          exact g2
theorem w_falls (h : ZZ M tr sp he hate ch wd mo sk hr ts hs se spo seats words told mouths mouth hates seated chain wordsM word) (x1 : Int32) : ∃ r : Int32, X6_falls x1 se spo seats words mo ts = some r ∧ X7_falls x1 mouth seated chain wordsM word = some r := by
  have hwl := h.2.2.2.2.1.2.2.2.1
  rcases z_seed x1 with ⟨h1, h2⟩ | ⟨h0, h1, h2⟩ | ⟨z, hz, rfl, h2⟩
  · exact ⟨-1, by simp [X6_falls, h1], by simp [X7_falls, h2, gx_b_some]⟩
  · have h3 : ¬ x1 < (10000 : Int32) := by
      intro h; rw [Int32.lt_iff_toInt_lt] at h; rw [Int32.le_iff_toInt_le] at h1; omega
    exact ⟨-1, by simp [X6_falls, h0, h3], by simp [X7_falls, h2, gx_b_some]⟩
  · obtain ⟨r, g1, g2⟩ := falls_l h (nI z) gx_F 0 0 (by omega) (by rw [gx_F_eq]; omega)
    have f1 := spv_l h gx_F 0 0 (by omega) (by rw [gx_F_eq]; omega)
    rw [List.drop_zero] at f1
    refine ⟨r, ?_, ?_⟩
    · unfold X6_falls X6_spokenVerdict
      rw [if_neg (nI_pos (by omega)), if_pos (by rw [pz_l10000, pz_lt (by omega) (by omega)]; omega)]
      rw [show (0 : Int32) = nI 0 from rfl] at f1 g1 ⊢
      rw [f1, gx_b_some]
      exact g1
    · unfold X7_falls
      rw [h2, gx_b_some, if_neg (by decide)]
      exact g2
end FALLS
