/-! ===== trials ===== -/
def yyT (x1 x2 x4 : Int32) : Int64 := ((((7919 : Int64) * x1.toInt64) + ((6151 : Int64) * x2.toInt64)) + ((3571 : Int64) * x4.toInt64)) + (1 : Int64)
def zzT (y : Int64) : Int64 := ((y * y) - (y * y) / (65521 : Int64) * (65521 : Int64)) - ((y * y) - (y * y) / (65521 : Int64) * (65521 : Int64)) / (10 : Int64) * (10 : Int64)
/-- whether the k-th slips -/
def slT (x1 x2 : Int32) (k q : Nat) : Bool := !decide (lg_cmp (zzT (yyT x1 x2 (nI k))) (nI q).toInt64 < 0)
theorem c_slips (x1 x2 : Int32) (k q : Nat) : X6_slips x1 x2 (nI k) (nI q) = some (nI (if slT x1 x2 k q then 1 else 0)) := by
  show (if lg_cmp (zzT (yyT x1 x2 (nI k))) (nI q).toInt64 < 0 then some (0 : Int32) else some (1 : Int32)) = _
  unfold slT
  by_cases h : lg_cmp (zzT (yyT x1 x2 (nI k))) (nI q).toInt64 < 0
  · rw [if_pos h]; simp [h]; rfl
  · rw [if_neg h]; simp [h]; rfl
def trd (tr : Nat → Nat) (x1 x2 : Int32) : List Nat → Nat → Nat → Nat
  | [], _, s => s
  | i :: l, k, s => trd tr x1 x2 l (k + 1) (if slT x1 x2 k (tr (5 * i + 3)) then sl (md (tr (5 * i + 2)) s) else md (tr (5 * i + 2)) s)
theorem tb10 (k10 : Int32 → Int32 → Int32 → Int32 → (Nat → Int32) → (Nat → Int32) → (Nat → Int32) → (Nat → Int32) → Option Int32) (x1 x2 x3 x4 : Int32) (mouth seated chain word : Nat → Int32) : X7_tried_b10 k10 x1 x2 x3 x4 mouth seated chain word = (if gx_in (0 : Int32) 3 then (if (seated (0 : Int32).toNatClampNeg) ≤ x4 then some x3 else (if gx_in x4 21 then (if gx_in (((5 : Int32) * (chain x4.toNatClampNeg)) + (2 : Int32)) 70 then (gx_b (X7_made (mouth (((5 : Int32) * (chain x4.toNatClampNeg)) + (2 : Int32)).toNatClampNeg) x3) (fun r5 => (if gx_in x4 21 then (if gx_in (((5 : Int32) * (chain x4.toNatClampNeg)) + (3 : Int32)) 70 then (if (lg_cmp (zzT (yyT x1 x2 x4)) ((mouth (((5 : Int32) * (chain x4.toNatClampNeg)) + (3 : Int32)).toNatClampNeg).toInt64)) < 0 then X7_tried_b111 k10 x1 x2 x4 r5 mouth seated chain word else X7_tried_b111 k10 x1 x2 x4 ((r5 + (1 : Int32)) - (r5 + (1 : Int32)) / (10 : Int32) * (10 : Int32)) mouth seated chain word) else none) else none))) else none) else none)) else none) := rfl
section TRIALS
variable {M sp he : Nat} {tr hate : Nat → Nat} {ch wd : List Nat} {mo sk hr se spo : Int32} {ts hs seats words told mouths mouth hates seated chain wordsM word : Nat → Int32}
theorem tried_l (h : ZZ M tr sp he hate ch wd mo sk hr ts hs se spo seats words told mouths mouth hates seated chain wordsM word) (x1 x2 : Int32) : ∀ (fuel k s : Nat), k ≤ ch.length → s < 10 → ch.length - k < fuel → trd tr x1 x2 (ch.drop k) k s < 10 ∧ X6_tried_l12 fuel x1 x2 (nI s) (nI k) se spo seats words mo ts = some (nI (trd tr x1 x2 (ch.drop k) k s)) ∧ X7_tried_l10 fuel x1 x2 (nI s) (nI k) mouth seated chain word = some (nI (trd tr x1 x2 (ch.drop k) k s)) := by
  intro fuel
  induction fuel with
  | zero => intro k s h1 h2 h3; omega
  | succ n ih =>
    intro k s h1 hs10 h3
    have hl := h.2.2.2.2.1.2.1
    have hse := h.2.2.2.2.2.1.1
    have q1 := h.2.2.2.2.2.2.1
    by_cases hk : k = ch.length
    · subst hk
      rw [List.drop_length]
      refine ⟨hs10, ?_, ?_⟩
      · show X6_tried_b12 _ _ _ _ _ _ _ _ _ _ _ = _
        simp (disch := omega) only [X6_tried_b12, X1_seated, hse, gx_b_some, trd, pz_l0, pz_l1, pz_l2, pz_l3, pz_l4, pz_l5, pz_l6, pz_l7, pz_l8, pz_l9, pz_l10, pz_l11, pz_l12, pz_l13, pz_l20, pz_l21, pz_l31, pz_l32, pz_l34, pz_l35, pz_l36, pz_l37, pz_l38, pz_l39, pz_l44, pz_l48, pz_l50, pz_l57, pz_l59, pz_l70, pz_l99, pz_l100, pz_l104, pz_l105, pz_l116, pz_l128, pz_l199, pz_l200, pz_l255, pz_l9999, pz_l10000, pz_lt, pz_le, pz_eq, pz_cl, pz_in, pz_add, pz_mul, pz_sub, if_pos, if_neg, ↓reduceIte]
      · show X7_tried_b10 _ _ _ _ _ _ _ _ _ = _
        simp (disch := omega) only [tb10, q1, trd, pz_l0, pz_l1, pz_l2, pz_l3, pz_l4, pz_l5, pz_l6, pz_l7, pz_l8, pz_l9, pz_l10, pz_l11, pz_l12, pz_l13, pz_l20, pz_l21, pz_l31, pz_l32, pz_l34, pz_l35, pz_l36, pz_l37, pz_l38, pz_l39, pz_l44, pz_l48, pz_l50, pz_l57, pz_l59, pz_l70, pz_l99, pz_l100, pz_l104, pz_l105, pz_l116, pz_l128, pz_l199, pz_l200, pz_l255, pz_l9999, pz_l10000, pz_lt, pz_le, pz_eq, pz_cl, pz_in, pz_add, pz_mul, pz_sub, if_pos, if_neg, ↓reduceIte]
    · obtain ⟨i, hi, hi7, hg, e1, e2⟩ := h.seat (k := k) (by omega)
      obtain ⟨t1, t2⟩ := h.trait hi (w := 2) (by omega)
      obtain ⟨u1, u2⟩ := h.trait hi (w := 3) (by omega)
      have hkd := (h.2.1.2.2.2.2 i hi).2.2.2.1
      have hm := md_lt _ hkd _ hs10
      have hsl := sl_lt _ hm
      rw [dr_cons (by omega), hg]
      rw [hse] at e1
      have hqs := q_slip _ hm
      rw [pz_l10, pz_l1, pz_add] at hqs
      by_cases hsp : slT x1 x2 k (tr (5 * i + 3)) = true
      · obtain ⟨g0, f1, f2⟩ := ih (k + 1) (sl (md (tr (5 * i + 2)) s)) (by omega) hsl (by omega)
        have hc0 : ¬ lg_cmp (zzT (yyT x1 x2 (nI k))) (nI (tr (5 * i + 3))).toInt64 < 0 := by
          unfold slT at hsp; simpa using hsp
        have hc : ¬ lg_cmp (zzT (yyT x1 x2 (nI k))) (nI (tr (5 * i + 3))).toInt64 < nI 0 := hc0
        rw [hse] at f1
        simp only [trd, hsp, if_true]
        refine ⟨g0, ?_, ?_⟩
        · show X6_tried_b12 _ _ _ _ _ _ _ _ _ _ _ = _
          simp (disch := omega) only [X6_tried_b12, X6_tried_b75, X1_seated, hse, gx_b_some, e1, t1, u1, c_turned _ hkd _ hs10, c_slips, hsp, if_true, c_slipped _ hm, pz_l0, pz_l1, pz_l2, pz_l3, pz_l4, pz_l5, pz_l6, pz_l7, pz_l8, pz_l9, pz_l10, pz_l11, pz_l12, pz_l13, pz_l20, pz_l21, pz_l31, pz_l32, pz_l34, pz_l35, pz_l36, pz_l37, pz_l38, pz_l39, pz_l44, pz_l48, pz_l50, pz_l57, pz_l59, pz_l70, pz_l99, pz_l100, pz_l104, pz_l105, pz_l116, pz_l128, pz_l199, pz_l200, pz_l255, pz_l9999, pz_l10000, pz_lt, pz_le, pz_eq, pz_cl, pz_in, pz_add, pz_mul, pz_sub, if_pos, if_neg, ↓reduceIte, f1]
        · show X7_tried_b10 _ _ _ _ _ _ _ _ _ = _
          simp (disch := omega) only [tb10, X7_tried_b111, q1, e2, t2, u2, q_made _ hkd _ hs10, gx_b_some, if_neg hc, pz_l0, pz_l1, pz_l2, pz_l3, pz_l4, pz_l5, pz_l6, pz_l7, pz_l8, pz_l9, pz_l10, pz_l11, pz_l12, pz_l13, pz_l20, pz_l21, pz_l31, pz_l32, pz_l34, pz_l35, pz_l36, pz_l37, pz_l38, pz_l39, pz_l44, pz_l48, pz_l50, pz_l57, pz_l59, pz_l70, pz_l99, pz_l100, pz_l104, pz_l105, pz_l116, pz_l128, pz_l199, pz_l200, pz_l255, pz_l9999, pz_l10000, hqs, pz_lt, pz_le, pz_eq, pz_cl, pz_in, pz_add, pz_mul, pz_sub, if_pos, if_neg, ↓reduceIte, f2]
      · obtain ⟨g0, f1, f2⟩ := ih (k + 1) (md (tr (5 * i + 2)) s) (by omega) hm (by omega)
        have hc0 : lg_cmp (zzT (yyT x1 x2 (nI k))) (nI (tr (5 * i + 3))).toInt64 < 0 := by
          unfold slT at hsp; simpa using hsp
        have hc : lg_cmp (zzT (yyT x1 x2 (nI k))) (nI (tr (5 * i + 3))).toInt64 < nI 0 := hc0
        have hsp : slT x1 x2 k (tr (5 * i + 3)) = false := by simpa using hsp
        rw [hse] at f1
        simp only [trd, hsp]
        refine ⟨g0, ?_, ?_⟩
        · show X6_tried_b12 _ _ _ _ _ _ _ _ _ _ _ = _
          simp (disch := omega) [X6_tried_b12, X6_tried_b75, X1_seated, hse, gx_b_some, e1, t1, u1, c_turned _ hkd _ hs10, c_slips, hsp, pz_l0, pz_l1, pz_l2, pz_l3, pz_l4, pz_l5, pz_l6, pz_l7, pz_l8, pz_l9, pz_l10, pz_l11, pz_l12, pz_l13, pz_l20, pz_l21, pz_l31, pz_l32, pz_l34, pz_l35, pz_l36, pz_l37, pz_l38, pz_l39, pz_l44, pz_l48, pz_l50, pz_l57, pz_l59, pz_l70, pz_l99, pz_l100, pz_l104, pz_l105, pz_l116, pz_l128, pz_l199, pz_l200, pz_l255, pz_l9999, pz_l10000, pz_lt, pz_le, pz_eq, pz_cl, pz_in, pz_add, pz_mul, pz_sub, if_pos, if_neg, ↓reduceIte, f1]
        · show X7_tried_b10 _ _ _ _ _ _ _ _ _ = _
          simp (disch := omega) [tb10, X7_tried_b111, q1, e2, t2, u2, q_made _ hkd _ hs10, gx_b_some, if_pos hc, pz_l0, pz_l1, pz_l2, pz_l3, pz_l4, pz_l5, pz_l6, pz_l7, pz_l8, pz_l9, pz_l10, pz_l11, pz_l12, pz_l13, pz_l20, pz_l21, pz_l31, pz_l32, pz_l34, pz_l35, pz_l36, pz_l37, pz_l38, pz_l39, pz_l44, pz_l48, pz_l50, pz_l57, pz_l59, pz_l70, pz_l99, pz_l100, pz_l104, pz_l105, pz_l116, pz_l128, pz_l199, pz_l200, pz_l255, pz_l9999, pz_l10000, pz_lt, pz_le, pz_eq, pz_cl, pz_in, pz_add, pz_mul, pz_sub, if_pos, if_neg, ↓reduceIte, f2]
theorem w_tried (h : ZZ M tr sp he hate ch wd mo sk hr ts hs se spo seats words told mouths mouth hates seated chain wordsM word) (x1 : Int32) (j : Nat) (hj : j < wd.length) : trd tr x1 (nI j) ch 0 (wd.getD j 0) < 10 ∧ X6_tried x1 (nI j) se spo seats words mo ts = some (nI (trd tr x1 (nI j) ch 0 (wd.getD j 0))) ∧ X7_tried x1 (nI j) mouth seated chain word = some (nI (trd tr x1 (nI j) ch 0 (wd.getD j 0))) := by
  obtain ⟨w1, w2, w3, w4, w5⟩ := h.2.2.2.2.1
  obtain ⟨p1, p2, p3, p4⟩ := h.2.2.2.2.2.1
  obtain ⟨q1, q2, q3, q4⟩ := h.2.2.2.2.2.2
  have c4 := q4 j hj
  rw [Nat.mul_zero, Nat.zero_add] at c4
  obtain ⟨g0, f1, f2⟩ := tried_l h x1 (nI j) gx_F 0 (wd.getD j 0) (by omega) (w5 _ (gd_mem hj)) (by rw [gx_F_eq]; omega)
  rw [List.drop_zero] at g0 f1 f2
  refine ⟨g0, ?_, ?_⟩
  · rw [p2] at f1
    simp (disch := omega) only [X6_tried, X1_wordAt, p2, p4 j hj, gx_b_some, pz_l0, pz_l1, pz_l2, pz_l3, pz_l4, pz_l5, pz_l6, pz_l7, pz_l8, pz_l9, pz_l10, pz_l11, pz_l12, pz_l13, pz_l20, pz_l21, pz_l31, pz_l32, pz_l34, pz_l35, pz_l36, pz_l37, pz_l38, pz_l39, pz_l44, pz_l48, pz_l50, pz_l57, pz_l59, pz_l70, pz_l99, pz_l100, pz_l104, pz_l105, pz_l116, pz_l128, pz_l199, pz_l200, pz_l255, pz_l9999, pz_l10000, pz_lt, pz_le, pz_eq, pz_cl, pz_in, pz_add, pz_mul, pz_sub, if_pos, if_neg, ↓reduceIte, f1]
  · simp (disch := omega) only [X7_tried, gx_l, c4, pz_l0, pz_l1, pz_l2, pz_l3, pz_l4, pz_l5, pz_l6, pz_l7, pz_l8, pz_l9, pz_l10, pz_l11, pz_l12, pz_l13, pz_l20, pz_l21, pz_l31, pz_l32, pz_l34, pz_l35, pz_l36, pz_l37, pz_l38, pz_l39, pz_l44, pz_l48, pz_l50, pz_l57, pz_l59, pz_l70, pz_l99, pz_l100, pz_l104, pz_l105, pz_l116, pz_l128, pz_l199, pz_l200, pz_l255, pz_l9999, pz_l10000, pz_lt, pz_le, pz_eq, pz_cl, pz_in, pz_add, pz_mul, pz_sub, if_pos, if_neg, ↓reduceIte, f2]
theorem z_seed (x : Int32) : (x < 0 ∧ X7_isSeed x = some 0) ∨ (¬ x < 0 ∧ (10000 : Int32) ≤ x ∧ X7_isSeed x = some 0) ∨ ∃ j, j < 10000 ∧ x = nI j ∧ X7_isSeed x = some 1 := by
  rcases q_in4 x 9999 (by omega) 9999 rfl with ⟨h1, h2⟩ | ⟨h0, h1, h2⟩ | hh
  · exact Or.inl ⟨h1, by simp [X7_isSeed, h2, gx_b_some]⟩
  · exact Or.inr (Or.inl ⟨h0, h1, by simp [X7_isSeed, h2, gx_b_some]⟩)
  · obtain ⟨j, hj, rfl, h2⟩ := hh (by omega)
    exact Or.inr (Or.inr ⟨j, by omega, rfl, by simp [X7_isSeed, h2, gx_b_some]⟩)
theorem w_trial (h : ZZ M tr sp he hate ch wd mo sk hr ts hs se spo seats words told mouths mouth hates seated chain wordsM word) (x1 x2 : Int32) : ∃ r : Int32, X6_trial x1 x2 se spo seats words mo ts = some r ∧ X7_trial x1 x2 mouth seated chain wordsM word = some r := by
  obtain ⟨w1, w2, w3, w4, w5⟩ := h.2.2.2.2.1
  obtain ⟨p1, p2, p3, p4⟩ := h.2.2.2.2.2.1
  obtain ⟨q1, q2, q3, q4⟩ := h.2.2.2.2.2.2
  rcases z_seed x1 with ⟨h1, h2⟩ | ⟨h0, h1, h2⟩ | ⟨z, hz, rfl, h2⟩
  · exact ⟨-1, by simp [X6_trial, h1], by simp [X7_trial, h2, gx_b_some]⟩
  · exact ⟨-1, by simp [X6_trial, h0, h1], by simp [X7_trial, h2, gx_b_some]⟩
  · rcases pz_ix x2 wd.length (by omega) with ⟨a1, a2⟩ | ⟨a0, a1, a2, a3⟩ | ⟨j, hj, rfl⟩
    · have a2' : ¬ nI 0 ≤ x2 := a2
      refine ⟨-1, ?_, ?_⟩
      · simp (disch := omega) [X6_trial, a2', pz_l0, pz_l1, pz_l2, pz_l3, pz_l4, pz_l5, pz_l6, pz_l7, pz_l8, pz_l9, pz_l10, pz_l11, pz_l12, pz_l13, pz_l20, pz_l21, pz_l31, pz_l32, pz_l34, pz_l35, pz_l36, pz_l37, pz_l38, pz_l39, pz_l44, pz_l48, pz_l50, pz_l57, pz_l59, pz_l70, pz_l99, pz_l100, pz_l104, pz_l105, pz_l116, pz_l128, pz_l199, pz_l200, pz_l255, pz_l9999, pz_l10000, pz_lt, pz_le, pz_eq, pz_cl, pz_in, pz_add, pz_mul, pz_sub, if_pos, if_neg, ↓reduceIte]
      · simp (disch := omega) [X7_trial, h2, gx_b_some, a2', pz_l0, pz_l1, pz_l2, pz_l3, pz_l4, pz_l5, pz_l6, pz_l7, pz_l8, pz_l9, pz_l10, pz_l11, pz_l12, pz_l13, pz_l20, pz_l21, pz_l31, pz_l32, pz_l34, pz_l35, pz_l36, pz_l37, pz_l38, pz_l39, pz_l44, pz_l48, pz_l50, pz_l57, pz_l59, pz_l70, pz_l99, pz_l100, pz_l104, pz_l105, pz_l116, pz_l128, pz_l199, pz_l200, pz_l255, pz_l9999, pz_l10000, pz_lt, pz_le, pz_eq, pz_cl, pz_in, pz_add, pz_mul, pz_sub, if_pos, if_neg, ↓reduceIte]
    · have a1' : nI 0 ≤ x2 := a1
      refine ⟨-4, ?_, ?_⟩
      · simp (disch := omega) [X6_trial, X1_spoken, p2, gx_b_some, a1', a3, pz_l0, pz_l1, pz_l2, pz_l3, pz_l4, pz_l5, pz_l6, pz_l7, pz_l8, pz_l9, pz_l10, pz_l11, pz_l12, pz_l13, pz_l20, pz_l21, pz_l31, pz_l32, pz_l34, pz_l35, pz_l36, pz_l37, pz_l38, pz_l39, pz_l44, pz_l48, pz_l50, pz_l57, pz_l59, pz_l70, pz_l99, pz_l100, pz_l104, pz_l105, pz_l116, pz_l128, pz_l199, pz_l200, pz_l255, pz_l9999, pz_l10000, pz_lt, pz_le, pz_eq, pz_cl, pz_in, pz_add, pz_mul, pz_sub, if_pos, if_neg, ↓reduceIte]
      · simp (disch := omega) [X7_trial, h2, q2, gx_b_some, a1', a3, pz_l0, pz_l1, pz_l2, pz_l3, pz_l4, pz_l5, pz_l6, pz_l7, pz_l8, pz_l9, pz_l10, pz_l11, pz_l12, pz_l13, pz_l20, pz_l21, pz_l31, pz_l32, pz_l34, pz_l35, pz_l36, pz_l37, pz_l38, pz_l39, pz_l44, pz_l48, pz_l50, pz_l57, pz_l59, pz_l70, pz_l99, pz_l100, pz_l104, pz_l105, pz_l116, pz_l128, pz_l199, pz_l200, pz_l255, pz_l9999, pz_l10000, pz_lt, pz_le, pz_eq, pz_cl, pz_in, pz_add, pz_mul, pz_sub, if_pos, if_neg, ↓reduceIte]
    · obtain ⟨g0, f1, f2⟩ := w_tried h (nI z) j hj
      refine ⟨nI (trd tr (nI z) (nI j) ch 0 (wd.getD j 0)), ?_, ?_⟩
      · rw [p2] at f1
        simp (disch := omega) only [X6_trial, X1_spoken, p2, gx_b_some, pz_l0, pz_l1, pz_l2, pz_l3, pz_l4, pz_l5, pz_l6, pz_l7, pz_l8, pz_l9, pz_l10, pz_l11, pz_l12, pz_l13, pz_l20, pz_l21, pz_l31, pz_l32, pz_l34, pz_l35, pz_l36, pz_l37, pz_l38, pz_l39, pz_l44, pz_l48, pz_l50, pz_l57, pz_l59, pz_l70, pz_l99, pz_l100, pz_l104, pz_l105, pz_l116, pz_l128, pz_l199, pz_l200, pz_l255, pz_l9999, pz_l10000, pz_lt, pz_le, pz_eq, pz_cl, pz_in, pz_add, pz_mul, pz_sub, if_pos, if_neg, ↓reduceIte, f1]
      · simp (disch := omega) only [X7_trial, h2, q2, gx_b_some, pz_l0, pz_l1, pz_l2, pz_l3, pz_l4, pz_l5, pz_l6, pz_l7, pz_l8, pz_l9, pz_l10, pz_l11, pz_l12, pz_l13, pz_l20, pz_l21, pz_l31, pz_l32, pz_l34, pz_l35, pz_l36, pz_l37, pz_l38, pz_l39, pz_l44, pz_l48, pz_l50, pz_l57, pz_l59, pz_l70, pz_l99, pz_l100, pz_l104, pz_l105, pz_l116, pz_l128, pz_l199, pz_l200, pz_l255, pz_l9999, pz_l10000, pz_lt, pz_le, pz_eq, pz_cl, pz_in, pz_add, pz_mul, pz_sub, if_pos, if_neg, ↓reduceIte, f2]
end TRIALS
