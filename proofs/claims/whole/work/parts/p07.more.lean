/-! ===== plain calls ===== -/
theorem w_chain {M : Nat} {ch wd : List Nat} {se spo : Int32} {seats words : Nat → Int32} {seated chain wordsM word : Nat → Int32} (x1 : Int32) (hw : wH M ch wd) (hp : pH ch wd se spo seats words) (hq : qH 0 ch wd seated chain wordsM word) :
    ∃ r : Int32, X6_chain x1 se seats = some r ∧ X7_chain x1 seated chain = some r := by
  obtain ⟨w1, w2, w3, w4, w5⟩ := hw
  obtain ⟨p1, p2, p3, p4⟩ := hp
  obtain ⟨q1, q2, q3, q4⟩ := hq
  rcases pz_ix x1 ch.length (by omega) with ⟨h1, h2⟩ | ⟨h0, h1, h2, h3⟩ | ⟨j, hj, rfl⟩
  · exact ⟨-1, by simp [X6_chain, h2], by simp [X7_chain, h2]⟩
  · refine ⟨-4, ?_, ?_⟩
    · simp [X6_chain, h1, X1_seatAt, h0, p1, h2, gx_b_some]
    · have e : (0 : Int32).toNatClampNeg = 0 := by decide
      have e2 : gx_in (0 : Int32) 3 := by decide
      unfold X7_chain
      rw [if_pos h1, if_pos e2, e, q1, if_pos h2]
  · have c3 := q3 j hj
    rw [Nat.mul_zero, Nat.zero_add] at c3
    refine ⟨nI (ch.getD j 0), ?_, ?_⟩
    · simp (disch := omega) only [X6_chain, X1_seatAt, gx_b_some, p1, p3 j hj, pz_l0, pz_l1, pz_l2, pz_l3, pz_l4, pz_l5, pz_l6, pz_l7, pz_l8, pz_l9, pz_l10, pz_l11, pz_l12, pz_l13, pz_l20, pz_l21, pz_l31, pz_l32, pz_l34, pz_l35, pz_l36, pz_l37, pz_l38, pz_l39, pz_l44, pz_l48, pz_l50, pz_l57, pz_l59, pz_l70, pz_l99, pz_l100, pz_l104, pz_l105, pz_l116, pz_l128, pz_l199, pz_l200, pz_l255, pz_l9999, pz_l10000, pz_lt, pz_le, pz_eq, pz_cl, pz_in, pz_add, pz_mul, pz_sub, if_pos, if_neg, ↓reduceIte]
    · simp (disch := omega) only [X7_chain, q1, c3, pz_l0, pz_l1, pz_l2, pz_l3, pz_l4, pz_l5, pz_l6, pz_l7, pz_l8, pz_l9, pz_l10, pz_l11, pz_l12, pz_l13, pz_l20, pz_l21, pz_l31, pz_l32, pz_l34, pz_l35, pz_l36, pz_l37, pz_l38, pz_l39, pz_l44, pz_l48, pz_l50, pz_l57, pz_l59, pz_l70, pz_l99, pz_l100, pz_l104, pz_l105, pz_l116, pz_l128, pz_l199, pz_l200, pz_l255, pz_l9999, pz_l10000, pz_lt, pz_le, pz_eq, pz_cl, pz_in, pz_add, pz_mul, pz_sub, if_pos, if_neg, ↓reduceIte]
theorem w_count (x1 kept len se spo held mo sk hr done : Int32) (told mouths seated words : Nat → Int32) (h1 : mouths 0 = mo) (h2 : seated 0 = se) (h3 : words 0 = spo) (h4 : done = held) (h5 : told 0 = sk) (h6 : told 1 = hr) :
    ∃ r : Int32, X6_count x1 kept len se spo held mo sk hr = some r ∧ X7_count x1 len kept done told mouths seated words = some r := by
  have e : (0 : Int32).toNatClampNeg = 0 := by decide
  have e1 : (1 : Int32).toNatClampNeg = 1 := by decide
  have g1 : gx_in (0 : Int32) 3 := by decide
  have g2 : gx_in (0 : Int32) 2 := by decide
  have g3 : gx_in (0 : Int32) 4 := by decide
  have g4 : gx_in (1 : Int32) 4 := by decide
  unfold X6_count X7_count
  simp only [X0_mouths, X1_seated, X1_spoken, X5_held, X3_length, X0_speaks, X0_hears, gx_b_some, if_pos g1, if_pos g2, if_pos g3, if_pos g4, e, e1, h1, h2, h3, h4, h5, h6]
  by_cases a0 : x1 = 0
  · exact ⟨mo, by simp [a0], by simp [a0]⟩
  · by_cases a1 : x1 = 1
    · exact ⟨se, by simp [a1], by simp [a1]⟩
    · by_cases a2 : x1 = 2
      · exact ⟨spo, by simp [a2], by simp [a2]⟩
      · by_cases a3 : x1 = 3
        · exact ⟨held, by simp [a3], by simp [a3]⟩
        · by_cases a4 : x1 = 4
          · exact ⟨kept, by simp [a4], by simp [a4]⟩
          · by_cases a5 : x1 = 5
            · exact ⟨len, by simp [a5], by simp [a5]⟩
            · by_cases a6 : x1 = 6
              · exact ⟨sk, by simp [a6], by simp [a6]⟩
              · by_cases a7 : x1 = 7
                · exact ⟨hr, by simp [a7], by simp [a7]⟩
                · exact ⟨-1, by simp [a0, a1, a2, a3, a4, a5, a6, a7], by simp [a0, a1, a2, a3, a4, a5, a6, a7]⟩
theorem w_wipe (len : Int32) : X6_wipe len = some (len, 0) ∧ X7_wipe len = some (len, 0) := by
  exact ⟨by simp [X6_wipe, X3_length, X3_clear, gx_b_some], rfl⟩
theorem q_in4 (x : Int32) (n : Nat) (hn : n < 2147483648) (N : Int64) (hN : N = (nI n).toInt64) : (x < 0 ∧ X7_in x.toInt64 0 N = some 0) ∨ (¬ x < 0 ∧ nI (n + 1) ≤ x ∧ X7_in x.toInt64 0 N = some 0) ∨ (n + 1 < 2147483648 → ∃ j, j ≤ n ∧ x = nI j ∧ X7_in x.toInt64 0 N = some 1) := by
  rw [hN, show X7_in x.toInt64 (0 : Int64) (nI n).toInt64 = _ from q_in x 0 (nI n)]
  by_cases hn1 : n + 1 < 2147483648
  · rcases pz_ix x (n + 1) hn1 with ⟨h1, h2⟩ | ⟨h0, h1, h2, h3⟩ | ⟨j, hj, rfl⟩
    · exact Or.inl ⟨h1, by rw [if_pos h1]⟩
    · exact Or.inr (Or.inl ⟨h0, h2, by rw [if_neg h0, if_pos (pz_lt_of (a := n + 1) hn1 (by omega) h2)]⟩)
    · exact Or.inr (Or.inr fun _ => ⟨j, by omega, rfl, by rw [if_neg (nI_pos (by omega)), if_neg (by rw [pz_lt hn (by omega)]; omega)]⟩)
  · exact Or.inr (Or.inr fun h => absurd h hn1)
theorem w_mouth {M : Nat} {tr : Nat → Nat} {sp he : Nat} {hate : Nat → Nat} {mo sk hr : Int32} {ts hs : Nat → Int32} {told mouths mouth hates : Nat → Int32} (x1 x2 : Int32) (hM : 0 < M) (hM7 : M ≤ 7) (hp : pC M tr sp he hate mo sk hr ts hs) (hq : qC 0 M tr sp he hate told mouths mouth hates) :
    ∃ r : Int32, X6_mouth x1 x2 mo ts = some r ∧ X7_mouth x1 x2 mouths mouth = some r := by
  obtain ⟨p1, p2, p3, p4, p5⟩ := hp
  obtain ⟨q1, q2, q3, q4, q5⟩ := hq
  rcases z_mouth x1 mouths hM hM7 q1 with ⟨e1, e2⟩ | ⟨i, hi, rfl, e1, e2⟩
  · exact ⟨-1, by simp [X6_mouth, X0_trait, p1, e1, gx_b_some], by simp [X7_mouth, e2, gx_b_some]⟩
  · rcases q_in4 x2 4 (by omega) 4 rfl with ⟨h1, h2⟩ | ⟨h0, h1, h2⟩ | h
    · exact ⟨-1, by simp [X6_mouth, X0_trait, p1, e1, gx_b_some, h1], by simp [X7_mouth, e2, h2, gx_b_some]⟩
    · have h3 : ¬ x2 < (5 : Int32) := by
        have h1 : nI 5 ≤ x2 := h1
        rw [pz_l5]; intro h; rw [Int32.lt_iff_toInt_lt] at h; rw [Int32.le_iff_toInt_le] at h1; omega
      exact ⟨-1, by simp [X6_mouth, X0_trait, p1, e1, gx_b_some, h0, h3], by simp [X7_mouth, e2, h2, gx_b_some]⟩
    · obtain ⟨w, hw, rfl, h2⟩ := h (by omega)
      have c4 := q4 (5 * i + w) (by omega)
      rw [Nat.mul_zero, Nat.zero_add] at c4
      refine ⟨nI (tr (5 * i + w)), ?_, ?_⟩
      · simp (disch := omega) only [X6_mouth, X0_trait, p1, e1, gx_b_some, pz_l0, pz_l1, pz_l2, pz_l3, pz_l4, pz_l5, pz_l6, pz_l7, pz_l8, pz_l9, pz_l10, pz_l11, pz_l12, pz_l13, pz_l20, pz_l21, pz_l31, pz_l32, pz_l34, pz_l35, pz_l36, pz_l37, pz_l38, pz_l39, pz_l44, pz_l48, pz_l50, pz_l57, pz_l59, pz_l70, pz_l99, pz_l100, pz_l104, pz_l105, pz_l116, pz_l128, pz_l199, pz_l200, pz_l255, pz_l9999, pz_l10000, pz_lt, pz_le, pz_eq, pz_cl, pz_in, pz_add, pz_mul, pz_sub, if_pos, if_neg, ↓reduceIte]
        rw [Nat.mul_comm i 5, p4 (5 * i + w) (by omega)]
      · simp (disch := omega) only [X7_mouth, e2, h2, gx_b_some, pz_l0, pz_l1, pz_l2, pz_l3, pz_l4, pz_l5, pz_l6, pz_l7, pz_l8, pz_l9, pz_l10, pz_l11, pz_l12, pz_l13, pz_l20, pz_l21, pz_l31, pz_l32, pz_l34, pz_l35, pz_l36, pz_l37, pz_l38, pz_l39, pz_l44, pz_l48, pz_l50, pz_l57, pz_l59, pz_l70, pz_l99, pz_l100, pz_l104, pz_l105, pz_l116, pz_l128, pz_l199, pz_l200, pz_l255, pz_l9999, pz_l10000, pz_lt, pz_le, pz_eq, pz_cl, pz_in, pz_add, pz_mul, pz_sub, if_pos, if_neg, ↓reduceIte, c4]
def md (k s : Nat) : Nat := ([0, 1, 2, 3, 4, 5, 6, 7, 8, 9, 0, 1, 3, 3, 4, 5, 6, 7, 8, 9, 0, 1, 2, 3, 5, 6, 7, 7, 8, 9, 0, 1, 2, 3, 4, 5, 6, 7, 9, 9, 0, 2, 1, 3, 4, 5, 6, 7, 8, 9, 1, 1, 2, 1, 4, 5, 6, 7, 8, 9] : List Nat).getD (10 * k + s) 0
theorem md_lt : ∀ k, k < 6 → ∀ s, s < 10 → md k s < 10 := by decide +kernel
theorem c_turned : ∀ k, k < 6 → ∀ s, s < 10 → X6_turned (nI k) (nI s) = some (nI (md k s)) := by decide +kernel
theorem q_made : ∀ k, k < 6 → ∀ s, s < 10 → X7_made (nI k) (nI s) = some (nI (md k s)) := by decide +kernel
def sl (s : Nat) : Nat := if s = 9 then 0 else s + 1
theorem sl_lt : ∀ s, s < 10 → sl s < 10 := by decide
theorem c_slipped : ∀ s, s < 10 → X6_slipped (nI s) = some (nI (sl s)) := by decide +kernel
theorem q_slip : ∀ s, s < 10 → (nI s + 1) - (nI s + 1) / 10 * 10 = nI (sl s) := by decide +kernel
theorem w_makes (x1 x2 : Int32) : ∃ r : Int32, X6_makes x1 x2 = some r ∧ X7_makes x1 x2 = some r := by
  rcases q_in4 x1 5 (by omega) 5 rfl with ⟨h1, h2⟩ | ⟨h0, h1, h2⟩ | h
  · exact ⟨-1, by simp [X6_makes, h1], by simp [X7_makes, h2, gx_b_some]⟩
  · have h3 : (6 : Int32) ≤ x1 := h1
    exact ⟨-1, by simp [X6_makes, h0, h3], by simp [X7_makes, h2, gx_b_some]⟩
  · obtain ⟨k, hk, rfl, h2⟩ := h (by omega)
    have a1 : ¬ nI k < 0 := nI_pos (by omega)
    have a2 : ¬ (6 : Int32) ≤ nI k := by rw [pz_l6, pz_le (by omega) (by omega)]; omega
    rcases z_sense x2 with ⟨e1, e2⟩ | ⟨j, hj, rfl, e1, e2⟩
    · exact ⟨-1, by simp [X6_makes, a1, a2, e1, gx_b_some], by simp [X7_makes, h2, e2, gx_b_some]⟩
    · exact ⟨nI (md k j), by simp [X6_makes, a1, a2, e1, gx_b_some, c_turned k (by omega) j hj], by simp [X7_makes, h2, e2, gx_b_some, q_made k (by omega) j hj]⟩
