theorem w_word {M : Nat} {ch wd : List Nat} {se spo : Int32} {seats words : Nat → Int32} {seated chain wordsM word : Nat → Int32} (x1 : Int32) (hw : wH M ch wd) (hp : pH ch wd se spo seats words) (hq : qH 0 ch wd seated chain wordsM word) :
    ∃ (r : Int32) (wd' : List Nat) (spo' : Int32) (words' wordsM' word' : Nat → Int32), X6_word x1 spo words = some (r, spo', words') ∧ X7_word x1 wordsM word = some (r, wordsM', word') ∧ wH M ch wd' ∧ pH ch wd' se spo' seats words' ∧ (∀ k, 0 < k → wordsM' k = wordsM k) ∧ (∀ k, 12 ≤ k → word' k = word k) ∧ qH 0 ch wd' seated chain wordsM' word' := by
  obtain ⟨w1, w2, w3, w4, w5⟩ := hw
  obtain ⟨p1, p2, p3, p4⟩ := hp
  obtain ⟨q1, q2, q3, q4⟩ := hq
  rcases z_sense x1 with ⟨e1, e2⟩ | ⟨j, hj, rfl, e1, e2⟩
  · exact ⟨-1, wd, spo, words, wordsM, word, by simp [X6_word, e1, gx_b_some], by simp [X7_word, e2, gx_b_some], ⟨w1, w2, w3, w4, w5⟩, ⟨p1, p2, p3, p4⟩, fun _ _ => rfl, fun _ _ => rfl, ⟨q1, q2, q3, q4⟩⟩
  · by_cases hl : wd.length = 12
    · refine ⟨-3, wd, spo, words, wordsM, word, ?_, ?_, ⟨w1, w2, w3, w4, w5⟩, ⟨p1, p2, p3, p4⟩, fun _ _ => rfl, fun _ _ => rfl, ⟨q1, q2, q3, q4⟩⟩
      · simp (disch := omega) [X6_word, e1, gx_b_some, X1_spoken, p2, hl, pz_l0, pz_l1, pz_l2, pz_l3, pz_l4, pz_l5, pz_l6, pz_l7, pz_l8, pz_l9, pz_l10, pz_l11, pz_l12, pz_l13, pz_l20, pz_l21, pz_l31, pz_l32, pz_l34, pz_l35, pz_l36, pz_l37, pz_l38, pz_l39, pz_l44, pz_l48, pz_l50, pz_l57, pz_l59, pz_l70, pz_l99, pz_l100, pz_l104, pz_l105, pz_l116, pz_l128, pz_l199, pz_l200, pz_l255, pz_l9999, pz_l10000, pz_lt, pz_le, pz_eq, pz_cl, pz_in, pz_add, pz_mul, pz_sub, if_pos, if_neg, ↓reduceIte]
      · simp (disch := omega) [X7_word, e2, gx_b_some, q2, hl, pz_l0, pz_l1, pz_l2, pz_l3, pz_l4, pz_l5, pz_l6, pz_l7, pz_l8, pz_l9, pz_l10, pz_l11, pz_l12, pz_l13, pz_l20, pz_l21, pz_l31, pz_l32, pz_l34, pz_l35, pz_l36, pz_l37, pz_l38, pz_l39, pz_l44, pz_l48, pz_l50, pz_l57, pz_l59, pz_l70, pz_l99, pz_l100, pz_l104, pz_l105, pz_l116, pz_l128, pz_l199, pz_l200, pz_l255, pz_l9999, pz_l10000, pz_lt, pz_le, pz_eq, pz_cl, pz_in, pz_add, pz_mul, pz_sub, if_pos, if_neg, ↓reduceIte]
    · have hlt : wd.length < 12 := by omega
      refine ⟨nI (wd.length + 1), wd ++ [j], nI (wd.length + 1), upd words wd.length (nI j), upd wordsM 0 (nI (wd.length + 1)), upd word wd.length (nI j), ?_, ?_, ⟨w1, w2, w3, by simp; omega, ?_⟩, ⟨p1, by simp, p3, ?_⟩, ?_, ?_, ⟨q1, by simp [pz_upd_s], q3, ?_⟩⟩
      · simp (disch := omega) [X6_word, e1, gx_b_some, gx_b2_some, X1_spoken, X1_speak, p2, hlt, pz_l0, pz_l1, pz_l2, pz_l3, pz_l4, pz_l5, pz_l6, pz_l7, pz_l8, pz_l9, pz_l10, pz_l11, pz_l12, pz_l13, pz_l20, pz_l21, pz_l31, pz_l32, pz_l34, pz_l35, pz_l36, pz_l37, pz_l38, pz_l39, pz_l44, pz_l48, pz_l50, pz_l57, pz_l59, pz_l70, pz_l99, pz_l100, pz_l104, pz_l105, pz_l116, pz_l128, pz_l199, pz_l200, pz_l255, pz_l9999, pz_l10000, pz_lt, pz_le, pz_eq, pz_cl, pz_in, pz_add, pz_mul, pz_sub, if_pos, if_neg, ↓reduceIte]
      · simp (disch := omega) [X7_word, e2, gx_b_some, q2, hl, pz_l0, pz_l1, pz_l2, pz_l3, pz_l4, pz_l5, pz_l6, pz_l7, pz_l8, pz_l9, pz_l10, pz_l11, pz_l12, pz_l13, pz_l20, pz_l21, pz_l31, pz_l32, pz_l34, pz_l35, pz_l36, pz_l37, pz_l38, pz_l39, pz_l44, pz_l48, pz_l50, pz_l57, pz_l59, pz_l70, pz_l99, pz_l100, pz_l104, pz_l105, pz_l116, pz_l128, pz_l199, pz_l200, pz_l255, pz_l9999, pz_l10000, pz_lt, pz_le, pz_eq, pz_cl, pz_in, pz_add, pz_mul, pz_sub, if_pos, if_neg, ↓reduceIte, pz_upd_s]
      · intro s hs
        rcases List.mem_append.mp hs with h | h
        · exact w5 s h
        · simp at h; omega
      · intro k hk
        simp at hk
        by_cases hk2 : k = wd.length
        · subst hk2; rw [pz_upd_s, gd_app_eq]
        · rw [pz_upd_n _ _ hk2, gd_app_lt (by omega)]; exact p4 k (by omega)
      · intro k hk; exact pz_upd_n _ _ (by omega)
      · intro k hk; exact pz_upd_n _ _ (by omega)
      · intro k hk
        simp at hk
        by_cases hk2 : k = wd.length
        · subst hk2; rw [Nat.mul_zero, Nat.zero_add, pz_upd_s, gd_app_eq]
        · rw [Nat.mul_zero, Nat.zero_add, pz_upd_n _ _ hk2, gd_app_lt (by omega)]
          have := q4 k (by omega)
          rwa [Nat.mul_zero, Nat.zero_add] at this
theorem w_silence {M : Nat} {ch wd : List Nat} {se spo : Int32} {seats words : Nat → Int32} {seated chain wordsM word : Nat → Int32} (hw : wH M ch wd) (hp : pH ch wd se spo seats words) (hq : qH 0 ch wd seated chain wordsM word) :
    X6_silence spo = some (nI wd.length, 0) ∧ X7_silence wordsM = some (nI wd.length, upd wordsM 0 0) ∧ wH M ch [] ∧ pH ch [] se 0 seats words ∧ (∀ k, 0 < k → upd wordsM 0 0 k = wordsM k) ∧ qH 0 ch [] seated chain (upd wordsM 0 0) word := by
  obtain ⟨w1, w2, w3, w4, w5⟩ := hw
  obtain ⟨p1, p2, p3, p4⟩ := hp
  obtain ⟨q1, q2, q3, q4⟩ := hq
  refine ⟨?_, ?_, ⟨w1, w2, w3, by simp, by simp⟩, ⟨p1, rfl, p3, by simp⟩, fun k hk => pz_upd_n _ _ (by omega), ⟨q1, by rw [pz_upd_s]; rfl, q3, by simp⟩⟩
  · simp [X6_silence, X1_spoken, X1_hush, gx_b_some, gx_l, p2]
  · simp (disch := omega) [X7_silence, gx_l, q2, pz_l0, pz_l1, pz_l2, pz_l3, pz_l4, pz_l5, pz_l6, pz_l7, pz_l8, pz_l9, pz_l10, pz_l11, pz_l12, pz_l13, pz_l20, pz_l21, pz_l31, pz_l32, pz_l34, pz_l35, pz_l36, pz_l37, pz_l38, pz_l39, pz_l44, pz_l48, pz_l50, pz_l57, pz_l59, pz_l70, pz_l99, pz_l100, pz_l104, pz_l105, pz_l116, pz_l128, pz_l199, pz_l200, pz_l255, pz_l9999, pz_l10000, pz_lt, pz_le, pz_eq, pz_cl, pz_in, pz_add, pz_mul, pz_sub, if_pos, if_neg, ↓reduceIte]
