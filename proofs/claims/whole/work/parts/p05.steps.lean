/-! ===== seats and steps ===== -/
def rS (c : Nat) : Int32 := if c < 10 then -1 else nI (c - 10)
theorem known_l (K : Int32 → Int32 → (Nat → Int32) → Option (Int32 × (Nat → Int32))) (x d : Int32) : ∀ (fuel k : Nat) (did : Nat → Int32), k ≤ 7 → 7 - k < fuel → ∃ did' : Nat → Int32, X7_known_l11 K fuel x (nI k) d did = K x d did' ∧ (∀ j, k ≤ j → j < 7 → did' j = did (j + 1)) ∧ ∀ j, (j < k ∨ 7 ≤ j) → did' j = did j := by
  intro fuel
  induction fuel with
  | zero => intro k did h1 h2; omega
  | succ n ih =>
    intro k did h1 h2
    by_cases hk : k = 7
    · refine ⟨did, ?_, fun j h3 h4 => by omega, fun _ _ => rfl⟩
      subst hk
      show X7_known_b11 _ _ _ _ _ _ = _
      simp (disch := omega) [X7_known_b11, pz_l0, pz_l1, pz_l2, pz_l3, pz_l4, pz_l5, pz_l6, pz_l7, pz_l8, pz_l9, pz_l10, pz_l11, pz_l12, pz_l13, pz_l20, pz_l21, pz_l31, pz_l32, pz_l34, pz_l35, pz_l36, pz_l37, pz_l38, pz_l39, pz_l44, pz_l48, pz_l50, pz_l57, pz_l59, pz_l70, pz_l99, pz_l100, pz_l104, pz_l105, pz_l116, pz_l128, pz_l199, pz_l200, pz_l255, pz_l9999, pz_l10000, pz_lt, pz_le, pz_eq, pz_cl, pz_in, pz_add, pz_mul, pz_sub, if_pos, if_neg, ↓reduceIte]
    · obtain ⟨did', e, h3, h4⟩ := ih (k + 1) (upd did k (did (k + 1))) (by omega) (by omega)
      refine ⟨did', ?_, fun j h5 h6 => ?_, fun j h5 => ?_⟩
      · show X7_known_b11 _ _ _ _ _ _ = _
        simp (disch := omega) [X7_known_b11, pz_l0, pz_l1, pz_l2, pz_l3, pz_l4, pz_l5, pz_l6, pz_l7, pz_l8, pz_l9, pz_l10, pz_l11, pz_l12, pz_l13, pz_l20, pz_l21, pz_l31, pz_l32, pz_l34, pz_l35, pz_l36, pz_l37, pz_l38, pz_l39, pz_l44, pz_l48, pz_l50, pz_l57, pz_l59, pz_l70, pz_l99, pz_l100, pz_l104, pz_l105, pz_l116, pz_l128, pz_l199, pz_l200, pz_l255, pz_l9999, pz_l10000, pz_lt, pz_le, pz_eq, pz_cl, pz_in, pz_add, pz_mul, pz_sub, if_pos, if_neg, ↓reduceIte]
        simpa using e
      · by_cases hj : j = k
        · subst hj; rw [h4 j (by omega), pz_upd_s]
        · rw [h3 j (by omega) h6, pz_upd_n _ _ (by omega)]
      · rw [h4 j (by omega), pz_upd_n _ _ (by omega)]
theorem z_note {dr : List Nat} {held : Int32} {latest : Nat → Int32} {done : Int32} {did : Nat → Int32} (c : Nat) (hc : c < 20) (hp : pS dr held latest) (hq : qS dr done did) :
    ∃ (h' : Int32) (l' : Nat → Int32) (d' : Int32) (di' : Nat → Int32), X5_note (rS c) held latest = some (h', l') ∧ X7_known (nI c) done did = some (d', di') ∧ pS ((c :: dr).take 8) h' l' ∧ qS ((c :: dr).take 8) d' di' := by
  obtain ⟨p1, p2, p3⟩ := hp
  obtain ⟨q1, q2, q3⟩ := hq
  by_cases hl : dr.length = 8
  · obtain ⟨did', e, h3, h4⟩ := known_l X7_known_b37 (nI c) (nI 8) gx_F 0 did (by omega) (by rw [gx_F_eq]; omega)
    have et : (c :: dr).take 8 = c :: dr.take 7 := by simp
    have el : (c :: dr.take 7).length = 8 := by simp; omega
    have eg : ∀ k, k < 7 → (dr.take 7).getD k 0 = dr.getD k 0 := fun k hk => by
      rw [List.getD_eq_getElem?_getD, List.getD_eq_getElem?_getD, List.getElem?_take_of_lt hk]
    refine ⟨nI 8, upd (va_cpy latest latest 1 0 7) 7 (rS c), nI 8, upd did' 7 (nI c), ?_, ?_, ?_, ?_⟩
    · simp (disch := omega) [X5_note, X5_note_b30, p2, hl, pz_l0, pz_l1, pz_l2, pz_l3, pz_l4, pz_l5, pz_l6, pz_l7, pz_l8, pz_l9, pz_l10, pz_l11, pz_l12, pz_l13, pz_l20, pz_l21, pz_l31, pz_l32, pz_l34, pz_l35, pz_l36, pz_l37, pz_l38, pz_l39, pz_l44, pz_l48, pz_l50, pz_l57, pz_l59, pz_l70, pz_l99, pz_l100, pz_l104, pz_l105, pz_l116, pz_l128, pz_l199, pz_l200, pz_l255, pz_l9999, pz_l10000, pz_lt, pz_le, pz_eq, pz_cl, pz_in, pz_add, pz_mul, pz_sub, if_pos, if_neg, ↓reduceIte]
    · rw [pz_l0.symm] at e
      simp (disch := omega) [X7_known, q1, hl, pz_l0, pz_l1, pz_l2, pz_l3, pz_l4, pz_l5, pz_l6, pz_l7, pz_l8, pz_l9, pz_l10, pz_l11, pz_l12, pz_l13, pz_l20, pz_l21, pz_l31, pz_l32, pz_l34, pz_l35, pz_l36, pz_l37, pz_l38, pz_l39, pz_l44, pz_l48, pz_l50, pz_l57, pz_l59, pz_l70, pz_l99, pz_l100, pz_l104, pz_l105, pz_l116, pz_l128, pz_l199, pz_l200, pz_l255, pz_l9999, pz_l10000, pz_lt, pz_le, pz_eq, pz_cl, pz_in, pz_add, pz_mul, pz_sub, if_pos, if_neg, ↓reduceIte]
      rw [show (nI 0 : Int32) = 0 from rfl, e]
      simp (disch := omega) [X7_known_b37, X7_known_b47, pz_l0, pz_l1, pz_l2, pz_l3, pz_l4, pz_l5, pz_l6, pz_l7, pz_l8, pz_l9, pz_l10, pz_l11, pz_l12, pz_l13, pz_l20, pz_l21, pz_l31, pz_l32, pz_l34, pz_l35, pz_l36, pz_l37, pz_l38, pz_l39, pz_l44, pz_l48, pz_l50, pz_l57, pz_l59, pz_l70, pz_l99, pz_l100, pz_l104, pz_l105, pz_l116, pz_l128, pz_l199, pz_l200, pz_l255, pz_l9999, pz_l10000, pz_lt, pz_le, pz_eq, pz_cl, pz_in, pz_add, pz_mul, pz_sub, if_pos, if_neg, ↓reduceIte]
    · rw [et]
      refine ⟨by omega, by rw [el], fun k hk => ?_⟩
      rw [el] at hk ⊢
      cases k with
      | zero => simp [pz_upd_s, rS]
      | succ k =>
        rw [pz_upd_n _ _ (by omega), show (c :: dr.take 7).getD (k + 1) 0 = (dr.take 7).getD k 0 from rfl, eg k (by omega), pk_cpy_in (by omega) (by omega)]
        have := p3 k (by omega)
        rw [← this]
        congr 1
        omega
    · rw [et]
      refine ⟨by rw [el], fun k hk => ?_, fun k hk => ?_⟩
      · rw [el] at hk
        cases k with
        | zero => exact hc
        | succ k => rw [show (c :: dr.take 7).getD (k + 1) 0 = (dr.take 7).getD k 0 from rfl, eg k (by omega)]; exact q2 k (by omega)
      · rw [el] at hk ⊢
        cases k with
        | zero => simp [pz_upd_s]
        | succ k =>
          rw [pz_upd_n _ _ (by omega), show (c :: dr.take 7).getD (k + 1) 0 = (dr.take 7).getD k 0 from rfl, eg k (by omega), h3 _ (by omega) (by omega), ← q3 k (by omega)]
          congr 1
          omega
  · have hlt : dr.length < 8 := by omega
    have et : (c :: dr).take 8 = c :: dr := List.take_of_length_le (by simp; omega)
    rw [et]
    refine ⟨nI (dr.length + 1), upd latest dr.length (rS c), nI (dr.length + 1), upd did dr.length (nI c), ?_, ?_, ⟨by simp; omega, by simp, fun k hk => ?_⟩, ⟨by simp, fun k hk => ?_, fun k hk => ?_⟩⟩
    · simp (disch := omega) [X5_note, X5_note_b30, p2, pz_l0, pz_l1, pz_l2, pz_l3, pz_l4, pz_l5, pz_l6, pz_l7, pz_l8, pz_l9, pz_l10, pz_l11, pz_l12, pz_l13, pz_l20, pz_l21, pz_l31, pz_l32, pz_l34, pz_l35, pz_l36, pz_l37, pz_l38, pz_l39, pz_l44, pz_l48, pz_l50, pz_l57, pz_l59, pz_l70, pz_l99, pz_l100, pz_l104, pz_l105, pz_l116, pz_l128, pz_l199, pz_l200, pz_l255, pz_l9999, pz_l10000, pz_lt, pz_le, pz_eq, pz_cl, pz_in, pz_add, pz_mul, pz_sub, if_pos, if_neg, ↓reduceIte]
    · simp (disch := omega) [X7_known, X7_known_b47, q1, hl, pz_l0, pz_l1, pz_l2, pz_l3, pz_l4, pz_l5, pz_l6, pz_l7, pz_l8, pz_l9, pz_l10, pz_l11, pz_l12, pz_l13, pz_l20, pz_l21, pz_l31, pz_l32, pz_l34, pz_l35, pz_l36, pz_l37, pz_l38, pz_l39, pz_l44, pz_l48, pz_l50, pz_l57, pz_l59, pz_l70, pz_l99, pz_l100, pz_l104, pz_l105, pz_l116, pz_l128, pz_l199, pz_l200, pz_l255, pz_l9999, pz_l10000, pz_lt, pz_le, pz_eq, pz_cl, pz_in, pz_add, pz_mul, pz_sub, if_pos, if_neg, ↓reduceIte]
    · simp at hk
      cases k with
      | zero => simp [pz_upd_s, rS]
      | succ k =>
        rw [pz_upd_n _ _ (by simp; omega), show (c :: dr).getD (k + 1) 0 = dr.getD k 0 from rfl, ← p3 k (by omega)]
        congr 1
        simp; omega
    · cases k with
      | zero => exact hc
      | succ k => exact q2 k (by simp at hk; omega)
    · simp at hk
      cases k with
      | zero => simp [pz_upd_s]
      | succ k =>
        rw [pz_upd_n _ _ (by simp; omega), show (c :: dr).getD (k + 1) 0 = dr.getD k 0 from rfl, ← q3 k (by omega)]
        congr 1
        simp; omega
