/-! ===== a test of numbers, inside an if ===== -/
theorem gl_eq {α β : Type} (x : α) (f : α → Option β) : gx_l x f = f x := rfl
theorem ite_lt {α : Type} {a b : Nat} (ha : a < 2147483648) (hb : b < 2147483648) (x y : α) : (if nI a < nI b then x else y) = if a < b then x else y := by
  by_cases h : a < b
  · rw [if_pos h, if_pos (by rw [pz_lt ha hb]; exact h)]
  · rw [if_neg h, if_neg (by rw [pz_lt ha hb]; exact h)]
theorem ite_le {α : Type} {a b : Nat} (ha : a < 2147483648) (hb : b < 2147483648) (x y : α) : (if nI a ≤ nI b then x else y) = if a ≤ b then x else y := by
  by_cases h : a ≤ b
  · rw [if_pos h, if_pos (by rw [pz_le ha hb]; exact h)]
  · rw [if_neg h, if_neg (by rw [pz_le ha hb]; exact h)]
theorem ite_eq {α : Type} {a b : Nat} (ha : a < 2147483648) (hb : b < 2147483648) (x y : α) : (if nI a = nI b then x else y) = if a = b then x else y := by
  by_cases h : a = b
  · rw [if_pos h, if_pos (by rw [pz_eq ha hb]; exact h)]
  · rw [if_neg h, if_neg (by rw [pz_eq ha hb]; exact h)]
section BRIBES5
variable {M sp he : Nat} {tr hate : Nat → Nat} {ch wd : List Nat} {mo sk hr se spo : Int32} {ts hs seats words told mouths mouth hates seated chain wordsM word : Nat → Int32}
theorem brn4 {C : Nat} (h : C < 128) : ¬ nI C = (-4 : Int32) := fun e => by
  have := congrArg Int32.toInt e
  rw [pz_ti (by omega), show (-4 : Int32).toInt = -4 by decide] at this
  omega
theorem bribes_l (h : ZZ M tr sp he hate ch wd mo sk hr ts hs se spo seats words told mouths mouth hates seated chain wordsM word) (x1 : Int32) {A : Nat} (hA : A < 128) (hAM : ∀ i, i < 7 → A.testBit i = true → i < M) : ∀ (fuel n : Nat) (least b1 b2 : Int32), n ≤ 128 → n < fuel → brR tr M least b1 b2 → ∃ least' b1' b2', brR tr M least' b1' b2' ∧ X6_leastBribes_l13 fuel (nI A) least (nI (128 - n)) se seats mo ts = some least' ∧ X7_bribes_l50 X7_bribes_b171 fuel x1 (nI A) (nI (128 - n)) b1 b2 mouth seated chain = X7_bribes_b171 x1 b1' b2' mouth seated chain := by
  have hse := h.2.2.2.2.2.1.1
  have hl := h.2.2.2.2.1.2.1
  have hM7 := h.2.1.1
  intro fuel
  induction fuel with
  | zero => intro n least b1 b2 h1 h2; omega
  | succ f ih =>
    intro n least b1 b2 h1 h2 hR
    cases n with
    | zero =>
      refine ⟨least, b1, b2, hR, ?_, ?_⟩
      · show X6_leastBribes_b13 _ _ _ _ _ _ _ _ = _
        unfold X6_leastBribes_b13
        rw [if_pos (by decide)]
      · show X7_bribes_b50 _ _ _ _ _ _ _ _ _ _ = _
        unfold X7_bribes_b50
        rw [if_pos (by decide)]
    | succ n =>
      have e2 : nI (128 - (n + 1)) + 1 = nI (128 - n) := by rw [nI_1]; congr 1; omega
      have hB : 128 - (n + 1) < 128 := by omega
      generalize 128 - (n + 1) = B at *
      have h128 : ¬ (128 : Int32) ≤ nI B := by rw [pz_l128, pz_le (by omega) (by omega)]; omega
      show ∃ least' b1' b2', brR tr M least' b1' b2' ∧ X6_leastBribes_b13 _ _ _ _ _ _ _ _ = _ ∧ X7_bribes_b50 _ _ _ _ _ _ _ _ _ _ = _
      unfold X6_leastBribes_b13 X7_bribes_b50
      rw [if_neg h128, if_neg h128]
      unfold X6_leastBribes_b66 X6_leastBribes_b68 X7_bribes_b165
      simp only [e2]
      by_cases hs : (nI B &&& (nI A ^^^ (-1 : Int32))) = 0
      · rw [if_pos hs, if_pos hs]
        have hbM : ∀ i, i < 7 → B.testBit i = true → i < M := fun i hi hb => hAM i hi (sub_at B hB A hA hs i hi hb)
        obtain ⟨r, hr10, f1, f2⟩ := bribed_l h hB gx_F 0 2 (by omega) (by omega) (by rw [gx_F_eq]; omega)
        have g1 : X6_carried (2 : Int32) se (nI B) se seats mo ts = some (nI r) := by
          show X6_carried_l6 gx_F se (nI B) (nI 2) (nI 0) se seats mo ts = _
          rw [← hse] at f1
          exact f1
        have g2 : X7_isBribed (nI B) mouth seated chain = some (nI (if r = 1 then 1 else 0)) := f2
        rw [X1_seated, gx_b_some, g1, g2, gx_b_some, gx_b_some]
        by_cases hr1 : r = 1
        · have k1 : nI r = (1 : Int32) := by rw [hr1]; rfl
          have k2 : ¬ nI (if r = 1 then 1 else 0) = (0 : Int32) := by rw [if_pos hr1]; decide
          rw [if_pos k1, if_neg k2]
          have p79 := price79_l h (X7_bribes_b115 (X7_bribes_l50 X7_bribes_b171 f) X7_bribes_b171) x1 (nI A) b1 b2 hB hbM gx_F 7 0 (by omega) (by rw [gx_F_eq]; omega)
          have ep : prc tr B 0 7 = prc tr B 0 M := by
            have := prc_cut (tr := tr) hbM hM7 M 0 (by omega)
            rw [show M + (7 - M) = 7 by omega] at this
            exact this
          rw [Nat.sub_self, Nat.zero_add, ep] at p79
          rw [show (0 : Int32) = nI 0 from rfl, p79]
          have lB := prc_lt h.2.1 B M 0 (by omega)
          unfold X7_bribes_b115 X7_bribes_b154 X7_bribes_b165
          simp only [e2]
          rcases hR with ⟨r1, r2⟩ | ⟨C, hC, hCM, r1, r2, r3⟩
          · subst r1; subst r2
            rw [if_pos rfl, if_pos (by decide)]
            exact ih n (nI B) (nI (prc tr B 0 M)) (nI B) (by omega) (by omega) (Or.inr ⟨B, hB, hbM, rfl, rfl, rfl⟩)
          · subst r1; subst r2; subst r3
            have lC := prc_lt h.2.1 C M 0 (by omega)
            have lbB := bc_le B 7
            have lbC := bc_le C 7
            have keep := ih n (nI C) (nI (prc tr C 0 M)) (nI C) (by omega) (by omega) (Or.inr ⟨C, hC, hCM, rfl, rfl, rfl⟩)
            have take := ih n (nI B) (nI (prc tr B 0 M)) (nI B) (by omega) (by omega) (Or.inr ⟨B, hB, hbM, rfl, rfl, rfl⟩)
            rw [if_neg (brn4 hC), c_cheaper h hB hC, gx_b_some, if_neg (nI_pos (by omega)), q_many hB, q_many hC, gx_b_some, gx_b_some]
            by_cases c1 : prc tr B 0 M < prc tr C 0 M
            · rw [if_pos (Or.inl c1), if_neg (show ¬ nI 1 = nI 0 by decide), if_pos (by rw [pz_lt (by omega) (by omega)]; exact c1)]
              exact take
            · by_cases c2 : prc tr B 0 M = prc tr C 0 M
              · by_cases c3 : bc C 7 ≤ bc B 7
                · rw [if_neg (show ¬ (prc tr B 0 M < prc tr C 0 M ∨ prc tr B 0 M = prc tr C 0 M ∧ bc B 7 < bc C 7) by omega), if_pos (show nI 0 = nI 0 from rfl), if_neg (by rw [pz_lt (by omega) (by omega)]; exact c1), if_pos (by rw [pz_eq (by omega) (by omega)]; exact c2), if_pos (by rw [pz_le (by omega) (by omega)]; exact c3)]
                  exact keep
                · rw [if_pos (show (prc tr B 0 M < prc tr C 0 M ∨ prc tr B 0 M = prc tr C 0 M ∧ bc B 7 < bc C 7) by omega), if_neg (show ¬ nI 1 = nI 0 by decide), if_neg (by rw [pz_lt (by omega) (by omega)]; exact c1), if_pos (by rw [pz_eq (by omega) (by omega)]; exact c2), if_neg (by rw [pz_le (by omega) (by omega)]; exact c3)]
                  exact take
              · rw [if_neg (show ¬ (prc tr B 0 M < prc tr C 0 M ∨ prc tr B 0 M = prc tr C 0 M ∧ bc B 7 < bc C 7) by omega), if_pos (show nI 0 = nI 0 from rfl), if_neg (by rw [pz_lt (by omega) (by omega)]; exact c1), if_neg (by rw [pz_eq (by omega) (by omega)]; exact c2)]
                exact keep
        · have k1 : ¬ nI r = (1 : Int32) := by rw [pz_l1, pz_eq (by omega) (by omega)]; exact hr1
          have k2 : nI (if r = 1 then 1 else 0) = (0 : Int32) := by rw [if_neg hr1]; rfl
          rw [if_neg k1, if_pos k2]
          exact ih n least b1 b2 (by omega) (by omega) hR
      · rw [if_neg hs, if_neg hs]
        exact ih n least b1 b2 (by omega) (by omega) hR
theorem w_bribes (h : ZZ M tr sp he hate ch wd mo sk hr ts hs se spo seats words told mouths mouth hates seated chain wordsM word) (x1 b1 b2 : Int32) : ∃ r b1' b2' : Int32, X6_bribes x1 se seats mo ts = some r ∧ X7_bribes x1 b1 b2 mouth seated chain = some (r, b1', b2') := by
  have hl := h.2.2.2.2.1.2.1
  have hM7 := h.2.1.1
  rcases q_in4 x1 1 (by omega) 1 rfl with ⟨h1, h2⟩ | ⟨h0, h1, h2⟩ | hh
  · exact ⟨-1, b1, b2, by simp [X6_bribes, h1], by simp [X7_bribes, h2, gx_b_some]⟩
  · have h3 : ¬ x1 ≤ (1 : Int32) := by
      rw [pz_l1]; intro q; rw [Int32.le_iff_toInt_le, pz_ti (by omega)] at q h1; omega
    exact ⟨-1, b1, b2, by simp [X6_bribes, h0, h3], by simp [X7_bribes, h2, gx_b_some]⟩
  · obtain ⟨j, hj, rfl, h2⟩ := hh (by omega)
    have hch : ∀ i, i ∈ ch → i < 7 := fun i hi => by have := h.2.2.2.2.1.2.2.1 i hi; omega
    have hA : bts ch 0 < 128 := bts_lt ch 0 hch (by omega)
    have hAM : ∀ i, i < 7 → (bts ch 0).testBit i = true → i < M := fun i hi hb => by
      rcases bts_bit ch 0 i hb with q | q
      · simp at q
      · exact h.2.2.2.2.1.2.2.1 i q
    have s1 := seatBits_l h gx_F 0 0 (by omega) (by omega) (by rw [gx_F_eq]; omega)
    have s2 := bits16_l h X7_bribes_b43 (nI j) b1 b2 gx_F 0 0 (by omega) (by omega) (by rw [gx_F_eq]; omega)
    rw [List.drop_zero] at s1 s2
    obtain ⟨L, c1, c2, hR, e1, e2⟩ := bribes_l h (nI j) hA hAM gx_F 128 (-4) (-1) b2 (by omega) (by rw [gx_F_eq]; omega) (Or.inl ⟨rfl, rfl⟩)
    rw [Nat.sub_self] at e1 e2
    have t1 : X6_leastBribes se seats mo ts = some L := by
      unfold X6_leastBribes
      rw [show X1_seatBits se seats = some (nI (bts ch 0)) from s1, gx_b_some]
      exact e1
    have a1 : ¬ nI j < 0 := nI_pos (by omega)
    have a2 : nI j ≤ (1 : Int32) := by rw [pz_l1, pz_le (by omega) (by omega)]; omega
    have t2 : X7_bribes (nI j) b1 b2 mouth seated chain = X7_bribes_b171 (nI j) c1 c2 mouth seated chain := by
      unfold X7_bribes
      rw [h2, gx_b_some, if_neg (by decide)]
      rw [show (0 : Int32) = nI 0 from rfl, s2]
      exact e2
    unfold X6_bribes
    rw [if_neg a1, if_pos a2, t1, gx_b_some, t2]
    unfold X7_bribes_b171
    rcases hR with ⟨r1, r2⟩ | ⟨C, hC, hCM, r1, r2, r3⟩
    · subst r1; subst r2
      exact ⟨-4, -1, c2, by rw [if_pos rfl], by rw [if_neg (by decide)]⟩
    · subst r1; subst r2; subst r3
      have lC := prc_lt h.2.1 C M 0 (by omega)
      rw [if_neg (brn4 hC), if_pos (nI_pos' (by omega)), c_price h hC, gx_b_some]
      by_cases hj0 : nI j = 0
      · exact ⟨nI (prc tr C 0 M), nI (prc tr C 0 M), nI C, by rw [if_pos hj0], by rw [if_pos hj0]⟩
      · exact ⟨nI C, nI (prc tr C 0 M), nI C, by rw [if_neg hj0], by rw [if_neg hj0]⟩
end BRIBES5
