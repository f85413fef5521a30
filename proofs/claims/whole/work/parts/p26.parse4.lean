section ADMIT
variable {M sp he : Nat} {tr hate : Nat → Nat} {mo sk_ hr : Int32} {ts hs told mouths mouth hates : Nat → Int32}
theorem good_l (hM : M < 7) (hm : mouths 1 = nI M) (got : Nat → Int32) : ∀ (fuel k : Nat) (mouth : Nat → Int32), k ≤ 5 → 5 - k < fuel → ∃ mouth' : Nat → Int32, X7_isGood_l310 X7_isGood_b349 fuel 1 (nI k) told mouths mouth hates got = X7_isGood_b349 1 told mouths mouth' hates got ∧ (∀ j, k ≤ j → j < 5 → mouth' (35 + 5 * M + j) = got j) ∧ ∀ i, (i < 35 + 5 * M + k ∨ 35 + 5 * M + 5 ≤ i) → mouth' i = mouth i := by
  have hm' : mouths (1 : Int32).toNatClampNeg = nI M := hm
  intro fuel
  induction fuel with
  | zero => intro k mouth h1 h2; omega
  | succ n ih =>
    intro k mouth h1 h2
    by_cases hk : k = 5
    · subst hk
      refine ⟨mouth, ?_, fun j h3 h4 => by omega, fun _ _ => rfl⟩
      show X7_isGood_b310 _ _ _ _ _ _ _ _ _ = _
      unfold X7_isGood_b310
      rw [if_pos (by decide)]
    · obtain ⟨m', e, h3, h4⟩ := ih (k + 1) (upd mouth (35 + 5 * M + k) (got k)) (by omega) (by omega)
      refine ⟨m', ?_, fun j h5 h6 => ?_, fun j h5 => ?_⟩
      · show X7_isGood_b310 _ _ _ _ _ _ _ _ _ = _
        unfold X7_isGood_b310
        have xi : (35 : Int32) + (5 : Int32) * nI M + nI k = nI (35 + 5 * M + k) := by rw [pz_l35, pz_l5, pz_mul, pz_add, pz_add]
        rw [if_neg (by rw [pz_l5, pz_le (by omega) (by omega)]; omega), if_neg (show ¬ (1 : Int32) = 0 by decide), if_pos (show gx_in (1 : Int32) 2 by decide), if_pos (show gx_in (nI k) 5 by rw [pz_in (by omega)]; omega), hm', xi, if_pos (show gx_in (nI (35 + 5 * M + k)) 70 by rw [pz_in (by omega)]; omega), pz_cl (by omega), pz_cl (by omega), nI_1]
        exact e
      · by_cases hj : j = k
        · subst hj; rw [h4 _ (by omega), pz_upd_s]
        · exact h3 j (by omega) h6
      · rw [h4 j (by omega), pz_upd_n _ _ (by omega)]
theorem good_0 (got : Nat → Int32) : X7_isGood_b306 told mouths mouth hates got = some (0, told, upd mouths 1 (mouths 1 + 0), mouth, hates) := by
  obtain ⟨f, hf⟩ : ∃ f, gx_F = f + 1 := ⟨gx_F - 1, by rw [gx_F_eq]⟩
  unfold X7_isGood_b306 X7_isGood_b307
  rw [hf]
  show X7_isGood_b310 _ _ _ _ _ _ _ _ _ = _
  unfold X7_isGood_b310
  rw [if_neg (by decide), if_pos rfl]
  unfold X7_isGood_b349 X7_isGood_b365
  rw [if_pos (show gx_in (1 : Int32) 2 by decide), if_pos rfl, if_pos (show gx_in (1 : Int32) 2 by decide), if_pos (by decide)]
  rfl
theorem z_adm (hD : DR M tr sp he hate mo sk_ hr ts hs told mouths mouth hates) {l : List Nat} (hl : ∀ j, j < 5 → l.getD j 0 < 100) {nums got : Nat → Int32} (hn : ∀ j, j < 5 → nums j = nI (l.getD j 0)) (hg : ∀ j, j < 5 → got j = nI (l.getD j 0)) :
    (∃ mouths', X3_enter 105 nums mo sk_ hr ts hs = some (0, mo, sk_, hr, ts, hs) ∧ X7_isGood 105 told mouths mouth hates got = some (0, told, mouths', mouth, hates) ∧ FRq told mouths mouth hates told mouths' mouth hates) ∨ ∃ tr' ts' mouths' mouth', X3_enter 105 nums mo sk_ hr ts hs = some (1, nI (M + 1), sk_, hr, ts', hs) ∧ X7_isGood 105 told mouths mouth hates got = some (1, told, mouths', mouth', hates) ∧ FRq told mouths mouth hates told mouths' mouth' hates ∧ DR (M + 1) tr' sp he hate (nI (M + 1)) sk_ hr ts' hs told mouths' mouth' hates := by
  obtain ⟨hw, hp, hq⟩ := hD
  have hM7 := hw.1
  have n0 : nums (0 : Int32).toNatClampNeg = nI (l.getD 0 0) := hn 0 (by omega)
  have n1 : nums (1 : Int32).toNatClampNeg = nI (l.getD 1 0) := hn 1 (by omega)
  have n2 : nums (2 : Int32).toNatClampNeg = nI (l.getD 2 0) := hn 2 (by omega)
  have n3 : nums (3 : Int32).toNatClampNeg = nI (l.getD 3 0) := hn 3 (by omega)
  have n4 : nums (4 : Int32).toNatClampNeg = nI (l.getD 4 0) := hn 4 (by omega)
  have g0 : got (0 : Int32).toNatClampNeg = nI (l.getD 0 0) := hg 0 (by omega)
  have g1 : got (1 : Int32).toNatClampNeg = nI (l.getD 1 0) := hg 1 (by omega)
  have g2 : got (2 : Int32).toNatClampNeg = nI (l.getD 2 0) := hg 2 (by omega)
  have g3 : got (3 : Int32).toNatClampNeg = nI (l.getD 3 0) := hg 3 (by omega)
  have g4 : got (4 : Int32).toNatClampNeg = nI (l.getD 4 0) := hg 4 (by omega)
  have l0 := hl 0 (by omega)
  have l1 := hl 1 (by omega)
  have l2 := hl 2 (by omega)
  have l3 := hl 3 (by omega)
  have l4 := hl 4 (by omega)
  have q1' : mouths (1 : Int32).toNatClampNeg = nI M := hq.1
  have z1 : ¬ (1 : Int32) = 0 := by decide
  have i05 : gx_in (0 : Int32) 5 := by decide
  have i15 : gx_in (1 : Int32) 5 := by decide
  have i25 : gx_in (2 : Int32) 5 := by decide
  have i35 : gx_in (3 : Int32) 5 := by decide
  have i45 : gx_in (4 : Int32) 5 := by decide
  have i12 : gx_in (1 : Int32) 2 := by decide
  have mfr : FRq told mouths mouth hates told (upd mouths 1 (mouths 1 + 0)) mouth hates := ⟨fun _ _ => rfl, pz_upd_n _ _ (by omega), fun _ _ => rfl, fun _ _ => rfl⟩
  by_cases h : M < 7 ∧ l.getD 0 0 ≤ 8 ∧ l.getD 1 0 ≤ 8 ∧ l.getD 0 0 ≠ l.getD 1 0 ∧ l.getD 2 0 ≤ 5 ∧ l.getD 3 0 ≤ 10
  · obtain ⟨h1, h2, h3, h4, h5, h6⟩ := h
    obtain ⟨m', e, k1, k2⟩ := good_l (told := told) (hates := hates) h1 hq.1 got gx_F 0 mouth (by omega) (by rw [gx_F_eq]; omega)
    have y5 : nI M * 5 = nI (5 * M) := by rw [pz_l5, pz_mul, Nat.mul_comm]
    refine Or.inr ⟨fun k => if k < 5 * M then tr k else l.getD (k - 5 * M) 0, upd (upd (upd (upd (upd ts (5 * M) (nI (l.getD 0 0))) (5 * M + 1) (nI (l.getD 1 0))) (5 * M + 2) (nI (l.getD 2 0))) (5 * M + 3) (nI (l.getD 3 0))) (5 * M + 4) (nI (l.getD 4 0)), upd mouths 1 (nI (M + 1)), m', ?_, ?_, ?_, ⟨by omega, hw.2.1, hw.2.2.1, hw.2.2.2.1, ?_⟩, ⟨rfl, hp.2.1, hp.2.2.1, ?_, hp.2.2.2.2⟩, ⟨pz_upd_s _ _ _, hq.2.1, hq.2.2.1, ?_, hq.2.2.2.2⟩⟩
    · unfold X3_enter X0_admit
      rw [if_neg (show ¬ (105 : Int32) = 104 by decide), if_pos rfl, if_pos i05, if_pos i15, if_pos i25, if_pos i35, if_pos i45, n0, n1, n2, n3, n4, hp.1, if_neg (by rw [pz_l7, pz_le (by omega) (by omega)]; omega), c_tong (by omega), gx_b_some, if_pos h2, if_neg z1, c_tong (by omega), gx_b_some, if_pos h3, if_neg z1, if_neg (by rw [pz_eq (by omega) (by omega)]; exact h4), if_neg (nI_pos (by omega)), if_neg (by rw [pz_l6, pz_le (by omega) (by omega)]; omega), if_neg (nI_pos (by omega)), if_pos (by rw [pz_l10, pz_le (by omega) (by omega)]; omega), if_neg (nI_pos (by omega)), if_pos (by rw [pz_l100, pz_lt (by omega) (by omega)]; omega), gl_eq, y5, pz_l1, pz_l2, pz_l3, pz_l4, pz_add, pz_add, pz_add, pz_add, if_pos (show gx_in (nI (5 * M)) 35 by rw [pz_in (by omega)]; omega), if_pos (show gx_in (nI (5 * M + 1)) 35 by rw [pz_in (by omega)]; omega), if_pos (show gx_in (nI (5 * M + 2)) 35 by rw [pz_in (by omega)]; omega), if_pos (show gx_in (nI (5 * M + 3)) 35 by rw [pz_in (by omega)]; omega), if_pos (show gx_in (nI (5 * M + 4)) 35 by rw [pz_in (by omega)]; omega), gx_b3_some, if_pos (by decide), pz_add, pz_cl (by omega), pz_cl (by omega), pz_cl (by omega), pz_cl (by omega), pz_cl (by omega)]
    · unfold X7_isGood
      rw [if_neg (show ¬ (105 : Int32) = 116 by decide), if_neg (show ¬ (105 : Int32) = 104 by decide), if_pos i05, g0, g1, g2, g3, g4, q1', q_inN (x := 8) 8 (by omega) (by omega) rfl, gx_b_some, if_pos h2, if_neg z1, if_pos i15, q_inN (x := 8) 8 (by omega) (by omega) rfl, gx_b_some, if_pos h3, if_neg z1, if_pos i05, if_pos i15, if_neg (by rw [pz_eq (by omega) (by omega)]; exact h4), if_pos i25, q_inN (x := 5) 5 (by omega) (by omega) rfl, gx_b_some, if_pos h5, if_neg z1, if_pos i35, q_inN (x := 10) 10 (by omega) (by omega) rfl, gx_b_some, if_pos h6, if_neg z1, if_pos i45, q_inN (x := 99) 99 (by omega) (by omega) rfl, gx_b_some, if_pos (show l.getD 4 0 ≤ 99 by omega), if_neg z1, if_pos i12, if_neg (by rw [pz_l7, pz_le (by omega) (by omega)]; omega)]
      unfold X7_isGood_b307
      rw [show X7_isGood_l310 X7_isGood_b349 gx_F 1 (0 : Int32) told mouths mouth hates got = _ from e]
      unfold X7_isGood_b349 X7_isGood_b365
      rw [if_pos i12, if_neg z1, if_pos i12, if_pos (by decide), q1', nI_1]
      rfl
    · exact ⟨fun _ _ => rfl, pz_upd_n _ _ (by omega), fun j hj => k2 j (by omega), fun _ _ => rfl⟩
    · intro i hi
      by_cases hi2 : i < M
      · simp only [if_pos (show 5 * i < 5 * M by omega), if_pos (show 5 * i + 1 < 5 * M by omega), if_pos (show 5 * i + 2 < 5 * M by omega), if_pos (show 5 * i + 3 < 5 * M by omega), if_pos (show 5 * i + 4 < 5 * M by omega)]
        exact hw.2.2.2.2 i hi2
      · have : i = M := by omega
        subst this
        simp only [if_neg (show ¬ 5 * i < 5 * i by omega), if_neg (show ¬ 5 * i + 1 < 5 * i by omega), if_neg (show ¬ 5 * i + 2 < 5 * i by omega), if_neg (show ¬ 5 * i + 3 < 5 * i by omega), if_neg (show ¬ 5 * i + 4 < 5 * i by omega), Nat.sub_self, Nat.add_sub_cancel_left]
        omega
    · intro k hk
      show _ = nI (if k < 5 * M then tr k else l.getD (k - 5 * M) 0)
      by_cases hk2 : k < 5 * M
      · rw [if_pos hk2, pz_upd_n _ _ (by omega), pz_upd_n _ _ (by omega), pz_upd_n _ _ (by omega), pz_upd_n _ _ (by omega), pz_upd_n _ _ (by omega)]
        exact hp.2.2.2.1 k hk2
      · rw [if_neg hk2]
        have hc : k = 5 * M ∨ k = 5 * M + 1 ∨ k = 5 * M + 2 ∨ k = 5 * M + 3 ∨ k = 5 * M + 4 := by omega
        rcases hc with rfl | rfl | rfl | rfl | rfl
        · rw [pz_upd_n _ _ (by omega), pz_upd_n _ _ (by omega), pz_upd_n _ _ (by omega), pz_upd_n _ _ (by omega), pz_upd_s, Nat.sub_self]
        · rw [pz_upd_n _ _ (by omega), pz_upd_n _ _ (by omega), pz_upd_n _ _ (by omega), pz_upd_s, Nat.add_sub_cancel_left]
        · rw [pz_upd_n _ _ (by omega), pz_upd_n _ _ (by omega), pz_upd_s, Nat.add_sub_cancel_left]
        · rw [pz_upd_n _ _ (by omega), pz_upd_s, Nat.add_sub_cancel_left]
        · rw [pz_upd_s, Nat.add_sub_cancel_left]
    · intro k hk
      show _ = nI (if k < 5 * M then tr k else l.getD (k - 5 * M) 0)
      by_cases hk2 : k < 5 * M
      · rw [if_pos hk2, k2 _ (by omega)]
        exact hq.2.2.2.1 k hk2
      · have := k1 (k - 5 * M) (by omega) (by omega)
        rw [if_neg hk2, show 35 * 1 + k = 35 + 5 * M + (k - 5 * M) by omega, this, hg _ (by omega)]
  · refine Or.inl ⟨_, ?_, ?_, mfr⟩
    · unfold X3_enter X0_admit
      rw [if_neg (show ¬ (105 : Int32) = 104 by decide), if_pos rfl, if_pos i05, if_pos i15, if_pos i25, if_pos i35, if_pos i45, n0, n1, n2, n3, n4, hp.1]
      by_cases h1 : M < 7
      · rw [if_neg (by rw [pz_l7, pz_le (by omega) (by omega)]; omega), c_tong (by omega), gx_b_some]
        by_cases h2 : l.getD 0 0 ≤ 8
        · rw [if_pos h2, if_neg z1, c_tong (by omega), gx_b_some]
          by_cases h3 : l.getD 1 0 ≤ 8
          · rw [if_pos h3, if_neg z1]
            by_cases h4 : l.getD 0 0 = l.getD 1 0
            · rw [if_pos (by rw [h4]), gx_b3_some, if_pos (by decide)]
            · rw [if_neg (by rw [pz_eq (by omega) (by omega)]; exact h4), if_neg (nI_pos (by omega))]
              by_cases h5 : l.getD 2 0 ≤ 5
              · rw [if_neg (by rw [pz_l6, pz_le (by omega) (by omega)]; omega), if_neg (nI_pos (by omega)), if_neg (by rw [pz_l10, pz_le (by omega) (by omega)]; omega), gx_b3_some, if_pos (by decide)]
              · rw [if_pos (by rw [pz_l6, pz_le (by omega) (by omega)]; omega), gx_b3_some, if_pos (by decide)]
          · rw [if_neg h3, if_pos rfl, gx_b3_some, if_pos (by decide)]
        · rw [if_neg h2, if_pos rfl, gx_b3_some, if_pos (by decide)]
      · rw [if_pos (by rw [pz_l7, pz_le (by omega) (by omega)]; omega), gx_b3_some, if_pos (by decide)]
    · unfold X7_isGood
      rw [if_neg (show ¬ (105 : Int32) = 116 by decide), if_neg (show ¬ (105 : Int32) = 104 by decide), if_pos i05, g0, g1, g2, g3, g4, q1', q_inN (x := 8) 8 (by omega) (by omega) rfl, gx_b_some]
      by_cases h2 : l.getD 0 0 ≤ 8
      · rw [if_pos h2, if_neg z1, if_pos i15, q_inN (x := 8) 8 (by omega) (by omega) rfl, gx_b_some]
        by_cases h3 : l.getD 1 0 ≤ 8
        · rw [if_pos h3, if_neg z1, if_pos i05, if_pos i15]
          by_cases h4 : l.getD 0 0 = l.getD 1 0
          · rw [if_pos (by rw [h4]), good_0]
          · rw [if_neg (by rw [pz_eq (by omega) (by omega)]; exact h4), if_pos i25, q_inN (x := 5) 5 (by omega) (by omega) rfl, gx_b_some]
            by_cases h5 : l.getD 2 0 ≤ 5
            · rw [if_pos h5, if_neg z1, if_pos i35, q_inN (x := 10) 10 (by omega) (by omega) rfl, gx_b_some]
              by_cases h6 : l.getD 3 0 ≤ 10
              · rw [if_pos h6, if_neg z1, if_pos i45, q_inN (x := 99) 99 (by omega) (by omega) rfl, gx_b_some, if_pos (show l.getD 4 0 ≤ 99 by omega), if_neg z1, if_pos i12, if_pos (by rw [pz_l7, pz_le (by omega) (by omega)]; omega), good_0]
              · rw [if_neg h6, if_pos rfl, good_0]
            · rw [if_neg h5, if_pos rfl, good_0]
        · rw [if_neg h3, if_pos rfl, good_0]
      · rw [if_neg h2, if_pos rfl, good_0]
end ADMIT
