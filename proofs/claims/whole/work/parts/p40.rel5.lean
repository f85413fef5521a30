/-! ===== the law ===== -/
theorem law_l (xs : Nat → Int32) (L : Nat) (hL : L ≤ 2048) : ∀ (fuel p : Nat), p ≤ L + 4 → L + 8 - p < fuel → KS (L_law_l18 xs L fuel) (nI p) := by
  intro fuel
  induction fuel with
  | zero => intro p h1 h2; omega
  | succ f ih =>
    intro p h1 h2 v_x_kept v_x_script_length v_x_script_bytes v_x_script_numbers v_x_hearing_seated v_x_hearing_spoken v_x_hearing_seats v_x_hearing_words v_x_steps_held v_x_steps_latest v_x_keptFirst_seated v_x_keptFirst_spoken v_x_keptFirst_seats v_x_keptFirst_words v_x_keptSecond_seated v_x_keptSecond_spoken v_x_keptSecond_seats v_x_keptSecond_words v_x_odds_below v_x_odds_cells v_x_odds_behind v_x_search_limit v_x_search_most v_x_search_lw v_x_search_lc v_x_search_lb v_x_search_row v_x_search_rows v_x_search_lengths v_x_laid_mouths v_x_laid_speaks v_x_laid_hears v_x_laid_traits v_x_laid_hated v_x_draft_mouths v_x_draft_speaks v_x_draft_hears v_x_draft_traits v_x_draft_hated v_m_length v_m_at v_m_kept v_m_done v_m_above v_m_below v_m_bestLong v_m_bribe v_m_bribed v_m_text v_m_told v_m_mouths v_m_mouth v_m_hates v_m_seated v_m_chain v_m_words v_m_word v_m_did v_m_chance v_m_row v_m_best v_m_got hRL
    show L_law_b18 _ _ _ _ _ _ _ _ _ _ _ _ _ _ _ _ _ _ _ _ _ _ _ _ _ _ _ _ _ _ _ _ _ _ _ _ _ _ _ _ _ _ _ _ _ _ _ _ _ _ _ _ _ _ _ _ _ _ _ _ _ _ _ _ _ _ = _
    unfold L_law_b18
    have e0 : (Int32.ofNat L : Int32) = nI L := rfl
    by_cases hp : L < p + 4
    · rw [e0, if_pos (by
        rw [Int32.lt_iff_toInt_lt, pz_l4, pk_sub_toInt (by omega) (by omega), pz_ti (by omega)]; omega)]
    · have hK : KS (L_law_l18 xs L f) (nI p + 4) := by
        rw [pz_l4, pz_add]
        exact ih (p + 4) (by omega) (by omega)
      have h1 : gx_in (nI p + (1 : Int32)) L := by rw [pz_l1, pz_add, pz_in (by omega)]; omega
      have h2 : gx_in (nI p + (2 : Int32)) L := by rw [pz_l2, pz_add, pz_in (by omega)]; omega
      have h3 : gx_in (nI p + (3 : Int32)) L := by rw [pz_l3, pz_add, pz_in (by omega)]; omega
      rw [e0, if_neg (by
        rw [Int32.lt_iff_toInt_lt, pz_l4, pk_sub_toInt (by omega) (by omega), pz_ti (by omega)]; omega), if_pos (by rw [pz_in (by omega)]; omega), gl_eq]
      generalize xs (nI p).toNatClampNeg &&& (31 : Int32) = y
      by_cases c0 : y = (0 : Int32)
      · rw [if_pos c0]; exact g_148 xs L _ _ _ _ _ _ _ _ _ _ _ _ _ _ _ _ _ _ _ _ _ _ _ _ _ _ _ _ _ _ _ _ _ _ _ _ _ _ _ _ _ _ _ _ _ _ _ _ _ _ _ _ _ _ _ _ _ _ _ _ _ _ _ _ hRL hK h1 h2 h3
      rw [if_neg c0]
      by_cases c1 : y = (1 : Int32)
      · rw [if_pos c1]; exact g_211 xs L _ _ _ _ _ _ _ _ _ _ _ _ _ _ _ _ _ _ _ _ _ _ _ _ _ _ _ _ _ _ _ _ _ _ _ _ _ _ _ _ _ _ _ _ _ _ _ _ _ _ _ _ _ _ _ _ _ _ _ _ _ _ _ _ hRL hK h1 h2 h3
      rw [if_neg c1]
      by_cases c2 : y = (2 : Int32)
      · rw [if_pos c2]; exact g_224 xs L _ _ _ _ _ _ _ _ _ _ _ _ _ _ _ _ _ _ _ _ _ _ _ _ _ _ _ _ _ _ _ _ _ _ _ _ _ _ _ _ _ _ _ _ _ _ _ _ _ _ _ _ _ _ _ _ _ _ _ _ _ _ _ _ hRL hK h1 h2 h3
      rw [if_neg c2]
      by_cases c3 : y = (3 : Int32)
      · rw [if_pos c3]; exact g_237 xs L _ _ _ _ _ _ _ _ _ _ _ _ _ _ _ _ _ _ _ _ _ _ _ _ _ _ _ _ _ _ _ _ _ _ _ _ _ _ _ _ _ _ _ _ _ _ _ _ _ _ _ _ _ _ _ _ _ _ _ _ _ _ _ _ hRL hK h1 h2 h3
      rw [if_neg c3]
      by_cases c4 : y = (4 : Int32)
      · rw [if_pos c4]; exact g_250 xs L _ _ _ _ _ _ _ _ _ _ _ _ _ _ _ _ _ _ _ _ _ _ _ _ _ _ _ _ _ _ _ _ _ _ _ _ _ _ _ _ _ _ _ _ _ _ _ _ _ _ _ _ _ _ _ _ _ _ _ _ _ _ _ _ hRL hK h1 h2 h3
      rw [if_neg c4]
      by_cases c5 : y = (5 : Int32)
      · rw [if_pos c5]; exact g_283 xs L _ _ _ _ _ _ _ _ _ _ _ _ _ _ _ _ _ _ _ _ _ _ _ _ _ _ _ _ _ _ _ _ _ _ _ _ _ _ _ _ _ _ _ _ _ _ _ _ _ _ _ _ _ _ _ _ _ _ _ _ _ _ _ _ hRL hK h1 h2 h3
      rw [if_neg c5]
      by_cases c6 : y = (6 : Int32)
      · rw [if_pos c6]; exact g_316 xs L _ _ _ _ _ _ _ _ _ _ _ _ _ _ _ _ _ _ _ _ _ _ _ _ _ _ _ _ _ _ _ _ _ _ _ _ _ _ _ _ _ _ _ _ _ _ _ _ _ _ _ _ _ _ _ _ _ _ _ _ _ _ _ _ hRL hK h1 h2 h3
      rw [if_neg c6]
      by_cases c7 : y = (7 : Int32)
      · rw [if_pos c7]; exact g_339 xs L _ _ _ _ _ _ _ _ _ _ _ _ _ _ _ _ _ _ _ _ _ _ _ _ _ _ _ _ _ _ _ _ _ _ _ _ _ _ _ _ _ _ _ _ _ _ _ _ _ _ _ _ _ _ _ _ _ _ _ _ _ _ _ _ hRL hK h1 h2 h3
      rw [if_neg c7]
      by_cases c8 : y = (8 : Int32)
      · rw [if_pos c8]; exact g_352 xs L _ _ _ _ _ _ _ _ _ _ _ _ _ _ _ _ _ _ _ _ _ _ _ _ _ _ _ _ _ _ _ _ _ _ _ _ _ _ _ _ _ _ _ _ _ _ _ _ _ _ _ _ _ _ _ _ _ _ _ _ _ _ _ _ hRL hK h1 h2 h3
      rw [if_neg c8]
      by_cases c9 : y = (9 : Int32)
      · rw [if_pos c9]; exact g_365 xs L _ _ _ _ _ _ _ _ _ _ _ _ _ _ _ _ _ _ _ _ _ _ _ _ _ _ _ _ _ _ _ _ _ _ _ _ _ _ _ _ _ _ _ _ _ _ _ _ _ _ _ _ _ _ _ _ _ _ _ _ _ _ _ _ hRL hK h1 h2 h3
      rw [if_neg c9]
      by_cases c10 : y = (10 : Int32)
      · rw [if_pos c10]; exact g_388 xs L _ _ _ _ _ _ _ _ _ _ _ _ _ _ _ _ _ _ _ _ _ _ _ _ _ _ _ _ _ _ _ _ _ _ _ _ _ _ _ _ _ _ _ _ _ _ _ _ _ _ _ _ _ _ _ _ _ _ _ _ _ _ _ _ hRL hK h1 h2 h3
      rw [if_neg c10]
      by_cases c11 : y = (11 : Int32)
      · rw [if_pos c11]; exact g_401 xs L _ _ _ _ _ _ _ _ _ _ _ _ _ _ _ _ _ _ _ _ _ _ _ _ _ _ _ _ _ _ _ _ _ _ _ _ _ _ _ _ _ _ _ _ _ _ _ _ _ _ _ _ _ _ _ _ _ _ _ _ _ _ _ _ hRL hK h1 h2 h3
      rw [if_neg c11]
      by_cases c12 : y = (12 : Int32)
      · rw [if_pos c12]; exact g_424 xs L _ _ _ _ _ _ _ _ _ _ _ _ _ _ _ _ _ _ _ _ _ _ _ _ _ _ _ _ _ _ _ _ _ _ _ _ _ _ _ _ _ _ _ _ _ _ _ _ _ _ _ _ _ _ _ _ _ _ _ _ _ _ _ _ hRL hK h1 h2 h3
      rw [if_neg c12]
      by_cases c13 : y = (13 : Int32)
      · rw [if_pos c13]; exact g_437 xs L _ _ _ _ _ _ _ _ _ _ _ _ _ _ _ _ _ _ _ _ _ _ _ _ _ _ _ _ _ _ _ _ _ _ _ _ _ _ _ _ _ _ _ _ _ _ _ _ _ _ _ _ _ _ _ _ _ _ _ _ _ _ _ _ hRL hK h1 h2 h3
      rw [if_neg c13]
      by_cases c14 : y = (14 : Int32)
      · rw [if_pos c14]; exact g_470 xs L _ _ _ _ _ _ _ _ _ _ _ _ _ _ _ _ _ _ _ _ _ _ _ _ _ _ _ _ _ _ _ _ _ _ _ _ _ _ _ _ _ _ _ _ _ _ _ _ _ _ _ _ _ _ _ _ _ _ _ _ _ _ _ _ hRL hK h1 h2 h3
      rw [if_neg c14]
      by_cases c15 : y = (15 : Int32)
      · rw [if_pos c15]; exact g_513 xs L _ _ _ _ _ _ _ _ _ _ _ _ _ _ _ _ _ _ _ _ _ _ _ _ _ _ _ _ _ _ _ _ _ _ _ _ _ _ _ _ _ _ _ _ _ _ _ _ _ _ _ _ _ _ _ _ _ _ _ _ _ _ _ _ hRL hK h1 h2 h3
      rw [if_neg c15]
      by_cases c16 : y = (16 : Int32)
      · rw [if_pos c16]; exact g_556 xs L _ _ _ _ _ _ _ _ _ _ _ _ _ _ _ _ _ _ _ _ _ _ _ _ _ _ _ _ _ _ _ _ _ _ _ _ _ _ _ _ _ _ _ _ _ _ _ _ _ _ _ _ _ _ _ _ _ _ _ _ _ _ _ _ hRL hK h1 h2 h3
      rw [if_neg c16]
      by_cases c17 : y = (17 : Int32)
      · rw [if_pos c17]; exact g_590 xs L _ _ _ _ _ _ _ _ _ _ _ _ _ _ _ _ _ _ _ _ _ _ _ _ _ _ _ _ _ _ _ _ _ _ _ _ _ _ _ _ _ _ _ _ _ _ _ _ _ _ _ _ _ _ _ _ _ _ _ _ _ _ _ _ hRL hK h1 h2 h3
      rw [if_neg c17]
      by_cases c18 : y = (18 : Int32)
      · rw [if_pos c18]; exact g_623 xs L _ _ _ _ _ _ _ _ _ _ _ _ _ _ _ _ _ _ _ _ _ _ _ _ _ _ _ _ _ _ _ _ _ _ _ _ _ _ _ _ _ _ _ _ _ _ _ _ _ _ _ _ _ _ _ _ _ _ _ _ _ _ _ _ hRL hK h1 h2 h3
      rw [if_neg c18]
      by_cases c19 : y = (19 : Int32)
      · rw [if_pos c19]; exact g_646 xs L _ _ _ _ _ _ _ _ _ _ _ _ _ _ _ _ _ _ _ _ _ _ _ _ _ _ _ _ _ _ _ _ _ _ _ _ _ _ _ _ _ _ _ _ _ _ _ _ _ _ _ _ _ _ _ _ _ _ _ _ _ _ _ _ hRL hK h1 h2 h3
      rw [if_neg c19]
      by_cases c20 : y = (20 : Int32)
      · rw [if_pos c20]; exact g_679 xs L _ _ _ _ _ _ _ _ _ _ _ _ _ _ _ _ _ _ _ _ _ _ _ _ _ _ _ _ _ _ _ _ _ _ _ _ _ _ _ _ _ _ _ _ _ _ _ _ _ _ _ _ _ _ _ _ _ _ _ _ _ _ _ _ hRL hK h1 h2 h3
      rw [if_neg c20]
      by_cases c21 : y = (21 : Int32)
      · rw [if_pos c21]; exact g_712 xs L _ _ _ _ _ _ _ _ _ _ _ _ _ _ _ _ _ _ _ _ _ _ _ _ _ _ _ _ _ _ _ _ _ _ _ _ _ _ _ _ _ _ _ _ _ _ _ _ _ _ _ _ _ _ _ _ _ _ _ _ _ _ _ _ hRL hK h1 h2 h3
      rw [if_neg c21]
      by_cases c22 : y = (22 : Int32)
      · rw [if_pos c22]; exact g_735 xs L _ _ _ _ _ _ _ _ _ _ _ _ _ _ _ _ _ _ _ _ _ _ _ _ _ _ _ _ _ _ _ _ _ _ _ _ _ _ _ _ _ _ _ _ _ _ _ _ _ _ _ _ _ _ _ _ _ _ _ _ _ _ _ _ hRL hK h1 h2 h3
      rw [if_neg c22]
      by_cases c23 : y = (23 : Int32)
      · rw [if_pos c23]; exact g_748 xs L _ _ _ _ _ _ _ _ _ _ _ _ _ _ _ _ _ _ _ _ _ _ _ _ _ _ _ _ _ _ _ _ _ _ _ _ _ _ _ _ _ _ _ _ _ _ _ _ _ _ _ _ _ _ _ _ _ _ _ _ _ _ _ _ hRL hK h1 h2 h3
      rw [if_neg c23]
      by_cases c24 : y = (24 : Int32)
      · rw [if_pos c24]; exact g_761 xs L _ _ _ _ _ _ _ _ _ _ _ _ _ _ _ _ _ _ _ _ _ _ _ _ _ _ _ _ _ _ _ _ _ _ _ _ _ _ _ _ _ _ _ _ _ _ _ _ _ _ _ _ _ _ _ _ _ _ _ _ _ _ _ _ hRL hK h1 h2 h3
      rw [if_neg c24]
      exact g_784 xs L _ _ _ _ _ _ _ _ _ _ _ _ _ _ _ _ _ _ _ _ _ _ _ _ _ _ _ _ _ _ _ _ _ _ _ _ _ _ _ _ _ _ _ _ _ _ _ _ _ _ _ _ _ _ _ _ _ _ _ _ _ _ _ _ hRL hK h1 h2 h3
