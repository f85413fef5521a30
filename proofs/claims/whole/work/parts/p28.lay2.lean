/-! ===== fault, lay ===== -/
theorem w_fault {n : Nat} {t : Nat → Nat} {len lenM : Int32} {b tx : Nat → Int32} (hp : pT n t len b) (hq : qT n t lenM tx) (nums : Nat → Int32) (mo sk_ hr at_ : Int32) (ts hs told mouths mouth hates got : Nat → Int32) : ∃ (r : Int32) (nums' : Nat → Int32) (mo' sk' hr' at' : Int32) (ts' hs' told' mouths' mouth' hates' got' : Nat → Int32), X6_fault len b nums mo sk_ hr ts hs = some (r, nums', mo', sk', hr', ts', hs') ∧ X7_fault lenM at_ tx told mouths mouth hates got = some (r, at', told', mouths', mouth', hates', got') ∧ FRq told mouths mouth hates told' mouths' mouth' hates' := by
  have e1 := hp.2.1
  have e2 := hq.1
  subst e1; subst e2
  obtain ⟨r, nums2, mo2, sk2, hr2, at2, ts2, hs2, told2, mouths2, mouth2, hates2, got2, f1, f2, f3, f4⟩ := w_read hp hq nums mo sk_ hr at_ ts hs told mouths mouth hates got
  refine ⟨r, nums2, mo2, sk2, hr2, at2, ts2, hs2, told2, mouths2, mouth2, hates2, got2, ?_, f2, f3⟩
  unfold X6_fault
  rw [f1, gx_b7_some]
theorem takes_l (kept done : Int32) (told mouths seated words : Nat → Int32) : ∀ (fuel k : Nat) (mouth hates : Nat → Int32), k ≤ 35 → 35 - k < fuel → ∃ mouth' hates' : Nat → Int32, X7_takes_l38 X7_takes_b86 fuel (nI k) kept done told mouths mouth hates seated words = some (0, 0, told, mouths, mouth', hates', upd seated 0 0, upd words 0 0) ∧ (∀ j, k ≤ j → j < 35 → mouth' j = mouth (35 + j)) ∧ (∀ j, k ≤ j → j < 7 → hates' j = hates (7 + j)) ∧ (∀ j, (j < k ∨ 35 ≤ j) → mouth' j = mouth j) ∧ (∀ j, (j < k ∨ 7 ≤ j) → hates' j = hates j) := by
  intro fuel
  induction fuel with
  | zero => intro k mouth hates h1 h2; omega
  | succ f ih =>
    intro k mouth hates h1 h2
    by_cases hk : k = 35
    · subst hk
      refine ⟨mouth, hates, ?_, fun j h3 h4 => by omega, fun j h3 h4 => by omega, fun _ _ => rfl, fun _ _ => rfl⟩
      show X7_takes_b38 _ _ _ _ _ _ _ _ _ _ _ = _
      unfold X7_takes_b38
      rw [if_pos (by decide)]
      unfold X7_takes_b86
      rw [if_pos (by decide), if_pos (by decide)]
      rfl
    · have xa : (35 : Int32) + nI k = nI (35 + k) := by rw [pz_l35, pz_add]
      have xb : (7 : Int32) + nI k = nI (7 + k) := by rw [pz_l7, pz_add]
      by_cases h7 : k < 7
      · obtain ⟨m', h', e, a1, a2, a3, a4⟩ := ih (k + 1) (upd mouth k (mouth (35 + k))) (upd hates k (hates (7 + k))) (by omega) (by omega)
        refine ⟨m', h', ?_, fun j h5 h6 => ?_, fun j h5 h6 => ?_, fun j h5 => ?_, fun j h5 => ?_⟩
        · show X7_takes_b38 _ _ _ _ _ _ _ _ _ _ _ = _
          unfold X7_takes_b38 X7_takes_b80
          rw [if_neg (by rw [pz_l35, pz_le (by omega) (by omega)]; omega), xa, xb, if_pos (show gx_in (nI (35 + k)) 70 by rw [pz_in (by omega)]; omega), if_pos (show gx_in (nI k) 70 by rw [pz_in (by omega)]; omega), if_neg (by rw [pz_l7, pz_le (by omega) (by omega)]; omega), if_pos (show gx_in (nI (7 + k)) 14 by rw [pz_in (by omega)]; omega), if_pos (show gx_in (nI k) 14 by rw [pz_in (by omega)]; omega), pz_cl (by omega), pz_cl (by omega), pz_cl (by omega), nI_1]
          exact e
        · by_cases hj : j = k
          · subst hj; rw [a3 _ (by omega), pz_upd_s]
          · rw [a1 j (by omega) h6, pz_upd_n _ _ (by omega)]
        · by_cases hj : j = k
          · subst hj; rw [a4 _ (by omega), pz_upd_s]
          · rw [a2 j (by omega) h6, pz_upd_n _ _ (by omega)]
        · rw [a3 j (by omega), pz_upd_n _ _ (by omega)]
        · rw [a4 j (by omega), pz_upd_n _ _ (by omega)]
      · obtain ⟨m', h', e, a1, a2, a3, a4⟩ := ih (k + 1) (upd mouth k (mouth (35 + k))) hates (by omega) (by omega)
        refine ⟨m', h', ?_, fun j h5 h6 => ?_, fun j h5 h6 => ?_, fun j h5 => ?_, fun j h5 => ?_⟩
        · show X7_takes_b38 _ _ _ _ _ _ _ _ _ _ _ = _
          unfold X7_takes_b38 X7_takes_b80
          rw [if_neg (by rw [pz_l35, pz_le (by omega) (by omega)]; omega), xa, if_pos (show gx_in (nI (35 + k)) 70 by rw [pz_in (by omega)]; omega), if_pos (show gx_in (nI k) 70 by rw [pz_in (by omega)]; omega), if_pos (by rw [pz_l7, pz_le (by omega) (by omega)]; omega), pz_cl (by omega), pz_cl (by omega), nI_1]
          exact e
        · by_cases hj : j = k
          · subst hj; rw [a3 _ (by omega), pz_upd_s]
          · rw [a1 j (by omega) h6, pz_upd_n _ _ (by omega)]
        · omega
        · rw [a3 j (by omega), pz_upd_n _ _ (by omega)]
        · rw [a4 j (by omega)]
theorem q_takes {M sp he : Nat} {tr hate : Nat → Nat} (hM : M ≤ 7) (kept done : Int32) (told mouths mouth hates seated words : Nat → Int32) (hq : qC 1 M tr sp he hate told mouths mouth hates) : ∃ told' mouths' mouth' hates' : Nat → Int32, X7_takes kept done told mouths mouth hates seated words = some (0, 0, told', mouths', mouth', hates', upd seated 0 0, upd words 0 0) ∧ qC 0 M tr sp he hate told' mouths' mouth' hates' := by
  obtain ⟨m', h', e, a1, a2, a3, a4⟩ := takes_l kept done (upd (upd told 0 (told 2)) 1 (upd told 0 (told 2) 3)) (upd mouths 0 (mouths 1)) seated words gx_F 0 mouth hates (by omega) (by rw [gx_F_eq]; omega)
  obtain ⟨q1, q2, q3, q4, q5⟩ := hq
  refine ⟨upd (upd told 0 (told 2)) 1 (upd told 0 (told 2) 3), upd mouths 0 (mouths 1), m', h', ?_, ⟨?_, ?_, ?_, ?_, ?_⟩⟩
  · unfold X7_takes
    rw [if_pos (show gx_in (1 : Int32) 2 by decide), if_pos (show gx_in (0 : Int32) 2 by decide), if_pos (show gx_in (2 : Int32) 4 by decide), if_pos (show gx_in (0 : Int32) 4 by decide), if_pos (show gx_in (3 : Int32) 4 by decide), if_pos (show gx_in (1 : Int32) 4 by decide)]
    exact e
  · rw [pz_upd_s]; exact q1
  · show upd (upd told 0 (told 2)) 1 (upd told 0 (told 2) 3) 0 = _
    rw [pz_upd_n _ _ (by omega), pz_upd_s]; exact q2
  · show upd (upd told 0 (told 2)) 1 (upd told 0 (told 2) 3) 1 = _
    rw [pz_upd_s, pz_upd_n _ _ (by omega)]; exact q3
  · intro k hk
    rw [Nat.mul_zero, Nat.zero_add, a1 k (by omega) (by omega)]
    exact q4 k hk
  · intro k hk
    rw [Nat.mul_zero, Nat.zero_add, a2 k (by omega) (by omega)]
    exact q5 k hk
theorem w_lay {n : Nat} {t : Nat → Nat} {len lenM : Int32} {b tx : Nat → Int32} (hp : pT n t len b) (hq : qT n t lenM tx) (kept se spo held lm ls lh dm ds dh at_ keptM done : Int32) (nums lens lt ld dt dd told mouths mouth hates seated words got : Nat → Int32) :
    (∃ (nums' dt' dd' told' mouths' mouth' hates' got' : Nat → Int32) (dm' ds' dh' at' : Int32), X6_lay kept len b nums se spo held lens lm ls lh lt ld dm ds dh dt dd = some (-2, kept, nums', se, spo, held, lens, lm, ls, lh, lt, ld, dm', ds', dh', dt', dd') ∧ X7_lay lenM at_ keptM done tx told mouths mouth hates seated words got = some (-2, at', keptM, done, told', mouths', mouth', hates', seated, words, got') ∧ FRq told mouths mouth hates told' mouths' mouth' hates') ∨
    ∃ (M : Nat) (tr : Nat → Nat) (sp he : Nat) (hate : Nat → Nat) (nums' lens' lt' ld' told' mouths' mouth' hates' got' : Nat → Int32) (ls' lh' at' : Int32), 0 < M ∧ X6_lay kept len b nums se spo held lens lm ls lh lt ld dm ds dh dt dd = some (nI M, 0, nums', 0, 0, 0, lens', nI M, ls', lh', lt', ld', lm, ls, lh, lt, ld) ∧ X7_lay lenM at_ keptM done tx told mouths mouth hates seated words got = some (nI M, at', 0, 0, told', mouths', mouth', hates', upd seated 0 0, upd words 0 0, got') ∧ wC M tr sp he hate ∧ pC M tr sp he hate (nI M) ls' lh' lt' ld' ∧ qC 0 M tr sp he hate told' mouths' mouth' hates' ∧ ∀ j, j < 8 → lens' j = -1 := by
  have e1 := hp.2.1
  have e2 := hq.1
  subst e1; subst e2
  obtain ⟨r, nums2, mo2, sk2, hr2, at2, ts2, hs2, told2, mouths2, mouth2, hates2, got2, f1, f2, f3, f4⟩ := w_read hp hq nums dm ds dh at_ dt dd told mouths mouth hates got
  unfold X6_lay X7_lay
  rw [f1, f2, gx_b7_some, gx_b7_some]
  by_cases hr : r = -4
  · obtain ⟨M, tr, sp, he, hate, hw, hpc, hqc⟩ := f4 hr
    have q1 : mouths2 (1 : Int32).toNatClampNeg = nI M := hqc.1
    have hM7 := hw.1
    rw [if_pos hr, if_pos hr, X0_mouths, gx_b_some, if_pos (show gx_in (1 : Int32) 2 by decide), hpc.1]
    by_cases hM : M = 0
    · have z1 : nI M = 0 := by rw [hM]; rfl
      rw [if_pos z1, if_pos (by rw [q1]; exact z1)]
      exact Or.inl ⟨_, _, _, _, _, _, _, _, _, _, _, _, rfl, rfl, f3⟩
    · have z1 : ¬ nI M = 0 := nI_ne0 (by omega) (by omega)
      obtain ⟨l', g1, g2⟩ := fillI 8 (by omega) (-1) lens
      obtain ⟨told', mouths', mouth', hates', g3, g4⟩ := q_takes hM7 keptM done told2 mouths2 mouth2 hates2 seated words hqc
      have q0 : mouths' (0 : Int32).toNatClampNeg = nI M := g4.1
      rw [if_neg z1, if_neg (by rw [q1]; exact z1), X1_clear, gx_b2_some, X5_forget, gx_b_some, X4_forget, g1, gx_b_some, gx_b_some, g3, gx_b8_some, if_pos (show gx_in (0 : Int32) 2 by decide), q0]
      refine Or.inr ⟨M, tr, sp, he, hate, nums2, l', ts2, hs2, told', mouths', mouth', hates', got2, sk2, hr2, at2, by omega, rfl, rfl, hw, ?_, g4, g2⟩
      have := hpc
      rw [hpc.1] at this
      exact this
  · rw [if_neg hr, if_neg hr]
    exact Or.inl ⟨_, _, _, _, _, _, _, _, _, _, _, _, rfl, rfl, f3⟩
