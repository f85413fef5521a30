/-! ===== matrices of the reference ===== -/
theorem starts_l : ∀ (fuel k : Nat) (f : Nat → Int64), k ≤ 100 → 100 - k < fuel → ∃ f' : Nat → Int64, X7_starts_l2 fuel (nI k) f = some f' ∧ (∀ j, k ≤ j → j < 100 → f' j = lN (if j / 10 = j % 10 then 1 else 0)) ∧ ∀ j, (j < k ∨ 100 ≤ j) → f' j = f j := by
  intro fuel
  induction fuel with
  | zero => intro k f h1 h2; omega
  | succ n ih =>
    intro k f h1 h2
    by_cases hk : k = 100
    · subst hk
      refine ⟨f, ?_, fun j h3 h4 => by omega, fun _ _ => rfl⟩
      show X7_starts_b2 _ _ _ = _
      unfold X7_starts_b2
      rw [if_pos (by decide)]
    · obtain ⟨f', e, h3, h4⟩ := ih (k + 1) (vp_updL f k (lN (if k / 10 = k % 10 then 1 else 0))) (by omega) (by omega)
      refine ⟨f', ?_, fun j h5 h6 => ?_, fun j h5 => ?_⟩
      · show X7_starts_b2 _ _ _ = _
        unfold X7_starts_b2 X7_starts_b29
        rw [if_neg (by rw [pz_l100, pz_le (by omega) (by omega)]; omega), pz_l10, pz_rem (by omega) (by omega) (by omega), pz_div (by omega) (by omega) (by omega), ite_eq (by omega) (by omega)]
        by_cases hd : k / 10 = k % 10
        · rw [if_pos hd] at e
          rw [if_pos hd, if_pos (by rw [pz_in (by omega)]; omega), nI_1, pz_cl (by omega)]
          exact e
        · rw [if_neg hd] at e
          rw [if_neg hd, if_pos (by rw [pz_in (by omega)]; omega), nI_1, pz_cl (by omega)]
          exact e
      · by_cases hj : j = k
        · subst hj; rw [h4 j (by omega), pz_updL_s]
        · exact h3 j (by omega) h6
      · rw [h4 j (by omega), pz_updL_n _ _ (by omega)]
theorem q_starts (f : Nat → Int64) : ∃ f' : Nat → Int64, X7_starts f = some f' ∧ mQ 0 mI f' := by
  obtain ⟨f', e, h1, h2⟩ := starts_l gx_F 0 f (by omega) (by rw [gx_F_eq]; omega)
  refine ⟨f', e, fun s t hs ht => ?_⟩
  rw [Nat.mul_zero, Nat.zero_add, h1 _ (by omega) (by omega)]
  congr 1
  unfold mI
  by_cases hst : s = t
  · rw [if_pos hst, if_pos (by omega)]
  · rw [if_neg hst, if_neg (by omega)]
theorem goes20_l (K : Int32 → Int32 → Int32 → (Nat → Int32) → (Nat → Int64) → Option (Nat → Int64)) (x1 x4 : Int32) (mouth : Nat → Int32) (d : Nat) (hd : d ≤ 13) : ∀ (fuel k : Nat) (f : Nat → Int64), k ≤ 100 → 100 - k < fuel → ∃ f' : Nat → Int64, X7_goes_l20 K fuel x1 (nI (100 * d)) x4 (nI k) mouth f = K x1 (nI (100 * d)) x4 mouth f' ∧ (∀ j, 100 * (d + 1) + k ≤ j → j < 100 * (d + 2) → f' j = 0) ∧ ∀ j, (j < 100 * (d + 1) + k ∨ 100 * (d + 2) ≤ j) → f' j = f j := by
  intro fuel
  induction fuel with
  | zero => intro k f h1 h2; omega
  | succ n ih =>
    intro k f h1 h2
    by_cases hk : k = 100
    · subst hk
      refine ⟨f, ?_, fun j h3 h4 => by omega, fun _ _ => rfl⟩
      show X7_goes_b20 _ _ _ _ _ _ _ _ = _
      unfold X7_goes_b20
      rw [if_pos (by decide)]
    · obtain ⟨f', e, h3, h4⟩ := ih (k + 1) (vp_updL f (100 * (d + 1) + k) 0) (by omega) (by omega)
      refine ⟨f', ?_, fun j h5 h6 => ?_, fun j h5 => ?_⟩
      · show X7_goes_b20 _ _ _ _ _ _ _ _ = _
        unfold X7_goes_b20
        rw [if_neg (by rw [pz_l100, pz_le (by omega) (by omega)]; omega), pz_l100, pz_add, pz_add, if_pos (by rw [pz_in (by omega)]; omega), nI_1, pz_cl (by omega), show 100 * d + 100 + k = 100 * (d + 1) + k by omega]
        exact e
      · by_cases hj : j = 100 * (d + 1) + k
        · subst hj; rw [h4 _ (by omega), pz_updL_s]
        · exact h3 j (by omega) h6
      · rw [h4 j (by omega), pz_updL_n _ _ (by omega)]
/-- how far the matrix behind has come, k cells ahead being done -/
def gac (kd q : Nat) (c : Nat → Nat → Nat) (k s u : Nat) : Nat := pac kd q c (min 10 (k - 10 * s)) s u
theorem goes49_l (i kd q : Nat) (hi : i < 7) (hk6 : kd < 6) (hq : q ≤ 10) (mouth : Nat → Int32) (hm2 : mouth (5 * i + 2) = nI kd) (d : Nat) (hd : d ≤ 13) (c : Nat → Nat → Nat) : ∀ (fuel k : Nat) (f : Nat → Int64), k ≤ 100 → 100 - k < fuel → mQ d c f → mQ (d + 1) (gac kd q c k) f → ∃ f' : Nat → Int64, X7_goes_l49 fuel (nI i) (nI (100 * d)) (nI q) (nI k) mouth f = some f' ∧ mQ (d + 1) (pas kd q c) f' ∧ ∀ j, (j < 100 * (d + 1) ∨ 100 * (d + 2) ≤ j) → f' j = f j := by
  intro fuel
  induction fuel with
  | zero => intro k f h1 h2; omega
  | succ n ih =>
    intro k f h1 h2 hc hg
    by_cases hk : k = 100
    · subst hk
      refine ⟨f, ?_, fun s u hs hu => ?_, fun _ _ => rfl⟩
      · show X7_goes_b49 _ _ _ _ _ _ _ = _
        unfold X7_goes_b49
        rw [if_pos (by decide)]
      · rw [hg s u hs hu]
        unfold gac pas
        rw [show min 10 (100 - 10 * s) = 10 by omega]
    · obtain ⟨s0, t0, hs0, ht0, ek⟩ : ∃ s0 t0, s0 < 10 ∧ t0 < 10 ∧ k = 10 * s0 + t0 := ⟨k / 10, k % 10, by omega, by omega, by omega⟩
      have hm := md_lt kd hk6 t0 ht0
      have hs := sl_lt _ hm
      have hne := sl_ne _ hm
      have hsl := q_slip _ hm
      generalize hmm : md kd t0 = m at *
      have r1 : f (100 * d + k) = lN (c s0 t0) := by rw [ek, ← Nat.add_assoc]; exact hc s0 t0 hs0 ht0
      have r2 := hg s0 m hs0 hm
      have r3 := hg s0 (sl m) hs0 hs
      have hpc : ∀ u, gac kd q c (k + 1) s0 u = gac kd q c k s0 u + (if m = u then c s0 t0 * q else 0) + (if sl m = u then c s0 t0 * (10 - q) else 0) := fun u => by
        unfold gac
        rw [show min 10 (k + 1 - 10 * s0) = t0 + 1 by omega, show min 10 (k - 10 * s0) = t0 by omega, pac, hmm]
      have hpo : ∀ s u, s < 10 → s ≠ s0 → gac kd q c (k + 1) s u = gac kd q c k s u := fun s u h5 h6 => by
        unfold gac
        rw [show min 10 (k + 1 - 10 * s) = min 10 (k - 10 * s) by omega]
      let f1 : Nat → Int64 := vp_updL f (100 * (d + 1) + 10 * s0 + m) (lN (gac kd q c k s0 m + c s0 t0 * q))
      let f2 : Nat → Int64 := vp_updL f1 (100 * (d + 1) + 10 * s0 + sl m) (lN (gac kd q c k s0 (sl m) + c s0 t0 * (10 - q)))
      have hc2 : mQ d c f2 := fun s t h5 h6 => by
        show vp_updL (vp_updL f _ _) _ _ _ = _
        rw [pz_updL_n _ _ (by omega), pz_updL_n _ _ (by omega)]
        exact hc s t h5 h6
      have hg2 : mQ (d + 1) (gac kd q c (k + 1)) f2 := fun s u h5 h6 => by
        show vp_updL (vp_updL f _ _) _ _ _ = _
        by_cases e0 : s = s0
        · subst e0
          rw [hpc u]
          by_cases u2 : sl m = u
          · have u1 : m ≠ u := fun e => hne (by rw [u2, e])
            rw [if_pos u2, if_neg u1, ← u2, pz_updL_s, Nat.add_zero]
          · rw [if_neg u2, pz_updL_n _ _ (by omega)]
            by_cases u1 : m = u
            · rw [if_pos u1, ← u1, pz_updL_s, Nat.add_zero]
            · rw [if_neg u1, pz_updL_n _ _ (by omega), hg s u h5 h6]; rfl
        · rw [hpo s u h5 e0, pz_updL_n _ _ (by omega), pz_updL_n _ _ (by omega), hg s u h5 h6]
      obtain ⟨f', e, h3, h4⟩ := ih (k + 1) f2 (by omega) (by omega) hc2 hg2
      refine ⟨f', ?_, h3, fun j hj => ?_⟩
      · show X7_goes_b49 _ _ _ _ _ _ _ = _
        unfold X7_goes_b49
        have x10 : nI k - nI k / 10 * 10 = nI t0 := by
          rw [pz_l10, pz_rem (by omega) (by omega) (by omega)]; congr 1; omega
        have xw : nI k - nI t0 = nI (10 * s0) := by rw [pz_sub (by omega)]; congr 1; omega
        have x52 : (5 : Int32) * nI i + 2 = nI (5 * i + 2) := by rw [pz_l5, pz_l2, pz_mul, pz_add]
        have xa : nI (100 * d) + (100 : Int32) + nI (10 * s0) = nI (100 * (d + 1) + 10 * s0) := by rw [pz_l100, pz_add, pz_add]; congr 1
        have hmd : X7_made (nI kd) (nI t0) = some (nI m) := by rw [q_made kd hk6 t0 ht0, hmm]
        rw [if_neg (by rw [pz_l100, pz_le (by omega) (by omega)]; omega), x10, x52, if_pos (by rw [pz_in (by omega)]; omega), pz_cl (by omega), hm2, hmd, gx_b_some, xw, gl_eq, xa, hsl, pz_add, pz_add, pz_add, if_pos (by rw [pz_in (by omega)]; omega), if_pos (by rw [pz_in (by omega)]; omega), if_pos (by rw [pz_in (by omega)]; omega), if_pos (by rw [pz_in (by omega)]; omega), if_pos (by rw [pz_in (by omega)]; omega), if_pos (by rw [pz_in (by omega)]; omega), pz_cl (by omega), pz_cl (by omega), pz_cl (by omega), nI_1, pz_l10, pz_sub hq, nI_l (by omega), nI_l (by omega), r1, r2, pz_updL_n _ _ (by omega), pz_updL_n _ _ (by omega), r1, r3, lN_mul, lN_mul, lN_add, lN_add]
        exact e
      · rw [h4 j hj]
        show vp_updL (vp_updL f _ _) _ _ _ = _
        rw [pz_updL_n _ _ (by omega), pz_updL_n _ _ (by omega)]
theorem q_goes (i kd q : Nat) (hi : i < 7) (hk6 : kd < 6) (hq : q ≤ 10) (mouth : Nat → Int32) (hm2 : mouth (5 * i + 2) = nI kd) (hm3 : mouth (5 * i + 3) = nI q) (d : Nat) (hd : d ≤ 13) (c : Nat → Nat → Nat) (f : Nat → Int64) (hc : mQ d c f) : ∃ f' : Nat → Int64, X7_goes (nI i) (nI d) mouth f = some f' ∧ mQ (d + 1) (pas kd q c) f' ∧ ∀ j, (j < 100 * (d + 1) ∨ 100 * (d + 2) ≤ j) → f' j = f j := by
  obtain ⟨f1, e1, h1, h2⟩ := goes20_l X7_goes_b46 (nI i) (nI q) mouth d hd gx_F 0 f (by omega) (by rw [gx_F_eq]; omega)
  obtain ⟨f', e, h3, h4⟩ := goes49_l i kd q hi hk6 hq mouth hm2 d hd c gx_F 0 f1 (by omega) (by rw [gx_F_eq]; omega) (fun s t hs ht => by rw [h2 _ (by omega)]; exact hc s t hs ht) (fun s t hs ht => by rw [h1 _ (by omega) (by omega)]; unfold gac; rw [Nat.zero_sub, Nat.min_zero]; rfl)
  refine ⟨f', ?_, h3, fun j hj => by rw [h4 j hj, h2 j (by omega)]⟩
  unfold X7_goes
  rw [gl_eq, gl_eq, pz_l100, pz_l5, pz_l3, pz_mul, pz_mul, pz_add, if_pos (by rw [pz_in (by omega)]; omega), pz_cl (by omega), hm3]
  refine e1.trans ?_
  unfold X7_goes_b46
  exact e
