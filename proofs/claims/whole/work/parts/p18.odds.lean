/-! ===== matrices: how often s comes as t ===== -/
/-- what has come behind an interpreter of kind k and skill q, T columns being done -/
def pac (k q : Nat) (c : Nat → Nat → Nat) : Nat → Nat → Nat → Nat
  | 0, _, _ => 0
  | T + 1, s, u => pac k q c T s u + (if md k T = u then c s T * q else 0) + (if sl (md k T) = u then c s T * (10 - q) else 0)
def pas (k q : Nat) (c : Nat → Nat → Nat) : Nat → Nat → Nat := pac k q c 10
def mI (s t : Nat) : Nat := if s = t then 1 else 0
def mP (c : Nat → Nat → Nat) (cells : Nat → Int64) : Prop := ∀ s t, s < 10 → t < 10 → cells (10 * t + s) = lN (c s t)
def mQ (d : Nat) (c : Nat → Nat → Nat) (chance : Nat → Int64) : Prop := ∀ s t, s < 10 → t < 10 → chance (100 * d + 10 * s + t) = lN (c s t)
theorem sl_ne : ∀ s, s < 10 → sl s ≠ s := by decide
theorem fillL_l (N : Nat) (hN : N < 2147483648) (x : Int64) : ∀ (fuel k : Nat) (f : Nat → Int64), k ≤ N → N - k < fuel → ∃ f' : Nat → Int64, J7_fill_d0a16_l6 fuel N x (nI k) (nI N) f = some f' ∧ (∀ j, k ≤ j → j < N → f' j = x) ∧ ∀ j, (j < k ∨ N ≤ j) → f' j = f j := by
  intro fuel
  induction fuel with
  | zero => intro k f h1 h2; omega
  | succ n ih =>
    intro k f h1 h2
    by_cases hk : k = N
    · subst hk
      refine ⟨f, ?_, fun j h3 h4 => by omega, fun _ _ => rfl⟩
      show J7_fill_d0a16_b6 _ _ _ _ _ _ = _
      unfold J7_fill_d0a16_b6
      rw [if_pos (by rw [pz_le hN hN]; omega)]
    · obtain ⟨f', e, h3, h4⟩ := ih (k + 1) (vp_updL f k x) (by omega) (by omega)
      refine ⟨f', ?_, fun j h5 h6 => ?_, fun j h5 => ?_⟩
      · show J7_fill_d0a16_b6 _ _ _ _ _ _ = _
        unfold J7_fill_d0a16_b6
        rw [if_neg (by rw [pz_le hN (by omega)]; omega), if_pos (by rw [pz_in (by omega)]; omega), nI_1, pz_cl (by omega)]
        exact e
      · by_cases hj : j = k
        · subst hj; rw [h4 j (by omega), pz_updL_s]
        · exact h3 j (by omega) h6
      · rw [h4 j (by omega), pz_updL_n _ _ (by omega)]
theorem fillI_l (N : Nat) (hN : N < 2147483648) (x : Int32) : ∀ (fuel k : Nat) (f : Nat → Int32), k ≤ N → N - k < fuel → ∃ f' : Nat → Int32, J7_fill_53178_l5 fuel N x (nI k) (nI N) f = some f' ∧ (∀ j, k ≤ j → j < N → f' j = x) ∧ ∀ j, (j < k ∨ N ≤ j) → f' j = f j := by
  intro fuel
  induction fuel with
  | zero => intro k f h1 h2; omega
  | succ n ih =>
    intro k f h1 h2
    by_cases hk : k = N
    · subst hk
      refine ⟨f, ?_, fun j h3 h4 => by omega, fun _ _ => rfl⟩
      show J7_fill_53178_b5 _ _ _ _ _ _ = _
      unfold J7_fill_53178_b5
      rw [if_pos (by rw [pz_le hN hN]; omega)]
    · obtain ⟨f', e, h3, h4⟩ := ih (k + 1) (upd f k x) (by omega) (by omega)
      refine ⟨f', ?_, fun j h5 h6 => ?_, fun j h5 => ?_⟩
      · show J7_fill_53178_b5 _ _ _ _ _ _ = _
        unfold J7_fill_53178_b5
        rw [if_neg (by rw [pz_le hN (by omega)]; omega), if_pos (by rw [pz_in (by omega)]; omega), nI_1, pz_cl (by omega)]
        exact e
      · by_cases hj : j = k
        · subst hj; rw [h4 j (by omega), pz_upd_s]
        · exact h3 j (by omega) h6
      · rw [h4 j (by omega), pz_upd_n _ _ (by omega)]
theorem fillL (N : Nat) (hN : N < 10000) (x : Int64) (f : Nat → Int64) : ∃ f' : Nat → Int64, J7_fill_d0a16 N x f = some f' ∧ ∀ j, j < N → f' j = x := by
  obtain ⟨f', e, h1, h2⟩ := fillL_l N (by omega) x gx_F 0 f (by omega) (by rw [gx_F_eq]; omega)
  exact ⟨f', e, fun j hj => h1 j (by omega) hj⟩
theorem fillI (N : Nat) (hN : N < 10000) (x : Int32) (f : Nat → Int32) : ∃ f' : Nat → Int32, J7_fill_53178 N x f = some f' ∧ ∀ j, j < N → f' j = x := by
  obtain ⟨f', e, h1, h2⟩ := fillI_l N (by omega) x gx_F 0 f (by omega) (by rw [gx_F_eq]; omega)
  exact ⟨f', e, fun j hj => h1 j (by omega) hj⟩
theorem clear_l (b : Int64) : ∀ (fuel k : Nat) (f : Nat → Int64), k ≤ 10 → 10 - k < fuel → ∃ f' : Nat → Int64, X2_clear_l10 X2_clear_b34 fuel (nI k) b f = some (1, f') ∧ (∀ j, k ≤ j → j < 10 → f' (11 * j) = 1) ∧ ∀ i, (∀ j, k ≤ j → j < 10 → i ≠ 11 * j) → f' i = f i := by
  intro fuel
  induction fuel with
  | zero => intro k f h1 h2; omega
  | succ n ih =>
    intro k f h1 h2
    by_cases hk : k = 10
    · subst hk
      refine ⟨f, ?_, fun j h3 h4 => by omega, fun _ _ => rfl⟩
      show X2_clear_b10 _ _ _ _ _ = _
      unfold X2_clear_b10
      rw [if_pos (by decide)]; rfl
    · obtain ⟨f', e, h3, h4⟩ := ih (k + 1) (vp_updL f (11 * k) 1) (by omega) (by omega)
      refine ⟨f', ?_, fun j h5 h6 => ?_, fun i h5 => ?_⟩
      · show X2_clear_b10 _ _ _ _ _ = _
        unfold X2_clear_b10
        rw [pz_l10, pz_mul, pz_add, if_neg (by rw [pz_le (by omega) (by omega)]; omega), if_pos (by rw [pz_in (by omega)]; omega), nI_1, pz_cl (by omega), show k * 10 + k = 11 * k by omega]
        exact e
      · by_cases hj : j = k
        · subst hj
          rw [h4 _ (fun i h7 h8 => by omega), pz_updL_s]
        · exact h3 j (by omega) h6
      · rw [h4 i (fun j h7 h8 => h5 j (by omega) h8), pz_updL_n _ _ (h5 k (by omega) (by omega))]
theorem c_clear (b : Int64) (f : Nat → Int64) : ∃ f' : Nat → Int64, X2_clear b f = some (1, f') ∧ mP mI f' := by
  obtain ⟨f1, e1, h1⟩ := fillL 100 (by omega) 0 f
  obtain ⟨f2, e2, h2, h3⟩ := clear_l b gx_F 0 f1 (by omega) (by rw [gx_F_eq]; omega)
  refine ⟨f2, ?_, fun s t hs ht => ?_⟩
  · unfold X2_clear
    rw [e1, gx_b_some]
    exact e2
  · unfold mI
    by_cases hst : s = t
    · subst hst
      rw [if_pos rfl, show 10 * s + s = 11 * s by omega, h2 s (by omega) hs]; rfl
    · rw [if_neg hst, h3 _ (fun j _ _ => by omega), h1 _ (by omega)]; rfl
theorem pour_l (a u q : Nat) (ha : a < 10) (hu : u < 10) (cells : Nat → Int64) : ∀ (fuel k : Nat) (f : Nat → Int64), k ≤ 10 → 10 - k < fuel → ∃ f' : Nat → Int64, X2_pour_l22 fuel (nI a) (nI u) (nI q) (nI k) cells f = some f' ∧ (∀ s, k ≤ s → s < 10 → f' (10 * u + s) = f (10 * u + s) + cells (10 * a + s) * (nI q).toInt64) ∧ ∀ i, (i < 10 * u + k ∨ 10 * u + 10 ≤ i) → f' i = f i := by
  intro fuel
  induction fuel with
  | zero => intro k f h1 h2; omega
  | succ n ih =>
    intro k f h1 h2
    by_cases hk : k = 10
    · subst hk
      refine ⟨f, ?_, fun j h3 h4 => by omega, fun _ _ => rfl⟩
      show X2_pour_b22 _ _ _ _ _ _ _ = _
      unfold X2_pour_b22
      rw [if_pos (by decide)]
    · obtain ⟨f', e, h3, h4⟩ := ih (k + 1) (vp_updL f (10 * u + k) (f (10 * u + k) + cells (10 * a + k) * (nI q).toInt64)) (by omega) (by omega)
      refine ⟨f', ?_, fun j h5 h6 => ?_, fun i h5 => ?_⟩
      · show X2_pour_b22 _ _ _ _ _ _ _ = _
        unfold X2_pour_b22
        rw [pz_l10, pz_mul, pz_mul, pz_add, pz_add, if_neg (by rw [pz_le (by omega) (by omega)]; omega), if_pos (by rw [pz_in (by omega)]; omega), if_pos (by rw [pz_in (by omega)]; omega), if_pos (by rw [pz_in (by omega)]; omega), nI_1, pz_cl (by omega), pz_cl (by omega), Nat.mul_comm u 10, Nat.mul_comm a 10]
        exact e
      · by_cases hj : j = k
        · subst hj
          rw [h4 _ (by omega), pz_updL_s]
        · rw [h3 j (by omega) h6, pz_updL_n _ _ (by omega)]
      · rw [h4 i (by omega), pz_updL_n _ _ (by omega)]
theorem c_sense {s : Nat} (hs : s < 10) : X6_isSense (nI s) = some 1 := by
  rw [c_isSense, if_neg (nI_pos (by omega)), if_neg (by rw [pz_l10, pz_le (by omega) (by omega)]; omega)]
theorem c_pour (a u q : Nat) (ha : a < 10) (hu : u < 10) (hq : q ≤ 10) (cells f : Nat → Int64) : ∃ f' : Nat → Int64, X2_pour (nI a) (nI u) (nI q) cells f = some f' ∧ (∀ s, s < 10 → f' (10 * u + s) = f (10 * u + s) + cells (10 * a + s) * lN q) ∧ ∀ i, (i < 10 * u ∨ 10 * u + 10 ≤ i) → f' i = f i := by
  by_cases h0 : q = 0
  · subst h0
    refine ⟨f, ?_, fun s hs => ?_, fun _ _ => rfl⟩
    · unfold X2_pour; rw [if_pos (by decide)]
    · rw [show lN 0 = 0 from rfl, Int64.mul_zero, Int64.add_zero]
  · obtain ⟨f', e, h1, h2⟩ := pour_l a u q ha hu cells gx_F 0 f (by omega) (by rw [gx_F_eq]; omega)
    refine ⟨f', ?_, fun s hs => ?_, fun i hi => h2 i (by omega)⟩
    · unfold X2_pour
      rw [if_neg (nI_ne0 (by omega) (by omega)), c_sense ha, c_sense hu, gx_b_some, if_neg (by decide), gx_b_some, if_neg (by decide)]
      exact e
    · rw [h1 s (by omega) hs, nI_l (by omega)]
theorem pass_l (k q : Nat) (hk : k < 6) (hq : q ≤ 10) (c : Nat → Nat → Nat) (b : Int64) (cells : Nat → Int64) (hc : mP c cells) : ∀ (fuel T : Nat) (f : Nat → Int64), T ≤ 10 → 10 - T < fuel → mP (pac k q c T) f → ∃ f' : Nat → Int64, X2_pass_l10 X2_pass_b51 fuel (nI k) (nI q) (nI T) b cells f = some (b * 10, f', cells) ∧ mP (pas k q c) f' := by
  intro fuel
  induction fuel with
  | zero => intro T f h1 h2; omega
  | succ n ih =>
    intro T f h1 h2 hf
    by_cases hT : T = 10
    · subst hT
      refine ⟨f, ?_, hf⟩
      show X2_pass_b10 _ _ _ _ _ _ _ _ = _
      unfold X2_pass_b10
      rw [if_pos (by decide)]; rfl
    · have hT10 : T < 10 := by omega
      have hm := md_lt k hk T hT10
      have hs := sl_lt _ hm
      obtain ⟨f1, e1, a1, b1⟩ := c_pour T (md k T) q hT10 hm hq cells f
      obtain ⟨f2, e2, a2, b2⟩ := c_pour T (sl (md k T)) (10 - q) hT10 hs (by omega) cells f1
      obtain ⟨f', e, h3⟩ := ih (T + 1) f2 (by omega) (by omega) (fun s u hs10 hu => by
        have hne := sl_ne _ hm
        have g0 := hf s u hs10 hu
        have gc := hc s T hs10 hT10
        show _ = lN (pac k q c T s u + (if md k T = u then c s T * q else 0) + (if sl (md k T) = u then c s T * (10 - q) else 0))
        by_cases u2 : sl (md k T) = u
        · have u1 : md k T ≠ u := fun e => hne (by rw [u2, e])
          rw [if_pos u2, if_neg u1, ← u2, a2 s hs10, u2, b1 _ (by omega), g0, gc, lN_mul, lN_add, Nat.add_zero]
        · rw [if_neg u2, b2 _ (by omega)]
          by_cases u1 : md k T = u
          · rw [if_pos u1, ← u1, a1 s hs10, u1, g0, gc, lN_mul, lN_add, Nat.add_zero]
          · rw [if_neg u1, b1 _ (by omega), g0]; rfl)
      refine ⟨f', ?_, h3⟩
      show X2_pass_b10 _ _ _ _ _ _ _ _ = _
      unfold X2_pass_b10
      rw [if_neg (by rw [pz_l10, pz_le (by omega) (by omega)]; omega), c_turned k hk T hT10, gx_b_some, e1, gx_b_some, c_slipped _ hm, gx_b_some, pz_l10, pz_sub hq, e2, gx_b_some, nI_1]
      exact e
theorem c_pass (k q : Nat) (hk : k < 6) (hq : q ≤ 10) (c : Nat → Nat → Nat) (b : Int64) (cells behind : Nat → Int64) (hc : mP c cells) : ∃ f' : Nat → Int64, X2_pass (nI k) (nI q) b cells behind = some (b * 10, f', cells) ∧ mP (pas k q c) f' := by
  obtain ⟨f1, e1, h1⟩ := fillL 100 (by omega) 0 behind
  obtain ⟨f', e, h⟩ := pass_l k q hk hq c b cells hc gx_F 0 f1 (by omega) (by rw [gx_F_eq]; omega) (fun s u hs hu => by rw [h1 _ (by omega)]; rfl)
  refine ⟨f', ?_, h⟩
  unfold X2_pass
  rw [e1, gx_b_some]
  exact e
