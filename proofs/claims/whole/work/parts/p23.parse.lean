/-! ===== the text is read ===== -/
def fg (n : Nat) (t : Nat → Nat) (p : Nat) : Bool := decide (p < n) && (decide (48 ≤ t p) && decide (t p ≤ 57))
/-- a number at p: what it is, the place behind -/
def num (n : Nat) (t : Nat → Nat) (p : Nat) : Option (Nat × Nat) :=
  if fg n t p then (if fg n t (p + 1) then (if fg n t (p + 2) then none else some (10 * (t p - 48) + (t (p + 1) - 48), p + 2)) else some (t p - 48, p + 1)) else none
theorem fg_iff {n : Nat} {t : Nat → Nat} {p : Nat} : fg n t p = true ↔ p < n ∧ 48 ≤ t p ∧ t p ≤ 57 := by simp [fg]
/-- a byte as the reference holds it -/
def txv (b : Nat) : Int32 := (nI b).toInt8.toInt32
theorem tx_1 : ∀ b, b < 256 → (if txv b < 48 then (0 : Int32) else if 57 < txv b then 0 else 1) = (if 48 ≤ b ∧ b ≤ 57 then 1 else 0) := by decide +kernel
theorem tx_2 : ∀ b, b < 256 → 48 ≤ b → b ≤ 57 → txv b = nI b := by decide +kernel
theorem tx_44 : ∀ b, b < 256 → (txv b = 44 ↔ b = 44) := by decide +kernel
theorem tx_59 : ∀ b, b < 256 → (txv b = 59 ↔ b = 59) := by decide +kernel
theorem tx_104 : ∀ b, b < 256 → (txv b = 104 ↔ b = 104) := by decide +kernel
theorem tx_105 : ∀ b, b < 256 → (txv b = 105 ↔ b = 105) := by decide +kernel
theorem tx_116 : ∀ b, b < 256 → (txv b = 116 ↔ b = 116) := by decide +kernel
section PARSE
variable {n : Nat} {t : Nat → Nat} {b tx : Nat → Int32}
theorem c_byte (hp : pT n t (nI n) b) (p : Nat) (h : p < 1000) : X3_byteAt (nI p) (nI n) b = some (if p < n then nI (t p) else -1) := by
  obtain ⟨h1, h2, h3⟩ := hp
  unfold X3_byteAt
  rw [if_neg (nI_pos (by omega)), ite_le (by omega) (by omega)]
  by_cases hpn : p < n
  · rw [if_neg (by omega), if_neg (by rw [pz_l200, pz_le (by omega) (by omega)]; omega), if_pos (by rw [pz_in (by omega)]; omega), pz_cl (by omega), if_pos hpn, (h3 p hpn).2]
  · rw [if_pos (by omega), if_neg hpn]
theorem c_fig (hp : pT n t (nI n) b) (p : Nat) (h : p < 1000) : X3_isFigure (nI p) (nI n) b = some (if fg n t p then 1 else 0) := by
  unfold X3_isFigure
  rw [c_byte hp p h, gx_b_some]
  by_cases hpn : p < n
  · have h5 := (hp.2.2 p hpn).1
    rw [if_pos hpn, pz_l48, pz_l57, ite_lt (by omega) (by omega), ite_lt (by omega) (by omega)]
    by_cases h1 : t p < 48
    · rw [if_pos h1, if_neg (by rw [fg_iff]; omega)]
    · rw [if_neg h1]
      by_cases h2 : 57 < t p
      · rw [if_pos h2, if_neg (by rw [fg_iff]; omega)]
      · rw [if_neg h2, if_pos (by rw [fg_iff]; omega)]
  · rw [if_neg hpn, if_pos (by decide), if_neg (by rw [fg_iff]; omega)]
theorem c_figs (hp : pT n t (nI n) b) (p : Nat) (h : p < 900) : X3_figuresAt (nI p) (nI n) b = some (nI (if fg n t p then (if fg n t (p + 1) then 2 else 1) else 0)) := by
  unfold X3_figuresAt
  rw [c_fig hp p (by omega), gx_b_some, nI_1, c_fig hp (p + 1) (by omega), gx_b_some]
  by_cases h1 : fg n t p = true
  · rw [if_pos h1, if_neg (by decide), if_pos h1]
    by_cases h2 : fg n t (p + 1) = true
    · rw [if_pos h2, if_neg (by decide), if_pos h2]; rfl
    · rw [if_neg h2, if_pos rfl, if_neg h2]; rfl
  · rw [if_neg h1, if_pos rfl, if_neg h1]; rfl
theorem c_num1 (hp : pT n t (nI n) b) (p : Nat) (h : fg n t p = true) : X3_numberOf (nI p) (nI 1) (nI n) b = some (nI (t p - 48)) := by
  have g := fg_iff.mp h
  have hn := hp.1
  obtain ⟨f, hf⟩ : ∃ f, gx_F = f + 1 + 1 := ⟨gx_F - 2, by rw [gx_F_eq]⟩
  unfold X3_numberOf
  rw [hf]
  show X3_numberOf_b5 (X3_numberOf_l5 (f + 1)) (nI p) (nI 1) (nI 0) (nI 0) (nI n) b = _
  unfold X3_numberOf_b5
  rw [if_neg (by decide), pz_add, Nat.add_zero, c_byte hp _ (by omega), gx_b_some, if_pos (by omega), pz_l10, pz_mul, pz_add, pz_l48, pz_sub (by omega)]
  show X3_numberOf_b5 (X3_numberOf_l5 f) (nI p) (nI 1) (nI (0 * 10 + t p - 48)) (nI 1) (nI n) b = _
  unfold X3_numberOf_b5
  rw [if_pos (by decide), Nat.zero_mul, Nat.zero_add]
theorem c_num2 (hp : pT n t (nI n) b) (p : Nat) (h : fg n t p = true) (h' : fg n t (p + 1) = true) : X3_numberOf (nI p) (nI 2) (nI n) b = some (nI (10 * (t p - 48) + (t (p + 1) - 48))) := by
  have g := fg_iff.mp h
  have g' := fg_iff.mp h'
  have hn := hp.1
  obtain ⟨f, hf⟩ : ∃ f, gx_F = f + 1 + 1 + 1 := ⟨gx_F - 3, by rw [gx_F_eq]⟩
  unfold X3_numberOf
  rw [hf]
  show X3_numberOf_b5 (X3_numberOf_l5 (f + 1 + 1)) (nI p) (nI 2) (nI 0) (nI 0) (nI n) b = _
  unfold X3_numberOf_b5
  rw [if_neg (by decide), pz_add, Nat.add_zero, c_byte hp _ (by omega), gx_b_some, if_pos (by omega), pz_l10, pz_mul, pz_add, pz_l48, pz_sub (by omega)]
  show X3_numberOf_b5 (X3_numberOf_l5 (f + 1)) (nI p) (nI 2) (nI (0 * 10 + t p - 48)) (nI 1) (nI n) b = _
  unfold X3_numberOf_b5
  rw [if_neg (by decide), pz_add, c_byte hp _ (by omega), gx_b_some, if_pos (by omega), pz_l10, pz_mul, pz_add, pz_l48, pz_sub (by omega)]
  show X3_numberOf_b5 (X3_numberOf_l5 f) (nI p) (nI 2) (nI _) (nI 2) (nI n) b = _
  unfold X3_numberOf_b5
  rw [if_pos (by decide)]
  congr 2
  omega
/-- one byte of the reference is a figure -/
theorem q_fig (hp : pT n t (nI n) b) (hq : qT n t (nI n) tx) {p : Nat} (h : p < n) : X7_in ((tx p).toInt64) (48 : Int64) (57 : Int64) = some (if fg n t p then 1 else 0) := by
  have h1 := hq.2 p h
  have h2 := (hp.2.2 p h).1
  have e : X7_in ((tx p).toInt64) (48 : Int64) (57 : Int64) = _ := q_in (tx p) 48 57
  rw [e, h1, show (nI (t p)).toInt8.toInt32 = txv (t p) from rfl, tx_1 _ h2]
  by_cases h3 : 48 ≤ t p ∧ t p ≤ 57
  · rw [if_pos h3, if_pos (by rw [fg_iff]; omega)]
  · rw [if_neg h3, if_neg (by rw [fg_iff]; omega)]
/-- where a number ends -/
theorem num_end (hp : pT n t (nI n) b) (hq : qT n t (nI n) tx) {p : Nat} (h : p < 300) (hf : ¬ fg n t p = true) (f : Nat) (v k : Nat) : X7_number_l4 X7_number_b80 (f + 1) (nI v) (nI k) (nI n) (nI p) tx = X7_number_b80 (nI v) (nI k) (nI n) (nI p) tx := by
  have hn := hp.1
  show X7_number_b4 _ _ _ _ _ _ _ = _
  unfold X7_number_b4
  rw [ite_le (by omega) (by omega)]
  by_cases hpn : n ≤ p
  · rw [if_pos hpn]
  · have e3 : X7_in ((tx (nI p).toNatClampNeg).toInt64) (48 : Int64) (57 : Int64) = some (if fg n t p then 1 else 0) := by rw [pz_cl (by omega)]; exact q_fig hp hq (by omega)
    rw [if_neg hpn, if_pos (by rw [pz_in (by omega)]; omega), e3, gx_b_some, if_neg hf, if_pos rfl]
/-- a figure more -/
theorem num_more (hp : pT n t (nI n) b) (hq : qT n t (nI n) tx) {p : Nat} (hf : fg n t p = true) (f : Nat) (v k : Nat) (hk : k < 1000) (hv : v < 1000) : X7_number_l4 X7_number_b80 (f + 1) (nI v) (nI k) (nI n) (nI p) tx = X7_number_l4 X7_number_b80 f (nI (if k < 2 then 10 * v + (t p - 48) else v)) (nI (k + 1)) (nI n) (nI (p + 1)) tx := by
  have hn := hp.1
  have g := fg_iff.mp hf
  show X7_number_b4 _ _ _ _ _ _ _ = _
  unfold X7_number_b4 X7_number_b63
  have e3 : X7_in ((tx (nI p).toNatClampNeg).toInt64) (48 : Int64) (57 : Int64) = some (if fg n t p then 1 else 0) := by rw [pz_cl (by omega)]; exact q_fig hp hq (by omega)
  have ht : tx p = nI (t p) := by rw [hq.2 p g.1]; exact tx_2 _ (hp.2.2 p g.1).1 g.2.1 g.2.2
  rw [ite_le (by omega) (by omega), if_neg (by omega), if_pos (by rw [pz_in (by omega)]; omega), e3, gx_b_some, if_pos hf, if_neg (show ¬ (1 : Int32) = 0 by decide), pz_l2, ite_le (by omega) (by omega), nI_1, nI_1, if_pos (show gx_in (nI p) 200 by rw [pz_in (by omega)]; omega), pz_cl (by omega), ht, pz_l10, pz_mul, pz_add, pz_l48, pz_sub (by omega)]
  by_cases h2 : 2 ≤ k
  · rw [if_pos h2, if_neg (by omega)]
  · rw [if_neg h2, if_pos (by omega), show 10 * v + t p - 48 = 10 * v + (t p - 48) by omega]
theorem num_skip (hp : pT n t (nI n) b) (hq : qT n t (nI n) tx) (v : Nat) (hv : v < 1000) : ∀ (fuel m p k : Nat), p + m = n → m < fuel → 3 ≤ k → k + m < 1000 → ∃ p', p ≤ p' ∧ p' ≤ n ∧ X7_number_l4 X7_number_b80 fuel (nI v) (nI k) (nI n) (nI p) tx = some (-1, nI p') := by
  have hn := hp.1
  have hend : ∀ k p, 3 ≤ k → k < 2147483648 → X7_number_b80 (nI v) (nI k) (nI n) (nI p) tx = some (-1, nI p) := fun k p hk hk2 => by
    unfold X7_number_b80
    have e : X7_in ((nI k).toInt64) (1 : Int64) (2 : Int64) = _ := q_in (nI k) 1 2
    have e' : X7_in ((nI k).toInt64) (1 : Int64) (2 : Int64) = some 0 := by
      rw [e, if_neg (by rw [pz_l1, pz_lt (by omega) (by omega)]; omega), if_pos (by rw [pz_l2, pz_lt (by omega) (by omega)]; omega)]
    rw [e', gx_b_some, if_pos rfl]
  intro fuel
  induction fuel with
  | zero => intro m p k h1 h2; omega
  | succ f ih =>
    intro m p k h1 h2 h3 h4
    by_cases hf : fg n t p = true
    · have g := fg_iff.mp hf
      obtain ⟨p', a1, a2, a3⟩ := ih (m - 1) (p + 1) (k + 1) (by omega) (by omega) (by omega) (by omega)
      refine ⟨p', by omega, a2, ?_⟩
      rw [num_more hp hq hf f v k (by omega) hv, if_neg (by omega)]
      exact a3
    · refine ⟨p, Nat.le_refl p, by omega, ?_⟩
      rw [num_end hp hq (by omega) hf, hend k p h3 (by omega)]
theorem q_num (hp : pT n t (nI n) b) (hq : qT n t (nI n) tx) {p : Nat} (hpn : p ≤ n) : (num n t p = none ∧ ∃ p', p ≤ p' ∧ p' ≤ n ∧ X7_number (nI n) (nI p) tx = some (-1, nI p')) ∨ ∃ v p', num n t p = some (v, p') ∧ v < 100 ∧ p < p' ∧ p' ≤ n ∧ p' ≤ p + 2 ∧ X7_number (nI n) (nI p) tx = some (nI v, nI p') := by
  have hn := hp.1
  obtain ⟨f, hf⟩ : ∃ f, gx_F = f + 1 + 1 + 1 + 1 := ⟨gx_F - 4, by rw [gx_F_eq]⟩
  have hfb : 1000 < f := by have := gx_F_eq; omega
  have e0 : X7_number (nI n) (nI p) tx = X7_number_l4 X7_number_b80 (f + 1 + 1 + 1 + 1) (nI 0) (nI 0) (nI n) (nI p) tx := by
    unfold X7_number; rw [hf]; rfl
  rw [e0]
  unfold num
  by_cases h1 : fg n t p = true
  · have g1 := fg_iff.mp h1
    rw [if_pos h1, num_more hp hq h1 _ 0 0 (by omega) (by omega), if_pos (show 0 < 2 by omega), Nat.mul_zero, Nat.zero_add, Nat.zero_add]
    by_cases h2 : fg n t (p + 1) = true
    · have g2 := fg_iff.mp h2
      rw [if_pos h2, num_more hp hq h2 _ (t p - 48) 1 (by omega) (by omega), if_pos (show 1 < 2 by omega)]
      by_cases h3 : fg n t (p + 2) = true
      · have g3 := fg_iff.mp h3
        rw [if_pos h3, num_more hp hq h3 _ _ (1 + 1) (by omega) (by omega), if_neg (show ¬ 1 + 1 < 2 by omega)]
        refine Or.inl ⟨rfl, ?_⟩
        obtain ⟨p', a1, a2, a3⟩ := num_skip hp hq (10 * (t p - 48) + (t (p + 1) - 48)) (by omega) (f + 1) (n - (p + 1 + 1 + 1)) (p + 1 + 1 + 1) (1 + 1 + 1) (by omega) (by omega) (by omega) (by omega)
        exact ⟨p', by omega, a2, a3⟩
      · rw [if_neg h3, num_end hp hq (by omega) h3]
        refine Or.inr ⟨_, _, rfl, by omega, by omega, by omega, by omega, ?_⟩
        unfold X7_number_b80
        rw [show X7_in ((nI (1 + 1)).toInt64) (1 : Int64) (2 : Int64) = some 1 by decide +kernel, gx_b_some, if_neg (by decide)]
    · rw [if_neg h2, num_end hp hq (by omega) h2]
      refine Or.inr ⟨_, _, rfl, by omega, by omega, by omega, by omega, ?_⟩
      unfold X7_number_b80
      rw [show X7_in ((nI 1).toInt64) (1 : Int64) (2 : Int64) = some 1 by decide +kernel, gx_b_some, if_neg (by decide)]
  · rw [if_neg h1, num_end hp hq (by omega) h1]
    refine Or.inl ⟨rfl, p, by omega, by omega, ?_⟩
    unfold X7_number_b80
    rw [show X7_in ((nI 0).toInt64) (1 : Int64) (2 : Int64) = some 0 by decide +kernel, gx_b_some, if_pos rfl]
/-- m numbers from p on, each with its sign behind: what they are, the place behind -/
def psq (n : Nat) (t : Nat → Nat) : Nat → Nat → Option (List Nat × Nat)
  | 0, p => some ([], p)
  | m + 1, p => match num n t p with
    | none => none
    | some (v, p') => if p' < n ∧ t p' = (if m = 0 then 59 else 44) then (match psq n t m (p' + 1) with
      | none => none
      | some (l, q) => some (v :: l, q)) else none
end PARSE
