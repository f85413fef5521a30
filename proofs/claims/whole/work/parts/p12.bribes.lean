/-! ===== bribes ===== -/
theorem or_at : ∀ a, a < 128 → ∀ i, i < 7 → (nI a ||| ((1 : Int32) <<< (nI i &&& 31))) = nI (a ||| 2 ^ i) := by decide +kernel
theorem or_lt : ∀ a, a < 128 → ∀ i, i < 7 → a ||| 2 ^ i < 128 := by decide +kernel
theorem sub_at : ∀ B, B < 128 → ∀ a, a < 128 → (nI B &&& (nI a ^^^ (-1))) = 0 → ∀ i, i < 7 → B.testBit i = true → a.testBit i = true := by decide +kernel
def bts : List Nat → Nat → Nat
  | [], m => m
  | i :: l, m => bts l (m ||| 2 ^ i)
theorem bts_lt : ∀ (l : List Nat) (m : Nat), (∀ i, i ∈ l → i < 7) → m < 128 → bts l m < 128
  | [], m, _, h => h
  | i :: l, m, hl, h => bts_lt l _ (fun j hj => hl j (by simp [hj])) (or_lt m h i (hl i (by simp)))
theorem bts_bit : ∀ (l : List Nat) (m j : Nat), (bts l m).testBit j = true → m.testBit j = true ∨ j ∈ l
  | [], m, j, h => Or.inl h
  | i :: l, m, j, h => by
    rcases bts_bit l _ j h with h1 | h1
    · rw [Nat.testBit_or, Bool.or_eq_true] at h1
      rcases h1 with h1 | h1
      · exact Or.inl h1
      · rw [Nat.testBit_two_pow] at h1
        have : i = j := by simpa using h1
        exact Or.inr (by simp [this])
    · exact Or.inr (by simp [h1])
/-- how many bits from j on, of seven -/
def bc (B : Nat) : Nat → Nat
  | 0 => 0
  | n + 1 => (if B.testBit (6 - n) then 1 else 0) + bc B n
theorem c_bits : ∀ B, B < 128 → J6_bitCount_0f7a4 (nI B) = some (nI (bc B 7)) := by decide +kernel
theorem bc_le (B : Nat) : ∀ n, bc B n ≤ n
  | 0 => Nat.le_refl 0
  | n + 1 => by
    have := bc_le B n
    unfold bc
    split <;> omega
theorem many_l {B : Nat} (hB : B < 128) : ∀ (fuel n acc : Nat), n ≤ 7 → n < fuel → X7_many_l4 fuel (nI B) (nI acc) (nI (7 - n)) = some (nI (acc + bc B n)) := by
  intro fuel
  induction fuel with
  | zero => intro n acc h1 h3; omega
  | succ f ih =>
    intro n acc h1 h3
    show X7_many_b4 _ _ _ _ = _
    cases n with
    | zero => simp (disch := omega) only [X7_many_b4, bc, Nat.sub_zero, Nat.add_zero, pz_l0, pz_l1, pz_l2, pz_l3, pz_l4, pz_l5, pz_l6, pz_l7, pz_l8, pz_l9, pz_l10, pz_l11, pz_l12, pz_l13, pz_l20, pz_l21, pz_l31, pz_l32, pz_l34, pz_l35, pz_l36, pz_l37, pz_l38, pz_l39, pz_l44, pz_l48, pz_l50, pz_l57, pz_l59, pz_l70, pz_l99, pz_l100, pz_l104, pz_l105, pz_l116, pz_l128, pz_l199, pz_l200, pz_l255, pz_l9999, pz_l10000, pz_lt, pz_le, pz_eq, pz_cl, pz_in, pz_add, pz_mul, pz_sub, if_pos, if_neg, ↓reduceIte]
    | succ n =>
      have hb : ((nI B >>> (nI (7 - (n + 1)) &&& nI 31)) &&& nI 1) = nI (if B.testBit (7 - (n + 1)) then 1 else 0) := bit_at B hB (7 - (n + 1)) (by omega)
      have e : 7 - (n + 1) = 6 - n := by omega
      have e2 : 7 - (n + 1) + 1 = 7 - n := by omega
      have f1 := ih n (acc + (if B.testBit (6 - n) then 1 else 0)) (by omega) (by omega)
      simp (disch := omega) only [X7_many_b4, gx_l, hb, pz_l0, pz_l1, pz_l2, pz_l3, pz_l4, pz_l5, pz_l6, pz_l7, pz_l8, pz_l9, pz_l10, pz_l11, pz_l12, pz_l13, pz_l20, pz_l21, pz_l31, pz_l32, pz_l34, pz_l35, pz_l36, pz_l37, pz_l38, pz_l39, pz_l44, pz_l48, pz_l50, pz_l57, pz_l59, pz_l70, pz_l99, pz_l100, pz_l104, pz_l105, pz_l116, pz_l128, pz_l199, pz_l200, pz_l255, pz_l9999, pz_l10000, pz_le, if_neg, pz_add, e2]
      rw [e, f1, bc, Nat.add_assoc]
theorem q_many {B : Nat} (hB : B < 128) : X7_many (nI B) = some (nI (bc B 7)) := by
  have f := many_l hB gx_F 7 0 (by omega) (by rw [gx_F_eq]; omega)
  rw [Nat.zero_add] at f
  exact f
/-- prices of the set's interpreters i, i + 1 .. (n of them) -/
def prc (tr : Nat → Nat) (B : Nat) : Nat → Nat → Nat
  | _, 0 => 0
  | i, n + 1 => (if B.testBit i then tr (5 * i + 4) else 0) + prc tr B (i + 1) n
section BRIBES
variable {M sp he : Nat} {tr hate : Nat → Nat} {ch wd : List Nat} {mo sk hr se spo : Int32} {ts hs seats words told mouths mouth hates seated chain wordsM word : Nat → Int32}
theorem prc_lt (hw : wC M tr sp he hate) (B : Nat) : ∀ n i, i + n ≤ M → prc tr B i n ≤ 99 * n
  | 0, i, _ => by simp [prc]
  | n + 1, i, h => by
    have h1 := prc_lt hw B n (i + 1) (by omega)
    have h2 := (hw.2.2.2.2 i (by omega)).2.2.2.2.2
    unfold prc
    split <;> omega
theorem price_l (h : ZZ M tr sp he hate ch wd mo sk hr ts hs se spo seats words told mouths mouth hates seated chain wordsM word) {B : Nat} (hB : B < 128) : ∀ (fuel n acc : Nat), n ≤ M → n < fuel → X6_priceOf_l4 fuel (nI B) (nI acc) (nI (M - n)) mo ts = some (nI (acc + prc tr B (M - n) n)) := by
  have hM7 := h.2.1.1
  have hmo := h.2.2.1.1
  intro fuel
  induction fuel with
  | zero => intro n acc h1 h3; omega
  | succ f ih =>
    intro n acc h1 h3
    show X6_priceOf_b4 _ _ _ _ _ _ = _
    cases n with
    | zero => simp (disch := omega) only [X6_priceOf_b4, X0_mouths, hmo, gx_b_some, prc, Nat.sub_zero, Nat.add_zero, pz_l0, pz_l1, pz_l2, pz_l3, pz_l4, pz_l5, pz_l6, pz_l7, pz_l8, pz_l9, pz_l10, pz_l11, pz_l12, pz_l13, pz_l20, pz_l21, pz_l31, pz_l32, pz_l34, pz_l35, pz_l36, pz_l37, pz_l38, pz_l39, pz_l44, pz_l48, pz_l50, pz_l57, pz_l59, pz_l70, pz_l99, pz_l100, pz_l104, pz_l105, pz_l116, pz_l128, pz_l199, pz_l200, pz_l255, pz_l9999, pz_l10000, pz_lt, pz_le, pz_eq, pz_cl, pz_in, pz_add, pz_mul, pz_sub, if_pos, if_neg, ↓reduceIte]
    | succ n =>
      have hb : ((nI B >>> (nI (M - (n + 1)) &&& nI 31)) &&& nI 1) = nI (if B.testBit (M - (n + 1)) then 1 else 0) := bit_at B hB (M - (n + 1)) (by omega)
      have e2 : M - (n + 1) + 1 = M - n := by omega
      obtain ⟨t1, t2⟩ := h.trait (i := M - (n + 1)) (w := 4) (by omega) (by omega)
      rw [hmo] at t1
      have e3 : prc tr B (M - (n + 1)) (n + 1) = (if B.testBit (M - (n + 1)) then tr (5 * (M - (n + 1)) + 4) else 0) + prc tr B (M - n) n := by
        rw [prc, e2]
      by_cases hbit : B.testBit (M - (n + 1)) = true
      · have f1 := ih n (acc + tr (5 * (M - (n + 1)) + 4)) (by omega) (by omega)
        rw [hmo] at f1
        rw [if_pos hbit] at hb e3
        rw [e3, ← Nat.add_assoc]
        simp (disch := omega) only [X6_priceOf_b4, X6_priceOf_b35, X0_mouths, hmo, gx_b_some, gx_l, hb, t1, pz_l0, pz_l1, pz_l2, pz_l3, pz_l4, pz_l5, pz_l6, pz_l7, pz_l8, pz_l9, pz_l10, pz_l11, pz_l12, pz_l13, pz_l20, pz_l21, pz_l31, pz_l32, pz_l34, pz_l35, pz_l36, pz_l37, pz_l38, pz_l39, pz_l44, pz_l48, pz_l50, pz_l57, pz_l59, pz_l70, pz_l99, pz_l100, pz_l104, pz_l105, pz_l116, pz_l128, pz_l199, pz_l200, pz_l255, pz_l9999, pz_l10000, pz_lt, pz_le, pz_eq, pz_cl, pz_in, pz_add, pz_mul, pz_sub, if_pos, if_neg, ↓reduceIte, e2, f1]
      · have f1 := ih n acc (by omega) (by omega)
        rw [hmo] at f1
        rw [if_neg hbit] at hb e3
        rw [e3, Nat.zero_add]
        simp (disch := omega) only [X6_priceOf_b4, X6_priceOf_b35, X0_mouths, hmo, gx_b_some, gx_l, hb, pz_l0, pz_l1, pz_l2, pz_l3, pz_l4, pz_l5, pz_l6, pz_l7, pz_l8, pz_l9, pz_l10, pz_l11, pz_l12, pz_l13, pz_l20, pz_l21, pz_l31, pz_l32, pz_l34, pz_l35, pz_l36, pz_l37, pz_l38, pz_l39, pz_l44, pz_l48, pz_l50, pz_l57, pz_l59, pz_l70, pz_l99, pz_l100, pz_l104, pz_l105, pz_l116, pz_l128, pz_l199, pz_l200, pz_l255, pz_l9999, pz_l10000, pz_lt, pz_le, pz_eq, pz_cl, pz_in, pz_add, pz_mul, pz_sub, if_pos, if_neg, ↓reduceIte, e2, f1]
theorem c_price (h : ZZ M tr sp he hate ch wd mo sk hr ts hs se spo seats words told mouths mouth hates seated chain wordsM word) {B : Nat} (hB : B < 128) : X6_priceOf (nI B) mo ts = some (nI (prc tr B 0 M)) := by
  have hM7 := h.2.1.1
  have f := price_l h hB gx_F M 0 (by omega) (by rw [gx_F_eq]; omega)
  rw [Nat.zero_add, Nat.sub_self] at f
  exact f
end BRIBES
