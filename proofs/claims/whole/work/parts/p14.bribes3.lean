section BRIBES3
variable {M sp he : Nat} {tr hate : Nat → Nat} {ch wd : List Nat} {mo sk hr se spo : Int32} {ts hs seats words told mouths mouth hates seated chain wordsM word : Nat → Int32}
theorem prc_zero {B : Nat} (hb : ∀ i, i < 7 → B.testBit i = true → i < M) : ∀ n i, M ≤ i → i + n ≤ 7 → prc tr B i n = 0
  | 0, i, _, _ => rfl
  | n + 1, i, h1, h2 => by
    have hn : ¬ B.testBit i = true := fun h => by have := hb i (by omega) h; omega
    rw [prc, if_neg hn, prc_zero hb n (i + 1) (by omega) (by omega)]
theorem prc_cut {B : Nat} (hb : ∀ i, i < 7 → B.testBit i = true → i < M) (hM7 : M ≤ 7) : ∀ n i, i + n = M → prc tr B i (n + (7 - M)) = prc tr B i n
  | 0, i, h => by rw [Nat.zero_add, prc_zero hb _ i (by omega) (by omega)]; rfl
  | n + 1, i, h => by
    rw [show n + 1 + (7 - M) = (n + (7 - M)) + 1 by omega, prc, prc, prc_cut hb hM7 n (i + 1) (by omega)]
theorem price79_l (h : ZZ M tr sp he hate ch wd mo sk hr ts hs se spo seats words told mouths mouth hates seated chain wordsM word) (K : Int32 → Int32 → Int32 → Int32 → Int32 → Int32 → (Nat → Int32) → (Nat → Int32) → (Nat → Int32) → Option (Int32 × Int32 × Int32)) (x1 x2 b1 b2 : Int32) {B : Nat} (hB : B < 128) (hb : ∀ i, i < 7 → B.testBit i = true → i < M) : ∀ (fuel n acc : Nat), n ≤ 7 → n < fuel → X7_bribes_l79 K fuel x1 x2 (nI B) (nI acc) (nI (7 - n)) b1 b2 mouth seated chain = K x1 x2 (nI B) (nI (acc + prc tr B (7 - n) n)) b1 b2 mouth seated chain := by
  intro fuel
  induction fuel with
  | zero => intro n acc h1 h3; omega
  | succ f ih =>
    intro n acc h1 h3
    show X7_bribes_b79 _ _ _ _ _ _ _ _ _ _ _ _ = _
    cases n with
    | zero => simp (disch := omega) only [X7_bribes_b79, prc, Nat.sub_zero, Nat.add_zero, pz_l0, pz_l1, pz_l2, pz_l3, pz_l4, pz_l5, pz_l6, pz_l7, pz_l8, pz_l9, pz_l10, pz_l11, pz_l12, pz_l13, pz_l20, pz_l21, pz_l31, pz_l32, pz_l34, pz_l35, pz_l36, pz_l37, pz_l38, pz_l39, pz_l44, pz_l48, pz_l50, pz_l57, pz_l59, pz_l70, pz_l99, pz_l100, pz_l104, pz_l105, pz_l116, pz_l128, pz_l199, pz_l200, pz_l255, pz_l9999, pz_l10000, pz_lt, pz_le, pz_eq, pz_cl, pz_in, pz_add, pz_mul, pz_sub, if_pos, if_neg, ↓reduceIte]
    | succ n =>
      have hbt : ((nI B >>> (nI (7 - (n + 1)) &&& nI 31)) &&& nI 1) = nI (if B.testBit (7 - (n + 1)) then 1 else 0) := bit_at B hB (7 - (n + 1)) (by omega)
      have e2 : 7 - (n + 1) + 1 = 7 - n := by omega
      have e3 : prc tr B (7 - (n + 1)) (n + 1) = (if B.testBit (7 - (n + 1)) then tr (5 * (7 - (n + 1)) + 4) else 0) + prc tr B (7 - n) n := by
        rw [prc, e2]
      by_cases hbit : B.testBit (7 - (n + 1)) = true
      · have hi := hb _ (by omega) hbit
        obtain ⟨t1, t2⟩ := h.trait (i := 7 - (n + 1)) (w := 4) hi (by omega)
        have f1 := ih n (acc + tr (5 * (7 - (n + 1)) + 4)) (by omega) (by omega)
        rw [if_pos hbit] at hbt e3
        rw [e3, ← Nat.add_assoc]
        simp (disch := omega) only [X7_bribes_b79, gx_l, hbt, t2, pz_l0, pz_l1, pz_l2, pz_l3, pz_l4, pz_l5, pz_l6, pz_l7, pz_l8, pz_l9, pz_l10, pz_l11, pz_l12, pz_l13, pz_l20, pz_l21, pz_l31, pz_l32, pz_l34, pz_l35, pz_l36, pz_l37, pz_l38, pz_l39, pz_l44, pz_l48, pz_l50, pz_l57, pz_l59, pz_l70, pz_l99, pz_l100, pz_l104, pz_l105, pz_l116, pz_l128, pz_l199, pz_l200, pz_l255, pz_l9999, pz_l10000, pz_lt, pz_le, pz_eq, pz_cl, pz_in, pz_add, pz_mul, pz_sub, if_pos, if_neg, ↓reduceIte, e2, Nat.one_mul, f1]
      · have f1 := ih n acc (by omega) (by omega)
        rw [if_neg hbit] at hbt e3
        rw [e3, Nat.zero_add]
        have zm : ∀ x : Int32, nI 0 * x = nI 0 := fun x => Int32.zero_mul
        simp (disch := omega) only [X7_bribes_b79, gx_l, hbt, zm, pz_l0, pz_l1, pz_l2, pz_l3, pz_l4, pz_l5, pz_l6, pz_l7, pz_l8, pz_l9, pz_l10, pz_l11, pz_l12, pz_l13, pz_l20, pz_l21, pz_l31, pz_l32, pz_l34, pz_l35, pz_l36, pz_l37, pz_l38, pz_l39, pz_l44, pz_l48, pz_l50, pz_l57, pz_l59, pz_l70, pz_l99, pz_l100, pz_l104, pz_l105, pz_l116, pz_l128, pz_l199, pz_l200, pz_l255, pz_l9999, pz_l10000, pz_lt, pz_le, pz_eq, pz_cl, pz_in, pz_add, pz_mul, pz_sub, if_pos, if_neg, ↓reduceIte, e2, Nat.add_zero, f1]
end BRIBES3
