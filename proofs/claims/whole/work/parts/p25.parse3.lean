/-! ===== what an item tells ===== -/
def DR (M : Nat) (tr : Nat → Nat) (sp he : Nat) (hate : Nat → Nat) (mo sk_ hr : Int32) (ts hs told mouths mouth hates : Nat → Int32) : Prop := wC M tr sp he hate ∧ pC M tr sp he hate mo sk_ hr ts hs ∧ qC 1 M tr sp he hate told mouths mouth hates
/-- what is laid stays -/
def FRq (told mouths mouth hates told' mouths' mouth' hates' : Nat → Int32) : Prop := (∀ j, j < 2 → told' j = told j) ∧ mouths' 0 = mouths 0 ∧ (∀ j, j < 35 → mouth' j = mouth j) ∧ ∀ j, j < 7 → hates' j = hates j
theorem FRq.rf (told mouths mouth hates : Nat → Int32) : FRq told mouths mouth hates told mouths mouth hates := ⟨fun _ _ => rfl, rfl, fun _ _ => rfl, fun _ _ => rfl⟩
theorem FRq.tr {a1 a2 a3 a4 b1 b2 b3 b4 c1 c2 c3 c4 : Nat → Int32} (h : FRq a1 a2 a3 a4 b1 b2 b3 b4) (g : FRq b1 b2 b3 b4 c1 c2 c3 c4) : FRq a1 a2 a3 a4 c1 c2 c3 c4 :=
  ⟨fun j hj => (g.1 j hj).trans (h.1 j hj), g.2.1.trans h.2.1, fun j hj => (g.2.2.1 j hj).trans (h.2.2.1 j hj), fun j hj => (g.2.2.2 j hj).trans (h.2.2.2 j hj)⟩
theorem q_inN {a : Nat} (N : Nat) (ha : a < 2147483648) (hN : N < 2147483648) {x : Int64} (hx : x = (nI N).toInt64) : X7_in ((nI a).toInt64) (0 : Int64) x = some (if a ≤ N then 1 else 0) := by
  have e : X7_in ((nI a).toInt64) (0 : Int64) ((nI N).toInt64) = _ := q_in (nI a) 0 (nI N)
  rw [hx, e, if_neg (nI_pos ha)]
  by_cases h : a ≤ N
  · rw [if_pos h, if_neg (by rw [pz_lt hN ha]; omega)]
  · rw [if_neg h, if_pos (by rw [pz_lt hN ha]; omega)]
theorem c_tong {a : Nat} (ha : a < 2147483648) : X0_isTongue (nI a) = some (if a ≤ 8 then 1 else 0) := by
  unfold X0_isTongue
  rw [if_neg (nI_pos ha)]
  by_cases h : a ≤ 8
  · rw [if_pos h, if_neg (by rw [pz_l9, pz_le (by omega) ha]; omega)]
  · rw [if_neg h, if_pos (by rw [pz_l9, pz_le (by omega) ha]; omega)]
theorem c_hasN {a M : Nat} (ha : a < 2147483648) (hM : M ≤ 7) : X0_has (nI a) (nI M) = some (if a < M then 1 else 0) := by
  rw [c_has, if_neg (nI_pos ha)]
  by_cases h : a < M
  · rw [if_pos h, if_neg (by rw [pz_le (by omega) ha]; omega), if_neg (by rw [pz_l7, pz_le (by omega) ha]; omega)]
  · rw [if_neg h, if_pos (by rw [pz_le (by omega) ha]; omega)]
section ENTER
variable {M sp he : Nat} {tr hate : Nat → Nat} {mo sk_ hr : Int32} {ts hs told mouths mouth hates : Nat → Int32}
theorem z_tell (hD : DR M tr sp he hate mo sk_ hr ts hs told mouths mouth hates) {a b : Nat} (ha : a < 100) (hb : b < 100) {nums got : Nat → Int32} (n0 : nums 0 = nI a) (n1 : nums 1 = nI b) (g0 : got 0 = nI a) (g1 : got 1 = nI b) :
    (∃ told', X3_enter 116 nums mo sk_ hr ts hs = some (0, mo, sk_, hr, ts, hs) ∧ X7_isGood 116 told mouths mouth hates got = some (0, told', mouths, mouth, hates) ∧ FRq told mouths mouth hates told' mouths mouth hates) ∨ ∃ told', X3_enter 116 nums mo sk_ hr ts hs = some (1, mo, nI a, nI b, ts, hs) ∧ X7_isGood 116 told mouths mouth hates got = some (1, told', mouths, mouth, hates) ∧ FRq told mouths mouth hates told' mouths mouth hates ∧ DR M tr a b hate mo (nI a) (nI b) ts hs told' mouths mouth hates := by
  obtain ⟨hw, hp, hq⟩ := hD
  have n0' : nums (0 : Int32).toNatClampNeg = nI a := n0
  have n1' : nums (1 : Int32).toNatClampNeg = nI b := n1
  have g0' : got (0 : Int32).toNatClampNeg = nI a := g0
  have g1' : got (1 : Int32).toNatClampNeg = nI b := g1
  have c2 : (2 : Int32).toNatClampNeg = 2 := rfl
  have c3 : (3 : Int32).toNatClampNeg = 3 := rfl
  have ec : X3_enter 116 nums mo sk_ hr ts hs = if a ≤ 8 ∧ b ≤ 8 then some (1, mo, nI a, nI b, ts, hs) else some (0, mo, sk_, hr, ts, hs) := by
    unfold X3_enter X0_speakAndHear
    rw [if_neg (show ¬ (116 : Int32) = 104 by decide), if_neg (show ¬ (116 : Int32) = 105 by decide), if_pos rfl, if_pos (show gx_in (0 : Int32) 5 by decide), if_pos (show gx_in (1 : Int32) 5 by decide), n0', n1', c_tong (by omega), c_tong (by omega), gx_b_some]
    by_cases h1 : a ≤ 8
    · rw [if_pos h1, if_neg (show ¬ (1 : Int32) = 0 by decide), gx_b_some]
      by_cases h2 : b ≤ 8
      · rw [if_pos h2, if_neg (show ¬ (1 : Int32) = 0 by decide), gx_b3_some, if_pos (by decide), if_pos ⟨h1, h2⟩]
      · rw [if_neg h2, if_pos rfl, gx_b3_some, if_pos (by decide), if_neg (fun h => h2 h.2)]
    · rw [if_neg h1, if_pos rfl, gx_b3_some, if_pos (by decide), if_neg (fun h => h1 h.1)]
  have eq : X7_isGood 116 told mouths mouth hates got = if a ≤ 8 ∧ b ≤ 8 then some (1, upd (upd told 2 (nI a)) 3 (nI b), mouths, mouth, hates) else some (0, upd (upd told 2 (nI a)) 3 (nI b), mouths, mouth, hates) := by
    unfold X7_isGood
    rw [if_pos rfl, if_pos (show gx_in (0 : Int32) 5 by decide), if_pos (show gx_in (2 : Int32) 4 by decide), if_pos (show gx_in (1 : Int32) 5 by decide), if_pos (show gx_in (3 : Int32) 4 by decide), if_pos (show gx_in (0 : Int32) 5 by decide), g0', g1', c2, c3, q_inN (a := a) (x := 8) 8 (by omega) (by omega) rfl, q_inN (a := b) (x := 8) 8 (by omega) (by omega) rfl, gx_b_some]
    by_cases h1 : a ≤ 8
    · rw [if_pos h1, if_neg (show ¬ (1 : Int32) = 0 by decide), if_pos (show gx_in (1 : Int32) 5 by decide), gx_b_some]
      by_cases h2 : b ≤ 8
      · rw [if_pos h2, if_neg (show ¬ (1 : Int32) = 0 by decide), if_pos ⟨h1, h2⟩]
      · rw [if_neg h2, if_pos rfl, if_neg (fun h => h2 h.2)]
    · rw [if_neg h1, if_pos rfl, if_neg (fun h => h1 h.1)]
  have fr : FRq told mouths mouth hates (upd (upd told 2 (nI a)) 3 (nI b)) mouths mouth hates := ⟨fun j hj => by rw [pz_upd_n _ _ (by omega), pz_upd_n _ _ (by omega)], rfl, fun _ _ => rfl, fun _ _ => rfl⟩
  by_cases h : a ≤ 8 ∧ b ≤ 8
  · refine Or.inr ⟨_, by rw [ec, if_pos h], by rw [eq, if_pos h], fr, ⟨hw.1, by omega, by omega, hw.2.2.2.1, hw.2.2.2.2⟩, ⟨hp.1, rfl, rfl, hp.2.2.2.1, hp.2.2.2.2⟩, ⟨hq.1, ?_, ?_, hq.2.2.2.1, hq.2.2.2.2⟩⟩
    · show upd (upd told 2 (nI a)) 3 (nI b) 2 = _
      rw [pz_upd_n _ _ (by omega), pz_upd_s]
    · show upd (upd told 2 (nI a)) 3 (nI b) 3 = _
      rw [pz_upd_s]
  · exact Or.inl ⟨_, by rw [ec, if_neg h], by rw [eq, if_neg h], fr⟩
theorem or_at2 {a i : Nat} (ha : a < 128) (hi : i < 7) : (nI a ||| ((1 : Int32) <<< (nI i &&& 31))) = nI (a ||| 2 ^ i) := or_at a ha i hi
theorem z_hate (hD : DR M tr sp he hate mo sk_ hr ts hs told mouths mouth hates) {a b : Nat} (ha : a < 100) (hb : b < 100) {nums got : Nat → Int32} (n0 : nums 0 = nI a) (n1 : nums 1 = nI b) (g0 : got 0 = nI a) (g1 : got 1 = nI b) :
    (X3_enter 104 nums mo sk_ hr ts hs = some (0, mo, sk_, hr, ts, hs) ∧ X7_isGood 104 told mouths mouth hates got = some (0, told, mouths, mouth, hates)) ∨ ∃ hate' hs' hates', X3_enter 104 nums mo sk_ hr ts hs = some (1, mo, sk_, hr, ts, hs') ∧ X7_isGood 104 told mouths mouth hates got = some (1, told, mouths, mouth, hates') ∧ FRq told mouths mouth hates told mouths mouth hates' ∧ DR M tr sp he hate' mo sk_ hr ts hs' told mouths mouth hates' := by
  obtain ⟨hw, hp, hq⟩ := hD
  have hM7 := hw.1
  have n0' : nums (0 : Int32).toNatClampNeg = nI a := n0
  have n1' : nums (1 : Int32).toNatClampNeg = nI b := n1
  have g0' : got (0 : Int32).toNatClampNeg = nI a := g0
  have g1' : got (1 : Int32).toNatClampNeg = nI b := g1
  have q1' : mouths (1 : Int32).toNatClampNeg = nI M := hq.1
  have hin : ∀ x : Nat, x < 100 → X7_in ((nI x).toInt64) (0 : Int64) ((nI M - 1).toInt64) = some (if x < M then 1 else 0) := fun x hx => by
    by_cases hM : M = 0
    · subst hM
      have e : X7_in ((nI x).toInt64) (0 : Int64) ((nI 0 - 1).toInt64) = _ := q_in (nI x) 0 (nI 0 - 1)
      rw [e, if_neg (nI_pos (by omega)), if_pos (by
        rw [Int32.lt_iff_toInt_lt, pz_ti (by omega), show (nI 0 - 1 : Int32).toInt = -1 by decide]; omega), if_neg (by omega)]
    · rw [pz_pred (by omega), q_inN (M - 1) (by omega) (by omega) rfl]
      by_cases h : x < M
      · rw [if_pos h, if_pos (by omega)]
      · rw [if_neg h, if_neg (by omega)]
  by_cases h : a < M ∧ b < M ∧ a ≠ b
  · obtain ⟨h1, h2, h3⟩ := h
    have ha7 : a < 7 := by omega
    have hb7 : b < 7 := by omega
    have wa := hw.2.2.2.1 a ha7
    have wb := hw.2.2.2.1 b hb7
    have pa := hp.2.2.2.2 a ha7
    have pb := hp.2.2.2.2 b hb7
    have qa := hq.2.2.2.2 a ha7
    have qb := hq.2.2.2.2 b hb7
    rw [Nat.mul_one] at qa qb
    have x7a : (7 : Int32) + nI a = nI (7 + a) := by rw [pz_l7, pz_add]
    have x7b : (7 : Int32) + nI b = nI (7 + b) := by rw [pz_l7, pz_add]
    have hgb : ∀ i, i < 7 → (if i = b then hate b ||| 2 ^ a else if i = a then hate a ||| 2 ^ b else hate i) < 128 := fun i hi => by
      split
      · exact or_lt _ wb _ ha7
      · split
        · exact or_lt _ wa _ hb7
        · exact hw.2.2.2.1 i hi
    refine Or.inr ⟨fun i => if i = b then hate b ||| 2 ^ a else if i = a then hate a ||| 2 ^ b else hate i, upd (upd hs a (nI (hate a ||| 2 ^ b))) b (nI (hate b ||| 2 ^ a)), upd (upd hates (7 + a) (nI (hate a ||| 2 ^ b))) (7 + b) (nI (hate b ||| 2 ^ a)), ?_, ?_, ?_, ⟨hw.1, hw.2.1, hw.2.2.1, hgb, hw.2.2.2.2⟩, ⟨hp.1, hp.2.1, hp.2.2.1, hp.2.2.2.1, ?_⟩, ⟨hq.1, hq.2.1, hq.2.2.1, hq.2.2.2.1, ?_⟩⟩
    · unfold X3_enter X0_setAtOdds
      rw [if_pos rfl, if_pos (show gx_in (0 : Int32) 5 by decide), if_pos (show gx_in (1 : Int32) 5 by decide), n0', n1', hp.1, c_hasN (by omega) hM7, c_hasN (by omega) hM7, gx_b_some, if_pos h1, if_neg (show ¬ (1 : Int32) = 0 by decide), gx_b_some, if_pos h2, if_neg (show ¬ (1 : Int32) = 0 by decide), if_neg (by rw [pz_eq (by omega) (by omega)]; exact h3), if_pos (by rw [pz_in (by omega)]; omega), if_pos (by rw [pz_in (by omega)]; omega), if_pos (by rw [pz_in (by omega)]; omega), if_pos (by rw [pz_in (by omega)]; omega), gx_b2_some, if_pos (by decide), pz_cl (by omega), pz_cl (by omega), pa, pz_upd_n _ _ (fun e => h3 e.symm), pb, or_at2 wa hb7, or_at2 wb ha7]
    · unfold X7_isGood
      rw [if_neg (show ¬ (104 : Int32) = 116 by decide), if_pos rfl, if_pos (show gx_in (0 : Int32) 5 by decide), if_pos (show gx_in (1 : Int32) 2 by decide), g0', g1', q1', hin a ha, hin b hb, gx_b_some, if_pos h1, if_neg (show ¬ (1 : Int32) = 0 by decide), if_pos (show gx_in (1 : Int32) 5 by decide), if_pos (show gx_in (1 : Int32) 2 by decide), gx_b_some, if_pos h2, if_neg (show ¬ (1 : Int32) = 0 by decide), if_pos (show gx_in (0 : Int32) 5 by decide), if_pos (show gx_in (1 : Int32) 5 by decide), if_neg (by rw [pz_eq (by omega) (by omega)]; exact h3), if_pos (show gx_in (0 : Int32) 5 by decide), x7a, x7b, if_pos (show gx_in (nI (7 + a)) 14 by rw [pz_in (by omega)]; omega), if_pos (show gx_in (1 : Int32) 5 by decide), if_pos (show gx_in (nI (7 + a)) 14 by rw [pz_in (by omega)]; omega), if_pos (show gx_in (1 : Int32) 5 by decide), if_pos (show gx_in (nI (7 + b)) 14 by rw [pz_in (by omega)]; omega), if_pos (show gx_in (0 : Int32) 5 by decide), if_pos (show gx_in (nI (7 + b)) 14 by rw [pz_in (by omega)]; omega), pz_cl (by omega), pz_cl (by omega), qa, pz_upd_n _ _ (by omega), qb, or_at2 wa hb7, or_at2 wb ha7]
    · exact ⟨fun _ _ => rfl, rfl, fun _ _ => rfl, fun j hj => by rw [pz_upd_n _ _ (by omega), pz_upd_n _ _ (by omega)]⟩
    · intro i hi
      show _ = nI (if i = b then hate b ||| 2 ^ a else if i = a then hate a ||| 2 ^ b else hate i)
      by_cases e1 : i = b
      · subst e1; rw [pz_upd_s, if_pos rfl]
      · rw [pz_upd_n _ _ e1, if_neg e1]
        by_cases e2 : i = a
        · subst e2; rw [pz_upd_s, if_pos rfl]
        · rw [pz_upd_n _ _ e2, if_neg e2]; exact hp.2.2.2.2 i hi
    · intro i hi
      show _ = nI (if i = b then hate b ||| 2 ^ a else if i = a then hate a ||| 2 ^ b else hate i)
      rw [Nat.mul_one]
      by_cases e1 : i = b
      · subst e1; rw [pz_upd_s, if_pos rfl]
      · rw [pz_upd_n _ _ (by omega), if_neg e1]
        by_cases e2 : i = a
        · subst e2; rw [pz_upd_s, if_pos rfl]
        · rw [pz_upd_n _ _ (by omega), if_neg e2]
          have := hq.2.2.2.2 i hi
          rwa [Nat.mul_one] at this
  · refine Or.inl ⟨?_, ?_⟩
    · unfold X3_enter X0_setAtOdds
      rw [if_pos rfl, if_pos (show gx_in (0 : Int32) 5 by decide), if_pos (show gx_in (1 : Int32) 5 by decide), n0', n1', hp.1, c_hasN (by omega) hM7, c_hasN (by omega) hM7, gx_b_some]
      by_cases h1 : a < M
      · rw [if_pos h1, if_neg (show ¬ (1 : Int32) = 0 by decide), gx_b_some]
        by_cases h2 : b < M
        · rw [if_pos h2, if_neg (show ¬ (1 : Int32) = 0 by decide), if_pos (by rw [pz_eq (by omega) (by omega)]; omega), gx_b2_some, if_pos (by decide)]
        · rw [if_neg h2, if_pos rfl, gx_b2_some, if_pos (by decide)]
      · rw [if_neg h1, if_pos rfl, gx_b2_some, if_pos (by decide)]
    · unfold X7_isGood
      rw [if_neg (show ¬ (104 : Int32) = 116 by decide), if_pos rfl, if_pos (show gx_in (0 : Int32) 5 by decide), if_pos (show gx_in (1 : Int32) 2 by decide), g0', g1', q1', hin a ha, hin b hb, gx_b_some]
      by_cases h1 : a < M
      · rw [if_pos h1, if_neg (show ¬ (1 : Int32) = 0 by decide), if_pos (show gx_in (1 : Int32) 5 by decide), if_pos (show gx_in (1 : Int32) 2 by decide), gx_b_some]
        by_cases h2 : b < M
        · rw [if_pos h2, if_neg (show ¬ (1 : Int32) = 0 by decide), if_pos (show gx_in (0 : Int32) 5 by decide), if_pos (show gx_in (1 : Int32) 5 by decide), if_pos (by rw [pz_eq (by omega) (by omega)]; omega)]
        · rw [if_neg h2, if_pos rfl]
      · rw [if_neg h1, if_pos rfl]
end ENTER
