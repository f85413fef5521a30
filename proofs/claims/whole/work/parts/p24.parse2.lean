section PARSE2
variable {n : Nat} {t : Nat → Nat} {b tx : Nat → Int32}
/-- what stands behind a number: its sign and m numbers more -/
def rsq (n : Nat) (t : Nat → Nat) (m p : Nat) : Option (List Nat × Nat) := if p < n ∧ t p = (if m = 0 then 59 else 44) then psq n t m (p + 1) else none
theorem rsq_0 {p : Nat} (h : p < n) (h2 : t p = 59) : rsq n t 0 p = psq n t 0 (p + 1) := if_pos ⟨h, by rw [if_pos rfl]; exact h2⟩
theorem rsq_s {m p : Nat} (h : p < n) (h2 : t p = 44) : rsq n t (m + 1) p = psq n t (m + 1) (p + 1) := if_pos ⟨h, by rw [if_neg (by omega)]; exact h2⟩
theorem rsq_0n {p : Nat} (h : ¬ (p < n ∧ t p = 59)) : rsq n t 0 p = none := if_neg (fun q => h (by rw [if_pos rfl] at q; exact q))
theorem rsq_sn {m p : Nat} (h : ¬ (p < n ∧ t p = 44)) : rsq n t (m + 1) p = none := if_neg (fun q => h (by rw [if_neg (by omega)] at q; exact q))
theorem psq_s (m p : Nat) : psq n t (m + 1) p = (num n t p).bind (fun w => (rsq n t m w.2).map (fun z => (w.1 :: z.1, z.2))) := by
  rw [psq]
  cases h1 : num n t p with
  | none => rfl
  | some w =>
    obtain ⟨v, p'⟩ := w
    simp only [Option.bind_some, rsq]
    by_cases h2 : p' < n ∧ t p' = (if m = 0 then 59 else 44)
    · rw [if_pos h2, if_pos h2]
      cases h3 : psq n t m (p' + 1) with
      | none => rfl
      | some z => rfl
    · rw [if_neg h2, if_neg h2]; rfl
theorem cnum (hp : pT n t (nI n) b) {p : Nat} (hpn : p ≤ n) : (fg n t p = false ∧ num n t p = none ∧ X3_figuresAt (nI p) (nI n) b = some 0) ∨ ∃ k v, 1 ≤ k ∧ k ≤ 2 ∧ v < 100 ∧ p + k ≤ n ∧ X3_figuresAt (nI p) (nI n) b = some (nI k) ∧ X3_numberOf (nI p) (nI k) (nI n) b = some (nI v) ∧ ((num n t p = some (v, p + k)) ∨ (num n t p = none ∧ p + k < n ∧ 48 ≤ t (p + k) ∧ t (p + k) ≤ 57)) := by
  have hn := hp.1
  have hf := c_figs hp p (by omega)
  by_cases h1 : fg n t p = true
  · have g1 := fg_iff.mp h1
    rw [if_pos h1] at hf
    refine Or.inr ?_
    by_cases h2 : fg n t (p + 1) = true
    · have g2 := fg_iff.mp h2
      rw [if_pos h2] at hf
      refine ⟨2, 10 * (t p - 48) + (t (p + 1) - 48), by omega, by omega, by omega, by omega, hf, c_num2 hp p h1 h2, ?_⟩
      unfold num
      rw [if_pos h1, if_pos h2]
      by_cases h3 : fg n t (p + 2) = true
      · rw [if_pos h3]
        exact Or.inr ⟨rfl, fg_iff.mp h3⟩
      · rw [if_neg h3]
        exact Or.inl rfl
    · rw [if_neg h2] at hf
      refine ⟨1, t p - 48, by omega, by omega, by omega, by omega, hf, c_num1 hp p h1, Or.inl ?_⟩
      unfold num
      rw [if_pos h1, if_neg h2]
  · rw [if_neg h1] at hf
    refine Or.inl ⟨by simpa using h1, ?_, hf⟩
    unfold num
    rw [if_neg h1]
theorem citem_l (hp : pT n t (nI n) b) (K : Int32 → Int32 → Int32 → (Nat → Int32) → (Nat → Int32) → Int32 → Int32 → Int32 → (Nat → Int32) → (Nat → Int32) → Option (Int32 × (Nat → Int32) × Int32 × Int32 × Int32 × (Nat → Int32) × (Nat → Int32))) (x3 c1 c2 c3 : Int32) (c4 c5 : Nat → Int32) : ∀ (m fuel k p : Nat) (nums : Nat → Int32), k + m ≤ 5 → m < fuel → p ≤ n → (psq n t m p = none ∧ ∃ nums', X3_readItem_l27 K fuel x3 (nI (k + m)) (nI p) (nI k) (nI n) b nums c1 c2 c3 c4 c5 = some (-1, nums', c1, c2, c3, c4, c5)) ∨ ∃ l q nums', psq n t m p = some (l, q) ∧ l.length = m ∧ (∀ v, v ∈ l → v < 100) ∧ p ≤ q ∧ q ≤ n ∧ (∀ j, j < k → nums' j = nums j) ∧ (∀ j, j < m → nums' (k + j) = nI (l.getD j 0)) ∧ X3_readItem_l27 K fuel x3 (nI (k + m)) (nI p) (nI k) (nI n) b nums c1 c2 c3 c4 c5 = K x3 (nI q) (nI n) b nums' c1 c2 c3 c4 c5 := by
  have hn := hp.1
  intro m
  induction m with
  | zero =>
    intro fuel k p nums h1 h2 h3
    obtain ⟨f, rfl⟩ : ∃ f, fuel = f + 1 := ⟨fuel - 1, by omega⟩
    refine Or.inr ⟨[], p, nums, rfl, rfl, by simp, by omega, h3, fun _ _ => rfl, fun j hj => by omega, ?_⟩
    show X3_readItem_b27 _ _ _ _ _ _ _ _ _ _ _ _ _ _ = _
    unfold X3_readItem_b27
    rw [if_pos (by rw [pz_le (by omega) (by omega)]; omega)]
  | succ m ih =>
    intro fuel k p nums h1 h2 h3
    obtain ⟨f, rfl⟩ : ∃ f, fuel = f + 1 := ⟨fuel - 1, by omega⟩
    have unf : X3_readItem_l27 K (f + 1) x3 (nI (k + (m + 1))) (nI p) (nI k) (nI n) b nums c1 c2 c3 c4 c5 = X3_readItem_b27 (X3_readItem_l27 K f) K x3 (nI (k + (m + 1))) (nI p) (nI k) (nI n) b nums c1 c2 c3 c4 c5 := rfl
    rw [unf, psq_s]
    unfold X3_readItem_b27
    rw [if_neg (by rw [pz_le (by omega) (by omega)]; omega), if_neg (by rw [pz_l5, pz_le (by omega) (by omega)]; omega)]
    rcases cnum hp h3 with ⟨-, e1, e2⟩ | ⟨kk, v, hk1, hk2, hv, hpk, e1, e2, e3⟩
    · rw [e1, e2, gx_b_some, if_pos rfl]
      exact Or.inl ⟨rfl, nums, rfl⟩
    · rw [e1, gx_b_some, if_neg (nI_ne0 (by omega) (by omega)), e2, gx_b_some, if_pos (by rw [pz_in (by omega)]; omega), pz_add, nI_1]
      rw [gl_eq]
      rw [c_byte hp _ (by omega), gx_b_some, pz_cl (by omega), ite_le (by omega) (by omega)]
      have es : (if k + (m + 1) ≤ k + 1 then X3_readItem_b99 (X3_readItem_l27 K f) K x3 (nI (k + (m + 1))) (nI (p + kk)) (nI k) (59 : Int32) (if p + kk < n then nI (t (p + kk)) else -1) (nI n) b (upd nums k (nI v)) c1 c2 c3 c4 c5 else X3_readItem_b99 (X3_readItem_l27 K f) K x3 (nI (k + (m + 1))) (nI (p + kk)) (nI k) (44 : Int32) (if p + kk < n then nI (t (p + kk)) else -1) (nI n) b (upd nums k (nI v)) c1 c2 c3 c4 c5) = X3_readItem_b99 (X3_readItem_l27 K f) K x3 (nI (k + (m + 1))) (nI (p + kk)) (nI k) (nI (if m = 0 then 59 else 44)) (if p + kk < n then nI (t (p + kk)) else -1) (nI n) b (upd nums k (nI v)) c1 c2 c3 c4 c5 := by
        by_cases hm : m = 0
        · rw [if_pos (by omega), if_pos hm]; rfl
        · rw [if_neg (by omega), if_neg hm]; rfl
      rw [es]
      unfold X3_readItem_b99
      have h59 : (if m = 0 then 59 else 44) < 100 := by split <;> omega
      by_cases hsg : p + kk < n ∧ t (p + kk) = (if m = 0 then 59 else 44)
      · have hb2 := (hp.2.2 (p + kk) hsg.1).1
        rcases e3 with e3 | ⟨-, -, e4, e5⟩
        · rw [if_pos (by rw [if_pos hsg.1, hsg.2]), nI_1, nI_1, e3]
          simp only [Option.bind_some]
          unfold rsq
          rw [if_pos hsg]
          have step := ih f (k + 1) (p + kk + 1) (upd nums k (nI v)) (by omega) (by omega) (by omega)
          rw [show k + 1 + m = k + (m + 1) by omega] at step
          rcases step with ⟨s1, nums', s2⟩ | ⟨l, q, nums', s1, s2, s3, s4, s5, s6, s7, s8⟩
          · rw [s1]
            exact Or.inl ⟨rfl, nums', s2⟩
          · rw [s1]
            refine Or.inr ⟨v :: l, q, nums', rfl, by simp [s2], ?_, by omega, s5, fun j hj => ?_, fun j hj => ?_, s8⟩
            · intro w hw
              rcases List.mem_cons.mp hw with h | h
              · omega
              · exact s3 w h
            · rw [s6 j (by omega), pz_upd_n _ _ (by omega)]
            · cases j with
              | zero => rw [Nat.add_zero, s6 k (by omega), pz_upd_s]; rfl
              | succ j =>
                have := s7 j (by omega)
                rw [show k + (j + 1) = k + 1 + j by omega, this]; rfl
        · exfalso
          have := hsg.2
          split at this <;> omega
      · have hne : ¬ (if p + kk < n then nI (t (p + kk)) else -1) = nI (if m = 0 then 59 else 44) := by
          by_cases h5 : p + kk < n
          · have hb2 := (hp.2.2 (p + kk) h5).1
            rw [if_pos h5, pz_eq (by omega) (by omega)]
            exact fun e => hsg ⟨h5, e⟩
          · rw [if_neg h5]
            by_cases hm : m = 0
            · rw [if_pos hm]; decide
            · rw [if_neg hm]; decide
        rw [if_neg hne]
        refine Or.inl ⟨?_, _, rfl⟩
        rcases e3 with e3 | ⟨e3, -⟩
        · rw [e3]
          simp only [Option.bind_some]
          unfold rsq
          rw [if_neg hsg]; rfl
        · rw [e3]; rfl
/-- the reference: an item that has failed -/
theorem qfail (L N k at_ : Int32) (told mouths mouth hates got : Nat → Int32) (f : Nat) (len : Int32) : X7_isItem_l61 X7_isItem_b167 (f + 1) L N 0 k len at_ tx told mouths mouth hates got = some (0, at_ + 1, told, mouths, mouth, hates, got) := by
  have hb : X7_isItem_b167 L 0 len at_ tx told mouths mouth hates got = some (0, at_ + 1, told, mouths, mouth, hates, got) := by
    unfold X7_isItem_b167 X7_isItem_b200 X7_isItem_b201
    rw [if_pos rfl, if_pos rfl]
  show X7_isItem_b61 _ _ _ _ _ _ _ _ _ _ _ _ _ _ = _
  unfold X7_isItem_b61
  rw [hb, if_pos rfl]
  split <;> rfl
theorem qnum (hp : pT n t (nI n) b) (hq : qT n t (nI n) tx) (L at_ : Int32) (N k p : Nat) (hk : k < 5) (hpn : p ≤ n) (s0 s1 : Int32) (hs : s1 + s0 = nI p) (told mouths mouth hates got : Nat → Int32) (f : Nat) : (num n t p = none ∧ ∃ (a' : Int32) (got' : Nat → Int32), X7_isItem_b122 (X7_isItem_l61 X7_isItem_b167 (f + 1)) X7_isItem_b167 L (nI N) 1 (nI k) s0 s1 (nI n) at_ tx told mouths mouth hates got = some (0, a', told, mouths, mouth, hates, got')) ∨ ∃ v p', num n t p = some (v, p') ∧ v < 100 ∧ p < p' ∧ p' ≤ n ∧ X7_isItem_b122 (X7_isItem_l61 X7_isItem_b167 (f + 1)) X7_isItem_b167 L (nI N) 1 (nI k) s0 s1 (nI n) at_ tx told mouths mouth hates got = X7_isItem_l61 X7_isItem_b167 (f + 1) L (nI N) 1 (nI (k + 1)) (nI n) (nI p') tx told mouths mouth hates (upd got k (nI v)) := by
  have hn := hp.1
  unfold X7_isItem_b122 X7_isItem_b144 X7_isItem_b160
  rw [if_neg (by decide), hs]
  rcases q_num hp hq hpn with ⟨e1, p', h1, h2, e2⟩ | ⟨v, p', e1, hv, h1, h2, h3, e2⟩
  · refine Or.inl ⟨e1, ?_⟩
    rw [e2, gx_b2_some, if_pos (by rw [pz_in (by omega)]; omega), if_pos (by rw [pz_in (by omega)]; omega), pz_cl (by omega), pz_upd_s, if_pos (by decide), qfail]
    exact ⟨_, _, rfl⟩
  · refine Or.inr ⟨v, p', e1, hv, h1, h2, ?_⟩
    rw [e2, gx_b2_some, if_pos (by rw [pz_in (by omega)]; omega), if_pos (by rw [pz_in (by omega)]; omega), pz_cl (by omega), pz_upd_s, if_neg (nI_pos (by omega)), nI_1]
theorem qitem_l (hp : pT n t (nI n) b) (hq : qT n t (nI n) tx) (L : Int32) (told mouths mouth hates : Nat → Int32) : ∀ (m fuel k p : Nat) (got : Nat → Int32), 1 ≤ k → k + m ≤ 5 → m + 2 < fuel → p ≤ n → (rsq n t m p = none ∧ ∃ (a' : Int32) (got' : Nat → Int32), X7_isItem_l61 X7_isItem_b167 fuel L (nI (k + m)) 1 (nI k) (nI n) (nI p) tx told mouths mouth hates got = some (0, a', told, mouths, mouth, hates, got')) ∨ ∃ l q got', rsq n t m p = some (l, q) ∧ p < q ∧ (∀ j, j < k → got' j = got j) ∧ (∀ j, j < m → got' (k + j) = nI (l.getD j 0)) ∧ X7_isItem_l61 X7_isItem_b167 fuel L (nI (k + m)) 1 (nI k) (nI n) (nI p) tx told mouths mouth hates got = X7_isItem_b201 L 1 (nI n) (nI (q - 1)) tx told mouths mouth hates got' := by
  have hn := hp.1
  intro m
  induction m with
  | zero =>
    intro fuel k p got h0 h1 h2 h3
    obtain ⟨f, rfl⟩ : ∃ f, fuel = f + 1 := ⟨fuel - 1, by omega⟩
    have unf : X7_isItem_l61 X7_isItem_b167 (f + 1) L (nI (k + 0)) 1 (nI k) (nI n) (nI p) tx told mouths mouth hates got = X7_isItem_b61 (X7_isItem_l61 X7_isItem_b167 f) X7_isItem_b167 L (nI (k + 0)) 1 (nI k) (nI n) (nI p) tx told mouths mouth hates got := rfl
    rw [unf]
    unfold X7_isItem_b61
    rw [if_pos (by rw [pz_le (by omega) (by omega)]; omega)]
    unfold X7_isItem_b167
    rw [if_neg (show ¬ (1 : Int32) = 0 by decide), ite_le (by omega) (by omega)]
    by_cases h4 : n ≤ p
    · rw [if_pos h4]
      unfold X7_isItem_b200 X7_isItem_b201
      rw [if_pos rfl]
      exact Or.inl ⟨rsq_0n (by omega), _, _, rfl⟩
    · rw [if_neg h4, if_pos (by rw [pz_in (by omega)]; omega), pz_cl (by omega), hq.2 p (by omega), show (nI (t p)).toInt8.toInt32 = txv (t p) from rfl]
      have hb2 := (hp.2.2 p (by omega)).1
      have h59 := tx_59 (t p) hb2
      by_cases h5 : t p = 59
      · rw [if_pos (h59.mpr h5)]
        refine Or.inr ⟨[], p + 1, got, rsq_0 (by omega) h5, by omega, fun _ _ => rfl, fun j hj => by omega, ?_⟩
        rw [Nat.add_sub_cancel]
      · rw [if_neg (fun e => h5 (h59.mp e))]
        unfold X7_isItem_b200 X7_isItem_b201
        rw [if_pos rfl]
        exact Or.inl ⟨rsq_0n (fun e => h5 e.2), _, _, rfl⟩
  | succ m ih =>
    intro fuel k p got h0 h1 h2 h3
    obtain ⟨f, rfl⟩ : ∃ f, fuel = f + 1 + 1 := ⟨fuel - 2, by omega⟩
    have unf : X7_isItem_l61 X7_isItem_b167 (f + 1 + 1) L (nI (k + (m + 1))) 1 (nI k) (nI n) (nI p) tx told mouths mouth hates got = X7_isItem_b61 (X7_isItem_l61 X7_isItem_b167 (f + 1)) X7_isItem_b167 L (nI (k + (m + 1))) 1 (nI k) (nI n) (nI p) tx told mouths mouth hates got := rfl
    rw [unf]
    unfold X7_isItem_b61
    have hk0 : ¬ nI k = 0 := nI_ne0 (by omega) (by omega)
    have bad : X7_isItem_b105 (X7_isItem_l61 X7_isItem_b167 (f + 1)) X7_isItem_b167 L (nI (k + (m + 1))) (nI k) (nI n) (nI p) tx told mouths mouth hates got = some (0, nI p + 1 + 1, told, mouths, mouth, hates, upd got k (-1)) := by
      unfold X7_isItem_b105 X7_isItem_b106 X7_isItem_b122 X7_isItem_b144 X7_isItem_b160
      rw [if_neg hk0, if_pos rfl, if_pos (by rw [pz_in (by omega)]; omega), if_pos (by rw [pz_in (by omega)]; omega), pz_cl (by omega), pz_upd_s, if_pos (by decide), qfail]
    rw [if_neg (by rw [pz_le (by omega) (by omega)]; omega), if_neg (show ¬ (1 : Int32) = 0 by decide), if_neg hk0, ite_le (by omega) (by omega), bad]
    by_cases h4 : n ≤ p
    · rw [if_pos h4]
      exact Or.inl ⟨rsq_sn (by omega), _, _, rfl⟩
    · rw [if_neg h4, if_pos (by rw [pz_in (by omega)]; omega), pz_cl (by omega), hq.2 p (by omega), show (nI (t p)).toInt8.toInt32 = txv (t p) from rfl]
      have hb2 := (hp.2.2 p (by omega)).1
      have h44 := tx_44 (t p) hb2
      by_cases h5 : t p = 44
      · rw [if_pos (h44.mpr h5), rsq_s (by omega) h5]
        unfold X7_isItem_b101 X7_isItem_b106
        rw [if_neg hk0, psq_s]
        rcases qnum hp hq L (nI p) (k + (m + 1)) k (p + 1) (by omega) (by omega) 1 (nI p) (nI_1 p) told mouths mouth hates got f with ⟨e1, a', got', e2⟩ | ⟨v, p', e1, hv, hp1, hp2, e2⟩
        · rw [e1, e2]
          exact Or.inl ⟨rfl, _, _, rfl⟩
        · rw [e1, e2]
          simp only [Option.bind_some]
          have step := ih (f + 1) (k + 1) p' (upd got k (nI v)) (by omega) (by omega) (by omega) hp2
          rw [show k + 1 + m = k + (m + 1) by omega] at step
          rcases step with ⟨s1, a', got', s2⟩ | ⟨l, q, got', s1, s4, s6, s7, s8⟩
          · rw [s1, s2]
            exact Or.inl ⟨rfl, _, _, rfl⟩
          · rw [s1, s8]
            refine Or.inr ⟨v :: l, q, got', rfl, by omega, fun j hj => ?_, fun j hj => ?_, rfl⟩
            · rw [s6 j (by omega), pz_upd_n _ _ (by omega)]
            · cases j with
              | zero => rw [Nat.add_zero, s6 k (by omega), pz_upd_s]; rfl
              | succ j =>
                have := s7 j (by omega)
                rw [show k + (j + 1) = k + 1 + j by omega, this]; rfl
      · rw [if_neg (fun e => h5 (h44.mp e))]
        exact Or.inl ⟨rsq_sn (fun e => h5 e.2), _, _, rfl⟩
end PARSE2
