/-! ===== through a chain ===== -/
def thru (tr : Nat → Nat) : List Nat → (Nat → Nat → Nat) → Nat → Nat → Nat
  | [], c => c
  | i :: l, c => thru tr l (pas (tr (5 * i + 2)) (tr (5 * i + 3)) c)
/-- a list without its places from a on, below b; it begins at place k -/
def sk (a b : Nat) : List Nat → Nat → List Nat
  | [], _ => []
  | i :: l, k => if k < a then i :: sk a b l (k + 1) else if k < b then sk a b l (k + 1) else i :: sk a b l (k + 1)
theorem sk_eq {a b : Nat} (hab : a ≤ b) : ∀ (l : List Nat) (k : Nat), sk a b l k = l.take (a - k) ++ l.drop (b - k)
  | [], k => by simp [sk]
  | i :: l, k => by
    rw [sk, sk_eq hab l (k + 1)]
    by_cases h1 : k < a
    · rw [if_pos h1, show a - k = a - (k + 1) + 1 by omega, show b - k = b - (k + 1) + 1 by omega, List.take_succ_cons, List.drop_succ_cons, List.cons_append]
    · rw [if_neg h1]
      by_cases h2 : k < b
      · rw [if_pos h2, show a - k = 0 by omega, show a - (k + 1) = 0 by omega, show b - k = b - (k + 1) + 1 by omega, List.drop_succ_cons, List.take_zero, List.take_zero]
      · rw [if_neg h2, show a - k = 0 by omega, show a - (k + 1) = 0 by omega, show b - k = 0 by omega, show b - (k + 1) = 0 by omega, List.take_zero, List.take_zero, List.drop_zero, List.drop_zero, List.nil_append, List.nil_append]
theorem sk_00 (l : List Nat) (k : Nat) : sk 0 0 l k = l := by rw [sk_eq (Nat.le_refl 0)]; simp
theorem sk_sub (a b : Nat) : ∀ (l : List Nat) (k i : Nat), i ∈ sk a b l k → i ∈ l
  | [], _, i, h => by simp [sk] at h
  | j :: l, k, i, h => by
    rw [sk] at h
    split at h
    · rcases List.mem_cons.mp h with h | h
      · simp [h]
      · exact List.mem_cons_of_mem _ (sk_sub a b l (k + 1) i h)
    · split at h
      · exact List.mem_cons_of_mem _ (sk_sub a b l (k + 1) i h)
      · rcases List.mem_cons.mp h with h | h
        · simp [h]
        · exact List.mem_cons_of_mem _ (sk_sub a b l (k + 1) i h)
theorem sk_len {p n : Nat} {l : List Nat} (h : p + n ≤ l.length) : (sk p (p + n) l 0).length = l.length - n := by
  rw [sk_eq (by omega)]; simp; omega
theorem sk_get {p n : Nat} {l : List Nat} (h : p + n ≤ l.length) {j : Nat} (hj : j < l.length - n) : (sk p (p + n) l 0).getD j 0 = l.getD (if j < p then j else j + n) 0 := by
  rw [sk_eq (by omega), Nat.sub_zero, Nat.sub_zero, List.getD_eq_getElem?_getD, List.getD_eq_getElem?_getD]
  by_cases h1 : j < p
  · rw [if_pos h1, List.getElem?_append_left (by simp; omega), List.getElem?_take_of_lt h1]
  · rw [if_neg h1, List.getElem?_append_right (by simp; omega), List.getElem?_drop]
    congr 2
    simp; omega
section ODDS
variable {M sp he : Nat} {tr hate : Nat → Nat} {ch wd : List Nat} {mo sk_ hr se spo : Int32} {ts hs seats words told mouths mouth hates seated chain wordsM word : Nat → Int32}
theorem wM_thru (hw : wC M tr sp he hate) : ∀ (l : List Nat) (n : Nat) (c : Nat → Nat → Nat), (∀ i, i ∈ l → i < M) → wM n c → wM (n + l.length) (thru tr l c)
  | [], n, c, _, h => h
  | i :: l, n, c, hl, h => by
    have g := hw.2.2.2.2 i (hl i (by simp))
    have := wM_thru hw l (n + 1) (pas (tr (5 * i + 2)) (tr (5 * i + 3)) c) (fun j hj => hl j (by simp [hj])) (wM_pas g.2.2.2.1 (by omega) h)
    rw [List.length_cons, show n + (l.length + 1) = n + 1 + l.length by omega]
    exact this
theorem c_seat (h : ZZ M tr sp he hate ch wd mo sk_ hr ts hs se spo seats words told mouths mouth hates seated chain wordsM word) {k : Nat} (hk : k < ch.length) (c : Nat → Nat → Nat) (b : Int64) (cells beh : Nat → Int64) (hc : mP c cells) : ∃ f' : Nat → Int64, X6_weighSeat (nI k) se seats b cells beh mo ts = some (b * 10, f', cells) ∧ mP (pas (tr (5 * ch.getD k 0 + 2)) (tr (5 * ch.getD k 0 + 3)) c) f' := by
  obtain ⟨i, hi, hi7, hg, e1, e2⟩ := h.seat hk
  obtain ⟨t1, t2⟩ := h.trait hi (w := 2) (by omega)
  obtain ⟨u1, u2⟩ := h.trait hi (w := 3) (by omega)
  have g := h.2.1.2.2.2.2 i hi
  obtain ⟨f', e, hp⟩ := c_pass (tr (5 * i + 2)) (tr (5 * i + 3)) g.2.2.2.1 (by omega) c b cells beh hc
  rw [hg]
  refine ⟨f', ?_, hp⟩
  have t1' : X0_trait (nI i) (2 : Int32) mo ts = some (nI (tr (5 * i + 2))) := t1
  have u1' : X0_trait (nI i) (3 : Int32) mo ts = some (nI (tr (5 * i + 3))) := u1
  unfold X6_weighSeat
  rw [e1, gx_b_some, t1', gx_b_some, u1', gx_b_some, e, gx_b3_some]
theorem passing_l (h : ZZ M tr sp he hate ch wd mo sk_ hr ts hs se spo seats words told mouths mouth hates seated chain wordsM word) (a n : Nat) (ha : a ≤ 100) (hn : n ≤ 100) : ∀ (fuel k m : Nat) (c : Nat → Nat → Nat) (cells beh : Nat → Int64), k ≤ ch.length → ch.length - k < fuel → mP c cells → ∃ f' b' : Nat → Int64, X6_weighPassing_l9 fuel (nI a) (nI n) (nI k) se seats (lN (10 ^ m)) cells beh mo ts = some (lN (10 ^ (m + (sk a (a + n) (ch.drop k) k).length)), f', b') ∧ mP (thru tr (sk a (a + n) (ch.drop k) k) c) f' := by
  have hse := h.2.2.2.2.2.1.1
  have hl := h.2.2.2.2.1.2.1
  intro fuel
  induction fuel with
  | zero => intro k m c cells beh h1 h2; omega
  | succ f ih =>
    intro k m c cells beh h1 h2 hc
    show ∃ f' b' : Nat → Int64, X6_weighPassing_b9 _ _ _ _ _ _ _ _ _ _ _ = _ ∧ _
    unfold X6_weighPassing_b9
    rw [X1_seated, gx_b_some]
    by_cases hk : k = ch.length
    · subst hk
      rw [if_pos (by rw [hse, pz_le (by omega) (by omega)]; omega), List.drop_length]
      exact ⟨cells, beh, rfl, hc⟩
    · have hk2 : k < ch.length := by omega
      rw [if_neg (by rw [hse, pz_le (by omega) (by omega)]; omega), dr_cons hk2, pz_add, ite_lt (by omega) (by omega), ite_lt (by omega) (by omega)]
      unfold X6_weighPassing_b32 X6_weighPassing_b37
      obtain ⟨f1, e1, hp1⟩ := c_seat h hk2 c (lN (10 ^ m)) cells beh hc
      have em : lN (10 ^ m) * 10 = lN (10 ^ (m + 1)) := by rw [show (10 : Int64) = lN 10 from rfl, lN_mul, Nat.pow_succ]
      rw [em] at e1
      rw [e1, gx_b3_some, nI_1, sk]
      have go := ih (k + 1) (m + 1) _ f1 cells (by omega) (by omega) hp1
      rw [show m + 1 + (sk a (a + n) (ch.drop (k + 1)) (k + 1)).length = m + ((sk a (a + n) (ch.drop (k + 1)) (k + 1)).length + 1) by omega] at go
      by_cases h3 : k < a
      · rw [if_pos h3, if_pos h3]
        exact go
      · rw [if_neg h3, if_neg h3]
        by_cases h4 : k < a + n
        · rw [if_pos h4, if_pos h4]
          exact ih (k + 1) m c cells beh (by omega) (by omega) hc
        · rw [if_neg h4, if_neg h4]
          exact go
theorem c_passing (h : ZZ M tr sp he hate ch wd mo sk_ hr ts hs se spo seats words told mouths mouth hates seated chain wordsM word) (a n : Nat) (ha : a ≤ 100) (hn : n ≤ 100) (b : Int64) (cells beh : Nat → Int64) : ∃ f' b' : Nat → Int64, X6_weighPassing (nI a) (nI n) se seats b cells beh mo ts = some (lN (10 ^ (sk a (a + n) ch 0).length), f', b') ∧ mP (thru tr (sk a (a + n) ch 0) mI) f' := by
  have hl := h.2.2.2.2.1.2.1
  obtain ⟨f0, e0, h0⟩ := c_clear b cells
  obtain ⟨f', b', e1, h1⟩ := passing_l h a n ha hn gx_F 0 0 mI f0 beh (by omega) (by rw [gx_F_eq]; omega) h0
  rw [List.drop_zero, Nat.zero_add] at e1
  rw [List.drop_zero] at h1
  refine ⟨f', b', ?_, h1⟩
  unfold X6_weighPassing
  rw [e0, gx_b2_some]
  exact e1
theorem c_forth (h : ZZ M tr sp he hate ch wd mo sk_ hr ts hs se spo seats words told mouths mouth hates seated chain wordsM word) (b : Int64) (cells beh : Nat → Int64) : ∃ f' b' : Nat → Int64, X6_weighForth se seats b cells beh mo ts = some (lN (10 ^ ch.length), f', b') ∧ mP (thru tr ch mI) f' := by
  obtain ⟨f', b', e1, h1⟩ := c_passing h 0 0 (by omega) (by omega) b cells beh
  rw [Nat.add_zero, sk_00] at e1 h1
  refine ⟨f', b', ?_, h1⟩
  unfold X6_weighForth
  rw [show X6_weighPassing (0 : Int32) (0 : Int32) se seats b cells beh mo ts = _ from e1, gx_b3_some]
theorem q_goesZ (h : ZZ M tr sp he hate ch wd mo sk_ hr ts hs se spo seats words told mouths mouth hates seated chain wordsM word) {i : Nat} (hi : i < M) (d : Nat) (hd : d ≤ 13) (c : Nat → Nat → Nat) (f : Nat → Int64) (hc : mQ d c f) : ∃ f' : Nat → Int64, X7_goes (nI i) (nI d) mouth f = some f' ∧ mQ (d + 1) (pas (tr (5 * i + 2)) (tr (5 * i + 3)) c) f' ∧ ∀ j, (j < 100 * (d + 1) ∨ 100 * (d + 2) ≤ j) → f' j = f j := by
  obtain ⟨t1, t2⟩ := h.trait hi (w := 2) (by omega)
  obtain ⟨u1, u2⟩ := h.trait hi (w := 3) (by omega)
  have g := h.2.1.2.2.2.2 i hi
  have hM7 := h.2.1.1
  exact q_goes i (tr (5 * i + 2)) (tr (5 * i + 3)) (by omega) g.2.2.2.1 (by omega) mouth t2 u2 d hd c f hc
theorem allOf_l (h : ZZ M tr sp he hate ch wd mo sk_ hr ts hs se spo seats words told mouths mouth hates seated chain wordsM word) : ∀ (fuel k : Nat) (c : Nat → Nat → Nat) (f : Nat → Int64), k ≤ ch.length → ch.length - k < fuel → mQ k c f → ∃ f' : Nat → Int64, X7_allOfChain_l6 X7_allOfChain_b33 fuel (nI k) mouth seated chain f = some (nI (100 * ch.length), f') ∧ mQ ch.length (thru tr (ch.drop k) c) f' := by
  have hl := h.2.2.2.2.1.2.1
  have q1 := h.2.2.2.2.2.2.1
  intro fuel
  induction fuel with
  | zero => intro k c f h1 h2; omega
  | succ n ih =>
    intro k c f h1 h2 hc
    show ∃ f' : Nat → Int64, X7_allOfChain_b6 _ _ _ _ _ _ _ = _ ∧ _
    have q1' : seated (0 : Int32).toNatClampNeg = nI ch.length := q1
    unfold X7_allOfChain_b6
    rw [if_pos (show gx_in (0 : Int32) 3 by decide)]
    by_cases hk : k = ch.length
    · subst hk
      unfold X7_allOfChain_b33
      rw [if_pos (by rw [q1', pz_le (by omega) (by omega)]; omega), if_pos (show gx_in (0 : Int32) 3 by decide), q1', List.drop_length, pz_l100, pz_mul]
      exact ⟨f, rfl, hc⟩
    · have hk2 : k < ch.length := by omega
      obtain ⟨i, hi, hi7, hg, e1, e2⟩ := h.seat hk2
      obtain ⟨f1, g1, g2, g3⟩ := q_goesZ h hi k (by omega) c f hc
      rw [if_neg (by rw [q1', pz_le (by omega) (by omega)]; omega), if_pos (by rw [pz_in (by omega)]; omega), pz_cl (by omega), e2, g1, gx_b_some, nI_1, dr_cons hk2, hg]
      exact ih (k + 1) _ f1 (by omega) (by omega) g2
theorem q_all (h : ZZ M tr sp he hate ch wd mo sk_ hr ts hs se spo seats words told mouths mouth hates seated chain wordsM word) (f : Nat → Int64) : ∃ f' : Nat → Int64, X7_allOfChain mouth seated chain f = some (nI (100 * ch.length), f') ∧ mQ ch.length (thru tr ch mI) f' := by
  have hl := h.2.2.2.2.1.2.1
  obtain ⟨f0, e0, h0⟩ := q_starts f
  obtain ⟨f', e1, h1⟩ := allOf_l h gx_F 0 mI f0 (by omega) (by rw [gx_F_eq]; omega) h0
  rw [List.drop_zero] at h1
  refine ⟨f', ?_, h1⟩
  unfold X7_allOfChain
  rw [e0, gx_b_some]
  exact e1
theorem c_above {c : Nat → Nat → Nat} {cells : Nat → Int64} (hc : mP c cells) {s t : Nat} (hs : s < 10) (ht : t < 10) : X2_above (nI s) (nI t) cells = some (lN (c s t)) := by
  unfold X2_above
  rw [c_sense hs, c_sense ht, gx_b_some, if_neg (by decide), gx_b_some, if_neg (by decide), pz_l10, pz_mul, pz_add, if_pos (by rw [pz_in (by omega)]; omega), pz_cl (by omega), Nat.mul_comm t 10, hc s t hs ht]
theorem z_part (x : Int32) : (X6_isPart x = some 0 ∧ X7_in x.toInt64 0 1 = some 0) ∨ ∃ j, j < 2 ∧ x = nI j ∧ X6_isPart x = some 1 ∧ X7_in x.toInt64 0 1 = some 1 := by
  rcases q_in4 x 1 (by omega) 1 rfl with ⟨h1, h2⟩ | ⟨h0, h1, h2⟩ | hh
  · refine Or.inl ⟨?_, h2⟩
    have a0 : ¬ x = 0 := fun e => by rw [e] at h1; exact absurd h1 (by decide)
    have a1 : ¬ x = 1 := fun e => by rw [e] at h1; exact absurd h1 (by decide)
    simp [X6_isPart, a0, a1]
  · refine Or.inl ⟨?_, h2⟩
    have a0 : ¬ x = 0 := fun e => by rw [e] at h1; exact absurd h1 (by decide)
    have a1 : ¬ x = 1 := fun e => by rw [e] at h1; exact absurd h1 (by decide)
    simp [X6_isPart, a0, a1]
  · obtain ⟨j, hj, rfl, h2⟩ := hh (by omega)
    refine Or.inr ⟨j, by omega, rfl, ?_, h2⟩
    have : ∀ j, j ≤ 1 → X6_isPart (nI j) = some 1 := by decide +kernel
    exact this j hj
theorem pw_lt {n : Nat} (h : n ≤ 14) : 10 ^ n < 2 ^ 47 := Nat.lt_of_le_of_lt (Nat.pow_le_pow_right (by omega) h) (by decide)
theorem pw_pos (n : Nat) : 0 < 10 ^ n := Nat.pow_pos (by omega)
theorem w_comes (h : ZZ M tr sp he hate ch wd mo sk_ hr ts hs se spo seats words told mouths mouth hates seated chain wordsM word) (x1 x2 x3 : Int32) (b ab be : Int64) (cells beh chance : Nat → Int64) : ∃ (r : Int32) (b' : Int64) (cells' beh' : Nat → Int64) (ab' be' : Int64) (chance' : Nat → Int64), X6_comes x1 x2 x3 se seats b cells beh mo ts = some (r, b', cells', beh') ∧ X7_comes x1 x2 x3 ab be mouth seated chain chance = some (r, ab', be', chance') := by
  have hl := h.2.2.2.2.1.2.1
  have q1 := h.2.2.2.2.2.2.1
  unfold X6_comes X7_comes
  rcases z_sense x1 with ⟨e1, e2⟩ | ⟨s, hs, rfl, e1, e2⟩
  · rw [e1, e2, gx_b_some, gx_b_some, if_pos rfl, if_pos rfl]
    exact ⟨_, _, _, _, _, _, _, rfl, rfl⟩
  · rw [e1, e2, gx_b_some, gx_b_some, if_neg (by decide), if_neg (by decide)]
    rcases z_sense x2 with ⟨e1, e2⟩ | ⟨t, ht, rfl, e1, e2⟩
    · rw [e1, e2, gx_b_some, gx_b_some, if_pos rfl, if_pos rfl]
      exact ⟨_, _, _, _, _, _, _, rfl, rfl⟩
    · rw [e1, e2, gx_b_some, gx_b_some, if_neg (by decide), if_neg (by decide)]
      rcases z_part x3 with ⟨e1, e2⟩ | ⟨p, hp, rfl, e1, e2⟩
      · rw [e1, e2, gx_b_some, gx_b_some, if_pos rfl, if_pos rfl]
        exact ⟨_, _, _, _, _, _, _, rfl, rfl⟩
      · rw [e1, e2, gx_b_some, gx_b_some, if_neg (by decide), if_neg (by decide)]
        obtain ⟨f1, b1, g1, m1⟩ := c_forth h b cells beh
        obtain ⟨f2, g2, m2⟩ := q_all h chance
        have hM := wM_thru h.2.1 ch 0 mI h.2.2.2.2.1.2.2.1 wM_I
        rw [Nat.zero_add] at hM
        have hle := wM_le hM hs ht
        have hpl := pw_lt (n := ch.length) (by omega)
        have h0 : (0 : Int32).toNatClampNeg = 0 := rfl
        rw [g1, gx_b3_some, c_above m1 hs ht, gx_b_some, X2_below, gx_b_some, c_lowest _ _ _ (by omega) hpl (pw_pos _), gx_b_some, g2, gx_b2_some, pz_l10, pz_mul, pz_add, pz_add, if_pos (by rw [pz_in (by omega)]; omega), if_pos (show gx_in (0 : Int32) 3 by decide), h0, q1, q_tens _ (by omega), gx_b_some, pz_cl (by omega), m2 s t hs ht, q_lowest _ _ _ _ (by omega) hpl (pw_pos _), gx_b2_some]
        unfold lowv
        by_cases hp0 : nI p = 0
        · rw [if_pos hp0, if_pos hp0]
          exact ⟨_, _, _, _, _, _, _, rfl, rfl⟩
        · rw [if_neg hp0, if_neg hp0]
          exact ⟨_, _, _, _, _, _, _, rfl, rfl⟩
theorem reaching_l {c : Nat → Nat → Nat} {cells : Nat → Int64} (hc : mP c cells) {t : Nat} (ht : t < 10) : ∀ (fuel k : Nat), k ≤ 10 → 10 - k < fuel → X2_reaching_l5 fuel (nI t) (lN (sm (fun s => c s t) k)) (nI k) cells = some (lN (sm (fun s => c s t) 10)) := by
  intro fuel
  induction fuel with
  | zero => intro k h1 h2; omega
  | succ n ih =>
    intro k h1 h2
    show X2_reaching_b5 _ _ _ _ _ = _
    unfold X2_reaching_b5
    by_cases hk : k = 10
    · subst hk; rw [if_pos (by decide)]
    · rw [if_neg (by rw [pz_l10, pz_le (by omega) (by omega)]; omega), c_above hc (by omega) ht, gx_b_some, lN_add, nI_1]
      exact ih (k + 1) (by omega) (by omega)
theorem was_l (K : Int32 → Int32 → Int32 → Int32 → Int64 → Int64 → Int64 → (Nat → Int32) → (Nat → Int32) → (Nat → Int32) → (Nat → Int64) → Option (Int32 × Int64 × Int64 × (Nat → Int64))) (x1 x3 : Int32) (ab be : Int64) (m1 m2 m3 : Nat → Int32) {d : Nat} (hd : d ≤ 14) {c : Nat → Nat → Nat} {f : Nat → Int64} (hc : mQ d c f) {t : Nat} (ht : t < 10) : ∀ (fuel k : Nat), k ≤ 10 → 10 - k < fuel → X7_was_l38 K fuel x1 (nI t) x3 (nI (100 * d)) (lN (sm (fun s => c s t) k)) (nI k) ab be m1 m2 m3 f = K x1 (nI t) x3 (nI (100 * d)) (lN (sm (fun s => c s t) 10)) ab be m1 m2 m3 f := by
  intro fuel
  induction fuel with
  | zero => intro k h1 h2; omega
  | succ n ih =>
    intro k h1 h2
    show X7_was_b38 _ _ _ _ _ _ _ _ _ _ _ _ _ _ = _
    unfold X7_was_b38
    by_cases hk : k = 10
    · subst hk; rw [if_pos (by decide)]
    · rw [if_neg (by rw [pz_l10, pz_le (by omega) (by omega)]; omega), pz_l10, pz_mul, pz_add, pz_add, if_pos (by rw [pz_in (by omega)]; omega), pz_cl (by omega), hc k t (by omega) ht, lN_add, nI_1]
      exact ih (k + 1) (by omega) (by omega)
theorem w_was (h : ZZ M tr sp he hate ch wd mo sk_ hr ts hs se spo seats words told mouths mouth hates seated chain wordsM word) (x1 x2 x3 : Int32) (b ab be : Int64) (cells beh chance : Nat → Int64) : ∃ (r : Int32) (b' : Int64) (cells' beh' : Nat → Int64) (ab' be' : Int64) (chance' : Nat → Int64), X6_was x1 x2 x3 se seats b cells beh mo ts = some (r, b', cells', beh') ∧ X7_was x1 x2 x3 ab be mouth seated chain chance = some (r, ab', be', chance') := by
  have hl := h.2.2.2.2.1.2.1
  have q1 := h.2.2.2.2.2.2.1
  unfold X6_was X7_was
  rcases z_sense x1 with ⟨e1, e2⟩ | ⟨s, hs, rfl, e1, e2⟩
  · rw [e1, e2, gx_b_some, gx_b_some, if_pos rfl, if_pos rfl]
    exact ⟨_, _, _, _, _, _, _, rfl, rfl⟩
  · rw [e1, e2, gx_b_some, gx_b_some, if_neg (by decide), if_neg (by decide)]
    rcases z_sense x2 with ⟨e1, e2⟩ | ⟨t, ht, rfl, e1, e2⟩
    · rw [e1, e2, gx_b_some, gx_b_some, if_pos rfl, if_pos rfl]
      exact ⟨_, _, _, _, _, _, _, rfl, rfl⟩
    · rw [e1, e2, gx_b_some, gx_b_some, if_neg (by decide), if_neg (by decide)]
      rcases z_part x3 with ⟨e1, e2⟩ | ⟨p, hp, rfl, e1, e2⟩
      · rw [e1, e2, gx_b_some, gx_b_some, if_pos rfl, if_pos rfl]
        exact ⟨_, _, _, _, _, _, _, rfl, rfl⟩
      · rw [e1, e2, gx_b_some, gx_b_some, if_neg (by decide), if_neg (by decide)]
        obtain ⟨f1, b1, g1, m1⟩ := c_forth h b cells beh
        obtain ⟨f2, g2, m2⟩ := q_all h chance
        have hM := wM_thru h.2.1 ch 0 mI h.2.2.2.2.1.2.2.1 wM_I
        rw [Nat.zero_add] at hM
        have hle := wM_le hM hs ht
        have hpl := pw_lt (n := ch.length) (by omega)
        have hp7 : 10 ^ ch.length ≤ 10 ^ 7 := Nat.pow_le_pow_right (by omega) (by omega)
        have hsum := wM_sum hM (fun _ => t) (fun _ _ => ht) 10 (by omega)
        have k1 : X2_reaching (nI t) f1 = some (lN (sm (fun s => thru tr ch mI s t) 10)) := reaching_l m1 ht gx_F 0 (by omega) (by rw [gx_F_eq]; omega)
        have k2 := was_l X7_was_b71 (nI s) (nI p) ab be mouth seated chain (d := ch.length) (by omega) m2 ht gx_F 0 (by omega) (by rw [gx_F_eq]; omega)
        rw [g1, gx_b3_some, k1, gx_b_some, g2, gx_b2_some]
        rw [show (0 : Int64) = lN (sm (fun s => thru tr ch mI s t) 0) from rfl, show (0 : Int32) = nI 0 from rfl, k2]
        unfold X7_was_b71
        rw [show lN (sm (fun s => thru tr ch mI s t) 0) = (0 : Int64) from rfl]
        have hz0 := lc0 (sm (fun s => thru tr ch mI s t) 10) (by omega)
        by_cases hz : sm (fun s => thru tr ch mI s t) 10 = 0
        · rw [if_pos (hz0 ▸ hz), if_pos (hz0 ▸ hz)]
          exact ⟨_, _, _, _, _, _, _, rfl, rfl⟩
        · rw [if_neg (hz0 ▸ hz), if_neg (hz0 ▸ hz), c_above m1 hs ht, gx_b_some, c_lowest _ _ _ (by omega) (by omega) (by omega), gx_b_some, pz_l10, pz_mul, pz_add, pz_add, if_pos (by rw [pz_in (by omega)]; omega), pz_cl (by omega), m2 s t hs ht, q_lowest _ _ _ _ (by omega) (by omega) (by omega), gx_b2_some]
          unfold lowv
          by_cases hp0 : nI p = 0
          · rw [if_pos hp0, if_pos hp0]
            exact ⟨_, _, _, _, _, _, _, rfl, rfl⟩
          · rw [if_neg hp0, if_neg hp0]
            exact ⟨_, _, _, _, _, _, _, rfl, rfl⟩
end ODDS
