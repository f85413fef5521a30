/-! ===== there and back ===== -/
/-- through the first m of a chain, the last of these first -/
def dnm (tr : Nat → Nat) (ch : List Nat) : Nat → (Nat → Nat → Nat) → Nat → Nat → Nat
  | 0, c => c
  | m + 1, c => dnm tr ch m (pas (tr (5 * ch.getD m 0 + 2)) (tr (5 * ch.getD m 0 + 3)) c)
section BACK
variable {M sp he : Nat} {tr hate : Nat → Nat} {ch wd : List Nat} {mo sk_ hr se spo : Int32} {ts hs seats words told mouths mouth hates seated chain wordsM word : Nat → Int32}
theorem wM_dnm (hw : wC M tr sp he hate) (hc : ∀ i, i ∈ ch → i < M) : ∀ (m n : Nat) (c : Nat → Nat → Nat), m ≤ ch.length → wM n c → wM (n + m) (dnm tr ch m c)
  | 0, n, c, _, h => h
  | m + 1, n, c, hm, h => by
    have g := hw.2.2.2.2 (ch.getD m 0) (hc _ (gd_mem (by omega)))
    have := wM_dnm hw hc m (n + 1) (pas (tr (5 * ch.getD m 0 + 2)) (tr (5 * ch.getD m 0 + 3)) c) (by omega) (wM_pas g.2.2.2.1 (by omega) h)
    rw [show n + (m + 1) = n + 1 + m by omega]
    exact this
theorem cback_l (h : ZZ M tr sp he hate ch wd mo sk_ hr ts hs se spo seats words told mouths mouth hates seated chain wordsM word) (x1 x2 : Int32) : ∀ (fuel m e : Nat) (c : Nat → Nat → Nat) (cells beh : Nat → Int64), m ≤ ch.length → m < fuel → mP c cells → ∃ f' b' : Nat → Int64, X6_back_l32 X6_back_b47 fuel x1 x2 (nI m - 1) se seats (lN (10 ^ e)) cells beh mo ts = X6_back_b47 x1 x2 se seats (lN (10 ^ (e + m))) f' b' mo ts ∧ mP (dnm tr ch m c) f' := by
  have hl := h.2.2.2.2.1.2.1
  intro fuel
  induction fuel with
  | zero => intro m e c cells beh h1 h2; omega
  | succ f ih =>
    intro m e c cells beh h1 h2 hc
    show ∃ f' b' : Nat → Int64, X6_back_b32 _ _ _ _ _ _ _ _ _ _ _ _ = _ ∧ _
    unfold X6_back_b32
    cases m with
    | zero =>
      rw [if_pos (by decide)]
      exact ⟨cells, beh, rfl, hc⟩
    | succ m =>
      obtain ⟨f1, e1, hp1⟩ := c_seat h (k := m) (by omega) c (lN (10 ^ e)) cells beh hc
      have em : lN (10 ^ e) * 10 = lN (10 ^ (e + 1)) := by rw [show (10 : Int64) = lN 10 from rfl, lN_mul, Nat.pow_succ]
      have ea : nI m + (-1) = nI m - 1 := (Int32.sub_eq_add_neg _ _).symm
      rw [nI_pred, if_neg (nI_pos (by omega)), e1, gx_b3_some, em, ea, show e + (m + 1) = e + 1 + m by omega]
      exact ih m (e + 1) _ f1 cells (by omega) (by omega) hp1
theorem qback_l (h : ZZ M tr sp he hate ch wd mo sk_ hr ts hs se spo seats words told mouths mouth hates seated chain wordsM word) (x1 x2 : Int32) (ab be : Int64) : ∀ (fuel m : Nat) (c : Nat → Nat → Nat) (f : Nat → Int64), m ≤ ch.length → m < fuel → mQ (2 * ch.length - m) c f → ∃ f' : Nat → Int64, X7_back_l36 X7_back_b67 fuel x1 x2 (nI ch.length) (nI (ch.length - m)) ab be mouth seated chain f = X7_back_b67 x1 x2 (nI ch.length) ab be mouth seated chain f' ∧ mQ (2 * ch.length) (dnm tr ch m c) f' := by
  have hl := h.2.2.2.2.1.2.1
  intro fuel
  induction fuel with
  | zero => intro m c f h1 h2; omega
  | succ n ih =>
    intro m c f h1 h2 hc
    show ∃ f' : Nat → Int64, X7_back_b36 _ _ _ _ _ _ _ _ _ _ _ _ = _ ∧ _
    unfold X7_back_b36
    cases m with
    | zero =>
      rw [if_pos (by rw [pz_le (by omega) (by omega)]; omega)]
      exact ⟨f, rfl, hc⟩
    | succ m =>
      obtain ⟨i, hi, hi7, hg, e1, e2⟩ := h.seat (k := m) (by omega)
      obtain ⟨f1, g1, g2, g3⟩ := q_goesZ h hi (2 * ch.length - (m + 1)) (by omega) c f hc
      have ei : nI ch.length - 1 - nI (ch.length - (m + 1)) = nI m := by
        rw [pz_l1, pz_sub (by omega), pz_sub (by omega)]; congr 1; omega
      have ed : nI ch.length + nI (ch.length - (m + 1)) = nI (2 * ch.length - (m + 1)) := by
        rw [pz_add]; congr 1; omega
      rw [if_neg (by rw [pz_le (by omega) (by omega)]; omega), ei, ed, if_pos (by rw [pz_in (by omega)]; omega), pz_cl (by omega), e2, g1, gx_b_some, nI_1, show ch.length - (m + 1) + 1 = ch.length - m by omega]
      rw [show 2 * ch.length - (m + 1) + 1 = 2 * ch.length - m by omega] at g2
      rw [dnm, hg]
      exact ih m _ f1 (by omega) (by omega) g2
theorem w_back (h : ZZ M tr sp he hate ch wd mo sk_ hr ts hs se spo seats words told mouths mouth hates seated chain wordsM word) (x1 x2 : Int32) (b ab be : Int64) (cells beh chance : Nat → Int64) : ∃ (r : Int64) (b' : Int64) (cells' beh' : Nat → Int64) (ab' be' : Int64) (chance' : Nat → Int64), X6_back x1 x2 se seats b cells beh mo ts = some (r, b', cells', beh') ∧ X7_back x1 x2 ab be mouth seated chain chance = some (r, ab', be', chance') := by
  have hl := h.2.2.2.2.1.2.1
  have q1 := h.2.2.2.2.2.2.1
  have hse := h.2.2.2.2.2.1.1
  unfold X6_back X7_back
  rcases z_sense x1 with ⟨e1, e2⟩ | ⟨s, hs10, rfl, e1, e2⟩
  · rw [e1, e2, gx_b_some, gx_b_some, if_pos rfl, if_pos rfl]
    exact ⟨_, _, _, _, _, _, _, rfl, rfl⟩
  · rw [e1, e2, gx_b_some, gx_b_some, if_neg (by decide), if_neg (by decide)]
    rcases z_part x2 with ⟨e1, e2⟩ | ⟨p, hp, rfl, e1, e2⟩
    · rw [e1, e2, gx_b_some, gx_b_some, if_pos rfl, if_pos rfl]
      exact ⟨_, _, _, _, _, _, _, rfl, rfl⟩
    · rw [e1, e2, gx_b_some, gx_b_some, if_neg (by decide), if_neg (by decide)]
      obtain ⟨f1, b1, g1, m1⟩ := c_forth h b cells beh
      obtain ⟨f2, g2, m2⟩ := q_all h chance
      obtain ⟨f3, b3, g3, m3⟩ := cback_l h (nI s) (nI p) gx_F ch.length ch.length _ f1 b1 (by omega) (by rw [gx_F_eq]; omega) m1
      obtain ⟨f4, g4, m4⟩ := qback_l h (nI s) (nI p) ab be gx_F ch.length _ f2 (by omega) (by rw [gx_F_eq]; omega) (by rw [show 2 * ch.length - ch.length = ch.length by omega]; exact m2)
      have hM0 := wM_thru h.2.1 ch 0 mI h.2.2.2.2.1.2.2.1 wM_I
      rw [Nat.zero_add] at hM0
      have hM := wM_dnm h.2.1 h.2.2.2.2.1.2.2.1 ch.length ch.length _ (by omega) hM0
      have hle := wM_le hM hs10 hs10
      have hpl := pw_lt (n := ch.length + ch.length) (by omega)
      have h0 : (0 : Int32).toNatClampNeg = 0 := rfl
      rw [Nat.sub_self] at g4
      have k2 := m4 s s hs10 hs10
      rw [g1, gx_b3_some, X1_seated, gx_b_some, if_pos (show gx_in (0 : Int32) 3 by decide), h0, q1, g2, gl_eq, gl_eq]
      rw [gx_b2_some, show (0 : Int32) = nI 0 from rfl, g4]
      rw [hse] at g3 ⊢
      rw [g3]
      unfold X6_back_b47 X7_back_b67
      rw [c_above m3 hs10 hs10, gx_b_some, X2_below, gx_b_some, c_lowest _ _ _ (by omega) hpl (pw_pos _), gx_b_some, show (200 : Int32) = nI 200 from rfl, show (11 : Int32) = nI 11 from rfl, show (2 : Int32) = nI 2 from rfl, pz_mul, pz_mul, pz_mul, pz_add, if_pos (by rw [pz_in (by omega)]; omega), pz_cl (by omega), q_tens _ (by omega), gx_b_some, show 200 * ch.length + 11 * s = 100 * (2 * ch.length) + 10 * s + s by omega, k2, show 2 * ch.length = ch.length + ch.length by omega, q_lowest _ _ _ _ (by omega) hpl (pw_pos _), gx_b2_some]
      unfold lowv
      by_cases hp0 : nI p = 0
      · rw [if_pos hp0, if_pos hp0]
        exact ⟨_, _, _, _, _, _, _, rfl, rfl⟩
      · rw [if_neg hp0, if_neg hp0]
        exact ⟨_, _, _, _, _, _, _, rfl, rfl⟩
end BACK
/-! ===== the parrot ===== -/
theorem kept_l {c : Nat → Nat → Nat} {cells : Nat → Int64} (hc : mP c cells) : ∀ (fuel k : Nat), k ≤ 10 → 10 - k < fuel → X2_kept_l4 fuel (lN (sm (fun s => c s s) k)) (nI k) cells = some (lN (sm (fun s => c s s) 10)) := by
  intro fuel
  induction fuel with
  | zero => intro k h1 h2; omega
  | succ n ih =>
    intro k h1 h2
    show X2_kept_b4 _ _ _ _ = _
    unfold X2_kept_b4
    by_cases hk : k = 10
    · subst hk; rw [if_pos (by decide)]
    · rw [if_neg (by rw [pz_l10, pz_le (by omega) (by omega)]; omega), c_above hc (by omega) (by omega), gx_b_some, lN_add, nI_1]
      exact ih (k + 1) (by omega) (by omega)
theorem c_kept {c : Nat → Nat → Nat} {cells : Nat → Int64} (hc : mP c cells) : X2_kept cells = some (lN (sm (fun s => c s s) 10)) := kept_l hc gx_F 0 (by omega) (by rw [gx_F_eq]; omega)
theorem same_l {d : Nat} (hd : d ≤ 14) {c : Nat → Nat → Nat} {f : Nat → Int64} (hc : mQ d c f) : ∀ (fuel k : Nat), k ≤ 10 → 10 - k < fuel → X7_same_l5 fuel (nI d) (lN (sm (fun s => c s s) k)) (nI k) f = some (lN (sm (fun s => c s s) 10)) := by
  intro fuel
  induction fuel with
  | zero => intro k h1 h2; omega
  | succ n ih =>
    intro k h1 h2
    show X7_same_b5 _ _ _ _ _ = _
    unfold X7_same_b5
    by_cases hk : k = 10
    · subst hk; rw [if_pos (by decide)]
    · have g := hc k k (by omega) (by omega)
      rw [if_neg (by rw [pz_l10, pz_le (by omega) (by omega)]; omega), pz_l100, pz_l11, pz_mul, pz_mul, pz_add, if_pos (by rw [pz_in (by omega)]; omega), pz_cl (by omega), show 100 * d + 11 * k = 100 * d + 10 * k + k by omega, g, lN_add, nI_1]
      exact ih (k + 1) (by omega) (by omega)
theorem q_same {d : Nat} (hd : d ≤ 14) {c : Nat → Nat → Nat} {f : Nat → Int64} (hc : mQ d c f) : X7_same (nI d) f = some (lN (sm (fun s => c s s) 10)) := same_l hd hc gx_F 0 (by omega) (by rw [gx_F_eq]; omega)
/-- what is kept, the n from place p on being passed by -/
def kv (tr : Nat → Nat) (ch : List Nat) (n p : Nat) : Nat := sm (fun s => thru tr (sk p (p + n) ch 0) mI s s) 10
def mst (tr : Nat → Nat) (ch : List Nat) (n p : Nat) (place : Int32) (most : Int64) : Prop := (p = 0 ∧ place = nI 0 ∧ most = -1) ∨ ∃ P, P < p ∧ place = nI P ∧ most = lN (kv tr ch n P)
section PARROT
variable {M sp he : Nat} {tr hate : Nat → Nat} {ch wd : List Nat} {mo sk_ hr se spo : Int32} {ts hs seats words told mouths mouth hates seated chain wordsM word : Nat → Int32}
theorem kv_le (h : ZZ M tr sp he hate ch wd mo sk_ hr ts hs se spo seats words told mouths mouth hates seated chain wordsM word) {n p : Nat} (hp : p + n ≤ ch.length) : kv tr ch n p ≤ 10 * 10 ^ (ch.length - n) := by
  have hM := wM_thru h.2.1 (sk p (p + n) ch 0) 0 mI (fun i hi => h.2.2.2.2.1.2.2.1 i (sk_sub _ _ _ _ _ hi)) wM_I
  rw [Nat.zero_add, sk_len hp] at hM
  exact wM_sum hM (fun s => s) (fun _ h => h) 10 (by omega)
theorem par66_l (h : ZZ M tr sp he hate ch wd mo sk_ hr ts hs se spo seats words told mouths mouth hates seated chain wordsM word) {n p : Nat} (hp : p + n ≤ ch.length) (K : Int32 → Int32 → Int32 → Int32 → Int64 → Int32 → Int64 → Int64 → (Nat → Int32) → (Nat → Int32) → (Nat → Int32) → (Nat → Int64) → Option (Int32 × Int64 × Int64 × (Nat → Int64))) (x2 x4 : Int32) (x5 ab be : Int64) : ∀ (fuel k : Nat) (c : Nat → Nat → Nat) (f : Nat → Int64), k ≤ ch.length - n → ch.length - n - k < fuel → mQ k c f → ∃ f' : Nat → Int64, X7_parrot_l66 K fuel (nI n) x2 (nI (ch.length - n)) x4 x5 (nI p) (nI k) ab be mouth seated chain f = K (nI n) x2 (nI (ch.length - n)) x4 x5 (nI p) ab be mouth seated chain f' ∧ mQ (ch.length - n) (thru tr ((sk p (p + n) ch 0).drop k) c) f' := by
  have hl := h.2.2.2.2.1.2.1
  have hlen := sk_len hp
  intro fuel
  induction fuel with
  | zero => intro k c f h1 h2; omega
  | succ m ih =>
    intro k c f h1 h2 hc
    show ∃ f' : Nat → Int64, X7_parrot_b66 _ _ _ _ _ _ _ _ _ _ _ _ _ _ _ = _ ∧ _
    unfold X7_parrot_b66 X7_parrot_b93
    by_cases hk : k = ch.length - n
    · rw [if_pos (by rw [pz_le (by omega) (by omega)]; omega), List.drop_of_length_le (by omega)]
      subst hk
      exact ⟨f, rfl, hc⟩
    · have hk2 : k < ch.length - n := by omega
      have hget := sk_get hp hk2
      rw [if_neg (by rw [pz_le (by omega) (by omega)]; omega), ite_le (by omega) (by omega), pz_add, dr_cons (by omega), hget]
      by_cases hpk : p ≤ k
      · obtain ⟨i, hi, hi7, hg, e1, e2⟩ := h.seat (k := k + n) (by omega)
        obtain ⟨f1, g1, g2, g3⟩ := q_goesZ h hi k (by omega) c f hc
        rw [if_pos hpk, if_pos (by rw [pz_in (by omega)]; omega), pz_cl (by omega), e2, g1, gx_b_some, nI_1, if_neg (by omega), hg]
        exact ih (k + 1) _ f1 (by omega) (by omega) g2
      · obtain ⟨i, hi, hi7, hg, e1, e2⟩ := h.seat (k := k) (by omega)
        obtain ⟨f1, g1, g2, g3⟩ := q_goesZ h hi k (by omega) c f hc
        rw [if_neg hpk, if_pos (by rw [pz_in (by omega)]; omega), pz_cl (by omega), e2, g1, gx_b_some, nI_1, if_pos (by omega), hg]
        exact ih (k + 1) _ f1 (by omega) (by omega) g2
theorem lc_le (a b : Nat) (ha : a < 2 ^ 63) (hb : b < 2 ^ 63) : (lg_cmp (lN a) (lN b) ≤ 0) = (a ≤ b) := by
  apply propext
  have h := lz_gt (lN a) (lN b)
  have h2 : (lg_cmp (lN a) (lN b) ≤ 0) ↔ ¬ (0 < lg_cmp (lN a) (lN b)) := by
    rw [Int32.le_iff_toInt_le, Int32.lt_iff_toInt_lt]; omega
  rw [h2, h, pk_lLT hb ha]; omega
theorem lc_m1 (a : Nat) (ha : a < 2 ^ 63) : ¬ (lg_cmp (lN a) (-1 : Int64) ≤ 0) := by
  have h := lz_gt (lN a) (-1)
  have h1 : (-1 : Int64) < lN a := by
    rw [Int64.lt_iff_toInt_lt, pk_lT ha, show (-1 : Int64).toInt = -1 by decide]; omega
  rw [← h] at h1
  rw [Int32.le_iff_toInt_le]
  rw [Int32.lt_iff_toInt_lt] at h1
  omega
theorem pick_l (h : ZZ M tr sp he hate ch wd mo sk_ hr ts hs se spo seats words told mouths mouth hates seated chain wordsM word) {n : Nat} (hn : n ≤ ch.length) (x2 : Int32) (ab be : Int64) : ∀ (fuel j : Nat) (place : Int32) (most b : Int64) (cells beh chance : Nat → Int64), j ≤ ch.length - n + 1 → j < fuel → mst tr ch n (ch.length - n + 1 - j) place most → ∃ (P : Nat) (b' : Int64) (cells' beh' chance' : Nat → Int64), P ≤ ch.length - n ∧ X6_bestToPass_l9 fuel (nI n) place most (nI (ch.length - n + 1 - j)) se seats b cells beh mo ts = some (nI P, b', cells', beh') ∧ X7_parrot_l53 X7_parrot_b152 fuel (nI n) x2 (nI (ch.length - n)) place most (nI (ch.length - n + 1 - j)) ab be mouth seated chain chance = X7_parrot_b152 x2 (nI (ch.length - n)) (nI P) (lN (kv tr ch n P)) ab be mouth seated chain chance' := by
  have hl := h.2.2.2.2.1.2.1
  have hse := h.2.2.2.2.2.1.1
  have hp7 : 10 ^ (ch.length - n) ≤ 10 ^ 7 := Nat.pow_le_pow_right (by omega) (by omega)
  intro fuel
  induction fuel with
  | zero => intro j place most b cells beh chance h1 h2; omega
  | succ f ih =>
    intro j place most b cells beh chance h1 h2 hm
    show ∃ (P : Nat) (b' : Int64) (cells' beh' chance' : Nat → Int64), P ≤ ch.length - n ∧ X6_bestToPass_b9 _ _ _ _ _ _ _ _ _ _ _ _ = _ ∧ X7_parrot_b53 _ _ _ _ _ _ _ _ _ _ _ _ _ _ = _
    unfold X6_bestToPass_b9 X7_parrot_b53
    rw [X1_seated, gx_b_some]
    cases j with
    | zero =>
      rcases hm with ⟨h3, -⟩ | ⟨P, hP, r1, r2⟩
      · omega
      · subst r1; subst r2
        refine ⟨P, b, cells, beh, chance, by omega, ?_, ?_⟩
        · rw [if_pos (by rw [hse, pz_add, pz_lt (by omega) (by omega)]; omega)]
        · rw [if_pos (by rw [pz_lt (by omega) (by omega)]; omega)]
    | succ j =>
      have e1 : nI (ch.length - n + 1 - (j + 1)) + 1 = nI (ch.length - n + 1 - j) := by rw [nI_1]; congr 1; omega
      have hp : ch.length - n + 1 - (j + 1) ≤ ch.length - n := by omega
      have e2 : ch.length - n + 1 - j = ch.length - n + 1 - (j + 1) + 1 := by omega
      rw [e2] at e1
      have IH := fun pl mo_ b c1 c2 c3 => ih j pl mo_ b c1 c2 c3 (by omega) (by omega)
      rw [e2] at IH
      generalize ch.length - n + 1 - (j + 1) = p at *
      obtain ⟨f1, b1, g1, m1⟩ := c_passing h p n (by omega) (by omega) b cells beh
      obtain ⟨f2, g2, m2⟩ := q_starts chance
      obtain ⟨f3, g3, m3⟩ := par66_l h (n := n) (p := p) (by omega) (X7_parrot_b105 (X7_parrot_l53 X7_parrot_b152 f) X7_parrot_b152) x2 place most ab be gx_F 0 mI f2 (by omega) (by rw [gx_F_eq]; omega) m2
      rw [List.drop_zero] at m3
      have hkv := kv_le h (n := n) (p := p) (by omega)
      have hk1 : X2_kept f1 = some (lN (kv tr ch n p)) := c_kept m1
      have hk2 : X7_same (nI (ch.length - n)) f3 = some (lN (kv tr ch n p)) := q_same (by omega) m3
      rw [if_neg (by rw [hse, pz_add, pz_lt (by omega) (by omega)]; omega), if_neg (by rw [pz_lt (by omega) (by omega)]; omega), g1, gx_b3_some, hk1, gx_b_some, gx_b_some, g2, gx_b_some, show X7_parrot_l66 _ gx_F (nI n) x2 (nI (ch.length - n)) place most (nI p) (0 : Int32) ab be mouth seated chain f2 = _ from g3]
      unfold X7_parrot_b105 X7_parrot_b127 X7_parrot_b144 X6_bestToPass_b53
      rw [hk2, gx_b_some, e1]
      rcases hm with ⟨h3, r1, r2⟩ | ⟨P, hP, r1, r2⟩
      · subst r1; subst r2
        have hn1 := lc_m1 (kv tr ch n p) (by omega)
        rw [if_neg hn1, if_neg hn1, if_neg hn1]
        exact IH _ _ _ _ _ _ (Or.inr ⟨p, by omega, rfl, rfl⟩)
      · subst r1; subst r2
        have hkP := kv_le h (n := n) (p := P) (by omega)
        have hcm := lc_le (kv tr ch n p) (kv tr ch n P) (by omega) (by omega)
        by_cases hc : kv tr ch n p ≤ kv tr ch n P
        · have hc' : lg_cmp (lN (kv tr ch n p)) (lN (kv tr ch n P)) ≤ 0 := by rw [hcm]; exact hc
          rw [if_pos hc', if_pos hc', if_pos hc']
          exact IH _ _ _ _ _ _ (Or.inr ⟨P, by omega, rfl, rfl⟩)
        · have hc' : ¬ lg_cmp (lN (kv tr ch n p)) (lN (kv tr ch n P)) ≤ 0 := by rw [hcm]; exact hc
          rw [if_neg hc', if_neg hc', if_neg hc']
          exact IH _ _ _ _ _ _ (Or.inr ⟨p, by omega, rfl, rfl⟩)
theorem w_parrot (h : ZZ M tr sp he hate ch wd mo sk_ hr ts hs se spo seats words told mouths mouth hates seated chain wordsM word) (x1 x2 : Int32) (b ab be : Int64) (cells beh chance : Nat → Int64) : ∃ (r : Int32) (b' : Int64) (cells' beh' : Nat → Int64) (ab' be' : Int64) (chance' : Nat → Int64), X6_parrot x1 x2 se seats b cells beh mo ts = some (r, b', cells', beh') ∧ X7_parrot x1 x2 ab be mouth seated chain chance = some (r, ab', be', chance') := by
  have hl := h.2.2.2.2.1.2.1
  have q1 := h.2.2.2.2.2.2.1
  have hse := h.2.2.2.2.2.1.1
  have hin : X7_in x1.toInt64 (1 : Int64) (7 : Int64) = _ := q_in x1 1 7
  unfold X6_parrot X7_parrot
  rw [hin, gx_b_some]
  by_cases c1 : x1 < 1
  · rw [if_pos c1, if_pos c1, if_pos rfl]
    exact ⟨_, _, _, _, _, _, _, rfl, rfl⟩
  · rw [if_neg c1, if_neg c1]
    by_cases c2 : (7 : Int32) < x1
    · rw [if_pos c2, if_pos c2, if_pos rfl]
      exact ⟨_, _, _, _, _, _, _, rfl, rfl⟩
    · rw [if_neg c2, if_neg c2, if_neg (show ¬ (1 : Int32) = 0 by decide)]
      rcases q_in4 x2 2 (by omega) 2 rfl with ⟨h1, h2⟩ | ⟨h0, h1, h2⟩ | hh
      · rw [if_pos h1, h2, gx_b_some, if_pos rfl]
        exact ⟨_, _, _, _, _, _, _, rfl, rfl⟩
      · have h3 : ¬ x2 ≤ (2 : Int32) := by
          rw [pz_l2]; intro q; rw [Int32.le_iff_toInt_le, pz_ti (by omega)] at q h1; omega
        rw [if_neg h0, if_neg h3, h2, gx_b_some, if_pos rfl]
        exact ⟨_, _, _, _, _, _, _, rfl, rfl⟩
      · obtain ⟨w, hw, rfl, h2⟩ := hh (by omega)
        obtain ⟨n, hn1, hn7, rfl⟩ : ∃ n, 1 ≤ n ∧ n ≤ 7 ∧ x1 = nI n := by
          rcases pz_ix x1 8 (by decide) with ⟨a1, a2⟩ | ⟨a0, a1, a2, a3⟩ | ⟨j, hj, rfl⟩
          · exfalso
            apply c1
            rw [Int32.lt_iff_toInt_lt] at a1 ⊢
            rw [show (0 : Int32).toInt = 0 by decide] at a1
            rw [show (1 : Int32).toInt = 1 by decide]
            omega
          · exact absurd (pz_lt_of (a := 8) (b := 7) (by decide) (by decide) a2) c2
          · refine ⟨j, ?_, by omega, rfl⟩
            rw [pz_l1, pz_lt (by omega) (by omega)] at c1
            omega
        have h0 : (0 : Int32).toNatClampNeg = 0 := rfl
        rw [if_neg (nI_pos (by omega)), if_pos (show nI w ≤ (2 : Int32) by rw [pz_l2, pz_le (by omega) (by omega)]; omega), h2, gx_b_some, if_neg (show ¬ (1 : Int32) = 0 by decide), X1_seated, gx_b_some, if_pos (show gx_in (0 : Int32) 3 by decide), h0, q1, hse, gl_eq]
        by_cases hf : n ≤ ch.length
        · rw [ite_le (by omega) (by omega), if_pos hf, pz_sub hf, if_pos (nI_pos' (by omega))]
          obtain ⟨P, b1, f1, b2, f2, hP, g1, g2⟩ := pick_l h hf (nI w) ab be gx_F (ch.length - n + 1) 0 (-1) b cells beh chance (by omega) (by rw [gx_F_eq]; omega) (Or.inl ⟨by omega, rfl, rfl⟩)
          rw [Nat.sub_self] at g1 g2
          have hp7 : 10 ^ (ch.length - n) ≤ 10 ^ 6 := Nat.pow_le_pow_right (by omega) (by omega)
          have hkv := kv_le h (n := n) (p := P) (by omega)
          have hpos := pw_pos (ch.length - n)
          have g1' : X6_bestToPass (nI n) (nI ch.length) seats b cells beh mo ts = some (nI P, b1, f1, b2) := by
            rw [hse] at g1
            exact g1
          rw [g1', gx_b4_some, show X7_parrot_l53 X7_parrot_b152 gx_F (nI n) (nI w) (nI (ch.length - n)) (0 : Int32) (-1 : Int64) (0 : Int32) ab be mouth seated chain chance = _ from g2]
          unfold X7_parrot_b152
          rw [q_tens _ (by omega), gx_b_some, show (10 : Int64) = lN 10 from rfl, lN_mul, q_lowest _ _ _ _ (by omega) (by omega) (by omega), gx_b2_some]
          by_cases hw0 : w = 0
          · subst hw0
            rw [if_pos (show nI 0 = 0 from rfl), if_pos (show nI 0 = 0 from rfl)]
            exact ⟨_, _, _, _, _, _, _, rfl, rfl⟩
          · have hw0' : ¬ nI w = 0 := nI_ne0 (by omega) (by omega)
            obtain ⟨f5, b5, g5, m5⟩ := c_passing h P n (by omega) (by omega) b1 f1 b2
            have hk5 : X2_kept f5 = some (lN (kv tr ch n P)) := c_kept m5
            rw [hse, sk_len (by omega)] at g5
            rw [if_neg hw0', if_neg hw0', g5, gx_b3_some, hk5, gx_b_some, X2_below, gx_b_some, lN_mul, c_lowest _ _ _ (by omega) (by omega) (by omega), gx_b_some]
            unfold lowv
            by_cases hw1 : w = 1
            · subst hw1
              rw [if_pos (show nI 1 - 1 = 0 by decide), if_pos (show nI 1 = 1 by decide)]
              exact ⟨_, _, _, _, _, _, _, rfl, rfl⟩
            · have : w = 2 := by omega
              subst this
              rw [if_neg (show ¬ nI 2 - 1 = 0 by decide), if_neg (show ¬ nI 2 = 1 by decide)]
              exact ⟨_, _, _, _, _, _, _, rfl, rfl⟩
        · rw [ite_le (by omega) (by omega), if_neg hf]
          have hneg : ¬ (0 : Int32) ≤ nI ch.length - nI n := by
            have := pk_sneg (a := ch.length) (b := n) (by omega) (by omega)
            rw [Int32.le_iff_toInt_le]; rw [Int32.lt_iff_toInt_lt] at this; omega
          rw [if_neg hneg]
          exact ⟨_, _, _, _, _, _, _, rfl, rfl⟩
end PARROT
