section ITEM
variable {n : Nat} {t : Nat → Nat} {b tx : Nat → Int32} {M sp he : Nat} {tr hate : Nat → Nat} {mo sk_ hr : Int32} {ts hs told mouths mouth hates : Nat → Int32}
/-- an item of L, whose numbers are read -/
def yesI (q : Nat) (rc : Option (Int32 × (Nat → Int32) × Int32 × Int32 × Int32 × (Nat → Int32) × (Nat → Int32))) (rq : Option (Int32 × Int32 × (Nat → Int32) × (Nat → Int32) × (Nat → Int32) × (Nat → Int32) × (Nat → Int32))) (told mouths mouth hates : Nat → Int32) : Prop :=
  ∃ (M' : Nat) (tr' : Nat → Nat) (sp' he' : Nat) (hate' : Nat → Nat) (nums' : Nat → Int32) (mo' sk' hr' : Int32) (ts' hs' told' mouths' mouth' hates' got' : Nat → Int32), rc = some (nI q, nums', mo', sk', hr', ts', hs') ∧ rq = some (1, nI q, told', mouths', mouth', hates', got') ∧ FRq told mouths mouth hates told' mouths' mouth' hates' ∧ DR M' tr' sp' he' hate' mo' sk' hr' ts' hs' told' mouths' mouth' hates'
def noI (rc : Option (Int32 × (Nat → Int32) × Int32 × Int32 × Int32 × (Nat → Int32) × (Nat → Int32))) (rq : Option (Int32 × Int32 × (Nat → Int32) × (Nat → Int32) × (Nat → Int32) × (Nat → Int32) × (Nat → Int32))) (told mouths mouth hates : Nat → Int32) : Prop :=
  ∃ (nums' : Nat → Int32) (mo' sk' hr' at' : Int32) (ts' hs' told' mouths' mouth' hates' got' : Nat → Int32), rc = some (-1, nums', mo', sk', hr', ts', hs') ∧ rq = some (0, at', told', mouths', mouth', hates', got') ∧ FRq told mouths mouth hates told' mouths' mouth' hates'
theorem z_enter (hD : DR M tr sp he hate mo sk_ hr ts hs told mouths mouth hates) (L N q : Nat) (hq0 : 0 < q) (hL : (L = 104 ∧ N = 2) ∨ (L = 105 ∧ N = 5) ∨ (L = 116 ∧ N = 2)) {l : List Nat} (hlen : l.length = N) (hv : ∀ v, v ∈ l → v < 100) {nums got : Nat → Int32} (hn : ∀ j, j < N → nums j = nI (l.getD j 0)) (hg : ∀ j, j < N → got j = nI (l.getD j 0)) (len : Int32) :
    noI (X3_readItem_b113 (nI L) (nI q) len b nums mo sk_ hr ts hs) (X7_isItem_b201 (nI L) 1 len (nI (q - 1)) tx told mouths mouth hates got) told mouths mouth hates ∨ yesI q (X3_readItem_b113 (nI L) (nI q) len b nums mo sk_ hr ts hs) (X7_isItem_b201 (nI L) 1 len (nI (q - 1)) tx told mouths mouth hates got) told mouths mouth hates := by
  have z1 : ¬ (1 : Int32) = 0 := by decide
  have hq1 : nI (q - 1) + 1 = nI q := by rw [nI_1]; congr 1; omega
  have hgd : ∀ j, j < N → l.getD j 0 < 100 := fun j hj => hv _ (gd_mem (by omega))
  unfold X3_readItem_b113 X7_isItem_b201
  rw [if_neg z1]
  rcases hL with ⟨rfl, rfl⟩ | ⟨rfl, rfl⟩ | ⟨rfl, rfl⟩
  · rcases z_hate hD (hgd 0 (by omega)) (hgd 1 (by omega)) (hn 0 (by omega)) (hn 1 (by omega)) (hg 0 (by omega)) (hg 1 (by omega)) with ⟨e1, e2⟩ | ⟨hate', hs', hates', e1, e2, e3, e4⟩
    · refine Or.inl ⟨nums, mo, sk_, hr, nI (q - 1) + 1, ts, hs, told, mouths, mouth, hates, got, ?_, ?_, FRq.rf _ _ _ _⟩
      · rw [show X3_enter (nI 104) nums mo sk_ hr ts hs = _ from e1, gx_b6_some, if_pos rfl]
      · rw [show X7_isGood (nI 104) told mouths mouth hates got = _ from e2, gx_b5_some, if_pos rfl]
    · refine Or.inr ⟨M, tr, sp, he, hate', nums, mo, sk_, hr, ts, hs', told, mouths, mouth, hates', got, ?_, ?_, e3, e4⟩
      · rw [show X3_enter (nI 104) nums mo sk_ hr ts hs = _ from e1, gx_b6_some, if_neg z1]
      · rw [show X7_isGood (nI 104) told mouths mouth hates got = _ from e2, gx_b5_some, if_neg z1, hq1]
  · rcases z_adm hD hgd hn hg with ⟨mouths', e1, e2, e3⟩ | ⟨tr', ts', mouths', mouth', e1, e2, e3, e4⟩
    · refine Or.inl ⟨nums, mo, sk_, hr, nI (q - 1) + 1, ts, hs, told, mouths', mouth, hates, got, ?_, ?_, e3⟩
      · rw [show X3_enter (nI 105) nums mo sk_ hr ts hs = _ from e1, gx_b6_some, if_pos rfl]
      · rw [show X7_isGood (nI 105) told mouths mouth hates got = _ from e2, gx_b5_some, if_pos rfl]
    · refine Or.inr ⟨M + 1, tr', sp, he, hate, nums, nI (M + 1), sk_, hr, ts', hs, told, mouths', mouth', hates, got, ?_, ?_, e3, e4⟩
      · rw [show X3_enter (nI 105) nums mo sk_ hr ts hs = _ from e1, gx_b6_some, if_neg z1]
      · rw [show X7_isGood (nI 105) told mouths mouth hates got = _ from e2, gx_b5_some, if_neg z1, hq1]
  · rcases z_tell hD (hgd 0 (by omega)) (hgd 1 (by omega)) (hn 0 (by omega)) (hn 1 (by omega)) (hg 0 (by omega)) (hg 1 (by omega)) with ⟨told', e1, e2, e3⟩ | ⟨told', e1, e2, e3, e4⟩
    · refine Or.inl ⟨nums, mo, sk_, hr, nI (q - 1) + 1, ts, hs, told', mouths, mouth, hates, got, ?_, ?_, e3⟩
      · rw [show X3_enter (nI 116) nums mo sk_ hr ts hs = _ from e1, gx_b6_some, if_pos rfl]
      · rw [show X7_isGood (nI 116) told mouths mouth hates got = _ from e2, gx_b5_some, if_pos rfl]
    · refine Or.inr ⟨M, tr, _, _, hate, nums, mo, _, _, ts, hs, told', mouths, mouth, hates, got, ?_, ?_, e3, e4⟩
      · rw [show X3_enter (nI 116) nums mo sk_ hr ts hs = _ from e1, gx_b6_some, if_neg z1]
      · rw [show X7_isGood (nI 116) told mouths mouth hates got = _ from e2, gx_b5_some, if_neg z1, hq1]
/-- an item of a letter that is one -/
theorem z_letter (hp : pT n t (nI n) b) (hq : qT n t (nI n) tx) (hD : DR M tr sp he hate mo sk_ hr ts hs told mouths mouth hates) {p : Nat} (hpn : p < n) (L N : Nat) (hL : (L = 104 ∧ N = 2) ∨ (L = 105 ∧ N = 5) ∨ (L = 116 ∧ N = 2)) (nums got : Nat → Int32) :
    noI (X3_readItem_l27 X3_readItem_b113 gx_F (nI L) (nI N) (nI (p + 1)) 0 (nI n) b nums mo sk_ hr ts hs) (X7_isItem_b57 (nI L) (nI N) 1 (nI n) (nI (p + 1)) tx told mouths mouth hates got) told mouths mouth hates ∨ ∃ q, p < q ∧ q ≤ n ∧ yesI q (X3_readItem_l27 X3_readItem_b113 gx_F (nI L) (nI N) (nI (p + 1)) 0 (nI n) b nums mo sk_ hr ts hs) (X7_isItem_b57 (nI L) (nI N) 1 (nI n) (nI (p + 1)) tx told mouths mouth hates got) told mouths mouth hates := by
  have z1 : ¬ (1 : Int32) = 0 := by decide
  have hn := hp.1
  obtain ⟨m, rfl⟩ : ∃ m, N = m + 1 := ⟨N - 1, by omega⟩
  have hm5 : m + 1 ≤ 5 := by omega
  obtain ⟨f, hf⟩ : ∃ f, gx_F = f + 1 + 1 := ⟨gx_F - 2, by rw [gx_F_eq]⟩
  have hfb : 1000 < f := by have := gx_F_eq; omega
  have eq0 : X7_isItem_b57 (nI L) (nI (m + 1)) 1 (nI n) (nI (p + 1)) tx told mouths mouth hates got = X7_isItem_b122 (X7_isItem_l61 X7_isItem_b167 (f + 1)) X7_isItem_b167 (nI L) (nI (m + 1)) 1 (nI 0) 0 (nI (p + 1)) (nI n) (nI (p + 1)) tx told mouths mouth hates got := by
    unfold X7_isItem_b57
    rw [hf]
    show X7_isItem_b61 _ _ _ _ _ _ _ _ _ _ _ _ _ _ = _
    unfold X7_isItem_b61
    rw [if_neg (show ¬ nI (m + 1) ≤ 0 from nI_nle (by omega) (by omega)), if_neg z1, if_pos rfl]
    unfold X7_isItem_b101 X7_isItem_b106
    rw [if_pos rfl]
    rfl
  rw [eq0]
  have cl := citem_l hp X3_readItem_b113 (nI L) mo sk_ hr ts hs (m + 1) gx_F 0 (p + 1) nums (by omega) (by rw [gx_F_eq]; omega) (by omega)
  rw [Nat.zero_add] at cl
  rw [show (0 : Int32) = nI 0 from rfl]
  have hs0 : nI (p + 1) + nI 0 = nI (p + 1) := by rw [pz_add, Nat.add_zero]
  rw [psq_s] at cl
  rcases qnum hp hq (nI L) (nI (p + 1)) (m + 1) 0 (p + 1) (by omega) (by omega) (nI 0) (nI (p + 1)) hs0 told mouths mouth hates got f with ⟨s1, a', got', s2⟩ | ⟨v, p', s1, s3, s4, s5, s2⟩
  · rw [s1] at cl
    rcases cl with ⟨-, nums', e⟩ | ⟨l, q, nums', e, -⟩
    · rw [e, s2]
      exact Or.inl ⟨nums', _, _, _, _, _, _, _, _, _, _, _, rfl, rfl, FRq.rf _ _ _ _⟩
    · exact absurd e (by simp)
  · rw [s1] at cl
    simp only [Option.bind_some] at cl
    have ql := qitem_l hp hq (nI L) told mouths mouth hates m (f + 1) 1 p' (upd got 0 (nI v)) (by omega) (by omega) (by omega) s5
    rw [show 1 + m = m + 1 by omega] at ql
    rw [s2]
    rcases ql with ⟨r1, a', got', r2⟩ | ⟨l, q, got', r1, r3, r4, r5, r2⟩
    · rw [r1] at cl
      rcases cl with ⟨-, nums', e⟩ | ⟨l, q, nums', e, -⟩
      · rw [e, r2]
        exact Or.inl ⟨nums', _, _, _, _, _, _, _, _, _, _, _, rfl, rfl, FRq.rf _ _ _ _⟩
      · exact absurd e (by simp)
    · rw [r1] at cl
      rcases cl with ⟨e, -⟩ | ⟨l', q', nums', e, e2, e3, e4, e5, e6, e7, e8⟩
      · exact absurd e (by simp)
      · simp only [Option.map_some, Option.some.injEq, Prod.mk.injEq] at e
        obtain ⟨rfl, rfl⟩ := e
        rw [e8, r2]
        have hgot : ∀ j, j < m + 1 → got' j = nI ((v :: l).getD j 0) := fun j hj => by
          cases j with
          | zero => rw [r4 0 (by omega), pz_upd_s]; rfl
          | succ j =>
            have := r5 j (by omega)
            rw [show 1 + j = j + 1 by omega] at this
            rw [this]; rfl
        have hnum : ∀ j, j < m + 1 → nums' j = nI ((v :: l).getD j 0) := fun j hj => by
          have := e7 j hj
          rwa [Nat.zero_add] at this
        rcases z_enter (b := b) (tx := tx) hD L (m + 1) q (by omega) hL e2 e3 hnum hgot (nI n) with h | h
        · exact Or.inl h
        · exact Or.inr ⟨q, by omega, e5, h⟩
theorem z_item (hp : pT n t (nI n) b) (hq : qT n t (nI n) tx) (hD : DR M tr sp he hate mo sk_ hr ts hs told mouths mouth hates) {p : Nat} (hpn : p < n) (nums got : Nat → Int32) :
    noI (X3_readItem (nI p) (nI n) b nums mo sk_ hr ts hs) (X7_isItem (nI n) (nI p) tx told mouths mouth hates got) told mouths mouth hates ∨ ∃ q, p < q ∧ q ≤ n ∧ yesI q (X3_readItem (nI p) (nI n) b nums mo sk_ hr ts hs) (X7_isItem (nI n) (nI p) tx told mouths mouth hates got) told mouths mouth hates := by
  have hn := hp.1
  have hb2 := (hp.2.2 p hpn).1
  have hq2 : tx p = txv (t p) := hq.2 p hpn
  unfold X3_readItem X7_isItem
  rw [c_byte hp p (by omega), if_pos hpn, gx_b_some, if_pos (by rw [pz_in (by omega)]; omega), gl_eq, pz_cl (by omega), hq2, nI_1]
  unfold X3_numbersOf
  by_cases h5 : t p = 105
  · rw [h5, if_neg (by decide), if_pos (by decide), gx_b_some, if_neg (by decide), gl_eq, if_pos (show txv 105 = 105 by decide)]
    unfold X7_isItem_b47
    rw [if_neg (by decide)]
    exact z_letter hp hq hD hpn 105 5 (by omega) nums got
  · by_cases h6 : t p = 116
    · rw [h6, if_neg (by decide), if_neg (by decide), if_pos (by decide), gx_b_some, if_neg (by decide), gl_eq, if_neg (show ¬ txv 116 = 105 by decide), if_pos (show txv 116 = 116 by decide)]
      unfold X7_isItem_b42 X7_isItem_b47
      rw [if_neg (by decide)]
      exact z_letter hp hq hD hpn 116 2 (by omega) nums got
    · by_cases h4 : t p = 104
      · rw [h4, if_pos (by decide), gx_b_some, if_neg (by decide), gl_eq, if_neg (show ¬ txv 104 = 105 by decide), if_neg (show ¬ txv 104 = 116 by decide), if_pos (show txv 104 = 104 by decide)]
        unfold X7_isItem_b42 X7_isItem_b47
        rw [if_neg (by decide)]
        exact z_letter hp hq hD hpn 104 2 (by omega) nums got
      · rw [if_neg (by rw [pz_l104, pz_eq (by omega) (by omega)]; exact h4), if_neg (by rw [pz_l105, pz_eq (by omega) (by omega)]; exact h5), if_neg (by rw [pz_l116, pz_eq (by omega) (by omega)]; exact h6), gx_b_some, if_pos rfl, if_neg (fun e => h5 ((tx_105 _ hb2).mp e)), if_neg (fun e => h6 ((tx_116 _ hb2).mp e)), if_neg (fun e => h4 ((tx_104 _ hb2).mp e))]
        obtain ⟨f, hf⟩ : ∃ f, gx_F = f + 1 := ⟨gx_F - 1, by rw [gx_F_eq]⟩
        unfold X7_isItem_b47
        rw [if_pos (by decide)]
        unfold X7_isItem_b57
        rw [hf, qfail]
        exact Or.inl ⟨nums, _, _, _, _, _, _, _, _, _, _, _, rfl, rfl, FRq.rf _ _ _ _⟩
/-- the whole text -/
theorem read_l (hp : pT n t (nI n) b) (hq : qT n t (nI n) tx) : ∀ (fuel m p k : Nat) (M : Nat) (tr : Nat → Nat) (sp he : Nat) (hate : Nat → Nat) (nums : Nat → Int32) (mo sk_ hr : Int32) (ts hs told mouths mouth hates got : Nat → Int32), p + m = n → k ≤ p → m < fuel → DR M tr sp he hate mo sk_ hr ts hs told mouths mouth hates → ∃ (r : Int32) (nums' : Nat → Int32) (mo' sk' hr' at' : Int32) (ts' hs' told' mouths' mouth' hates' got' : Nat → Int32), X3_readInto_l8 fuel (nI p) (nI k) (nI n) b nums mo sk_ hr ts hs = some (r, nums', mo', sk', hr', ts', hs') ∧ X7_fault_l9 fuel (nI n) (nI p) tx told mouths mouth hates got = some (r, at', told', mouths', mouth', hates', got') ∧ FRq told mouths mouth hates told' mouths' mouth' hates' ∧ (r = -4 → ∃ (M' : Nat) (tr' : Nat → Nat) (sp' he' : Nat) (hate' : Nat → Nat), DR M' tr' sp' he' hate' mo' sk' hr' ts' hs' told' mouths' mouth' hates') := by
  have hn := hp.1
  intro fuel
  induction fuel with
  | zero => intro m p k M tr sp he hate nums mo sk_ hr ts hs told mouths mouth hates got h1 h2 h3; omega
  | succ f ih =>
    intro m p k M tr sp he hate nums mo sk_ hr ts hs told mouths mouth hates got h1 h2 h3 hD
    have unf1 : X3_readInto_l8 (f + 1) (nI p) (nI k) (nI n) b nums mo sk_ hr ts hs = X3_readInto_b8 (X3_readInto_l8 f) (nI p) (nI k) (nI n) b nums mo sk_ hr ts hs := rfl
    have unf2 : X7_fault_l9 (f + 1) (nI n) (nI p) tx told mouths mouth hates got = X7_fault_b9 (X7_fault_l9 f) (nI n) (nI p) tx told mouths mouth hates got := rfl
    rw [unf1, unf2]
    unfold X3_readInto_b8 X7_fault_b9
    by_cases hm : m = 0
    · have l1 : nI n ≤ nI p := by rw [pz_le (by omega) (by omega)]; omega
      rw [if_pos l1, if_pos l1]
      refine ⟨-4, nums, mo, sk_, hr, nI p, ts, hs, told, mouths, mouth, hates, got, ?_, rfl, FRq.rf _ _ _ _, fun _ => ⟨M, tr, sp, he, hate, hD⟩⟩
      split <;> rfl
    · have l1 : ¬ nI n ≤ nI p := by rw [pz_le (by omega) (by omega)]; omega
      rw [if_neg (by rw [pz_l200, pz_le (by omega) (by omega)]; omega), if_neg l1, if_neg l1]
      rcases z_item hp hq hD (p := p) (by omega) nums got with ⟨nums', mo', sk', hr', at', ts', hs', told', mouths', mouth', hates', got', e1, e2, e3⟩ | ⟨q, hq1, hq2, M', tr', sp', he', hate', nums', mo', sk', hr', ts', hs', told', mouths', mouth', hates', got', e1, e2, e3, e4⟩
      · rw [e1, e2, gx_b7_some, gx_b7_some, if_pos rfl, if_pos rfl]
        refine ⟨nI p, nums', mo', sk', hr', at', ts', hs', told', mouths', mouth', hates', got', rfl, rfl, e3, fun h => ?_⟩
        exfalso
        have := congrArg Int32.toInt h
        rw [pz_ti (by omega), show (-4 : Int32).toInt = -4 by decide] at this
        omega
      · have hne : ¬ nI q = (-1 : Int32) := fun h => by
          have := congrArg Int32.toInt h
          rw [pz_ti (by omega), show (-1 : Int32).toInt = -1 by decide] at this
          omega
        rw [e1, e2, gx_b7_some, gx_b7_some, if_neg hne, if_neg (by decide), nI_1]
        obtain ⟨r, nums2, mo2, sk2, hr2, at2, ts2, hs2, told2, mouths2, mouth2, hates2, got2, f1, f2, f3, f4⟩ := ih (n - q) q (k + 1) M' tr' sp' he' hate' nums' mo' sk' hr' ts' hs' told' mouths' mouth' hates' got' (by omega) (by omega) (by omega) e4
        exact ⟨r, nums2, mo2, sk2, hr2, at2, ts2, hs2, told2, mouths2, mouth2, hates2, got2, f1, f2, e3.tr f3, f4⟩
theorem begins_l (told mouths : Nat → Int32) : ∀ (fuel k : Nat) (hates : Nat → Int32), k ≤ 7 → 7 - k < fuel → ∃ hates' : Nat → Int32, X7_begins_l23 fuel (nI k) told mouths hates = some (told, mouths, hates') ∧ (∀ j, k ≤ j → j < 7 → hates' (7 + j) = 0) ∧ ∀ i, (i < 7 + k ∨ 14 ≤ i) → hates' i = hates i := by
  intro fuel
  induction fuel with
  | zero => intro k hates h1 h2; omega
  | succ f ih =>
    intro k hates h1 h2
    by_cases hk : k = 7
    · subst hk
      refine ⟨hates, ?_, fun j h3 h4 => by omega, fun _ _ => rfl⟩
      show X7_begins_b23 _ _ _ _ _ = _
      unfold X7_begins_b23
      rw [if_pos (by decide)]
    · obtain ⟨h', e, h3, h4⟩ := ih (k + 1) (upd hates (7 + k) 0) (by omega) (by omega)
      refine ⟨h', ?_, fun j h5 h6 => ?_, fun j h5 => ?_⟩
      · show X7_begins_b23 _ _ _ _ _ = _
        unfold X7_begins_b23
        rw [if_neg (by rw [pz_l7, pz_le (by omega) (by omega)]; omega), pz_l7, pz_add, if_pos (by rw [pz_in (by omega)]; omega), pz_cl (by omega), nI_1]
        exact e
      · by_cases hj : j = k
        · subst hj; rw [h4 _ (by omega), pz_upd_s]
        · exact h3 j (by omega) h6
      · rw [h4 j (by omega), pz_upd_n _ _ (by omega)]
theorem w_read (hp : pT n t (nI n) b) (hq : qT n t (nI n) tx) (nums : Nat → Int32) (mo sk_ hr at_ : Int32) (ts hs told mouths mouth hates got : Nat → Int32) : ∃ (r : Int32) (nums' : Nat → Int32) (mo' sk' hr' at' : Int32) (ts' hs' told' mouths' mouth' hates' got' : Nat → Int32), X3_readInto (nI n) b nums mo sk_ hr ts hs = some (r, nums', mo', sk', hr', ts', hs') ∧ X7_fault (nI n) at_ tx told mouths mouth hates got = some (r, at', told', mouths', mouth', hates', got') ∧ FRq told mouths mouth hates told' mouths' mouth' hates' ∧ (r = -4 → ∃ (M' : Nat) (tr' : Nat → Nat) (sp' he' : Nat) (hate' : Nat → Nat), DR M' tr' sp' he' hate' mo' sk' hr' ts' hs' told' mouths' mouth' hates') := by
  have hn := hp.1
  obtain ⟨h1, e1, k1⟩ := fillI 7 (by omega) 0 hs
  obtain ⟨h2, e2, k2, k3⟩ := begins_l (upd (upd told 2 0) 3 1) (upd mouths 1 0) gx_F 0 hates (by omega) (by rw [gx_F_eq]; omega)
  have hD : DR 0 (fun _ => 0) 0 1 (fun _ => 0) 0 0 1 ts h1 (upd (upd told 2 0) 3 1) (upd mouths 1 0) mouth h2 := by
    refine ⟨⟨by omega, by omega, by omega, fun _ _ => by show (0 : Nat) < 128; omega, fun i hi => by omega⟩, ⟨rfl, rfl, rfl, fun k hk => by omega, fun i hi => k1 i hi⟩, ⟨pz_upd_s _ _ _, ?_, ?_, fun k hk => by omega, fun i hi => ?_⟩⟩
    · show upd (upd told 2 0) 3 1 2 = _
      rw [pz_upd_n _ _ (by omega), pz_upd_s]; rfl
    · show upd (upd told 2 0) 3 1 3 = _
      rw [pz_upd_s]; rfl
    · rw [Nat.mul_one]; exact k2 i (by omega) hi
  have fr : FRq told mouths mouth hates (upd (upd told 2 0) 3 1) (upd mouths 1 0) mouth h2 := ⟨fun j hj => by rw [pz_upd_n _ _ (by omega), pz_upd_n _ _ (by omega)], pz_upd_n _ _ (by omega), fun _ _ => rfl, fun j hj => k3 j (by omega)⟩
  obtain ⟨r, nums2, mo2, sk2, hr2, at2, ts2, hs2, told2, mouths2, mouth2, hates2, got2, f1, f2, f3, f4⟩ := read_l hp hq gx_F n 0 0 0 (fun _ => 0) 0 1 (fun _ => 0) nums 0 0 1 ts h1 (upd (upd told 2 0) 3 1) (upd mouths 1 0) mouth h2 got (by omega) (by omega) (by rw [gx_F_eq]; omega) hD
  refine ⟨r, nums2, mo2, sk2, hr2, at2, ts2, hs2, told2, mouths2, mouth2, hates2, got2, ?_, ?_, fr.tr f3, f4⟩
  · unfold X3_readInto X0_clear
    rw [e1, gx_b_some, gx_b4_some]
    exact f1
  · unfold X7_fault X7_begins
    rw [if_pos (by decide), if_pos (by decide), if_pos (by decide), show (2 : Int32).toNatClampNeg = 2 from rfl, show (3 : Int32).toNatClampNeg = 3 from rfl, show (1 : Int32).toNatClampNeg = 1 from rfl, show X7_begins_l23 gx_F (0 : Int32) _ _ hates = _ from e2, gx_b3_some]
    exact f2
end ITEM
