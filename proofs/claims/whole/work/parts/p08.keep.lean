/-! ===== what is kept ===== -/
def wK (M : Nat) (K : List (List Nat × List Nat)) : Prop := K.length ≤ 2 ∧ ∀ e, e ∈ K → wH M e.1 e.2
def pK (K : List (List Nat × List Nat)) (kept fse fsp : Int32) (fs fw : Nat → Int32) (sse ssp : Int32) (ss sw : Nat → Int32) : Prop := kept = nI K.length ∧ (∀ e, K[0]? = some e → pH e.1 e.2 fse fsp fs fw) ∧ ∀ e, K[1]? = some e → pH e.1 e.2 sse ssp ss sw
def qK (K : List (List Nat × List Nat)) (kept : Int32) (seated chain words word : Nat → Int32) : Prop := kept = nI K.length ∧ (∀ e, K[0]? = some e → qH 1 e.1 e.2 seated chain words word) ∧ ∀ e, K[1]? = some e → qH 2 e.1 e.2 seated chain words word
theorem copies_l (a b : Nat) (hab : a ≠ b) (ha : a < 3) (hb : b < 3) (seated words : Nat → Int32) : ∀ (fuel k : Nat) (chain word : Nat → Int32), k ≤ 12 → 12 - k < fuel → ∃ chain' word' : Nat → Int32, X7_copies_l26 fuel (nI a) (nI b) (nI k) seated chain words word = some (seated, chain', words, word') ∧ (∀ j, k ≤ j → j < 12 → word' (12 * b + j) = word (12 * a + j)) ∧ (∀ q, ¬ (12 * b + k ≤ q ∧ q < 12 * b + 12) → word' q = word q) ∧ (∀ j, k ≤ j → j < 7 → chain' (7 * b + j) = chain (7 * a + j)) ∧ ∀ q, ¬ (7 * b + k ≤ q ∧ q < 7 * b + 7) → chain' q = chain q := by
  intro fuel
  induction fuel with
  | zero => intro k chain word h1 h2; omega
  | succ n ih =>
    intro k chain word h1 h2
    by_cases hk : k = 12
    · subst hk
      refine ⟨chain, word, ?_, fun j h3 h4 => by omega, fun _ _ => rfl, fun j h3 h4 => by omega, fun _ _ => rfl⟩
      show X7_copies_b26 _ _ _ _ _ _ _ _ = _
      simp (disch := omega) only [X7_copies_b26, pz_l0, pz_l1, pz_l2, pz_l3, pz_l4, pz_l5, pz_l6, pz_l7, pz_l8, pz_l9, pz_l10, pz_l11, pz_l12, pz_l13, pz_l20, pz_l21, pz_l31, pz_l32, pz_l34, pz_l35, pz_l36, pz_l37, pz_l38, pz_l39, pz_l44, pz_l48, pz_l50, pz_l57, pz_l59, pz_l70, pz_l99, pz_l100, pz_l104, pz_l105, pz_l116, pz_l128, pz_l199, pz_l200, pz_l255, pz_l9999, pz_l10000, pz_lt, pz_le, pz_eq, pz_cl, pz_in, pz_add, pz_mul, pz_sub, if_pos, if_neg, ↓reduceIte]
    · by_cases hk7 : k < 7
      · obtain ⟨c', w', e, h3, h4, h5, h6⟩ := ih (k + 1) (upd chain (7 * b + k) (chain (7 * a + k))) (upd word (12 * b + k) (word (12 * a + k))) (by omega) (by omega)
        refine ⟨c', w', ?_, fun j h7 h8 => ?_, fun q h7 => ?_, fun j h7 h8 => ?_, fun q h7 => ?_⟩
        · show X7_copies_b26 _ _ _ _ _ _ _ _ = _
          simp (disch := omega) only [X7_copies_b26, X7_copies_b82, pz_l0, pz_l1, pz_l2, pz_l3, pz_l4, pz_l5, pz_l6, pz_l7, pz_l8, pz_l9, pz_l10, pz_l11, pz_l12, pz_l13, pz_l20, pz_l21, pz_l31, pz_l32, pz_l34, pz_l35, pz_l36, pz_l37, pz_l38, pz_l39, pz_l44, pz_l48, pz_l50, pz_l57, pz_l59, pz_l70, pz_l99, pz_l100, pz_l104, pz_l105, pz_l116, pz_l128, pz_l199, pz_l200, pz_l255, pz_l9999, pz_l10000, pz_lt, pz_le, pz_eq, pz_cl, pz_in, pz_add, pz_mul, pz_sub, if_pos, if_neg, ↓reduceIte]
          exact e
        · by_cases hj : j = k
          · subst hj; rw [h4 _ (by omega), pz_upd_s]
          · rw [h3 j (by omega) h8, pz_upd_n _ _ (by omega)]
        · rw [h4 q (by omega), pz_upd_n _ _ (by omega)]
        · by_cases hj : j = k
          · subst hj; rw [h6 _ (by omega), pz_upd_s]
          · rw [h5 j (by omega) h8, pz_upd_n _ _ (by omega)]
        · rw [h6 q (by omega), pz_upd_n _ _ (by omega)]
      · obtain ⟨c', w', e, h3, h4, h5, h6⟩ := ih (k + 1) chain (upd word (12 * b + k) (word (12 * a + k))) (by omega) (by omega)
        refine ⟨c', w', ?_, fun j h7 h8 => ?_, fun q h7 => ?_, fun j h7 h8 => by omega, fun q h7 => h6 q (by omega)⟩
        · show X7_copies_b26 _ _ _ _ _ _ _ _ = _
          simp (disch := omega) only [X7_copies_b26, X7_copies_b82, pz_l0, pz_l1, pz_l2, pz_l3, pz_l4, pz_l5, pz_l6, pz_l7, pz_l8, pz_l9, pz_l10, pz_l11, pz_l12, pz_l13, pz_l20, pz_l21, pz_l31, pz_l32, pz_l34, pz_l35, pz_l36, pz_l37, pz_l38, pz_l39, pz_l44, pz_l48, pz_l50, pz_l57, pz_l59, pz_l70, pz_l99, pz_l100, pz_l104, pz_l105, pz_l116, pz_l128, pz_l199, pz_l200, pz_l255, pz_l9999, pz_l10000, pz_lt, pz_le, pz_eq, pz_cl, pz_in, pz_add, pz_mul, pz_sub, if_pos, if_neg, ↓reduceIte]
          exact e
        · by_cases hj : j = k
          · subst hj; rw [h4 _ (by omega), pz_upd_s]
          · rw [h3 j (by omega) h8, pz_upd_n _ _ (by omega)]
        · rw [h4 q (by omega), pz_upd_n _ _ (by omega)]
theorem z_copies (a b : Nat) (hab : a ≠ b) (ha : a < 3) (hb : b < 3) (seated chain words word : Nat → Int32) : ∃ se' c' wo' w' : Nat → Int32, X7_copies (nI a) (nI b) seated chain words word = some (se', c', wo', w') ∧ (∀ ch wd : List Nat, ch.length ≤ 7 → wd.length ≤ 12 → qH a ch wd seated chain words word → qH b ch wd se' c' wo' w') ∧ ∀ o, o ≠ b → ∀ ch wd : List Nat, ch.length ≤ 7 → wd.length ≤ 12 → qH o ch wd seated chain words word → qH o ch wd se' c' wo' w' := by
  obtain ⟨c', w', e, h3, h4, h5, h6⟩ := copies_l a b hab ha hb (upd seated b (seated a)) (upd words b (words a)) gx_F 0 chain word (by omega) (by rw [gx_F_eq]; omega)
  refine ⟨upd seated b (seated a), c', upd words b (words a), w', ?_, ?_, ?_⟩
  · simp (disch := omega) only [X7_copies, pz_l0, pz_l1, pz_l2, pz_l3, pz_l4, pz_l5, pz_l6, pz_l7, pz_l8, pz_l9, pz_l10, pz_l11, pz_l12, pz_l13, pz_l20, pz_l21, pz_l31, pz_l32, pz_l34, pz_l35, pz_l36, pz_l37, pz_l38, pz_l39, pz_l44, pz_l48, pz_l50, pz_l57, pz_l59, pz_l70, pz_l99, pz_l100, pz_l104, pz_l105, pz_l116, pz_l128, pz_l199, pz_l200, pz_l255, pz_l9999, pz_l10000, pz_lt, pz_le, pz_eq, pz_cl, pz_in, pz_add, pz_mul, pz_sub, if_pos, if_neg, ↓reduceIte]
    exact e
  · intro ch wd hc hw ⟨q1, q2, q3, q4⟩
    refine ⟨by rw [pz_upd_s, q1], by rw [pz_upd_s, q2], fun k hk => ?_, fun k hk => ?_⟩
    · rw [h5 k (by omega) (by omega)]; exact q3 k hk
    · rw [h3 k (by omega) (by omega)]; exact q4 k hk
  · intro o ho ch wd hc hw ⟨q1, q2, q3, q4⟩
    refine ⟨by rw [pz_upd_n _ _ ho, q1], by rw [pz_upd_n _ _ ho, q2], fun k hk => ?_, fun k hk => ?_⟩
    · rw [h6 _ (by omega)]; exact q3 k hk
    · rw [h4 _ (by omega)]; exact q4 k hk
theorem c_copy {ch wd : List Nat} {a b a2 b2 : Int32} {s w s2 w2 : Nat → Int32} (hc : ch.length ≤ 7) (hw : wd.length ≤ 12) (h : pH ch wd a b s w) : ∃ a' b' s' w', X1_copyFrom a2 b2 s2 w2 a b s w = some (a', b', s', w') ∧ pH ch wd a' b' s' w' := by
  obtain ⟨p1, p2, p3, p4⟩ := h
  refine ⟨a, b, _, _, rfl, p1, p2, fun k hk => ?_, fun k hk => ?_⟩
  · rw [show (0 : Int32).toNatClampNeg = 0 by decide, show (7 : Int32).toNatClampNeg = 7 by decide, pk_cpy_in (by omega) (by omega), Nat.sub_zero, Nat.zero_add]; exact p3 k hk
  · rw [show (0 : Int32).toNatClampNeg = 0 by decide, show (12 : Int32).toNatClampNeg = 12 by decide, pk_cpy_in (by omega) (by omega), Nat.sub_zero, Nat.zero_add]; exact p4 k hk
theorem w_keep {M : Nat} {ch wd : List Nat} {K : List (List Nat × List Nat)} {se spo : Int32} {seats words : Nat → Int32} {kept keptM fse fsp : Int32} {fs fw : Nat → Int32} {sse ssp : Int32} {ss sw : Nat → Int32} {seated chain wordsM word : Nat → Int32} (hw : wH M ch wd) (hp : pH ch wd se spo seats words) (hq : qH 0 ch wd seated chain wordsM word) (hwK : wK M K) (hpK : pK K kept fse fsp fs fw sse ssp ss sw) (hqK : qK K keptM seated chain wordsM word) :
    ∃ (r kept' keptM' fse' fsp' : Int32) (fs' fw' : Nat → Int32) (sse' ssp' : Int32) (ss' sw' seated' chain' wordsM' word' : Nat → Int32) (K' : List (List Nat × List Nat)), X6_keep kept se spo seats words fse fsp fs fw sse ssp ss sw = some (r, kept', fse', fsp', fs', fw', sse', ssp', ss', sw') ∧ X7_keep keptM seated chain wordsM word = some (r, keptM', seated', chain', wordsM', word') ∧ qH 0 ch wd seated' chain' wordsM' word' ∧ wK M K' ∧ pK K' kept' fse' fsp' fs' fw' sse' ssp' ss' sw' ∧ qK K' keptM' seated' chain' wordsM' word' := by
  obtain ⟨k1, k2⟩ := id hwK
  obtain ⟨k3, k4, k5⟩ := id hpK
  obtain ⟨k6, k7, k8⟩ := id hqK
  match K, k1, k2, k3, k4, k5, k6, k7, k8, hwK, hpK, hqK with
  | [], k1, k2, k3, k4, k5, k6, k7, k8, hwK, hpK, hqK =>
    obtain ⟨a', b', s', w', e1, e2⟩ := c_copy (a2 := fse) (b2 := fsp) (s2 := fs) (w2 := fw) hw.2.1 hw.2.2.2.1 hp
    obtain ⟨se', c', wo', wr', f1, f2, f3⟩ := z_copies 0 1 (by omega) (by omega) (by omega) seated chain wordsM word
    refine ⟨nI 1, nI 1, nI 1, a', b', s', w', sse, ssp, ss, sw, se', c', wo', wr', [(ch, wd)], ?_, ?_, f3 0 (by omega) ch wd hw.2.1 hw.2.2.2.1 hq, ⟨by simp, fun e he => by simp at he; rw [he]; exact hw⟩, ⟨rfl, fun e he => by simp at he; rw [← he]; exact e2, fun e he => by simp at he⟩, ⟨rfl, fun e he => by simp at he; rw [← he]; exact f2 ch wd hw.2.1 hw.2.2.2.1 hq, fun e he => by simp at he⟩⟩
    · have k3 : kept = nI 0 := k3
      simp (disch := omega) [X6_keep, k3, e1, gx_b4_some, pz_l0, pz_l1, pz_l2, pz_l3, pz_l4, pz_l5, pz_l6, pz_l7, pz_l8, pz_l9, pz_l10, pz_l11, pz_l12, pz_l13, pz_l20, pz_l21, pz_l31, pz_l32, pz_l34, pz_l35, pz_l36, pz_l37, pz_l38, pz_l39, pz_l44, pz_l48, pz_l50, pz_l57, pz_l59, pz_l70, pz_l99, pz_l100, pz_l104, pz_l105, pz_l116, pz_l128, pz_l199, pz_l200, pz_l255, pz_l9999, pz_l10000, pz_lt, pz_le, pz_eq, pz_cl, pz_in, pz_add, pz_mul, pz_sub, if_pos, if_neg, ↓reduceIte]
    · have k6 : keptM = nI 0 := k6
      simp (disch := omega) [X7_keep, k6, f1, gx_b4_some, pz_l0, pz_l1, pz_l2, pz_l3, pz_l4, pz_l5, pz_l6, pz_l7, pz_l8, pz_l9, pz_l10, pz_l11, pz_l12, pz_l13, pz_l20, pz_l21, pz_l31, pz_l32, pz_l34, pz_l35, pz_l36, pz_l37, pz_l38, pz_l39, pz_l44, pz_l48, pz_l50, pz_l57, pz_l59, pz_l70, pz_l99, pz_l100, pz_l104, pz_l105, pz_l116, pz_l128, pz_l199, pz_l200, pz_l255, pz_l9999, pz_l10000, pz_lt, pz_le, pz_eq, pz_cl, pz_in, pz_add, pz_mul, pz_sub, if_pos, if_neg, ↓reduceIte]
  | [x], k1, k2, k3, k4, k5, k6, k7, k8, hwK, hpK, hqK =>
    obtain ⟨a', b', s', w', e1, e2⟩ := c_copy (a2 := sse) (b2 := ssp) (s2 := ss) (w2 := sw) hw.2.1 hw.2.2.2.1 hp
    obtain ⟨se', c', wo', wr', f1, f2, f3⟩ := z_copies 0 2 (by omega) (by omega) (by omega) seated chain wordsM word
    have hx := k2 x (by simp)
    refine ⟨nI 2, nI 2, nI 2, fse, fsp, fs, fw, a', b', s', w', se', c', wo', wr', [x, (ch, wd)], ?_, ?_, f3 0 (by omega) ch wd hw.2.1 hw.2.2.2.1 hq, ⟨by simp, fun e he => by
      simp at he
      rcases he with rfl | rfl
      · exact hx
      · exact hw⟩, ⟨rfl, fun e he => k4 e (by simpa using he), fun e he => by simp at he; rw [← he]; exact e2⟩, ⟨rfl, fun e he => f3 1 (by omega) e.1 e.2 (by simp at he; rw [← he]; exact hx.2.1) (by simp at he; rw [← he]; exact hx.2.2.2.1) (k7 e (by simpa using he)), fun e he => by simp at he; rw [← he]; exact f2 ch wd hw.2.1 hw.2.2.2.1 hq⟩⟩
    · have k3 : kept = nI 1 := k3
      simp (disch := omega) [X6_keep, k3, e1, gx_b4_some, pz_l0, pz_l1, pz_l2, pz_l3, pz_l4, pz_l5, pz_l6, pz_l7, pz_l8, pz_l9, pz_l10, pz_l11, pz_l12, pz_l13, pz_l20, pz_l21, pz_l31, pz_l32, pz_l34, pz_l35, pz_l36, pz_l37, pz_l38, pz_l39, pz_l44, pz_l48, pz_l50, pz_l57, pz_l59, pz_l70, pz_l99, pz_l100, pz_l104, pz_l105, pz_l116, pz_l128, pz_l199, pz_l200, pz_l255, pz_l9999, pz_l10000, pz_lt, pz_le, pz_eq, pz_cl, pz_in, pz_add, pz_mul, pz_sub, if_pos, if_neg, ↓reduceIte]
    · have k6 : keptM = nI 1 := k6
      simp (disch := omega) [X7_keep, k6, f1, gx_b4_some, pz_l0, pz_l1, pz_l2, pz_l3, pz_l4, pz_l5, pz_l6, pz_l7, pz_l8, pz_l9, pz_l10, pz_l11, pz_l12, pz_l13, pz_l20, pz_l21, pz_l31, pz_l32, pz_l34, pz_l35, pz_l36, pz_l37, pz_l38, pz_l39, pz_l44, pz_l48, pz_l50, pz_l57, pz_l59, pz_l70, pz_l99, pz_l100, pz_l104, pz_l105, pz_l116, pz_l128, pz_l199, pz_l200, pz_l255, pz_l9999, pz_l10000, pz_lt, pz_le, pz_eq, pz_cl, pz_in, pz_add, pz_mul, pz_sub, if_pos, if_neg, ↓reduceIte]
  | [x, y], k1, k2, k3, k4, k5, k6, k7, k8, hwK, hpK, hqK =>
    refine ⟨-3, kept, keptM, fse, fsp, fs, fw, sse, ssp, ss, sw, seated, chain, wordsM, word, [x, y], ?_, ?_, hq, hwK, hpK, hqK⟩
    · have k3 : kept = nI 2 := k3
      simp (disch := omega) [X6_keep, k3, pz_l0, pz_l1, pz_l2, pz_l3, pz_l4, pz_l5, pz_l6, pz_l7, pz_l8, pz_l9, pz_l10, pz_l11, pz_l12, pz_l13, pz_l20, pz_l21, pz_l31, pz_l32, pz_l34, pz_l35, pz_l36, pz_l37, pz_l38, pz_l39, pz_l44, pz_l48, pz_l50, pz_l57, pz_l59, pz_l70, pz_l99, pz_l100, pz_l104, pz_l105, pz_l116, pz_l128, pz_l199, pz_l200, pz_l255, pz_l9999, pz_l10000, pz_lt, pz_le, pz_eq, pz_cl, pz_in, pz_add, pz_mul, pz_sub, if_pos, if_neg, ↓reduceIte]
    · have k6 : keptM = nI 2 := k6
      simp (disch := omega) [X7_keep, k6, pz_l0, pz_l1, pz_l2, pz_l3, pz_l4, pz_l5, pz_l6, pz_l7, pz_l8, pz_l9, pz_l10, pz_l11, pz_l12, pz_l13, pz_l20, pz_l21, pz_l31, pz_l32, pz_l34, pz_l35, pz_l36, pz_l37, pz_l38, pz_l39, pz_l44, pz_l48, pz_l50, pz_l57, pz_l59, pz_l70, pz_l99, pz_l100, pz_l104, pz_l105, pz_l116, pz_l128, pz_l199, pz_l200, pz_l255, pz_l9999, pz_l10000, pz_lt, pz_le, pz_eq, pz_cl, pz_in, pz_add, pz_mul, pz_sub, if_pos, if_neg, ↓reduceIte]
  | x :: y :: z :: l, k1, _, _, _, _, _, _, _, _, _, _ => exact absurd k1 (by simp)
theorem w_again {M : Nat} {ch wd : List Nat} {K : List (List Nat × List Nat)} {se spo held done : Int32} {seats words : Nat → Int32} {kept keptM fse fsp : Int32} {fs fw : Nat → Int32} {sse ssp : Int32} {ss sw : Nat → Int32} {seated chain wordsM word : Nat → Int32} (hw : wH M ch wd) (hp : pH ch wd se spo seats words) (hq : qH 0 ch wd seated chain wordsM word) (hwK : wK M K) (hpK : pK K kept fse fsp fs fw sse ssp ss sw) (hqK : qK K keptM seated chain wordsM word) :
    (K = [] ∧ X6_again kept se spo seats words held fse fsp fs fw sse ssp ss sw = some (-2, kept, se, spo, seats, words, held) ∧ X7_again keptM done seated chain wordsM word = some (-2, keptM, done, seated, chain, wordsM, word)) ∨
    ∃ (r kept' keptM' se' spo' : Int32) (seats' words' seated' chain' wordsM' word' : Nat → Int32) (ch' wd' : List Nat) (K' : List (List Nat × List Nat)), X6_again kept se spo seats words held fse fsp fs fw sse ssp ss sw = some (r, kept', se', spo', seats', words', 0) ∧ X7_again keptM done seated chain wordsM word = some (r, keptM', 0, seated', chain', wordsM', word') ∧ wH M ch' wd' ∧ pH ch' wd' se' spo' seats' words' ∧ qH 0 ch' wd' seated' chain' wordsM' word' ∧ wK M K' ∧ pK K' kept' fse fsp fs fw sse ssp ss sw ∧ qK K' keptM' seated' chain' wordsM' word' := by
  obtain ⟨k1, k2⟩ := id hwK
  obtain ⟨k3, k4, k5⟩ := id hpK
  obtain ⟨k6, k7, k8⟩ := id hqK
  match K, k1, k2, k3, k4, k5, k6, k7, k8, hwK, hpK, hqK with
  | [], k1, k2, k3, k4, k5, k6, k7, k8, hwK, hpK, hqK =>
    refine Or.inl ⟨rfl, ?_, ?_⟩
    · have k3 : kept = nI 0 := k3
      simp (disch := omega) [X6_again, k3, pz_l0, pz_l1, pz_l2, pz_l3, pz_l4, pz_l5, pz_l6, pz_l7, pz_l8, pz_l9, pz_l10, pz_l11, pz_l12, pz_l13, pz_l20, pz_l21, pz_l31, pz_l32, pz_l34, pz_l35, pz_l36, pz_l37, pz_l38, pz_l39, pz_l44, pz_l48, pz_l50, pz_l57, pz_l59, pz_l70, pz_l99, pz_l100, pz_l104, pz_l105, pz_l116, pz_l128, pz_l199, pz_l200, pz_l255, pz_l9999, pz_l10000, pz_lt, pz_le, pz_eq, pz_cl, pz_in, pz_add, pz_mul, pz_sub, if_pos, if_neg, ↓reduceIte]
    · have k6 : keptM = nI 0 := k6
      simp (disch := omega) [X7_again, k6, pz_l0, pz_l1, pz_l2, pz_l3, pz_l4, pz_l5, pz_l6, pz_l7, pz_l8, pz_l9, pz_l10, pz_l11, pz_l12, pz_l13, pz_l20, pz_l21, pz_l31, pz_l32, pz_l34, pz_l35, pz_l36, pz_l37, pz_l38, pz_l39, pz_l44, pz_l48, pz_l50, pz_l57, pz_l59, pz_l70, pz_l99, pz_l100, pz_l104, pz_l105, pz_l116, pz_l128, pz_l199, pz_l200, pz_l255, pz_l9999, pz_l10000, pz_lt, pz_le, pz_eq, pz_cl, pz_in, pz_add, pz_mul, pz_sub, if_pos, if_neg, ↓reduceIte]
  | [x], k1, k2, k3, k4, k5, k6, k7, k8, hwK, hpK, hqK =>
    have hx := k2 x (by simp)
    obtain ⟨a', b', s', w', e1, e2⟩ := c_copy (a2 := se) (b2 := spo) (s2 := seats) (w2 := words) hx.2.1 hx.2.2.2.1 (k4 x rfl)
    obtain ⟨se', c', wo', wr', f1, f2, f3⟩ := z_copies 1 0 (by omega) (by omega) (by omega) seated chain wordsM word
    refine Or.inr ⟨nI 0, nI 0, nI 0, a', b', s', w', se', c', wo', wr', x.1, x.2, [], ?_, ?_, hx, e2, f2 _ _ hx.2.1 hx.2.2.2.1 (k7 x rfl), ⟨by simp, by simp⟩, ⟨rfl, by simp, by simp⟩, ⟨rfl, by simp, by simp⟩⟩
    · have k3 : kept = nI 1 := k3
      simp (disch := omega) [X6_again, k3, e1, X5_forget, gx_b_some, gx_b4_some, pz_l0, pz_l1, pz_l2, pz_l3, pz_l4, pz_l5, pz_l6, pz_l7, pz_l8, pz_l9, pz_l10, pz_l11, pz_l12, pz_l13, pz_l20, pz_l21, pz_l31, pz_l32, pz_l34, pz_l35, pz_l36, pz_l37, pz_l38, pz_l39, pz_l44, pz_l48, pz_l50, pz_l57, pz_l59, pz_l70, pz_l99, pz_l100, pz_l104, pz_l105, pz_l116, pz_l128, pz_l199, pz_l200, pz_l255, pz_l9999, pz_l10000, pz_lt, pz_le, pz_eq, pz_cl, pz_in, pz_add, pz_mul, pz_sub, if_pos, if_neg, ↓reduceIte]
    · have k6 : keptM = nI 1 := k6
      simp (disch := omega) [X7_again, k6, f1, gx_b4_some, pz_l0, pz_l1, pz_l2, pz_l3, pz_l4, pz_l5, pz_l6, pz_l7, pz_l8, pz_l9, pz_l10, pz_l11, pz_l12, pz_l13, pz_l20, pz_l21, pz_l31, pz_l32, pz_l34, pz_l35, pz_l36, pz_l37, pz_l38, pz_l39, pz_l44, pz_l48, pz_l50, pz_l57, pz_l59, pz_l70, pz_l99, pz_l100, pz_l104, pz_l105, pz_l116, pz_l128, pz_l199, pz_l200, pz_l255, pz_l9999, pz_l10000, pz_lt, pz_le, pz_eq, pz_cl, pz_in, pz_add, pz_mul, pz_sub, if_pos, if_neg, ↓reduceIte]
  | [x, y], k1, k2, k3, k4, k5, k6, k7, k8, hwK, hpK, hqK =>
    have hx := k2 x (by simp)
    have hy := k2 y (by simp)
    obtain ⟨a', b', s', w', e1, e2⟩ := c_copy (a2 := se) (b2 := spo) (s2 := seats) (w2 := words) hy.2.1 hy.2.2.2.1 (k5 y rfl)
    obtain ⟨se', c', wo', wr', f1, f2, f3⟩ := z_copies 2 0 (by omega) (by omega) (by omega) seated chain wordsM word
    refine Or.inr ⟨nI 1, nI 1, nI 1, a', b', s', w', se', c', wo', wr', y.1, y.2, [x], ?_, ?_, hy, e2, f2 _ _ hy.2.1 hy.2.2.2.1 (k8 y rfl), ⟨by simp, fun e he => by simp at he; rw [he]; exact hx⟩, ⟨rfl, fun e he => k4 e (by simpa using he), by simp⟩, ⟨rfl, fun e he => f3 1 (by omega) e.1 e.2 (by simp at he; rw [← he]; exact hx.2.1) (by simp at he; rw [← he]; exact hx.2.2.2.1) (k7 e (by simpa using he)), by simp⟩⟩
    · have k3 : kept = nI 2 := k3
      simp (disch := omega) [X6_again, k3, e1, X5_forget, gx_b_some, gx_b4_some, pz_l0, pz_l1, pz_l2, pz_l3, pz_l4, pz_l5, pz_l6, pz_l7, pz_l8, pz_l9, pz_l10, pz_l11, pz_l12, pz_l13, pz_l20, pz_l21, pz_l31, pz_l32, pz_l34, pz_l35, pz_l36, pz_l37, pz_l38, pz_l39, pz_l44, pz_l48, pz_l50, pz_l57, pz_l59, pz_l70, pz_l99, pz_l100, pz_l104, pz_l105, pz_l116, pz_l128, pz_l199, pz_l200, pz_l255, pz_l9999, pz_l10000, pz_lt, pz_le, pz_eq, pz_cl, pz_in, pz_add, pz_mul, pz_sub, if_pos, if_neg, ↓reduceIte]
    · have k6 : keptM = nI 2 := k6
      simp (disch := omega) [X7_again, k6, f1, gx_b4_some, pz_l0, pz_l1, pz_l2, pz_l3, pz_l4, pz_l5, pz_l6, pz_l7, pz_l8, pz_l9, pz_l10, pz_l11, pz_l12, pz_l13, pz_l20, pz_l21, pz_l31, pz_l32, pz_l34, pz_l35, pz_l36, pz_l37, pz_l38, pz_l39, pz_l44, pz_l48, pz_l50, pz_l57, pz_l59, pz_l70, pz_l99, pz_l100, pz_l104, pz_l105, pz_l116, pz_l128, pz_l199, pz_l200, pz_l255, pz_l9999, pz_l10000, pz_lt, pz_le, pz_eq, pz_cl, pz_in, pz_add, pz_mul, pz_sub, if_pos, if_neg, ↓reduceIte]
  | x :: y :: z :: l, k1, _, _, _, _, _, _, _, _, _, _ => exact absurd k1 (by simp)
