theorem dr_cons {l : List Nat} {k : Nat} (h : k < l.length) : l.drop k = l.getD k 0 :: l.drop (k + 1) := by
  rw [List.drop_eq_getElem_cons h, List.getD_eq_getElem?_getD, List.getElem?_eq_getElem h]; rfl
theorem nd_len : ∀ (M : Nat) (l : List Nat), l.Nodup → (∀ i, i ∈ l → i < M) → l.length ≤ M
  | 0, l, _, h => by
    cases l with
    | nil => simp
    | cons a l => exact absurd (h a (by simp)) (by omega)
  | M + 1, l, hn, h => by
    by_cases hm : M ∈ l
    · have h1 := nd_len M (l.erase M) (hn.erase M) (fun i hi => by
        have h2 := (hn.mem_erase_iff).mp hi
        have := h i h2.2
        omega)
      rw [List.length_erase_of_mem hm] at h1
      omega
    · have h1 := nd_len M l hn (fun i hi => by
        have h2 := h i hi
        have : i ≠ M := fun e => hm (e ▸ hi)
        omega)
      omega
theorem wS_take {M : Nat} : ∀ (dr : List Nat) (n : Nat) (ch : List Nat), wS M dr ch → wS M (dr.take n) ch
  | [], n, ch, _ => by simp [wS]
  | c :: dr, 0, ch, _ => by simp [wS]
  | c :: dr, n + 1, ch, h => by
    rw [List.take_succ_cons]
    exact ⟨fun hc => ⟨(h.1 hc).1, wS_take dr n _ (h.1 hc).2⟩, fun hc => ⟨(h.2 hc).1, (h.2 hc).2.1, wS_take dr n _ (h.2 hc).2.2⟩⟩
theorem holds_l {ch : List Nat} {seats : Nat → Int32} (hl : ch.length ≤ 7) (hs : ∀ k, k < ch.length → seats k = nI (ch.getD k 0)) (hb : ∀ i, i ∈ ch → i < 10) (i : Nat) (hi : i < 10) : ∀ (fuel k : Nat), k ≤ ch.length → ch.length - k < fuel → X1_holds_l2 fuel (nI i) (nI k) (nI ch.length) seats = some (if i ∈ ch.drop k then 1 else 0) := by
  intro fuel
  induction fuel with
  | zero => intro k h1 h2; omega
  | succ n ih =>
    intro k h1 h2
    show X1_holds_b2 _ _ _ _ _ = _
    by_cases hk : k = ch.length
    · subst hk
      simp (disch := omega) [X1_holds_b2, pz_l0, pz_l1, pz_l2, pz_l3, pz_l4, pz_l5, pz_l6, pz_l7, pz_l8, pz_l9, pz_l10, pz_l11, pz_l12, pz_l13, pz_l20, pz_l21, pz_l31, pz_l32, pz_l34, pz_l35, pz_l36, pz_l37, pz_l38, pz_l39, pz_l44, pz_l48, pz_l50, pz_l57, pz_l59, pz_l70, pz_l99, pz_l100, pz_l104, pz_l105, pz_l116, pz_l128, pz_l199, pz_l200, pz_l255, pz_l9999, pz_l10000, pz_lt, pz_le, pz_eq, pz_cl, pz_in, pz_add, pz_mul, pz_sub, if_pos, if_neg, ↓reduceIte]
    · have hk2 : k < ch.length := by omega
      have hg := hb _ (gd_mem hk2)
      rw [dr_cons hk2]
      simp (disch := omega) only [X1_holds_b2, hs k hk2, pz_l0, pz_l1, pz_l2, pz_l3, pz_l4, pz_l5, pz_l6, pz_l7, pz_l8, pz_l9, pz_l10, pz_l11, pz_l12, pz_l13, pz_l20, pz_l21, pz_l31, pz_l32, pz_l34, pz_l35, pz_l36, pz_l37, pz_l38, pz_l39, pz_l44, pz_l48, pz_l50, pz_l57, pz_l59, pz_l70, pz_l99, pz_l100, pz_l104, pz_l105, pz_l116, pz_l128, pz_l199, pz_l200, pz_l255, pz_l9999, pz_l10000, pz_lt, pz_le, pz_eq, pz_cl, pz_in, pz_add, pz_mul, pz_sub, if_pos, if_neg, ↓reduceIte, ih (k + 1)]
      by_cases he : ch.getD k 0 = i
      · rw [if_pos he, if_pos (by rw [he]; exact List.mem_cons_self)]
      · have : i ≠ ch.getD k 0 := fun e => he e.symm
        simp only [if_neg he, List.mem_cons, this, false_or]
theorem seat_l {ch : List Nat} {seated chain : Nat → Int32} (K : Int32 → Int32 → (Nat → Int32) → (Nat → Int32) → (Nat → Int32) → (Nat → Int32) → Option (Int32 × Int32 × (Nat → Int32) × (Nat → Int32) × (Nat → Int32))) (d : Int32) (mouths did : Nat → Int32) (hl : ch.length ≤ 7) (h0 : seated 0 = nI ch.length) (hs : ∀ k, k < ch.length → chain (7 * 0 + k) = nI (ch.getD k 0)) (hb : ∀ i, i ∈ ch → i < 10) (i : Nat) (hi : i < 10) : ∀ (fuel k : Nat), k ≤ ch.length → ch.length - k < fuel → X7_seat_l12 K fuel (nI i) (nI k) d mouths seated chain did = (if i ∈ ch.drop k then some (-2, d, seated, chain, did) else K (nI i) d mouths seated chain did) := by
  intro fuel
  induction fuel with
  | zero => intro k h1 h2; omega
  | succ n ih =>
    intro k h1 h2
    show X7_seat_b12 _ _ _ _ _ _ _ _ _ = _
    by_cases hk : k = ch.length
    · subst hk
      simp (disch := omega) [X7_seat_b12, h0, pz_l0, pz_l1, pz_l2, pz_l3, pz_l4, pz_l5, pz_l6, pz_l7, pz_l8, pz_l9, pz_l10, pz_l11, pz_l12, pz_l13, pz_l20, pz_l21, pz_l31, pz_l32, pz_l34, pz_l35, pz_l36, pz_l37, pz_l38, pz_l39, pz_l44, pz_l48, pz_l50, pz_l57, pz_l59, pz_l70, pz_l99, pz_l100, pz_l104, pz_l105, pz_l116, pz_l128, pz_l199, pz_l200, pz_l255, pz_l9999, pz_l10000, pz_lt, pz_le, pz_eq, pz_cl, pz_in, pz_add, pz_mul, pz_sub, if_pos, if_neg, ↓reduceIte]
    · have hk2 : k < ch.length := by omega
      have hg := hb _ (gd_mem hk2)
      have hs2 := hs k hk2
      rw [Nat.mul_zero, Nat.zero_add] at hs2
      rw [dr_cons hk2]
      simp (disch := omega) only [X7_seat_b12, h0, hs2, pz_l0, pz_l1, pz_l2, pz_l3, pz_l4, pz_l5, pz_l6, pz_l7, pz_l8, pz_l9, pz_l10, pz_l11, pz_l12, pz_l13, pz_l20, pz_l21, pz_l31, pz_l32, pz_l34, pz_l35, pz_l36, pz_l37, pz_l38, pz_l39, pz_l44, pz_l48, pz_l50, pz_l57, pz_l59, pz_l70, pz_l99, pz_l100, pz_l104, pz_l105, pz_l116, pz_l128, pz_l199, pz_l200, pz_l255, pz_l9999, pz_l10000, pz_lt, pz_le, pz_eq, pz_cl, pz_in, pz_add, pz_mul, pz_sub, if_pos, if_neg, ↓reduceIte, ih (k + 1)]
      by_cases he : ch.getD k 0 = i
      · rw [if_pos he, if_pos (by rw [he]; exact List.mem_cons_self)]
      · have : i ≠ ch.getD k 0 := fun e => he e.symm
        simp only [if_neg he, List.mem_cons, this, false_or]
theorem w_seat {M : Nat} {ch wd dr : List Nat} {se spo held done mo : Int32} {seats words latest : Nat → Int32} {seated chain wordsM word did mouths : Nat → Int32} (x1 : Int32) (hM : 0 < M) (hM7 : M ≤ 7) (hmo : mo = nI M) (hms : mouths 0 = nI M) (hw : wH M ch wd) (hp : pH ch wd se spo seats words) (hq : qH 0 ch wd seated chain wordsM word) (hpS : pS dr held latest) (hqS : qS dr done did) (hwS : wS M dr ch) :
    ∃ (r se' held' done' : Int32) (seats' latest' seated' chain' did' : Nat → Int32) (ch' dr' : List Nat), X6_seat x1 se seats held latest mo = some (r, se', seats', held', latest') ∧ X7_seat x1 done mouths seated chain did = some (r, done', seated', chain', did') ∧ wH M ch' wd ∧ pH ch' wd se' spo seats' words ∧ qH 0 ch' wd seated' chain' wordsM word ∧ (∀ k, 0 < k → seated' k = seated k) ∧ (∀ k, 7 ≤ k → chain' k = chain k) ∧ pS dr' held' latest' ∧ qS dr' done' did' ∧ wS M dr' ch' := by
  obtain ⟨w1, w2, w3, w4, w5⟩ := id hw
  obtain ⟨p1, p2, p3, p4⟩ := id hp
  obtain ⟨q1, q2, q3, q4⟩ := id hq
  have hb : ∀ i, i ∈ ch → i < 10 := fun i hi => by have := w3 i hi; omega
  rcases z_mouth x1 mouths hM hM7 hms with ⟨e1, e2⟩ | ⟨i, hi, rfl, e1, e2⟩
  · exact ⟨-1, se, held, done, seats, latest, seated, chain, did, ch, dr, by simp [X6_seat, hmo, e1, gx_b_some], by simp [X7_seat, e2, gx_b_some], hw, hp, hq, fun _ _ => rfl, fun _ _ => rfl, hpS, hqS, hwS⟩
  · have f1 := holds_l w2 p3 hb i (by omega) gx_F 0 (by omega) (by rw [gx_F_eq]; omega)
    have f2 := seat_l X7_seat_b41 done mouths did w2 q1 q3 hb i (by omega) gx_F 0 (by omega) (by rw [gx_F_eq]; omega)
    rw [List.drop_zero] at f1 f2
    by_cases hin : i ∈ ch
    · rw [if_pos hin] at f1 f2
      exact ⟨-2, se, held, done, seats, latest, seated, chain, did, ch, dr, by simp (disch := omega) [X6_seat, hmo, e1, gx_b_some, X1_holds, p1, f1, pz_l0, pz_l1, pz_l2, pz_l3, pz_l4, pz_l5, pz_l6, pz_l7, pz_l8, pz_l9, pz_l10, pz_l11, pz_l12, pz_l13, pz_l20, pz_l21, pz_l31, pz_l32, pz_l34, pz_l35, pz_l36, pz_l37, pz_l38, pz_l39, pz_l44, pz_l48, pz_l50, pz_l57, pz_l59, pz_l70, pz_l99, pz_l100, pz_l104, pz_l105, pz_l116, pz_l128, pz_l199, pz_l200, pz_l255, pz_l9999, pz_l10000, pz_lt, pz_le, pz_eq, pz_cl, pz_in, pz_add, pz_mul, pz_sub, if_pos, if_neg, ↓reduceIte], by simp (disch := omega) [X7_seat, e2, gx_b_some, f2, pz_l0, pz_l1, pz_l2, pz_l3, pz_l4, pz_l5, pz_l6, pz_l7, pz_l8, pz_l9, pz_l10, pz_l11, pz_l12, pz_l13, pz_l20, pz_l21, pz_l31, pz_l32, pz_l34, pz_l35, pz_l36, pz_l37, pz_l38, pz_l39, pz_l44, pz_l48, pz_l50, pz_l57, pz_l59, pz_l70, pz_l99, pz_l100, pz_l104, pz_l105, pz_l116, pz_l128, pz_l199, pz_l200, pz_l255, pz_l9999, pz_l10000, pz_lt, pz_le, pz_eq, pz_cl, pz_in, pz_add, pz_mul, pz_sub, if_pos, if_neg, ↓reduceIte], hw, hp, hq, fun _ _ => rfl, fun _ _ => rfl, hpS, hqS, hwS⟩
    · rw [if_neg hin] at f1 f2
      have hn : (i :: ch).Nodup := List.nodup_cons.mpr ⟨hin, w1⟩
      have hlen := nd_len M (i :: ch) hn (fun j hj => by
        rcases List.mem_cons.mp hj with h | h
        · omega
        · exact w3 j h)
      simp only [List.length_cons] at hlen
      obtain ⟨h', l', d', di', g1, g2, g3, g4⟩ := z_note i (by omega) hpS hqS
      have er : rS i = -nI 1 := by unfold rS; rw [if_pos (by omega)]; rfl
      rw [er] at g1
      refine ⟨nI (ch.length + 1), nI (ch.length + 1), h', d', upd seats ch.length (nI i), l', upd seated 0 (nI (ch.length + 1)), upd chain ch.length (nI i), di', ch ++ [i], (i :: dr).take 8, ?_, ?_, ⟨?_, by simp; omega, ?_, w4, w5⟩, ⟨by simp, p2, ?_, p4⟩, ⟨by simp [pz_upd_s], q2, ?_, q4⟩, fun k hk => pz_upd_n _ _ (by omega), fun k hk => pz_upd_n _ _ (by omega), g3, g4, ?_⟩
      · simp (disch := omega) [X6_seat, hmo, e1, gx_b_some, gx_b2_some, X1_holds, X1_sit, X1_seated, p1, f1, g1, pz_l0, pz_l1, pz_l2, pz_l3, pz_l4, pz_l5, pz_l6, pz_l7, pz_l8, pz_l9, pz_l10, pz_l11, pz_l12, pz_l13, pz_l20, pz_l21, pz_l31, pz_l32, pz_l34, pz_l35, pz_l36, pz_l37, pz_l38, pz_l39, pz_l44, pz_l48, pz_l50, pz_l57, pz_l59, pz_l70, pz_l99, pz_l100, pz_l104, pz_l105, pz_l116, pz_l128, pz_l199, pz_l200, pz_l255, pz_l9999, pz_l10000, pz_lt, pz_le, pz_eq, pz_cl, pz_in, pz_add, pz_mul, pz_sub, if_pos, if_neg, ↓reduceIte]
      · simp (disch := omega) [X7_seat, e2, gx_b_some, gx_b2_some, f2, X7_seat_b41, q1, g2, pz_upd_s, pz_l0, pz_l1, pz_l2, pz_l3, pz_l4, pz_l5, pz_l6, pz_l7, pz_l8, pz_l9, pz_l10, pz_l11, pz_l12, pz_l13, pz_l20, pz_l21, pz_l31, pz_l32, pz_l34, pz_l35, pz_l36, pz_l37, pz_l38, pz_l39, pz_l44, pz_l48, pz_l50, pz_l57, pz_l59, pz_l70, pz_l99, pz_l100, pz_l104, pz_l105, pz_l116, pz_l128, pz_l199, pz_l200, pz_l255, pz_l9999, pz_l10000, pz_lt, pz_le, pz_eq, pz_cl, pz_in, pz_add, pz_mul, pz_sub, if_pos, if_neg, ↓reduceIte]
      · rw [List.nodup_append]
        refine ⟨w1, by simp, ?_⟩
        intro a ha b hb2 e
        simp at hb2
        exact hin (by rw [← hb2, ← e]; exact ha)
      · intro j hj
        rcases List.mem_append.mp hj with h | h
        · exact w3 j h
        · simp at h; omega
      · intro k hk
        simp at hk
        by_cases hk2 : k = ch.length
        · subst hk2; rw [pz_upd_s, gd_app_eq]
        · rw [pz_upd_n _ _ hk2, gd_app_lt (by omega)]; exact p3 k (by omega)
      · intro k hk
        simp at hk
        by_cases hk2 : k = ch.length
        · subst hk2; rw [Nat.mul_zero, Nat.zero_add, pz_upd_s, gd_app_eq]
        · rw [Nat.mul_zero, Nat.zero_add, pz_upd_n _ _ hk2, gd_app_lt (by omega)]
          have := q3 k (by omega)
          rwa [Nat.mul_zero, Nat.zero_add] at this
      · apply wS_take
        exact ⟨fun _ => ⟨by simp, by simpa using hwS⟩, fun h => by omega⟩
theorem dl_get {l : List Nat} {k : Nat} (h : k + 1 < l.length) : l.dropLast.getD k 0 = l.getD k 0 := by
  rw [List.getD_eq_getElem?_getD, List.getD_eq_getElem?_getD, List.getElem?_dropLast, if_pos (by omega)]
theorem dl_last {l : List Nat} (h : l ≠ []) : l.dropLast ++ [l.getD (l.length - 1) 0] = l := by
  have e : l.getD (l.length - 1) 0 = l.getLast h := by
    rw [List.getD_eq_getElem?_getD, List.getLast_eq_getElem, List.getElem?_eq_getElem (by have := List.length_pos_iff.mpr h; omega)]; rfl
  rw [e]
  exact List.dropLast_concat_getLast h
theorem dl_notin {l : List Nat} (hn : l.Nodup) (h : l ≠ []) : l.getD (l.length - 1) 0 ∉ l.dropLast := by
  intro hm
  have e := dl_last h
  rw [← e, List.nodup_append] at hn
  exact hn.2.2 _ hm _ (by simp) rfl
theorem wH_drop {M : Nat} {ch wd : List Nat} (h : wH M ch wd) : wH M ch.dropLast wd := by
  obtain ⟨w1, w2, w3, w4, w5⟩ := h
  exact ⟨w1.sublist (List.dropLast_sublist ch), by rw [List.length_dropLast]; omega, fun i hi => w3 i ((List.dropLast_sublist ch).subset hi), w4, w5⟩
theorem wH_push {M : Nat} {ch wd : List Nat} {i : Nat} (hM7 : M ≤ 7) (h : wH M ch wd) (hi : i < M) (hin : i ∉ ch) : wH M (ch ++ [i]) wd ∧ ch.length < 7 := by
  obtain ⟨w1, w2, w3, w4, w5⟩ := h
  have hn : (i :: ch).Nodup := List.nodup_cons.mpr ⟨hin, w1⟩
  have hlen := nd_len M (i :: ch) hn (fun j hj => by
    rcases List.mem_cons.mp hj with h | h
    · omega
    · exact w3 j h)
  simp only [List.length_cons] at hlen
  refine ⟨⟨?_, by simp; omega, ?_, w4, w5⟩, by omega⟩
  · rw [List.nodup_append]
    refine ⟨w1, by simp, ?_⟩
    intro a ha b hb2 e
    simp at hb2
    exact hin (by rw [← hb2, ← e]; exact ha)
  · intro j hj
    rcases List.mem_append.mp hj with h | h
    · exact w3 j h
    · simp at h; omega
theorem w_unseat {M : Nat} {ch wd dr : List Nat} {se spo held done : Int32} {seats words latest : Nat → Int32} {seated chain wordsM word did : Nat → Int32} (hM7 : M ≤ 7) (hw : wH M ch wd) (hp : pH ch wd se spo seats words) (hq : qH 0 ch wd seated chain wordsM word) (hpS : pS dr held latest) (hqS : qS dr done did) (hwS : wS M dr ch) :
    ∃ (r se' held' done' : Int32) (latest' seated' did' : Nat → Int32) (ch' dr' : List Nat), X6_unseat se seats held latest = some (r, se', held', latest') ∧ X7_unseat done seated chain did = some (r, done', seated', did') ∧ wH M ch' wd ∧ pH ch' wd se' spo seats words ∧ qH 0 ch' wd seated' chain wordsM word ∧ (∀ k, 0 < k → seated' k = seated k) ∧ pS dr' held' latest' ∧ qS dr' done' did' ∧ wS M dr' ch' := by
  obtain ⟨w1, w2, w3, w4, w5⟩ := id hw
  obtain ⟨p1, p2, p3, p4⟩ := id hp
  obtain ⟨q1, q2, q3, q4⟩ := id hq
  by_cases h0 : ch = []
  · subst h0
    refine ⟨-2, se, held, done, latest, seated, did, [], dr, ?_, ?_, hw, hp, hq, fun _ _ => rfl, hpS, hqS, hwS⟩
    · simp (disch := omega) [X6_unseat, X1_seated, p1, gx_b_some, pz_l0, pz_l1, pz_l2, pz_l3, pz_l4, pz_l5, pz_l6, pz_l7, pz_l8, pz_l9, pz_l10, pz_l11, pz_l12, pz_l13, pz_l20, pz_l21, pz_l31, pz_l32, pz_l34, pz_l35, pz_l36, pz_l37, pz_l38, pz_l39, pz_l44, pz_l48, pz_l50, pz_l57, pz_l59, pz_l70, pz_l99, pz_l100, pz_l104, pz_l105, pz_l116, pz_l128, pz_l199, pz_l200, pz_l255, pz_l9999, pz_l10000, pz_lt, pz_le, pz_eq, pz_cl, pz_in, pz_add, pz_mul, pz_sub, if_pos, if_neg, ↓reduceIte]
    · simp (disch := omega) [X7_unseat, q1, pz_l0, pz_l1, pz_l2, pz_l3, pz_l4, pz_l5, pz_l6, pz_l7, pz_l8, pz_l9, pz_l10, pz_l11, pz_l12, pz_l13, pz_l20, pz_l21, pz_l31, pz_l32, pz_l34, pz_l35, pz_l36, pz_l37, pz_l38, pz_l39, pz_l44, pz_l48, pz_l50, pz_l57, pz_l59, pz_l70, pz_l99, pz_l100, pz_l104, pz_l105, pz_l116, pz_l128, pz_l199, pz_l200, pz_l255, pz_l9999, pz_l10000, pz_lt, pz_le, pz_eq, pz_cl, pz_in, pz_add, pz_mul, pz_sub, if_pos, if_neg, ↓reduceIte]
  · have hpos : 0 < ch.length := List.length_pos_iff.mpr h0
    have hwm : ch.getD (ch.length - 1) 0 < M := w3 _ (gd_mem (by omega))
    obtain ⟨h', l', d', di', g1, g2, g3, g4⟩ := z_note (10 + ch.getD (ch.length - 1) 0) (by omega) hpS hqS
    have er : rS (10 + ch.getD (ch.length - 1) 0) = nI (ch.getD (ch.length - 1) 0) := by
      unfold rS; rw [if_neg (by omega), Nat.add_sub_cancel_left]
    rw [er] at g1
    have c3 := q3 (ch.length - 1) (by omega)
    rw [Nat.mul_zero, Nat.zero_add] at c3
    have c1 := p3 (ch.length - 1) (by omega)
    generalize hx : ch.getD (ch.length - 1) 0 = w at *
    refine ⟨nI w, nI (ch.length - 1), h', d', l', upd seated 0 (nI (ch.length - 1)), di', ch.dropLast, ((10 + w) :: dr).take 8, ?_, ?_, wH_drop hw, ⟨by rw [List.length_dropLast], p2, ?_, p4⟩, ⟨by rw [pz_upd_s, List.length_dropLast], q2, ?_, q4⟩, fun k hk => pz_upd_n _ _ (by omega), g3, g4, ?_⟩
    · simp (disch := omega) [X6_unseat, X1_seated, X1_rise, gx_l, gx_b_some, gx_b2_some, p1, c1, g1, pz_l0, pz_l1, pz_l2, pz_l3, pz_l4, pz_l5, pz_l6, pz_l7, pz_l8, pz_l9, pz_l10, pz_l11, pz_l12, pz_l13, pz_l20, pz_l21, pz_l31, pz_l32, pz_l34, pz_l35, pz_l36, pz_l37, pz_l38, pz_l39, pz_l44, pz_l48, pz_l50, pz_l57, pz_l59, pz_l70, pz_l99, pz_l100, pz_l104, pz_l105, pz_l116, pz_l128, pz_l199, pz_l200, pz_l255, pz_l9999, pz_l10000, pz_lt, pz_le, pz_eq, pz_cl, pz_in, pz_add, pz_mul, pz_sub, if_pos, if_neg, ↓reduceIte]
    · simp (disch := omega) [X7_unseat, gx_b2_some, q1, c3, g2, pz_upd_s, pz_l0, pz_l1, pz_l2, pz_l3, pz_l4, pz_l5, pz_l6, pz_l7, pz_l8, pz_l9, pz_l10, pz_l11, pz_l12, pz_l13, pz_l20, pz_l21, pz_l31, pz_l32, pz_l34, pz_l35, pz_l36, pz_l37, pz_l38, pz_l39, pz_l44, pz_l48, pz_l50, pz_l57, pz_l59, pz_l70, pz_l99, pz_l100, pz_l104, pz_l105, pz_l116, pz_l128, pz_l199, pz_l200, pz_l255, pz_l9999, pz_l10000, pz_lt, pz_le, pz_eq, pz_cl, pz_in, pz_add, pz_mul, pz_sub, if_pos, if_neg, ↓reduceIte]
    · intro k hk
      rw [List.length_dropLast] at hk
      rw [dl_get (by omega)]; exact p3 k (by omega)
    · intro k hk
      rw [List.length_dropLast] at hk
      rw [dl_get (by omega)]; exact q3 k (by omega)
    · apply wS_take
      refine ⟨fun h => by omega, fun _ => ?_⟩
      rw [Nat.add_sub_cancel_left]
      have e := dl_last h0
      rw [hx] at e
      refine ⟨hwm, ?_, by rw [e]; exact hwS⟩
      have := dl_notin w1 h0
      rwa [hx] at this
theorem w_undo {M : Nat} {ch wd dr : List Nat} {se spo held done : Int32} {seats words latest : Nat → Int32} {seated chain wordsM word did : Nat → Int32} (hM7 : M ≤ 7) (hw : wH M ch wd) (hp : pH ch wd se spo seats words) (hq : qH 0 ch wd seated chain wordsM word) (hpS : pS dr held latest) (hqS : qS dr done did) (hwS : wS M dr ch) :
    ∃ (r se' held' done' : Int32) (seats' seated' chain' : Nat → Int32) (ch' dr' : List Nat), X6_undo se seats held latest = some (r, se', seats', held') ∧ X7_undo done seated chain did = some (r, done', seated', chain') ∧ wH M ch' wd ∧ pH ch' wd se' spo seats' words ∧ qH 0 ch' wd seated' chain' wordsM word ∧ (∀ k, 0 < k → seated' k = seated k) ∧ (∀ k, 7 ≤ k → chain' k = chain k) ∧ pS dr' held' latest ∧ qS dr' done' did ∧ wS M dr' ch' := by
  obtain ⟨w1, w2, w3, w4, w5⟩ := id hw
  obtain ⟨p1, p2, p3, p4⟩ := id hp
  obtain ⟨q1, q2, q3, q4⟩ := id hq
  obtain ⟨s1, s2, s3⟩ := id hpS
  obtain ⟨t1, t2, t3⟩ := id hqS
  cases dr with
  | nil =>
    refine ⟨-2, se, held, done, seats, seated, chain, ch, [], ?_, ?_, hw, hp, hq, fun _ _ => rfl, fun _ _ => rfl, hpS, hqS, hwS⟩
    · simp (disch := omega) [X6_undo, X5_held, s2, gx_b_some, pz_l0, pz_l1, pz_l2, pz_l3, pz_l4, pz_l5, pz_l6, pz_l7, pz_l8, pz_l9, pz_l10, pz_l11, pz_l12, pz_l13, pz_l20, pz_l21, pz_l31, pz_l32, pz_l34, pz_l35, pz_l36, pz_l37, pz_l38, pz_l39, pz_l44, pz_l48, pz_l50, pz_l57, pz_l59, pz_l70, pz_l99, pz_l100, pz_l104, pz_l105, pz_l116, pz_l128, pz_l199, pz_l200, pz_l255, pz_l9999, pz_l10000, pz_lt, pz_le, pz_eq, pz_cl, pz_in, pz_add, pz_mul, pz_sub, if_pos, if_neg, ↓reduceIte]
    · simp (disch := omega) [X7_undo, t1, pz_l0, pz_l1, pz_l2, pz_l3, pz_l4, pz_l5, pz_l6, pz_l7, pz_l8, pz_l9, pz_l10, pz_l11, pz_l12, pz_l13, pz_l20, pz_l21, pz_l31, pz_l32, pz_l34, pz_l35, pz_l36, pz_l37, pz_l38, pz_l39, pz_l44, pz_l48, pz_l50, pz_l57, pz_l59, pz_l70, pz_l99, pz_l100, pz_l104, pz_l105, pz_l116, pz_l128, pz_l199, pz_l200, pz_l255, pz_l9999, pz_l10000, pz_lt, pz_le, pz_eq, pz_cl, pz_in, pz_add, pz_mul, pz_sub, if_pos, if_neg, ↓reduceIte]
  | cons cc dr =>
    simp only [List.length_cons] at s1 s2 s3 t1 t2 t3
    have l0 := s3 0 (by omega)
    have m0 := t3 0 (by omega)
    have hc20 := t2 0 (by omega)
    simp only [Nat.add_sub_cancel, Nat.sub_zero] at l0 m0
    have e0 : (cc :: dr).getD 0 0 = cc := rfl
    rw [e0] at l0 m0 hc20
    have hpS' : pS dr (nI dr.length) latest := ⟨by omega, rfl, fun k hk => by
      have := s3 (k + 1) (by omega)
      rw [show (cc :: dr).getD (k + 1) 0 = dr.getD k 0 from rfl] at this
      rw [← this]; congr 1; omega⟩
    have hqS' : qS dr (nI dr.length) did := ⟨rfl, fun k hk => t2 (k + 1) (by omega), fun k hk => by
      have := t3 (k + 1) (by omega)
      rw [show (cc :: dr).getD (k + 1) 0 = dr.getD k 0 from rfl] at this
      rw [← this]; congr 1; omega⟩
    by_cases hc : cc < 10
    · obtain ⟨h1, h2⟩ := hwS.1 hc
      have hpos : 0 < ch.length := List.length_pos_iff.mpr h1
      rw [if_pos hc] at l0
      have l1 : latest dr.length = -nI 1 := l0
      refine ⟨nI dr.length, nI (ch.length - 1), nI dr.length, nI dr.length, seats, upd seated 0 (nI (ch.length - 1)), chain, ch.dropLast, dr, ?_, ?_, wH_drop hw, ⟨by rw [List.length_dropLast], p2, ?_, p4⟩, ⟨by rw [pz_upd_s, List.length_dropLast], q2, ?_, q4⟩, fun k hk => pz_upd_n _ _ (by omega), fun _ _ => rfl, hpS', hqS', h2⟩
      · simp (disch := omega) [X6_undo, X6_undo_b45, X5_held, X5_takeLatest, X1_rise, gx_l, gx_b_some, gx_b2_some, s2, l1, p1, pz_l0, pz_l1, pz_l2, pz_l3, pz_l4, pz_l5, pz_l6, pz_l7, pz_l8, pz_l9, pz_l10, pz_l11, pz_l12, pz_l13, pz_l20, pz_l21, pz_l31, pz_l32, pz_l34, pz_l35, pz_l36, pz_l37, pz_l38, pz_l39, pz_l44, pz_l48, pz_l50, pz_l57, pz_l59, pz_l70, pz_l99, pz_l100, pz_l104, pz_l105, pz_l116, pz_l128, pz_l199, pz_l200, pz_l255, pz_l9999, pz_l10000, pz_lt, pz_le, pz_eq, pz_cl, pz_in, pz_add, pz_mul, pz_sub, if_pos, if_neg, ↓reduceIte]
      · simp (disch := omega) [X7_undo, t1, m0, q1, pz_l0, pz_l1, pz_l2, pz_l3, pz_l4, pz_l5, pz_l6, pz_l7, pz_l8, pz_l9, pz_l10, pz_l11, pz_l12, pz_l13, pz_l20, pz_l21, pz_l31, pz_l32, pz_l34, pz_l35, pz_l36, pz_l37, pz_l38, pz_l39, pz_l44, pz_l48, pz_l50, pz_l57, pz_l59, pz_l70, pz_l99, pz_l100, pz_l104, pz_l105, pz_l116, pz_l128, pz_l199, pz_l200, pz_l255, pz_l9999, pz_l10000, pz_lt, pz_le, pz_eq, pz_cl, pz_in, pz_add, pz_mul, pz_sub, if_pos, if_neg, ↓reduceIte]
      · intro k hk
        rw [List.length_dropLast] at hk
        rw [dl_get (by omega)]; exact p3 k (by omega)
      · intro k hk
        rw [List.length_dropLast] at hk
        rw [dl_get (by omega)]; exact q3 k (by omega)
    · obtain ⟨h1, h2, h3⟩ := hwS.2 (by omega)
      rw [if_neg hc] at l0
      obtain ⟨hw', hlen⟩ := wH_push hM7 hw h1 h2
      have hne : ¬ nI (cc - 10) = -nI 1 := fun e => by
        have := congrArg Int32.toInt e
        rw [pz_ti (by omega), show (-nI 1 : Int32).toInt = -1 by decide] at this
        omega
      refine ⟨nI dr.length, nI (ch.length + 1), nI dr.length, nI dr.length, upd seats ch.length (nI (cc - 10)), upd seated 0 (nI (ch.length + 1)), upd chain ch.length (nI (cc - 10)), ch ++ [cc - 10], dr, ?_, ?_, hw', ⟨by simp, p2, ?_, p4⟩, ⟨by simp [pz_upd_s], q2, ?_, q4⟩, fun k hk => pz_upd_n _ _ (by omega), fun k hk => pz_upd_n _ _ (by omega), hpS', hqS', h3⟩
      · simp (disch := omega) [X6_undo, X6_undo_b45, X5_held, X5_takeLatest, X1_sit, gx_l, gx_b_some, gx_b2_some, s2, l0, p1, hne, pz_l0, pz_l1, pz_l2, pz_l3, pz_l4, pz_l5, pz_l6, pz_l7, pz_l8, pz_l9, pz_l10, pz_l11, pz_l12, pz_l13, pz_l20, pz_l21, pz_l31, pz_l32, pz_l34, pz_l35, pz_l36, pz_l37, pz_l38, pz_l39, pz_l44, pz_l48, pz_l50, pz_l57, pz_l59, pz_l70, pz_l99, pz_l100, pz_l104, pz_l105, pz_l116, pz_l128, pz_l199, pz_l200, pz_l255, pz_l9999, pz_l10000, pz_lt, pz_le, pz_eq, pz_cl, pz_in, pz_add, pz_mul, pz_sub, if_pos, if_neg, ↓reduceIte]
      · simp (disch := omega) [X7_undo, t1, m0, q1, pz_l0, pz_l1, pz_l2, pz_l3, pz_l4, pz_l5, pz_l6, pz_l7, pz_l8, pz_l9, pz_l10, pz_l11, pz_l12, pz_l13, pz_l20, pz_l21, pz_l31, pz_l32, pz_l34, pz_l35, pz_l36, pz_l37, pz_l38, pz_l39, pz_l44, pz_l48, pz_l50, pz_l57, pz_l59, pz_l70, pz_l99, pz_l100, pz_l104, pz_l105, pz_l116, pz_l128, pz_l199, pz_l200, pz_l255, pz_l9999, pz_l10000, pz_lt, pz_le, pz_eq, pz_cl, pz_in, pz_add, pz_mul, pz_sub, if_pos, if_neg, ↓reduceIte]
      · intro k hk
        simp at hk
        by_cases hk2 : k = ch.length
        · subst hk2; rw [pz_upd_s, gd_app_eq]
        · rw [pz_upd_n _ _ hk2, gd_app_lt (by omega)]; exact p3 k (by omega)
      · intro k hk
        simp at hk
        by_cases hk2 : k = ch.length
        · subst hk2; rw [Nat.mul_zero, Nat.zero_add, pz_upd_s, gd_app_eq]
        · rw [Nat.mul_zero, Nat.zero_add, pz_upd_n _ _ hk2, gd_app_lt (by omega)]
          have := q3 k (by omega)
          rwa [Nat.mul_zero, Nat.zero_add] at this
