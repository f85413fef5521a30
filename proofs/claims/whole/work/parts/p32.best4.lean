/-! ===== the best row: the reference ===== -/
def rB (s : Option (Nat × List Nat)) (x2 : Int64) (bl : Int32) (best : Nat → Int32) : Prop :=
  match s with
  | none => x2 = -1 ∧ bl = nI 0
  | some (w, l) => x2 = lN w ∧ w ≤ 1000000000 ∧ 0 < l.length ∧ l.length ≤ 7 ∧ bl = nI l.length ∧ ∀ k, k < l.length → best k = nI (l.getD k 0)
/-- the tongue behind a row -/
def pth (tr : Nat → Nat) : List Nat → Nat → Option Nat
  | [], tg => some tg
  | i :: l, tg => match oth tr i tg with
    | none => none
    | some h => pth tr l h
theorem pth_app (tr : Nat → Nat) (i : Nat) : ∀ (r : List Nat) (t0 tg : Nat), pth tr r t0 = some tg → pth tr (r ++ [i]) t0 = oth tr i tg
  | [], t0, tg, h => by
    simp only [pth, Option.some.injEq] at h
    subst h
    show (match oth tr i t0 with | none => none | some h => some h) = _
    cases oth tr i t0 <;> rfl
  | j :: r, t0, tg, h => by
    rw [List.cons_append]
    rw [pth] at h ⊢
    cases ho : oth tr j t0 with
    | none => rw [ho] at h; simp at h
    | some h2 =>
      rw [ho] at h
      exact pth_app tr i r h2 tg h
section QBEST
variable {M sp he : Nat} {tr hate : Nat → Nat} {told mouths mouth hates : Nat → Int32}
theorem q_trait (hq : qC 0 M tr sp he hate told mouths mouth hates) {i w : Nat} (hi : i < M) (hw : w < 5) : mouth (5 * i + w) = nI (tr (5 * i + w)) := by
  have := hq.2.2.2.1 (5 * i + w) (by omega)
  rwa [Nat.mul_zero, Nat.zero_add] at this
theorem q_speaks (hw : wC M tr sp he hate) (hq : qC 0 M tr sp he hate told mouths mouth hates) {i tg : Nat} (hi : i < M) (ht : tg < 9) : X7_speaks (nI i) (nI tg) mouth = some (match oth tr i tg with | none => -1 | some h => nI h) := by
  have hM7 := hw.1
  have g := hw.2.2.2.2 i hi
  have t0 := q_trait hq hi (w := 0) (by omega)
  have t1 := q_trait hq hi (w := 1) (by omega)
  rw [Nat.add_zero] at t0
  have x0 : (5 : Int32) * nI i = nI (5 * i) := by rw [pz_l5, pz_mul]
  have i0 : gx_in (nI (5 * i)) 70 := by rw [pz_in (by omega)]; omega
  have i1 : gx_in (nI (5 * i + 1)) 70 := by rw [pz_in (by omega)]; omega
  have m0 : mouth (nI (5 * i)).toNatClampNeg = nI (tr (5 * i)) := by rw [pz_cl (by omega)]; exact t0
  have m1 : mouth (nI (5 * i + 1)).toNatClampNeg = nI (tr (5 * i + 1)) := by rw [pz_cl (by omega)]; exact t1
  unfold X7_speaks oth
  rw [x0, nI_1, if_pos i0, if_pos i1, if_pos i1, if_pos i0, m0, m1, ite_eq (by omega) (by omega), ite_eq (by omega) (by omega)]
  by_cases h1 : tr (5 * i) = tg
  · rw [if_pos h1, if_pos h1]
  · rw [if_neg h1, if_neg h1]
    by_cases h2 : tr (5 * i + 1) = tg
    · rw [if_pos h2, if_pos h2]
    · rw [if_neg h2, if_neg h2]
theorem spoken_l (hw : wC M tr sp he hate) (hq : qC 0 M tr sp he hate told mouths mouth hates) {l : List Nat} (hl : ∀ j, j ∈ l → j < M) (h8 : l.length ≤ 8) {row : Nat → Int32} (hrow : ∀ k, k < l.length → row k = nI (l.getD k 0)) : ∀ (fuel k tg : Nat), k ≤ l.length → l.length - k + 1 < fuel → tg < 9 → X7_spoken_l9 fuel (nI l.length) (nI tg) (nI k) told mouth row = some (match pth tr (l.drop k) tg with | none => -1 | some t => nI t) := by
  intro fuel
  induction fuel with
  | zero => intro k tg h1 h2; omega
  | succ f ih =>
    intro k tg h1 h2 ht
    show X7_spoken_b9 _ _ _ _ _ _ _ = _
    unfold X7_spoken_b9
    by_cases hk : k = l.length
    · subst hk
      rw [if_pos (by rw [pz_le (by omega) (by omega)]; omega), List.drop_length]
      rfl
    · have hk2 : k < l.length := by omega
      have hi := hl _ (gd_mem hk2)
      have rw1 : row (nI k).toNatClampNeg = nI (l.getD k 0) := by rw [pz_cl (by omega)]; exact hrow k hk2
      rw [if_neg (by rw [pz_le (by omega) (by omega)]; omega), if_neg (nI_pos (by omega)), if_pos (by rw [pz_in (by omega)]; omega), rw1, q_speaks hw hq hi ht, gx_b_some, nI_1, dr_cons hk2, pth]
      cases ho : oth tr (l.getD k 0) tg with
      | none =>
        show X7_spoken_l9 f (nI l.length) (-1) (nI (k + 1)) told mouth row = some (-1)
        obtain ⟨f', rfl⟩ : ∃ f', f = f' + 1 := ⟨f - 1, by omega⟩
        show X7_spoken_b9 _ _ _ _ _ _ _ = _
        unfold X7_spoken_b9
        rw [if_pos (show (-1 : Int32) < 0 by decide)]
        split <;> rfl
      | some h => exact ih (k + 1) h (by omega) (by omega) (oth_lt hw hi ho)
theorem q_spoken (hw : wC M tr sp he hate) (hq : qC 0 M tr sp he hate told mouths mouth hates) {l : List Nat} (hl : ∀ j, j ∈ l → j < M) (h8 : l.length ≤ 8) {row : Nat → Int32} (hrow : ∀ k, k < l.length → row k = nI (l.getD k 0)) : X7_spoken (nI l.length) told mouth row = some (match pth tr l sp with | none => -1 | some t => nI t) := by
  have e := spoken_l hw hq hl h8 hrow gx_F 0 sp (by omega) (by rw [gx_F_eq]; omega) hw.2.1
  rw [List.drop_zero] at e
  have q2 : told (0 : Int32).toNatClampNeg = nI sp := hq.2.1
  unfold X7_spoken
  rw [if_pos (by decide), gl_eq, q2]
  exact e
theorem next_l {r : List Nat} (h8 : r.length ≤ 7) (hr : ∀ j, j ∈ r → j < M) (hM7 : M ≤ 7) {row : Nat → Int32} (hrow : ∀ k, k < r.length → row k = nI (r.getD k 0)) {i : Nat} (hi : i < M) : ∀ (fuel k : Nat) (x : Bool), k ≤ r.length → r.length - k < fuel → X7_isNext_l41 fuel (nI r.length) (nI i) (nI (if x then 1 else 0)) (nI k) mouths hates row = some (nI (if x && decide (i ∉ r.drop k) then 1 else 0)) := by
  intro fuel
  induction fuel with
  | zero => intro k x h1 h2; omega
  | succ f ih =>
    intro k x h1 h2
    show X7_isNext_b41 _ _ _ _ _ _ _ _ = _
    unfold X7_isNext_b41 X7_isNext_b66 X7_isNext_b67
    by_cases hk : k = r.length
    · subst hk
      rw [if_pos (by rw [pz_le (by omega) (by omega)]; omega), if_pos (by cases x <;> decide), List.drop_length]
      cases x <;> simp
    · have hk2 : k < r.length := by omega
      have hg := hr _ (gd_mem hk2)
      have rw1 : row (nI k).toNatClampNeg = nI (r.getD k 0) := by rw [pz_cl (by omega)]; exact hrow k hk2
      have i0 := ih (k + 1) false (by omega) (by omega)
      have i1 := ih (k + 1) true (by omega) (by omega)
      rw [if_neg (by rw [pz_le (by omega) (by omega)]; omega), nI_1, dr_cons hk2]
      cases x with
      | false =>
        rw [if_pos (by decide)]
        exact i0
      | true =>
        rw [if_neg (by decide), if_pos (by rw [pz_in (by omega)]; omega), rw1, ite_eq (by omega) (by omega)]
        by_cases he : r.getD k 0 = i
        · rw [if_pos he]
          refine Eq.trans i0 ?_
          simp only [he]
          simp
        · rw [if_neg he]
          refine Eq.trans i1 ?_
          have : ¬ i = r.getD k 0 := fun e => he e.symm
          simp only [List.mem_cons, this, false_or]
theorem q_next (hw : wC M tr sp he hate) (hq : qC 0 M tr sp he hate told mouths mouth hates) (hM : 0 < M) {r : List Nat} (h8 : r.length ≤ 7) (hr : ∀ j, j ∈ r → j < M) {row : Nat → Int32} (hrow : ∀ k, k < r.length → row k = nI (r.getD k 0)) {i : Nat} (hi : i < M) : X7_isNext (nI r.length) (nI i) mouths hates row = some (nI (if nxt hate r i then 1 else 0)) := by
  have hM7 := hw.1
  have n1 := next_l (mouths := mouths) (hates := hates) h8 hr hM7 hrow hi gx_F 0 true (by omega) (by rw [gx_F_eq]; omega)
  have n0 := next_l (mouths := mouths) (hates := hates) h8 hr hM7 hrow hi gx_F 0 false (by omega) (by rw [gx_F_eq]; omega)
  rw [List.drop_zero] at n0 n1
  have im : X7_isMouth (nI i) mouths = some 1 := by
    rw [q_isMouth _ mouths hM hM7 hq.1, if_neg (nI_pos (by omega)), if_neg (by rw [pz_lt (by omega) (by omega)]; omega)]
  unfold X7_isNext
  rw [im, gx_b_some, if_neg (by decide)]
  unfold X7_isNext_b32 X7_isNext_b36 X7_isNext_b37 nxt
  by_cases hr0 : r = []
  · rw [if_pos (by rw [hr0]; decide)]
    refine Eq.trans n1 ?_
    subst hr0
    simp
  · have hpos : 0 < r.length := List.length_pos_iff.mpr hr0
    have hk := hr _ (gd_mem (show r.length - 1 < r.length by omega))
    have el : row (nI (r.length - 1)).toNatClampNeg = nI (r.getD (r.length - 1) 0) := by rw [pz_cl (by omega)]; exact hrow _ (by omega)
    have hb := bit_at (hate (r.getD (r.length - 1) 0)) (hw.2.2.2.1 _ (by omega)) i (by omega)
    have hh : hates (nI (r.getD (r.length - 1) 0)).toNatClampNeg = nI (hate (r.getD (r.length - 1) 0)) := by
      rw [pz_cl (by omega)]
      have := hq.2.2.2.2 (r.getD (r.length - 1) 0) (by omega)
      rwa [Nat.mul_zero, Nat.zero_add] at this
    rw [if_neg (nI_ne0 hpos (by omega)), pz_pred hpos, if_pos (by rw [pz_in (by omega)]; omega), el, if_pos (by rw [pz_in (by omega)]; omega), hh, hb]
    by_cases hod : (hate (r.getD (r.length - 1) 0)).testBit i = true
    · rw [if_neg (by rw [if_pos hod]; decide)]
      refine Eq.trans n0 ?_
      rw [hod, decide_eq_false hr0]
      simp
    · rw [if_pos (by rw [if_neg hod]; rfl)]
      refine Eq.trans n1 ?_
      rw [Bool.not_eq_true] at hod
      rw [hod, decide_eq_false hr0]
      simp
theorem best189_l (row : Nat → Int32) {d : Nat} (hd : d < 7) : ∀ (fuel k : Nat) (best : Nat → Int32), k ≤ d + 1 → d + 1 - k < fuel → ∃ best' : Nat → Int32, (∀ (K : Int32 → Int64 → Int32 → Int32 → Int32 → (Nat → Int32) → (Nat → Int32) → (Nat → Int32) → (Nat → Int32) → (Nat → Int64) → (Nat → Int32) → (Nat → Int32) → Option (Int32 × (Nat → Int64) × (Nat → Int32) × (Nat → Int32))) (x1 : Int32) (x2 : Int64) (x6 bl : Int32) (chance : Nat → Int64), X7_searches_l189 K fuel x1 x2 (nI d) x6 (nI k) bl told mouths mouth hates chance row best = K x1 x2 (nI d) x6 bl told mouths mouth hates chance row best') ∧ (∀ j, k ≤ j → j < d + 1 → best' j = row j) ∧ ∀ j, j < k → best' j = best j := by
  intro fuel
  induction fuel with
  | zero => intro k best h1 h2; omega
  | succ f ih =>
    intro k best h1 h2
    by_cases hk : k = d + 1
    · refine ⟨best, fun K x1 x2 x6 bl chance => ?_, fun j h3 h4 => by omega, fun _ _ => rfl⟩
      show X7_searches_b189 _ _ _ _ _ _ _ _ _ _ _ _ _ _ _ = _
      unfold X7_searches_b189
      rw [if_pos (by rw [pz_lt (by omega) (by omega)]; omega)]
    · obtain ⟨b', e, h3, h4⟩ := ih (k + 1) (upd best k (row k)) (by omega) (by omega)
      refine ⟨b', fun K x1 x2 x6 bl chance => ?_, fun j h5 h6 => ?_, fun j h5 => ?_⟩
      · show X7_searches_b189 _ _ _ _ _ _ _ _ _ _ _ _ _ _ _ = _
        unfold X7_searches_b189
        rw [if_neg (by rw [pz_lt (by omega) (by omega)]; omega), if_pos (show gx_in (nI k) 8 by rw [pz_in (by omega)]; omega), if_pos (show gx_in (nI k) 7 by rw [pz_in (by omega)]; omega), pz_cl (by omega), nI_1]
        exact e K x1 x2 x6 bl chance
      · by_cases hj : j = k
        · subst hj; rw [h4 _ (by omega), pz_upd_s]
        · exact h3 j (by omega) h6
      · rw [h4 j (by omega), pz_upd_n _ _ (by omega)]
/-- a row that is tried -/
theorem q_comp (hw : wC M tr sp he hate) (hq : qC 0 M tr sp he hate told mouths mouth hates) {r : List Nat} (hd : r.length < 7) (hr : ∀ j, j ∈ r → j < M) {i h tg : Nat} (hi : i < M) (ht : pth tr r sp = some tg) (ho : oth tr i tg = some h) {s : Option (Nat × List Nat)} {x2 : Int64} {bl : Int32} {chance : Nat → Int64} {row best : Nat → Int32} (hrow : ∀ k, k < r.length + 1 → row k = nI ((r ++ [i]).getD k 0)) (hc : mQ r.length (thru tr r mI) chance) (hB : rB s x2 bl best) :
    ∃ (x2' : Int64) (bl' : Int32) (chance' : Nat → Int64) (best' : Nat → Int32), rB (if h = he then tak s (thru tr (r ++ [i]) mI) (r ++ [i]) else s) x2' bl' best' ∧ mQ (r.length + 1) (thru tr (r ++ [i]) mI) chance' ∧ (∀ j, j < 100 * (r.length + 1) → chance' j = chance j) ∧ ∀ (k23 : Int32 → Int64 → Int32 → Int32 → (Nat → Int32) → (Nat → Int32) → (Nat → Int32) → (Nat → Int32) → (Nat → Int64) → (Nat → Int32) → (Nat → Int32) → Option (Int32 × (Nat → Int64) × (Nat → Int32) × (Nat → Int32))) (x1 : Int32), X7_searches_b97 k23 x1 x2 (nI r.length) (nI i) 1 bl told mouths mouth hates chance row best = X7_searches_b216 k23 x1 x2' (nI r.length) 1 bl' told mouths mouth hates chance' row best' := by
  have hM7 := hw.1
  have g := hw.2.2.2.2 i hi
  have hhe := hw.2.2.1
  have hh := oth_lt hw hi ho
  have hr' : ∀ j, j ∈ r ++ [i] → j < M := fun j hj => by
    rcases List.mem_append.mp hj with h | h
    · exact hr j h
    · simp at h; omega
  have hlen : (r ++ [i]).length = r.length + 1 := by simp
  have hM := wM_thru hw (r ++ [i]) 0 mI hr' wM_I
  rw [Nat.zero_add, hlen] at hM
  obtain ⟨f', e1, e2, e3⟩ := q_goes i (tr (5 * i + 2)) (tr (5 * i + 3)) (by omega) g.2.2.2.1 (by omega) mouth (q_trait hq hi (by omega)) (q_trait hq hi (by omega)) r.length (by omega) (thru tr r mI) chance hc
  rw [← thru_app] at e2
  have es : X7_same (nI (r.length + 1)) f' = some (lN (kp (thru tr (r ++ [i]) mI))) := q_same (by omega) e2
  have et : X7_tens ((7 : Int32) - nI r.length - 1) = some (lN (10 ^ (7 - (r.length + 1)))) := by
    rw [pz_l7, pz_l1, pz_sub (by omega), pz_sub (by omega), q_tens _ (by omega)]; congr 2
  have ep := q_spoken hw hq hr' (by rw [hlen]; omega) (row := row) (by rw [hlen]; exact hrow)
  rw [hlen, pth_app tr i r sp tg ht, ho] at ep
  have hk := kp_le (thru tr (r ++ [i]) mI)
  have hk2 := kam_le hM
  have hv : kp (thru tr (r ++ [i]) mI) * 10 ^ (7 - (r.length + 1)) ≤ 1000000000 := by
    have h1 : kp (thru tr (r ++ [i]) mI) * 10 ^ (7 - (r.length + 1)) ≤ (10 * 10 ^ (r.length + 1)) * 10 ^ (7 - (r.length + 1)) := Nat.mul_le_mul_right _ (by omega)
    have h2 : (10 * 10 ^ (r.length + 1)) * 10 ^ (7 - (r.length + 1)) = 10 * 10 ^ 7 := by
      rw [Nat.mul_assoc, ← Nat.pow_add, show r.length + 1 + (7 - (r.length + 1)) = 7 by omega]
    omega
  have q3 : told (1 : Int32).toNatClampNeg = nI he := hq.2.2.1
  have ep' : X7_spoken (nI (r.length + 1)) told mouth row = some (nI h) := ep
  have main : ∀ (k23 : Int32 → Int64 → Int32 → Int32 → (Nat → Int32) → (Nat → Int32) → (Nat → Int32) → (Nat → Int32) → (Nat → Int64) → (Nat → Int32) → (Nat → Int32) → Option (Int32 × (Nat → Int64) × (Nat → Int32) × (Nat → Int32))) (x1 : Int32), X7_searches_b97 k23 x1 x2 (nI r.length) (nI i) 1 bl told mouths mouth hates chance row best = if h = he then (if 0 < lg_cmp (lN (kp (thru tr (r ++ [i]) mI) * 10 ^ (7 - (r.length + 1)))) x2 then X7_searches_b175 k23 x1 (nI r.length) 1 (lN (kp (thru tr (r ++ [i]) mI) * 10 ^ (7 - (r.length + 1)))) bl told mouths mouth hates f' row best else (if lg_cmp (lN (kp (thru tr (r ++ [i]) mI) * 10 ^ (7 - (r.length + 1)))) x2 = 0 then (if bl ≤ nI (r.length + 1) then X7_searches_b216 k23 x1 x2 (nI r.length) 1 bl told mouths mouth hates f' row best else X7_searches_b175 k23 x1 (nI r.length) 1 (lN (kp (thru tr (r ++ [i]) mI) * 10 ^ (7 - (r.length + 1)))) bl told mouths mouth hates f' row best) else X7_searches_b216 k23 x1 x2 (nI r.length) 1 bl told mouths mouth hates f' row best)) else X7_searches_b216 k23 x1 x2 (nI r.length) 1 bl told mouths mouth hates f' row best := fun k23 x1 => by
    unfold X7_searches_b97
    rw [if_neg (show ¬ (1 : Int32) = 0 by decide), e1, gx_b_some, nI_1, es, gx_b_some, et, gx_b_some, gl_eq, lN_mul, ep', gx_b_some, if_pos (show gx_in (1 : Int32) 4 by decide), q3, ite_eq (by omega) (by omega)]
  by_cases hhe2 : h = he
  · rw [if_pos hhe2]
    generalize hvv : kp (thru tr (r ++ [i]) mI) * 10 ^ (7 - (r.length + 1)) = v at *
    obtain ⟨b', k1, k2, k3⟩ := best189_l (told := told) (mouths := mouths) (mouth := mouth) (hates := hates) row hd gx_F 0 best (by omega) (by rw [gx_F_eq]; omega)
    have take : rB (some (v, r ++ [i])) (lN v) (nI (r.length + 1)) b' := ⟨rfl, hv, by rw [hlen]; omega, by rw [hlen]; omega, by rw [hlen], fun k hk => by
      rw [hlen] at hk
      rw [k2 k (by omega) hk]; exact hrow k hk⟩
    have yes : ∀ (k23 : Int32 → Int64 → Int32 → Int32 → (Nat → Int32) → (Nat → Int32) → (Nat → Int32) → (Nat → Int32) → (Nat → Int64) → (Nat → Int32) → (Nat → Int32) → Option (Int32 × (Nat → Int64) × (Nat → Int32) × (Nat → Int32))) (x1 : Int32), X7_searches_b175 k23 x1 (nI r.length) 1 (lN v) bl told mouths mouth hates f' row best = X7_searches_b216 k23 x1 (lN v) (nI r.length) 1 (nI (r.length + 1)) told mouths mouth hates f' row b' := fun k23 x1 => by
      unfold X7_searches_b175
      rw [nI_1]
      exact k1 (X7_searches_b216 k23) x1 (lN v) 1 (nI (r.length + 1)) f'
    have etak : tak s (thru tr (r ++ [i]) mI) (r ++ [i]) = if bet s v (r.length + 1) then some (v, r ++ [i]) else s := by
      unfold tak; rw [hlen, hvv]
    rw [etak]
    cases s with
    | none =>
      obtain ⟨b1, b2⟩ := hB
      subst b1
      have := lc_m1 v (by omega)
      have d1 : (0 : Int32) < lg_cmp (lN v) (-1) := by rw [Int32.lt_iff_toInt_lt]; rw [Int32.le_iff_toInt_le] at this; omega
      exact ⟨_, _, f', b', take, e2, fun j hj => e3 j (by omega), fun k23 x1 => by rw [main, if_pos hhe2, if_pos d1, yes]⟩
    | some p =>
      obtain ⟨w, l⟩ := p
      obtain ⟨b1, b2, b3, b4, b5, b6⟩ := id hB
      subst b1
      have c1 : (0 < lg_cmp (lN v) (lN w)) = (w < v) := by
        rw [lz_gt]; exact propext (pk_lLT (by omega) (by omega))
      have c2 : (lg_cmp (lN v) (lN w) = 0) = (v = w) := by
        rw [lz_eq]; exact propext (pk_lEQ (by omega) (by omega))
      by_cases hwv : w < v
      · have d1 : 0 < lg_cmp (lN v) (lN w) := by rw [c1]; exact hwv
        have bt : bet (some (w, l)) v (r.length + 1) = true := by simp [bet, hwv]
        rw [if_pos bt]
        exact ⟨_, _, f', b', take, e2, fun j hj => e3 j (by omega), fun k23 x1 => by rw [main, if_pos hhe2, if_pos d1, yes]⟩
      · have d1 : ¬ 0 < lg_cmp (lN v) (lN w) := by rw [c1]; exact hwv
        by_cases hv2 : v = w
        · have d2 : lg_cmp (lN v) (lN w) = 0 := by rw [c2]; exact hv2
          by_cases hl : l.length ≤ r.length + 1
          · have bt : ¬ bet (some (w, l)) v (r.length + 1) = true := by simp [bet, hwv]; omega
            have d3 : bl ≤ nI (r.length + 1) := by rw [b5, pz_le (by omega) (by omega)]; exact hl
            rw [if_neg bt]
            exact ⟨_, _, f', best, hB, e2, fun j hj => e3 j (by omega), fun k23 x1 => by rw [main, if_pos hhe2, if_neg d1, if_pos d2, if_pos d3]⟩
          · have bt : bet (some (w, l)) v (r.length + 1) = true := by simp [bet, hv2]; omega
            have d3 : ¬ bl ≤ nI (r.length + 1) := by rw [b5, pz_le (by omega) (by omega)]; exact hl
            rw [if_pos bt]
            exact ⟨_, _, f', b', take, e2, fun j hj => e3 j (by omega), fun k23 x1 => by rw [main, if_pos hhe2, if_neg d1, if_pos d2, if_neg d3, yes]⟩
        · have d2 : ¬ lg_cmp (lN v) (lN w) = 0 := by rw [c2]; exact hv2
          have bt : ¬ bet (some (w, l)) v (r.length + 1) = true := by simp [bet, hwv, hv2]
          rw [if_neg bt]
          exact ⟨_, _, f', best, hB, e2, fun j hj => e3 j (by omega), fun k23 x1 => by rw [main, if_pos hhe2, if_neg d1, if_neg d2]⟩
  · rw [if_neg hhe2]
    exact ⟨_, _, f', best, hB, e2, fun j hj => e3 j (by omega), fun k23 x1 => by rw [main, if_neg hhe2]⟩
end QBEST
