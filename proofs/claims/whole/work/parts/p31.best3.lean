section CEXT
variable {M sp he : Nat} {tr hate : Nat → Nat} {mo sk_ hr : Int32} {ts hs : Nat → Int32}
/-- what a call of extend does, g levels being left -/
def exS (M : Nat) (tr : Nat → Nat) (he : Nat) (hate : Nat → Nat) (mo hr : Int32) (ts hs : Nat → Int32) (lim g : Nat) (rec : Int32 → Int32 → Int32 → Int32 → Int64 → (Nat → Int64) → (Nat → Nat → Int64) → (Nat → Nat → Int64) → (Nat → Int32) → (Nat → Int32) → (Nat → Int32) → Int32 → Int32 → (Nat → Int32) → (Nat → Int32) → Option (Int64 × (Nat → Int64) × (Nat → Nat → Int64) × (Nat → Nat → Int64) × (Nat → Int32) × (Nat → Int32) × (Nat → Int32))) : Prop :=
  ∀ (r : List Nat) (tg : Nat) (s : Option (Nat × List Nat)) (most : Int64) (lw : Nat → Int64) (lc lb : Nat → Nat → Int64) (row rows lengths : Nat → Int32), r.length + g = lim → r.Nodup → (∀ j, j ∈ r → j < M) → tg < 9 → (∀ k, k < r.length → row k = nI (r.getD k 0)) → mP (thru tr r mI) (lc r.length) → cB s lim most rows lengths → ∃ (most' : Int64) (lw' : Nat → Int64) (lc' lb' : Nat → Nat → Int64) (row' rows' lengths' : Nat → Int32), rec (nI r.length) (nI tg) (nI (bts r 0)) (nI lim) most lw lc lb row rows lengths mo hr ts hs = some (most', lw', lc', lb', row', rows', lengths') ∧ cB (srch M tr he hate g r tg (thru tr r mI) s) lim most' rows' lengths' ∧ FE lim r.length lc row rows lengths lc' row' rows' lengths'
theorem c_descend (hw : wC M tr sp he hate) (hp : pC M tr sp he hate mo sk_ hr ts hs) {lim : Nat} (hlim : lim ≤ 7) {r : List Nat} (hd : r.length < lim) (hrM : ∀ j, j ∈ r → j < M) {i : Nat} (hi : i < M) {s : Option (Nat × List Nat)} {most : Int64} {lw : Nat → Int64} {lc lb : Nat → Nat → Int64} {row rows lengths : Nat → Int32} (hrow : row r.length = nI i) (hlc : mP (thru tr r mI) (lc r.length)) (hB : cB s lim most rows lengths) :
    ((lim ≤ r.length + 1 ∨ M ≤ r.length + 1) ∧ X4_descend (nI r.length) (nI lim) most lw lc lb row lengths mo ts = some (0, lw, lc, lb)) ∨ (r.length + 1 < lim ∧ r.length + 1 < M ∧ ∃ (lw' : Nat → Int64) (lc' lb' : Nat → Nat → Int64), X4_descend (nI r.length) (nI lim) most lw lc lb row lengths mo ts = some (if bet s (kam (thru tr (r ++ [i]) mI) * 10 ^ (7 - (r.length + 1))) (r.length + 1 + 1) then 1 else 0, lw', lc', lb') ∧ mP (thru tr (r ++ [i]) mI) (lc' (r.length + 1)) ∧ ∀ k, k ≤ r.length → lc' k = lc k) := by
  have hM7 := hw.1
  unfold X4_descend
  rw [nI_1]
  by_cases h1 : lim ≤ r.length + 1
  · rw [if_pos (by rw [pz_le (by omega) (by omega)]; exact h1)]
    exact Or.inl ⟨Or.inl h1, rfl⟩
  · rw [if_neg (by rw [pz_le (by omega) (by omega)]; exact h1), X0_mouths, gx_b_some, hp.1]
    by_cases h2 : r.length + 1 < M
    · have g := hw.2.2.2.2 i hi
      have hM := wM_thru hw (r ++ [i]) 0 mI (fun j hj => by
        rcases List.mem_append.mp hj with h | h
        · exact hrM j h
        · simp at h; omega) wM_I
      have hlen : (r ++ [i]).length = r.length + 1 := by simp
      rw [Nat.zero_add, hlen] at hM
      have t2 : X0_trait (nI i) (2 : Int32) (nI M) ts = some (nI (tr (5 * i + 2))) := by
        have := c_trait hw hp hi (w := 2) (by omega)
        rw [hp.1] at this
        exact this
      have t3 : X0_trait (nI i) (3 : Int32) (nI M) ts = some (nI (tr (5 * i + 3))) := by
        have := c_trait hw hp hi (w := 3) (by omega)
        rw [hp.1] at this
        exact this
      have i7 : gx_in (nI r.length) 7 := by rw [pz_in (by omega)]; omega
      have j7 : gx_in (nI (r.length + 1)) 7 := by rw [pz_in (by omega)]; omega
      have i8 : gx_in (nI (r.length + 1)) 8 := by rw [pz_in (by omega)]; omega
      have hk2 := kam_le hM
      have hv : kam (thru tr (r ++ [i]) mI) * 10 ^ (7 - (r.length + 1)) ≤ 1000000000 := by
        have q1 : kam (thru tr (r ++ [i]) mI) * 10 ^ (7 - (r.length + 1)) ≤ (10 * 10 ^ (r.length + 1)) * 10 ^ (7 - (r.length + 1)) := Nat.mul_le_mul_right _ hk2
        have q2 : (10 * 10 ^ (r.length + 1)) * 10 ^ (7 - (r.length + 1)) = 10 * 10 ^ 7 := by
          rw [Nat.mul_assoc, ← Nat.pow_add, show r.length + 1 + (7 - (r.length + 1)) = 7 by omega]
        omega
      have sc' : gx_scale (nI (r.length + 1)).toNatClampNeg = lN (10 ^ (7 - (r.length + 1))) := by rw [pz_cl (by omega), sc_at _ (by omega)]
      have x2 : nI r.length + (2 : Int32) = nI (r.length + 1 + 1) := by rw [pz_l2, pz_add]
      have hcp : mP (thru tr r mI) (va_cpy (lc r.length) (lc (r.length + 1)) 0 0 100) := fun a b ha hb => by
        rw [pk_cpy_in (by omega) (by omega), show 0 + (10 * b + a - 0) = 10 * b + a by omega]
        exact hlc a b ha hb
      obtain ⟨f', e, hp'⟩ := c_pass (tr (5 * i + 2)) (tr (5 * i + 3)) g.2.2.2.1 (by omega) (thru tr r mI) (lw r.length) (va_cpy (lc r.length) (lc (r.length + 1)) 0 0 100) (lb (r.length + 1)) hcp
      rw [← thru_app] at hp'
      have ka := c_atmost (n := r.length + 1) (by omega) hM hp'
      have cpy : X2_copyFrom (lw (nI (r.length + 1)).toNatClampNeg) (lc (nI (r.length + 1)).toNatClampNeg) (lw (nI r.length).toNatClampNeg) (lc (nI r.length).toNatClampNeg) = some (lw r.length, va_cpy (lc r.length) (lc (r.length + 1)) 0 0 100) := by
        unfold X2_copyFrom
        rw [pz_cl (by omega), pz_cl (by omega)]
        rfl
      have lbe : lb (nI (r.length + 1)).toNatClampNeg = lb (r.length + 1) := by rw [pz_cl (by omega)]
      have rwe : row (nI r.length).toNatClampNeg = nI i := by rw [pz_cl (by omega)]; exact hrow
      rw [if_pos (by rw [pz_lt (by omega) (by omega)]; exact h2), if_pos i7, gl_eq, rwe, if_pos ⟨i7, j7⟩, cpy, gx_b2_some, t2, gx_b_some, t3, gx_b_some, lbe, e, gx_b3_some, ka, gx_b_some]
      unfold X4_descend_b73
      rw [nI_1, if_pos i8, sc', lN_mul, x2, c_better hlim hB hv (by omega), gx_b_some, pz_cl (by omega)]
      refine Or.inr ⟨by omega, h2, va_up lw (r.length + 1) (lw r.length * 10), va_up lc (r.length + 1) f', va_up lb (r.length + 1) (va_cpy (lc r.length) (lc (r.length + 1)) 0 0 100), ?_, ?_, fun k hk => va_up_ne _ _ (by omega)⟩
      · rw [if_pos (by split <;> decide)]
      · rw [va_up_self]; exact hp'
    · rw [if_neg (by rw [pz_lt (by omega) (by omega)]; exact h2)]
      exact Or.inl ⟨Or.inr (by omega), rfl⟩
theorem c_b107 (hw : wC M tr sp he hate) (hp : pC M tr sp he hate mo sk_ hr ts hs) {lim g : Nat} (hlim : lim ≤ 7) {rec : Int32 → Int32 → Int32 → Int32 → Int64 → (Nat → Int64) → (Nat → Nat → Int64) → (Nat → Nat → Int64) → (Nat → Int32) → (Nat → Int32) → (Nat → Int32) → Int32 → Int32 → (Nat → Int32) → (Nat → Int32) → Option (Int64 × (Nat → Int64) × (Nat → Nat → Int64) × (Nat → Nat → Int64) × (Nat → Int32) × (Nat → Int32) × (Nat → Int32))} (hrec : exS M tr he hate mo hr ts hs lim g rec) (k22 : Int32 → Int32 → Int32 → Int32 → Int32 → Int64 → (Nat → Int64) → (Nat → Nat → Int64) → (Nat → Nat → Int64) → (Nat → Int32) → (Nat → Int32) → (Nat → Int32) → Int32 → Int32 → (Nat → Int32) → (Nat → Int32) → Option (Int64 × (Nat → Int64) × (Nat → Nat → Int64) × (Nat → Nat → Int64) × (Nat → Int32) × (Nat → Int32) × (Nat → Int32))) {r : List Nat} (hg : r.length + (g + 1) = lim) (hnd : r.Nodup) (hrM : ∀ j, j ∈ r → j < M) {i h : Nat} (hi : i < M) (hin : i ∉ r) (hh : h < 9) (tg : Int32) {s : Option (Nat × List Nat)} {most : Int64} {lw : Nat → Int64} {lc lb : Nat → Nat → Int64} {row rows lengths : Nat → Int32} (hrow : ∀ k, k < r.length + 1 → row k = nI ((r ++ [i]).getD k 0)) (hlc : mP (thru tr r mI) (lc r.length)) (hB : cB s lim most rows lengths) :
    ∃ (most' : Int64) (lw' : Nat → Int64) (lc' lb' : Nat → Nat → Int64) (row' rows' lengths' : Nat → Int32), X4_extend_b107 rec k22 (nI r.length) tg (nI (bts r 0)) (nI i) (nI h) (nI lim) most lw lc lb row rows lengths mo hr ts hs = k22 (nI r.length) tg (nI (bts r 0)) (nI (i + 1)) (nI lim) most' lw' lc' lb' row' rows' lengths' mo hr ts hs ∧ cB (srch M tr he hate g (r ++ [i]) h (thru tr (r ++ [i]) mI) s) lim most' rows' lengths' ∧ FE lim r.length lc row rows lengths lc' row' rows' lengths' := by
  have hM7 := hw.1
  have hlen : (r ++ [i]).length = r.length + 1 := by simp
  have hnd' : (r ++ [i]).Nodup := by
    rw [List.nodup_append]
    refine ⟨hnd, by simp, ?_⟩
    intro a ha b hb e
    simp at hb
    exact hin (by rw [← hb, ← e]; exact ha)
  have hr' : ∀ j, j ∈ r ++ [i] → j < M := fun j hj => by
    rcases List.mem_append.mp hj with h | h
    · exact hrM j h
    · simp at h; omega
  have e1 : row r.length = nI i := by rw [hrow _ (by omega), gd_app_eq]
  unfold X4_extend_b107 X4_extend_b133
  rw [nI_1]
  rcases c_descend hw hp hlim (show r.length < lim by omega) hrM hi (lw := lw) (lb := lb) e1 hlc hB with ⟨h1, h2⟩ | ⟨h1, h1', lw', lc', lb', h2, h3, h4⟩
  · have eid : srch M tr he hate g (r ++ [i]) h (thru tr (r ++ [i]) mI) s = s := by
      rcases h1 with h1 | h1
      · have : g = 0 := by omega
        subst this
        rfl
      · exact prn_all g _ _ _ _ (fun j hj => nd_all hnd' hr' (by rw [hlen]; exact h1) hj)
    rw [h2, gx_b4_some, if_pos rfl, eid]
    exact ⟨_, _, _, _, _, _, _, rfl, hB, FE.rf _ _ _ _ _ _⟩
  · rw [h2, gx_b4_some]
    by_cases hb : bet s (kam (thru tr (r ++ [i]) mI) * 10 ^ (7 - (r.length + 1))) (r.length + 1 + 1) = true
    · have hor : (nI (bts r 0) ||| ((1 : Int32) <<< (nI i &&& 31))) = nI (bts (r ++ [i]) 0) := by
        rw [or_at2 (bts_lt r 0 (fun j hj => by have := hrM j hj; omega) (by omega)) (by omega), bts_app]
      obtain ⟨m2, lw2, lc2, lb2, row2, rows2, len2, f1, f2, f3⟩ := hrec (r ++ [i]) h s most lw' lc' lb' row rows lengths (by rw [hlen]; omega) hnd' hr' hh (by rw [hlen]; exact hrow) (by rw [hlen]; exact h3) hB
      rw [hlen] at f1 f3
      rw [if_pos hb, if_neg (by decide), nI_1, hor, f1, gx_b7_some]
      exact ⟨_, _, _, _, _, _, _, rfl, f2, ⟨fun k hk => f3.1 k (by omega), fun k hk => (f3.2.1 k (by omega)).trans (h4 k hk), f3.2.2.1, f3.2.2.2⟩⟩
    · have eid : srch M tr he hate g (r ++ [i]) h (thru tr (r ++ [i]) mI) s = s := prn hw g _ _ _ _ (by rw [hlen]; omega) (by rw [hlen]; simpa using hb)
      rw [if_neg hb, if_pos rfl, eid]
      exact ⟨_, _, _, _, _, _, _, rfl, hB, ⟨fun _ _ => rfl, h4, fun _ _ => rfl, fun _ _ => rfl⟩⟩
theorem c_odds (hw : wC M tr sp he hate) (hp : pC M tr sp he hate mo sk_ hr ts hs) {k i : Nat} (hk : k < M) (hi : i < M) : X0_areAtOdds (nI k) (nI i) mo hs = some (if (hate k).testBit i then 1 else 0) := by
  have hM7 := hw.1
  have hb := bit_at (hate k) (hw.2.2.2.1 k (by omega)) i (by omega)
  unfold X0_areAtOdds
  rw [hp.1, z_has hk hM7, z_has hi hM7, gx_b_some, if_neg (by decide), gx_b_some, if_neg (by decide), if_pos (by rw [pz_in (by omega)]; omega), pz_cl (by omega), hp.2.2.2.2 k (by omega), hb]
  by_cases h : (hate k).testBit i = true
  · rw [if_pos h, if_neg (by decide), if_pos h]
  · rw [if_neg h, if_pos (show nI 0 = 0 from rfl), if_neg h]
theorem c_loop (hw : wC M tr sp he hate) (hp : pC M tr sp he hate mo sk_ hr ts hs) {lim g : Nat} (hlim : lim ≤ 7) {rec : Int32 → Int32 → Int32 → Int32 → Int64 → (Nat → Int64) → (Nat → Nat → Int64) → (Nat → Nat → Int64) → (Nat → Int32) → (Nat → Int32) → (Nat → Int32) → Int32 → Int32 → (Nat → Int32) → (Nat → Int32) → Option (Int64 × (Nat → Int64) × (Nat → Nat → Int64) × (Nat → Nat → Int64) × (Nat → Int32) × (Nat → Int32) × (Nat → Int32))} (hrec : exS M tr he hate mo hr ts hs lim g rec) {r : List Nat} (hg : r.length + (g + 1) = lim) (hnd : r.Nodup) (hrM : ∀ j, j ∈ r → j < M) {tg : Nat} (htg : tg < 9) : ∀ (fuel j i : Nat) (s : Option (Nat × List Nat)) (most : Int64) (lw : Nat → Int64) (lc lb : Nat → Nat → Int64) (row rows lengths : Nat → Int32), i + j = M → j < fuel → (∀ k, k < r.length → row k = nI (r.getD k 0)) → mP (thru tr r mI) (lc r.length) → cB s lim most rows lengths → ∃ (most' : Int64) (lw' : Nat → Int64) (lc' lb' : Nat → Nat → Int64) (row' rows' lengths' : Nat → Int32), X4_extend_l22 rec fuel (nI r.length) (nI tg) (nI (bts r 0)) (nI i) (nI lim) most lw lc lb row rows lengths mo hr ts hs = some (most', lw', lc', lb', row', rows', lengths') ∧ cB (lpf (stp tr he hate (srch M tr he hate g) r tg (thru tr r mI)) i j s) lim most' rows' lengths' ∧ FE lim r.length lc row rows lengths lc' row' rows' lengths' := by
  have hM7 := hw.1
  have hb128 := bts_lt r 0 (fun j hj => by have := hrM j hj; omega) (by omega)
  intro fuel
  induction fuel with
  | zero => intro j i s most lw lc lb row rows lengths h1 h2; omega
  | succ f ih =>
    intro j i s most lw lc lb row rows lengths h1 h2 hrow hlc hB
    have unf : X4_extend_l22 rec (f + 1) (nI r.length) (nI tg) (nI (bts r 0)) (nI i) (nI lim) most lw lc lb row rows lengths mo hr ts hs = X4_extend_b22 rec (X4_extend_l22 rec f) (nI r.length) (nI tg) (nI (bts r 0)) (nI i) (nI lim) most lw lc lb row rows lengths mo hr ts hs := rfl
    rw [unf]
    unfold X4_extend_b22
    rw [X0_mouths, gx_b_some]
    cases j with
    | zero =>
      rw [if_pos (by rw [hp.1, pz_le (by omega) (by omega)]; omega)]
      exact ⟨_, _, _, _, _, _, _, rfl, hB, FE.rf _ _ _ _ _ _⟩
    | succ j =>
      have hi : i < M := by omega
      have skip : ∀ (lw : Nat → Int64) (lb : Nat → Nat → Int64), stp tr he hate (srch M tr he hate g) r tg (thru tr r mI) i s = s → ∃ (most' : Int64) (lw' : Nat → Int64) (lc' lb' : Nat → Nat → Int64) (row' rows' lengths' : Nat → Int32), X4_extend_b133 rec (X4_extend_l22 rec f) (nI r.length) (nI tg) (nI (bts r 0)) (nI i) (nI lim) most lw lc lb row rows lengths mo hr ts hs = some (most', lw', lc', lb', row', rows', lengths') ∧ cB (lpf (stp tr he hate (srch M tr he hate g) r tg (thru tr r mI)) i (j + 1) s) lim most' rows' lengths' ∧ FE lim r.length lc row rows lengths lc' row' rows' lengths' := fun lw lb hs => by
        unfold X4_extend_b133
        rw [nI_1, lpf, hs]
        exact ih j (i + 1) s most lw lc lb row rows lengths (by omega) (by omega) hrow hlc hB
      rw [if_neg (by rw [hp.1, pz_le (by omega) (by omega)]; omega), c_across hw hp hi htg, gx_b_some]
      cases ho : oth tr i tg with
      | none =>
        show ∃ (most' : Int64) (lw' : Nat → Int64) (lc' lb' : Nat → Nat → Int64) (row' rows' lengths' : Nat → Int32), (if (-4 : Int32) = -4 then _ else _) = _ ∧ _
        rw [if_pos rfl]
        exact skip lw lb (by unfold stp; rw [ho])
      | some h =>
        have hh := oth_lt hw hi ho
        show ∃ (most' : Int64) (lw' : Nat → Int64) (lc' lb' : Nat → Nat → Int64) (row' rows' lengths' : Nat → Int32), (if nI h = (-4 : Int32) then _ else _) = _ ∧ _
        have hbit := bit_at (bts r 0) hb128 i (by omega)
        rw [if_neg (brn4 (by omega)), hbit]
        by_cases hin : i ∈ r
        · rw [if_neg (by rw [if_pos (bts_in r 0 i (Or.inr hin))]; decide)]
          exact skip lw lb (by
            unfold stp; rw [ho]
            show (if nxt hate r i = true then _ else _) = _
            rw [if_neg (by simp [nxt, hin])])
        · have hnb : ¬ (bts r 0).testBit i = true := fun e => by
            rcases bts_bit r 0 i e with q | q
            · simp at q
            · exact hin q
          rw [if_pos (by rw [if_neg hnb]; rfl)]
          have good : nxt hate r i = true → ∃ (most' : Int64) (lw' : Nat → Int64) (lc' lb' : Nat → Nat → Int64) (row' rows' lengths' : Nat → Int32), X4_extend_b84 rec (X4_extend_l22 rec f) (nI r.length) (nI tg) (nI (bts r 0)) (nI i) (nI h) (nI lim) most lw lc lb row rows lengths mo hr ts hs = some (most', lw', lc', lb', row', rows', lengths') ∧ cB (lpf (stp tr he hate (srch M tr he hate g) r tg (thru tr r mI)) i (j + 1) s) lim most' rows' lengths' ∧ FE lim r.length lc row rows lengths lc' row' rows' lengths' := fun hn => by
            have hst : stp tr he hate (srch M tr he hate g) r tg (thru tr r mI) i s = srch M tr he hate g (r ++ [i]) h (thru tr (r ++ [i]) mI) (if h = he then tak s (thru tr (r ++ [i]) mI) (r ++ [i]) else s) := by
              unfold stp; rw [ho]
              show (if nxt hate r i = true then _ else _) = _
              rw [if_pos hn, thru_app]
            have hrow' : ∀ k, k < r.length + 1 → upd row r.length (nI i) k = nI ((r ++ [i]).getD k 0) := fun k hk => by
              by_cases hk2 : k = r.length
              · subst hk2; rw [pz_upd_s, gd_app_eq]
              · rw [pz_upd_n _ _ hk2, gd_app_lt (by omega)]; exact hrow k (by omega)
            have fin : ∀ (most1 : Int64) (rows1 len1 : Nat → Int32), cB (if h = he then tak s (thru tr (r ++ [i]) mI) (r ++ [i]) else s) lim most1 rows1 len1 → (∀ m, m ≠ lim → len1 m = lengths m) → (∀ k, (k < 7 * lim ∨ 7 * lim + 7 ≤ k) → rows1 k = rows k) → ∃ (most' : Int64) (lw' : Nat → Int64) (lc' lb' : Nat → Nat → Int64) (row' rows' lengths' : Nat → Int32), X4_extend_b107 rec (X4_extend_l22 rec f) (nI r.length) (nI tg) (nI (bts r 0)) (nI i) (nI h) (nI lim) most1 lw lc lb (upd row r.length (nI i)) rows1 len1 mo hr ts hs = some (most', lw', lc', lb', row', rows', lengths') ∧ cB (lpf (stp tr he hate (srch M tr he hate g) r tg (thru tr r mI)) i (j + 1) s) lim most' rows' lengths' ∧ FE lim r.length lc row rows lengths lc' row' rows' lengths' := fun most1 rows1 len1 k1 k2 k3 => by
              obtain ⟨m2, lw2, lc2, lb2, row2, rows2, len2, f1, f2, f3⟩ := c_b107 hw hp hlim hrec (X4_extend_l22 rec f) hg hnd hrM hi hin hh (nI tg) (lw := lw) (lb := lb) hrow' hlc k1
              have frow : ∀ k, k < r.length → row2 k = row k := fun k hk => by rw [f3.1 k hk, pz_upd_n _ _ (by omega)]
              obtain ⟨m3, lw3, lc3, lb3, row3, rows3, len3, g1, g2, g3⟩ := ih j (i + 1) _ m2 lw2 lc2 lb2 row2 rows2 len2 (by omega) (by omega) (fun k hk => by rw [frow k hk]; exact hrow k hk) (by rw [f3.2.1 _ (Nat.le_refl _)]; exact hlc) f2
              refine ⟨m3, lw3, lc3, lb3, row3, rows3, len3, by rw [f1, g1], ?_, ⟨fun k hk => (g3.1 k hk).trans (frow k hk), fun k hk => (g3.2.1 k hk).trans (f3.2.1 k hk), fun k hk => (g3.2.2.1 k hk).trans ((f3.2.2.1 k hk).trans (k2 k hk)), fun k hk => (g3.2.2.2 k hk).trans ((f3.2.2.2 k hk).trans (k3 k hk))⟩⟩
              rw [lpf, hst]
              exact g2
            unfold X4_extend_b84
            rw [if_pos (by rw [pz_in (by omega)]; omega), X0_hears, gx_b_some, hp.2.2.1, pz_cl (by omega)]
            have hhe := hw.2.2.1
            rw [ite_eq (by omega) (by omega)]
            by_cases he2 : h = he
            · rw [if_pos he2]
              obtain ⟨most1, rows1, len1, k1, k2, k3, k4⟩ := c_weigh hw hp hlim (show r.length < lim by omega) hrM hi hrow' hlc hB
              rw [k1, gx_b3_some]
              rw [← hp.2.2.1]
              exact fin most1 rows1 len1 (by rw [if_pos he2]; exact k2) k3 k4
            · rw [if_neg he2]
              rw [← hp.2.2.1]
              exact fin most rows lengths (by rw [if_neg he2]; exact hB) (fun _ _ => rfl) (fun _ _ => rfl)
          by_cases hr0 : r = []
          · rw [if_pos (by rw [hr0]; decide)]
            exact good (by simp [nxt, hr0])
          · have hpos : 0 < r.length := List.length_pos_iff.mpr hr0
            have el : row (nI (r.length - 1)).toNatClampNeg = nI (r.getD (r.length - 1) 0) := by rw [pz_cl (by omega)]; exact hrow _ (by omega)
            rw [if_neg (nI_nle hpos (by omega)), pz_pred hpos, if_pos (by rw [pz_in (by omega)]; omega), el, c_odds hw hp (hrM _ (gd_mem (by omega))) hi, gx_b_some]
            by_cases hod : (hate (r.getD (r.length - 1) 0)).testBit i = true
            · rw [if_pos hod, if_neg (by decide)]
              exact skip lw lb (by
                unfold stp; rw [ho]
                show (if nxt hate r i = true then _ else _) = _
                rw [if_neg (by simp only [nxt, hod]; simp [hr0])])
            · rw [if_neg hod, if_pos rfl]
              exact good (by
                rw [Bool.not_eq_true] at hod
                unfold nxt
                rw [hod, decide_eq_true hin, Bool.not_false, Bool.or_true, Bool.and_self])
theorem c_ext (hw : wC M tr sp he hate) (hp : pC M tr sp he hate mo sk_ hr ts hs) {lim : Nat} (hlim : lim ≤ 7) : ∀ (g fuel : Nat), g < fuel → exS M tr he hate mo hr ts hs lim g (X4_extend fuel)
  | 0, fuel, hf => fun r tg s most lw lc lb row rows lengths h1 h2 h3 h4 h5 h6 h7 => by
    obtain ⟨f, rfl⟩ : ∃ f, fuel = f + 1 := ⟨fuel - 1, by omega⟩
    refine ⟨most, lw, lc, lb, row, rows, lengths, ?_, h7, FE.rf _ _ _ _ _ _⟩
    show X4_extend_f _ _ _ _ _ _ _ _ _ _ _ _ _ _ _ _ = _
    unfold X4_extend_f
    rw [if_neg (nI_pos (by omega)), if_pos (by rw [pz_le (by omega) (by omega)]; omega)]
  | g + 1, fuel, hf => fun r tg s most lw lc lb row rows lengths h1 h2 h3 h4 h5 h6 h7 => by
    obtain ⟨f, rfl⟩ : ∃ f, fuel = f + 1 := ⟨fuel - 1, by omega⟩
    have hM7 := hw.1
    have hrec := c_ext hw hp hlim g f (by omega)
    obtain ⟨m2, lw2, lc2, lb2, row2, rows2, len2, f1, f2, f3⟩ := c_loop hw hp hlim hrec h1 h2 h3 h4 gx_F M 0 s most lw lc lb row rows lengths (by omega) (by rw [gx_F_eq]; omega) h5 h6 h7
    refine ⟨m2, lw2, lc2, lb2, row2, rows2, len2, ?_, f2, f3⟩
    show X4_extend_f _ _ _ _ _ _ _ _ _ _ _ _ _ _ _ _ = _
    unfold X4_extend_f
    rw [if_neg (nI_pos (by omega)), if_neg (by rw [pz_le (by omega) (by omega)]; omega), if_pos (by rw [pz_l7, pz_lt (by omega) (by omega)]; omega)]
    exact f1
end CEXT
