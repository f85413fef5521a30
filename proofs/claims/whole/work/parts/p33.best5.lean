/-- how many turns the reference's loop takes for a level and all below -/
def cst : Nat → Nat
  | 0 => 0
  | g + 1 => 7 * (1 + cst g) + 1
section QLEVEL
variable {M sp he : Nat} {tr hate : Nat → Nat} {told mouths mouth hates : Nat → Int32}
/-- what the reference's loop does at a level, g levels being left below -/
def lvS (M : Nat) (tr : Nat → Nat) (sp he : Nat) (hate : Nat → Nat) (told mouths mouth hates : Nat → Int32) (lim g : Nat) : Prop := ∀ (r : List Nat) (tg : Nat), r.length + (g + 1) = lim → (∀ j, j ∈ r → j < M) → pth tr r sp = some tg → ∀ (j i : Nat) (s : Option (Nat × List Nat)) (x2 : Int64) (bl : Int32) (chance : Nat → Int64) (row best : Nat → Int32), i + j = M → row r.length = nI i → (∀ k, k < r.length → row k = nI (r.getD k 0)) → mQ r.length (thru tr r mI) chance → rB s x2 bl best → ∃ (n : Nat) (x2' : Int64) (bl' : Int32) (chance' : Nat → Int64) (row' best' : Nat → Int32), n ≤ j * (1 + cst g) + 1 ∧ rB (lpf (stp tr he hate (srch M tr he hate g) r tg (thru tr r mI)) i j s) x2' bl' best' ∧ (∀ k, k < r.length → row' k = row k) ∧ (∀ k, k < 100 * (r.length + 1) → chance' k = chance k) ∧ ∀ f, X7_searches_l23 (f + n) (nI lim) x2 (nI r.length) bl told mouths mouth hates chance row best = X7_searches_l23 f (nI lim) x2' (nI r.length + (-1)) bl' told mouths mouth hates chance' (if r.length = 0 then row' else upd row' (r.length - 1) (row' (r.length - 1) + 1)) best'
theorem q_lev (hw : wC M tr sp he hate) (hq : qC 0 M tr sp he hate told mouths mouth hates) (hM : 0 < M) {lim : Nat} (hlim : lim ≤ 7) (g : Nat) (hch : ∀ g', g = g' + 1 → lvS M tr sp he hate told mouths mouth hates lim g') : lvS M tr sp he hate told mouths mouth hates lim g := by
  have hM7 := hw.1
  have q1 : mouths (0 : Int32).toNatClampNeg = nI M := hq.1
  intro r tg hg hr ht j
  induction j with
  | zero =>
    intro i s x2 bl chance row best h1 h2 hrow hc hB
    refine ⟨1, x2, bl, chance, row, best, by omega, hB, fun _ _ => rfl, fun _ _ => rfl, fun f => ?_⟩
    have rw1 : row (nI r.length).toNatClampNeg = nI i := by rw [pz_cl (by omega)]; exact h2
    show X7_searches_b23 _ _ _ _ _ _ _ _ _ _ _ _ = _
    unfold X7_searches_b23
    rw [if_neg (nI_pos (by omega)), if_pos (by rw [pz_in (by omega)]; omega), gl_eq, if_pos (show gx_in (0 : Int32) 2 by decide), rw1, q1, if_neg (by rw [pz_lt (by omega) (by omega)]; omega)]
    by_cases hr0 : r.length = 0
    · rw [if_pos (by rw [hr0]; decide), if_pos hr0]
    · have em : nI r.length + (-1) = nI (r.length - 1) := by
        obtain ⟨k, hk⟩ : ∃ k, r.length = k + 1 := ⟨r.length - 1, by omega⟩
        rw [hk, pk_m1, Nat.add_sub_cancel]
      rw [em, if_neg (nI_pos (by omega)), if_pos (show gx_in (nI (r.length - 1)) 8 by rw [pz_in (by omega)]; omega), if_pos (show gx_in (nI (r.length - 1)) 8 by rw [pz_in (by omega)]; omega), pz_cl (by omega), if_neg hr0]
  | succ j ihj =>
    intro i s x2 bl chance row best h1 h2 hrow hc hB
    have hi : i < M := by omega
    have hlen : (r ++ [i]).length = r.length + 1 := by simp
    have rw1 : row (nI r.length).toNatClampNeg = nI i := by rw [pz_cl (by omega)]; exact h2
    have hrow' : ∀ k, k < r.length + 1 → row k = nI ((r ++ [i]).getD k 0) := fun k hk => by
      by_cases hk2 : k = r.length
      · subst hk2; rw [h2, gd_app_eq]
      · rw [gd_app_lt (by omega)]; exact hrow k (by omega)
    have hr' : ∀ j, j ∈ r ++ [i] → j < M := fun j hj => by
      rcases List.mem_append.mp hj with h | h
      · exact hr j h
      · simp at h; omega
    have i8 : gx_in (nI r.length) 8 := by rw [pz_in (by omega)]; omega
    have unf : ∀ f, X7_searches_l23 (f + 1) (nI lim) x2 (nI r.length) bl told mouths mouth hates chance row best = X7_searches_b23 (X7_searches_l23 f) (nI lim) x2 (nI r.length) bl told mouths mouth hates chance row best := fun f => rfl
    have b243 : ∀ (K : Int32 → Int64 → Int32 → Int32 → (Nat → Int32) → (Nat → Int32) → (Nat → Int32) → (Nat → Int32) → (Nat → Int64) → (Nat → Int32) → (Nat → Int32) → Option (Int32 × (Nat → Int64) × (Nat → Int32) × (Nat → Int32))) (x2 : Int64) (bl : Int32) (chance : Nat → Int64) (best : Nat → Int32), X7_searches_b243 K (nI lim) x2 (nI r.length) bl told mouths mouth hates chance row best = K (nI lim) x2 (nI r.length) bl told mouths mouth hates chance (upd row r.length (nI (i + 1))) best := fun K x2 bl chance best => by
      unfold X7_searches_b243 X7_searches_b254
      rw [if_pos i8, if_pos i8, rw1, nI_1, pz_cl (by omega)]
    -- one turn that goes on beside
    have beside : ∀ (s1 : Option (Nat × List Nat)) (y2 : Int64) (bl1 : Int32) (ch1 : Nat → Int64) (best1 : Nat → Int32), rB s1 y2 bl1 best1 → (∀ k, k < 100 * (r.length + 1) → ch1 k = chance k) → stp tr he hate (srch M tr he hate g) r tg (thru tr r mI) i s = s1 → (∀ f, X7_searches_l23 (f + 1) (nI lim) x2 (nI r.length) bl told mouths mouth hates chance row best = X7_searches_l23 f (nI lim) y2 (nI r.length) bl1 told mouths mouth hates ch1 (upd row r.length (nI (i + 1))) best1) → ∃ (n : Nat) (x2' : Int64) (bl' : Int32) (chance' : Nat → Int64) (row' best' : Nat → Int32), n ≤ (j + 1) * (1 + cst g) + 1 ∧ rB (lpf (stp tr he hate (srch M tr he hate g) r tg (thru tr r mI)) i (j + 1) s) x2' bl' best' ∧ (∀ k, k < r.length → row' k = row k) ∧ (∀ k, k < 100 * (r.length + 1) → chance' k = chance k) ∧ ∀ f, X7_searches_l23 (f + n) (nI lim) x2 (nI r.length) bl told mouths mouth hates chance row best = X7_searches_l23 f (nI lim) x2' (nI r.length + (-1)) bl' told mouths mouth hates chance' (if r.length = 0 then row' else upd row' (r.length - 1) (row' (r.length - 1) + 1)) best' := fun s1 y2 bl1 ch1 best1 k1 k2 k3 k4 => by
      obtain ⟨n, x2', bl', chance', row', best', a1, a2, a3, a4, a5⟩ := ihj (i + 1) s1 y2 bl1 ch1 (upd row r.length (nI (i + 1))) best1 (by omega) (pz_upd_s _ _ _) (fun k hk => by rw [pz_upd_n _ _ (by omega)]; exact hrow k hk) (fun a b ha hb => by rw [k2 _ (by omega)]; exact hc a b ha hb) k1
      refine ⟨n + 1, x2', bl', chance', row', best', by rw [Nat.add_mul, Nat.one_mul]; omega, ?_, fun k hk => by rw [a3 k hk, pz_upd_n _ _ (by omega)], fun k hk => (a4 k hk).trans (k2 k hk), fun f => ?_⟩
      · rw [lpf, k3]; exact a2
      · rw [← Nat.add_assoc, k4, a5]
    have skipE : ∀ f, X7_searches_b96 (X7_searches_l23 f) (nI lim) x2 (nI r.length) (nI i) bl told mouths mouth hates chance row best = X7_searches_l23 f (nI lim) x2 (nI r.length) bl told mouths mouth hates chance (upd row r.length (nI (i + 1))) best := fun f => by
      unfold X7_searches_b96 X7_searches_b97 X7_searches_b216
      rw [if_pos rfl, if_pos rfl, b243]
    have qn := q_next hw hq hM (show r.length ≤ 7 by omega) hr hrow hi
    have qs := q_spoken hw hq hr' (by rw [hlen]; omega) (row := row) (by rw [hlen]; exact hrow')
    rw [hlen, pth_app tr i r sp tg ht] at qs
    have b23 : ∀ f, X7_searches_l23 (f + 1) (nI lim) x2 (nI r.length) bl told mouths mouth hates chance row best = gx_b (some (nI (if nxt hate r i then 1 else 0))) (fun r4 => (if r4 = 0 then X7_searches_b96 (X7_searches_l23 f) (nI lim) x2 (nI r.length) (nI i) bl told mouths mouth hates chance row best else (gx_b (X7_spoken (nI (r.length + 1)) told mouth row) (fun r5 => (if r5 < 0 then X7_searches_b96 (X7_searches_l23 f) (nI lim) x2 (nI r.length) (nI i) bl told mouths mouth hates chance row best else X7_searches_b97 (X7_searches_l23 f) (nI lim) x2 (nI r.length) (nI i) 1 bl told mouths mouth hates chance row best))))) := fun f => by
      rw [unf]
      unfold X7_searches_b23
      rw [if_neg (nI_pos (by omega)), if_pos i8, gl_eq, if_pos (show gx_in (0 : Int32) 2 by decide), rw1, q1, if_pos (by rw [pz_lt (by omega) (by omega)]; omega), qn, nI_1]
    by_cases hn : nxt hate r i = true
    · cases ho : oth tr i tg with
      | none =>
        rw [ho] at qs
        refine beside s x2 bl chance best hB (fun _ _ => rfl) (by unfold stp; rw [ho]) (fun f => ?_)
        rw [b23, gx_b_some, if_pos hn, if_neg (by decide), qs, gx_b_some, if_pos (by decide), skipE]
      | some h =>
        rw [ho] at qs
        have hh := oth_lt hw hi ho
        have hst : ∀ G, stp tr he hate (srch M tr he hate G) r tg (thru tr r mI) i s = srch M tr he hate G (r ++ [i]) h (thru tr (r ++ [i]) mI) (if h = he then tak s (thru tr (r ++ [i]) mI) (r ++ [i]) else s) := fun G => by
          unfold stp; rw [ho]
          show (if nxt hate r i = true then _ else _) = _
          rw [if_pos hn, thru_app]
        have hnn : ¬ nI h < 0 := nI_pos (by omega)
        have step : ∀ f, X7_searches_l23 (f + 1) (nI lim) x2 (nI r.length) bl told mouths mouth hates chance row best = X7_searches_b97 (X7_searches_l23 f) (nI lim) x2 (nI r.length) (nI i) 1 bl told mouths mouth hates chance row best := fun f => by
          rw [b23, gx_b_some, if_pos hn, if_neg (by decide), qs, gx_b_some]
          exact if_neg hnn
        obtain ⟨x2', bl', chance', best', c1, c2, c3, c4⟩ := q_comp hw hq (show r.length < 7 by omega) hr hi ht ho hrow' hc hB
        by_cases hg0 : g = 0
        · refine beside _ x2' bl' chance' best' c1 c3 (by rw [hst, hg0]; rfl) (fun f => ?_)
          rw [step, c4]
          unfold X7_searches_b216
          rw [if_neg (show ¬ (1 : Int32) = 0 by decide), nI_1, if_pos (by rw [pz_le (by omega) (by omega)]; omega), b243]
        · obtain ⟨g', hg'⟩ : ∃ g', g = g' + 1 := ⟨g - 1, by omega⟩
          have ht' : pth tr (r ++ [i]) sp = some h := by rw [pth_app tr i r sp tg ht, ho]
          obtain ⟨n2, y2, bl2, ch2, row2, best2, a1, a2, a3, a4, a5⟩ := hch g' hg' (r ++ [i]) h (by rw [hlen]; omega) hr' ht' M 0 _ x2' bl' chance' (upd row (r.length + 1) 0) best' (by omega) (by rw [hlen, pz_upd_s]; rfl) (fun k hk => by
            rw [hlen] at hk
            rw [pz_upd_n _ _ (by omega)]; exact hrow' k hk) (by rw [hlen]; exact c2) c1
          rw [hlen] at a3 a4 a5
          have r2d : row2 r.length = nI i := by rw [a3 _ (by omega), pz_upd_n _ _ (by omega)]; exact h2
          have est : stp tr he hate (srch M tr he hate g) r tg (thru tr r mI) i s = lpf (stp tr he hate (srch M tr he hate g') (r ++ [i]) h (thru tr (r ++ [i]) mI)) 0 M (if h = he then tak s (thru tr (r ++ [i]) mI) (r ++ [i]) else s) := by rw [hst, hg']; rfl
          obtain ⟨n3, y3, bl3, ch3, row3, best3, e1, e2, e3, e4, e5⟩ := ihj (i + 1) _ y2 bl2 ch2 (upd row2 r.length (nI (i + 1))) best2 (by omega) (pz_upd_s _ _ _) (fun k hk => by rw [pz_upd_n _ _ (by omega), a3 k (by omega), pz_upd_n _ _ (by omega)]; exact hrow k hk) (fun a b ha hb => by rw [a4 _ (by omega), c3 _ (by omega)]; exact hc a b ha hb) a2
          have hcs : cst g = 7 * (1 + cst g') + 1 := by rw [hg']; rfl
          have hmm : M * (1 + cst g') ≤ 7 * (1 + cst g') := Nat.mul_le_mul_right _ hM7
          refine ⟨n3 + n2 + 1, y3, bl3, ch3, row3, best3, by rw [Nat.add_mul, Nat.one_mul]; omega, ?_, fun k hk => by rw [e3 k hk, pz_upd_n _ _ (by omega), a3 k (by omega), pz_upd_n _ _ (by omega)], fun k hk => by rw [e4 k hk, a4 k (by omega), c3 k hk], fun f => ?_⟩
          · rw [lpf, est]; exact e2
          · rw [← Nat.add_assoc, step, c4]
            unfold X7_searches_b216 X7_searches_b254
            rw [if_neg (show ¬ (1 : Int32) = 0 by decide), nI_1, if_neg (by rw [pz_le (by omega) (by omega)]; omega), if_pos (show gx_in (nI (r.length + 1)) 8 by rw [pz_in (by omega)]; omega), pz_cl (by omega), ← Nat.add_assoc, a5, pk_m1, if_neg (by omega), Nat.add_sub_cancel, r2d, nI_1, e5]
    · refine beside s x2 bl chance best hB (fun _ _ => rfl) ?_ (fun f => ?_)
      · unfold stp
        cases oth tr i tg with
        | none => rfl
        | some h =>
          show (if nxt hate r i = true then _ else _) = _
          rw [if_neg hn]
      · rw [b23, gx_b_some, if_neg hn, if_pos (by decide), skipE]
theorem q_level (hw : wC M tr sp he hate) (hq : qC 0 M tr sp he hate told mouths mouth hates) (hM : 0 < M) {lim : Nat} (hlim : lim ≤ 7) : ∀ g, lvS M tr sp he hate told mouths mouth hates lim g
  | 0 => q_lev hw hq hM hlim 0 (fun g' h => by omega)
  | g + 1 => q_lev hw hq hM hlim (g + 1) (fun g' h => by
    have : g' = g := by omega
    subst this
    exact q_level hw hq hM hlim g')
end QLEVEL
