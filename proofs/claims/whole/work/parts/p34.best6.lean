theorem cst_le : ∀ g, g < 7 → cst g ≤ 200000 := by decide +kernel
/-- what is remembered for m -/
def mR (s : Option (Nat × List Nat)) (m : Nat) (rows lengths : Nat → Int32) : Prop :=
  match s with
  | none => lengths m = nI 0
  | some (_, l) => 0 < l.length ∧ l.length ≤ 7 ∧ lengths m = nI l.length ∧ ∀ k, k < l.length → rows (7 * m + k) = nI (l.getD k 0)
def mem (M : Nat) (tr : Nat → Nat) (sp he : Nat) (hate : Nat → Nat) (rows lengths : Nat → Int32) : Prop := ∀ m, 1 ≤ m → m ≤ 7 → lengths m = -1 ∨ mR (srch M tr he hate m [] sp mI none) m rows lengths
section WBEST
variable {M sp he : Nat} {tr hate : Nat → Nat} {mo sk_ hr : Int32} {ts hs told mouths mouth hates : Nat → Int32}
theorem q_search (hw : wC M tr sp he hate) (hq : qC 0 M tr sp he hate told mouths mouth hates) (hM : 0 < M) {m : Nat} (h1 : 1 ≤ m) (h7 : m ≤ 7) (bl : Int32) (chance : Nat → Int64) (row best : Nat → Int32) : ∃ (x2' : Int64) (bl' : Int32) (chance' : Nat → Int64) (row' best' : Nat → Int32), X7_searches (nI m) bl told mouths mouth hates chance row best = some (bl', chance', row', best') ∧ rB (srch M tr he hate m [] sp mI none) x2' bl' best' := by
  have hM7 := hw.1
  obtain ⟨g, rfl⟩ : ∃ g, m = g + 1 := ⟨m - 1, by omega⟩
  obtain ⟨f0, e0, k0⟩ := q_starts chance
  obtain ⟨n, x2', bl', chance', row', best', a1, a2, a3, a4, a5⟩ := q_level hw hq hM h7 g [] sp (by simp) (by simp) rfl M 0 none (-1) (nI 0) f0 (upd row 0 0) best (by omega) (pz_upd_s _ _ _) (fun k hk => by simp at hk) k0 ⟨rfl, rfl⟩
  have hc := cst_le g (by omega)
  have hmm : M * (1 + cst g) ≤ 7 * (1 + cst g) := Nat.mul_le_mul_right _ hM7
  obtain ⟨f, hf⟩ : ∃ f, gx_F = (f + 1) + n := ⟨gx_F - n - 1, by rw [gx_F_eq]; omega⟩
  have a6 := a5 (f + 1)
  refine ⟨x2', bl', chance', row', best', ?_, a2⟩
  unfold X7_searches
  rw [e0, gx_b_some, if_pos (show gx_in (0 : Int32) 8 by decide), hf]
  refine Eq.trans a6 ?_
  show X7_searches_b23 _ _ _ _ _ _ _ _ _ _ _ _ = _
  unfold X7_searches_b23
  rw [if_pos (by decide)]
  rfl
theorem c_look (hw : wC M tr sp he hate) (hp : pC M tr sp he hate mo sk_ hr ts hs) {m : Nat} (h1 : 1 ≤ m) (h7 : m ≤ 7) {limit : Int32} {most : Int64} {lw : Nat → Int64} {lc lb : Nat → Nat → Int64} {row rows lengths : Nat → Int32} (hlc : mP mI (lc 0)) (hm : mem M tr sp he hate rows lengths) : ∃ (limit' : Int32) (most' : Int64) (lw' : Nat → Int64) (lc' lb' : Nat → Nat → Int64) (row' rows' lengths' : Nat → Int32), X4_look (nI m) limit most lw lc lb row rows lengths mo sk_ hr ts hs = some (limit', most', lw', lc', lb', row', rows', lengths') ∧ mP mI (lc' 0) ∧ mem M tr sp he hate rows' lengths' ∧ mR (srch M tr he hate m [] sp mI none) m rows' lengths' := by
  have i8 : gx_in (nI m) 8 := by rw [pz_in (by omega)]; omega
  have el : lengths (nI m).toNatClampNeg = lengths m := by rw [pz_cl (by omega)]
  unfold X4_look
  rw [if_neg (by rw [pz_l1, pz_lt (by omega) (by omega)]; omega), if_neg (by rw [pz_l7, pz_lt (by omega) (by omega)]; omega), if_pos i8, el]
  by_cases hu : lengths m = -1
  · obtain ⟨m2, lw2, lc2, lb2, row2, rows2, len2, f1, f2, f3⟩ := c_ext hw hp h7 m 9 (by omega) [] sp none (-1) lw lc lb row rows (upd lengths m 0) (by simp) (by simp) (by simp) hw.2.1 (fun k hk => by simp at hk) hlc ⟨rfl, pz_upd_s _ _ _⟩
    have f1' : X4_extend 9 (0 : Int32) (nI sp) (0 : Int32) (nI m) (-1) lw lc lb row rows (upd lengths m 0) mo hr ts hs = _ := f1
    have hmr : mR (srch M tr he hate m [] sp mI none) m rows2 len2 := by
      unfold cB at f2
      unfold mR
      have e : thru tr [] mI = mI := rfl
      rw [e] at f2
      cases hs : srch M tr he hate m [] sp mI none with
      | none => rw [hs] at f2; exact f2.2
      | some p =>
        obtain ⟨w, l⟩ := p
        rw [hs] at f2
        exact ⟨f2.2.2.1, f2.2.2.2.1, f2.2.2.2.2.1, f2.2.2.2.2.2⟩
    rw [if_pos hu, if_pos i8, X0_speaks, gx_b_some, hp.2.1, pz_cl (by omega), f1', gx_b7_some]
    refine ⟨_, _, _, _, _, _, _, _, rfl, ?_, ?_, hmr⟩
    · rw [f3.2.1 0 (by simp)]; exact hlc
    · intro m' b1 b2
      by_cases e : m' = m
      · subst e; exact Or.inr hmr
      · have hl2 : len2 m' = lengths m' := by rw [f3.2.2.1 m' e, pz_upd_n _ _ e]
        rcases hm m' b1 b2 with q | q
        · left; rw [hl2]; exact q
        · right
          unfold mR at q ⊢
          cases hs : srch M tr he hate m' [] sp mI none with
          | none => rw [hs] at q; show len2 m' = _; rw [hl2]; exact q
          | some p =>
            obtain ⟨w, l⟩ := p
            rw [hs] at q
            refine ⟨q.1, q.2.1, by rw [hl2]; exact q.2.2.1, fun k hk => ?_⟩
            have q21 := q.2.1
            rw [f3.2.2.2 _ (by omega)]
            exact q.2.2.2 k hk
  · rw [if_neg hu]
    refine ⟨_, _, _, _, _, _, _, _, rfl, hlc, hm, ?_⟩
    rcases hm m h1 h7 with q | q
    · exact absurd q hu
    · exact q
theorem c_within {m L : Nat} (h7 : m ≤ 7) (hL : L ≤ 7) {lengths : Nat → Int32} (h : lengths m = nI L) : X4_lengthWithin (nI m) lengths = some (nI L) := by
  have el : lengths (nI m).toNatClampNeg = nI L := by rw [pz_cl (by omega)]; exact h
  unfold X4_lengthWithin
  rw [if_neg (nI_pos (by omega)), if_neg (by rw [pz_l7, pz_lt (by omega) (by omega)]; omega), if_pos (by rw [pz_in (by omega)]; omega), el, if_neg (nI_pos (by omega))]
theorem w_best (hw : wC M tr sp he hate) (hp : pC M tr sp he hate mo sk_ hr ts hs) (hq : qC 0 M tr sp he hate told mouths mouth hates) (hM : 0 < M) (x1 x2 limit bl : Int32) (most : Int64) (lw : Nat → Int64) (lc lb : Nat → Nat → Int64) (row rows lengths : Nat → Int32) (chance : Nat → Int64) (rowM best : Nat → Int32) (hlc : mP mI (lc 0)) (hm : mem M tr sp he hate rows lengths) : ∃ (r limit' : Int32) (most' : Int64) (lw' : Nat → Int64) (lc' lb' : Nat → Nat → Int64) (row' rows' lengths' : Nat → Int32) (bl' : Int32) (chance' : Nat → Int64) (rowM' best' : Nat → Int32), X6_best x1 x2 limit most lw lc lb row rows lengths mo sk_ hr ts hs = some (r, limit', most', lw', lc', lb', row', rows', lengths') ∧ X7_best x1 x2 bl told mouths mouth hates chance rowM best = some (r, bl', chance', rowM', best') ∧ mP mI (lc' 0) ∧ mem M tr sp he hate rows' lengths' := by
  have hin : X7_in x1.toInt64 (1 : Int64) (7 : Int64) = _ := q_in x1 1 7
  unfold X6_best X7_best
  rw [hin, gx_b_some]
  by_cases c1 : x1 < 1
  · rw [if_pos c1, if_pos c1, if_pos rfl]
    exact ⟨_, _, _, _, _, _, _, _, _, _, _, _, _, rfl, rfl, hlc, hm⟩
  · rw [if_neg c1, if_neg c1]
    by_cases c2 : (7 : Int32) < x1
    · rw [if_pos c2, if_pos c2, if_pos rfl]
      exact ⟨_, _, _, _, _, _, _, _, _, _, _, _, _, rfl, rfl, hlc, hm⟩
    · rw [if_neg c2, if_neg c2, if_neg (show ¬ (1 : Int32) = 0 by decide)]
      by_cases c3 : (-1 : Int32) ≤ x2
      · rw [if_pos c3, if_pos c3]
        obtain ⟨m, hn1, hn7, rfl⟩ : ∃ n, 1 ≤ n ∧ n ≤ 7 ∧ x1 = nI n := by
          rcases pz_ix x1 8 (by decide) with ⟨a1, a2⟩ | ⟨a0, a1, a2, a3⟩ | ⟨j, hj, rfl⟩
          · exfalso
            apply c1
            rw [Int32.lt_iff_toInt_lt] at a1 ⊢
            rw [show (0 : Int32).toInt = 0 by decide] at a1
            rw [show (1 : Int32).toInt = 1 by decide]
            omega
          · exact absurd (pz_lt_of (a := 8) (b := 7) (by decide) (by decide) a2) c2
          · refine ⟨j, ?_, by omega, rfl⟩
            rw [pz_l1, pz_lt (by omega) (by omega)] at c1
            omega
        obtain ⟨l1, l2, l3, l4, l5, l6, l7, l8, e1, e2, e3, e4⟩ := c_look hw hp hn1 hn7 (limit := limit) (most := most) (lw := lw) (lb := lb) (row := row) hlc hm
        obtain ⟨y2, bl', chance', row', best', g1, g2⟩ := q_search hw hq hM hn1 hn7 bl chance rowM best
        rw [e1, gx_b8_some, g1, gx_b4_some]
        unfold mR at e4
        unfold rB at g2
        cases hs : srch M tr he hate m [] sp mI none with
        | none =>
          rw [hs] at e4 g2
          have e4' : l8 m = nI 0 := e4
          rw [c_within hn7 (by omega) e4', gx_b_some, if_pos (show nI 0 = 0 from rfl), if_pos (show bl' = 0 from g2.2)]
          exact ⟨_, _, _, _, _, _, _, _, _, _, _, _, _, rfl, rfl, e2, e3⟩
        | some p =>
          obtain ⟨w, l⟩ := p
          rw [hs] at e4 g2
          obtain ⟨k1, k2, k3, k4⟩ := e4
          obtain ⟨j1, j2, j3, j4, j5, j6⟩ := g2
          rw [c_within hn7 k2 k3, gx_b_some, if_neg (nI_ne0 k1 (by omega)), j5, if_neg (nI_ne0 k1 (by omega))]
          by_cases c4 : x2 < nI l.length
          · rw [if_pos c4, if_pos c4]
            by_cases c5 : x2 = -1
            · rw [if_pos c5, if_neg (show ¬ (0 : Int32) ≤ x2 by rw [c5]; decide)]
              exact ⟨_, _, _, _, _, _, _, _, _, _, _, _, _, rfl, rfl, e2, e3⟩
            · obtain ⟨j, hj, rfl⟩ : ∃ j, j < l.length ∧ x2 = nI j := by
                rcases pz_ix x2 l.length (by omega) with ⟨a1, a2⟩ | ⟨a0, a1, a2, a3⟩ | ⟨j, hj, rfl⟩
                · exfalso
                  rw [Int32.lt_iff_toInt_lt, show (0 : Int32).toInt = 0 by decide] at a1
                  rw [Int32.le_iff_toInt_le, show (-1 : Int32).toInt = -1 by decide] at c3
                  exact c5 (Int32.toInt_inj.mp (by rw [show (-1 : Int32).toInt = -1 by decide]; omega))
                · exact absurd c4 a3
                · exact ⟨j, hj, rfl⟩
              have eb : best' (nI j).toNatClampNeg = nI (l.getD j 0) := by rw [pz_cl (by omega)]; exact j6 j hj
              have er : l7 (nI (m * 7 + j)).toNatClampNeg = nI (l.getD j 0) := by rw [pz_cl (by omega), Nat.mul_comm m 7]; exact k4 j hj
              rw [if_neg c5, if_pos (show (0 : Int32) ≤ nI j from nI_pos' (by omega)), if_pos (show gx_in (nI j) 7 by rw [pz_in (by omega)]; omega), eb]
              unfold X4_memberWithin
              rw [if_neg (nI_pos (by omega)), c_within hn7 k2 k3, gx_b_some, if_pos c4, pz_l7, pz_mul, pz_add, if_pos (show gx_in (nI (m * 7 + j)) 56 by rw [pz_in (by omega)]; omega), er, gx_b_some]
              exact ⟨_, _, _, _, _, _, _, _, _, _, _, _, _, rfl, rfl, e2, e3⟩
          · rw [if_neg c4, if_neg c4]
            exact ⟨_, _, _, _, _, _, _, _, _, _, _, _, _, rfl, rfl, e2, e3⟩
      · rw [if_neg c3, if_neg c3]
        exact ⟨_, _, _, _, _, _, _, _, _, _, _, _, _, rfl, rfl, hlc, hm⟩
end WBEST
