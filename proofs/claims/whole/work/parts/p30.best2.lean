/-! ===== the best row: the class ===== -/
theorem behind_l {k q : Nat} (hk : k < 6) (hq : q ≤ 10) {c : Nat → Nat → Nat} {cells : Nat → Int64} (hc : mP c cells) : ∀ (fuel T : Nat), T ≤ 10 → 10 - T < fuel → X2_keptBehind_l5 fuel (nI k) (nI q) (lN (sm (fun t => c (md k t) t * q + c (sl (md k t)) t * (10 - q)) T)) (nI T) cells = some (lN (sm (fun t => c (md k t) t * q + c (sl (md k t)) t * (10 - q)) 10)) := by
  intro fuel
  induction fuel with
  | zero => intro T h1 h2; omega
  | succ n ih =>
    intro T h1 h2
    show X2_keptBehind_b5 _ _ _ _ _ _ = _
    unfold X2_keptBehind_b5
    by_cases hT : T = 10
    · subst hT; rw [if_pos (by decide)]
    · have hT10 : T < 10 := by omega
      have hm := md_lt k hk T hT10
      have hs := sl_lt _ hm
      rw [if_neg (by rw [pz_l10, pz_le (by omega) (by omega)]; omega), c_turned k hk T hT10, gx_b_some, c_above hc hm hT10, gx_b_some, gl_eq, c_slipped _ hm, gx_b_some, c_above hc hs hT10, gx_b_some, gl_eq, pz_l10, pz_sub hq, nI_l (by omega), nI_l (by omega), lN_mul, lN_mul, lN_add, lN_add, nI_1, Nat.add_assoc]
      exact ih (T + 1) (by omega) (by omega)
theorem c_behind {k q : Nat} (hk : k < 6) (hq : q ≤ 10) {c : Nat → Nat → Nat} {cells : Nat → Int64} (hc : mP c cells) : X2_keptBehind (nI k) (nI q) cells = some (lN (kp (pas k q c))) := by
  have e : kp (pas k q c) = sm (fun t => c (md k t) t * q + c (sl (md k t)) t * (10 - q)) 10 := kp_pas q hk c 10 (by omega)
  rw [e]
  exact behind_l hk hq hc gx_F 0 (by omega) (by rw [gx_F_eq]; omega)
theorem atmost16_l (K : Int64 → Int32 → Int64 → (Nat → Int64) → Option Int64) (x1 : Int64) {t : Nat} (ht : t < 10) {c : Nat → Nat → Nat} {cells : Nat → Int64} (hc : mP c cells) (hb : ∀ s, s < 10 → c s t < 2 ^ 62) : ∀ (fuel k : Nat), k ≤ 10 → 10 - k < fuel → X2_keptAtMost_l16 K fuel x1 (nI t) (lN (mx (fun s => c s t) k)) (nI k) cells = K x1 (nI t) (lN (mx (fun s => c s t) 10)) cells := by
  intro fuel
  induction fuel with
  | zero => intro k h1 h2; omega
  | succ n ih =>
    intro k h1 h2
    show X2_keptAtMost_b16 _ _ _ _ _ _ _ = _
    unfold X2_keptAtMost_b16
    by_cases hk : k = 10
    · subst hk; rw [if_pos (by decide)]
    · have hmx : mx (fun s => c s t) k < 2 ^ 62 := Nat.lt_of_le_of_lt (mx_lub (fun s => c s t) (2 ^ 62 - 1) k (fun i hi => by have := hb i (by omega); omega)) (by decide)
      have hck := hb k (by omega)
      have e : (if lN (c k t) < lN (mx (fun s => c s t) k) then lN (mx (fun s => c s t) k) else lN (c k t)) = lN (mx (fun s => c s t) (k + 1)) := by
        rw [mx]
        by_cases h : c k t < mx (fun s => c s t) k
        · rw [if_pos (by rw [pk_lLT (by omega) (by omega)]; exact h), Nat.max_eq_left (by omega)]
        · rw [if_neg (by rw [pk_lLT (by omega) (by omega)]; exact h), Nat.max_eq_right (by omega)]
      rw [if_neg (by rw [pz_l10, pz_le (by omega) (by omega)]; omega), pz_l10, pz_mul, pz_add, if_pos (by rw [pz_in (by omega)]; omega), pz_cl (by omega), Nat.mul_comm t 10, hc k t (by omega) ht, gl_eq, e, nI_1]
      exact ih (k + 1) (by omega) (by omega)
theorem atmost_l {c : Nat → Nat → Nat} {cells : Nat → Int64} (hc : mP c cells) (hb : ∀ s t, s < 10 → t < 10 → c s t < 2 ^ 62) : ∀ (fuel k : Nat), k ≤ 10 → 10 - k < fuel → X2_keptAtMost_l4 fuel (lN (sm (fun t => mx (fun s => c s t) 10) k)) (nI k) cells = some (lN (kam c)) := by
  intro fuel
  induction fuel with
  | zero => intro k h1 h2; omega
  | succ n ih =>
    intro k h1 h2
    show X2_keptAtMost_b4 _ _ _ _ = _
    unfold X2_keptAtMost_b4
    by_cases hk : k = 10
    · subst hk; rw [if_pos (by decide)]; rfl
    · have e := atmost16_l (X2_keptAtMost_b48 (X2_keptAtMost_l4 n)) (lN (sm (fun t => mx (fun s => c s t) 10) k)) (show k < 10 by omega) hc (fun s hs => hb s k hs (by omega)) gx_F 0 (by omega) (by rw [gx_F_eq]; omega)
      rw [if_neg (by rw [pz_l10, pz_le (by omega) (by omega)]; omega)]
      refine Eq.trans e ?_
      unfold X2_keptAtMost_b48
      rw [gl_eq, lN_add, nI_1]
      exact ih (k + 1) (by omega) (by omega)
theorem c_atmost {n : Nat} (hn : n ≤ 7) {c : Nat → Nat → Nat} (hM : wM n c) {cells : Nat → Int64} (hc : mP c cells) : X2_keptAtMost cells = some (lN (kam c)) := by
  have hp : 10 ^ n ≤ 10 ^ 7 := Nat.pow_le_pow_right (by omega) hn
  exact atmost_l hc (fun s t hs ht => by have := wM_le hM hs ht; omega) gx_F 0 (by omega) (by rw [gx_F_eq]; omega)
/-- what the class holds of the best row so far -/
def cB (s : Option (Nat × List Nat)) (lim : Nat) (most : Int64) (rows lengths : Nat → Int32) : Prop :=
  match s with
  | none => most = -1 ∧ lengths lim = nI 0
  | some (w, l) => most = lN w ∧ w ≤ 1000000000 ∧ 0 < l.length ∧ l.length ≤ 7 ∧ lengths lim = nI l.length ∧ ∀ k, k < l.length → rows (7 * lim + k) = nI (l.getD k 0)
/-- what the search leaves alone -/
def FE (lim d : Nat) (lc : Nat → Nat → Int64) (row rows lengths : Nat → Int32) (lc' : Nat → Nat → Int64) (row' rows' lengths' : Nat → Int32) : Prop := (∀ k, k < d → row' k = row k) ∧ (∀ k, k ≤ d → lc' k = lc k) ∧ (∀ m, m ≠ lim → lengths' m = lengths m) ∧ ∀ k, (k < 7 * lim ∨ 7 * lim + 7 ≤ k) → rows' k = rows k
theorem FE.rf (lim d : Nat) (lc : Nat → Nat → Int64) (row rows lengths : Nat → Int32) : FE lim d lc row rows lengths lc row rows lengths := ⟨fun _ _ => rfl, fun _ _ => rfl, fun _ _ => rfl, fun _ _ => rfl⟩
theorem FE.tr {lim d : Nat} {lc1 lc2 lc3 : Nat → Nat → Int64} {a1 a2 a3 b1 b2 b3 c1 c2 c3 : Nat → Int32} (h : FE lim d lc1 a1 a2 a3 lc2 b1 b2 b3) (g : FE lim d lc2 b1 b2 b3 lc3 c1 c2 c3) : FE lim d lc1 a1 a2 a3 lc3 c1 c2 c3 :=
  ⟨fun k hk => (g.1 k hk).trans (h.1 k hk), fun k hk => (g.2.1 k hk).trans (h.2.1 k hk), fun k hk => (g.2.2.1 k hk).trans (h.2.2.1 k hk), fun k hk => (g.2.2.2 k hk).trans (h.2.2.2 k hk)⟩
theorem c_better {s : Option (Nat × List Nat)} {lim : Nat} (hlim : lim ≤ 7) {most : Int64} {rows lengths : Nat → Int32} (hB : cB s lim most rows lengths) {v n : Nat} (hv : v ≤ 1000000000) (hn : n ≤ 100) : X4_isBetter (lN v) (nI n) (nI lim) most lengths = some (if bet s v n then 1 else 0) := by
  unfold X4_isBetter
  cases s with
  | none =>
    obtain ⟨h1, h2⟩ := hB
    subst h1
    have := lc_m1 v (by omega)
    rw [if_pos (by rw [Int32.lt_iff_toInt_lt]; rw [Int32.le_iff_toInt_le] at this; omega)]
    rfl
  | some p =>
    obtain ⟨w, l⟩ := p
    obtain ⟨h1, h2, h3, h4, h5, h6⟩ := hB
    subst h1
    have c1 : (0 < lg_cmp (lN v) (lN w)) = (w < v) := by
      rw [lz_gt]; exact propext (pk_lLT (by omega) (by omega))
    have c2 : (lg_cmp (lN v) (lN w) = 0) = (v = w) := by
      rw [lz_eq]; exact propext (pk_lEQ (by omega) (by omega))
    have h5' : lengths (nI lim).toNatClampNeg = nI l.length := by rw [pz_cl (by omega)]; exact h5
    by_cases hw : w < v
    · rw [if_pos (c1 ▸ hw), if_pos (by simp [bet, hw])]
    · rw [if_neg (c1 ▸ hw)]
      by_cases hv2 : v = w
      · rw [if_pos (c2 ▸ hv2), if_pos (by rw [pz_in (by omega)]; omega), h5', ite_le (by omega) (by omega)]
        by_cases hl : l.length ≤ n
        · rw [if_pos hl, if_neg (by simp [bet, hw]; omega)]
        · rw [if_neg hl, if_pos (by simp [bet, hv2]; omega)]
      · rw [if_neg (c2 ▸ hv2), if_neg (by simp [bet, hw, hv2])]
theorem sc_at : ∀ n, n < 8 → gx_scale n = lN (10 ^ (7 - n)) := by decide +kernel
section CBEST
variable {M sp he : Nat} {tr hate : Nat → Nat} {mo sk_ hr : Int32} {ts hs : Nat → Int32}
theorem c_trait (hw : wC M tr sp he hate) (hp : pC M tr sp he hate mo sk_ hr ts hs) {i w : Nat} (hi : i < M) (hw5 : w < 5) : X0_trait (nI i) (nI w) mo ts = some (nI (tr (5 * i + w))) := by
  have hM7 := hw.1
  have hh := z_has hi hM7
  unfold X0_trait
  rw [hp.1, hh, gx_b_some, if_neg (by decide), if_neg (nI_pos (by omega)), if_pos (by rw [pz_l5, pz_lt (by omega) (by omega)]; omega), pz_l5, pz_mul, pz_add, if_pos (by rw [pz_in (by omega)]; omega), pz_cl (by omega), Nat.mul_comm i 5, hp.2.2.2.1 _ (by omega)]
theorem c_across (hw : wC M tr sp he hate) (hp : pC M tr sp he hate mo sk_ hr ts hs) {i tg : Nat} (hi : i < M) (ht : tg < 9) : X0_across (nI i) (nI tg) mo ts = some (match oth tr i tg with | none => -4 | some h => nI h) := by
  have hM7 := hw.1
  have hh := z_has hi hM7
  have g := hw.2.2.2.2 i hi
  unfold X0_across oth
  rw [hp.1, hh, gx_b_some, if_neg (by decide), pz_l5, pz_mul, Nat.mul_comm i 5, if_pos (by rw [pz_in (by omega)]; omega), gl_eq, pz_l1, pz_add, if_pos (show gx_in (nI (5 * i + 1)) 35 by rw [pz_in (by omega)]; omega), gl_eq, pz_cl (by omega), pz_cl (by omega), hp.2.2.2.1 _ (by omega), hp.2.2.2.1 _ (by omega), ite_eq (by omega) (by omega), ite_eq (by omega) (by omega)]
  by_cases h1 : tr (5 * i) = tg
  · rw [if_pos h1, if_pos h1]
  · rw [if_neg h1, if_neg h1]
    by_cases h2 : tr (5 * i + 1) = tg
    · rw [if_pos h2, if_pos h2]
    · rw [if_neg h2, if_neg h2]
theorem oth_lt (hw : wC M tr sp he hate) {i tg h : Nat} (hi : i < M) (e : oth tr i tg = some h) : h < 9 := by
  have g := hw.2.2.2.2 i hi
  unfold oth at e
  split at e
  · simp at e; omega
  · split at e
    · simp at e; omega
    · simp at e
theorem c_weigh (hw : wC M tr sp he hate) (hp : pC M tr sp he hate mo sk_ hr ts hs) {lim : Nat} (hlim : lim ≤ 7) {r : List Nat} (hd : r.length < lim) (hr : ∀ j, j ∈ r → j < M) {i : Nat} (hi : i < M) {s : Option (Nat × List Nat)} {most : Int64} {lc : Nat → Nat → Int64} {row rows lengths : Nat → Int32} (hrow : ∀ k, k < r.length + 1 → row k = nI ((r ++ [i]).getD k 0)) (hlc : mP (thru tr r mI) (lc r.length)) (hB : cB s lim most rows lengths) : ∃ (most' : Int64) (rows' lengths' : Nat → Int32), X4_weigh (nI r.length) (nI lim) most lc row rows lengths mo ts = some (most', rows', lengths') ∧ cB (tak s (thru tr (r ++ [i]) mI) (r ++ [i])) lim most' rows' lengths' ∧ (∀ m, m ≠ lim → lengths' m = lengths m) ∧ ∀ k, (k < 7 * lim ∨ 7 * lim + 7 ≤ k) → rows' k = rows k := by
  have g := hw.2.2.2.2 i hi
  have hM := wM_thru hw (r ++ [i]) 0 mI (fun j hj => by
    rcases List.mem_append.mp hj with h | h
    · exact hr j h
    · simp at h; omega) wM_I
  have hlen : (r ++ [i]).length = r.length + 1 := by simp
  rw [Nat.zero_add, hlen] at hM
  have e1 : row r.length = nI i := by rw [hrow _ (by omega), gd_app_eq]
  have hk := kp_le (thru tr (r ++ [i]) mI)
  have hk2 := kam_le hM
  have hv : kp (thru tr (r ++ [i]) mI) * 10 ^ (7 - (r.length + 1)) ≤ 1000000000 := by
    have h1 : kp (thru tr (r ++ [i]) mI) * 10 ^ (7 - (r.length + 1)) ≤ (10 * 10 ^ (r.length + 1)) * 10 ^ (7 - (r.length + 1)) := Nat.mul_le_mul_right _ (by omega)
    have h2 : (10 * 10 ^ (r.length + 1)) * 10 ^ (7 - (r.length + 1)) = 10 * 10 ^ 7 := by
      rw [Nat.mul_assoc, ← Nat.pow_add, show r.length + 1 + (7 - (r.length + 1)) = 7 by omega]
    omega
  have t2 : X0_trait (nI i) (2 : Int32) mo ts = some (nI (tr (5 * i + 2))) := c_trait hw hp hi (w := 2) (by omega)
  have t3 : X0_trait (nI i) (3 : Int32) mo ts = some (nI (tr (5 * i + 3))) := c_trait hw hp hi (w := 3) (by omega)
  have kb := c_behind g.2.2.2.1 (show tr (5 * i + 3) ≤ 10 by omega) hlc
  rw [← thru_app] at kb
  have i7 : gx_in (nI r.length) 7 := by rw [pz_in (by omega)]; omega
  have i8 : gx_in (nI (r.length + 1)) 8 := by rw [pz_in (by omega)]; omega
  have l8 : gx_in (nI lim) 8 := by rw [pz_in (by omega)]; omega
  have sc' : gx_scale (nI (r.length + 1)).toNatClampNeg = lN (10 ^ (7 - (r.length + 1))) := by rw [pz_cl (by omega), sc_at _ (by omega)]
  unfold X4_weigh X4_weigh_b30
  rw [if_pos i7, gl_eq, if_pos i7, pz_cl (by omega), e1, t2, gx_b_some, t3, gx_b_some, kb, gx_b_some, nI_1, if_pos i8, gl_eq, sc', lN_mul, c_better hlim hB hv (by omega), gx_b_some]
  unfold tak
  rw [hlen]
  by_cases hb : bet s (kp (thru tr (r ++ [i]) mI) * 10 ^ (7 - (r.length + 1))) (r.length + 1) = true
  · have xcp : gx_cp (0 : Int32) (nI lim * 7) (nI (r.length + 1)) 7 56 := by
      rw [pz_l7, pz_mul]
      refine ⟨by decide, nI_pos (by omega), nI_pos (by omega), ?_, ?_⟩
      · rw [show (0 : Int32).toNatClampNeg = 0 from rfl, pz_cl (by omega)]; omega
      · rw [pz_cl (by omega), pz_cl (by omega)]; omega
    rw [if_pos hb, if_neg (by decide), if_pos l8, if_pos xcp, if_pos hb]
    refine ⟨_, _, _, rfl, ⟨rfl, hv, by rw [hlen]; omega, by rw [hlen]; omega, ?_, fun k hk => ?_⟩, fun m hm => ?_, fun k hk => ?_⟩
    · rw [pz_cl (by omega), pz_upd_s, hlen]
    · rw [hlen] at hk
      rw [pz_l7, pz_mul, pz_cl (by omega), pz_cl (by omega), show (0 : Int32).toNatClampNeg = 0 from rfl, pk_cpy_in (by omega) (by omega), ← hrow k hk]
      congr 1
      omega
    · rw [pz_cl (by omega), pz_upd_n _ _ hm]
    · rw [pz_l7, pz_mul, pz_cl (by omega), pz_cl (by omega), pk_cpy_out (by omega)]
  · rw [if_neg hb, if_pos rfl, if_neg hb]
    exact ⟨_, _, _, rfl, hB, fun _ _ => rfl, fun _ _ => rfl⟩
end CBEST
