/-! ===== lowest terms ===== -/
theorem gcd_step (x y : Nat) : Nat.gcd y (x % y) = Nat.gcd x y := by
  rw [Nat.gcd_comm y (x % y), ← Nat.gcd_rec y x, Nat.gcd_comm]
theorem mod_half {y r : Nat} (hr : 0 < r) (h : r < y) : 2 * (y % r) < y := by
  have h1 := Nat.mod_lt y hr
  have h2 := Nat.div_add_mod y r
  have h3 : 0 < y / r := Nat.div_pos (by omega) hr
  have h4 : r * 1 ≤ r * (y / r) := Nat.mul_le_mul_left r h3
  omega
theorem lc0 (y : Nat) (hy : y < 2 ^ 63) : (lg_cmp (lN y) (0 : Int64) = 0) = (y = 0) := by
  rw [lz_eq]
  apply propext
  rw [show (0 : Int64) = lN 0 from rfl, pk_lEQ hy (by omega)]
theorem l0 (y : Nat) (hy : y < 2 ^ 63) : (lN y = (0 : Int64)) = (y = 0) := by
  apply propext
  rw [show (0 : Int64) = lN 0 from rfl, pk_lEQ hy (by omega)]
theorem ite_lc0 {α : Type} {y : Nat} (hy : y < 2 ^ 63) (a b : α) : (if lg_cmp (lN y) (0 : Int64) = 0 then a else b) = if y = 0 then a else b := by
  by_cases h : y = 0
  · rw [if_pos h, if_pos (by rw [lc0 y hy]; exact h)]
  · rw [if_neg h, if_neg (by rw [lc0 y hy]; exact h)]
theorem ite_l0 {α : Type} {y : Nat} (hy : y < 2 ^ 63) (a b : α) : (if lN y = (0 : Int64) then a else b) = if y = 0 then a else b := by
  by_cases h : y = 0
  · rw [if_pos h, if_pos (by rw [l0 y hy]; exact h)]
  · rw [if_neg h, if_neg (by rw [l0 y hy]; exact h)]
theorem div_l : ∀ (m : Nat), m ≤ 47 → ∀ (fuel x y turn : Nat), x < 2 ^ 62 → y < 2 ^ m → turn + 2 * m + 1 ≤ 100 → 2 * m + 1 < fuel → X6_sharedDivisor_l9 fuel (lN x) (lN y) (nI turn) = some (lN (Nat.gcd x y)) := by
  intro m
  induction m with
  | zero =>
    intro _ fuel x y turn hx hy ht hf
    obtain ⟨f, rfl⟩ : ∃ f, fuel = f + 1 := ⟨fuel - 1, by omega⟩
    have : y = 0 := by omega
    subst this
    show X6_sharedDivisor_b9 _ _ _ _ = _
    unfold X6_sharedDivisor_b9
    rw [if_neg (by rw [pz_l100, pz_le (by omega) (by omega)]; omega), ite_lc0 (by omega), if_pos rfl, Nat.gcd_zero_right]
  | succ m ih =>
    intro hm fuel x y turn hx hy ht hf
    obtain ⟨f, rfl⟩ : ∃ f, fuel = f + 1 + 1 := ⟨fuel - 2, by omega⟩
    have h62 : (2 : Nat) ^ (m + 1) ≤ 2 ^ 48 := Nat.pow_le_pow_right (by omega) (by omega)
    show X6_sharedDivisor_b9 _ _ _ _ = _
    unfold X6_sharedDivisor_b9
    rw [if_neg (by rw [pz_l100, pz_le (by omega) (by omega)]; omega), ite_lc0 (by omega), ite_l0 (by omega)]
    by_cases hy0 : y = 0
    · subst hy0
      rw [if_pos rfl, Nat.gcd_zero_right]
    · rw [if_neg hy0, if_neg hy0, pk_lRem (by omega) (by omega) (by omega), nI_1]
      have hr := Nat.mod_lt x (show 0 < y by omega)
      show X6_sharedDivisor_b9 _ _ _ _ = _
      unfold X6_sharedDivisor_b9
      rw [if_neg (by rw [pz_l100, pz_le (by omega) (by omega)]; omega), ite_lc0 (by omega), ite_l0 (by omega)]
      by_cases hr0 : x % y = 0
      · rw [if_pos hr0, ← gcd_step x y, hr0, Nat.gcd_zero_right]
      · rw [if_neg hr0, if_neg hr0, pk_lRem (by omega) (by omega) (by omega), nI_1]
        have hh := mod_half (show 0 < x % y by omega) hr
        rw [Nat.pow_succ] at hy
        show X6_sharedDivisor_l9 f _ _ _ = _
        rw [ih (by omega) f (x % y) (y % (x % y)) (turn + 1 + 1) (by omega) (by omega) (by omega) (by omega), gcd_step, gcd_step]
theorem low_l (K : Int64 → Int64 → Int64 → Int64 → Int64 → Option (Int64 × Int64)) (a b ab be : Int64) : ∀ (m : Nat), m ≤ 47 → ∀ (fuel x y : Nat), x < 2 ^ 62 → y < 2 ^ m → 2 * m + 1 < fuel → X7_lowest_l6 K fuel a b (lN x) (lN y) ab be = K a b (lN (Nat.gcd x y)) ab be := by
  intro m
  induction m with
  | zero =>
    intro _ fuel x y hx hy hf
    obtain ⟨f, rfl⟩ : ∃ f, fuel = f + 1 := ⟨fuel - 1, by omega⟩
    have : y = 0 := by omega
    subst this
    show X7_lowest_b6 _ _ _ _ _ _ _ _ = _
    unfold X7_lowest_b6
    rw [ite_lc0 (by omega), if_pos rfl, Nat.gcd_zero_right]
  | succ m ih =>
    intro hm fuel x y hx hy hf
    obtain ⟨f, rfl⟩ : ∃ f, fuel = f + 1 + 1 := ⟨fuel - 2, by omega⟩
    have h62 : (2 : Nat) ^ (m + 1) ≤ 2 ^ 48 := Nat.pow_le_pow_right (by omega) (by omega)
    show X7_lowest_b6 _ _ _ _ _ _ _ _ = _
    unfold X7_lowest_b6
    rw [ite_lc0 (by omega), ite_l0 (by omega)]
    by_cases hy0 : y = 0
    · subst hy0
      rw [if_pos rfl, Nat.gcd_zero_right]
    · rw [if_neg hy0, if_neg hy0, pk_lRem (by omega) (by omega) (by omega)]
      have hr := Nat.mod_lt x (show 0 < y by omega)
      show X7_lowest_b6 _ _ _ _ _ _ _ _ = _
      unfold X7_lowest_b6
      rw [ite_lc0 (by omega), ite_l0 (by omega)]
      by_cases hr0 : x % y = 0
      · rw [if_pos hr0, ← gcd_step x y, hr0, Nat.gcd_zero_right]
      · rw [if_neg hr0, if_neg hr0, pk_lRem (by omega) (by omega) (by omega)]
        have hh := mod_half (show 0 < x % y by omega) hr
        rw [Nat.pow_succ] at hy
        show X7_lowest_l6 K f _ _ _ _ _ _ = _
        rw [ih (by omega) f (x % y) (y % (x % y)) (by omega) (by omega) (by omega), gcd_step, gcd_step]
theorem gcd_le {a b : Nat} (hb : 0 < b) : Nat.gcd a b ≤ b := Nat.le_of_dvd hb (Nat.gcd_dvd_right a b)
def lowv (a b : Nat) (x : Int32) : Int64 := if x = 0 then lN a / lN (Nat.gcd a b) else lN b / lN (Nat.gcd a b)
theorem c_lowest (a b : Nat) (x : Int32) (ha : a < 2 ^ 62) (hb : b < 2 ^ 47) (h0 : 0 < b) : X6_lowest (lN a) (lN b) x = some (lowv a b x) := by
  have hg : 0 < Nat.gcd a b := Nat.gcd_pos_of_pos_right a h0
  have hl := gcd_le (a := a) h0
  have e : X6_sharedDivisor (lN a) (lN b) = some (lN (Nat.gcd a b)) := div_l 47 (by omega) gx_F a b 0 ha hb (by omega) (by rw [gx_F_eq]; omega)
  unfold X6_lowest X6_lowest_b17 lowv
  rw [e, gx_b_some]
  by_cases hx : x = 0
  · rw [if_pos hx, if_pos hx, ite_lc0 (by omega), if_neg (by omega), ite_l0 (by omega), if_neg (by omega)]
  · rw [if_neg hx, if_neg hx, ite_lc0 (by omega), if_neg (by omega), ite_l0 (by omega), if_neg (by omega)]
theorem q_lowest (a b : Nat) (ab be : Int64) (ha : a < 2 ^ 62) (hb : b < 2 ^ 47) (h0 : 0 < b) : X7_lowest (lN a) (lN b) ab be = some (lN a / lN (Nat.gcd a b), lN b / lN (Nat.gcd a b)) := by
  have hg : 0 < Nat.gcd a b := Nat.gcd_pos_of_pos_right a h0
  have hl := gcd_le (a := a) h0
  unfold X7_lowest
  rw [low_l X7_lowest_b31 (lN a) (lN b) ab be 47 (by omega) gx_F a b ha hb (by rw [gx_F_eq]; omega)]
  unfold X7_lowest_b31
  rw [ite_l0 (by omega), ite_l0 (by omega), if_neg (by omega), if_neg (by omega)]
theorem tens_l (n : Nat) (hn : n ≤ 1000) : ∀ (fuel k v : Nat), k ≤ n → n - k < fuel → X7_tens_l4 fuel (nI n) (lN v) (nI k) = some (lN (v * 10 ^ (n - k))) := by
  intro fuel
  induction fuel with
  | zero => intro k v h1 h2; omega
  | succ f ih =>
    intro k v h1 h2
    show X7_tens_b4 _ _ _ _ = _
    unfold X7_tens_b4
    by_cases hk : k = n
    · subst hk
      rw [if_pos (by rw [pz_le (by omega) (by omega)]; omega), Nat.sub_self, Nat.pow_zero, Nat.mul_one]
    · rw [if_neg (by rw [pz_le (by omega) (by omega)]; omega), nI_1, show (10 : Int64) = lN 10 from rfl, lN_mul]
      rw [gl_eq]
      rw [ih (k + 1) (v * 10) (by omega) (by omega), show n - k = n - (k + 1) + 1 by omega, Nat.pow_succ, Nat.mul_assoc, Nat.mul_comm 10]
theorem q_tens (n : Nat) (hn : n ≤ 1000) : X7_tens (nI n) = some (lN (10 ^ n)) := by
  have e := tens_l n hn gx_F 0 1 (by omega) (by rw [gx_F_eq]; omega)
  rw [Nat.one_mul, Nat.sub_zero] at e
  exact e
/-! ===== sums of ten, bounds ===== -/
def sm (f : Nat → Nat) : Nat → Nat
  | 0 => 0
  | n + 1 => sm f n + f n
theorem sm_add (f g : Nat → Nat) : ∀ n, sm (fun i => f i + g i) n = sm f n + sm g n
  | 0 => rfl
  | n + 1 => by rw [sm, sm_add f g n, sm, sm]; omega
theorem sm_congr {f g : Nat → Nat} : ∀ n, (∀ i, i < n → f i = g i) → sm f n = sm g n
  | 0, _ => rfl
  | n + 1, h => by rw [sm, sm, sm_congr n (fun i hi => h i (by omega)), h n (by omega)]
theorem sm_zero : ∀ n, sm (fun _ => 0) n = 0
  | 0 => rfl
  | n + 1 => by rw [sm, sm_zero n]
theorem sm_mono {f g : Nat → Nat} : ∀ n, (∀ i, i < n → f i ≤ g i) → sm f n ≤ sm g n
  | 0, _ => Nat.le_refl _
  | n + 1, h => by
    have h1 := sm_mono n (fun i hi => h i (by omega) : ∀ i, i < n → f i ≤ g i)
    have h2 := h n (by omega)
    rw [sm, sm]; omega
theorem sm_one (f : Nat → Nat) : ∀ n i, i < n → f i ≤ sm f n
  | 0, i, h => by omega
  | n + 1, i, h => by
    rw [sm]
    by_cases hi : i = n
    · subst hi; omega
    · have := sm_one f n i (by omega); omega
theorem sm_if (u v : Nat) : ∀ n, sm (fun i => if u = i then v else 0) n = if u < n then v else 0
  | 0 => by rw [if_neg (by omega)]; rfl
  | n + 1 => by
    rw [sm, sm_if u v n]
    by_cases h1 : u < n
    · rw [if_pos h1, if_neg (by omega), if_pos (by omega)]; omega
    · by_cases h2 : u = n
      · rw [if_neg h1, if_pos h2, if_pos (by omega)]; omega
      · rw [if_neg h1, if_neg h2, if_neg (by omega)]
theorem sm_mul (f : Nat → Nat) (a : Nat) : ∀ n, sm (fun i => f i * a) n = sm f n * a
  | 0 => by simp [sm]
  | n + 1 => by rw [sm, sm_mul f a n, sm, Nat.add_mul]
/-- what is kept of s in all is ten times as much behind one more -/
theorem pac_row (k q : Nat) (hk : k < 6) (hq : q ≤ 10) (c : Nat → Nat → Nat) (s : Nat) : ∀ T, T ≤ 10 → sm (pac k q c T s) 10 = sm (c s) T * 10
  | 0, _ => by
    have : pac k q c 0 s = fun _ => 0 := by funext u; rfl
    rw [this, sm_zero]; rfl
  | T + 1, h => by
    have e : pac k q c (T + 1) s = fun u => (pac k q c T s u + (if md k T = u then c s T * q else 0)) + (if sl (md k T) = u then c s T * (10 - q) else 0) := by funext u; rfl
    have hm := md_lt k hk T (by omega)
    have hs := sl_lt _ hm
    rw [e, sm_add (fun u => pac k q c T s u + (if md k T = u then c s T * q else 0)), sm_add (pac k q c T s), pac_row k q hk hq c s T (by omega), sm_if, sm_if, if_pos hm, if_pos hs, sm, Nat.add_mul, Nat.add_assoc, ← Nat.mul_add, show q + (10 - q) = 10 by omega]
theorem pas_row (k q : Nat) (hk : k < 6) (hq : q ≤ 10) (c : Nat → Nat → Nat) (s : Nat) : sm (pas k q c s) 10 = sm (c s) 10 * 10 := pac_row k q hk hq c s 10 (by omega)
/-- a matrix of n interpreters -/
def wM (n : Nat) (c : Nat → Nat → Nat) : Prop := ∀ s, s < 10 → sm (c s) 10 = 10 ^ n
theorem wM_I : wM 0 mI := fun s hs => by
  have : mI s = fun i => if s = i then 1 else 0 := by funext u; rfl
  rw [this, sm_if, if_pos hs, Nat.pow_zero]
theorem wM_pas {n k q : Nat} {c : Nat → Nat → Nat} (hk : k < 6) (hq : q ≤ 10) (h : wM n c) : wM (n + 1) (pas k q c) := fun s hs => by
  rw [pas_row k q hk hq, h s hs, Nat.pow_succ]
theorem wM_le {n : Nat} {c : Nat → Nat → Nat} (h : wM n c) {s t : Nat} (hs : s < 10) (ht : t < 10) : c s t ≤ 10 ^ n := by
  rw [← h s hs]; exact sm_one _ 10 t ht
theorem wM_sum {n : Nat} {c : Nat → Nat → Nat} (h : wM n c) (g : Nat → Nat) (hg : ∀ s, s < 10 → g s < 10) : ∀ m, m ≤ 10 → sm (fun s => c s (g s)) m ≤ m * 10 ^ n
  | 0, _ => by simp [sm]
  | m + 1, hm => by
    have h1 := wM_sum h g hg m (by omega)
    have h2 := wM_le h (show m < 10 by omega) (hg m (by omega))
    rw [sm, Nat.add_mul]; omega
