/-! ===== leaves, both sides ===== -/
theorem lz_lt (x y : Int64) : (lg_cmp x y < 0) = (x < y) := by
  apply propext; unfold lg_cmp
  by_cases h1 : y < x
  · have : ¬ x < y := fun h => by rw [Int64.lt_iff_toInt_lt] at h h1; omega
    simp [h1, this]
  · by_cases h2 : x = y
    · simp [h1, h2, Int64.lt_irrefl]
    · have : x < y := by
        rw [Int64.lt_iff_toInt_lt] at h1 ⊢
        have : x.toInt ≠ y.toInt := fun e => h2 (Int64.toInt_inj.mp e)
        omega
      simp [h1, h2, this]
theorem lz_gt (x y : Int64) : (0 < lg_cmp x y) = (y < x) := by
  apply propext; unfold lg_cmp
  by_cases h1 : y < x
  · simp [h1]
  · by_cases h2 : x = y
    · simp [h1, h2, Int64.lt_irrefl]
    · simp [h1, h2]
theorem lz_eq (x y : Int64) : (lg_cmp x y = 0) = (x = y) := by
  apply propext; unfold lg_cmp
  by_cases h1 : y < x
  · have : ¬ x = y := fun e => by rw [e, Int64.lt_iff_toInt_lt] at h1; omega
    simp [h1, this]
  · by_cases h2 : x = y
    · simp [h1, h2, Int64.lt_irrefl]
    · simp [h1, h2]
theorem wz_lt (a b : Int32) : (a.toInt64 < b.toInt64) = (a < b) := by
  apply propext
  rw [Int64.lt_iff_toInt_lt, Int32.lt_iff_toInt_lt, Int32.toInt_toInt64, Int32.toInt_toInt64]
theorem q_in (x a b : Int32) : X7_in x.toInt64 a.toInt64 b.toInt64 = some (if x < a then 0 else if b < x then 0 else 1) := by
  unfold X7_in
  have e0 : (lg_cmp x.toInt64 a.toInt64 < 0) = (x < a) := (lz_lt _ _).trans (wz_lt _ _)
  by_cases h1 : x < a
  · rw [if_pos (e0 ▸ h1), if_pos h1]
  · rw [if_neg (fun h => h1 (e0 ▸ h))]
    have e : (0 < lg_cmp x.toInt64 b.toInt64) = (b < x) := (lz_gt _ _).trans (wz_lt _ _)
    by_cases h2 : b < x
    · rw [if_pos (e ▸ h2), if_neg h1, if_pos h2]
    · rw [if_neg (fun h => h2 (e ▸ h)), if_neg h1, if_neg h2]
theorem q_isSense (x : Int32) : X7_isSense x = some (if x < 0 then 0 else if 9 < x then 0 else 1) := by
  unfold X7_isSense
  rw [show X7_in x.toInt64 (0 : Int64) (9 : Int64) = _ from q_in x 0 9]
  rw [gx_b_some]
  by_cases h1 : x < 0
  · simp [h1]
  · by_cases h2 : (9 : Int32) < x <;> simp [h1, h2]
theorem c_isSense (x : Int32) : X6_isSense x = some (if x < 0 then 0 else if 10 ≤ x then 0 else 1) := by
  unfold X6_isSense
  by_cases h1 : x < 0
  · simp [h1]
  · by_cases h2 : (10 : Int32) ≤ x <;> simp [h1, h2]
theorem pz_lt_of {x : Int32} {a b : Nat} (ha : a < 2147483648) (hab : b < a) (h : nI a ≤ x) : nI b < x := by
  rw [Int32.le_iff_toInt_le, pz_ti ha] at h
  rw [Int32.lt_iff_toInt_lt, pz_ti (by omega)]
  omega
theorem z_sense (x : Int32) : (X6_isSense x = some 0 ∧ X7_isSense x = some 0) ∨ ∃ j, j < 10 ∧ x = nI j ∧ X6_isSense x = some 1 ∧ X7_isSense x = some 1 := by
  rcases pz_ix x 10 (by decide) with ⟨h1, h2⟩ | ⟨h0, h1, h2, h3⟩ | ⟨j, hj, rfl⟩
  · exact Or.inl ⟨by rw [c_isSense, if_pos h1], by rw [q_isSense, if_pos h1]⟩
  · exact Or.inl ⟨by rw [c_isSense, if_neg h0, pz_l10, if_pos h2], by rw [q_isSense, if_neg h0, pz_l9, if_pos (pz_lt_of (a := 10) (b := 9) (by decide) (by decide) h2)]⟩
  · refine Or.inr ⟨j, hj, rfl, ?_, ?_⟩
    · rw [c_isSense, if_neg (nI_pos (by omega)), if_neg (by rw [pz_l10, pz_le (by omega) (by omega)]; omega)]
    · rw [q_isSense, if_neg (nI_pos (by omega)), if_neg (by rw [pz_l9, pz_lt (by omega) (by omega)]; omega)]
theorem c_has (x : Int32) (M : Nat) : X0_has x (nI M) = some (if x < 0 then 0 else if nI M ≤ x then 0 else if 7 ≤ x then 0 else 1) := by
  unfold X0_has
  by_cases h1 : x < 0
  · simp [h1]
  · by_cases h2 : nI M ≤ x
    · simp [h1, h2]
    · by_cases h3 : (7 : Int32) ≤ x <;> simp [h1, h2, h3]
theorem pz_pred {M : Nat} (h : 0 < M) : nI M - 1 = nI (M - 1) := by rw [pz_l1, pz_sub (by omega)]
theorem q_isMouth (x : Int32) (mouths : Nat → Int32) {M : Nat} (hM : 0 < M) (hM7 : M ≤ 7) (h : mouths 0 = nI M) : X7_isMouth x mouths = some (if x < 0 then 0 else if nI (M - 1) < x then 0 else 1) := by
  unfold X7_isMouth
  rw [if_pos (by decide), show (0 : Int32).toNatClampNeg = 0 from rfl, h, pz_pred hM]
  rw [show X7_in x.toInt64 (0 : Int64) ((nI (M - 1)).toInt64) = _ from q_in x 0 (nI (M - 1)), gx_b_some]
  by_cases h1 : x < 0
  · simp [h1]
  · by_cases h2 : nI (M - 1) < x <;> simp [h1, h2]
theorem z_mouth (x : Int32) (mouths : Nat → Int32) {M : Nat} (hM : 0 < M) (hM7 : M ≤ 7) (h : mouths 0 = nI M) : (X0_has x (nI M) = some 0 ∧ X7_isMouth x mouths = some 0) ∨ ∃ j, j < M ∧ x = nI j ∧ X0_has x (nI M) = some 1 ∧ X7_isMouth x mouths = some 1 := by
  rcases pz_ix x M (by omega) with ⟨h1, h2⟩ | ⟨h0, h1, h2, h3⟩ | ⟨j, hj, rfl⟩
  · exact Or.inl ⟨by rw [c_has, if_pos h1], by rw [q_isMouth x mouths hM hM7 h, if_pos h1]⟩
  · exact Or.inl ⟨by rw [c_has, if_neg h0, if_pos h2], by rw [q_isMouth x mouths hM hM7 h, if_neg h0, if_pos (pz_lt_of (a := M) (by omega) (by omega) h2)]⟩
  · refine Or.inr ⟨j, hj, rfl, ?_, ?_⟩
    · rw [c_has, if_neg (nI_pos (by omega)), if_neg (by rw [pz_le (by omega) (by omega)]; omega), if_neg (by rw [pz_l7, pz_le (by omega) (by omega)]; omega)]
    · rw [q_isMouth _ mouths hM hM7 h, if_neg (nI_pos (by omega)), if_neg (by rw [pz_lt (by omega) (by omega)]; omega)]
theorem z_has {j M : Nat} (hj : j < M) (hM7 : M ≤ 7) : X0_has (nI j) (nI M) = some 1 := by
  rw [c_has, if_neg (nI_pos (by omega)), if_neg (by rw [pz_le (by omega) (by omega)]; omega), if_neg (by rw [pz_l7, pz_le (by omega) (by omega)]; omega)]
/-- lists: what stands behind, what was set -/
theorem gd_app_lt {l : List Nat} {x k : Nat} (h : k < l.length) : (l ++ [x]).getD k 0 = l.getD k 0 := by
  rw [List.getD_eq_getElem?_getD, List.getD_eq_getElem?_getD, List.getElem?_append_left h]
theorem gd_app_eq {l : List Nat} {x : Nat} : (l ++ [x]).getD l.length 0 = x := by
  rw [List.getD_eq_getElem?_getD]; simp
theorem gd_mem {l : List Nat} {k : Nat} (h : k < l.length) : l.getD k 0 ∈ l := by
  rw [List.getD_eq_getElem?_getD, List.getElem?_eq_getElem h]; simp
