/-! ===== the start ===== -/
theorem c_init : ∃ (w2 : Int64) (w3 : Nat → Int64) (w4 : Nat → Int32) (w6 : Nat → Int32), X6_init = some (w2, w3, w4, 1, w6) ∧ mP mI w3 ∧ (∀ j, j < 8 → w4 j = -1) ∧ ∀ k, k < 5 → w6 k = nI (([0, 1, 0, 10, 5] : List Nat).getD k 0) := by
  obtain ⟨f1, e1, h1⟩ := c_clear 1 (fun _ => 0)
  obtain ⟨f2, e2, h2⟩ := fillI 8 (by omega) (-1) (fun _ => 0)
  have e3 : X0_admit 0 1 0 10 5 0 (fun _ => 0) = some (1, 1, upd (upd (upd (upd (upd (fun _ => (0 : Int32)) 0 0) 1 1) 2 0) 3 10) 4 5) := by
    unfold X0_admit X0_isTongue
    rw [if_neg (by decide), if_neg (by decide), if_neg (by decide), gx_b_some, if_neg (by decide), if_neg (by decide), if_neg (by decide), gx_b_some, if_neg (by decide), if_neg (by decide), if_neg (by decide), if_neg (by decide), if_neg (by decide), if_pos (by decide), if_neg (by decide), if_pos (by decide), gl_eq, if_pos (by decide), if_pos (by decide), if_pos (by decide), if_pos (by decide), if_pos (by decide)]
    rfl
  refine ⟨1, f1, f2, upd (upd (upd (upd (upd (fun _ => (0 : Int32)) 0 0) 1 1) 2 0) 3 10) 4 5, ?_, h1, h2, ?_⟩
  · unfold X6_init X4_init
    rw [e1, gx_b2_some, e2, gx_b_some, gx_b3_some, e3, gx_b3_some]
  · intro k hk
    have : k = 0 ∨ k = 1 ∨ k = 2 ∨ k = 3 ∨ k = 4 := by omega
    rcases this with rfl | rfl | rfl | rfl | rfl <;> rfl
theorem q_init : ∃ (w59 w60 w61 w62 : Nat → Int32), X7_init = some (0, 0, w59, w60, w61, w62, upd (fun _ => 0) 0 0, upd (fun _ => 0) 0 0) ∧ qC 0 1 (fun k => ([0, 1, 0, 10, 5] : List Nat).getD k 0) 0 1 (fun _ => 0) w59 w60 w61 w62 := by
  obtain ⟨h2, e2, k2, k3⟩ := begins_l (upd (upd (fun _ => 0) 2 0) 3 1) (upd (fun _ => 0) 1 0) gx_F 0 (fun _ => 0) (by omega) (by rw [gx_F_eq]; omega)
  have hq : qC 1 1 (fun k => ([0, 1, 0, 10, 5] : List Nat).getD k 0) 0 1 (fun _ => 0) (upd (upd (fun _ => 0) 2 0) 3 1) (upd (upd (fun _ => 0) 1 0) 1 1) (upd (upd (upd (upd (upd (fun _ => 0) 35 0) 36 1) 37 0) 38 10) 39 5) h2 := by
    refine ⟨rfl, rfl, rfl, fun k hk => ?_, fun i hi => ?_⟩
    · have : k = 0 ∨ k = 1 ∨ k = 2 ∨ k = 3 ∨ k = 4 := by omega
      rcases this with rfl | rfl | rfl | rfl | rfl <;> rfl
    · rw [Nat.mul_one]; exact k2 i (by omega) hi
  obtain ⟨told', mouths', mouth', hates', g3, g4⟩ := q_takes (by omega) 0 0 _ _ _ _ (fun _ => 0) (fun _ => 0) hq
  refine ⟨told', mouths', mouth', hates', ?_, g4⟩
  unfold X7_init X7_begins
  rw [if_pos (by decide), if_pos (by decide), if_pos (by decide)]
  show gx_b3 (X7_begins_l23 gx_F (nI 0) (upd (upd (fun _ => 0) 2 0) 3 1) (upd (fun _ => 0) 1 0) (fun _ => 0)) _ = _
  rw [e2, gx_b3_some]
  show gx_b8 (X7_takes 0 0 (upd (upd (fun _ => 0) 2 0) 3 1) (upd (upd (fun _ => 0) 1 0) 1 1) (upd (upd (upd (upd (upd (fun _ => 0) 35 0) 36 1) 37 0) 38 10) 39 5) h2 (fun _ => 0) (fun _ => 0)) _ = _
  rw [g3, gx_b8_some]
theorem law_pure (xs : Nat → Int32) (L : Nat) (hL : L ≤ 2048) : ∃ (w2 : Int64) (w3 : Nat → Int64) (w4 : Nat → Int32) (w5 : Int32) (w6 : Nat → Int32) (w57 w58 : Int32) (w59 w60 w61 w62 w63 w64 : Nat → Int32), X6_init = some (w2, w3, w4, w5, w6) ∧ X7_init = some (w57, w58, w59, w60, w61, w62, w63, w64) ∧ L_law_l18 xs L gx_F (0 : Int32) (0 : Int32) (0 : Int32) (fun _ => (0 : Int32)) (fun _ => (0 : Int32)) (0 : Int32) (0 : Int32) (fun _ => (0 : Int32)) (fun _ => (0 : Int32)) (0 : Int32) (fun _ => (0 : Int32)) (0 : Int32) (0 : Int32) (fun _ => (0 : Int32)) (fun _ => (0 : Int32)) (0 : Int32) (0 : Int32) (fun _ => (0 : Int32)) (fun _ => (0 : Int32)) (1 : Int64) (fun _ => (0 : Int64)) (fun _ => (0 : Int64)) (0 : Int32) (-1 : Int64) (va_up (fun _ => (1 : Int64)) 0 w2) (va_up (fun _ _ => (0 : Int64)) 0 w3) (fun _ _ => (0 : Int64)) (fun _ => (0 : Int32)) (fun _ => (0 : Int32)) w4 w5 (0 : Int32) (1 : Int32) w6 (fun _ => (0 : Int32)) (0 : Int32) (0 : Int32) (1 : Int32) (fun _ => (0 : Int32)) (fun _ => (0 : Int32)) (0 : Int32) (0 : Int32) w57 w58 (0 : Int64) (0 : Int64) (0 : Int32) (0 : Int32) (0 : Int32) (fun _ => (0 : Int32)) w59 w60 w61 w62 w63 (fun _ => (0 : Int32)) w64 (fun _ => (0 : Int32)) (fun _ => (0 : Int32)) (fun _ => (0 : Int64)) (fun _ => (0 : Int32)) (fun _ => (0 : Int32)) (fun _ => (0 : Int32)) = some 1 := by
  obtain ⟨w2, w3, w4, w6, e1, a1, a2, a3⟩ := c_init
  obtain ⟨w59, w60, w61, w62, e2, b1⟩ := q_init
  refine ⟨w2, w3, w4, 1, w6, 0, 0, w59, w60, w61, w62, upd (fun _ => 0) 0 0, upd (fun _ => 0) 0 0, e1, e2, ?_⟩
  have hl := law_l xs L hL gx_F 0 (by omega) (by rw [gx_F_eq]; omega)
  apply hl
  refine ⟨0, fun _ => 0, 1, fun k => ([0, 1, 0, 10, 5] : List Nat).getD k 0, 0, 1, fun _ => 0, [], [], [], [], ⟨by omega, rfl, fun k hk => by omega⟩, ⟨rfl, fun k hk => by omega⟩, ⟨by omega, ?_, ⟨rfl, rfl, rfl, fun k hk => a3 k (by omega), fun _ _ => rfl⟩, b1, ⟨List.nodup_nil, by simp, by simp, by simp, by simp⟩, ⟨rfl, rfl, fun k hk => by simp at hk, fun k hk => by simp at hk⟩, ⟨pz_upd_s _ _ _, pz_upd_s _ _ _, fun k hk => by simp at hk, fun k hk => by simp at hk⟩⟩, ⟨by simp, rfl, fun k hk => by simp at hk⟩, ⟨rfl, fun k hk => by simp at hk, fun k hk => by simp at hk⟩, by simp [wS], ⟨by simp, by simp⟩, ⟨rfl, by simp, by simp⟩, ⟨rfl, by simp, by simp⟩, ?_, fun m h1 h2 => Or.inl (a2 m (by omega))⟩
  · refine ⟨by omega, by omega, by omega, fun _ _ => by show (0 : Nat) < 128; omega, fun i hi => ?_⟩
    have : i = 0 := by omega
    subst this
    decide
  · rw [va_up_self]; exact a1
