/-! ===== write ===== -/
theorem wr_s1 : ∀ k, k < 8 → (((((8 : Int32) * nI k).toInt64 &&& 63)).toBitVec.smod 64).toNat = 8 * k := by decide +kernel
theorem wr_s2 : ∀ k, k < 8 → (((((8 : Int32) * nI k).toInt64.toUInt64 &&& Int64.toUInt64 63)).toBitVec % 64).toNat = 8 * k := by decide +kernel
theorem wr_b1 (v : Int64) {k i : Nat} (hk : k < 8) (hi : i < 8) : ((v >>> (((8 : Int32) * nI k).toInt64 &&& 63)).toInt32).toBitVec.getLsbD i = v.toBitVec.getLsbD (8 * k + i) := by
  show (((v >>> (((8 : Int32) * nI k).toInt64 &&& 63)).toBitVec).signExtend 32).getLsbD i = _
  rw [BitVec.getLsbD_signExtend, if_pos (show i < 64 by omega), Int64.toBitVec_shiftRight, BitVec.sshiftRight_eq', wr_s1 k hk, BitVec.getLsbD_sshiftRight, if_pos (show 8 * k + i < 64 by omega)]
  have e1 : decide (i < 32) = true := by simp; omega
  have e2 : (!decide (64 ≤ i)) = true := by simp; omega
  rw [e1, e2]; simp
theorem wr_b2 (v : Int64) {k i : Nat} (hk : k < 8) (hi : i < 8) : (((v.toUInt64 >>> (((8 : Int32) * nI k).toInt64.toUInt64 &&& Int64.toUInt64 63)).toInt64).toInt32).toBitVec.getLsbD i = v.toBitVec.getLsbD (8 * k + i) := by
  show (((v.toUInt64 >>> (((8 : Int32) * nI k).toInt64.toUInt64 &&& Int64.toUInt64 63)).toBitVec).signExtend 32).getLsbD i = _
  rw [BitVec.getLsbD_signExtend, if_pos (show i < 64 by omega), UInt64.toBitVec_shiftRight, BitVec.ushiftRight_eq', wr_s2 k hk, BitVec.getLsbD_ushiftRight]
  have e1 : decide (i < 32) = true := by simp; omega
  rw [e1]
  show (true && (v.toBitVec).getLsbD (8 * k + i)) = _
  simp
theorem wr_255 : ∀ j : Fin 32, (255 : Int32).toBitVec.getLsbD j.val = decide (j.val < 8) := by decide +kernel
theorem wr_and (x y : Int32) (h : ∀ i, i < 8 → x.toBitVec.getLsbD i = y.toBitVec.getLsbD i) : x &&& 255 = y &&& 255 := by
  apply Int32.toBitVec_inj.1
  apply BitVec.eq_of_getLsbD_eq
  intro i hi
  show (x.toBitVec &&& (255 : Int32).toBitVec).getLsbD i = (y.toBitVec &&& (255 : Int32).toBitVec).getLsbD i
  rw [BitVec.getLsbD_and, BitVec.getLsbD_and, wr_255 ⟨i, hi⟩]
  by_cases h8 : i < 8
  · rw [h i h8]
  · simp [h8]
theorem wr_low (x : Int32) : (x &&& 255).toInt8 = x.toInt8 := by
  apply Int8.toBitVec_inj.1
  apply BitVec.eq_of_getLsbD_eq
  intro i hi
  have h2 : (255 : Int32).toBitVec.getLsbD i = true := by
    rw [wr_255 ⟨i, by omega⟩]; simpa using hi
  have h4 : (x &&& 255).toBitVec.getLsbD i = x.toBitVec.getLsbD i := by
    show (x.toBitVec &&& (255 : Int32).toBitVec).getLsbD i = _
    rw [BitVec.getLsbD_and, h2, Bool.and_true]
  have h3 : i < 32 := by omega
  show (((x &&& 255).toBitVec).signExtend 8).getLsbD i = (x.toBitVec.signExtend 8).getLsbD i
  rw [BitVec.getLsbD_signExtend, BitVec.getLsbD_signExtend, if_pos h3, if_pos h3, h4]
theorem wr_rng (x : Int32) : ∃ b, b < 256 ∧ x &&& 255 = nI b := by
  refine ⟨(x &&& 255).toBitVec.toNat, ?_, ?_⟩
  · show (x.toBitVec &&& (255 : Int32).toBitVec).toNat < 256
    rw [BitVec.toNat_and, show ((255 : Int32).toBitVec).toNat = 255 by decide]
    have := @Nat.and_le_right x.toBitVec.toNat 255
    omega
  · apply Int32.toBitVec_inj.1
    show (x &&& 255).toBitVec = BitVec.ofNat 32 (x &&& 255).toBitVec.toNat
    rw [BitVec.ofNat_toNat, BitVec.setWidth_eq]
theorem wr_byte (v : Int64) {k : Nat} (hk : k < 8) : ∃ b, b < 256 ∧ (((v.toUInt64 >>> (((8 : Int32) * nI k).toInt64.toUInt64 &&& Int64.toUInt64 63)).toInt64).toInt32) &&& 255 = nI b ∧ vp_nar .byte (((v >>> (((8 : Int32) * nI k).toInt64 &&& 63)).toInt32).toInt8.toInt32) = (nI b).toInt8.toInt32 := by
  obtain ⟨b, hb, e⟩ := wr_rng (((v.toUInt64 >>> (((8 : Int32) * nI k).toInt64.toUInt64 &&& Int64.toUInt64 63)).toInt64).toInt32)
  refine ⟨b, hb, e, ?_⟩
  rw [pk_vb, ← e, wr_and _ ((v >>> (((8 : Int32) * nI k).toInt64 &&& 63)).toInt32) (fun i hi => by rw [wr_b1 v hk hi, wr_b2 v hk hi]), wr_low]
theorem write_l (v : Int64) : ∀ (fuel m n : Nat) (t : Nat → Nat) (b tx : Nat → Int32), m ≤ 8 → n + m ≤ 200 → m < fuel → pT n t (nI n) b → qT n t (nI n) tx → ∃ (t' : Nat → Nat) (b' tx' : Nat → Int32), pT (n + m) t' (nI (n + m)) b' ∧ qT (n + m) t' (nI (n + m)) tx' ∧ X6_write_l36 X6_write_b66 fuel v (nI m - 1) (nI n) b = some (nI (n + m), nI (n + m), b') ∧ X7_write_l34 fuel v (nI m - 1) (nI n) tx = some (nI (n + m), nI (n + m), tx') := by
  intro fuel
  induction fuel with
  | zero => intro m n t b tx h1 h2 h3; omega
  | succ f ih =>
    intro m n t b tx h1 h2 h3 hp hq
    cases m with
    | zero =>
      refine ⟨t, b, tx, hp, hq, ?_, ?_⟩
      · show X6_write_b36 _ _ _ _ _ _ = _
        unfold X6_write_b36
        rw [if_pos (by decide)]
        rfl
      · show X7_write_b34 _ _ _ _ _ = _
        unfold X7_write_b34
        rw [if_pos (by decide)]
        rfl
    | succ m =>
      obtain ⟨c, hc, e1, e2⟩ := wr_byte v (k := m) (by omega)
      have hp' : pT (n + 1) (fun j => if j = n then c else t j) (nI (n + 1)) (upd b n (nI c)) := by
        refine ⟨by omega, rfl, fun k hk => ?_⟩
        by_cases hkn : k = n
        · subst hkn; simp [pz_upd_s, hc]
        · have := hp.2.2 k (by omega)
          simpa [pz_upd_n _ _ hkn, hkn] using this
      have hq' : qT (n + 1) (fun j => if j = n then c else t j) (nI (n + 1)) (upd tx n (nI c).toInt8.toInt32) := by
        refine ⟨rfl, fun k hk => ?_⟩
        by_cases hkn : k = n
        · subst hkn; simp [pz_upd_s]
        · have := hq.2 k (by omega)
          simpa [pz_upd_n _ _ hkn, hkn] using this
      obtain ⟨t', b', tx', g1, g2, g3, g4⟩ := ih m (n + 1) _ _ _ (by omega) (by omega) (by omega) hp' hq'
      rw [show n + 1 + m = n + (m + 1) by omega] at g1 g2 g3 g4
      have em : nI (m + 1) - 1 = nI m := nI_pred m
      have ea : nI m + (-1) = nI m - 1 := (Int32.sub_eq_add_neg _ _).symm
      refine ⟨t', b', tx', g1, g2, ?_, ?_⟩
      · show X6_write_b36 _ _ _ _ _ _ = _
        unfold X6_write_b36
        rw [em, if_neg (nI_pos (by omega)), e1]
        unfold X3_append
        rw [if_neg (by rw [pz_l200, pz_le (by omega) (by omega)]; omega), if_pos (by rw [pz_in (by omega)]; omega), gx_b2_some, nI_1, pz_cl (by omega), ea]
        exact g3
      · show X7_write_b34 _ _ _ _ _ = _
        unfold X7_write_b34
        rw [em, if_neg (nI_pos (by omega)), e2, if_pos (by rw [pz_in (by omega)]; omega), nI_1, pz_cl (by omega), ea]
        exact g4
theorem w_write {n : Nat} {t : Nat → Nat} {len lenM : Int32} {b tx : Nat → Int32} (x1 : Int32) (v : Int64) (hp : pT n t len b) (hq : qT n t lenM tx) : ∃ (r : Int32) (n' : Nat) (t' : Nat → Nat) (len' lenM' : Int32) (b' tx' : Nat → Int32), X6_write x1 v len b = some (r, len', b') ∧ X7_write x1 v lenM tx = some (r, lenM', tx') ∧ pT n' t' len' b' ∧ qT n' t' lenM' tx' := by
  obtain ⟨p1, p2, p3⟩ := id hp
  obtain ⟨q1, q2⟩ := id hq
  subst p2; subst q1
  have hin : X7_in x1.toInt64 (1 : Int64) (8 : Int64) = _ := q_in x1 1 8
  unfold X6_write X7_write
  rw [hin, gx_b_some]
  rcases pz_ix x1 9 (by decide) with ⟨h1, h2⟩ | ⟨h0, h1, h2, h3⟩ | ⟨j, hj, rfl⟩
  · have h3 : x1 < (1 : Int32) := by
      rw [Int32.lt_iff_toInt_lt] at h1 ⊢
      rw [show (0 : Int32).toInt = 0 by decide] at h1
      rw [show (1 : Int32).toInt = 1 by decide]
      omega
    exact ⟨-1, n, t, _, _, b, tx, by rw [if_pos h3], by rw [if_pos h3, if_pos rfl], hp, hq⟩
  · have h4 : ¬ x1 ≤ (8 : Int32) := by
      rw [pz_l8]; intro q; rw [Int32.le_iff_toInt_le, pz_ti (by omega)] at q h2; omega
    have h5 : ¬ x1 < (1 : Int32) := by
      rw [pz_l1]; intro q; rw [Int32.lt_iff_toInt_lt, pz_ti (by omega)] at q; rw [Int32.le_iff_toInt_le, pz_ti (by omega)] at h2; omega
    have h6 : (8 : Int32) < x1 := pz_lt_of (a := 9) (b := 8) (by decide) (by decide) h2
    exact ⟨-1, n, t, _, _, b, tx, by rw [if_neg h5, if_neg h4], by rw [if_neg h5, if_pos h6, if_pos rfl], hp, hq⟩
  · by_cases hj0 : j = 0
    · subst hj0
      exact ⟨-1, n, t, _, _, b, tx, by rw [if_pos (by decide)], by rw [if_pos (by decide)], hp, hq⟩
    · have h5 : ¬ nI j < (1 : Int32) := by rw [pz_l1, pz_lt (by omega) (by omega)]; omega
      have h4 : nI j ≤ (8 : Int32) := by rw [pz_l8, pz_le (by omega) (by omega)]; omega
      have h6 : ¬ (8 : Int32) < nI j := by rw [pz_l8, pz_lt (by omega) (by omega)]; omega
      rw [if_neg h5, if_pos h4, if_neg h5, if_neg h6, if_neg (by decide), X3_length, gx_b_some, pz_add, pz_l200]
      by_cases hf : n + j ≤ 200
      · have hf' : nI (n + j) ≤ nI 200 := by rw [pz_le (by omega) (by omega)]; exact hf
        rw [if_pos hf', if_pos hf']
        obtain ⟨t', b', tx', g1, g2, g3, g4⟩ := write_l v gx_F j n t b tx (by omega) hf (by rw [gx_F_eq]; omega) hp hq
        exact ⟨_, _, t', _, _, b', tx', g3, g4, g1, g2⟩
      · have hf' : ¬ nI (n + j) ≤ nI 200 := by rw [pz_le (by omega) (by omega)]; exact hf
        rw [if_neg hf', if_neg hf']
        exact ⟨-3, n, t, _, _, b, tx, rfl, rfl, hp, hq⟩
