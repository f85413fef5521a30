/-! ===== the pure layer: plain rows on numbers ===== -/
theorem pz_lt {a b : Nat} (ha : a < 2147483648) (hb : b < 2147483648) : (nI a < nI b) = (a < b) := propext (nI_ltI ha hb)
theorem pz_le {a b : Nat} (ha : a < 2147483648) (hb : b < 2147483648) : (nI a ≤ nI b) = (a ≤ b) := propext (nI_leI ha hb)
theorem pz_eq {a b : Nat} (ha : a < 2147483648) (hb : b < 2147483648) : (nI a = nI b) = (a = b) := propext (nI_eq ha hb)
theorem pz_cl {a : Nat} (ha : a < 2147483648) : (nI a).toNatClampNeg = a := nI_clamp ha
theorem pz_in {a n : Nat} (ha : a < 2147483648) : (gx_in (nI a) n) = (a < n) := by
  show (¬ (nI a < 0 ∨ n ≤ (nI a).toNatClampNeg)) = (a < n)
  rw [pz_cl ha]
  have h : ¬ nI a < 0 := nI_pos ha
  apply propext
  constructor
  · intro h1
    exact Nat.not_le.mp (fun h2 => h1 (Or.inr h2))
  · intro h1 h2
    rcases h2 with h2 | h2
    · exact h h2
    · omega
theorem pz_add (a b : Nat) : nI a + nI b = nI (a + b) := nI_add a b
theorem pz_mul (a b : Nat) : nI a * nI b = nI (a * b) := pk_mul a b
theorem pz_sub {a b : Nat} (h : b ≤ a) : nI a - nI b = nI (a - b) := pk_sub h
theorem pz_div {a d : Nat} (ha : a < 2147483648) (h0 : 0 < d) (hd : d < 2147483648) : nI a / nI d = nI (a / d) := pk_div ha h0 hd
theorem pz_rem {a d : Nat} (ha : a < 2147483648) (h0 : 0 < d) (hd : d < 2147483648) : nI a - nI a / nI d * nI d = nI (a % d) := pk_rem ha h0 hd
theorem pz_ti {n : Nat} (h : n < 2147483648) : (nI n).toInt = (n : Int) := nI_toInt h
theorem pz_lit (n : Nat) : (OfNat.ofNat n : Int32) = nI n := rfl
theorem pz_litL (n : Nat) : (OfNat.ofNat n : Int64) = lN n := rfl
theorem pz_m1 : (-1 : Int32).toInt = -1 := by decide
theorem pz_ix (x : Int32) (n : Nat) (hn : n < 2147483648) : (x < 0 ∧ ¬ 0 ≤ x) ∨ (¬ x < 0 ∧ 0 ≤ x ∧ nI n ≤ x ∧ ¬ x < nI n) ∨ ∃ j : Nat, j < n ∧ x = nI j := by
  rcases pk_ix x hn with h | h | h
  · refine Or.inl ⟨h, ?_⟩
    rw [Int32.le_iff_toInt_le]
    rw [Int32.lt_iff_toInt_lt] at h
    omega
  · by_cases h0 : x < 0
    · exfalso
      rw [Int32.lt_iff_toInt_lt] at h0
      rw [Int32.le_iff_toInt_le, pz_ti hn] at h
      have : (0 : Int32).toInt = 0 := by decide
      omega
    · refine Or.inr (Or.inl ⟨h0, ?_, h, ?_⟩)
      · rw [Int32.le_iff_toInt_le]
        rw [Int32.lt_iff_toInt_lt] at h0
        omega
      · rw [Int32.lt_iff_toInt_lt]
        rw [Int32.le_iff_toInt_le] at h
        omega
  · exact Or.inr (Or.inr h)
theorem pz_nle {x : Int32} {a b : Nat} (hb : b < 2147483648) (h : nI a ≤ x) (hab : b ≤ a) (ha : a < 2147483648) : nI b ≤ x := by
  rw [Int32.le_iff_toInt_le, pz_ti ha] at h
  rw [Int32.le_iff_toInt_le, pz_ti hb]
  omega
theorem pz_upd_s (f : Nat → Int32) (k : Nat) (x : Int32) : upd f k x k = x := pk_us
theorem pz_upd_n (f : Nat → Int32) {k j : Nat} (x : Int32) (h : j ≠ k) : upd f k x j = f j := pk_un h
theorem pz_updL_s (f : Nat → Int64) (k : Nat) (x : Int64) : vp_updL f k x k = x := pk_uLs
theorem pz_updL_n (f : Nat → Int64) {k j : Nat} (x : Int64) (h : j ≠ k) : vp_updL f k x j = f j := pk_uLn h
/-- a test of the first index: an argument is a number below n, or the class says BAD -/
theorem pz_1 : (1 : Int32) = 0 ↔ False := by decide
theorem pz_l0 : (0 : Int32) = nI 0 := rfl
theorem pz_l1 : (1 : Int32) = nI 1 := rfl
theorem pz_l2 : (2 : Int32) = nI 2 := rfl
theorem pz_l3 : (3 : Int32) = nI 3 := rfl
theorem pz_l4 : (4 : Int32) = nI 4 := rfl
theorem pz_l5 : (5 : Int32) = nI 5 := rfl
theorem pz_l6 : (6 : Int32) = nI 6 := rfl
theorem pz_l7 : (7 : Int32) = nI 7 := rfl
theorem pz_l8 : (8 : Int32) = nI 8 := rfl
theorem pz_l9 : (9 : Int32) = nI 9 := rfl
theorem pz_l10 : (10 : Int32) = nI 10 := rfl
theorem pz_l11 : (11 : Int32) = nI 11 := rfl
theorem pz_l12 : (12 : Int32) = nI 12 := rfl
theorem pz_l13 : (13 : Int32) = nI 13 := rfl
theorem pz_l20 : (20 : Int32) = nI 20 := rfl
theorem pz_l21 : (21 : Int32) = nI 21 := rfl
theorem pz_l31 : (31 : Int32) = nI 31 := rfl
theorem pz_l32 : (32 : Int32) = nI 32 := rfl
theorem pz_l34 : (34 : Int32) = nI 34 := rfl
theorem pz_l35 : (35 : Int32) = nI 35 := rfl
theorem pz_l36 : (36 : Int32) = nI 36 := rfl
theorem pz_l37 : (37 : Int32) = nI 37 := rfl
theorem pz_l38 : (38 : Int32) = nI 38 := rfl
theorem pz_l39 : (39 : Int32) = nI 39 := rfl
theorem pz_l44 : (44 : Int32) = nI 44 := rfl
theorem pz_l48 : (48 : Int32) = nI 48 := rfl
theorem pz_l50 : (50 : Int32) = nI 50 := rfl
theorem pz_l57 : (57 : Int32) = nI 57 := rfl
theorem pz_l59 : (59 : Int32) = nI 59 := rfl
theorem pz_l70 : (70 : Int32) = nI 70 := rfl
theorem pz_l99 : (99 : Int32) = nI 99 := rfl
theorem pz_l100 : (100 : Int32) = nI 100 := rfl
theorem pz_l104 : (104 : Int32) = nI 104 := rfl
theorem pz_l105 : (105 : Int32) = nI 105 := rfl
theorem pz_l116 : (116 : Int32) = nI 116 := rfl
theorem pz_l128 : (128 : Int32) = nI 128 := rfl
theorem pz_l199 : (199 : Int32) = nI 199 := rfl
theorem pz_l200 : (200 : Int32) = nI 200 := rfl
theorem pz_l255 : (255 : Int32) = nI 255 := rfl
theorem pz_l9999 : (9999 : Int32) = nI 9999 := rfl
theorem pz_l10000 : (10000 : Int32) = nI 10000 := rfl
