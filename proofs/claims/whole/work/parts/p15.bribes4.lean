/-- what both sides hold of the least set so far -/
def brR (tr : Nat → Nat) (M : Nat) (least b1 b2 : Int32) : Prop := (least = -4 ∧ b1 = -1) ∨ ∃ C, C < 128 ∧ (∀ i, i < 7 → C.testBit i = true → i < M) ∧ least = nI C ∧ b1 = nI (prc tr C 0 M) ∧ b2 = nI C
section BRIBES4
variable {M sp he : Nat} {tr hate : Nat → Nat} {ch wd : List Nat} {mo sk hr se spo : Int32} {ts hs seats words told mouths mouth hates seated chain wordsM word : Nat → Int32}
theorem c_cheaper (h : ZZ M tr sp he hate ch wd mo sk hr ts hs se spo seats words told mouths mouth hates seated chain wordsM word) {B C : Nat} (hB : B < 128) (hC : C < 128) : X6_isCheaper (nI B) (nI C) mo ts = some (nI (if prc tr B 0 M < prc tr C 0 M ∨ (prc tr B 0 M = prc tr C 0 M ∧ bc B 7 < bc C 7) then 1 else 0)) := by
  have l1 := prc_lt h.2.1 B M 0 (by omega)
  have l2 := prc_lt h.2.1 C M 0 (by omega)
  have l3 := bc_le B 7
  have l4 := bc_le C 7
  have hM7 := h.2.1.1
  unfold X6_isCheaper
  rw [c_price h hB, c_price h hC, gx_b_some, gx_b_some]
  show (if nI (prc tr B 0 M) - nI (prc tr C 0 M) = 0 then _ else _) = _
  rw [c_bits B hB, gx_b_some, c_bits C hC, gx_b_some]
  generalize prc tr B 0 M = a at *
  generalize prc tr C 0 M = b at *
  have ht : (nI a - nI b).toInt = (a : Int) - b := pk_sub_toInt (by omega) (by omega)
  by_cases e : a = b
  · subst e
    have h0 : nI a - nI a = 0 := by rw [pz_sub (Nat.le_refl a), Nat.sub_self]; rfl
    rw [if_pos h0]
    by_cases h5 : bc C 7 ≤ bc B 7
    · rw [if_pos (by rw [pz_le (by omega) (by omega)]; exact h5), if_neg (by omega)]; rfl
    · rw [if_neg (by rw [pz_le (by omega) (by omega)]; exact h5), if_pos (by omega)]; rfl
  · have h0 : ¬ nI a - nI b = 0 := fun q => by
      have := congrArg Int32.toInt q
      rw [ht, show (0 : Int32).toInt = 0 by decide] at this
      omega
    rw [if_neg h0]
    by_cases h5 : a < b
    · rw [if_neg (by rw [Int32.le_iff_toInt_le, ht, show (0 : Int32).toInt = 0 by decide]; omega), if_pos (by omega)]; rfl
    · rw [if_pos (by rw [Int32.le_iff_toInt_le, ht, show (0 : Int32).toInt = 0 by decide]; omega), if_neg (by omega)]; rfl
end BRIBES4
