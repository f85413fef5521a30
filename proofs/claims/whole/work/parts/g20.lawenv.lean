set_option maxHeartbeats 16000000 in
set_option maxRecDepth 100000 in
/-- what the machine around the law is -/
theorem law_env {p : Program} {s : State} {m : MethodId} {meth : Method} {c : Code} {b L : Nat} {xs : Nat → Int32} (C0 : lw_At p s m meth c b L xs) : ∃ (D : va_G) (cI cJ cB cO : ClassId) (tM tS : Nat), gx_X p s m #[Value.ref b] meth c code 4 ret RL D cI cJ cB cO tM tS (fun q : Nat => s.heap.size ≤ q) := by
  obtain ⟨hx, hb, hr, hml, hown, hts, hX, hbl, hlocks, hgv⟩ := id C0
  have hW : ∀ w ∈ gx_W0, w.before #[Value.ref b] s = true := fun w h => hts w (gx_W0_sub w h)
  obtain ⟨c0, i0, k0⟩ := u_known (C := RX0) (T := TX0) (N := 5) (n := 5) hW in_X0 (hW _ tw_169)
  obtain ⟨c1, i1, k1⟩ := u_known (C := RX1) (T := TX1) (N := 4) (n := 4) hW in_X1 (hW _ tw_81)
  obtain ⟨c2, i2, k2⟩ := u_known (C := RX2) (T := TX2) (N := 3) (n := 3) hW in_X2 (hW _ tw_113)
  obtain ⟨c3, i3, k3⟩ := u_known (C := RX3) (T := TX3) (N := 3) (n := 3) hW in_X3 (hW _ tw_64)
  obtain ⟨c4, i4, k4⟩ := u_known (C := RX4) (T := TX4) (N := 6) (n := 6) hW in_X4 (hW _ tw_130)
  obtain ⟨c5, i5, k5⟩ := u_known (C := RX5) (T := TX5) (N := 2) (n := 2) hW in_X5 (hW _ tw_100)
  obtain ⟨c6, i6, k6⟩ := u_known (C := RX6) (T := TX6) (N := 10) (n := 10) hW in_X6 (hW _ tw_56)
  obtain ⟨c7, i7, k7⟩ := u_known (C := RX7) (T := TX7) (N := 23) (n := 23) hW in_X7 (hW _ tw_663)
  obtain ⟨cI, kcI, pcI, fcI, gcI, ecI⟩ := Cond.arrayClass_spec (hW _ tw_79)
  obtain ⟨cJ, kcJ, pcJ, fcJ, gcJ, ecJ⟩ := Cond.arrayClass_spec (hW _ tw_128)
  obtain ⟨cB, kcB, pcB, fcB, gcB, ecB⟩ := Cond.arrayClass_spec (hW _ tw_746)
  have hAO : va_AO RX2 s := va_AO.of (hts (Cond.arrayOver (.object RX2)) (List.mem_of_getElem? (i := 136) (by decide +kernel)))
  obtain ⟨oC, cO, kO, o1, o2, o3, o4, o5⟩ := Cond.arrayOver_spec hAO
  obtain ⟨dC, dI, hKc⟩ : ∃ (dC : Nat → ClassId) (dI : Nat → Nat → Nat), ∀ (k : Nat) (q : vw_C), gx_cl[k]? = some q → u_Kn s q.1 q.2.1 q.2.2 (dC k) (dI k) := by
    refine ⟨fun k => if k = 0 then c0 else if k = 1 then c1 else if k = 2 then c2 else if k = 3 then c3 else if k = 4 then c4 else if k = 5 then c5 else if k = 6 then c6 else c7, fun k => if k = 0 then i0 else if k = 1 then i1 else if k = 2 then i2 else if k = 3 then i3 else if k = 4 then i4 else if k = 5 then i5 else if k = 6 then i6 else i7, ?_⟩
    intro k q hq
    match k, hq with
    | 0, hq => cases hq; exact k0
    | 1, hq => cases hq; exact k1
    | 2, hq => cases hq; exact k2
    | 3, hq => cases hq; exact k3
    | 4, hq => cases hq; exact k4
    | 5, hq => cases hq; exact k5
    | 6, hq => cases hq; exact k6
    | 7, hq => cases hq; exact k7
    | k + 8, hq => simp [gx_cl] at hq
  have hK : va_K (dC, dI) gx_cl (gx_ty cI cJ cB cO) s := by
    refine ⟨hKc, fun k q hq => ?_⟩
    match k, hq with
    | 0, hq => cases hq; exact ⟨fun n z => ⟨fun k h => (by cases h), kcI, gcI, pcI, ecI⟩, fcI⟩
    | 1, hq => cases hq; exact ⟨fun n z => ⟨fun k h => (by cases h), kcJ, gcJ, pcJ, ecJ⟩, fcJ⟩
    | 2, hq => cases hq; exact ⟨fun n z => ⟨fun k h => (by cases h), kcB, gcB, pcB, ecB⟩, fcB⟩
    | 3, hq => cases hq; exact ⟨fun n z => ⟨fun k h => (by cases h), kO, o3, oC, o4⟩, kO, oC, o3, o4, o1, o5⟩
    | k + 4, hq => simp [gx_ty] at hq
  have hN : gx_N s := ⟨va_Nw.of rfl (hts (Cond.methodLinkNest RX6 9 yX3_init RX6) (List.mem_of_getElem? (i := 65) (by decide +kernel))), va_Nw.of rfl (hts (Cond.methodLinkNest RX6 18 yX1_init RX6) (List.mem_of_getElem? (i := 82) (by decide +kernel))), va_Nw.of rfl (hts (Cond.methodLinkNest RX6 25 yX5_init RX6) (List.mem_of_getElem? (i := 101) (by decide +kernel))), va_Nw.of rfl (hts (Cond.methodLinkNest RX6 38 yX2_init RX6) (List.mem_of_getElem? (i := 114) (by decide +kernel))), va_Nw.of rfl (hts (Cond.methodLinkNest RX4 37 yX2_init RX6) (List.mem_of_getElem? (i := 138) (by decide +kernel))), va_Nw.of rfl (hts (Cond.methodLinkNest RX6 52 yX0_init RX6) (List.mem_of_getElem? (i := 170) (by decide +kernel))), va_Nw.of rfl (hts (Cond.methodLinkNest RX2 34 yX6_turned RX6) (List.mem_of_getElem? (i := 465) (by decide +kernel))), va_Nw.of rfl (hts (Cond.methodLinkNest RX2 48 yX6_isSense RX6) (List.mem_of_getElem? (i := 470) (by decide +kernel))), va_Nw.of rfl (hts (Cond.methodLinkNest RX2 42 yX6_slipped RX6) (List.mem_of_getElem? (i := 471) (by decide +kernel))), hAO⟩
  have hs := flat_of_before _ hgv
  have hAx : ∀ a : Nat, a < s.heap.size → ¬ (fun q : Nat => s.heap.size ≤ q) a := fun a h h2 => absurd h (Nat.not_lt.mpr h2)
  obtain ⟨tM, tM1, tM2⟩ := va_Tof (tm := (Term.static "MouthsToJudge" "MADE" "[I")) (ty := .int) (N := 60) (f := fun j => .int (gx_made j)) (A := (fun q : Nat => s.heap.size ≤ q)) (by decide) (hs (Cond.arrayOf (Term.static "MouthsToJudge" "MADE" "[I") .int) (by decide +kernel)) (va_eqt (hs (Cond.eq (.length (Term.static "MouthsToJudge" "MADE" "[I")) (.int 60)) (by decide +kernel))) (fun j hj => by
    match j, hj with
    | 0, _ => exact va_eqt (hs (Cond.eq (.elem (Term.static "MouthsToJudge" "MADE" "[I") (.int 0)) (.int 0)) (by decide +kernel))
    | 1, _ => exact va_eqt (hs (Cond.eq (.elem (Term.static "MouthsToJudge" "MADE" "[I") (.int 1)) (.int 1)) (by decide +kernel))
    | 2, _ => exact va_eqt (hs (Cond.eq (.elem (Term.static "MouthsToJudge" "MADE" "[I") (.int 2)) (.int 2)) (by decide +kernel))
    | 3, _ => exact va_eqt (hs (Cond.eq (.elem (Term.static "MouthsToJudge" "MADE" "[I") (.int 3)) (.int 3)) (by decide +kernel))
    | 4, _ => exact va_eqt (hs (Cond.eq (.elem (Term.static "MouthsToJudge" "MADE" "[I") (.int 4)) (.int 4)) (by decide +kernel))
    | 5, _ => exact va_eqt (hs (Cond.eq (.elem (Term.static "MouthsToJudge" "MADE" "[I") (.int 5)) (.int 5)) (by decide +kernel))
    | 6, _ => exact va_eqt (hs (Cond.eq (.elem (Term.static "MouthsToJudge" "MADE" "[I") (.int 6)) (.int 6)) (by decide +kernel))
    | 7, _ => exact va_eqt (hs (Cond.eq (.elem (Term.static "MouthsToJudge" "MADE" "[I") (.int 7)) (.int 7)) (by decide +kernel))
    | 8, _ => exact va_eqt (hs (Cond.eq (.elem (Term.static "MouthsToJudge" "MADE" "[I") (.int 8)) (.int 8)) (by decide +kernel))
    | 9, _ => exact va_eqt (hs (Cond.eq (.elem (Term.static "MouthsToJudge" "MADE" "[I") (.int 9)) (.int 9)) (by decide +kernel))
    | 10, _ => exact va_eqt (hs (Cond.eq (.elem (Term.static "MouthsToJudge" "MADE" "[I") (.int 10)) (.int 0)) (by decide +kernel))
    | 11, _ => exact va_eqt (hs (Cond.eq (.elem (Term.static "MouthsToJudge" "MADE" "[I") (.int 11)) (.int 1)) (by decide +kernel))
    | 12, _ => exact va_eqt (hs (Cond.eq (.elem (Term.static "MouthsToJudge" "MADE" "[I") (.int 12)) (.int 3)) (by decide +kernel))
    | 13, _ => exact va_eqt (hs (Cond.eq (.elem (Term.static "MouthsToJudge" "MADE" "[I") (.int 13)) (.int 3)) (by decide +kernel))
    | 14, _ => exact va_eqt (hs (Cond.eq (.elem (Term.static "MouthsToJudge" "MADE" "[I") (.int 14)) (.int 4)) (by decide +kernel))
    | 15, _ => exact va_eqt (hs (Cond.eq (.elem (Term.static "MouthsToJudge" "MADE" "[I") (.int 15)) (.int 5)) (by decide +kernel))
    | 16, _ => exact va_eqt (hs (Cond.eq (.elem (Term.static "MouthsToJudge" "MADE" "[I") (.int 16)) (.int 6)) (by decide +kernel))
    | 17, _ => exact va_eqt (hs (Cond.eq (.elem (Term.static "MouthsToJudge" "MADE" "[I") (.int 17)) (.int 7)) (by decide +kernel))
    | 18, _ => exact va_eqt (hs (Cond.eq (.elem (Term.static "MouthsToJudge" "MADE" "[I") (.int 18)) (.int 8)) (by decide +kernel))
    | 19, _ => exact va_eqt (hs (Cond.eq (.elem (Term.static "MouthsToJudge" "MADE" "[I") (.int 19)) (.int 9)) (by decide +kernel))
    | 20, _ => exact va_eqt (hs (Cond.eq (.elem (Term.static "MouthsToJudge" "MADE" "[I") (.int 20)) (.int 0)) (by decide +kernel))
    | 21, _ => exact va_eqt (hs (Cond.eq (.elem (Term.static "MouthsToJudge" "MADE" "[I") (.int 21)) (.int 1)) (by decide +kernel))
    | 22, _ => exact va_eqt (hs (Cond.eq (.elem (Term.static "MouthsToJudge" "MADE" "[I") (.int 22)) (.int 2)) (by decide +kernel))
    | 23, _ => exact va_eqt (hs (Cond.eq (.elem (Term.static "MouthsToJudge" "MADE" "[I") (.int 23)) (.int 3)) (by decide +kernel))
    | 24, _ => exact va_eqt (hs (Cond.eq (.elem (Term.static "MouthsToJudge" "MADE" "[I") (.int 24)) (.int 5)) (by decide +kernel))
    | 25, _ => exact va_eqt (hs (Cond.eq (.elem (Term.static "MouthsToJudge" "MADE" "[I") (.int 25)) (.int 6)) (by decide +kernel))
    | 26, _ => exact va_eqt (hs (Cond.eq (.elem (Term.static "MouthsToJudge" "MADE" "[I") (.int 26)) (.int 7)) (by decide +kernel))
    | 27, _ => exact va_eqt (hs (Cond.eq (.elem (Term.static "MouthsToJudge" "MADE" "[I") (.int 27)) (.int 7)) (by decide +kernel))
    | 28, _ => exact va_eqt (hs (Cond.eq (.elem (Term.static "MouthsToJudge" "MADE" "[I") (.int 28)) (.int 8)) (by decide +kernel))
    | 29, _ => exact va_eqt (hs (Cond.eq (.elem (Term.static "MouthsToJudge" "MADE" "[I") (.int 29)) (.int 9)) (by decide +kernel))
    | 30, _ => exact va_eqt (hs (Cond.eq (.elem (Term.static "MouthsToJudge" "MADE" "[I") (.int 30)) (.int 0)) (by decide +kernel))
    | 31, _ => exact va_eqt (hs (Cond.eq (.elem (Term.static "MouthsToJudge" "MADE" "[I") (.int 31)) (.int 1)) (by decide +kernel))
    | 32, _ => exact va_eqt (hs (Cond.eq (.elem (Term.static "MouthsToJudge" "MADE" "[I") (.int 32)) (.int 2)) (by decide +kernel))
    | 33, _ => exact va_eqt (hs (Cond.eq (.elem (Term.static "MouthsToJudge" "MADE" "[I") (.int 33)) (.int 3)) (by decide +kernel))
    | 34, _ => exact va_eqt (hs (Cond.eq (.elem (Term.static "MouthsToJudge" "MADE" "[I") (.int 34)) (.int 4)) (by decide +kernel))
    | 35, _ => exact va_eqt (hs (Cond.eq (.elem (Term.static "MouthsToJudge" "MADE" "[I") (.int 35)) (.int 5)) (by decide +kernel))
    | 36, _ => exact va_eqt (hs (Cond.eq (.elem (Term.static "MouthsToJudge" "MADE" "[I") (.int 36)) (.int 6)) (by decide +kernel))
    | 37, _ => exact va_eqt (hs (Cond.eq (.elem (Term.static "MouthsToJudge" "MADE" "[I") (.int 37)) (.int 7)) (by decide +kernel))
    | 38, _ => exact va_eqt (hs (Cond.eq (.elem (Term.static "MouthsToJudge" "MADE" "[I") (.int 38)) (.int 9)) (by decide +kernel))
    | 39, _ => exact va_eqt (hs (Cond.eq (.elem (Term.static "MouthsToJudge" "MADE" "[I") (.int 39)) (.int 9)) (by decide +kernel))
    | 40, _ => exact va_eqt (hs (Cond.eq (.elem (Term.static "MouthsToJudge" "MADE" "[I") (.int 40)) (.int 0)) (by decide +kernel))
    | 41, _ => exact va_eqt (hs (Cond.eq (.elem (Term.static "MouthsToJudge" "MADE" "[I") (.int 41)) (.int 2)) (by decide +kernel))
    | 42, _ => exact va_eqt (hs (Cond.eq (.elem (Term.static "MouthsToJudge" "MADE" "[I") (.int 42)) (.int 1)) (by decide +kernel))
    | 43, _ => exact va_eqt (hs (Cond.eq (.elem (Term.static "MouthsToJudge" "MADE" "[I") (.int 43)) (.int 3)) (by decide +kernel))
    | 44, _ => exact va_eqt (hs (Cond.eq (.elem (Term.static "MouthsToJudge" "MADE" "[I") (.int 44)) (.int 4)) (by decide +kernel))
    | 45, _ => exact va_eqt (hs (Cond.eq (.elem (Term.static "MouthsToJudge" "MADE" "[I") (.int 45)) (.int 5)) (by decide +kernel))
    | 46, _ => exact va_eqt (hs (Cond.eq (.elem (Term.static "MouthsToJudge" "MADE" "[I") (.int 46)) (.int 6)) (by decide +kernel))
    | 47, _ => exact va_eqt (hs (Cond.eq (.elem (Term.static "MouthsToJudge" "MADE" "[I") (.int 47)) (.int 7)) (by decide +kernel))
    | 48, _ => exact va_eqt (hs (Cond.eq (.elem (Term.static "MouthsToJudge" "MADE" "[I") (.int 48)) (.int 8)) (by decide +kernel))
    | 49, _ => exact va_eqt (hs (Cond.eq (.elem (Term.static "MouthsToJudge" "MADE" "[I") (.int 49)) (.int 9)) (by decide +kernel))
    | 50, _ => exact va_eqt (hs (Cond.eq (.elem (Term.static "MouthsToJudge" "MADE" "[I") (.int 50)) (.int 1)) (by decide +kernel))
    | 51, _ => exact va_eqt (hs (Cond.eq (.elem (Term.static "MouthsToJudge" "MADE" "[I") (.int 51)) (.int 1)) (by decide +kernel))
    | 52, _ => exact va_eqt (hs (Cond.eq (.elem (Term.static "MouthsToJudge" "MADE" "[I") (.int 52)) (.int 2)) (by decide +kernel))
    | 53, _ => exact va_eqt (hs (Cond.eq (.elem (Term.static "MouthsToJudge" "MADE" "[I") (.int 53)) (.int 1)) (by decide +kernel))
    | 54, _ => exact va_eqt (hs (Cond.eq (.elem (Term.static "MouthsToJudge" "MADE" "[I") (.int 54)) (.int 4)) (by decide +kernel))
    | 55, _ => exact va_eqt (hs (Cond.eq (.elem (Term.static "MouthsToJudge" "MADE" "[I") (.int 55)) (.int 5)) (by decide +kernel))
    | 56, _ => exact va_eqt (hs (Cond.eq (.elem (Term.static "MouthsToJudge" "MADE" "[I") (.int 56)) (.int 6)) (by decide +kernel))
    | 57, _ => exact va_eqt (hs (Cond.eq (.elem (Term.static "MouthsToJudge" "MADE" "[I") (.int 57)) (.int 7)) (by decide +kernel))
    | 58, _ => exact va_eqt (hs (Cond.eq (.elem (Term.static "MouthsToJudge" "MADE" "[I") (.int 58)) (.int 8)) (by decide +kernel))
    | 59, _ => exact va_eqt (hs (Cond.eq (.elem (Term.static "MouthsToJudge" "MADE" "[I") (.int 59)) (.int 9)) (by decide +kernel))
    | k + 60, h => exact absurd h (by omega)) hAx
  have tM3 : va_Z RX6 "MADE" "[I" (.ref tM) (fun q : Nat => s.heap.size ≤ q) s s.heap := va_Zref (hts (Cond.laysStatic "MouthsToJudge" "MADE" "[I") (List.mem_of_getElem? (i := 340) (by decide +kernel))) (hW _ tw_43) tM1 hAx
  obtain ⟨tS, tS1, tS2⟩ := va_Tof (tm := (Term.static "MouthsToJudge$Search" "SCALE" "[J")) (ty := .long) (N := 8) (f := fun j => .long (gx_scale j)) (A := (fun q : Nat => s.heap.size ≤ q)) (by decide) (hs (Cond.arrayOf (Term.static "MouthsToJudge$Search" "SCALE" "[J") .long) (by decide +kernel)) (va_eqt (hs (Cond.eq (.length (Term.static "MouthsToJudge$Search" "SCALE" "[J")) (.int 8)) (by decide +kernel))) (fun j hj => by
    match j, hj with
    | 0, _ => exact va_eqtl (hs (Cond.eq (.elem (Term.static "MouthsToJudge$Search" "SCALE" "[J") (.int 0)) (.long 10000000)) (by decide +kernel))
    | 1, _ => exact va_eqtl (hs (Cond.eq (.elem (Term.static "MouthsToJudge$Search" "SCALE" "[J") (.int 1)) (.long 1000000)) (by decide +kernel))
    | 2, _ => exact va_eqtl (hs (Cond.eq (.elem (Term.static "MouthsToJudge$Search" "SCALE" "[J") (.int 2)) (.long 100000)) (by decide +kernel))
    | 3, _ => exact va_eqtl (hs (Cond.eq (.elem (Term.static "MouthsToJudge$Search" "SCALE" "[J") (.int 3)) (.long 10000)) (by decide +kernel))
    | 4, _ => exact va_eqtl (hs (Cond.eq (.elem (Term.static "MouthsToJudge$Search" "SCALE" "[J") (.int 4)) (.long 1000)) (by decide +kernel))
    | 5, _ => exact va_eqtl (hs (Cond.eq (.elem (Term.static "MouthsToJudge$Search" "SCALE" "[J") (.int 5)) (.long 100)) (by decide +kernel))
    | 6, _ => exact va_eqtl (hs (Cond.eq (.elem (Term.static "MouthsToJudge$Search" "SCALE" "[J") (.int 6)) (.long 10)) (by decide +kernel))
    | 7, _ => exact va_eqtl (hs (Cond.eq (.elem (Term.static "MouthsToJudge$Search" "SCALE" "[J") (.int 7)) (.long 1)) (by decide +kernel))
    | k + 8, h => exact absurd h (by omega)) hAx
  have tS3 : va_Z RX4 "SCALE" "[J" (.ref tS) (fun q : Nat => s.heap.size ≤ q) s s.heap := va_Zref (hts (Cond.laysStatic "MouthsToJudge$Search" "SCALE" "[J") (List.mem_of_getElem? (i := 533) (by decide +kernel))) (hW _ tw_48) tS1 hAx
  exact ⟨(dC, dI), cI, cJ, cB, cO, tM, tS, hx, hb, hr, hml, hown, hW, hlocks, ⟨hK, hN, tM3, tM2, tS3, tS2⟩, fun _ h => h⟩
