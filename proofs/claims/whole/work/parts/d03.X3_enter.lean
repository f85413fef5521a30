def X3_enter_B (cI cJ cB cO : ClassId) (a_this a_this_bytes a_this_numbers a_p2 a_p2_traits a_p2_hated : Nat) (v_this_length : Int32) (v_this_numbers : Nat → Int32) (n_p2_mouths n_p2_speaks n_p2_hears : Int32) (n_p2_traits n_p2_hated : Nat → Int32) : va_W → Prop := fun w1 => w1 = [(a_this, .inr (3, [.ref a_this_bytes, .ref a_this_numbers, .int v_this_length])), (a_this_numbers, .inl (cI, 5, .inl v_this_numbers)), (a_p2, .inr (0, [.ref a_p2_traits, .ref a_p2_hated, .int n_p2_mouths, .int n_p2_speaks, .int n_p2_hears])), (a_p2_traits, .inl (cI, 35, .inl n_p2_traits)), (a_p2_hated, .inl (cI, 7, .inl n_p2_hated))]
abbrev X3_enter_rm : Room := { frames := 2, cells := 0, slots := 0, locals := 46 }
set_option maxHeartbeats 4000000 in
set_option maxRecDepth 100000 in
theorem X3_enter_b0_ok {p : Program} {l : Launch} {e : Env} {s : State} {m : MethodId} {args : Array Value} {below : List Frame} {meth : Method} {c : Code} {D : va_G} {cI cJ cB cO : ClassId} {tM tS : Nat} {A : Nat → Prop} (C : gx_X p s m args meth c cX3_enter 3 (some .boolean) RX3 D cI cJ cB cO tM tS A) (a_this a_this_bytes a_this_numbers a_p2 a_p2_traits a_p2_hated : Nat) (v_this_length : Int32) (n_r n_p2_mouths n_p2_speaks n_p2_hears : Int32) (n_p2_traits n_p2_hated : Nat → Int32)  : ∀ (x1 : Int32) (v_this_numbers : Nat → Int32) (v_p2_mouths v_p2_speaks v_p2_hears : Int32) (v_p2_traits v_p2_hated : Nat → Int32) , X3_enter x1 v_this_numbers v_p2_mouths v_p2_speaks v_p2_hears v_p2_traits v_p2_hated = some (n_r, n_p2_mouths, n_p2_speaks, n_p2_hears, n_p2_traits, n_p2_hated) → gx_Wt p l e X3_enter_rm s m args below meth c (MQ below (gx_Q D A (X3_enter_B cI cJ cB cO a_this a_this_bytes a_this_numbers a_p2 a_p2_traits a_p2_hated v_this_length v_this_numbers n_p2_mouths n_p2_speaks n_p2_hears n_p2_traits n_p2_hated) (some (.int n_r))) args s 0 0 A) D A 3 [(a_this, .inr (3, [.ref a_this_bytes, .ref a_this_numbers, .int v_this_length])), (a_this_numbers, .inl (cI, 5, .inl v_this_numbers)), (a_p2, .inr (0, [.ref a_p2_traits, .ref a_p2_hated, .int v_p2_mouths, .int v_p2_speaks, .int v_p2_hears])), (a_p2_traits, .inl (cI, 35, .inl v_p2_traits)), (a_p2_hated, .inl (cI, 7, .inl v_p2_hated))] [(0, .ref a_this), (1, .int x1), (2, .ref a_p2)] 0 [] := by
  intro x1 v_this_numbers v_p2_mouths v_p2_speaks v_p2_hears v_p2_traits v_p2_hated hf H locs ls hP hD hS hl
  obtain ⟨hx, hb, hr, hml, hown, hW, hlocks, hE, hA⟩ := id C
  unfold X3_enter at hf
  refine lv_iload_n hx hb dX3_enter_0 rfl (lv_at hl 1 rfl) ?_
  by_cases q0 : x1 = (104 : Int32)
  · have hq := gx_t hf q0
    subst q0
    have hf := hq
    refine lv_lookup (tgt := 88) (off := 87) hx hb dX3_enter_1 (by decide) (by decide) (by decide) ?_
    refine lv_aload_n hx hb dX3_enter_88 rfl (lv_at hl 2 rfl) ?_
    refine lv_aload_n hx hb dX3_enter_89 rfl (lv_at hl 0 rfl) ?_
    refine va_get (D := D) (ci := 3) (v := .ref a_this_numbers) (C := RX3) (T := TX3) (N := 3) hx hb hW in_X3 hown hE.1 hP 0 rfl rfl 1 (by decide) (hW _ tw_70) (fun _ h9 => h9) rfl dX3_enter_90 ?_
    refine lv_iconst (v := 0) hx hb dX3_enter_93 (by decide) ?_
    obtain ⟨h1, hf⟩ := gx_ite hf
    refine va_iald hx hb hE.1 hP 1 0 rfl rfl h1 dX3_enter_94 ?_
    refine lv_aload_n hx hb dX3_enter_95 rfl (lv_at hl 0 rfl) ?_
    refine va_get (D := D) (ci := 3) (v := .ref a_this_numbers) (C := RX3) (T := TX3) (N := 3) hx hb hW in_X3 hown hE.1 hP 0 rfl rfl 1 (by decide) (hW _ tw_70) (fun _ h9 => h9) rfl dX3_enter_96 ?_
    refine lv_iconst (v := 1) hx hb dX3_enter_99 (by decide) ?_
    obtain ⟨h2, hf⟩ := gx_ite hf
    refine va_iald hx hb hE.1 hP 1 0 rfl rfl h2 dX3_enter_100 ?_
    obtain ⟨r3, w4, hg, hf⟩ := gx_bs2 hf
    refine gx_V (As := [.int (v_this_numbers (0 : Int32).toNatClampNeg), .int (v_this_numbers (1 : Int32).toNatClampNeg)]) (rest := []) (st1 := [.int r3]) (cells1 := 0) (slots1 := 0) (wc := [(a_p2, .inr (0, [.ref a_p2_traits, .ref a_p2_hated, .int v_p2_mouths, .int v_p2_speaks, .int v_p2_hears])), (a_p2_hated, .inl (cI, 7, .inl v_p2_hated))]) (wr := [(a_this, .inr (3, [.ref a_this_bytes, .ref a_this_numbers, .int v_this_length])), (a_this_numbers, .inl (cI, 5, .inl v_this_numbers)), (a_p2_traits, .inl (cI, 35, .inl v_p2_traits))]) ⟨hx, hb, hml, hown, hW⟩ (X0_setAtOdds_ok l D cI cJ cB cO tM tS a_p2 a_p2_traits a_p2_hated v_p2_mouths v_p2_speaks v_p2_hears v_p2_hated (v_this_numbers (0 : Int32).toNatClampNeg) (v_this_numbers (1 : Int32).toNatClampNeg) r3 w4 hg) yk_X0_setAtOdds tw_293 yv_X0_setAtOdds ⟨rfl, rfl⟩ ⟨Nat.le_of_ble_eq_true rfl, Nat.le_of_ble_eq_true rfl⟩ hE hP hD hS hA [2, 4] [0, 1, 3] rfl rfl (by decide +kernel) (by decide +kernel) rfl (by decide +kernel) (ci := 0) rfl rfl rfl hl.1 (Nat.le_of_ble_eq_true rfl) rfl rfl dX3_enter_101 ⟨Nat.le_of_ble_eq_true rfl, Nat.le_of_ble_eq_true rfl⟩ ⟨rfl, rfl⟩ (fun w1 H locs hB hP hD hS => ?_)
    obtain rfl := hB
    have hP : va_P D gx_cl [(a_this, .inr (3, [.ref a_this_bytes, .ref a_this_numbers, .int v_this_length])), (a_this_numbers, .inl (cI, 5, .inl v_this_numbers)), (a_p2, .inr (0, [.ref a_p2_traits, .ref a_p2_hated, .int v_p2_mouths, .int v_p2_speaks, .int v_p2_hears])), (a_p2_traits, .inl (cI, 35, .inl v_p2_traits)), (a_p2_hated, .inl (cI, 7, .inl w4))] H := hP.sub [0, 1, 3, 2, 4] rfl
    have hD : va_D A [(a_this, .inr (3, [.ref a_this_bytes, .ref a_this_numbers, .int v_this_length])), (a_this_numbers, .inl (cI, 5, .inl v_this_numbers)), (a_p2, .inr (0, [.ref a_p2_traits, .ref a_p2_hated, .int v_p2_mouths, .int v_p2_speaks, .int v_p2_hears])), (a_p2_traits, .inl (cI, 35, .inl v_p2_traits)), (a_p2_hated, .inl (cI, 7, .inl w4))] := hD.sub [0, 1, 3, 2, 4] (by decide +kernel) rfl
    obtain ⟨hz, hf⟩ := gx_ite hf
    cases hf
    exact gx_zret hx hb hr hlocks hz rfl hP hD hS dX3_enter_104
  · have hf := gx_f hf q0
    by_cases q1 : x1 = (105 : Int32)
    · have hq := gx_t hf q1
      subst q1
      have hf := hq
      refine lv_lookup (tgt := 53) (off := 52) hx hb dX3_enter_1 (by decide) (by decide) (by decide) ?_
      refine lv_aload_n hx hb dX3_enter_53 rfl (lv_at hl 2 rfl) ?_
      refine lv_aload_n hx hb dX3_enter_54 rfl (lv_at hl 0 rfl) ?_
      refine va_get (D := D) (ci := 3) (v := .ref a_this_numbers) (C := RX3) (T := TX3) (N := 3) hx hb hW in_X3 hown hE.1 hP 0 rfl rfl 1 (by decide) (hW _ tw_70) (fun _ h9 => h9) rfl dX3_enter_55 ?_
      refine lv_iconst (v := 0) hx hb dX3_enter_58 (by decide) ?_
      obtain ⟨h5, hf⟩ := gx_ite hf
      refine va_iald hx hb hE.1 hP 1 0 rfl rfl h5 dX3_enter_59 ?_
      refine lv_aload_n hx hb dX3_enter_60 rfl (lv_at hl 0 rfl) ?_
      refine va_get (D := D) (ci := 3) (v := .ref a_this_numbers) (C := RX3) (T := TX3) (N := 3) hx hb hW in_X3 hown hE.1 hP 0 rfl rfl 1 (by decide) (hW _ tw_70) (fun _ h9 => h9) rfl dX3_enter_61 ?_
      refine lv_iconst (v := 1) hx hb dX3_enter_64 (by decide) ?_
      obtain ⟨h6, hf⟩ := gx_ite hf
      refine va_iald hx hb hE.1 hP 1 0 rfl rfl h6 dX3_enter_65 ?_
      refine lv_aload_n hx hb dX3_enter_66 rfl (lv_at hl 0 rfl) ?_
      refine va_get (D := D) (ci := 3) (v := .ref a_this_numbers) (C := RX3) (T := TX3) (N := 3) hx hb hW in_X3 hown hE.1 hP 0 rfl rfl 1 (by decide) (hW _ tw_70) (fun _ h9 => h9) rfl dX3_enter_67 ?_
      refine lv_iconst (v := 2) hx hb dX3_enter_70 (by decide) ?_
      obtain ⟨h7, hf⟩ := gx_ite hf
      refine va_iald hx hb hE.1 hP 1 0 rfl rfl h7 dX3_enter_71 ?_
      refine lv_aload_n hx hb dX3_enter_72 rfl (lv_at hl 0 rfl) ?_
      refine va_get (D := D) (ci := 3) (v := .ref a_this_numbers) (C := RX3) (T := TX3) (N := 3) hx hb hW in_X3 hown hE.1 hP 0 rfl rfl 1 (by decide) (hW _ tw_70) (fun _ h9 => h9) rfl dX3_enter_73 ?_
      refine lv_iconst (v := 3) hx hb dX3_enter_76 (by decide) ?_
      obtain ⟨h8, hf⟩ := gx_ite hf
      refine va_iald hx hb hE.1 hP 1 0 rfl rfl h8 dX3_enter_77 ?_
      refine lv_aload_n hx hb dX3_enter_78 rfl (lv_at hl 0 rfl) ?_
      refine va_get (D := D) (ci := 3) (v := .ref a_this_numbers) (C := RX3) (T := TX3) (N := 3) hx hb hW in_X3 hown hE.1 hP 0 rfl rfl 1 (by decide) (hW _ tw_70) (fun _ h9 => h9) rfl dX3_enter_79 ?_
      refine lv_iconst (v := 4) hx hb dX3_enter_82 (by decide) ?_
      obtain ⟨h9, hf⟩ := gx_ite hf
      refine va_iald hx hb hE.1 hP 1 0 rfl rfl h9 dX3_enter_83 ?_
      obtain ⟨r10, w11, w12, hg, hf⟩ := gx_bs3 hf
      refine gx_V (As := [.int (v_this_numbers (0 : Int32).toNatClampNeg), .int (v_this_numbers (1 : Int32).toNatClampNeg), .int (v_this_numbers (2 : Int32).toNatClampNeg), .int (v_this_numbers (3 : Int32).toNatClampNeg), .int (v_this_numbers (4 : Int32).toNatClampNeg)]) (rest := []) (st1 := [.int r10]) (cells1 := 0) (slots1 := 0) (wc := [(a_p2, .inr (0, [.ref a_p2_traits, .ref a_p2_hated, .int v_p2_mouths, .int v_p2_speaks, .int v_p2_hears])), (a_p2_traits, .inl (cI, 35, .inl v_p2_traits))]) (wr := [(a_this, .inr (3, [.ref a_this_bytes, .ref a_this_numbers, .int v_this_length])), (a_this_numbers, .inl (cI, 5, .inl v_this_numbers)), (a_p2_hated, .inl (cI, 7, .inl v_p2_hated))]) ⟨hx, hb, hml, hown, hW⟩ (X0_admit_ok l D cI cJ cB cO tM tS a_p2 a_p2_traits a_p2_hated v_p2_mouths v_p2_speaks v_p2_hears v_p2_traits (v_this_numbers (0 : Int32).toNatClampNeg) (v_this_numbers (1 : Int32).toNatClampNeg) (v_this_numbers (2 : Int32).toNatClampNeg) (v_this_numbers (3 : Int32).toNatClampNeg) (v_this_numbers (4 : Int32).toNatClampNeg) r10 w11 w12 hg) yk_X0_admit tw_292 yv_X0_admit ⟨rfl, rfl⟩ ⟨Nat.le_of_ble_eq_true rfl, Nat.le_of_ble_eq_true rfl⟩ hE hP hD hS hA [2, 3] [0, 1, 4] rfl rfl (by decide +kernel) (by decide +kernel) rfl (by decide +kernel) (ci := 0) rfl rfl rfl hl.1 (Nat.le_of_ble_eq_true rfl) rfl rfl dX3_enter_84 ⟨Nat.le_of_ble_eq_true rfl, Nat.le_of_ble_eq_true rfl⟩ ⟨rfl, rfl⟩ (fun w1 H locs hB hP hD hS => ?_)
      obtain rfl := hB
      have hP : va_P D gx_cl [(a_this, .inr (3, [.ref a_this_bytes, .ref a_this_numbers, .int v_this_length])), (a_this_numbers, .inl (cI, 5, .inl v_this_numbers)), (a_p2, .inr (0, [.ref a_p2_traits, .ref a_p2_hated, .int w11, .int v_p2_speaks, .int v_p2_hears])), (a_p2_traits, .inl (cI, 35, .inl w12)), (a_p2_hated, .inl (cI, 7, .inl v_p2_hated))] H := hP.sub [0, 1, 3, 4, 2] rfl
      have hD : va_D A [(a_this, .inr (3, [.ref a_this_bytes, .ref a_this_numbers, .int v_this_length])), (a_this_numbers, .inl (cI, 5, .inl v_this_numbers)), (a_p2, .inr (0, [.ref a_p2_traits, .ref a_p2_hated, .int w11, .int v_p2_speaks, .int v_p2_hears])), (a_p2_traits, .inl (cI, 35, .inl w12)), (a_p2_hated, .inl (cI, 7, .inl v_p2_hated))] := hD.sub [0, 1, 3, 4, 2] (by decide +kernel) rfl
      obtain ⟨hz, hf⟩ := gx_ite hf
      cases hf
      exact gx_zret hx hb hr hlocks hz rfl hP hD hS dX3_enter_87
    · have hf := gx_f hf q1
      by_cases q2 : x1 = (116 : Int32)
      · have hq := gx_t hf q2
        subst q2
        have hf := hq
        refine lv_lookup (tgt := 36) (off := 35) hx hb dX3_enter_1 (by decide) (by decide) (by decide) ?_
        refine lv_aload_n hx hb dX3_enter_36 rfl (lv_at hl 2 rfl) ?_
        refine lv_aload_n hx hb dX3_enter_37 rfl (lv_at hl 0 rfl) ?_
        refine va_get (D := D) (ci := 3) (v := .ref a_this_numbers) (C := RX3) (T := TX3) (N := 3) hx hb hW in_X3 hown hE.1 hP 0 rfl rfl 1 (by decide) (hW _ tw_70) (fun _ h9 => h9) rfl dX3_enter_38 ?_
        refine lv_iconst (v := 0) hx hb dX3_enter_41 (by decide) ?_
        obtain ⟨h13, hf⟩ := gx_ite hf
        refine va_iald hx hb hE.1 hP 1 0 rfl rfl h13 dX3_enter_42 ?_
        refine lv_aload_n hx hb dX3_enter_43 rfl (lv_at hl 0 rfl) ?_
        refine va_get (D := D) (ci := 3) (v := .ref a_this_numbers) (C := RX3) (T := TX3) (N := 3) hx hb hW in_X3 hown hE.1 hP 0 rfl rfl 1 (by decide) (hW _ tw_70) (fun _ h9 => h9) rfl dX3_enter_44 ?_
        refine lv_iconst (v := 1) hx hb dX3_enter_47 (by decide) ?_
        obtain ⟨h14, hf⟩ := gx_ite hf
        refine va_iald hx hb hE.1 hP 1 0 rfl rfl h14 dX3_enter_48 ?_
        obtain ⟨r15, w16, w17, hg, hf⟩ := gx_bs3 hf
        refine gx_V (As := [.int (v_this_numbers (0 : Int32).toNatClampNeg), .int (v_this_numbers (1 : Int32).toNatClampNeg)]) (rest := []) (st1 := [.int r15]) (cells1 := 0) (slots1 := 0) (wc := [(a_p2, .inr (0, [.ref a_p2_traits, .ref a_p2_hated, .int v_p2_mouths, .int v_p2_speaks, .int v_p2_hears]))]) (wr := [(a_this, .inr (3, [.ref a_this_bytes, .ref a_this_numbers, .int v_this_length])), (a_this_numbers, .inl (cI, 5, .inl v_this_numbers)), (a_p2_traits, .inl (cI, 35, .inl v_p2_traits)), (a_p2_hated, .inl (cI, 7, .inl v_p2_hated))]) ⟨hx, hb, hml, hown, hW⟩ (X0_speakAndHear_ok l D cI cJ cB cO tM tS a_p2 a_p2_traits a_p2_hated v_p2_mouths v_p2_speaks v_p2_hears (v_this_numbers (0 : Int32).toNatClampNeg) (v_this_numbers (1 : Int32).toNatClampNeg) r15 w16 w17 hg) yk_X0_speakAndHear tw_288 yv_X0_speakAndHear ⟨rfl, rfl⟩ ⟨Nat.le_of_ble_eq_true rfl, Nat.le_of_ble_eq_true rfl⟩ hE hP hD hS hA [2] [0, 1, 3, 4] rfl rfl (by decide +kernel) (by decide +kernel) rfl (by decide +kernel) (ci := 0) rfl rfl rfl hl.1 (Nat.le_of_ble_eq_true rfl) rfl rfl dX3_enter_49 ⟨Nat.le_of_ble_eq_true rfl, Nat.le_of_ble_eq_true rfl⟩ ⟨rfl, rfl⟩ (fun w1 H locs hB hP hD hS => ?_)
        obtain rfl := hB
        have hP : va_P D gx_cl [(a_this, .inr (3, [.ref a_this_bytes, .ref a_this_numbers, .int v_this_length])), (a_this_numbers, .inl (cI, 5, .inl v_this_numbers)), (a_p2, .inr (0, [.ref a_p2_traits, .ref a_p2_hated, .int v_p2_mouths, .int w16, .int w17])), (a_p2_traits, .inl (cI, 35, .inl v_p2_traits)), (a_p2_hated, .inl (cI, 7, .inl v_p2_hated))] H := hP.sub [0, 1, 4, 2, 3] rfl
        have hD : va_D A [(a_this, .inr (3, [.ref a_this_bytes, .ref a_this_numbers, .int v_this_length])), (a_this_numbers, .inl (cI, 5, .inl v_this_numbers)), (a_p2, .inr (0, [.ref a_p2_traits, .ref a_p2_hated, .int v_p2_mouths, .int w16, .int w17])), (a_p2_traits, .inl (cI, 35, .inl v_p2_traits)), (a_p2_hated, .inl (cI, 7, .inl v_p2_hated))] := hD.sub [0, 1, 4, 2, 3] (by decide +kernel) rfl
        obtain ⟨hz, hf⟩ := gx_ite hf
        cases hf
        exact gx_zret hx hb hr hlocks hz rfl hP hD hS dX3_enter_52
      · have hf := gx_f hf q2
        refine lv_lookup (tgt := 105) (off := 104) hx hb dX3_enter_1 (by decide) (by have z0 := gx_ne (z := 104) q0 (by decide); have z1 := gx_ne (z := 105) q1 (by decide); have z2 := gx_ne (z := 116) q2 (by decide); simp only [Op.lookupswitch.offset]; rw [if_neg (fun h => z0 h.symm)]; rw [if_neg (fun h => z1 h.symm)]; rw [if_neg (fun h => z2 h.symm)]) (by decide) ?_
        refine lv_iconst (v := 0) hx hb dX3_enter_105 (by decide) ?_
        cases hf
        exact gx_zret hx hb hr hlocks (by decide) rfl hP hD hS dX3_enter_106
theorem X3_enter_ok (l : Launch) (D : va_G) (cI cJ cB cO : ClassId) (tM tS : Nat) (a_this a_this_bytes a_this_numbers a_p2 a_p2_traits a_p2_hated : Nat)  (v_this_length : Int32) (v_this_numbers : Nat → Int32) (v_p2_mouths v_p2_speaks v_p2_hears : Int32) (v_p2_traits v_p2_hated : Nat → Int32) (x1 n_r n_p2_mouths n_p2_speaks n_p2_hears : Int32) (n_p2_traits n_p2_hated : Nat → Int32) (hf : X3_enter x1 v_this_numbers v_p2_mouths v_p2_speaks v_p2_hears v_p2_traits v_p2_hated = some (n_r, n_p2_mouths, n_p2_speaks, n_p2_hears, n_p2_traits, n_p2_hated)) : gx_M l yX3_enter cX3_enter 3 (some .boolean) X3_enter_rm D cI cJ cB cO tM tS [.ref a_this, .int x1, .ref a_p2] [(a_this, .inr (3, [.ref a_this_bytes, .ref a_this_numbers, .int v_this_length])), (a_this_numbers, .inl (cI, 5, .inl v_this_numbers)), (a_p2, .inr (0, [.ref a_p2_traits, .ref a_p2_hated, .int v_p2_mouths, .int v_p2_speaks, .int v_p2_hears])), (a_p2_traits, .inl (cI, 35, .inl v_p2_traits)), (a_p2_hated, .inl (cI, 7, .inl v_p2_hated))] (X3_enter_B cI cJ cB cO a_this a_this_bytes a_this_numbers a_p2 a_p2_traits a_p2_hated v_this_length v_this_numbers n_p2_mouths n_p2_speaks n_p2_hears n_p2_traits n_p2_hated) (some (.int n_r)) 0 0 := by
  refine gx_of (by decide) (Nat.le_of_ble_eq_true rfl) ?_
  intro p e s m args below meth c ls A C hP hD hl _
  have hl : lv_has ls 3 [(0, .ref a_this), (1, .int x1), (2, .ref a_p2)] := hl
  exact X3_enter_b0_ok C a_this a_this_bytes a_this_numbers a_p2 a_p2_traits a_p2_hated v_this_length n_r n_p2_mouths n_p2_speaks n_p2_hears n_p2_traits n_p2_hated x1 v_this_numbers v_p2_mouths v_p2_speaks v_p2_hears v_p2_traits v_p2_hated hf s.heap [] ls hP hD va_S.rf hl
def X3_isFigure_B (cI cJ cB cO : ClassId) (a_this a_this_bytes a_this_numbers : Nat) (v_this_length : Int32) (v_this_bytes : Nat → Int32) : va_W → Prop := fun w1 => w1 = [(a_this, .inr (3, [.ref a_this_bytes, .ref a_this_numbers, .int v_this_length])), (a_this_bytes, .inl (cI, 200, .inl v_this_bytes))]
abbrev X3_isFigure_rm : Room := { frames := 1, cells := 0, slots := 0, locals := 21 }
set_option maxHeartbeats 4000000 in
set_option maxRecDepth 100000 in
theorem X3_isFigure_b0_ok {p : Program} {l : Launch} {e : Env} {s : State} {m : MethodId} {args : Array Value} {below : List Frame} {meth : Method} {c : Code} {D : va_G} {cI cJ cB cO : ClassId} {tM tS : Nat} {A : Nat → Prop} (C : gx_X p s m args meth c cX3_isFigure 3 (some .boolean) RX3 D cI cJ cB cO tM tS A) (a_this a_this_bytes a_this_numbers : Nat) (n_r : Int32)  : ∀ (x1 v_this_length : Int32) (v_this_bytes : Nat → Int32) , X3_isFigure x1 v_this_length v_this_bytes = some n_r → gx_Wt p l e X3_isFigure_rm s m args below meth c (MQ below (gx_Q D A (X3_isFigure_B cI cJ cB cO a_this a_this_bytes a_this_numbers v_this_length v_this_bytes) (some (.int n_r))) args s 0 0 A) D A 3 [(a_this, .inr (3, [.ref a_this_bytes, .ref a_this_numbers, .int v_this_length])), (a_this_bytes, .inl (cI, 200, .inl v_this_bytes))] [(0, .ref a_this), (1, .int x1)] 0 [] := by
  intro x1 v_this_length v_this_bytes hf H locs ls hP hD hS hl
  obtain ⟨hx, hb, hr, hml, hown, hW, hlocks, hE, hA⟩ := id C
  unfold X3_isFigure at hf
  refine lv_aload_n hx hb dX3_isFigure_0 rfl (lv_at hl 0 rfl) ?_
  refine lv_iload_n hx hb dX3_isFigure_1 rfl (lv_at hl 1 rfl) ?_
  obtain ⟨r1, hg, hf⟩ := gx_bs hf
  refine gx_V (As := [.int x1]) (rest := []) (st1 := [.int r1]) (cells1 := 0) (slots1 := 0) (wc := [(a_this, .inr (3, [.ref a_this_bytes, .ref a_this_numbers, .int v_this_length])), (a_this_bytes, .inl (cI, 200, .inl v_this_bytes))]) (wr := []) ⟨hx, hb, hml, hown, hW⟩ (X3_byteAt_ok l D cI cJ cB cO tM tS a_this a_this_bytes a_this_numbers v_this_length v_this_bytes x1 r1 hg) yk_X3_byteAt tw_265 yv_X3_byteAt ⟨rfl, rfl⟩ ⟨Nat.le_of_ble_eq_true rfl, Nat.le_of_ble_eq_true rfl⟩ hE hP hD hS hA [0, 1] [] rfl rfl (by decide +kernel) (by decide +kernel) rfl (by decide +kernel) (ci := 3) rfl rfl rfl hl.1 (Nat.le_of_ble_eq_true rfl) rfl rfl dX3_isFigure_2 ⟨Nat.le_of_ble_eq_true rfl, Nat.le_of_ble_eq_true rfl⟩ ⟨rfl, rfl⟩ (fun w1 H locs hB hP hD hS => ?_)
  obtain rfl := hB
  have hP : va_P D gx_cl [(a_this, .inr (3, [.ref a_this_bytes, .ref a_this_numbers, .int v_this_length])), (a_this_bytes, .inl (cI, 200, .inl v_this_bytes))] H := hP
  have hD : va_D A [(a_this, .inr (3, [.ref a_this_bytes, .ref a_this_numbers, .int v_this_length])), (a_this_bytes, .inl (cI, 200, .inl v_this_bytes))] := hD
  refine lv_istore_n (lv' := [(2, .int r1), (0, .ref a_this), (1, .int x1)]) hx hb dX3_isFigure_5 rfl hl (by decide) rfl (fun ls hl => ?_)
  refine lv_iload_n hx hb dX3_isFigure_6 rfl (lv_at hl 0 rfl) ?_
  refine lv_bipush (v := 48) hx hb dX3_isFigure_7 (by decide) ?_
  refine lv_icmp_lt (tgt := 22) hx hb dX3_isFigure_9 (by decide) (fun hc => ?_) (fun hc => ?_)
  · have hf := gx_t hf hc
    refine lv_iconst (v := 0) hx hb dX3_isFigure_22 (by decide) ?_
    cases hf
    exact gx_zret hx hb hr hlocks (by decide) rfl hP hD hS dX3_isFigure_23
  · have hf := gx_f hf hc
    refine lv_iload_n hx hb dX3_isFigure_12 rfl (lv_at hl 0 rfl) ?_
    refine lv_bipush (v := 57) hx hb dX3_isFigure_13 (by decide) ?_
    refine lv_icmp_gt (tgt := 22) hx hb dX3_isFigure_15 (by decide) (fun hc => ?_) (fun hc => ?_)
    · have hf := gx_t hf hc
      refine lv_iconst (v := 0) hx hb dX3_isFigure_22 (by decide) ?_
      cases hf
      exact gx_zret hx hb hr hlocks (by decide) rfl hP hD hS dX3_isFigure_23
    · have hf := gx_f hf hc
      refine lv_iconst (v := 1) hx hb dX3_isFigure_18 (by decide) ?_
      refine lv_goto (tgt := 23) hx hb dX3_isFigure_19 (by decide) ?_
      cases hf
      exact gx_zret hx hb hr hlocks (by decide) rfl hP hD hS dX3_isFigure_23
theorem X3_isFigure_ok (l : Launch) (D : va_G) (cI cJ cB cO : ClassId) (tM tS : Nat) (a_this a_this_bytes a_this_numbers : Nat)  (v_this_length : Int32) (v_this_bytes : Nat → Int32) (x1 n_r : Int32) (hf : X3_isFigure x1 v_this_length v_this_bytes = some n_r) : gx_M l yX3_isFigure cX3_isFigure 3 (some .boolean) X3_isFigure_rm D cI cJ cB cO tM tS [.ref a_this, .int x1] [(a_this, .inr (3, [.ref a_this_bytes, .ref a_this_numbers, .int v_this_length])), (a_this_bytes, .inl (cI, 200, .inl v_this_bytes))] (X3_isFigure_B cI cJ cB cO a_this a_this_bytes a_this_numbers v_this_length v_this_bytes) (some (.int n_r)) 0 0 := by
  refine gx_of (by decide) (Nat.le_of_ble_eq_true rfl) ?_
  intro p e s m args below meth c ls A C hP hD hl _
  have hl : lv_has ls 3 [(0, .ref a_this), (1, .int x1)] := hl
  exact X3_isFigure_b0_ok C a_this a_this_bytes a_this_numbers n_r x1 v_this_length v_this_bytes hf s.heap [] ls hP hD va_S.rf hl
def X3_figuresAt_B (cI cJ cB cO : ClassId) (a_this a_this_bytes a_this_numbers : Nat) (v_this_length : Int32) (v_this_bytes : Nat → Int32) : va_W → Prop := fun w1 => w1 = [(a_this, .inr (3, [.ref a_this_bytes, .ref a_this_numbers, .int v_this_length])), (a_this_bytes, .inl (cI, 200, .inl v_this_bytes))]
abbrev X3_figuresAt_rm : Room := { frames := 2, cells := 0, slots := 0, locals := 43 }
set_option maxHeartbeats 4000000 in
set_option maxRecDepth 100000 in
theorem X3_figuresAt_b0_ok {p : Program} {l : Launch} {e : Env} {s : State} {m : MethodId} {args : Array Value} {below : List Frame} {meth : Method} {c : Code} {D : va_G} {cI cJ cB cO : ClassId} {tM tS : Nat} {A : Nat → Prop} (C : gx_X p s m args meth c cX3_figuresAt 2 (some .int) RX3 D cI cJ cB cO tM tS A) (a_this a_this_bytes a_this_numbers : Nat) (n_r : Int32)  : ∀ (x1 v_this_length : Int32) (v_this_bytes : Nat → Int32) , X3_figuresAt x1 v_this_length v_this_bytes = some n_r → gx_Wt p l e X3_figuresAt_rm s m args below meth c (MQ below (gx_Q D A (X3_figuresAt_B cI cJ cB cO a_this a_this_bytes a_this_numbers v_this_length v_this_bytes) (some (.int n_r))) args s 0 0 A) D A 2 [(a_this, .inr (3, [.ref a_this_bytes, .ref a_this_numbers, .int v_this_length])), (a_this_bytes, .inl (cI, 200, .inl v_this_bytes))] [(0, .ref a_this), (1, .int x1)] 0 [] := by
  intro x1 v_this_length v_this_bytes hf H locs ls hP hD hS hl
  obtain ⟨hx, hb, hr, hml, hown, hW, hlocks, hE, hA⟩ := id C
  unfold X3_figuresAt at hf
  refine lv_aload_n hx hb dX3_figuresAt_0 rfl (lv_at hl 0 rfl) ?_
  refine lv_iload_n hx hb dX3_figuresAt_1 rfl (lv_at hl 1 rfl) ?_
  obtain ⟨r1, hg, hf⟩ := gx_bs hf
  refine gx_V (As := [.int x1]) (rest := []) (st1 := [.int r1]) (cells1 := 0) (slots1 := 0) (wc := [(a_this, .inr (3, [.ref a_this_bytes, .ref a_this_numbers, .int v_this_length])), (a_this_bytes, .inl (cI, 200, .inl v_this_bytes))]) (wr := []) ⟨hx, hb, hml, hown, hW⟩ (X3_isFigure_ok l D cI cJ cB cO tM tS a_this a_this_bytes a_this_numbers v_this_length v_this_bytes x1 r1 hg) yk_X3_isFigure tw_276 yv_X3_isFigure ⟨rfl, rfl⟩ ⟨Nat.le_of_ble_eq_true rfl, Nat.le_of_ble_eq_true rfl⟩ hE hP hD hS hA [0, 1] [] rfl rfl (by decide +kernel) (by decide +kernel) rfl (by decide +kernel) (ci := 3) rfl rfl rfl hl.1 (Nat.le_of_ble_eq_true rfl) rfl rfl dX3_figuresAt_2 ⟨Nat.le_of_ble_eq_true rfl, Nat.le_of_ble_eq_true rfl⟩ ⟨rfl, rfl⟩ (fun w1 H locs hB hP hD hS => ?_)
  obtain rfl := hB
  have hP : va_P D gx_cl [(a_this, .inr (3, [.ref a_this_bytes, .ref a_this_numbers, .int v_this_length])), (a_this_bytes, .inl (cI, 200, .inl v_this_bytes))] H := hP
  have hD : va_D A [(a_this, .inr (3, [.ref a_this_bytes, .ref a_this_numbers, .int v_this_length])), (a_this_bytes, .inl (cI, 200, .inl v_this_bytes))] := hD
  refine lv_if_ne (tgt := 10) hx hb dX3_figuresAt_5 (by decide) (fun hc => ?_) (fun hc => ?_)
  · have hf := gx_f hf hc
    refine lv_aload_n hx hb dX3_figuresAt_10 rfl (lv_at hl 0 rfl) ?_
    refine lv_iload_n hx hb dX3_figuresAt_11 rfl (lv_at hl 1 rfl) ?_
    refine lv_iconst (v := 1) hx hb dX3_figuresAt_12 (by decide) ?_
    refine lv_iadd hx hb dX3_figuresAt_13 ?_
    obtain ⟨r2, hg, hf⟩ := gx_bs hf
    refine gx_V (As := [.int (x1 + (1 : Int32))]) (rest := []) (st1 := [.int r2]) (cells1 := 0) (slots1 := 0) (wc := [(a_this, .inr (3, [.ref a_this_bytes, .ref a_this_numbers, .int v_this_length])), (a_this_bytes, .inl (cI, 200, .inl v_this_bytes))]) (wr := []) ⟨hx, hb, hml, hown, hW⟩ (X3_isFigure_ok l D cI cJ cB cO tM tS a_this a_this_bytes a_this_numbers v_this_length v_this_bytes (x1 + (1 : Int32)) r2 hg) yk_X3_isFigure tw_276 yv_X3_isFigure ⟨rfl, rfl⟩ ⟨Nat.le_of_ble_eq_true rfl, Nat.le_of_ble_eq_true rfl⟩ hE hP hD hS hA [0, 1] [] rfl rfl (by decide +kernel) (by decide +kernel) rfl (by decide +kernel) (ci := 3) rfl rfl rfl hl.1 (Nat.le_of_ble_eq_true rfl) rfl rfl dX3_figuresAt_14 ⟨Nat.le_of_ble_eq_true rfl, Nat.le_of_ble_eq_true rfl⟩ ⟨rfl, rfl⟩ (fun w1 H locs hB hP hD hS => ?_)
    obtain rfl := hB
    have hP : va_P D gx_cl [(a_this, .inr (3, [.ref a_this_bytes, .ref a_this_numbers, .int v_this_length])), (a_this_bytes, .inl (cI, 200, .inl v_this_bytes))] H := hP
    have hD : va_D A [(a_this, .inr (3, [.ref a_this_bytes, .ref a_this_numbers, .int v_this_length])), (a_this_bytes, .inl (cI, 200, .inl v_this_bytes))] := hD
    refine lv_if_eq (tgt := 24) hx hb dX3_figuresAt_17 (by decide) (fun hc => ?_) (fun hc => ?_)
    · have hf := gx_t hf hc
      refine lv_iconst (v := 1) hx hb dX3_figuresAt_24 (by decide) ?_
      cases hf
      exact gx_iret hx hb hr hlocks rfl hP hD hS dX3_figuresAt_25
    · have hf := gx_f hf hc
      refine lv_iconst (v := 2) hx hb dX3_figuresAt_20 (by decide) ?_
      refine lv_goto (tgt := 25) hx hb dX3_figuresAt_21 (by decide) ?_
      cases hf
      exact gx_iret hx hb hr hlocks rfl hP hD hS dX3_figuresAt_25
  · have hf := gx_t hf hc
    refine lv_iconst (v := 0) hx hb dX3_figuresAt_8 (by decide) ?_
    cases hf
    exact gx_iret hx hb hr hlocks rfl hP hD hS dX3_figuresAt_9
theorem X3_figuresAt_ok (l : Launch) (D : va_G) (cI cJ cB cO : ClassId) (tM tS : Nat) (a_this a_this_bytes a_this_numbers : Nat)  (v_this_length : Int32) (v_this_bytes : Nat → Int32) (x1 n_r : Int32) (hf : X3_figuresAt x1 v_this_length v_this_bytes = some n_r) : gx_M l yX3_figuresAt cX3_figuresAt 2 (some .int) X3_figuresAt_rm D cI cJ cB cO tM tS [.ref a_this, .int x1] [(a_this, .inr (3, [.ref a_this_bytes, .ref a_this_numbers, .int v_this_length])), (a_this_bytes, .inl (cI, 200, .inl v_this_bytes))] (X3_figuresAt_B cI cJ cB cO a_this a_this_bytes a_this_numbers v_this_length v_this_bytes) (some (.int n_r)) 0 0 := by
  refine gx_of (by decide) (Nat.le_of_ble_eq_true rfl) ?_
  intro p e s m args below meth c ls A C hP hD hl _
  have hl : lv_has ls 2 [(0, .ref a_this), (1, .int x1)] := hl
  exact X3_figuresAt_b0_ok C a_this a_this_bytes a_this_numbers n_r x1 v_this_length v_this_bytes hf s.heap [] ls hP hD va_S.rf hl
def X3_length_B (cI cJ cB cO : ClassId) (a_this a_this_bytes a_this_numbers : Nat) (v_this_length : Int32) : va_W → Prop := fun w1 => w1 = [(a_this, .inr (3, [.ref a_this_bytes, .ref a_this_numbers, .int v_this_length]))]
abbrev X3_length_rm : Room := { frames := 0, cells := 0, slots := 0, locals := 0 }
set_option maxHeartbeats 4000000 in
set_option maxRecDepth 100000 in
theorem X3_length_b0_ok {p : Program} {l : Launch} {e : Env} {s : State} {m : MethodId} {args : Array Value} {below : List Frame} {meth : Method} {c : Code} {D : va_G} {cI cJ cB cO : ClassId} {tM tS : Nat} {A : Nat → Prop} (C : gx_X p s m args meth c cX3_length 1 (some .int) RX3 D cI cJ cB cO tM tS A) (a_this a_this_bytes a_this_numbers : Nat) (n_r : Int32)  : ∀ (v_this_length : Int32) , X3_length v_this_length = some n_r → gx_Wt p l e X3_length_rm s m args below meth c (MQ below (gx_Q D A (X3_length_B cI cJ cB cO a_this a_this_bytes a_this_numbers v_this_length) (some (.int n_r))) args s 0 0 A) D A 1 [(a_this, .inr (3, [.ref a_this_bytes, .ref a_this_numbers, .int v_this_length]))] [(0, .ref a_this)] 0 [] := by
  intro v_this_length hf H locs ls hP hD hS hl
  obtain ⟨hx, hb, hr, hml, hown, hW, hlocks, hE, hA⟩ := id C
  unfold X3_length at hf
  refine lv_aload_n hx hb dX3_length_0 rfl (lv_at hl 0 rfl) ?_
  refine va_get (D := D) (ci := 3) (v := .int v_this_length) (C := RX3) (T := TX3) (N := 3) hx hb hW in_X3 hown hE.1 hP 0 rfl rfl 2 (by decide) (hW _ tw_71) (fun _ h9 => h9) rfl dX3_length_1 ?_
  cases hf
  exact gx_iret hx hb hr hlocks rfl hP hD hS dX3_length_4
theorem X3_length_ok (l : Launch) (D : va_G) (cI cJ cB cO : ClassId) (tM tS : Nat) (a_this a_this_bytes a_this_numbers : Nat)  (v_this_length n_r : Int32) (hf : X3_length v_this_length = some n_r) : gx_M l yX3_length cX3_length 1 (some .int) X3_length_rm D cI cJ cB cO tM tS [.ref a_this] [(a_this, .inr (3, [.ref a_this_bytes, .ref a_this_numbers, .int v_this_length]))] (X3_length_B cI cJ cB cO a_this a_this_bytes a_this_numbers v_this_length) (some (.int n_r)) 0 0 := by
  refine gx_of (by decide) (Nat.le_of_ble_eq_true rfl) ?_
  intro p e s m args below meth c ls A C hP hD hl _
  have hl : lv_has ls 1 [(0, .ref a_this)] := hl
  exact X3_length_b0_ok C a_this a_this_bytes a_this_numbers n_r v_this_length hf s.heap [] ls hP hD va_S.rf hl
def X3_numberOf_B (cI cJ cB cO : ClassId) (a_this a_this_bytes a_this_numbers : Nat) (v_this_length : Int32) (v_this_bytes : Nat → Int32) : va_W → Prop := fun w1 => w1 = [(a_this, .inr (3, [.ref a_this_bytes, .ref a_this_numbers, .int v_this_length])), (a_this_bytes, .inl (cI, 200, .inl v_this_bytes))]
abbrev X3_numberOf_rm : Room := { frames := 1, cells := 0, slots := 0, locals := 21 }
set_option maxHeartbeats 4000000 in
set_option maxRecDepth 100000 in
theorem X3_numberOf_b5_ok {p : Program} {l : Launch} {e : Env} {s : State} {m : MethodId} {args : Array Value} {below : List Frame} {meth : Method} {c : Code} {D : va_G} {cI cJ cB cO : ClassId} {tM tS : Nat} {A : Nat → Prop} (C : gx_X p s m args meth c cX3_numberOf 5 (some .int) RX3 D cI cJ cB cO tM tS A) (a_this a_this_bytes a_this_numbers : Nat) (n_r : Int32) (k5 : Int32 → Int32 → Int32 → Int32 → Int32 → (Nat → Int32) → Option (Int32)) (K5 : ∀ (x1 x2 x3 x4 v_this_length : Int32) (v_this_bytes : Nat → Int32) , k5 x1 x2 x3 x4 v_this_length v_this_bytes = some n_r → gx_Wt p l e X3_numberOf_rm s m args below meth c (MQ below (gx_Q D A (X3_numberOf_B cI cJ cB cO a_this a_this_bytes a_this_numbers v_this_length v_this_bytes) (some (.int n_r))) args s 0 0 A) D A 5 [(a_this, .inr (3, [.ref a_this_bytes, .ref a_this_numbers, .int v_this_length])), (a_this_bytes, .inl (cI, 200, .inl v_this_bytes))] [(0, .ref a_this), (1, .int x1), (2, .int x2), (3, .int x3), (4, .int x4)] 5 []) : ∀ (x1 x2 x3 x4 v_this_length : Int32) (v_this_bytes : Nat → Int32) , X3_numberOf_b5 k5 x1 x2 x3 x4 v_this_length v_this_bytes = some n_r → gx_Wt p l e X3_numberOf_rm s m args below meth c (MQ below (gx_Q D A (X3_numberOf_B cI cJ cB cO a_this a_this_bytes a_this_numbers v_this_length v_this_bytes) (some (.int n_r))) args s 0 0 A) D A 5 [(a_this, .inr (3, [.ref a_this_bytes, .ref a_this_numbers, .int v_this_length])), (a_this_bytes, .inl (cI, 200, .inl v_this_bytes))] [(0, .ref a_this), (1, .int x1), (2, .int x2), (3, .int x3), (4, .int x4)] 5 [] := by
  intro x1 x2 x3 x4 v_this_length v_this_bytes hf H locs ls hP hD hS hl
  obtain ⟨hx, hb, hr, hml, hown, hW, hlocks, hE, hA⟩ := id C
  unfold X3_numberOf_b5 at hf
  refine lv_iload hx hb dX3_numberOf_5 (lv_at hl 4 rfl) ?_
  refine lv_iload_n hx hb dX3_numberOf_7 rfl (lv_at hl 2 rfl) ?_
  refine lv_icmp_ge (tgt := 34) hx hb dX3_numberOf_8 (by decide) (fun hc => ?_) (fun hc => ?_)
  · have hf := gx_t hf hc
    refine lv_iload_n hx hb dX3_numberOf_34 rfl (lv_at hl 3 rfl) ?_
    cases hf
    exact gx_iret hx hb hr hlocks rfl hP hD hS dX3_numberOf_35
  · have hf := gx_f hf hc
    refine lv_iload_n hx hb dX3_numberOf_11 rfl (lv_at hl 3 rfl) ?_
    refine lv_bipush (v := 10) hx hb dX3_numberOf_12 (by decide) ?_
    refine lv_imul hx hb dX3_numberOf_14 ?_
    refine lv_aload_n hx hb dX3_numberOf_15 rfl (lv_at hl 0 rfl) ?_
    refine lv_iload_n hx hb dX3_numberOf_16 rfl (lv_at hl 1 rfl) ?_
    refine lv_iload hx hb dX3_numberOf_17 (lv_at hl 4 rfl) ?_
    refine lv_iadd hx hb dX3_numberOf_19 ?_
    obtain ⟨r1, hg, hf⟩ := gx_bs hf
    refine gx_V (As := [.int (x1 + x4)]) (rest := [.int (x3 * (10 : Int32))]) (st1 := [.int r1, .int (x3 * (10 : Int32))]) (cells1 := 0) (slots1 := 0) (wc := [(a_this, .inr (3, [.ref a_this_bytes, .ref a_this_numbers, .int v_this_length])), (a_this_bytes, .inl (cI, 200, .inl v_this_bytes))]) (wr := []) ⟨hx, hb, hml, hown, hW⟩ (X3_byteAt_ok l D cI cJ cB cO tM tS a_this a_this_bytes a_this_numbers v_this_length v_this_bytes (x1 + x4) r1 hg) yk_X3_byteAt tw_265 yv_X3_byteAt ⟨rfl, rfl⟩ ⟨Nat.le_of_ble_eq_true rfl, Nat.le_of_ble_eq_true rfl⟩ hE hP hD hS hA [0, 1] [] rfl rfl (by decide +kernel) (by decide +kernel) rfl (by decide +kernel) (ci := 3) rfl rfl rfl hl.1 (Nat.le_of_ble_eq_true rfl) rfl rfl dX3_numberOf_20 ⟨Nat.le_of_ble_eq_true rfl, Nat.le_of_ble_eq_true rfl⟩ ⟨rfl, rfl⟩ (fun w1 H locs hB hP hD hS => ?_)
    obtain rfl := hB
    have hP : va_P D gx_cl [(a_this, .inr (3, [.ref a_this_bytes, .ref a_this_numbers, .int v_this_length])), (a_this_bytes, .inl (cI, 200, .inl v_this_bytes))] H := hP
    have hD : va_D A [(a_this, .inr (3, [.ref a_this_bytes, .ref a_this_numbers, .int v_this_length])), (a_this_bytes, .inl (cI, 200, .inl v_this_bytes))] := hD
    refine lv_iadd hx hb dX3_numberOf_23 ?_
    refine lv_bipush (v := 48) hx hb dX3_numberOf_24 (by decide) ?_
    refine lv_isub hx hb dX3_numberOf_26 ?_
    refine lv_topi (fun y2 ey2 => ?_)
    have hf := gx_lv hf ey2
    clear ey2
    refine lv_istore_n (lv' := [(3, .int y2), (0, .ref a_this), (1, .int x1), (2, .int x2), (4, .int x4)]) hx hb dX3_numberOf_27 rfl hl (by decide) rfl (fun ls hl => ?_)
    refine lv_iinc (v := x4 + 1) (lv' := [(4, .int (x4 + 1)), (3, .int y2), (0, .ref a_this), (1, .int x1), (2, .int x2)]) hx hb dX3_numberOf_28 hl (k := 4) rfl rfl (by decide) rfl (fun ls hl => ?_)
    refine lv_goto (tgt := 5) hx hb dX3_numberOf_31 (by decide) ?_
    exact K5 x1 x2 y2 (x4 + 1) v_this_length v_this_bytes hf H locs ls hP hD hS (lv_sub hl [2, 3, 4, 1, 0] rfl)
theorem X3_numberOf_l5_ok {p : Program} {l : Launch} {e : Env} {s : State} {m : MethodId} {args : Array Value} {below : List Frame} {meth : Method} {c : Code} {D : va_G} {cI cJ cB cO : ClassId} {tM tS : Nat} {A : Nat → Prop} (C : gx_X p s m args meth c cX3_numberOf 5 (some .int) RX3 D cI cJ cB cO tM tS A) (a_this a_this_bytes a_this_numbers : Nat) (n_r : Int32)  : ∀ (n : Nat) (x1 x2 x3 x4 v_this_length : Int32) (v_this_bytes : Nat → Int32) , X3_numberOf_l5 n x1 x2 x3 x4 v_this_length v_this_bytes = some n_r → gx_Wt p l e X3_numberOf_rm s m args below meth c (MQ below (gx_Q D A (X3_numberOf_B cI cJ cB cO a_this a_this_bytes a_this_numbers v_this_length v_this_bytes) (some (.int n_r))) args s 0 0 A) D A 5 [(a_this, .inr (3, [.ref a_this_bytes, .ref a_this_numbers, .int v_this_length])), (a_this_bytes, .inl (cI, 200, .inl v_this_bytes))] [(0, .ref a_this), (1, .int x1), (2, .int x2), (3, .int x3), (4, .int x4)] 5 [] := by
  intro n
  induction n with
  | zero =>
    intro _ _ _ _ _ _ hf
    cases hf
  | succ n ih => exact fun x1 x2 x3 x4 v_this_length v_this_bytes hf => X3_numberOf_b5_ok C a_this a_this_bytes a_this_numbers n_r (X3_numberOf_l5 n) ih x1 x2 x3 x4 v_this_length v_this_bytes hf
set_option maxHeartbeats 4000000 in
set_option maxRecDepth 100000 in
theorem X3_numberOf_b0_ok {p : Program} {l : Launch} {e : Env} {s : State} {m : MethodId} {args : Array Value} {below : List Frame} {meth : Method} {c : Code} {D : va_G} {cI cJ cB cO : ClassId} {tM tS : Nat} {A : Nat → Prop} (C : gx_X p s m args meth c cX3_numberOf 5 (some .int) RX3 D cI cJ cB cO tM tS A) (a_this a_this_bytes a_this_numbers : Nat) (n_r : Int32)  : ∀ (x1 x2 v_this_length : Int32) (v_this_bytes : Nat → Int32) , X3_numberOf x1 x2 v_this_length v_this_bytes = some n_r → gx_Wt p l e X3_numberOf_rm s m args below meth c (MQ below (gx_Q D A (X3_numberOf_B cI cJ cB cO a_this a_this_bytes a_this_numbers v_this_length v_this_bytes) (some (.int n_r))) args s 0 0 A) D A 5 [(a_this, .inr (3, [.ref a_this_bytes, .ref a_this_numbers, .int v_this_length])), (a_this_bytes, .inl (cI, 200, .inl v_this_bytes))] [(0, .ref a_this), (1, .int x1), (2, .int x2)] 0 [] := by
  intro x1 x2 v_this_length v_this_bytes hf H locs ls hP hD hS hl
  obtain ⟨hx, hb, hr, hml, hown, hW, hlocks, hE, hA⟩ := id C
  unfold X3_numberOf at hf
  refine lv_iconst (v := 0) hx hb dX3_numberOf_0 (by decide) ?_
  refine lv_istore_n (lv' := [(3, .int (0 : Int32)), (0, .ref a_this), (1, .int x1), (2, .int x2)]) hx hb dX3_numberOf_1 rfl hl (by decide) rfl (fun ls hl => ?_)
  refine lv_iconst (v := 0) hx hb dX3_numberOf_2 (by decide) ?_
  refine lv_istore (lv' := [(4, .int (0 : Int32)), (3, .int (0 : Int32)), (0, .ref a_this), (1, .int x1), (2, .int x2)]) hx hb dX3_numberOf_3 hl (by decide) rfl (fun ls hl => ?_)
  exact X3_numberOf_l5_ok C a_this a_this_bytes a_this_numbers n_r gx_F x1 x2 (0 : Int32) (0 : Int32) v_this_length v_this_bytes hf H locs ls hP hD hS (lv_sub hl [2, 3, 4, 1, 0] rfl)
theorem X3_numberOf_ok (l : Launch) (D : va_G) (cI cJ cB cO : ClassId) (tM tS : Nat) (a_this a_this_bytes a_this_numbers : Nat)  (v_this_length : Int32) (v_this_bytes : Nat → Int32) (x1 x2 n_r : Int32) (hf : X3_numberOf x1 x2 v_this_length v_this_bytes = some n_r) : gx_M l yX3_numberOf cX3_numberOf 5 (some .int) X3_numberOf_rm D cI cJ cB cO tM tS [.ref a_this, .int x1, .int x2] [(a_this, .inr (3, [.ref a_this_bytes, .ref a_this_numbers, .int v_this_length])), (a_this_bytes, .inl (cI, 200, .inl v_this_bytes))] (X3_numberOf_B cI cJ cB cO a_this a_this_bytes a_this_numbers v_this_length v_this_bytes) (some (.int n_r)) 0 0 := by
  refine gx_of (by decide) (Nat.le_of_ble_eq_true rfl) ?_
  intro p e s m args below meth c ls A C hP hD hl _
  have hl : lv_has ls 5 [(0, .ref a_this), (1, .int x1), (2, .int x2)] := hl
  exact X3_numberOf_b0_ok C a_this a_this_bytes a_this_numbers n_r x1 x2 v_this_length v_this_bytes hf s.heap [] ls hP hD va_S.rf hl
def X3_numbersOf_B (cI cJ cB cO : ClassId)  : va_W → Prop := fun w1 => w1 = []
abbrev X3_numbersOf_rm : Room := { frames := 0, cells := 0, slots := 0, locals := 0 }
set_option maxHeartbeats 4000000 in
set_option maxRecDepth 100000 in
theorem X3_numbersOf_b0_ok {p : Program} {l : Launch} {e : Env} {s : State} {m : MethodId} {args : Array Value} {below : List Frame} {meth : Method} {c : Code} {D : va_G} {cI cJ cB cO : ClassId} {tM tS : Nat} {A : Nat → Prop} (C : gx_X p s m args meth c cX3_numbersOf 1 (some .int) RX3 D cI cJ cB cO tM tS A) (n_r : Int32)  : ∀ (x0 : Int32) , X3_numbersOf x0 = some n_r → gx_Wt p l e X3_numbersOf_rm s m args below meth c (MQ below (gx_Q D A (X3_numbersOf_B cI cJ cB cO) (some (.int n_r))) args s 0 0 A) D A 1 [] [(0, .int x0)] 0 [] := by
  intro x0 hf H locs ls hP hD hS hl
  obtain ⟨hx, hb, hr, hml, hown, hW, hlocks, hE, hA⟩ := id C
  unfold X3_numbersOf at hf
  refine lv_iload_n hx hb dX3_numbersOf_0 rfl (lv_at hl 0 rfl) ?_
  by_cases q0 : x0 = (104 : Int32)
  · have hq := gx_t hf q0
    subst q0
    have hf := hq
    refine lv_lookup (tgt := 40) (off := 39) hx hb dX3_numbersOf_1 (by decide) (by decide) (by decide) ?_
    refine lv_iconst (v := 2) hx hb dX3_numbersOf_40 (by decide) ?_
    cases hf
    exact gx_iret hx hb hr hlocks rfl hP hD hS dX3_numbersOf_41
  · have hf := gx_f hf q0
    by_cases q1 : x0 = (105 : Int32)
    · have hq := gx_t hf q1
      subst q1
      have hf := hq
      refine lv_lookup (tgt := 38) (off := 37) hx hb dX3_numbersOf_1 (by decide) (by decide) (by decide) ?_
      refine lv_iconst (v := 5) hx hb dX3_numbersOf_38 (by decide) ?_
      cases hf
      exact gx_iret hx hb hr hlocks rfl hP hD hS dX3_numbersOf_39
    · have hf := gx_f hf q1
      by_cases q2 : x0 = (116 : Int32)
      · have hq := gx_t hf q2
        subst q2
        have hf := hq
        refine lv_lookup (tgt := 36) (off := 35) hx hb dX3_numbersOf_1 (by decide) (by decide) (by decide) ?_
        refine lv_iconst (v := 2) hx hb dX3_numbersOf_36 (by decide) ?_
        cases hf
        exact gx_iret hx hb hr hlocks rfl hP hD hS dX3_numbersOf_37
      · have hf := gx_f hf q2
        refine lv_lookup (tgt := 42) (off := 41) hx hb dX3_numbersOf_1 (by decide) (by have z0 := gx_ne (z := 104) q0 (by decide); have z1 := gx_ne (z := 105) q1 (by decide); have z2 := gx_ne (z := 116) q2 (by decide); simp only [Op.lookupswitch.offset]; rw [if_neg (fun h => z0 h.symm)]; rw [if_neg (fun h => z1 h.symm)]; rw [if_neg (fun h => z2 h.symm)]) (by decide) ?_
        refine lv_iconst (v := 0) hx hb dX3_numbersOf_42 (by decide) ?_
        cases hf
        exact gx_iret hx hb hr hlocks rfl hP hD hS dX3_numbersOf_43
theorem X3_numbersOf_ok (l : Launch) (D : va_G) (cI cJ cB cO : ClassId) (tM tS : Nat)  (x0 n_r : Int32) (hf : X3_numbersOf x0 = some n_r) : gx_M l yX3_numbersOf cX3_numbersOf 1 (some .int) X3_numbersOf_rm D cI cJ cB cO tM tS [.int x0] [] (X3_numbersOf_B cI cJ cB cO) (some (.int n_r)) 0 0 := by
  refine gx_of (by decide) (Nat.le_of_ble_eq_true rfl) ?_
  intro p e s m args below meth c ls A C hP hD hl _
  have hl : lv_has ls 1 [(0, .int x0)] := hl
  exact X3_numbersOf_b0_ok C n_r x0 hf s.heap [] ls hP hD va_S.rf hl
def X3_readItem_B (cI cJ cB cO : ClassId) (a_this a_this_bytes a_this_numbers a_p2 a_p2_traits a_p2_hated : Nat) (v_this_length : Int32) (v_this_bytes n_this_numbers : Nat → Int32) (n_p2_mouths n_p2_speaks n_p2_hears : Int32) (n_p2_traits n_p2_hated : Nat → Int32) : va_W → Prop := fun w1 => w1 = [(a_this, .inr (3, [.ref a_this_bytes, .ref a_this_numbers, .int v_this_length])), (a_this_bytes, .inl (cI, 200, .inl v_this_bytes)), (a_this_numbers, .inl (cI, 5, .inl n_this_numbers)), (a_p2, .inr (0, [.ref a_p2_traits, .ref a_p2_hated, .int n_p2_mouths, .int n_p2_speaks, .int n_p2_hears])), (a_p2_traits, .inl (cI, 35, .inl n_p2_traits)), (a_p2_hated, .inl (cI, 7, .inl n_p2_hated))]
abbrev X3_readItem_rm : Room := { frames := 3, cells := 0, slots := 0, locals := 68 }
set_option maxHeartbeats 4000000 in
set_option maxRecDepth 100000 in
theorem X3_readItem_b113_ok {p : Program} {l : Launch} {e : Env} {s : State} {m : MethodId} {args : Array Value} {below : List Frame} {meth : Method} {c : Code} {D : va_G} {cI cJ cB cO : ClassId} {tM tS : Nat} {A : Nat → Prop} (C : gx_X p s m args meth c cX3_readItem 8 (some .int) RX3 D cI cJ cB cO tM tS A) (a_this a_this_bytes a_this_numbers a_p2 a_p2_traits a_p2_hated : Nat) (n_r : Int32) (n_this_numbers : Nat → Int32) (n_p2_mouths n_p2_speaks n_p2_hears : Int32) (n_p2_traits n_p2_hated : Nat → Int32)  : ∀ (x3 x5 v_this_length : Int32) (v_this_bytes v_this_numbers : Nat → Int32) (v_p2_mouths v_p2_speaks v_p2_hears : Int32) (v_p2_traits v_p2_hated : Nat → Int32) , X3_readItem_b113 x3 x5 v_this_length v_this_bytes v_this_numbers v_p2_mouths v_p2_speaks v_p2_hears v_p2_traits v_p2_hated = some (n_r, n_this_numbers, n_p2_mouths, n_p2_speaks, n_p2_hears, n_p2_traits, n_p2_hated) → gx_Wt p l e X3_readItem_rm s m args below meth c (MQ below (gx_Q D A (X3_readItem_B cI cJ cB cO a_this a_this_bytes a_this_numbers a_p2 a_p2_traits a_p2_hated v_this_length v_this_bytes n_this_numbers n_p2_mouths n_p2_speaks n_p2_hears n_p2_traits n_p2_hated) (some (.int n_r))) args s 0 0 A) D A 8 [(a_this, .inr (3, [.ref a_this_bytes, .ref a_this_numbers, .int v_this_length])), (a_this_bytes, .inl (cI, 200, .inl v_this_bytes)), (a_this_numbers, .inl (cI, 5, .inl v_this_numbers)), (a_p2, .inr (0, [.ref a_p2_traits, .ref a_p2_hated, .int v_p2_mouths, .int v_p2_speaks, .int v_p2_hears])), (a_p2_traits, .inl (cI, 35, .inl v_p2_traits)), (a_p2_hated, .inl (cI, 7, .inl v_p2_hated))] [(0, .ref a_this), (2, .ref a_p2), (3, .int x3), (5, .int x5)] 113 [] := by
  intro x3 x5 v_this_length v_this_bytes v_this_numbers v_p2_mouths v_p2_speaks v_p2_hears v_p2_traits v_p2_hated hf H locs ls hP hD hS hl
  obtain ⟨hx, hb, hr, hml, hown, hW, hlocks, hE, hA⟩ := id C
  unfold X3_readItem_b113 at hf
  refine lv_aload_n hx hb dX3_readItem_113 rfl (lv_at hl 0 rfl) ?_
  refine lv_iload_n hx hb dX3_readItem_114 rfl (lv_at hl 2 rfl) ?_
  refine lv_aload_n hx hb dX3_readItem_115 rfl (lv_at hl 1 rfl) ?_
  obtain ⟨r1, w2, w3, w4, w5, w6, hg, hf⟩ := gx_bs6 hf
  refine gx_V (As := [.int x3, .ref a_p2]) (rest := []) (st1 := [.int r1]) (cells1 := 0) (slots1 := 0) (wc := [(a_this, .inr (3, [.ref a_this_bytes, .ref a_this_numbers, .int v_this_length])), (a_this_numbers, .inl (cI, 5, .inl v_this_numbers)), (a_p2, .inr (0, [.ref a_p2_traits, .ref a_p2_hated, .int v_p2_mouths, .int v_p2_speaks, .int v_p2_hears])), (a_p2_traits, .inl (cI, 35, .inl v_p2_traits)), (a_p2_hated, .inl (cI, 7, .inl v_p2_hated))]) (wr := [(a_this_bytes, .inl (cI, 200, .inl v_this_bytes))]) ⟨hx, hb, hml, hown, hW⟩ (X3_enter_ok l D cI cJ cB cO tM tS a_this a_this_bytes a_this_numbers a_p2 a_p2_traits a_p2_hated v_this_length v_this_numbers v_p2_mouths v_p2_speaks v_p2_hears v_p2_traits v_p2_hated x3 r1 w2 w3 w4 w5 w6 hg) yk_X3_enter tw_284 yv_X3_enter ⟨rfl, rfl⟩ ⟨Nat.le_of_ble_eq_true rfl, Nat.le_of_ble_eq_true rfl⟩ hE hP hD hS hA [0, 2, 3, 4, 5] [1] rfl rfl (by decide +kernel) (by decide +kernel) rfl (by decide +kernel) (ci := 3) rfl rfl rfl hl.1 (Nat.le_of_ble_eq_true rfl) rfl rfl dX3_readItem_116 ⟨Nat.le_of_ble_eq_true rfl, Nat.le_of_ble_eq_true rfl⟩ ⟨rfl, rfl⟩ (fun w1 H locs hB hP hD hS => ?_)
  obtain rfl := hB
  have hP : va_P D gx_cl [(a_this, .inr (3, [.ref a_this_bytes, .ref a_this_numbers, .int v_this_length])), (a_this_bytes, .inl (cI, 200, .inl v_this_bytes)), (a_this_numbers, .inl (cI, 5, .inl v_this_numbers)), (a_p2, .inr (0, [.ref a_p2_traits, .ref a_p2_hated, .int w2, .int w3, .int w4])), (a_p2_traits, .inl (cI, 35, .inl w5)), (a_p2_hated, .inl (cI, 7, .inl w6))] H := hP.sub [1, 0, 2, 3, 4, 5] rfl
  have hD : va_D A [(a_this, .inr (3, [.ref a_this_bytes, .ref a_this_numbers, .int v_this_length])), (a_this_bytes, .inl (cI, 200, .inl v_this_bytes)), (a_this_numbers, .inl (cI, 5, .inl v_this_numbers)), (a_p2, .inr (0, [.ref a_p2_traits, .ref a_p2_hated, .int w2, .int w3, .int w4])), (a_p2_traits, .inl (cI, 35, .inl w5)), (a_p2_hated, .inl (cI, 7, .inl w6))] := hD.sub [1, 0, 2, 3, 4, 5] (by decide +kernel) rfl
  refine lv_if_eq (tgt := 127) hx hb dX3_readItem_119 (by decide) (fun hc => ?_) (fun hc => ?_)
  · have hf := gx_t hf hc
    refine lv_iconst (v := -1) hx hb dX3_readItem_127 (by decide) ?_
    cases hf
    exact gx_iret hx hb hr hlocks rfl hP hD hS dX3_readItem_128
  · have hf := gx_f hf hc
    refine lv_iload hx hb dX3_readItem_122 (lv_at hl 3 rfl) ?_
    refine lv_goto (tgt := 128) hx hb dX3_readItem_124 (by decide) ?_
    cases hf
    exact gx_iret hx hb hr hlocks rfl hP hD hS dX3_readItem_128
set_option maxHeartbeats 4000000 in
set_option maxRecDepth 100000 in
theorem X3_readItem_b99_ok {p : Program} {l : Launch} {e : Env} {s : State} {m : MethodId} {args : Array Value} {below : List Frame} {meth : Method} {c : Code} {D : va_G} {cI cJ cB cO : ClassId} {tM tS : Nat} {A : Nat → Prop} (C : gx_X p s m args meth c cX3_readItem 8 (some .int) RX3 D cI cJ cB cO tM tS A) (a_this a_this_bytes a_this_numbers a_p2 a_p2_traits a_p2_hated : Nat) (n_r : Int32) (n_this_numbers : Nat → Int32) (n_p2_mouths n_p2_speaks n_p2_hears : Int32) (n_p2_traits n_p2_hated : Nat → Int32) (k27 : Int32 → Int32 → Int32 → Int32 → Int32 → (Nat → Int32) → (Nat → Int32) → Int32 → Int32 → Int32 → (Nat → Int32) → (Nat → Int32) → Option (Int32 × (Nat → Int32) × Int32 × Int32 × Int32 × (Nat → Int32) × (Nat → Int32))) (k113 : Int32 → Int32 → Int32 → (Nat → Int32) → (Nat → Int32) → Int32 → Int32 → Int32 → (Nat → Int32) → (Nat → Int32) → Option (Int32 × (Nat → Int32) × Int32 × Int32 × Int32 × (Nat → Int32) × (Nat → Int32))) (K27 : ∀ (x3 x4 x5 x6 v_this_length : Int32) (v_this_bytes v_this_numbers : Nat → Int32) (v_p2_mouths v_p2_speaks v_p2_hears : Int32) (v_p2_traits v_p2_hated : Nat → Int32) , k27 x3 x4 x5 x6 v_this_length v_this_bytes v_this_numbers v_p2_mouths v_p2_speaks v_p2_hears v_p2_traits v_p2_hated = some (n_r, n_this_numbers, n_p2_mouths, n_p2_speaks, n_p2_hears, n_p2_traits, n_p2_hated) → gx_Wt p l e X3_readItem_rm s m args below meth c (MQ below (gx_Q D A (X3_readItem_B cI cJ cB cO a_this a_this_bytes a_this_numbers a_p2 a_p2_traits a_p2_hated v_this_length v_this_bytes n_this_numbers n_p2_mouths n_p2_speaks n_p2_hears n_p2_traits n_p2_hated) (some (.int n_r))) args s 0 0 A) D A 8 [(a_this, .inr (3, [.ref a_this_bytes, .ref a_this_numbers, .int v_this_length])), (a_this_bytes, .inl (cI, 200, .inl v_this_bytes)), (a_this_numbers, .inl (cI, 5, .inl v_this_numbers)), (a_p2, .inr (0, [.ref a_p2_traits, .ref a_p2_hated, .int v_p2_mouths, .int v_p2_speaks, .int v_p2_hears])), (a_p2_traits, .inl (cI, 35, .inl v_p2_traits)), (a_p2_hated, .inl (cI, 7, .inl v_p2_hated))] [(0, .ref a_this), (2, .ref a_p2), (3, .int x3), (4, .int x4), (5, .int x5), (6, .int x6)] 27 []) (K113 : ∀ (x3 x5 v_this_length : Int32) (v_this_bytes v_this_numbers : Nat → Int32) (v_p2_mouths v_p2_speaks v_p2_hears : Int32) (v_p2_traits v_p2_hated : Nat → Int32) , k113 x3 x5 v_this_length v_this_bytes v_this_numbers v_p2_mouths v_p2_speaks v_p2_hears v_p2_traits v_p2_hated = some (n_r, n_this_numbers, n_p2_mouths, n_p2_speaks, n_p2_hears, n_p2_traits, n_p2_hated) → gx_Wt p l e X3_readItem_rm s m args below meth c (MQ below (gx_Q D A (X3_readItem_B cI cJ cB cO a_this a_this_bytes a_this_numbers a_p2 a_p2_traits a_p2_hated v_this_length v_this_bytes n_this_numbers n_p2_mouths n_p2_speaks n_p2_hears n_p2_traits n_p2_hated) (some (.int n_r))) args s 0 0 A) D A 8 [(a_this, .inr (3, [.ref a_this_bytes, .ref a_this_numbers, .int v_this_length])), (a_this_bytes, .inl (cI, 200, .inl v_this_bytes)), (a_this_numbers, .inl (cI, 5, .inl v_this_numbers)), (a_p2, .inr (0, [.ref a_p2_traits, .ref a_p2_hated, .int v_p2_mouths, .int v_p2_speaks, .int v_p2_hears])), (a_p2_traits, .inl (cI, 35, .inl v_p2_traits)), (a_p2_hated, .inl (cI, 7, .inl v_p2_hated))] [(0, .ref a_this), (2, .ref a_p2), (3, .int x3), (5, .int x5)] 113 []) : ∀ (x3 x4 x5 x6 s0 s1 v_this_length : Int32) (v_this_bytes v_this_numbers : Nat → Int32) (v_p2_mouths v_p2_speaks v_p2_hears : Int32) (v_p2_traits v_p2_hated : Nat → Int32) , X3_readItem_b99 k27 k113 x3 x4 x5 x6 s0 s1 v_this_length v_this_bytes v_this_numbers v_p2_mouths v_p2_speaks v_p2_hears v_p2_traits v_p2_hated = some (n_r, n_this_numbers, n_p2_mouths, n_p2_speaks, n_p2_hears, n_p2_traits, n_p2_hated) → gx_Wt p l e X3_readItem_rm s m args below meth c (MQ below (gx_Q D A (X3_readItem_B cI cJ cB cO a_this a_this_bytes a_this_numbers a_p2 a_p2_traits a_p2_hated v_this_length v_this_bytes n_this_numbers n_p2_mouths n_p2_speaks n_p2_hears n_p2_traits n_p2_hated) (some (.int n_r))) args s 0 0 A) D A 8 [(a_this, .inr (3, [.ref a_this_bytes, .ref a_this_numbers, .int v_this_length])), (a_this_bytes, .inl (cI, 200, .inl v_this_bytes)), (a_this_numbers, .inl (cI, 5, .inl v_this_numbers)), (a_p2, .inr (0, [.ref a_p2_traits, .ref a_p2_hated, .int v_p2_mouths, .int v_p2_speaks, .int v_p2_hears])), (a_p2_traits, .inl (cI, 35, .inl v_p2_traits)), (a_p2_hated, .inl (cI, 7, .inl v_p2_hated))] [(0, .ref a_this), (2, .ref a_p2), (3, .int x3), (4, .int x4), (5, .int x5), (6, .int x6)] 99 [.int s0, .int s1] := by
  intro x3 x4 x5 x6 s0 s1 v_this_length v_this_bytes v_this_numbers v_p2_mouths v_p2_speaks v_p2_hears v_p2_traits v_p2_hated hf H locs ls hP hD hS hl
  obtain ⟨hx, hb, hr, hml, hown, hW, hlocks, hE, hA⟩ := id C
  unfold X3_readItem_b99 at hf
  refine lv_icmp_eq (tgt := 104) hx hb dX3_readItem_99 (by decide) (fun hc => ?_) (fun hc => ?_)
  · have hf := gx_t hf hc
    refine lv_iinc (v := x5 + 1) (lv' := [(5, .int (x5 + 1)), (0, .ref a_this), (2, .ref a_p2), (3, .int x3), (4, .int x4), (6, .int x6)]) hx hb dX3_readItem_104 hl (k := 4) rfl rfl (by decide) rfl (fun ls hl => ?_)
    refine lv_iinc (v := x6 + 1) (lv' := [(6, .int (x6 + 1)), (5, .int (x5 + 1)), (0, .ref a_this), (2, .ref a_p2), (3, .int x3), (4, .int x4)]) hx hb dX3_readItem_107 hl (k := 5) rfl rfl (by decide) rfl (fun ls hl => ?_)
    refine lv_goto (tgt := 27) hx hb dX3_readItem_110 (by decide) ?_
    exact K27 x3 x4 (x5 + 1) (x6 + 1) v_this_length v_this_bytes v_this_numbers v_p2_mouths v_p2_speaks v_p2_hears v_p2_traits v_p2_hated hf H locs ls hP hD hS (lv_sub hl [2, 3, 4, 5, 1, 0] rfl)
  · have hf := gx_f hf hc
    refine lv_iconst (v := -1) hx hb dX3_readItem_102 (by decide) ?_
    cases hf
    exact gx_iret hx hb hr hlocks rfl hP hD hS dX3_readItem_103
set_option maxHeartbeats 4000000 in
set_option maxRecDepth 100000 in
theorem X3_readItem_b27_ok {p : Program} {l : Launch} {e : Env} {s : State} {m : MethodId} {args : Array Value} {below : List Frame} {meth : Method} {c : Code} {D : va_G} {cI cJ cB cO : ClassId} {tM tS : Nat} {A : Nat → Prop} (C : gx_X p s m args meth c cX3_readItem 8 (some .int) RX3 D cI cJ cB cO tM tS A) (a_this a_this_bytes a_this_numbers a_p2 a_p2_traits a_p2_hated : Nat) (n_r : Int32) (n_this_numbers : Nat → Int32) (n_p2_mouths n_p2_speaks n_p2_hears : Int32) (n_p2_traits n_p2_hated : Nat → Int32) (k27 : Int32 → Int32 → Int32 → Int32 → Int32 → (Nat → Int32) → (Nat → Int32) → Int32 → Int32 → Int32 → (Nat → Int32) → (Nat → Int32) → Option (Int32 × (Nat → Int32) × Int32 × Int32 × Int32 × (Nat → Int32) × (Nat → Int32))) (k113 : Int32 → Int32 → Int32 → (Nat → Int32) → (Nat → Int32) → Int32 → Int32 → Int32 → (Nat → Int32) → (Nat → Int32) → Option (Int32 × (Nat → Int32) × Int32 × Int32 × Int32 × (Nat → Int32) × (Nat → Int32))) (K27 : ∀ (x3 x4 x5 x6 v_this_length : Int32) (v_this_bytes v_this_numbers : Nat → Int32) (v_p2_mouths v_p2_speaks v_p2_hears : Int32) (v_p2_traits v_p2_hated : Nat → Int32) , k27 x3 x4 x5 x6 v_this_length v_this_bytes v_this_numbers v_p2_mouths v_p2_speaks v_p2_hears v_p2_traits v_p2_hated = some (n_r, n_this_numbers, n_p2_mouths, n_p2_speaks, n_p2_hears, n_p2_traits, n_p2_hated) → gx_Wt p l e X3_readItem_rm s m args below meth c (MQ below (gx_Q D A (X3_readItem_B cI cJ cB cO a_this a_this_bytes a_this_numbers a_p2 a_p2_traits a_p2_hated v_this_length v_this_bytes n_this_numbers n_p2_mouths n_p2_speaks n_p2_hears n_p2_traits n_p2_hated) (some (.int n_r))) args s 0 0 A) D A 8 [(a_this, .inr (3, [.ref a_this_bytes, .ref a_this_numbers, .int v_this_length])), (a_this_bytes, .inl (cI, 200, .inl v_this_bytes)), (a_this_numbers, .inl (cI, 5, .inl v_this_numbers)), (a_p2, .inr (0, [.ref a_p2_traits, .ref a_p2_hated, .int v_p2_mouths, .int v_p2_speaks, .int v_p2_hears])), (a_p2_traits, .inl (cI, 35, .inl v_p2_traits)), (a_p2_hated, .inl (cI, 7, .inl v_p2_hated))] [(0, .ref a_this), (2, .ref a_p2), (3, .int x3), (4, .int x4), (5, .int x5), (6, .int x6)] 27 []) (K113 : ∀ (x3 x5 v_this_length : Int32) (v_this_bytes v_this_numbers : Nat → Int32) (v_p2_mouths v_p2_speaks v_p2_hears : Int32) (v_p2_traits v_p2_hated : Nat → Int32) , k113 x3 x5 v_this_length v_this_bytes v_this_numbers v_p2_mouths v_p2_speaks v_p2_hears v_p2_traits v_p2_hated = some (n_r, n_this_numbers, n_p2_mouths, n_p2_speaks, n_p2_hears, n_p2_traits, n_p2_hated) → gx_Wt p l e X3_readItem_rm s m args below meth c (MQ below (gx_Q D A (X3_readItem_B cI cJ cB cO a_this a_this_bytes a_this_numbers a_p2 a_p2_traits a_p2_hated v_this_length v_this_bytes n_this_numbers n_p2_mouths n_p2_speaks n_p2_hears n_p2_traits n_p2_hated) (some (.int n_r))) args s 0 0 A) D A 8 [(a_this, .inr (3, [.ref a_this_bytes, .ref a_this_numbers, .int v_this_length])), (a_this_bytes, .inl (cI, 200, .inl v_this_bytes)), (a_this_numbers, .inl (cI, 5, .inl v_this_numbers)), (a_p2, .inr (0, [.ref a_p2_traits, .ref a_p2_hated, .int v_p2_mouths, .int v_p2_speaks, .int v_p2_hears])), (a_p2_traits, .inl (cI, 35, .inl v_p2_traits)), (a_p2_hated, .inl (cI, 7, .inl v_p2_hated))] [(0, .ref a_this), (2, .ref a_p2), (3, .int x3), (5, .int x5)] 113 []) : ∀ (x3 x4 x5 x6 v_this_length : Int32) (v_this_bytes v_this_numbers : Nat → Int32) (v_p2_mouths v_p2_speaks v_p2_hears : Int32) (v_p2_traits v_p2_hated : Nat → Int32) , X3_readItem_b27 k27 k113 x3 x4 x5 x6 v_this_length v_this_bytes v_this_numbers v_p2_mouths v_p2_speaks v_p2_hears v_p2_traits v_p2_hated = some (n_r, n_this_numbers, n_p2_mouths, n_p2_speaks, n_p2_hears, n_p2_traits, n_p2_hated) → gx_Wt p l e X3_readItem_rm s m args below meth c (MQ below (gx_Q D A (X3_readItem_B cI cJ cB cO a_this a_this_bytes a_this_numbers a_p2 a_p2_traits a_p2_hated v_this_length v_this_bytes n_this_numbers n_p2_mouths n_p2_speaks n_p2_hears n_p2_traits n_p2_hated) (some (.int n_r))) args s 0 0 A) D A 8 [(a_this, .inr (3, [.ref a_this_bytes, .ref a_this_numbers, .int v_this_length])), (a_this_bytes, .inl (cI, 200, .inl v_this_bytes)), (a_this_numbers, .inl (cI, 5, .inl v_this_numbers)), (a_p2, .inr (0, [.ref a_p2_traits, .ref a_p2_hated, .int v_p2_mouths, .int v_p2_speaks, .int v_p2_hears])), (a_p2_traits, .inl (cI, 35, .inl v_p2_traits)), (a_p2_hated, .inl (cI, 7, .inl v_p2_hated))] [(0, .ref a_this), (2, .ref a_p2), (3, .int x3), (4, .int x4), (5, .int x5), (6, .int x6)] 27 [] := by
  intro x3 x4 x5 x6 v_this_length v_this_bytes v_this_numbers v_p2_mouths v_p2_speaks v_p2_hears v_p2_traits v_p2_hated hf H locs ls hP hD hS hl
  obtain ⟨hx, hb, hr, hml, hown, hW, hlocks, hE, hA⟩ := id C
  unfold X3_readItem_b27 at hf
  refine lv_iload hx hb dX3_readItem_27 (lv_at hl 5 rfl) ?_
  refine lv_iload hx hb dX3_readItem_29 (lv_at hl 3 rfl) ?_
  refine lv_icmp_ge (tgt := 113) hx hb dX3_readItem_31 (by decide) (fun hc => ?_) (fun hc => ?_)
  · have hf := gx_t hf hc
    exact K113 x3 x5 v_this_length v_this_bytes v_this_numbers v_p2_mouths v_p2_speaks v_p2_hears v_p2_traits v_p2_hated hf H locs ls hP hD hS (lv_sub hl [0, 1, 2, 4] rfl)
  · have hf := gx_f hf hc
    refine lv_iload hx hb dX3_readItem_34 (lv_at hl 5 rfl) ?_
    refine lv_iconst (v := 5) hx hb dX3_readItem_36 (by decide) ?_
    refine lv_icmp_ge (tgt := 113) hx hb dX3_readItem_37 (by decide) (fun hc => ?_) (fun hc => ?_)
    · have hf := gx_t hf hc
      exact K113 x3 x5 v_this_length v_this_bytes v_this_numbers v_p2_mouths v_p2_speaks v_p2_hears v_p2_traits v_p2_hated hf H locs ls hP hD hS (lv_sub hl [0, 1, 2, 4] rfl)
    · have hf := gx_f hf hc
      refine lv_aload_n hx hb dX3_readItem_40 rfl (lv_at hl 0 rfl) ?_
      refine lv_iload hx hb dX3_readItem_41 (lv_at hl 4 rfl) ?_
      obtain ⟨r1, hg, hf⟩ := gx_bs hf
      refine gx_V (As := [.int x5]) (rest := []) (st1 := [.int r1]) (cells1 := 0) (slots1 := 0) (wc := [(a_this, .inr (3, [.ref a_this_bytes, .ref a_this_numbers, .int v_this_length])), (a_this_bytes, .inl (cI, 200, .inl v_this_bytes))]) (wr := [(a_this_numbers, .inl (cI, 5, .inl v_this_numbers)), (a_p2, .inr (0, [.ref a_p2_traits, .ref a_p2_hated, .int v_p2_mouths, .int v_p2_speaks, .int v_p2_hears])), (a_p2_traits, .inl (cI, 35, .inl v_p2_traits)), (a_p2_hated, .inl (cI, 7, .inl v_p2_hated))]) ⟨hx, hb, hml, hown, hW⟩ (X3_figuresAt_ok l D cI cJ cB cO tM tS a_this a_this_bytes a_this_numbers v_this_length v_this_bytes x5 r1 hg) yk_X3_figuresAt tw_272 yv_X3_figuresAt ⟨rfl, rfl⟩ ⟨Nat.le_of_ble_eq_true rfl, Nat.le_of_ble_eq_true rfl⟩ hE hP hD hS hA [0, 1] [2, 3, 4, 5] rfl rfl (by decide +kernel) (by decide +kernel) rfl (by decide +kernel) (ci := 3) rfl rfl rfl hl.1 (Nat.le_of_ble_eq_true rfl) rfl rfl dX3_readItem_43 ⟨Nat.le_of_ble_eq_true rfl, Nat.le_of_ble_eq_true rfl⟩ ⟨rfl, rfl⟩ (fun w1 H locs hB hP hD hS => ?_)
      obtain rfl := hB
      have hP : va_P D gx_cl [(a_this, .inr (3, [.ref a_this_bytes, .ref a_this_numbers, .int v_this_length])), (a_this_bytes, .inl (cI, 200, .inl v_this_bytes)), (a_this_numbers, .inl (cI, 5, .inl v_this_numbers)), (a_p2, .inr (0, [.ref a_p2_traits, .ref a_p2_hated, .int v_p2_mouths, .int v_p2_speaks, .int v_p2_hears])), (a_p2_traits, .inl (cI, 35, .inl v_p2_traits)), (a_p2_hated, .inl (cI, 7, .inl v_p2_hated))] H := hP.sub [4, 5, 0, 1, 2, 3] rfl
      have hD : va_D A [(a_this, .inr (3, [.ref a_this_bytes, .ref a_this_numbers, .int v_this_length])), (a_this_bytes, .inl (cI, 200, .inl v_this_bytes)), (a_this_numbers, .inl (cI, 5, .inl v_this_numbers)), (a_p2, .inr (0, [.ref a_p2_traits, .ref a_p2_hated, .int v_p2_mouths, .int v_p2_speaks, .int v_p2_hears])), (a_p2_traits, .inl (cI, 35, .inl v_p2_traits)), (a_p2_hated, .inl (cI, 7, .inl v_p2_hated))] := hD.sub [4, 5, 0, 1, 2, 3] (by decide +kernel) rfl
      refine lv_istore (lv' := [(7, .int r1), (0, .ref a_this), (2, .ref a_p2), (3, .int x3), (4, .int x4), (5, .int x5), (6, .int x6)]) hx hb dX3_readItem_46 hl (by decide) rfl (fun ls hl => ?_)
      refine lv_iload hx hb dX3_readItem_48 (lv_at hl 0 rfl) ?_
      refine lv_if_ne (tgt := 55) hx hb dX3_readItem_50 (by decide) (fun hc => ?_) (fun hc => ?_)
      · have hf := gx_f hf hc
        refine lv_aload_n hx hb dX3_readItem_55 rfl (lv_at hl 1 rfl) ?_
        refine va_get (D := D) (ci := 3) (v := .ref a_this_numbers) (C := RX3) (T := TX3) (N := 3) hx hb hW in_X3 hown hE.1 hP 0 rfl rfl 1 (by decide) (hW _ tw_70) (fun _ h9 => h9) rfl dX3_readItem_56 ?_
        refine lv_iload hx hb dX3_readItem_59 (lv_at hl 6 rfl) ?_
        refine lv_aload_n hx hb dX3_readItem_61 rfl (lv_at hl 1 rfl) ?_
        refine lv_iload hx hb dX3_readItem_62 (lv_at hl 5 rfl) ?_
        refine lv_iload hx hb dX3_readItem_64 (lv_at hl 0 rfl) ?_
        obtain ⟨r2, hg, hf⟩ := gx_bs hf
        refine gx_V (As := [.int x5, .int r1]) (rest := [.int x6, .ref a_this_numbers]) (st1 := [.int r2, .int x6, .ref a_this_numbers]) (cells1 := 0) (slots1 := 0) (wc := [(a_this, .inr (3, [.ref a_this_bytes, .ref a_this_numbers, .int v_this_length])), (a_this_bytes, .inl (cI, 200, .inl v_this_bytes))]) (wr := [(a_this_numbers, .inl (cI, 5, .inl v_this_numbers)), (a_p2, .inr (0, [.ref a_p2_traits, .ref a_p2_hated, .int v_p2_mouths, .int v_p2_speaks, .int v_p2_hears])), (a_p2_traits, .inl (cI, 35, .inl v_p2_traits)), (a_p2_hated, .inl (cI, 7, .inl v_p2_hated))]) ⟨hx, hb, hml, hown, hW⟩ (X3_numberOf_ok l D cI cJ cB cO tM tS a_this a_this_bytes a_this_numbers v_this_length v_this_bytes x5 r1 r2 hg) yk_X3_numberOf tw_280 yv_X3_numberOf ⟨rfl, rfl⟩ ⟨Nat.le_of_ble_eq_true rfl, Nat.le_of_ble_eq_true rfl⟩ hE hP hD hS hA [0, 1] [2, 3, 4, 5] rfl rfl (by decide +kernel) (by decide +kernel) rfl (by decide +kernel) (ci := 3) rfl rfl rfl hl.1 (Nat.le_of_ble_eq_true rfl) rfl rfl dX3_readItem_66 ⟨Nat.le_of_ble_eq_true rfl, Nat.le_of_ble_eq_true rfl⟩ ⟨rfl, rfl⟩ (fun w1 H locs hB hP hD hS => ?_)
        obtain rfl := hB
        have hP : va_P D gx_cl [(a_this, .inr (3, [.ref a_this_bytes, .ref a_this_numbers, .int v_this_length])), (a_this_bytes, .inl (cI, 200, .inl v_this_bytes)), (a_this_numbers, .inl (cI, 5, .inl v_this_numbers)), (a_p2, .inr (0, [.ref a_p2_traits, .ref a_p2_hated, .int v_p2_mouths, .int v_p2_speaks, .int v_p2_hears])), (a_p2_traits, .inl (cI, 35, .inl v_p2_traits)), (a_p2_hated, .inl (cI, 7, .inl v_p2_hated))] H := hP.sub [4, 5, 0, 1, 2, 3] rfl
        have hD : va_D A [(a_this, .inr (3, [.ref a_this_bytes, .ref a_this_numbers, .int v_this_length])), (a_this_bytes, .inl (cI, 200, .inl v_this_bytes)), (a_this_numbers, .inl (cI, 5, .inl v_this_numbers)), (a_p2, .inr (0, [.ref a_p2_traits, .ref a_p2_hated, .int v_p2_mouths, .int v_p2_speaks, .int v_p2_hears])), (a_p2_traits, .inl (cI, 35, .inl v_p2_traits)), (a_p2_hated, .inl (cI, 7, .inl v_p2_hated))] := hD.sub [4, 5, 0, 1, 2, 3] (by decide +kernel) rfl
        obtain ⟨h3, hf⟩ := gx_ite hf
        refine va_iast hx hb hE.1 hP hD hS 2 0 rfl rfl h3 dX3_readItem_69 (fun H locs hP hD hS => ?_)
        have hP : va_P D gx_cl [(a_this, .inr (3, [.ref a_this_bytes, .ref a_this_numbers, .int v_this_length])), (a_this_bytes, .inl (cI, 200, .inl v_this_bytes)), (a_this_numbers, .inl (cI, 5, .inl (upd v_this_numbers x6.toNatClampNeg r2))), (a_p2, .inr (0, [.ref a_p2_traits, .ref a_p2_hated, .int v_p2_mouths, .int v_p2_speaks, .int v_p2_hears])), (a_p2_traits, .inl (cI, 35, .inl v_p2_traits)), (a_p2_hated, .inl (cI, 7, .inl v_p2_hated))] H := hP
        have hD : va_D A [(a_this, .inr (3, [.ref a_this_bytes, .ref a_this_numbers, .int v_this_length])), (a_this_bytes, .inl (cI, 200, .inl v_this_bytes)), (a_this_numbers, .inl (cI, 5, .inl (upd v_this_numbers x6.toNatClampNeg r2))), (a_p2, .inr (0, [.ref a_p2_traits, .ref a_p2_hated, .int v_p2_mouths, .int v_p2_speaks, .int v_p2_hears])), (a_p2_traits, .inl (cI, 35, .inl v_p2_traits)), (a_p2_hated, .inl (cI, 7, .inl v_p2_hated))] := hD
        refine lv_iload hx hb dX3_readItem_70 (lv_at hl 5 rfl) ?_
        refine lv_iload hx hb dX3_readItem_72 (lv_at hl 0 rfl) ?_
        refine lv_iadd hx hb dX3_readItem_74 ?_
        refine lv_topi (fun y4 ey4 => ?_)
        have hf := gx_lv hf ey4
        clear ey4
        refine lv_istore (lv' := [(5, .int y4), (7, .int r1), (0, .ref a_this), (2, .ref a_p2), (3, .int x3), (4, .int x4), (6, .int x6)]) hx hb dX3_readItem_75 hl (by decide) rfl (fun ls hl => ?_)
        refine lv_aload_n hx hb dX3_readItem_77 rfl (lv_at hl 2 rfl) ?_
        refine lv_iload hx hb dX3_readItem_78 (lv_at hl 0 rfl) ?_
        obtain ⟨r5, hg, hf⟩ := gx_bs hf
        refine gx_V (As := [.int y4]) (rest := []) (st1 := [.int r5]) (cells1 := 0) (slots1 := 0) (wc := [(a_this, .inr (3, [.ref a_this_bytes, .ref a_this_numbers, .int v_this_length])), (a_this_bytes, .inl (cI, 200, .inl v_this_bytes))]) (wr := [(a_this_numbers, .inl (cI, 5, .inl (upd v_this_numbers x6.toNatClampNeg r2))), (a_p2, .inr (0, [.ref a_p2_traits, .ref a_p2_hated, .int v_p2_mouths, .int v_p2_speaks, .int v_p2_hears])), (a_p2_traits, .inl (cI, 35, .inl v_p2_traits)), (a_p2_hated, .inl (cI, 7, .inl v_p2_hated))]) ⟨hx, hb, hml, hown, hW⟩ (X3_byteAt_ok l D cI cJ cB cO tM tS a_this a_this_bytes a_this_numbers v_this_length v_this_bytes y4 r5 hg) yk_X3_byteAt tw_265 yv_X3_byteAt ⟨rfl, rfl⟩ ⟨Nat.le_of_ble_eq_true rfl, Nat.le_of_ble_eq_true rfl⟩ hE hP hD hS hA [0, 1] [2, 3, 4, 5] rfl rfl (by decide +kernel) (by decide +kernel) rfl (by decide +kernel) (ci := 3) rfl rfl rfl hl.1 (Nat.le_of_ble_eq_true rfl) rfl rfl dX3_readItem_80 ⟨Nat.le_of_ble_eq_true rfl, Nat.le_of_ble_eq_true rfl⟩ ⟨rfl, rfl⟩ (fun w1 H locs hB hP hD hS => ?_)
        obtain rfl := hB
        have hP : va_P D gx_cl [(a_this, .inr (3, [.ref a_this_bytes, .ref a_this_numbers, .int v_this_length])), (a_this_bytes, .inl (cI, 200, .inl v_this_bytes)), (a_this_numbers, .inl (cI, 5, .inl (upd v_this_numbers x6.toNatClampNeg r2))), (a_p2, .inr (0, [.ref a_p2_traits, .ref a_p2_hated, .int v_p2_mouths, .int v_p2_speaks, .int v_p2_hears])), (a_p2_traits, .inl (cI, 35, .inl v_p2_traits)), (a_p2_hated, .inl (cI, 7, .inl v_p2_hated))] H := hP.sub [4, 5, 0, 1, 2, 3] rfl
        have hD : va_D A [(a_this, .inr (3, [.ref a_this_bytes, .ref a_this_numbers, .int v_this_length])), (a_this_bytes, .inl (cI, 200, .inl v_this_bytes)), (a_this_numbers, .inl (cI, 5, .inl (upd v_this_numbers x6.toNatClampNeg r2))), (a_p2, .inr (0, [.ref a_p2_traits, .ref a_p2_hated, .int v_p2_mouths, .int v_p2_speaks, .int v_p2_hears])), (a_p2_traits, .inl (cI, 35, .inl v_p2_traits)), (a_p2_hated, .inl (cI, 7, .inl v_p2_hated))] := hD.sub [4, 5, 0, 1, 2, 3] (by decide +kernel) rfl
        refine lv_iload hx hb dX3_readItem_83 (lv_at hl 6 rfl) ?_
        refine lv_iconst (v := 1) hx hb dX3_readItem_85 (by decide) ?_
        refine lv_iadd hx hb dX3_readItem_86 ?_
        refine lv_iload hx hb dX3_readItem_87 (lv_at hl 5 rfl) ?_
        refine lv_icmp_ge (tgt := 97) hx hb dX3_readItem_89 (by decide) (fun hc => ?_) (fun hc => ?_)
        · have hf := gx_t hf hc
          refine lv_bipush (v := 59) hx hb dX3_readItem_97 (by decide) ?_
          exact X3_readItem_b99_ok C a_this a_this_bytes a_this_numbers a_p2 a_p2_traits a_p2_hated n_r n_this_numbers n_p2_mouths n_p2_speaks n_p2_hears n_p2_traits n_p2_hated k27 k113 K27 K113 x3 x4 y4 x6 (59 : Int32) r5 v_this_length v_this_bytes (upd v_this_numbers x6.toNatClampNeg r2) v_p2_mouths v_p2_speaks v_p2_hears v_p2_traits v_p2_hated hf H locs ls hP hD hS (lv_sub hl [2, 3, 4, 5, 0, 6] rfl)
        · have hf := gx_f hf hc
          refine lv_bipush (v := 44) hx hb dX3_readItem_92 (by decide) ?_
          refine lv_goto (tgt := 99) hx hb dX3_readItem_94 (by decide) ?_
          exact X3_readItem_b99_ok C a_this a_this_bytes a_this_numbers a_p2 a_p2_traits a_p2_hated n_r n_this_numbers n_p2_mouths n_p2_speaks n_p2_hears n_p2_traits n_p2_hated k27 k113 K27 K113 x3 x4 y4 x6 (44 : Int32) r5 v_this_length v_this_bytes (upd v_this_numbers x6.toNatClampNeg r2) v_p2_mouths v_p2_speaks v_p2_hears v_p2_traits v_p2_hated hf H locs ls hP hD hS (lv_sub hl [2, 3, 4, 5, 0, 6] rfl)
      · have hf := gx_t hf hc
        refine lv_iconst (v := -1) hx hb dX3_readItem_53 (by decide) ?_
        cases hf
        exact gx_iret hx hb hr hlocks rfl hP hD hS dX3_readItem_54
theorem X3_readItem_l27_ok {p : Program} {l : Launch} {e : Env} {s : State} {m : MethodId} {args : Array Value} {below : List Frame} {meth : Method} {c : Code} {D : va_G} {cI cJ cB cO : ClassId} {tM tS : Nat} {A : Nat → Prop} (C : gx_X p s m args meth c cX3_readItem 8 (some .int) RX3 D cI cJ cB cO tM tS A) (a_this a_this_bytes a_this_numbers a_p2 a_p2_traits a_p2_hated : Nat) (n_r : Int32) (n_this_numbers : Nat → Int32) (n_p2_mouths n_p2_speaks n_p2_hears : Int32) (n_p2_traits n_p2_hated : Nat → Int32) (k113 : Int32 → Int32 → Int32 → (Nat → Int32) → (Nat → Int32) → Int32 → Int32 → Int32 → (Nat → Int32) → (Nat → Int32) → Option (Int32 × (Nat → Int32) × Int32 × Int32 × Int32 × (Nat → Int32) × (Nat → Int32))) (K113 : ∀ (x3 x5 v_this_length : Int32) (v_this_bytes v_this_numbers : Nat → Int32) (v_p2_mouths v_p2_speaks v_p2_hears : Int32) (v_p2_traits v_p2_hated : Nat → Int32) , k113 x3 x5 v_this_length v_this_bytes v_this_numbers v_p2_mouths v_p2_speaks v_p2_hears v_p2_traits v_p2_hated = some (n_r, n_this_numbers, n_p2_mouths, n_p2_speaks, n_p2_hears, n_p2_traits, n_p2_hated) → gx_Wt p l e X3_readItem_rm s m args below meth c (MQ below (gx_Q D A (X3_readItem_B cI cJ cB cO a_this a_this_bytes a_this_numbers a_p2 a_p2_traits a_p2_hated v_this_length v_this_bytes n_this_numbers n_p2_mouths n_p2_speaks n_p2_hears n_p2_traits n_p2_hated) (some (.int n_r))) args s 0 0 A) D A 8 [(a_this, .inr (3, [.ref a_this_bytes, .ref a_this_numbers, .int v_this_length])), (a_this_bytes, .inl (cI, 200, .inl v_this_bytes)), (a_this_numbers, .inl (cI, 5, .inl v_this_numbers)), (a_p2, .inr (0, [.ref a_p2_traits, .ref a_p2_hated, .int v_p2_mouths, .int v_p2_speaks, .int v_p2_hears])), (a_p2_traits, .inl (cI, 35, .inl v_p2_traits)), (a_p2_hated, .inl (cI, 7, .inl v_p2_hated))] [(0, .ref a_this), (2, .ref a_p2), (3, .int x3), (5, .int x5)] 113 []) : ∀ (n : Nat) (x3 x4 x5 x6 v_this_length : Int32) (v_this_bytes v_this_numbers : Nat → Int32) (v_p2_mouths v_p2_speaks v_p2_hears : Int32) (v_p2_traits v_p2_hated : Nat → Int32) , X3_readItem_l27 k113 n x3 x4 x5 x6 v_this_length v_this_bytes v_this_numbers v_p2_mouths v_p2_speaks v_p2_hears v_p2_traits v_p2_hated = some (n_r, n_this_numbers, n_p2_mouths, n_p2_speaks, n_p2_hears, n_p2_traits, n_p2_hated) → gx_Wt p l e X3_readItem_rm s m args below meth c (MQ below (gx_Q D A (X3_readItem_B cI cJ cB cO a_this a_this_bytes a_this_numbers a_p2 a_p2_traits a_p2_hated v_this_length v_this_bytes n_this_numbers n_p2_mouths n_p2_speaks n_p2_hears n_p2_traits n_p2_hated) (some (.int n_r))) args s 0 0 A) D A 8 [(a_this, .inr (3, [.ref a_this_bytes, .ref a_this_numbers, .int v_this_length])), (a_this_bytes, .inl (cI, 200, .inl v_this_bytes)), (a_this_numbers, .inl (cI, 5, .inl v_this_numbers)), (a_p2, .inr (0, [.ref a_p2_traits, .ref a_p2_hated, .int v_p2_mouths, .int v_p2_speaks, .int v_p2_hears])), (a_p2_traits, .inl (cI, 35, .inl v_p2_traits)), (a_p2_hated, .inl (cI, 7, .inl v_p2_hated))] [(0, .ref a_this), (2, .ref a_p2), (3, .int x3), (4, .int x4), (5, .int x5), (6, .int x6)] 27 [] := by
  intro n
  induction n with
  | zero =>
    intro _ _ _ _ _ _ _ _ _ _ _ _ hf
    cases hf
  | succ n ih => exact fun x3 x4 x5 x6 v_this_length v_this_bytes v_this_numbers v_p2_mouths v_p2_speaks v_p2_hears v_p2_traits v_p2_hated hf => X3_readItem_b27_ok C a_this a_this_bytes a_this_numbers a_p2 a_p2_traits a_p2_hated n_r n_this_numbers n_p2_mouths n_p2_speaks n_p2_hears n_p2_traits n_p2_hated (X3_readItem_l27 k113 n) k113 ih K113 x3 x4 x5 x6 v_this_length v_this_bytes v_this_numbers v_p2_mouths v_p2_speaks v_p2_hears v_p2_traits v_p2_hated hf
set_option maxHeartbeats 4000000 in
set_option maxRecDepth 100000 in
theorem X3_readItem_b0_ok {p : Program} {l : Launch} {e : Env} {s : State} {m : MethodId} {args : Array Value} {below : List Frame} {meth : Method} {c : Code} {D : va_G} {cI cJ cB cO : ClassId} {tM tS : Nat} {A : Nat → Prop} (C : gx_X p s m args meth c cX3_readItem 8 (some .int) RX3 D cI cJ cB cO tM tS A) (a_this a_this_bytes a_this_numbers a_p2 a_p2_traits a_p2_hated : Nat) (n_r : Int32) (n_this_numbers : Nat → Int32) (n_p2_mouths n_p2_speaks n_p2_hears : Int32) (n_p2_traits n_p2_hated : Nat → Int32)  : ∀ (x1 v_this_length : Int32) (v_this_bytes v_this_numbers : Nat → Int32) (v_p2_mouths v_p2_speaks v_p2_hears : Int32) (v_p2_traits v_p2_hated : Nat → Int32) , X3_readItem x1 v_this_length v_this_bytes v_this_numbers v_p2_mouths v_p2_speaks v_p2_hears v_p2_traits v_p2_hated = some (n_r, n_this_numbers, n_p2_mouths, n_p2_speaks, n_p2_hears, n_p2_traits, n_p2_hated) → gx_Wt p l e X3_readItem_rm s m args below meth c (MQ below (gx_Q D A (X3_readItem_B cI cJ cB cO a_this a_this_bytes a_this_numbers a_p2 a_p2_traits a_p2_hated v_this_length v_this_bytes n_this_numbers n_p2_mouths n_p2_speaks n_p2_hears n_p2_traits n_p2_hated) (some (.int n_r))) args s 0 0 A) D A 8 [(a_this, .inr (3, [.ref a_this_bytes, .ref a_this_numbers, .int v_this_length])), (a_this_bytes, .inl (cI, 200, .inl v_this_bytes)), (a_this_numbers, .inl (cI, 5, .inl v_this_numbers)), (a_p2, .inr (0, [.ref a_p2_traits, .ref a_p2_hated, .int v_p2_mouths, .int v_p2_speaks, .int v_p2_hears])), (a_p2_traits, .inl (cI, 35, .inl v_p2_traits)), (a_p2_hated, .inl (cI, 7, .inl v_p2_hated))] [(0, .ref a_this), (1, .int x1), (2, .ref a_p2)] 0 [] := by
  intro x1 v_this_length v_this_bytes v_this_numbers v_p2_mouths v_p2_speaks v_p2_hears v_p2_traits v_p2_hated hf H locs ls hP hD hS hl
  obtain ⟨hx, hb, hr, hml, hown, hW, hlocks, hE, hA⟩ := id C
  unfold X3_readItem at hf
  refine lv_aload_n hx hb dX3_readItem_0 rfl (lv_at hl 0 rfl) ?_
  refine lv_iload_n hx hb dX3_readItem_1 rfl (lv_at hl 1 rfl) ?_
  obtain ⟨r1, hg, hf⟩ := gx_bs hf
  refine gx_V (As := [.int x1]) (rest := []) (st1 := [.int r1]) (cells1 := 0) (slots1 := 0) (wc := [(a_this, .inr (3, [.ref a_this_bytes, .ref a_this_numbers, .int v_this_length])), (a_this_bytes, .inl (cI, 200, .inl v_this_bytes))]) (wr := [(a_this_numbers, .inl (cI, 5, .inl v_this_numbers)), (a_p2, .inr (0, [.ref a_p2_traits, .ref a_p2_hated, .int v_p2_mouths, .int v_p2_speaks, .int v_p2_hears])), (a_p2_traits, .inl (cI, 35, .inl v_p2_traits)), (a_p2_hated, .inl (cI, 7, .inl v_p2_hated))]) ⟨hx, hb, hml, hown, hW⟩ (X3_byteAt_ok l D cI cJ cB cO tM tS a_this a_this_bytes a_this_numbers v_this_length v_this_bytes x1 r1 hg) yk_X3_byteAt tw_265 yv_X3_byteAt ⟨rfl, rfl⟩ ⟨Nat.le_of_ble_eq_true rfl, Nat.le_of_ble_eq_true rfl⟩ hE hP hD hS hA [0, 1] [2, 3, 4, 5] rfl rfl (by decide +kernel) (by decide +kernel) rfl (by decide +kernel) (ci := 3) rfl rfl rfl hl.1 (Nat.le_of_ble_eq_true rfl) rfl rfl dX3_readItem_2 ⟨Nat.le_of_ble_eq_true rfl, Nat.le_of_ble_eq_true rfl⟩ ⟨rfl, rfl⟩ (fun w1 H locs hB hP hD hS => ?_)
  obtain rfl := hB
  have hP : va_P D gx_cl [(a_this, .inr (3, [.ref a_this_bytes, .ref a_this_numbers, .int v_this_length])), (a_this_bytes, .inl (cI, 200, .inl v_this_bytes)), (a_this_numbers, .inl (cI, 5, .inl v_this_numbers)), (a_p2, .inr (0, [.ref a_p2_traits, .ref a_p2_hated, .int v_p2_mouths, .int v_p2_speaks, .int v_p2_hears])), (a_p2_traits, .inl (cI, 35, .inl v_p2_traits)), (a_p2_hated, .inl (cI, 7, .inl v_p2_hated))] H := hP.sub [4, 5, 0, 1, 2, 3] rfl
  have hD : va_D A [(a_this, .inr (3, [.ref a_this_bytes, .ref a_this_numbers, .int v_this_length])), (a_this_bytes, .inl (cI, 200, .inl v_this_bytes)), (a_this_numbers, .inl (cI, 5, .inl v_this_numbers)), (a_p2, .inr (0, [.ref a_p2_traits, .ref a_p2_hated, .int v_p2_mouths, .int v_p2_speaks, .int v_p2_hears])), (a_p2_traits, .inl (cI, 35, .inl v_p2_traits)), (a_p2_hated, .inl (cI, 7, .inl v_p2_hated))] := hD.sub [4, 5, 0, 1, 2, 3] (by decide +kernel) rfl
  refine lv_istore_n (lv' := [(3, .int r1), (0, .ref a_this), (1, .int x1), (2, .ref a_p2)]) hx hb dX3_readItem_5 rfl hl (by decide) rfl (fun ls hl => ?_)
  refine lv_iload_n hx hb dX3_readItem_6 rfl (lv_at hl 0 rfl) ?_
  obtain ⟨r2, hg, hf⟩ := gx_bs hf
  refine gx_Sc (As := [.int r1]) (rest := []) (st1 := [.int r2]) (cells1 := 0) (slots1 := 0) (wc := []) (wr := [(a_this, .inr (3, [.ref a_this_bytes, .ref a_this_numbers, .int v_this_length])), (a_this_bytes, .inl (cI, 200, .inl v_this_bytes)), (a_this_numbers, .inl (cI, 5, .inl v_this_numbers)), (a_p2, .inr (0, [.ref a_p2_traits, .ref a_p2_hated, .int v_p2_mouths, .int v_p2_speaks, .int v_p2_hears])), (a_p2_traits, .inl (cI, 35, .inl v_p2_traits)), (a_p2_hated, .inl (cI, 7, .inl v_p2_hated))]) ⟨hx, hb, hml, hown, hW⟩ (X3_numbersOf_ok l D cI cJ cB cO tM tS r1 r2 hg) yk_X3_numbersOf tw_269 tw_270 ⟨rfl, rfl⟩ ⟨Nat.le_of_ble_eq_true rfl, Nat.le_of_ble_eq_true rfl⟩ hE hP hD hS hA [] [0, 1, 2, 3, 4, 5] rfl rfl (by decide +kernel) (by decide +kernel) rfl (by decide +kernel) rfl hl.1 (Nat.le_of_ble_eq_true rfl) rfl rfl dX3_readItem_7 ⟨Nat.le_of_ble_eq_true rfl, Nat.le_of_ble_eq_true rfl⟩ ⟨rfl, rfl⟩ (fun w1 H locs hB hP hD hS => ?_)
  obtain rfl := hB
  have hP : va_P D gx_cl [(a_this, .inr (3, [.ref a_this_bytes, .ref a_this_numbers, .int v_this_length])), (a_this_bytes, .inl (cI, 200, .inl v_this_bytes)), (a_this_numbers, .inl (cI, 5, .inl v_this_numbers)), (a_p2, .inr (0, [.ref a_p2_traits, .ref a_p2_hated, .int v_p2_mouths, .int v_p2_speaks, .int v_p2_hears])), (a_p2_traits, .inl (cI, 35, .inl v_p2_traits)), (a_p2_hated, .inl (cI, 7, .inl v_p2_hated))] H := hP
  have hD : va_D A [(a_this, .inr (3, [.ref a_this_bytes, .ref a_this_numbers, .int v_this_length])), (a_this_bytes, .inl (cI, 200, .inl v_this_bytes)), (a_this_numbers, .inl (cI, 5, .inl v_this_numbers)), (a_p2, .inr (0, [.ref a_p2_traits, .ref a_p2_hated, .int v_p2_mouths, .int v_p2_speaks, .int v_p2_hears])), (a_p2_traits, .inl (cI, 35, .inl v_p2_traits)), (a_p2_hated, .inl (cI, 7, .inl v_p2_hated))] := hD
  refine lv_istore (lv' := [(4, .int r2), (3, .int r1), (0, .ref a_this), (1, .int x1), (2, .ref a_p2)]) hx hb dX3_readItem_10 hl (by decide) rfl (fun ls hl => ?_)
  refine lv_iload hx hb dX3_readItem_12 (lv_at hl 0 rfl) ?_
  refine lv_if_ne (tgt := 19) hx hb dX3_readItem_14 (by decide) (fun hc => ?_) (fun hc => ?_)
  · have hf := gx_f hf hc
    refine lv_iload_n hx hb dX3_readItem_19 rfl (lv_at hl 3 rfl) ?_
    refine lv_iconst (v := 1) hx hb dX3_readItem_20 (by decide) ?_
    refine lv_iadd hx hb dX3_readItem_21 ?_
    refine lv_topi (fun y3 ey3 => ?_)
    have hf := gx_lv hf ey3
    clear ey3
    refine lv_istore (lv' := [(5, .int y3), (4, .int r2), (3, .int r1), (0, .ref a_this), (1, .int x1), (2, .ref a_p2)]) hx hb dX3_readItem_22 hl (by decide) rfl (fun ls hl => ?_)
    refine lv_iconst (v := 0) hx hb dX3_readItem_24 (by decide) ?_
    refine lv_istore (lv' := [(6, .int (0 : Int32)), (5, .int y3), (4, .int r2), (3, .int r1), (0, .ref a_this), (1, .int x1), (2, .ref a_p2)]) hx hb dX3_readItem_25 hl (by decide) rfl (fun ls hl => ?_)
    exact X3_readItem_l27_ok C a_this a_this_bytes a_this_numbers a_p2 a_p2_traits a_p2_hated n_r n_this_numbers n_p2_mouths n_p2_speaks n_p2_hears n_p2_traits n_p2_hated X3_readItem_b113 (X3_readItem_b113_ok C a_this a_this_bytes a_this_numbers a_p2 a_p2_traits a_p2_hated n_r n_this_numbers n_p2_mouths n_p2_speaks n_p2_hears n_p2_traits n_p2_hated) gx_F r1 r2 y3 (0 : Int32) v_this_length v_this_bytes v_this_numbers v_p2_mouths v_p2_speaks v_p2_hears v_p2_traits v_p2_hated hf H locs ls hP hD hS (lv_sub hl [4, 6, 3, 2, 1, 0] rfl)
  · have hf := gx_t hf hc
    refine lv_iconst (v := -1) hx hb dX3_readItem_17 (by decide) ?_
    cases hf
    exact gx_iret hx hb hr hlocks rfl hP hD hS dX3_readItem_18
theorem X3_readItem_ok (l : Launch) (D : va_G) (cI cJ cB cO : ClassId) (tM tS : Nat) (a_this a_this_bytes a_this_numbers a_p2 a_p2_traits a_p2_hated : Nat)  (v_this_length : Int32) (v_this_bytes v_this_numbers : Nat → Int32) (v_p2_mouths v_p2_speaks v_p2_hears : Int32) (v_p2_traits v_p2_hated : Nat → Int32) (x1 n_r : Int32) (n_this_numbers : Nat → Int32) (n_p2_mouths n_p2_speaks n_p2_hears : Int32) (n_p2_traits n_p2_hated : Nat → Int32) (hf : X3_readItem x1 v_this_length v_this_bytes v_this_numbers v_p2_mouths v_p2_speaks v_p2_hears v_p2_traits v_p2_hated = some (n_r, n_this_numbers, n_p2_mouths, n_p2_speaks, n_p2_hears, n_p2_traits, n_p2_hated)) : gx_M l yX3_readItem cX3_readItem 8 (some .int) X3_readItem_rm D cI cJ cB cO tM tS [.ref a_this, .int x1, .ref a_p2] [(a_this, .inr (3, [.ref a_this_bytes, .ref a_this_numbers, .int v_this_length])), (a_this_bytes, .inl (cI, 200, .inl v_this_bytes)), (a_this_numbers, .inl (cI, 5, .inl v_this_numbers)), (a_p2, .inr (0, [.ref a_p2_traits, .ref a_p2_hated, .int v_p2_mouths, .int v_p2_speaks, .int v_p2_hears])), (a_p2_traits, .inl (cI, 35, .inl v_p2_traits)), (a_p2_hated, .inl (cI, 7, .inl v_p2_hated))] (X3_readItem_B cI cJ cB cO a_this a_this_bytes a_this_numbers a_p2 a_p2_traits a_p2_hated v_this_length v_this_bytes n_this_numbers n_p2_mouths n_p2_speaks n_p2_hears n_p2_traits n_p2_hated) (some (.int n_r)) 0 0 := by
  refine gx_of (by decide) (Nat.le_of_ble_eq_true rfl) ?_
  intro p e s m args below meth c ls A C hP hD hl _
  have hl : lv_has ls 8 [(0, .ref a_this), (1, .int x1), (2, .ref a_p2)] := hl
  exact X3_readItem_b0_ok C a_this a_this_bytes a_this_numbers a_p2 a_p2_traits a_p2_hated n_r n_this_numbers n_p2_mouths n_p2_speaks n_p2_hears n_p2_traits n_p2_hated x1 v_this_length v_this_bytes v_this_numbers v_p2_mouths v_p2_speaks v_p2_hears v_p2_traits v_p2_hated hf s.heap [] ls hP hD va_S.rf hl
def X3_readInto_B (cI cJ cB cO : ClassId) (a_this a_this_bytes a_this_numbers a_p1 a_p1_traits a_p1_hated : Nat) (v_this_length : Int32) (v_this_bytes n_this_numbers : Nat → Int32) (n_p1_mouths n_p1_speaks n_p1_hears : Int32) (n_p1_traits n_p1_hated : Nat → Int32) : va_W → Prop := fun w1 => w1 = [(a_this, .inr (3, [.ref a_this_bytes, .ref a_this_numbers, .int v_this_length])), (a_this_bytes, .inl (cI, 200, .inl v_this_bytes)), (a_this_numbers, .inl (cI, 5, .inl n_this_numbers)), (a_p1, .inr (0, [.ref a_p1_traits, .ref a_p1_hated, .int n_p1_mouths, .int n_p1_speaks, .int n_p1_hears])), (a_p1_traits, .inl (cI, 35, .inl n_p1_traits)), (a_p1_hated, .inl (cI, 7, .inl n_p1_hated))]
abbrev X3_readInto_rm : Room := { frames := 4, cells := 0, slots := 0, locals := 95 }
set_option maxHeartbeats 4000000 in
set_option maxRecDepth 100000 in
theorem X3_readInto_b8_ok {p : Program} {l : Launch} {e : Env} {s : State} {m : MethodId} {args : Array Value} {below : List Frame} {meth : Method} {c : Code} {D : va_G} {cI cJ cB cO : ClassId} {tM tS : Nat} {A : Nat → Prop} (C : gx_X p s m args meth c cX3_readInto 5 (some .int) RX3 D cI cJ cB cO tM tS A) (a_this a_this_bytes a_this_numbers a_p1 a_p1_traits a_p1_hated : Nat) (n_r : Int32) (n_this_numbers : Nat → Int32) (n_p1_mouths n_p1_speaks n_p1_hears : Int32) (n_p1_traits n_p1_hated : Nat → Int32) (k8 : Int32 → Int32 → Int32 → (Nat → Int32) → (Nat → Int32) → Int32 → Int32 → Int32 → (Nat → Int32) → (Nat → Int32) → Option (Int32 × (Nat → Int32) × Int32 × Int32 × Int32 × (Nat → Int32) × (Nat → Int32))) (K8 : ∀ (x2 x3 v_this_length : Int32) (v_this_bytes v_this_numbers : Nat → Int32) (v_p1_mouths v_p1_speaks v_p1_hears : Int32) (v_p1_traits v_p1_hated : Nat → Int32) , k8 x2 x3 v_this_length v_this_bytes v_this_numbers v_p1_mouths v_p1_speaks v_p1_hears v_p1_traits v_p1_hated = some (n_r, n_this_numbers, n_p1_mouths, n_p1_speaks, n_p1_hears, n_p1_traits, n_p1_hated) → gx_Wt p l e X3_readInto_rm s m args below meth c (MQ below (gx_Q D A (X3_readInto_B cI cJ cB cO a_this a_this_bytes a_this_numbers a_p1 a_p1_traits a_p1_hated v_this_length v_this_bytes n_this_numbers n_p1_mouths n_p1_speaks n_p1_hears n_p1_traits n_p1_hated) (some (.int n_r))) args s 0 0 A) D A 5 [(a_this, .inr (3, [.ref a_this_bytes, .ref a_this_numbers, .int v_this_length])), (a_this_bytes, .inl (cI, 200, .inl v_this_bytes)), (a_this_numbers, .inl (cI, 5, .inl v_this_numbers)), (a_p1, .inr (0, [.ref a_p1_traits, .ref a_p1_hated, .int v_p1_mouths, .int v_p1_speaks, .int v_p1_hears])), (a_p1_traits, .inl (cI, 35, .inl v_p1_traits)), (a_p1_hated, .inl (cI, 7, .inl v_p1_hated))] [(0, .ref a_this), (1, .ref a_p1), (2, .int x2), (3, .int x3)] 8 []) : ∀ (x2 x3 v_this_length : Int32) (v_this_bytes v_this_numbers : Nat → Int32) (v_p1_mouths v_p1_speaks v_p1_hears : Int32) (v_p1_traits v_p1_hated : Nat → Int32) , X3_readInto_b8 k8 x2 x3 v_this_length v_this_bytes v_this_numbers v_p1_mouths v_p1_speaks v_p1_hears v_p1_traits v_p1_hated = some (n_r, n_this_numbers, n_p1_mouths, n_p1_speaks, n_p1_hears, n_p1_traits, n_p1_hated) → gx_Wt p l e X3_readInto_rm s m args below meth c (MQ below (gx_Q D A (X3_readInto_B cI cJ cB cO a_this a_this_bytes a_this_numbers a_p1 a_p1_traits a_p1_hated v_this_length v_this_bytes n_this_numbers n_p1_mouths n_p1_speaks n_p1_hears n_p1_traits n_p1_hated) (some (.int n_r))) args s 0 0 A) D A 5 [(a_this, .inr (3, [.ref a_this_bytes, .ref a_this_numbers, .int v_this_length])), (a_this_bytes, .inl (cI, 200, .inl v_this_bytes)), (a_this_numbers, .inl (cI, 5, .inl v_this_numbers)), (a_p1, .inr (0, [.ref a_p1_traits, .ref a_p1_hated, .int v_p1_mouths, .int v_p1_speaks, .int v_p1_hears])), (a_p1_traits, .inl (cI, 35, .inl v_p1_traits)), (a_p1_hated, .inl (cI, 7, .inl v_p1_hated))] [(0, .ref a_this), (1, .ref a_p1), (2, .int x2), (3, .int x3)] 8 [] := by
  intro x2 x3 v_this_length v_this_bytes v_this_numbers v_p1_mouths v_p1_speaks v_p1_hears v_p1_traits v_p1_hated hf H locs ls hP hD hS hl
  obtain ⟨hx, hb, hr, hml, hown, hW, hlocks, hE, hA⟩ := id C
  unfold X3_readInto_b8 at hf
  refine lv_iload_n hx hb dX3_readInto_8 rfl (lv_at hl 3 rfl) ?_
  refine lv_sipush (v := 200) hx hb dX3_readInto_9 (by decide) ?_
  refine lv_icmp_ge (tgt := 48) hx hb dX3_readInto_12 (by decide) (fun hc => ?_) (fun hc => ?_)
  · have hf := gx_t hf hc
    refine lv_bipush (v := -4) hx hb dX3_readInto_48 (by decide) ?_
    cases hf
    exact gx_iret hx hb hr hlocks rfl hP hD hS dX3_readInto_50
  · have hf := gx_f hf hc
    refine lv_iload_n hx hb dX3_readInto_15 rfl (lv_at hl 2 rfl) ?_
    refine lv_aload_n hx hb dX3_readInto_16 rfl (lv_at hl 0 rfl) ?_
    refine va_get (D := D) (ci := 3) (v := .int v_this_length) (C := RX3) (T := TX3) (N := 3) hx hb hW in_X3 hown hE.1 hP 0 rfl rfl 2 (by decide) (hW _ tw_71) (fun _ h9 => h9) rfl dX3_readInto_17 ?_
    refine lv_icmp_ge (tgt := 48) hx hb dX3_readInto_20 (by decide) (fun hc => ?_) (fun hc => ?_)
    · have hf := gx_t hf hc
      refine lv_bipush (v := -4) hx hb dX3_readInto_48 (by decide) ?_
      cases hf
      exact gx_iret hx hb hr hlocks rfl hP hD hS dX3_readInto_50
    · have hf := gx_f hf hc
      refine lv_aload_n hx hb dX3_readInto_23 rfl (lv_at hl 0 rfl) ?_
      refine lv_iload_n hx hb dX3_readInto_24 rfl (lv_at hl 2 rfl) ?_
      refine lv_aload_n hx hb dX3_readInto_25 rfl (lv_at hl 1 rfl) ?_
      obtain ⟨r1, w2, w3, w4, w5, w6, w7, hg, hf⟩ := gx_bs7 hf
      refine gx_V (As := [.int x2, .ref a_p1]) (rest := []) (st1 := [.int r1]) (cells1 := 0) (slots1 := 0) (wc := [(a_this, .inr (3, [.ref a_this_bytes, .ref a_this_numbers, .int v_this_length])), (a_this_bytes, .inl (cI, 200, .inl v_this_bytes)), (a_this_numbers, .inl (cI, 5, .inl v_this_numbers)), (a_p1, .inr (0, [.ref a_p1_traits, .ref a_p1_hated, .int v_p1_mouths, .int v_p1_speaks, .int v_p1_hears])), (a_p1_traits, .inl (cI, 35, .inl v_p1_traits)), (a_p1_hated, .inl (cI, 7, .inl v_p1_hated))]) (wr := []) ⟨hx, hb, hml, hown, hW⟩ (X3_readItem_ok l D cI cJ cB cO tM tS a_this a_this_bytes a_this_numbers a_p1 a_p1_traits a_p1_hated v_this_length v_this_bytes v_this_numbers v_p1_mouths v_p1_speaks v_p1_hears v_p1_traits v_p1_hated x2 r1 w2 w3 w4 w5 w6 w7 hg) yk_X3_readItem tw_261 yv_X3_readItem ⟨rfl, rfl⟩ ⟨Nat.le_of_ble_eq_true rfl, Nat.le_of_ble_eq_true rfl⟩ hE hP hD hS hA [0, 1, 2, 3, 4, 5] [] rfl rfl (by decide +kernel) (by decide +kernel) rfl (by decide +kernel) (ci := 3) rfl rfl rfl hl.1 (Nat.le_of_ble_eq_true rfl) rfl rfl dX3_readInto_26 ⟨Nat.le_of_ble_eq_true rfl, Nat.le_of_ble_eq_true rfl⟩ ⟨rfl, rfl⟩ (fun w1 H locs hB hP hD hS => ?_)
      obtain rfl := hB
      have hP : va_P D gx_cl [(a_this, .inr (3, [.ref a_this_bytes, .ref a_this_numbers, .int v_this_length])), (a_this_bytes, .inl (cI, 200, .inl v_this_bytes)), (a_this_numbers, .inl (cI, 5, .inl w2)), (a_p1, .inr (0, [.ref a_p1_traits, .ref a_p1_hated, .int w3, .int w4, .int w5])), (a_p1_traits, .inl (cI, 35, .inl w6)), (a_p1_hated, .inl (cI, 7, .inl w7))] H := hP
      have hD : va_D A [(a_this, .inr (3, [.ref a_this_bytes, .ref a_this_numbers, .int v_this_length])), (a_this_bytes, .inl (cI, 200, .inl v_this_bytes)), (a_this_numbers, .inl (cI, 5, .inl w2)), (a_p1, .inr (0, [.ref a_p1_traits, .ref a_p1_hated, .int w3, .int w4, .int w5])), (a_p1_traits, .inl (cI, 35, .inl w6)), (a_p1_hated, .inl (cI, 7, .inl w7))] := hD
      refine lv_istore (lv' := [(4, .int r1), (0, .ref a_this), (1, .ref a_p1), (2, .int x2), (3, .int x3)]) hx hb dX3_readInto_29 hl (by decide) rfl (fun ls hl => ?_)
      refine lv_iload hx hb dX3_readInto_31 (lv_at hl 0 rfl) ?_
      refine lv_iconst (v := -1) hx hb dX3_readInto_33 (by decide) ?_
      refine lv_icmp_ne (tgt := 39) hx hb dX3_readInto_34 (by decide) (fun hc => ?_) (fun hc => ?_)
      · have hf := gx_f hf hc
        refine lv_iload hx hb dX3_readInto_39 (lv_at hl 0 rfl) ?_
        refine lv_istore_n (lv' := [(2, .int r1), (4, .int r1), (0, .ref a_this), (1, .ref a_p1), (3, .int x3)]) hx hb dX3_readInto_41 rfl hl (by decide) rfl (fun ls hl => ?_)
        refine lv_iinc (v := x3 + 1) (lv' := [(3, .int (x3 + 1)), (2, .int r1), (4, .int r1), (0, .ref a_this), (1, .ref a_p1)]) hx hb dX3_readInto_42 hl (k := 4) rfl rfl (by decide) rfl (fun ls hl => ?_)
        refine lv_goto (tgt := 8) hx hb dX3_readInto_45 (by decide) ?_
        exact K8 r1 (x3 + 1) v_this_length v_this_bytes w2 w3 w4 w5 w6 w7 hf H locs ls hP hD hS (lv_sub hl [3, 4, 1, 0] rfl)
      · have hf := gx_t hf hc
        refine lv_iload_n hx hb dX3_readInto_37 rfl (lv_at hl 3 rfl) ?_
        cases hf
        exact gx_iret hx hb hr hlocks rfl hP hD hS dX3_readInto_38
theorem X3_readInto_l8_ok {p : Program} {l : Launch} {e : Env} {s : State} {m : MethodId} {args : Array Value} {below : List Frame} {meth : Method} {c : Code} {D : va_G} {cI cJ cB cO : ClassId} {tM tS : Nat} {A : Nat → Prop} (C : gx_X p s m args meth c cX3_readInto 5 (some .int) RX3 D cI cJ cB cO tM tS A) (a_this a_this_bytes a_this_numbers a_p1 a_p1_traits a_p1_hated : Nat) (n_r : Int32) (n_this_numbers : Nat → Int32) (n_p1_mouths n_p1_speaks n_p1_hears : Int32) (n_p1_traits n_p1_hated : Nat → Int32)  : ∀ (n : Nat) (x2 x3 v_this_length : Int32) (v_this_bytes v_this_numbers : Nat → Int32) (v_p1_mouths v_p1_speaks v_p1_hears : Int32) (v_p1_traits v_p1_hated : Nat → Int32) , X3_readInto_l8 n x2 x3 v_this_length v_this_bytes v_this_numbers v_p1_mouths v_p1_speaks v_p1_hears v_p1_traits v_p1_hated = some (n_r, n_this_numbers, n_p1_mouths, n_p1_speaks, n_p1_hears, n_p1_traits, n_p1_hated) → gx_Wt p l e X3_readInto_rm s m args below meth c (MQ below (gx_Q D A (X3_readInto_B cI cJ cB cO a_this a_this_bytes a_this_numbers a_p1 a_p1_traits a_p1_hated v_this_length v_this_bytes n_this_numbers n_p1_mouths n_p1_speaks n_p1_hears n_p1_traits n_p1_hated) (some (.int n_r))) args s 0 0 A) D A 5 [(a_this, .inr (3, [.ref a_this_bytes, .ref a_this_numbers, .int v_this_length])), (a_this_bytes, .inl (cI, 200, .inl v_this_bytes)), (a_this_numbers, .inl (cI, 5, .inl v_this_numbers)), (a_p1, .inr (0, [.ref a_p1_traits, .ref a_p1_hated, .int v_p1_mouths, .int v_p1_speaks, .int v_p1_hears])), (a_p1_traits, .inl (cI, 35, .inl v_p1_traits)), (a_p1_hated, .inl (cI, 7, .inl v_p1_hated))] [(0, .ref a_this), (1, .ref a_p1), (2, .int x2), (3, .int x3)] 8 [] := by
  intro n
  induction n with
  | zero =>
    intro _ _ _ _ _ _ _ _ _ _ hf
    cases hf
  | succ n ih => exact fun x2 x3 v_this_length v_this_bytes v_this_numbers v_p1_mouths v_p1_speaks v_p1_hears v_p1_traits v_p1_hated hf => X3_readInto_b8_ok C a_this a_this_bytes a_this_numbers a_p1 a_p1_traits a_p1_hated n_r n_this_numbers n_p1_mouths n_p1_speaks n_p1_hears n_p1_traits n_p1_hated (X3_readInto_l8 n) ih x2 x3 v_this_length v_this_bytes v_this_numbers v_p1_mouths v_p1_speaks v_p1_hears v_p1_traits v_p1_hated hf
set_option maxHeartbeats 4000000 in
set_option maxRecDepth 100000 in
theorem X3_readInto_b0_ok {p : Program} {l : Launch} {e : Env} {s : State} {m : MethodId} {args : Array Value} {below : List Frame} {meth : Method} {c : Code} {D : va_G} {cI cJ cB cO : ClassId} {tM tS : Nat} {A : Nat → Prop} (C : gx_X p s m args meth c cX3_readInto 5 (some .int) RX3 D cI cJ cB cO tM tS A) (a_this a_this_bytes a_this_numbers a_p1 a_p1_traits a_p1_hated : Nat) (n_r : Int32) (n_this_numbers : Nat → Int32) (n_p1_mouths n_p1_speaks n_p1_hears : Int32) (n_p1_traits n_p1_hated : Nat → Int32)  : ∀ (v_this_length : Int32) (v_this_bytes v_this_numbers : Nat → Int32) (v_p1_mouths v_p1_speaks v_p1_hears : Int32) (v_p1_traits v_p1_hated : Nat → Int32) , X3_readInto v_this_length v_this_bytes v_this_numbers v_p1_mouths v_p1_speaks v_p1_hears v_p1_traits v_p1_hated = some (n_r, n_this_numbers, n_p1_mouths, n_p1_speaks, n_p1_hears, n_p1_traits, n_p1_hated) → gx_Wt p l e X3_readInto_rm s m args below meth c (MQ below (gx_Q D A (X3_readInto_B cI cJ cB cO a_this a_this_bytes a_this_numbers a_p1 a_p1_traits a_p1_hated v_this_length v_this_bytes n_this_numbers n_p1_mouths n_p1_speaks n_p1_hears n_p1_traits n_p1_hated) (some (.int n_r))) args s 0 0 A) D A 5 [(a_this, .inr (3, [.ref a_this_bytes, .ref a_this_numbers, .int v_this_length])), (a_this_bytes, .inl (cI, 200, .inl v_this_bytes)), (a_this_numbers, .inl (cI, 5, .inl v_this_numbers)), (a_p1, .inr (0, [.ref a_p1_traits, .ref a_p1_hated, .int v_p1_mouths, .int v_p1_speaks, .int v_p1_hears])), (a_p1_traits, .inl (cI, 35, .inl v_p1_traits)), (a_p1_hated, .inl (cI, 7, .inl v_p1_hated))] [(0, .ref a_this), (1, .ref a_p1)] 0 [] := by
  intro v_this_length v_this_bytes v_this_numbers v_p1_mouths v_p1_speaks v_p1_hears v_p1_traits v_p1_hated hf H locs ls hP hD hS hl
  obtain ⟨hx, hb, hr, hml, hown, hW, hlocks, hE, hA⟩ := id C
  unfold X3_readInto at hf
  refine lv_aload_n hx hb dX3_readInto_0 rfl (lv_at hl 1 rfl) ?_
  obtain ⟨w1, w2, w3, w4, hg, hf⟩ := gx_bs4 hf
  refine gx_V (As := []) (rest := []) (st1 := []) (cells1 := 0) (slots1 := 0) (wc := [(a_p1, .inr (0, [.ref a_p1_traits, .ref a_p1_hated, .int v_p1_mouths, .int v_p1_speaks, .int v_p1_hears])), (a_p1_hated, .inl (cI, 7, .inl v_p1_hated))]) (wr := [(a_this, .inr (3, [.ref a_this_bytes, .ref a_this_numbers, .int v_this_length])), (a_this_bytes, .inl (cI, 200, .inl v_this_bytes)), (a_this_numbers, .inl (cI, 5, .inl v_this_numbers)), (a_p1_traits, .inl (cI, 35, .inl v_p1_traits))]) ⟨hx, hb, hml, hown, hW⟩ (X0_clear_ok l D cI cJ cB cO tM tS a_p1 a_p1_traits a_p1_hated v_p1_mouths v_p1_speaks v_p1_hears v_p1_hated w1 w2 w3 w4 hg) yk_X0_clear tw_256 yv_X0_clear ⟨rfl, rfl⟩ ⟨Nat.le_of_ble_eq_true rfl, Nat.le_of_ble_eq_true rfl⟩ hE hP hD hS hA [3, 5] [0, 1, 2, 4] rfl rfl (by decide +kernel) (by decide +kernel) rfl (by decide +kernel) (ci := 0) rfl rfl rfl hl.1 (Nat.le_of_ble_eq_true rfl) rfl rfl dX3_readInto_1 ⟨Nat.le_of_ble_eq_true rfl, Nat.le_of_ble_eq_true rfl⟩ ⟨rfl, rfl⟩ (fun w1 H locs hB hP hD hS => ?_)
  obtain rfl := hB
  have hP : va_P D gx_cl [(a_this, .inr (3, [.ref a_this_bytes, .ref a_this_numbers, .int v_this_length])), (a_this_bytes, .inl (cI, 200, .inl v_this_bytes)), (a_this_numbers, .inl (cI, 5, .inl v_this_numbers)), (a_p1, .inr (0, [.ref a_p1_traits, .ref a_p1_hated, .int w1, .int w2, .int w3])), (a_p1_traits, .inl (cI, 35, .inl v_p1_traits)), (a_p1_hated, .inl (cI, 7, .inl w4))] H := hP.sub [0, 1, 2, 4, 3, 5] rfl
  have hD : va_D A [(a_this, .inr (3, [.ref a_this_bytes, .ref a_this_numbers, .int v_this_length])), (a_this_bytes, .inl (cI, 200, .inl v_this_bytes)), (a_this_numbers, .inl (cI, 5, .inl v_this_numbers)), (a_p1, .inr (0, [.ref a_p1_traits, .ref a_p1_hated, .int w1, .int w2, .int w3])), (a_p1_traits, .inl (cI, 35, .inl v_p1_traits)), (a_p1_hated, .inl (cI, 7, .inl w4))] := hD.sub [0, 1, 2, 4, 3, 5] (by decide +kernel) rfl
  refine lv_iconst (v := 0) hx hb dX3_readInto_4 (by decide) ?_
  refine lv_istore_n (lv' := [(2, .int (0 : Int32)), (0, .ref a_this), (1, .ref a_p1)]) hx hb dX3_readInto_5 rfl hl (by decide) rfl (fun ls hl => ?_)
  refine lv_iconst (v := 0) hx hb dX3_readInto_6 (by decide) ?_
  refine lv_istore_n (lv' := [(3, .int (0 : Int32)), (2, .int (0 : Int32)), (0, .ref a_this), (1, .ref a_p1)]) hx hb dX3_readInto_7 rfl hl (by decide) rfl (fun ls hl => ?_)
  exact X3_readInto_l8_ok C a_this a_this_bytes a_this_numbers a_p1 a_p1_traits a_p1_hated n_r n_this_numbers n_p1_mouths n_p1_speaks n_p1_hears n_p1_traits n_p1_hated gx_F (0 : Int32) (0 : Int32) v_this_length v_this_bytes v_this_numbers w1 w2 w3 v_p1_traits w4 hf H locs ls hP hD hS (lv_sub hl [2, 3, 1, 0] rfl)
theorem X3_readInto_ok (l : Launch) (D : va_G) (cI cJ cB cO : ClassId) (tM tS : Nat) (a_this a_this_bytes a_this_numbers a_p1 a_p1_traits a_p1_hated : Nat)  (v_this_length : Int32) (v_this_bytes v_this_numbers : Nat → Int32) (v_p1_mouths v_p1_speaks v_p1_hears : Int32) (v_p1_traits v_p1_hated : Nat → Int32) (n_r : Int32) (n_this_numbers : Nat → Int32) (n_p1_mouths n_p1_speaks n_p1_hears : Int32) (n_p1_traits n_p1_hated : Nat → Int32) (hf : X3_readInto v_this_length v_this_bytes v_this_numbers v_p1_mouths v_p1_speaks v_p1_hears v_p1_traits v_p1_hated = some (n_r, n_this_numbers, n_p1_mouths, n_p1_speaks, n_p1_hears, n_p1_traits, n_p1_hated)) : gx_M l yX3_readInto cX3_readInto 5 (some .int) X3_readInto_rm D cI cJ cB cO tM tS [.ref a_this, .ref a_p1] [(a_this, .inr (3, [.ref a_this_bytes, .ref a_this_numbers, .int v_this_length])), (a_this_bytes, .inl (cI, 200, .inl v_this_bytes)), (a_this_numbers, .inl (cI, 5, .inl v_this_numbers)), (a_p1, .inr (0, [.ref a_p1_traits, .ref a_p1_hated, .int v_p1_mouths, .int v_p1_speaks, .int v_p1_hears])), (a_p1_traits, .inl (cI, 35, .inl v_p1_traits)), (a_p1_hated, .inl (cI, 7, .inl v_p1_hated))] (X3_readInto_B cI cJ cB cO a_this a_this_bytes a_this_numbers a_p1 a_p1_traits a_p1_hated v_this_length v_this_bytes n_this_numbers n_p1_mouths n_p1_speaks n_p1_hears n_p1_traits n_p1_hated) (some (.int n_r)) 0 0 := by
  refine gx_of (by decide) (Nat.le_of_ble_eq_true rfl) ?_
  intro p e s m args below meth c ls A C hP hD hl _
  have hl : lv_has ls 5 [(0, .ref a_this), (1, .ref a_p1)] := hl
  exact X3_readInto_b0_ok C a_this a_this_bytes a_this_numbers a_p1 a_p1_traits a_p1_hated n_r n_this_numbers n_p1_mouths n_p1_speaks n_p1_hears n_p1_traits n_p1_hated v_this_length v_this_bytes v_this_numbers v_p1_mouths v_p1_speaks v_p1_hears v_p1_traits v_p1_hated hf s.heap [] ls hP hD va_S.rf hl
def X4_isBetter_B (cI cJ cB cO : ClassId) (a_this a_this_levels a_this_row a_this_rows a_this_lengths : Nat) (v_this_limit : Int32) (v_this_most : Int64) (v_this_lengths : Nat → Int32) : va_W → Prop := fun w1 => w1 = [(a_this, .inr (4, [.ref a_this_levels, .ref a_this_row, .ref a_this_rows, .ref a_this_lengths, .int v_this_limit, .long v_this_most])), (a_this_lengths, .inl (cI, 8, .inl v_this_lengths))]
abbrev X4_isBetter_rm : Room := { frames := 0, cells := 0, slots := 0, locals := 0 }
set_option maxHeartbeats 4000000 in
set_option maxRecDepth 100000 in
theorem X4_isBetter_b0_ok {p : Program} {l : Launch} {e : Env} {s : State} {m : MethodId} {args : Array Value} {below : List Frame} {meth : Method} {c : Code} {D : va_G} {cI cJ cB cO : ClassId} {tM tS : Nat} {A : Nat → Prop} (C : gx_X p s m args meth c cX4_isBetter 4 (some .boolean) RX4 D cI cJ cB cO tM tS A) (a_this a_this_levels a_this_row a_this_rows a_this_lengths : Nat) (n_r : Int32)  : ∀ (x1 : Int64) (x3 v_this_limit : Int32) (v_this_most : Int64) (v_this_lengths : Nat → Int32) , X4_isBetter x1 x3 v_this_limit v_this_most v_this_lengths = some n_r → gx_Wt p l e X4_isBetter_rm s m args below meth c (MQ below (gx_Q D A (X4_isBetter_B cI cJ cB cO a_this a_this_levels a_this_row a_this_rows a_this_lengths v_this_limit v_this_most v_this_lengths) (some (.int n_r))) args s 0 0 A) D A 4 [(a_this, .inr (4, [.ref a_this_levels, .ref a_this_row, .ref a_this_rows, .ref a_this_lengths, .int v_this_limit, .long v_this_most])), (a_this_lengths, .inl (cI, 8, .inl v_this_lengths))] [(0, .ref a_this), (1, .long x1), (3, .int x3)] 0 [] := by
  intro x1 x3 v_this_limit v_this_most v_this_lengths hf H locs ls hP hD hS hl
  obtain ⟨hx, hb, hr, hml, hown, hW, hlocks, hE, hA⟩ := id C
  unfold X4_isBetter at hf
  refine lv_lload_n hx hb dX4_isBetter_0 rfl (lv_at hl 1 rfl) ?_
  refine lv_aload_n hx hb dX4_isBetter_1 rfl (lv_at hl 0 rfl) ?_
  refine va_get (D := D) (ci := 4) (v := .long v_this_most) (C := RX4) (T := TX4) (N := 6) hx hb hW in_X4 hown hE.1 hP 0 rfl rfl 5 (by decide) (hW _ tw_154) (fun _ h9 => h9) rfl dX4_isBetter_2 ?_
  refine W.lcmp hx hb dX4_isBetter_5 ?_
  refine lv_if_gt (tgt := 31) hx hb dX4_isBetter_6 (by decide) (fun hc => ?_) (fun hc => ?_)
  · have hf := gx_t hf hc
    refine lv_iconst (v := 1) hx hb dX4_isBetter_31 (by decide) ?_
    refine lv_goto (tgt := 36) hx hb dX4_isBetter_32 (by decide) ?_
    cases hf
    exact gx_zret hx hb hr hlocks (by decide) rfl hP hD hS dX4_isBetter_36
  · have hf := gx_f hf hc
    refine lv_lload_n hx hb dX4_isBetter_9 rfl (lv_at hl 1 rfl) ?_
    refine lv_aload_n hx hb dX4_isBetter_10 rfl (lv_at hl 0 rfl) ?_
    refine va_get (D := D) (ci := 4) (v := .long v_this_most) (C := RX4) (T := TX4) (N := 6) hx hb hW in_X4 hown hE.1 hP 0 rfl rfl 5 (by decide) (hW _ tw_154) (fun _ h9 => h9) rfl dX4_isBetter_11 ?_
    refine W.lcmp hx hb dX4_isBetter_14 ?_
    refine lv_if_ne (tgt := 35) hx hb dX4_isBetter_15 (by decide) (fun hc => ?_) (fun hc => ?_)
    · have hf := gx_f hf hc
      refine lv_iconst (v := 0) hx hb dX4_isBetter_35 (by decide) ?_
      cases hf
      exact gx_zret hx hb hr hlocks (by decide) rfl hP hD hS dX4_isBetter_36
    · have hf := gx_t hf hc
      refine lv_iload_n hx hb dX4_isBetter_18 rfl (lv_at hl 2 rfl) ?_
      refine lv_aload_n hx hb dX4_isBetter_19 rfl (lv_at hl 0 rfl) ?_
      refine va_get (D := D) (ci := 4) (v := .ref a_this_lengths) (C := RX4) (T := TX4) (N := 6) hx hb hW in_X4 hown hE.1 hP 0 rfl rfl 3 (by decide) (hW _ tw_152) (fun _ h9 => h9) rfl dX4_isBetter_20 ?_
      refine lv_aload_n hx hb dX4_isBetter_23 rfl (lv_at hl 0 rfl) ?_
      refine va_get (D := D) (ci := 4) (v := .int v_this_limit) (C := RX4) (T := TX4) (N := 6) hx hb hW in_X4 hown hE.1 hP 0 rfl rfl 4 (by decide) (hW _ tw_153) (fun _ h9 => h9) rfl dX4_isBetter_24 ?_
      obtain ⟨h1, hf⟩ := gx_ite hf
      refine va_iald hx hb hE.1 hP 1 0 rfl rfl h1 dX4_isBetter_27 ?_
      refine lv_icmp_ge (tgt := 35) hx hb dX4_isBetter_28 (by decide) (fun hc => ?_) (fun hc => ?_)
      · have hf := gx_t hf hc
        refine lv_iconst (v := 0) hx hb dX4_isBetter_35 (by decide) ?_
        cases hf
        exact gx_zret hx hb hr hlocks (by decide) rfl hP hD hS dX4_isBetter_36
      · have hf := gx_f hf hc
        refine lv_iconst (v := 1) hx hb dX4_isBetter_31 (by decide) ?_
        refine lv_goto (tgt := 36) hx hb dX4_isBetter_32 (by decide) ?_
        cases hf
        exact gx_zret hx hb hr hlocks (by decide) rfl hP hD hS dX4_isBetter_36
theorem X4_isBetter_ok (l : Launch) (D : va_G) (cI cJ cB cO : ClassId) (tM tS : Nat) (a_this a_this_levels a_this_row a_this_rows a_this_lengths : Nat)  (v_this_limit : Int32) (v_this_most : Int64) (v_this_lengths : Nat → Int32) (x1 : Int64) (x3 n_r : Int32) (hf : X4_isBetter x1 x3 v_this_limit v_this_most v_this_lengths = some n_r) : gx_M l yX4_isBetter cX4_isBetter 4 (some .boolean) X4_isBetter_rm D cI cJ cB cO tM tS [.ref a_this, .long x1, .int x3] [(a_this, .inr (4, [.ref a_this_levels, .ref a_this_row, .ref a_this_rows, .ref a_this_lengths, .int v_this_limit, .long v_this_most])), (a_this_lengths, .inl (cI, 8, .inl v_this_lengths))] (X4_isBetter_B cI cJ cB cO a_this a_this_levels a_this_row a_this_rows a_this_lengths v_this_limit v_this_most v_this_lengths) (some (.int n_r)) 0 0 := by
  refine gx_of (by decide) (Nat.le_of_ble_eq_true rfl) ?_
  intro p e s m args below meth c ls A C hP hD hl _
  have hl : lv_has ls 4 [(0, .ref a_this), (1, .long x1), (3, .int x3)] := hl
  exact X4_isBetter_b0_ok C a_this a_this_levels a_this_row a_this_rows a_this_lengths n_r x1 x3 v_this_limit v_this_most v_this_lengths hf s.heap [] ls hP hD va_S.rf hl
