def X0_has_B (cI cJ cB cO : ClassId) (a_this a_this_traits a_this_hated : Nat) (v_this_mouths v_this_speaks v_this_hears : Int32) : va_W → Prop := fun w1 => w1 = [(a_this, .inr (0, [.ref a_this_traits, .ref a_this_hated, .int v_this_mouths, .int v_this_speaks, .int v_this_hears]))]
abbrev X0_has_rm : Room := { frames := 0, cells := 0, slots := 0, locals := 0 }
set_option maxHeartbeats 4000000 in
set_option maxRecDepth 100000 in
theorem X0_has_b0_ok {p : Program} {l : Launch} {e : Env} {s : State} {m : MethodId} {args : Array Value} {below : List Frame} {meth : Method} {c : Code} {D : va_G} {cI cJ cB cO : ClassId} {tM tS : Nat} {A : Nat → Prop} (C : gx_X p s m args meth c cX0_has 2 (some .boolean) RX0 D cI cJ cB cO tM tS A) (a_this a_this_traits a_this_hated : Nat) (v_this_speaks v_this_hears : Int32) (n_r : Int32)  : ∀ (x1 v_this_mouths : Int32) , X0_has x1 v_this_mouths = some n_r → gx_Wt p l e X0_has_rm s m args below meth c (MQ below (gx_Q D A (X0_has_B cI cJ cB cO a_this a_this_traits a_this_hated v_this_mouths v_this_speaks v_this_hears) (some (.int n_r))) args s 0 0 A) D A 2 [(a_this, .inr (0, [.ref a_this_traits, .ref a_this_hated, .int v_this_mouths, .int v_this_speaks, .int v_this_hears]))] [(0, .ref a_this), (1, .int x1)] 0 [] := by
  intro x1 v_this_mouths hf H locs ls hP hD hS hl
  obtain ⟨hx, hb, hr, hml, hown, hW, hlocks, hE, hA⟩ := id C
  unfold X0_has at hf
  refine lv_iload_n hx hb dX0_has_0 rfl (lv_at hl 1 rfl) ?_
  refine lv_if_lt (tgt := 22) hx hb dX0_has_1 (by decide) (fun hc => ?_) (fun hc => ?_)
  · have hf := gx_t hf hc
    refine lv_iconst (v := 0) hx hb dX0_has_22 (by decide) ?_
    cases hf
    exact gx_zret hx hb hr hlocks (by decide) rfl hP hD hS dX0_has_23
  · have hf := gx_f hf hc
    refine lv_iload_n hx hb dX0_has_4 rfl (lv_at hl 1 rfl) ?_
    refine lv_aload_n hx hb dX0_has_5 rfl (lv_at hl 0 rfl) ?_
    refine va_get (D := D) (ci := 0) (v := .int v_this_mouths) (C := RX0) (T := TX0) (N := 5) hx hb hW in_X0 hown hE.1 hP 0 rfl rfl 2 (by decide) (hW _ tw_176) (fun _ h9 => h9) rfl dX0_has_6 ?_
    refine lv_icmp_ge (tgt := 22) hx hb dX0_has_9 (by decide) (fun hc => ?_) (fun hc => ?_)
    · have hf := gx_t hf hc
      refine lv_iconst (v := 0) hx hb dX0_has_22 (by decide) ?_
      cases hf
      exact gx_zret hx hb hr hlocks (by decide) rfl hP hD hS dX0_has_23
    · have hf := gx_f hf hc
      refine lv_iload_n hx hb dX0_has_12 rfl (lv_at hl 1 rfl) ?_
      refine lv_bipush (v := 7) hx hb dX0_has_13 (by decide) ?_
      refine lv_icmp_ge (tgt := 22) hx hb dX0_has_15 (by decide) (fun hc => ?_) (fun hc => ?_)
      · have hf := gx_t hf hc
        refine lv_iconst (v := 0) hx hb dX0_has_22 (by decide) ?_
        cases hf
        exact gx_zret hx hb hr hlocks (by decide) rfl hP hD hS dX0_has_23
      · have hf := gx_f hf hc
        refine lv_iconst (v := 1) hx hb dX0_has_18 (by decide) ?_
        refine lv_goto (tgt := 23) hx hb dX0_has_19 (by decide) ?_
        cases hf
        exact gx_zret hx hb hr hlocks (by decide) rfl hP hD hS dX0_has_23
theorem X0_has_ok (l : Launch) (D : va_G) (cI cJ cB cO : ClassId) (tM tS : Nat) (a_this a_this_traits a_this_hated : Nat)  (v_this_mouths v_this_speaks v_this_hears x1 n_r : Int32) (hf : X0_has x1 v_this_mouths = some n_r) : gx_M l yX0_has cX0_has 2 (some .boolean) X0_has_rm D cI cJ cB cO tM tS [.ref a_this, .int x1] [(a_this, .inr (0, [.ref a_this_traits, .ref a_this_hated, .int v_this_mouths, .int v_this_speaks, .int v_this_hears]))] (X0_has_B cI cJ cB cO a_this a_this_traits a_this_hated v_this_mouths v_this_speaks v_this_hears) (some (.int n_r)) 0 0 := by
  refine gx_of (by decide) (Nat.le_of_ble_eq_true rfl) ?_
  intro p e s m args below meth c ls A C hP hD hl _
  have hl : lv_has ls 2 [(0, .ref a_this), (1, .int x1)] := hl
  exact X0_has_b0_ok C a_this a_this_traits a_this_hated v_this_speaks v_this_hears n_r x1 v_this_mouths hf s.heap [] ls hP hD va_S.rf hl
def X0_trait_B (cI cJ cB cO : ClassId) (a_this a_this_traits a_this_hated : Nat) (v_this_mouths v_this_speaks v_this_hears : Int32) (v_this_traits : Nat → Int32) : va_W → Prop := fun w1 => w1 = [(a_this, .inr (0, [.ref a_this_traits, .ref a_this_hated, .int v_this_mouths, .int v_this_speaks, .int v_this_hears])), (a_this_traits, .inl (cI, 35, .inl v_this_traits))]
abbrev X0_trait_rm : Room := { frames := 1, cells := 0, slots := 0, locals := 21 }
set_option maxHeartbeats 4000000 in
set_option maxRecDepth 100000 in
theorem X0_trait_b0_ok {p : Program} {l : Launch} {e : Env} {s : State} {m : MethodId} {args : Array Value} {below : List Frame} {meth : Method} {c : Code} {D : va_G} {cI cJ cB cO : ClassId} {tM tS : Nat} {A : Nat → Prop} (C : gx_X p s m args meth c cX0_trait 3 (some .int) RX0 D cI cJ cB cO tM tS A) (a_this a_this_traits a_this_hated : Nat) (v_this_speaks v_this_hears : Int32) (n_r : Int32)  : ∀ (x1 x2 v_this_mouths : Int32) (v_this_traits : Nat → Int32) , X0_trait x1 x2 v_this_mouths v_this_traits = some n_r → gx_Wt p l e X0_trait_rm s m args below meth c (MQ below (gx_Q D A (X0_trait_B cI cJ cB cO a_this a_this_traits a_this_hated v_this_mouths v_this_speaks v_this_hears v_this_traits) (some (.int n_r))) args s 0 0 A) D A 3 [(a_this, .inr (0, [.ref a_this_traits, .ref a_this_hated, .int v_this_mouths, .int v_this_speaks, .int v_this_hears])), (a_this_traits, .inl (cI, 35, .inl v_this_traits))] [(0, .ref a_this), (1, .int x1), (2, .int x2)] 0 [] := by
  intro x1 x2 v_this_mouths v_this_traits hf H locs ls hP hD hS hl
  obtain ⟨hx, hb, hr, hml, hown, hW, hlocks, hE, hA⟩ := id C
  unfold X0_trait at hf
  refine lv_aload_n hx hb dX0_trait_0 rfl (lv_at hl 0 rfl) ?_
  refine lv_iload_n hx hb dX0_trait_1 rfl (lv_at hl 1 rfl) ?_
  obtain ⟨r1, hg, hf⟩ := gx_bs hf
  refine gx_V (As := [.int x1]) (rest := []) (st1 := [.int r1]) (cells1 := 0) (slots1 := 0) (wc := [(a_this, .inr (0, [.ref a_this_traits, .ref a_this_hated, .int v_this_mouths, .int v_this_speaks, .int v_this_hears]))]) (wr := [(a_this_traits, .inl (cI, 35, .inl v_this_traits))]) ⟨hx, hb, hml, hown, hW⟩ (X0_has_ok l D cI cJ cB cO tM tS a_this a_this_traits a_this_hated v_this_mouths v_this_speaks v_this_hears x1 r1 hg) yk_X0_has tw_297 yv_X0_has ⟨rfl, rfl⟩ ⟨Nat.le_of_ble_eq_true rfl, Nat.le_of_ble_eq_true rfl⟩ hE hP hD hS hA [0] [1] rfl rfl (by decide) (by decide) rfl (by decide) (ci := 0) rfl rfl rfl hl.1 (Nat.le_of_ble_eq_true rfl) rfl rfl dX0_trait_2 ⟨Nat.le_of_ble_eq_true rfl, Nat.le_of_ble_eq_true rfl⟩ ⟨rfl, rfl⟩ (fun w1 H locs hB hP hD hS => ?_)
  obtain rfl := hB
  have hP : va_P D gx_cl [(a_this, .inr (0, [.ref a_this_traits, .ref a_this_hated, .int v_this_mouths, .int v_this_speaks, .int v_this_hears])), (a_this_traits, .inl (cI, 35, .inl v_this_traits))] H := hP.sub [1, 0] rfl
  have hD : va_D A [(a_this, .inr (0, [.ref a_this_traits, .ref a_this_hated, .int v_this_mouths, .int v_this_speaks, .int v_this_hears])), (a_this_traits, .inl (cI, 35, .inl v_this_traits))] := hD.sub [1, 0] (by decide) rfl
  refine lv_if_eq (tgt := 17) hx hb dX0_trait_5 (by decide) (fun hc => ?_) (fun hc => ?_)
  · have hf := gx_t hf hc
    refine lv_iconst (v := -1) hx hb dX0_trait_17 (by decide) ?_
    cases hf
    exact gx_iret hx hb hr hlocks rfl hP hD hS dX0_trait_18
  · have hf := gx_f hf hc
    refine lv_iload_n hx hb dX0_trait_8 rfl (lv_at hl 2 rfl) ?_
    refine lv_if_lt (tgt := 17) hx hb dX0_trait_9 (by decide) (fun hc => ?_) (fun hc => ?_)
    · have hf := gx_t hf hc
      refine lv_iconst (v := -1) hx hb dX0_trait_17 (by decide) ?_
      cases hf
      exact gx_iret hx hb hr hlocks rfl hP hD hS dX0_trait_18
    · have hf := gx_f hf hc
      refine lv_iload_n hx hb dX0_trait_12 rfl (lv_at hl 2 rfl) ?_
      refine lv_iconst (v := 5) hx hb dX0_trait_13 (by decide) ?_
      refine lv_icmp_lt (tgt := 19) hx hb dX0_trait_14 (by decide) (fun hc => ?_) (fun hc => ?_)
      · have hf := gx_t hf hc
        refine lv_aload_n hx hb dX0_trait_19 rfl (lv_at hl 0 rfl) ?_
        refine va_get (D := D) (ci := 0) (v := .ref a_this_traits) (C := RX0) (T := TX0) (N := 5) hx hb hW in_X0 hown hE.1 hP 0 rfl rfl 0 (by decide) (hW _ tw_174) (fun _ h9 => h9) rfl dX0_trait_20 ?_
        refine lv_iload_n hx hb dX0_trait_23 rfl (lv_at hl 1 rfl) ?_
        refine lv_iconst (v := 5) hx hb dX0_trait_24 (by decide) ?_
        refine lv_imul hx hb dX0_trait_25 ?_
        refine lv_iload_n hx hb dX0_trait_26 rfl (lv_at hl 2 rfl) ?_
        refine lv_iadd hx hb dX0_trait_27 ?_
        obtain ⟨h2, hf⟩ := gx_ite hf
        refine va_iald hx hb hE.1 hP 1 0 rfl rfl h2 dX0_trait_28 ?_
        cases hf
        exact gx_iret hx hb hr hlocks rfl hP hD hS dX0_trait_29
      · have hf := gx_f hf hc
        refine lv_iconst (v := -1) hx hb dX0_trait_17 (by decide) ?_
        cases hf
        exact gx_iret hx hb hr hlocks rfl hP hD hS dX0_trait_18
theorem X0_trait_ok (l : Launch) (D : va_G) (cI cJ cB cO : ClassId) (tM tS : Nat) (a_this a_this_traits a_this_hated : Nat)  (v_this_mouths v_this_speaks v_this_hears : Int32) (v_this_traits : Nat → Int32) (x1 x2 n_r : Int32) (hf : X0_trait x1 x2 v_this_mouths v_this_traits = some n_r) : gx_M l yX0_trait cX0_trait 3 (some .int) X0_trait_rm D cI cJ cB cO tM tS [.ref a_this, .int x1, .int x2] [(a_this, .inr (0, [.ref a_this_traits, .ref a_this_hated, .int v_this_mouths, .int v_this_speaks, .int v_this_hears])), (a_this_traits, .inl (cI, 35, .inl v_this_traits))] (X0_trait_B cI cJ cB cO a_this a_this_traits a_this_hated v_this_mouths v_this_speaks v_this_hears v_this_traits) (some (.int n_r)) 0 0 := by
  refine gx_of (by decide) (Nat.le_of_ble_eq_true rfl) ?_
  intro p e s m args below meth c ls A C hP hD hl _
  have hl : lv_has ls 3 [(0, .ref a_this), (1, .int x1), (2, .int x2)] := hl
  exact X0_trait_b0_ok C a_this a_this_traits a_this_hated v_this_speaks v_this_hears n_r x1 x2 v_this_mouths v_this_traits hf s.heap [] ls hP hD va_S.rf hl
def X1_holds_B (cI cJ cB cO : ClassId) (a_this a_this_seats a_this_words : Nat) (v_this_seated v_this_spoken : Int32) (v_this_seats : Nat → Int32) : va_W → Prop := fun w1 => w1 = [(a_this, .inr (1, [.ref a_this_seats, .ref a_this_words, .int v_this_seated, .int v_this_spoken])), (a_this_seats, .inl (cI, 7, .inl v_this_seats))]
abbrev X1_holds_rm : Room := { frames := 0, cells := 0, slots := 0, locals := 0 }
set_option maxHeartbeats 4000000 in
set_option maxRecDepth 100000 in
theorem X1_holds_b2_ok {p : Program} {l : Launch} {e : Env} {s : State} {m : MethodId} {args : Array Value} {below : List Frame} {meth : Method} {c : Code} {D : va_G} {cI cJ cB cO : ClassId} {tM tS : Nat} {A : Nat → Prop} (C : gx_X p s m args meth c cX1_holds 3 (some .boolean) RX1 D cI cJ cB cO tM tS A) (a_this a_this_seats a_this_words : Nat) (v_this_spoken : Int32) (n_r : Int32) (k2 : Int32 → Int32 → Int32 → (Nat → Int32) → Option (Int32)) (K2 : ∀ (x1 x2 v_this_seated : Int32) (v_this_seats : Nat → Int32) , k2 x1 x2 v_this_seated v_this_seats = some n_r → gx_Wt p l e X1_holds_rm s m args below meth c (MQ below (gx_Q D A (X1_holds_B cI cJ cB cO a_this a_this_seats a_this_words v_this_seated v_this_spoken v_this_seats) (some (.int n_r))) args s 0 0 A) D A 3 [(a_this, .inr (1, [.ref a_this_seats, .ref a_this_words, .int v_this_seated, .int v_this_spoken])), (a_this_seats, .inl (cI, 7, .inl v_this_seats))] [(0, .ref a_this), (1, .int x1), (2, .int x2)] 2 []) : ∀ (x1 x2 v_this_seated : Int32) (v_this_seats : Nat → Int32) , X1_holds_b2 k2 x1 x2 v_this_seated v_this_seats = some n_r → gx_Wt p l e X1_holds_rm s m args below meth c (MQ below (gx_Q D A (X1_holds_B cI cJ cB cO a_this a_this_seats a_this_words v_this_seated v_this_spoken v_this_seats) (some (.int n_r))) args s 0 0 A) D A 3 [(a_this, .inr (1, [.ref a_this_seats, .ref a_this_words, .int v_this_seated, .int v_this_spoken])), (a_this_seats, .inl (cI, 7, .inl v_this_seats))] [(0, .ref a_this), (1, .int x1), (2, .int x2)] 2 [] := by
  intro x1 x2 v_this_seated v_this_seats hf H locs ls hP hD hS hl
  obtain ⟨hx, hb, hr, hml, hown, hW, hlocks, hE, hA⟩ := id C
  unfold X1_holds_b2 at hf
  refine lv_iload_n hx hb dX1_holds_2 rfl (lv_at hl 2 rfl) ?_
  refine lv_aload_n hx hb dX1_holds_3 rfl (lv_at hl 0 rfl) ?_
  refine va_get (D := D) (ci := 1) (v := .int v_this_seated) (C := RX1) (T := TX1) (N := 4) hx hb hW in_X1 hown hE.1 hP 0 rfl rfl 2 (by decide) (hW _ tw_88) (fun _ h9 => h9) rfl dX1_holds_4 ?_
  refine lv_icmp_ge (tgt := 34) hx hb dX1_holds_7 (by decide) (fun hc => ?_) (fun hc => ?_)
  · have hf := gx_t hf hc
    refine lv_iconst (v := 0) hx hb dX1_holds_34 (by decide) ?_
    cases hf
    exact gx_zret hx hb hr hlocks (by decide) rfl hP hD hS dX1_holds_35
  · have hf := gx_f hf hc
    refine lv_iload_n hx hb dX1_holds_10 rfl (lv_at hl 2 rfl) ?_
    refine lv_bipush (v := 7) hx hb dX1_holds_11 (by decide) ?_
    refine lv_icmp_ge (tgt := 34) hx hb dX1_holds_13 (by decide) (fun hc => ?_) (fun hc => ?_)
    · have hf := gx_t hf hc
      refine lv_iconst (v := 0) hx hb dX1_holds_34 (by decide) ?_
      cases hf
      exact gx_zret hx hb hr hlocks (by decide) rfl hP hD hS dX1_holds_35
    · have hf := gx_f hf hc
      refine lv_aload_n hx hb dX1_holds_16 rfl (lv_at hl 0 rfl) ?_
      refine va_get (D := D) (ci := 1) (v := .ref a_this_seats) (C := RX1) (T := TX1) (N := 4) hx hb hW in_X1 hown hE.1 hP 0 rfl rfl 0 (by decide) (hW _ tw_86) (fun _ h9 => h9) rfl dX1_holds_17 ?_
      refine lv_iload_n hx hb dX1_holds_20 rfl (lv_at hl 2 rfl) ?_
      obtain ⟨h1, hf⟩ := gx_ite hf
      refine va_iald hx hb hE.1 hP 1 0 rfl rfl h1 dX1_holds_21 ?_
      refine lv_iload_n hx hb dX1_holds_22 rfl (lv_at hl 1 rfl) ?_
      refine lv_icmp_ne (tgt := 28) hx hb dX1_holds_23 (by decide) (fun hc => ?_) (fun hc => ?_)
      · have hf := gx_f hf hc
        refine lv_iinc (v := x2 + 1) (lv' := [(2, .int (x2 + 1)), (0, .ref a_this), (1, .int x1)]) hx hb dX1_holds_28 hl (k := 2) rfl rfl (by decide) rfl (fun ls hl => ?_)
        refine lv_goto (tgt := 2) hx hb dX1_holds_31 (by decide) ?_
        exact K2 x1 (x2 + 1) v_this_seated v_this_seats hf H locs ls hP hD hS (lv_sub hl [1, 2, 0] rfl)
      · have hf := gx_t hf hc
        refine lv_iconst (v := 1) hx hb dX1_holds_26 (by decide) ?_
        cases hf
        exact gx_zret hx hb hr hlocks (by decide) rfl hP hD hS dX1_holds_27
theorem X1_holds_l2_ok {p : Program} {l : Launch} {e : Env} {s : State} {m : MethodId} {args : Array Value} {below : List Frame} {meth : Method} {c : Code} {D : va_G} {cI cJ cB cO : ClassId} {tM tS : Nat} {A : Nat → Prop} (C : gx_X p s m args meth c cX1_holds 3 (some .boolean) RX1 D cI cJ cB cO tM tS A) (a_this a_this_seats a_this_words : Nat) (v_this_spoken : Int32) (n_r : Int32)  : ∀ (n : Nat) (x1 x2 v_this_seated : Int32) (v_this_seats : Nat → Int32) , X1_holds_l2 n x1 x2 v_this_seated v_this_seats = some n_r → gx_Wt p l e X1_holds_rm s m args below meth c (MQ below (gx_Q D A (X1_holds_B cI cJ cB cO a_this a_this_seats a_this_words v_this_seated v_this_spoken v_this_seats) (some (.int n_r))) args s 0 0 A) D A 3 [(a_this, .inr (1, [.ref a_this_seats, .ref a_this_words, .int v_this_seated, .int v_this_spoken])), (a_this_seats, .inl (cI, 7, .inl v_this_seats))] [(0, .ref a_this), (1, .int x1), (2, .int x2)] 2 [] := by
  intro n
  induction n with
  | zero =>
    intro _ _ _ _ hf
    cases hf
  | succ n ih => exact fun x1 x2 v_this_seated v_this_seats hf => X1_holds_b2_ok C a_this a_this_seats a_this_words v_this_spoken n_r (X1_holds_l2 n) ih x1 x2 v_this_seated v_this_seats hf
set_option maxHeartbeats 4000000 in
set_option maxRecDepth 100000 in
theorem X1_holds_b0_ok {p : Program} {l : Launch} {e : Env} {s : State} {m : MethodId} {args : Array Value} {below : List Frame} {meth : Method} {c : Code} {D : va_G} {cI cJ cB cO : ClassId} {tM tS : Nat} {A : Nat → Prop} (C : gx_X p s m args meth c cX1_holds 3 (some .boolean) RX1 D cI cJ cB cO tM tS A) (a_this a_this_seats a_this_words : Nat) (v_this_spoken : Int32) (n_r : Int32)  : ∀ (x1 v_this_seated : Int32) (v_this_seats : Nat → Int32) , X1_holds x1 v_this_seated v_this_seats = some n_r → gx_Wt p l e X1_holds_rm s m args below meth c (MQ below (gx_Q D A (X1_holds_B cI cJ cB cO a_this a_this_seats a_this_words v_this_seated v_this_spoken v_this_seats) (some (.int n_r))) args s 0 0 A) D A 3 [(a_this, .inr (1, [.ref a_this_seats, .ref a_this_words, .int v_this_seated, .int v_this_spoken])), (a_this_seats, .inl (cI, 7, .inl v_this_seats))] [(0, .ref a_this), (1, .int x1)] 0 [] := by
  intro x1 v_this_seated v_this_seats hf H locs ls hP hD hS hl
  obtain ⟨hx, hb, hr, hml, hown, hW, hlocks, hE, hA⟩ := id C
  unfold X1_holds at hf
  refine lv_iconst (v := 0) hx hb dX1_holds_0 (by decide) ?_
  refine lv_istore_n (lv' := [(2, .int (0 : Int32)), (0, .ref a_this), (1, .int x1)]) hx hb dX1_holds_1 rfl hl (by decide) rfl (fun ls hl => ?_)
  exact X1_holds_l2_ok C a_this a_this_seats a_this_words v_this_spoken n_r gx_F x1 (0 : Int32) v_this_seated v_this_seats hf H locs ls hP hD hS (lv_sub hl [1, 2, 0] rfl)
theorem X1_holds_ok (l : Launch) (D : va_G) (cI cJ cB cO : ClassId) (tM tS : Nat) (a_this a_this_seats a_this_words : Nat)  (v_this_seated v_this_spoken : Int32) (v_this_seats : Nat → Int32) (x1 n_r : Int32) (hf : X1_holds x1 v_this_seated v_this_seats = some n_r) : gx_M l yX1_holds cX1_holds 3 (some .boolean) X1_holds_rm D cI cJ cB cO tM tS [.ref a_this, .int x1] [(a_this, .inr (1, [.ref a_this_seats, .ref a_this_words, .int v_this_seated, .int v_this_spoken])), (a_this_seats, .inl (cI, 7, .inl v_this_seats))] (X1_holds_B cI cJ cB cO a_this a_this_seats a_this_words v_this_seated v_this_spoken v_this_seats) (some (.int n_r)) 0 0 := by
  refine gx_of (by decide) (Nat.le_of_ble_eq_true rfl) ?_
  intro p e s m args below meth c ls A C hP hD hl _
  have hl : lv_has ls 3 [(0, .ref a_this), (1, .int x1)] := hl
  exact X1_holds_b0_ok C a_this a_this_seats a_this_words v_this_spoken n_r x1 v_this_seated v_this_seats hf s.heap [] ls hP hD va_S.rf hl
def X1_seatAt_B (cI cJ cB cO : ClassId) (a_this a_this_seats a_this_words : Nat) (v_this_seated v_this_spoken : Int32) (v_this_seats : Nat → Int32) : va_W → Prop := fun w1 => w1 = [(a_this, .inr (1, [.ref a_this_seats, .ref a_this_words, .int v_this_seated, .int v_this_spoken])), (a_this_seats, .inl (cI, 7, .inl v_this_seats))]
abbrev X1_seatAt_rm : Room := { frames := 0, cells := 0, slots := 0, locals := 0 }
set_option maxHeartbeats 4000000 in
set_option maxRecDepth 100000 in
theorem X1_seatAt_b0_ok {p : Program} {l : Launch} {e : Env} {s : State} {m : MethodId} {args : Array Value} {below : List Frame} {meth : Method} {c : Code} {D : va_G} {cI cJ cB cO : ClassId} {tM tS : Nat} {A : Nat → Prop} (C : gx_X p s m args meth c cX1_seatAt 2 (some .int) RX1 D cI cJ cB cO tM tS A) (a_this a_this_seats a_this_words : Nat) (v_this_spoken : Int32) (n_r : Int32)  : ∀ (x1 v_this_seated : Int32) (v_this_seats : Nat → Int32) , X1_seatAt x1 v_this_seated v_this_seats = some n_r → gx_Wt p l e X1_seatAt_rm s m args below meth c (MQ below (gx_Q D A (X1_seatAt_B cI cJ cB cO a_this a_this_seats a_this_words v_this_seated v_this_spoken v_this_seats) (some (.int n_r))) args s 0 0 A) D A 2 [(a_this, .inr (1, [.ref a_this_seats, .ref a_this_words, .int v_this_seated, .int v_this_spoken])), (a_this_seats, .inl (cI, 7, .inl v_this_seats))] [(0, .ref a_this), (1, .int x1)] 0 [] := by
  intro x1 v_this_seated v_this_seats hf H locs ls hP hD hS hl
  obtain ⟨hx, hb, hr, hml, hown, hW, hlocks, hE, hA⟩ := id C
  unfold X1_seatAt at hf
  refine lv_iload_n hx hb dX1_seatAt_0 rfl (lv_at hl 1 rfl) ?_
  refine lv_if_lt (tgt := 27) hx hb dX1_seatAt_1 (by decide) (fun hc => ?_) (fun hc => ?_)
  · have hf := gx_t hf hc
    refine lv_bipush (v := -4) hx hb dX1_seatAt_27 (by decide) ?_
    cases hf
    exact gx_iret hx hb hr hlocks rfl hP hD hS dX1_seatAt_29
  · have hf := gx_f hf hc
    refine lv_iload_n hx hb dX1_seatAt_4 rfl (lv_at hl 1 rfl) ?_
    refine lv_aload_n hx hb dX1_seatAt_5 rfl (lv_at hl 0 rfl) ?_
    refine va_get (D := D) (ci := 1) (v := .int v_this_seated) (C := RX1) (T := TX1) (N := 4) hx hb hW in_X1 hown hE.1 hP 0 rfl rfl 2 (by decide) (hW _ tw_88) (fun _ h9 => h9) rfl dX1_seatAt_6 ?_
    refine lv_icmp_ge (tgt := 27) hx hb dX1_seatAt_9 (by decide) (fun hc => ?_) (fun hc => ?_)
    · have hf := gx_t hf hc
      refine lv_bipush (v := -4) hx hb dX1_seatAt_27 (by decide) ?_
      cases hf
      exact gx_iret hx hb hr hlocks rfl hP hD hS dX1_seatAt_29
    · have hf := gx_f hf hc
      refine lv_iload_n hx hb dX1_seatAt_12 rfl (lv_at hl 1 rfl) ?_
      refine lv_bipush (v := 7) hx hb dX1_seatAt_13 (by decide) ?_
      refine lv_icmp_ge (tgt := 27) hx hb dX1_seatAt_15 (by decide) (fun hc => ?_) (fun hc => ?_)
      · have hf := gx_t hf hc
        refine lv_bipush (v := -4) hx hb dX1_seatAt_27 (by decide) ?_
        cases hf
        exact gx_iret hx hb hr hlocks rfl hP hD hS dX1_seatAt_29
      · have hf := gx_f hf hc
        refine lv_aload_n hx hb dX1_seatAt_18 rfl (lv_at hl 0 rfl) ?_
        refine va_get (D := D) (ci := 1) (v := .ref a_this_seats) (C := RX1) (T := TX1) (N := 4) hx hb hW in_X1 hown hE.1 hP 0 rfl rfl 0 (by decide) (hW _ tw_86) (fun _ h9 => h9) rfl dX1_seatAt_19 ?_
        refine lv_iload_n hx hb dX1_seatAt_22 rfl (lv_at hl 1 rfl) ?_
        obtain ⟨h1, hf⟩ := gx_ite hf
        refine va_iald hx hb hE.1 hP 1 0 rfl rfl h1 dX1_seatAt_23 ?_
        refine lv_goto (tgt := 29) hx hb dX1_seatAt_24 (by decide) ?_
        cases hf
        exact gx_iret hx hb hr hlocks rfl hP hD hS dX1_seatAt_29
theorem X1_seatAt_ok (l : Launch) (D : va_G) (cI cJ cB cO : ClassId) (tM tS : Nat) (a_this a_this_seats a_this_words : Nat)  (v_this_seated v_this_spoken : Int32) (v_this_seats : Nat → Int32) (x1 n_r : Int32) (hf : X1_seatAt x1 v_this_seated v_this_seats = some n_r) : gx_M l yX1_seatAt cX1_seatAt 2 (some .int) X1_seatAt_rm D cI cJ cB cO tM tS [.ref a_this, .int x1] [(a_this, .inr (1, [.ref a_this_seats, .ref a_this_words, .int v_this_seated, .int v_this_spoken])), (a_this_seats, .inl (cI, 7, .inl v_this_seats))] (X1_seatAt_B cI cJ cB cO a_this a_this_seats a_this_words v_this_seated v_this_spoken v_this_seats) (some (.int n_r)) 0 0 := by
  refine gx_of (by decide) (Nat.le_of_ble_eq_true rfl) ?_
  intro p e s m args below meth c ls A C hP hD hl _
  have hl : lv_has ls 2 [(0, .ref a_this), (1, .int x1)] := hl
  exact X1_seatAt_b0_ok C a_this a_this_seats a_this_words v_this_spoken n_r x1 v_this_seated v_this_seats hf s.heap [] ls hP hD va_S.rf hl
def X1_seatBits_B (cI cJ cB cO : ClassId) (a_this a_this_seats a_this_words : Nat) (v_this_seated v_this_spoken : Int32) (v_this_seats : Nat → Int32) : va_W → Prop := fun w1 => w1 = [(a_this, .inr (1, [.ref a_this_seats, .ref a_this_words, .int v_this_seated, .int v_this_spoken])), (a_this_seats, .inl (cI, 7, .inl v_this_seats))]
abbrev X1_seatBits_rm : Room := { frames := 0, cells := 0, slots := 0, locals := 0 }
set_option maxHeartbeats 4000000 in
set_option maxRecDepth 100000 in
theorem X1_seatBits_b4_ok {p : Program} {l : Launch} {e : Env} {s : State} {m : MethodId} {args : Array Value} {below : List Frame} {meth : Method} {c : Code} {D : va_G} {cI cJ cB cO : ClassId} {tM tS : Nat} {A : Nat → Prop} (C : gx_X p s m args meth c cX1_seatBits 3 (some .int) RX1 D cI cJ cB cO tM tS A) (a_this a_this_seats a_this_words : Nat) (v_this_spoken : Int32) (n_r : Int32) (k4 : Int32 → Int32 → Int32 → (Nat → Int32) → Option (Int32)) (K4 : ∀ (x1 x2 v_this_seated : Int32) (v_this_seats : Nat → Int32) , k4 x1 x2 v_this_seated v_this_seats = some n_r → gx_Wt p l e X1_seatBits_rm s m args below meth c (MQ below (gx_Q D A (X1_seatBits_B cI cJ cB cO a_this a_this_seats a_this_words v_this_seated v_this_spoken v_this_seats) (some (.int n_r))) args s 0 0 A) D A 3 [(a_this, .inr (1, [.ref a_this_seats, .ref a_this_words, .int v_this_seated, .int v_this_spoken])), (a_this_seats, .inl (cI, 7, .inl v_this_seats))] [(0, .ref a_this), (1, .int x1), (2, .int x2)] 4 []) : ∀ (x1 x2 v_this_seated : Int32) (v_this_seats : Nat → Int32) , X1_seatBits_b4 k4 x1 x2 v_this_seated v_this_seats = some n_r → gx_Wt p l e X1_seatBits_rm s m args below meth c (MQ below (gx_Q D A (X1_seatBits_B cI cJ cB cO a_this a_this_seats a_this_words v_this_seated v_this_spoken v_this_seats) (some (.int n_r))) args s 0 0 A) D A 3 [(a_this, .inr (1, [.ref a_this_seats, .ref a_this_words, .int v_this_seated, .int v_this_spoken])), (a_this_seats, .inl (cI, 7, .inl v_this_seats))] [(0, .ref a_this), (1, .int x1), (2, .int x2)] 4 [] := by
  intro x1 x2 v_this_seated v_this_seats hf H locs ls hP hD hS hl
  obtain ⟨hx, hb, hr, hml, hown, hW, hlocks, hE, hA⟩ := id C
  unfold X1_seatBits_b4 at hf
  refine lv_iload_n hx hb dX1_seatBits_4 rfl (lv_at hl 2 rfl) ?_
  refine lv_aload_n hx hb dX1_seatBits_5 rfl (lv_at hl 0 rfl) ?_
  refine va_get (D := D) (ci := 1) (v := .int v_this_seated) (C := RX1) (T := TX1) (N := 4) hx hb hW in_X1 hown hE.1 hP 0 rfl rfl 2 (by decide) (hW _ tw_88) (fun _ h9 => h9) rfl dX1_seatBits_6 ?_
  refine lv_icmp_ge (tgt := 35) hx hb dX1_seatBits_9 (by decide) (fun hc => ?_) (fun hc => ?_)
  · have hf := gx_t hf hc
    refine lv_iload_n hx hb dX1_seatBits_35 rfl (lv_at hl 1 rfl) ?_
    cases hf
    exact gx_iret hx hb hr hlocks rfl hP hD hS dX1_seatBits_36
  · have hf := gx_f hf hc
    refine lv_iload_n hx hb dX1_seatBits_12 rfl (lv_at hl 2 rfl) ?_
    refine lv_bipush (v := 7) hx hb dX1_seatBits_13 (by decide) ?_
    refine lv_icmp_ge (tgt := 35) hx hb dX1_seatBits_15 (by decide) (fun hc => ?_) (fun hc => ?_)
    · have hf := gx_t hf hc
      refine lv_iload_n hx hb dX1_seatBits_35 rfl (lv_at hl 1 rfl) ?_
      cases hf
      exact gx_iret hx hb hr hlocks rfl hP hD hS dX1_seatBits_36
    · have hf := gx_f hf hc
      refine lv_iload_n hx hb dX1_seatBits_18 rfl (lv_at hl 1 rfl) ?_
      refine lv_iconst (v := 1) hx hb dX1_seatBits_19 (by decide) ?_
      refine lv_aload_n hx hb dX1_seatBits_20 rfl (lv_at hl 0 rfl) ?_
      refine va_get (D := D) (ci := 1) (v := .ref a_this_seats) (C := RX1) (T := TX1) (N := 4) hx hb hW in_X1 hown hE.1 hP 0 rfl rfl 0 (by decide) (hW _ tw_86) (fun _ h9 => h9) rfl dX1_seatBits_21 ?_
      refine lv_iload_n hx hb dX1_seatBits_24 rfl (lv_at hl 2 rfl) ?_
      obtain ⟨h1, hf⟩ := gx_ite hf
      refine va_iald hx hb hE.1 hP 1 0 rfl rfl h1 dX1_seatBits_25 ?_
      refine lv_ishl hx hb dX1_seatBits_26 ?_
      refine lv_ior hx hb dX1_seatBits_27 ?_
      refine lv_topi (fun y2 ey2 => ?_)
      have hf := gx_lv hf ey2
      clear ey2
      refine lv_istore_n (lv' := [(1, .int y2), (0, .ref a_this), (2, .int x2)]) hx hb dX1_seatBits_28 rfl hl (by decide) rfl (fun ls hl => ?_)
      refine lv_iinc (v := x2 + 1) (lv' := [(2, .int (x2 + 1)), (1, .int y2), (0, .ref a_this)]) hx hb dX1_seatBits_29 hl (k := 2) rfl rfl (by decide) rfl (fun ls hl => ?_)
      refine lv_goto (tgt := 4) hx hb dX1_seatBits_32 (by decide) ?_
      exact K4 y2 (x2 + 1) v_this_seated v_this_seats hf H locs ls hP hD hS (lv_sub hl [2, 1, 0] rfl)
theorem X1_seatBits_l4_ok {p : Program} {l : Launch} {e : Env} {s : State} {m : MethodId} {args : Array Value} {below : List Frame} {meth : Method} {c : Code} {D : va_G} {cI cJ cB cO : ClassId} {tM tS : Nat} {A : Nat → Prop} (C : gx_X p s m args meth c cX1_seatBits 3 (some .int) RX1 D cI cJ cB cO tM tS A) (a_this a_this_seats a_this_words : Nat) (v_this_spoken : Int32) (n_r : Int32)  : ∀ (n : Nat) (x1 x2 v_this_seated : Int32) (v_this_seats : Nat → Int32) , X1_seatBits_l4 n x1 x2 v_this_seated v_this_seats = some n_r → gx_Wt p l e X1_seatBits_rm s m args below meth c (MQ below (gx_Q D A (X1_seatBits_B cI cJ cB cO a_this a_this_seats a_this_words v_this_seated v_this_spoken v_this_seats) (some (.int n_r))) args s 0 0 A) D A 3 [(a_this, .inr (1, [.ref a_this_seats, .ref a_this_words, .int v_this_seated, .int v_this_spoken])), (a_this_seats, .inl (cI, 7, .inl v_this_seats))] [(0, .ref a_this), (1, .int x1), (2, .int x2)] 4 [] := by
  intro n
  induction n with
  | zero =>
    intro _ _ _ _ hf
    cases hf
  | succ n ih => exact fun x1 x2 v_this_seated v_this_seats hf => X1_seatBits_b4_ok C a_this a_this_seats a_this_words v_this_spoken n_r (X1_seatBits_l4 n) ih x1 x2 v_this_seated v_this_seats hf
set_option maxHeartbeats 4000000 in
set_option maxRecDepth 100000 in
theorem X1_seatBits_b0_ok {p : Program} {l : Launch} {e : Env} {s : State} {m : MethodId} {args : Array Value} {below : List Frame} {meth : Method} {c : Code} {D : va_G} {cI cJ cB cO : ClassId} {tM tS : Nat} {A : Nat → Prop} (C : gx_X p s m args meth c cX1_seatBits 3 (some .int) RX1 D cI cJ cB cO tM tS A) (a_this a_this_seats a_this_words : Nat) (v_this_spoken : Int32) (n_r : Int32)  : ∀ (v_this_seated : Int32) (v_this_seats : Nat → Int32) , X1_seatBits v_this_seated v_this_seats = some n_r → gx_Wt p l e X1_seatBits_rm s m args below meth c (MQ below (gx_Q D A (X1_seatBits_B cI cJ cB cO a_this a_this_seats a_this_words v_this_seated v_this_spoken v_this_seats) (some (.int n_r))) args s 0 0 A) D A 3 [(a_this, .inr (1, [.ref a_this_seats, .ref a_this_words, .int v_this_seated, .int v_this_spoken])), (a_this_seats, .inl (cI, 7, .inl v_this_seats))] [(0, .ref a_this)] 0 [] := by
  intro v_this_seated v_this_seats hf H locs ls hP hD hS hl
  obtain ⟨hx, hb, hr, hml, hown, hW, hlocks, hE, hA⟩ := id C
  unfold X1_seatBits at hf
  refine lv_iconst (v := 0) hx hb dX1_seatBits_0 (by decide) ?_
  refine lv_istore_n (lv' := [(1, .int (0 : Int32)), (0, .ref a_this)]) hx hb dX1_seatBits_1 rfl hl (by decide) rfl (fun ls hl => ?_)
  refine lv_iconst (v := 0) hx hb dX1_seatBits_2 (by decide) ?_
  refine lv_istore_n (lv' := [(2, .int (0 : Int32)), (1, .int (0 : Int32)), (0, .ref a_this)]) hx hb dX1_seatBits_3 rfl hl (by decide) rfl (fun ls hl => ?_)
  exact X1_seatBits_l4_ok C a_this a_this_seats a_this_words v_this_spoken n_r gx_F (0 : Int32) (0 : Int32) v_this_seated v_this_seats hf H locs ls hP hD hS (lv_sub hl [2, 1, 0] rfl)
theorem X1_seatBits_ok (l : Launch) (D : va_G) (cI cJ cB cO : ClassId) (tM tS : Nat) (a_this a_this_seats a_this_words : Nat)  (v_this_seated v_this_spoken : Int32) (v_this_seats : Nat → Int32) (n_r : Int32) (hf : X1_seatBits v_this_seated v_this_seats = some n_r) : gx_M l yX1_seatBits cX1_seatBits 3 (some .int) X1_seatBits_rm D cI cJ cB cO tM tS [.ref a_this] [(a_this, .inr (1, [.ref a_this_seats, .ref a_this_words, .int v_this_seated, .int v_this_spoken])), (a_this_seats, .inl (cI, 7, .inl v_this_seats))] (X1_seatBits_B cI cJ cB cO a_this a_this_seats a_this_words v_this_seated v_this_spoken v_this_seats) (some (.int n_r)) 0 0 := by
  refine gx_of (by decide) (Nat.le_of_ble_eq_true rfl) ?_
  intro p e s m args below meth c ls A C hP hD hl _
  have hl : lv_has ls 3 [(0, .ref a_this)] := hl
  exact X1_seatBits_b0_ok C a_this a_this_seats a_this_words v_this_spoken n_r v_this_seated v_this_seats hf s.heap [] ls hP hD va_S.rf hl
def X1_seated_B (cI cJ cB cO : ClassId) (a_this a_this_seats a_this_words : Nat) (v_this_seated v_this_spoken : Int32) : va_W → Prop := fun w1 => w1 = [(a_this, .inr (1, [.ref a_this_seats, .ref a_this_words, .int v_this_seated, .int v_this_spoken]))]
abbrev X1_seated_rm : Room := { frames := 0, cells := 0, slots := 0, locals := 0 }
set_option maxHeartbeats 4000000 in
set_option maxRecDepth 100000 in
theorem X1_seated_b0_ok {p : Program} {l : Launch} {e : Env} {s : State} {m : MethodId} {args : Array Value} {below : List Frame} {meth : Method} {c : Code} {D : va_G} {cI cJ cB cO : ClassId} {tM tS : Nat} {A : Nat → Prop} (C : gx_X p s m args meth c cX1_seated 1 (some .int) RX1 D cI cJ cB cO tM tS A) (a_this a_this_seats a_this_words : Nat) (v_this_spoken : Int32) (n_r : Int32)  : ∀ (v_this_seated : Int32) , X1_seated v_this_seated = some n_r → gx_Wt p l e X1_seated_rm s m args below meth c (MQ below (gx_Q D A (X1_seated_B cI cJ cB cO a_this a_this_seats a_this_words v_this_seated v_this_spoken) (some (.int n_r))) args s 0 0 A) D A 1 [(a_this, .inr (1, [.ref a_this_seats, .ref a_this_words, .int v_this_seated, .int v_this_spoken]))] [(0, .ref a_this)] 0 [] := by
  intro v_this_seated hf H locs ls hP hD hS hl
  obtain ⟨hx, hb, hr, hml, hown, hW, hlocks, hE, hA⟩ := id C
  unfold X1_seated at hf
  refine lv_aload_n hx hb dX1_seated_0 rfl (lv_at hl 0 rfl) ?_
  refine va_get (D := D) (ci := 1) (v := .int v_this_seated) (C := RX1) (T := TX1) (N := 4) hx hb hW in_X1 hown hE.1 hP 0 rfl rfl 2 (by decide) (hW _ tw_88) (fun _ h9 => h9) rfl dX1_seated_1 ?_
  cases hf
  exact gx_iret hx hb hr hlocks rfl hP hD hS dX1_seated_4
theorem X1_seated_ok (l : Launch) (D : va_G) (cI cJ cB cO : ClassId) (tM tS : Nat) (a_this a_this_seats a_this_words : Nat)  (v_this_seated v_this_spoken n_r : Int32) (hf : X1_seated v_this_seated = some n_r) : gx_M l yX1_seated cX1_seated 1 (some .int) X1_seated_rm D cI cJ cB cO tM tS [.ref a_this] [(a_this, .inr (1, [.ref a_this_seats, .ref a_this_words, .int v_this_seated, .int v_this_spoken]))] (X1_seated_B cI cJ cB cO a_this a_this_seats a_this_words v_this_seated v_this_spoken) (some (.int n_r)) 0 0 := by
  refine gx_of (by decide) (Nat.le_of_ble_eq_true rfl) ?_
  intro p e s m args below meth c ls A C hP hD hl _
  have hl : lv_has ls 1 [(0, .ref a_this)] := hl
  exact X1_seated_b0_ok C a_this a_this_seats a_this_words v_this_spoken n_r v_this_seated hf s.heap [] ls hP hD va_S.rf hl
def X1_sit_B (cI cJ cB cO : ClassId) (a_this a_this_seats a_this_words : Nat) (v_this_spoken n_this_seated : Int32) (n_this_seats : Nat → Int32) : va_W → Prop := fun w1 => w1 = [(a_this, .inr (1, [.ref a_this_seats, .ref a_this_words, .int n_this_seated, .int v_this_spoken])), (a_this_seats, .inl (cI, 7, .inl n_this_seats))]
abbrev X1_sit_rm : Room := { frames := 0, cells := 0, slots := 0, locals := 0 }
set_option maxHeartbeats 4000000 in
set_option maxRecDepth 100000 in
theorem X1_sit_b0_ok {p : Program} {l : Launch} {e : Env} {s : State} {m : MethodId} {args : Array Value} {below : List Frame} {meth : Method} {c : Code} {D : va_G} {cI cJ cB cO : ClassId} {tM tS : Nat} {A : Nat → Prop} (C : gx_X p s m args meth c cX1_sit 2 none RX1 D cI cJ cB cO tM tS A) (a_this a_this_seats a_this_words : Nat) (v_this_spoken : Int32) (n_this_seated : Int32) (n_this_seats : Nat → Int32)  : ∀ (x1 v_this_seated : Int32) (v_this_seats : Nat → Int32) , X1_sit x1 v_this_seated v_this_seats = some (n_this_seated, n_this_seats) → gx_Wt p l e X1_sit_rm s m args below meth c (MQ below (gx_Q D A (X1_sit_B cI cJ cB cO a_this a_this_seats a_this_words v_this_spoken n_this_seated n_this_seats) none) args s 0 0 A) D A 2 [(a_this, .inr (1, [.ref a_this_seats, .ref a_this_words, .int v_this_seated, .int v_this_spoken])), (a_this_seats, .inl (cI, 7, .inl v_this_seats))] [(0, .ref a_this), (1, .int x1)] 0 [] := by
  intro x1 v_this_seated v_this_seats hf H locs ls hP hD hS hl
  obtain ⟨hx, hb, hr, hml, hown, hW, hlocks, hE, hA⟩ := id C
  unfold X1_sit at hf
  refine lv_aload_n hx hb dX1_sit_0 rfl (lv_at hl 0 rfl) ?_
  refine va_get (D := D) (ci := 1) (v := .int v_this_seated) (C := RX1) (T := TX1) (N := 4) hx hb hW in_X1 hown hE.1 hP 0 rfl rfl 2 (by decide) (hW _ tw_88) (fun _ h9 => h9) rfl dX1_sit_1 ?_
  refine lv_bipush (v := 7) hx hb dX1_sit_4 (by decide) ?_
  refine lv_icmp_ge (tgt := 29) hx hb dX1_sit_6 (by decide) (fun hc => ?_) (fun hc => ?_)
  · have hf := gx_t hf hc
    cases hf
    exact gx_vret hx hb hr hlocks rfl hP hD hS dX1_sit_29
  · have hf := gx_f hf hc
    refine lv_aload_n hx hb dX1_sit_9 rfl (lv_at hl 0 rfl) ?_
    refine va_get (D := D) (ci := 1) (v := .ref a_this_seats) (C := RX1) (T := TX1) (N := 4) hx hb hW in_X1 hown hE.1 hP 0 rfl rfl 0 (by decide) (hW _ tw_86) (fun _ h9 => h9) rfl dX1_sit_10 ?_
    refine lv_aload_n hx hb dX1_sit_13 rfl (lv_at hl 0 rfl) ?_
    refine va_get (D := D) (ci := 1) (v := .int v_this_seated) (C := RX1) (T := TX1) (N := 4) hx hb hW in_X1 hown hE.1 hP 0 rfl rfl 2 (by decide) (hW _ tw_88) (fun _ h9 => h9) rfl dX1_sit_14 ?_
    refine lv_iload_n hx hb dX1_sit_17 rfl (lv_at hl 1 rfl) ?_
    obtain ⟨h1, hf⟩ := gx_ite hf
    refine va_iast hx hb hE.1 hP hD hS 1 0 rfl rfl h1 dX1_sit_18 (fun H locs hP hD hS => ?_)
    have hP : va_P D gx_cl [(a_this, .inr (1, [.ref a_this_seats, .ref a_this_words, .int v_this_seated, .int v_this_spoken])), (a_this_seats, .inl (cI, 7, .inl (upd v_this_seats v_this_seated.toNatClampNeg x1)))] H := hP
    have hD : va_D A [(a_this, .inr (1, [.ref a_this_seats, .ref a_this_words, .int v_this_seated, .int v_this_spoken])), (a_this_seats, .inl (cI, 7, .inl (upd v_this_seats v_this_seated.toNatClampNeg x1)))] := hD
    refine lv_aload_n hx hb dX1_sit_19 rfl (lv_at hl 0 rfl) ?_
    refine lv_dup hx hb dX1_sit_20 rfl ?_
    refine va_get (D := D) (ci := 1) (v := .int v_this_seated) (C := RX1) (T := TX1) (N := 4) hx hb hW in_X1 hown hE.1 hP 0 rfl rfl 2 (by decide) (hW _ tw_88) (fun _ h9 => h9) rfl dX1_sit_21 ?_
    refine lv_iconst (v := 1) hx hb dX1_sit_24 (by decide) ?_
    refine lv_iadd hx hb dX1_sit_25 ?_
    refine va_put (D := D) (ci := 1) (v := .int (v_this_seated + (1 : Int32))) (ty := tyX1 2) (C := RX1) (T := TX1) (N := 4) hx hb hW in_X1 tyX1 tyX1_ok nmX1 hown hE.1 hP hD hS 0 rfl rfl 2 (by decide) (hW _ tw_88) (fun _ h9 => h9) rfl (by decide +kernel) rfl rfl (Nat.le_of_ble_eq_true rfl) dX1_sit_26 (fun H locs hP hD hS => ?_)
    have hP : va_P D gx_cl [(a_this, .inr (1, [.ref a_this_seats, .ref a_this_words, .int (v_this_seated + (1 : Int32)), .int v_this_spoken])), (a_this_seats, .inl (cI, 7, .inl (upd v_this_seats v_this_seated.toNatClampNeg x1)))] H := hP
    have hD : va_D A [(a_this, .inr (1, [.ref a_this_seats, .ref a_this_words, .int (v_this_seated + (1 : Int32)), .int v_this_spoken])), (a_this_seats, .inl (cI, 7, .inl (upd v_this_seats v_this_seated.toNatClampNeg x1)))] := hD
    cases hf
    exact gx_vret hx hb hr hlocks rfl hP hD hS dX1_sit_29
theorem X1_sit_ok (l : Launch) (D : va_G) (cI cJ cB cO : ClassId) (tM tS : Nat) (a_this a_this_seats a_this_words : Nat)  (v_this_seated v_this_spoken : Int32) (v_this_seats : Nat → Int32) (x1 n_this_seated : Int32) (n_this_seats : Nat → Int32) (hf : X1_sit x1 v_this_seated v_this_seats = some (n_this_seated, n_this_seats)) : gx_M l yX1_sit cX1_sit 2 none X1_sit_rm D cI cJ cB cO tM tS [.ref a_this, .int x1] [(a_this, .inr (1, [.ref a_this_seats, .ref a_this_words, .int v_this_seated, .int v_this_spoken])), (a_this_seats, .inl (cI, 7, .inl v_this_seats))] (X1_sit_B cI cJ cB cO a_this a_this_seats a_this_words v_this_spoken n_this_seated n_this_seats) none 0 0 := by
  refine gx_of (by decide) (Nat.le_of_ble_eq_true rfl) ?_
  intro p e s m args below meth c ls A C hP hD hl _
  have hl : lv_has ls 2 [(0, .ref a_this), (1, .int x1)] := hl
  exact X1_sit_b0_ok C a_this a_this_seats a_this_words v_this_spoken n_this_seated n_this_seats x1 v_this_seated v_this_seats hf s.heap [] ls hP hD va_S.rf hl
def X5_forget_B (cI cJ cB cO : ClassId) (a_this a_this_latest : Nat) (n_this_held : Int32) : va_W → Prop := fun w1 => w1 = [(a_this, .inr (5, [.ref a_this_latest, .int n_this_held]))]
abbrev X5_forget_rm : Room := { frames := 0, cells := 0, slots := 0, locals := 0 }
set_option maxHeartbeats 4000000 in
set_option maxRecDepth 100000 in
theorem X5_forget_b0_ok {p : Program} {l : Launch} {e : Env} {s : State} {m : MethodId} {args : Array Value} {below : List Frame} {meth : Method} {c : Code} {D : va_G} {cI cJ cB cO : ClassId} {tM tS : Nat} {A : Nat → Prop} (C : gx_X p s m args meth c cX5_forget 1 none RX5 D cI cJ cB cO tM tS A) (a_this a_this_latest : Nat) (n_this_held : Int32)  : ∀ (v_this_held : Int32) , X5_forget v_this_held = some n_this_held → gx_Wt p l e X5_forget_rm s m args below meth c (MQ below (gx_Q D A (X5_forget_B cI cJ cB cO a_this a_this_latest n_this_held) none) args s 0 0 A) D A 1 [(a_this, .inr (5, [.ref a_this_latest, .int v_this_held]))] [(0, .ref a_this)] 0 [] := by
  intro v_this_held hf H locs ls hP hD hS hl
  obtain ⟨hx, hb, hr, hml, hown, hW, hlocks, hE, hA⟩ := id C
  unfold X5_forget at hf
  refine lv_aload_n hx hb dX5_forget_0 rfl (lv_at hl 0 rfl) ?_
  refine lv_iconst (v := 0) hx hb dX5_forget_1 (by decide) ?_
  refine va_put (D := D) (ci := 5) (v := .int (0 : Int32)) (ty := tyX5 1) (C := RX5) (T := TX5) (N := 2) hx hb hW in_X5 tyX5 tyX5_ok nmX5 hown hE.1 hP hD hS 0 rfl rfl 1 (by decide) (hW _ tw_106) (fun _ h9 => h9) rfl (by decide +kernel) rfl rfl (Nat.le_of_ble_eq_true rfl) dX5_forget_2 (fun H locs hP hD hS => ?_)
  have hP : va_P D gx_cl [(a_this, .inr (5, [.ref a_this_latest, .int (0 : Int32)]))] H := hP
  have hD : va_D A [(a_this, .inr (5, [.ref a_this_latest, .int (0 : Int32)]))] := hD
  cases hf
  exact gx_vret hx hb hr hlocks rfl hP hD hS dX5_forget_5
theorem X5_forget_ok (l : Launch) (D : va_G) (cI cJ cB cO : ClassId) (tM tS : Nat) (a_this a_this_latest : Nat)  (v_this_held n_this_held : Int32) (hf : X5_forget v_this_held = some n_this_held) : gx_M l yX5_forget cX5_forget 1 none X5_forget_rm D cI cJ cB cO tM tS [.ref a_this] [(a_this, .inr (5, [.ref a_this_latest, .int v_this_held]))] (X5_forget_B cI cJ cB cO a_this a_this_latest n_this_held) none 0 0 := by
  refine gx_of (by decide) (Nat.le_of_ble_eq_true rfl) ?_
  intro p e s m args below meth c ls A C hP hD hl _
  have hl : lv_has ls 1 [(0, .ref a_this)] := hl
  exact X5_forget_b0_ok C a_this a_this_latest n_this_held v_this_held hf s.heap [] ls hP hD va_S.rf hl
def X5_held_B (cI cJ cB cO : ClassId) (a_this a_this_latest : Nat) (v_this_held : Int32) : va_W → Prop := fun w1 => w1 = [(a_this, .inr (5, [.ref a_this_latest, .int v_this_held]))]
abbrev X5_held_rm : Room := { frames := 0, cells := 0, slots := 0, locals := 0 }
set_option maxHeartbeats 4000000 in
set_option maxRecDepth 100000 in
theorem X5_held_b0_ok {p : Program} {l : Launch} {e : Env} {s : State} {m : MethodId} {args : Array Value} {below : List Frame} {meth : Method} {c : Code} {D : va_G} {cI cJ cB cO : ClassId} {tM tS : Nat} {A : Nat → Prop} (C : gx_X p s m args meth c cX5_held 1 (some .int) RX5 D cI cJ cB cO tM tS A) (a_this a_this_latest : Nat) (n_r : Int32)  : ∀ (v_this_held : Int32) , X5_held v_this_held = some n_r → gx_Wt p l e X5_held_rm s m args below meth c (MQ below (gx_Q D A (X5_held_B cI cJ cB cO a_this a_this_latest v_this_held) (some (.int n_r))) args s 0 0 A) D A 1 [(a_this, .inr (5, [.ref a_this_latest, .int v_this_held]))] [(0, .ref a_this)] 0 [] := by
  intro v_this_held hf H locs ls hP hD hS hl
  obtain ⟨hx, hb, hr, hml, hown, hW, hlocks, hE, hA⟩ := id C
  unfold X5_held at hf
  refine lv_aload_n hx hb dX5_held_0 rfl (lv_at hl 0 rfl) ?_
  refine va_get (D := D) (ci := 5) (v := .int v_this_held) (C := RX5) (T := TX5) (N := 2) hx hb hW in_X5 hown hE.1 hP 0 rfl rfl 1 (by decide) (hW _ tw_106) (fun _ h9 => h9) rfl dX5_held_1 ?_
  cases hf
  exact gx_iret hx hb hr hlocks rfl hP hD hS dX5_held_4
theorem X5_held_ok (l : Launch) (D : va_G) (cI cJ cB cO : ClassId) (tM tS : Nat) (a_this a_this_latest : Nat)  (v_this_held n_r : Int32) (hf : X5_held v_this_held = some n_r) : gx_M l yX5_held cX5_held 1 (some .int) X5_held_rm D cI cJ cB cO tM tS [.ref a_this] [(a_this, .inr (5, [.ref a_this_latest, .int v_this_held]))] (X5_held_B cI cJ cB cO a_this a_this_latest v_this_held) (some (.int n_r)) 0 0 := by
  refine gx_of (by decide) (Nat.le_of_ble_eq_true rfl) ?_
  intro p e s m args below meth c ls A C hP hD hl _
  have hl : lv_has ls 1 [(0, .ref a_this)] := hl
  exact X5_held_b0_ok C a_this a_this_latest n_r v_this_held hf s.heap [] ls hP hD va_S.rf hl
def X5_note_B (cI cJ cB cO : ClassId) (a_this a_this_latest : Nat) (n_this_held : Int32) (n_this_latest : Nat → Int32) : va_W → Prop := fun w1 => w1 = [(a_this, .inr (5, [.ref a_this_latest, .int n_this_held])), (a_this_latest, .inl (cI, 8, .inl n_this_latest))]
abbrev X5_note_rm : Room := { frames := 1, cells := 0, slots := 0, locals := 40 }
set_option maxHeartbeats 4000000 in
set_option maxRecDepth 100000 in
theorem X5_note_b30_ok {p : Program} {l : Launch} {e : Env} {s : State} {m : MethodId} {args : Array Value} {below : List Frame} {meth : Method} {c : Code} {D : va_G} {cI cJ cB cO : ClassId} {tM tS : Nat} {A : Nat → Prop} (C : gx_X p s m args meth c cX5_note 2 none RX5 D cI cJ cB cO tM tS A) (a_this a_this_latest : Nat) (n_this_held : Int32) (n_this_latest : Nat → Int32)  : ∀ (x1 v_this_held : Int32) (v_this_latest : Nat → Int32) , X5_note_b30 x1 v_this_held v_this_latest = some (n_this_held, n_this_latest) → gx_Wt p l e X5_note_rm s m args below meth c (MQ below (gx_Q D A (X5_note_B cI cJ cB cO a_this a_this_latest n_this_held n_this_latest) none) args s 0 0 A) D A 2 [(a_this, .inr (5, [.ref a_this_latest, .int v_this_held])), (a_this_latest, .inl (cI, 8, .inl v_this_latest))] [(0, .ref a_this), (1, .int x1)] 30 [] := by
  intro x1 v_this_held v_this_latest hf H locs ls hP hD hS hl
  obtain ⟨hx, hb, hr, hml, hown, hW, hlocks, hE, hA⟩ := id C
  unfold X5_note_b30 at hf
  refine lv_aload_n hx hb dX5_note_30 rfl (lv_at hl 0 rfl) ?_
  refine va_get (D := D) (ci := 5) (v := .ref a_this_latest) (C := RX5) (T := TX5) (N := 2) hx hb hW in_X5 hown hE.1 hP 0 rfl rfl 0 (by decide) (hW _ tw_105) (fun _ h9 => h9) rfl dX5_note_31 ?_
  refine lv_aload_n hx hb dX5_note_34 rfl (lv_at hl 0 rfl) ?_
  refine va_get (D := D) (ci := 5) (v := .int v_this_held) (C := RX5) (T := TX5) (N := 2) hx hb hW in_X5 hown hE.1 hP 0 rfl rfl 1 (by decide) (hW _ tw_106) (fun _ h9 => h9) rfl dX5_note_35 ?_
  refine lv_iload_n hx hb dX5_note_38 rfl (lv_at hl 1 rfl) ?_
  obtain ⟨h1, hf⟩ := gx_ite hf
  refine va_iast hx hb hE.1 hP hD hS 1 0 rfl rfl h1 dX5_note_39 (fun H locs hP hD hS => ?_)
  have hP : va_P D gx_cl [(a_this, .inr (5, [.ref a_this_latest, .int v_this_held])), (a_this_latest, .inl (cI, 8, .inl (upd v_this_latest v_this_held.toNatClampNeg x1)))] H := hP
  have hD : va_D A [(a_this, .inr (5, [.ref a_this_latest, .int v_this_held])), (a_this_latest, .inl (cI, 8, .inl (upd v_this_latest v_this_held.toNatClampNeg x1)))] := hD
  refine lv_aload_n hx hb dX5_note_40 rfl (lv_at hl 0 rfl) ?_
  refine lv_dup hx hb dX5_note_41 rfl ?_
  refine va_get (D := D) (ci := 5) (v := .int v_this_held) (C := RX5) (T := TX5) (N := 2) hx hb hW in_X5 hown hE.1 hP 0 rfl rfl 1 (by decide) (hW _ tw_106) (fun _ h9 => h9) rfl dX5_note_42 ?_
  refine lv_iconst (v := 1) hx hb dX5_note_45 (by decide) ?_
  refine lv_iadd hx hb dX5_note_46 ?_
  refine va_put (D := D) (ci := 5) (v := .int (v_this_held + (1 : Int32))) (ty := tyX5 1) (C := RX5) (T := TX5) (N := 2) hx hb hW in_X5 tyX5 tyX5_ok nmX5 hown hE.1 hP hD hS 0 rfl rfl 1 (by decide) (hW _ tw_106) (fun _ h9 => h9) rfl (by decide +kernel) rfl rfl (Nat.le_of_ble_eq_true rfl) dX5_note_47 (fun H locs hP hD hS => ?_)
  have hP : va_P D gx_cl [(a_this, .inr (5, [.ref a_this_latest, .int (v_this_held + (1 : Int32))])), (a_this_latest, .inl (cI, 8, .inl (upd v_this_latest v_this_held.toNatClampNeg x1)))] H := hP
  have hD : va_D A [(a_this, .inr (5, [.ref a_this_latest, .int (v_this_held + (1 : Int32))])), (a_this_latest, .inl (cI, 8, .inl (upd v_this_latest v_this_held.toNatClampNeg x1)))] := hD
  cases hf
  exact gx_vret hx hb hr hlocks rfl hP hD hS dX5_note_50
set_option maxHeartbeats 4000000 in
set_option maxRecDepth 100000 in
theorem X5_note_b0_ok {p : Program} {l : Launch} {e : Env} {s : State} {m : MethodId} {args : Array Value} {below : List Frame} {meth : Method} {c : Code} {D : va_G} {cI cJ cB cO : ClassId} {tM tS : Nat} {A : Nat → Prop} (C : gx_X p s m args meth c cX5_note 2 none RX5 D cI cJ cB cO tM tS A) (a_this a_this_latest : Nat) (n_this_held : Int32) (n_this_latest : Nat → Int32)  : ∀ (x1 v_this_held : Int32) (v_this_latest : Nat → Int32) , X5_note x1 v_this_held v_this_latest = some (n_this_held, n_this_latest) → gx_Wt p l e X5_note_rm s m args below meth c (MQ below (gx_Q D A (X5_note_B cI cJ cB cO a_this a_this_latest n_this_held n_this_latest) none) args s 0 0 A) D A 2 [(a_this, .inr (5, [.ref a_this_latest, .int v_this_held])), (a_this_latest, .inl (cI, 8, .inl v_this_latest))] [(0, .ref a_this), (1, .int x1)] 0 [] := by
  intro x1 v_this_held v_this_latest hf H locs ls hP hD hS hl
  obtain ⟨hx, hb, hr, hml, hown, hW, hlocks, hE, hA⟩ := id C
  unfold X5_note at hf
  refine lv_aload_n hx hb dX5_note_0 rfl (lv_at hl 0 rfl) ?_
  refine va_get (D := D) (ci := 5) (v := .int v_this_held) (C := RX5) (T := TX5) (N := 2) hx hb hW in_X5 hown hE.1 hP 0 rfl rfl 1 (by decide) (hW _ tw_106) (fun _ h9 => h9) rfl dX5_note_1 ?_
  refine lv_bipush (v := 8) hx hb dX5_note_4 (by decide) ?_
  refine lv_icmp_lt (tgt := 30) hx hb dX5_note_6 (by decide) (fun hc => ?_) (fun hc => ?_)
  · have hf := gx_t hf hc
    exact X5_note_b30_ok C a_this a_this_latest n_this_held n_this_latest x1 v_this_held v_this_latest hf H locs ls hP hD hS (lv_sub hl [0, 1] rfl)
  · have hf := gx_f hf hc
    refine lv_aload_n hx hb dX5_note_9 rfl (lv_at hl 0 rfl) ?_
    refine va_get (D := D) (ci := 5) (v := .ref a_this_latest) (C := RX5) (T := TX5) (N := 2) hx hb hW in_X5 hown hE.1 hP 0 rfl rfl 0 (by decide) (hW _ tw_105) (fun _ h9 => h9) rfl dX5_note_10 ?_
    refine lv_iconst (v := 1) hx hb dX5_note_13 (by decide) ?_
    refine lv_aload_n hx hb dX5_note_14 rfl (lv_at hl 0 rfl) ?_
    refine va_get (D := D) (ci := 5) (v := .ref a_this_latest) (C := RX5) (T := TX5) (N := 2) hx hb hW in_X5 hown hE.1 hP 0 rfl rfl 0 (by decide) (hW _ tw_105) (fun _ h9 => h9) rfl dX5_note_15 ?_
    refine lv_iconst (v := 0) hx hb dX5_note_18 (by decide) ?_
    refine lv_bipush (v := 7) hx hb dX5_note_19 (by decide) ?_
    refine va_copyi hx hb (hml.trans hl.1.symm) hown (hW _ tw_358) (hW _ tw_360) (hW _ tw_359) (hW _ tw_52) hE.1 hP hD hS 1 1 0 0 rfl rfl rfl rfl rfl (by decide) (by decide) (by decide) (by decide) (by decide) (fun _ _ => rfl) (Nat.le_of_ble_eq_true rfl) (Nat.le_of_ble_eq_true rfl) dX5_note_21 (fun H locs hP hD hS => ?_)
    have hP : va_P D gx_cl [(a_this, .inr (5, [.ref a_this_latest, .int v_this_held])), (a_this_latest, .inl (cI, 8, .inl (va_cpy v_this_latest v_this_latest (1 : Int32).toNatClampNeg (0 : Int32).toNatClampNeg (7 : Int32).toNatClampNeg)))] H := hP
    have hD : va_D A [(a_this, .inr (5, [.ref a_this_latest, .int v_this_held])), (a_this_latest, .inl (cI, 8, .inl (va_cpy v_this_latest v_this_latest (1 : Int32).toNatClampNeg (0 : Int32).toNatClampNeg (7 : Int32).toNatClampNeg)))] := hD
    refine lv_aload_n hx hb dX5_note_24 rfl (lv_at hl 0 rfl) ?_
    refine lv_bipush (v := 7) hx hb dX5_note_25 (by decide) ?_
    refine va_put (D := D) (ci := 5) (v := .int (7 : Int32)) (ty := tyX5 1) (C := RX5) (T := TX5) (N := 2) hx hb hW in_X5 tyX5 tyX5_ok nmX5 hown hE.1 hP hD hS 0 rfl rfl 1 (by decide) (hW _ tw_106) (fun _ h9 => h9) rfl (by decide +kernel) rfl rfl (Nat.le_of_ble_eq_true rfl) dX5_note_27 (fun H locs hP hD hS => ?_)
    have hP : va_P D gx_cl [(a_this, .inr (5, [.ref a_this_latest, .int (7 : Int32)])), (a_this_latest, .inl (cI, 8, .inl (va_cpy v_this_latest v_this_latest (1 : Int32).toNatClampNeg (0 : Int32).toNatClampNeg (7 : Int32).toNatClampNeg)))] H := hP
    have hD : va_D A [(a_this, .inr (5, [.ref a_this_latest, .int (7 : Int32)])), (a_this_latest, .inl (cI, 8, .inl (va_cpy v_this_latest v_this_latest (1 : Int32).toNatClampNeg (0 : Int32).toNatClampNeg (7 : Int32).toNatClampNeg)))] := hD
    exact X5_note_b30_ok C a_this a_this_latest n_this_held n_this_latest x1 (7 : Int32) (va_cpy v_this_latest v_this_latest (1 : Int32).toNatClampNeg (0 : Int32).toNatClampNeg (7 : Int32).toNatClampNeg) hf H locs ls hP hD hS (lv_sub hl [0, 1] rfl)
theorem X5_note_ok (l : Launch) (D : va_G) (cI cJ cB cO : ClassId) (tM tS : Nat) (a_this a_this_latest : Nat)  (v_this_held : Int32) (v_this_latest : Nat → Int32) (x1 n_this_held : Int32) (n_this_latest : Nat → Int32) (hf : X5_note x1 v_this_held v_this_latest = some (n_this_held, n_this_latest)) : gx_M l yX5_note cX5_note 2 none X5_note_rm D cI cJ cB cO tM tS [.ref a_this, .int x1] [(a_this, .inr (5, [.ref a_this_latest, .int v_this_held])), (a_this_latest, .inl (cI, 8, .inl v_this_latest))] (X5_note_B cI cJ cB cO a_this a_this_latest n_this_held n_this_latest) none 0 0 := by
  refine gx_of (by decide) (Nat.le_of_ble_eq_true rfl) ?_
  intro p e s m args below meth c ls A C hP hD hl _
  have hl : lv_has ls 2 [(0, .ref a_this), (1, .int x1)] := hl
  exact X5_note_b0_ok C a_this a_this_latest n_this_held n_this_latest x1 v_this_held v_this_latest hf s.heap [] ls hP hD va_S.rf hl
def X5_takeLatest_B (cI cJ cB cO : ClassId) (a_this a_this_latest : Nat) (v_this_latest : Nat → Int32) (n_this_held : Int32) : va_W → Prop := fun w1 => w1 = [(a_this, .inr (5, [.ref a_this_latest, .int n_this_held])), (a_this_latest, .inl (cI, 8, .inl v_this_latest))]
abbrev X5_takeLatest_rm : Room := { frames := 0, cells := 0, slots := 0, locals := 0 }
set_option maxHeartbeats 4000000 in
set_option maxRecDepth 100000 in
theorem X5_takeLatest_b0_ok {p : Program} {l : Launch} {e : Env} {s : State} {m : MethodId} {args : Array Value} {below : List Frame} {meth : Method} {c : Code} {D : va_G} {cI cJ cB cO : ClassId} {tM tS : Nat} {A : Nat → Prop} (C : gx_X p s m args meth c cX5_takeLatest 1 (some .int) RX5 D cI cJ cB cO tM tS A) (a_this a_this_latest : Nat) (n_r n_this_held : Int32)  : ∀ (v_this_held : Int32) (v_this_latest : Nat → Int32) , X5_takeLatest v_this_held v_this_latest = some (n_r, n_this_held) → gx_Wt p l e X5_takeLatest_rm s m args below meth c (MQ below (gx_Q D A (X5_takeLatest_B cI cJ cB cO a_this a_this_latest v_this_latest n_this_held) (some (.int n_r))) args s 0 0 A) D A 1 [(a_this, .inr (5, [.ref a_this_latest, .int v_this_held])), (a_this_latest, .inl (cI, 8, .inl v_this_latest))] [(0, .ref a_this)] 0 [] := by
  intro v_this_held v_this_latest hf H locs ls hP hD hS hl
  obtain ⟨hx, hb, hr, hml, hown, hW, hlocks, hE, hA⟩ := id C
  unfold X5_takeLatest at hf
  refine lv_aload_n hx hb dX5_takeLatest_0 rfl (lv_at hl 0 rfl) ?_
  refine va_get (D := D) (ci := 5) (v := .int v_this_held) (C := RX5) (T := TX5) (N := 2) hx hb hW in_X5 hown hE.1 hP 0 rfl rfl 1 (by decide) (hW _ tw_106) (fun _ h9 => h9) rfl dX5_takeLatest_1 ?_
  refine lv_if_gt (tgt := 9) hx hb dX5_takeLatest_4 (by decide) (fun hc => ?_) (fun hc => ?_)
  · have hf := gx_t hf hc
    refine lv_aload_n hx hb dX5_takeLatest_9 rfl (lv_at hl 0 rfl) ?_
    refine lv_dup hx hb dX5_takeLatest_10 rfl ?_
    refine va_get (D := D) (ci := 5) (v := .int v_this_held) (C := RX5) (T := TX5) (N := 2) hx hb hW in_X5 hown hE.1 hP 0 rfl rfl 1 (by decide) (hW _ tw_106) (fun _ h9 => h9) rfl dX5_takeLatest_11 ?_
    refine lv_iconst (v := 1) hx hb dX5_takeLatest_14 (by decide) ?_
    refine lv_isub hx hb dX5_takeLatest_15 ?_
    refine va_put (D := D) (ci := 5) (v := .int (v_this_held - (1 : Int32))) (ty := tyX5 1) (C := RX5) (T := TX5) (N := 2) hx hb hW in_X5 tyX5 tyX5_ok nmX5 hown hE.1 hP hD hS 0 rfl rfl 1 (by decide) (hW _ tw_106) (fun _ h9 => h9) rfl (by decide +kernel) rfl rfl (Nat.le_of_ble_eq_true rfl) dX5_takeLatest_16 (fun H locs hP hD hS => ?_)
    have hP : va_P D gx_cl [(a_this, .inr (5, [.ref a_this_latest, .int (v_this_held - (1 : Int32))])), (a_this_latest, .inl (cI, 8, .inl v_this_latest))] H := hP
    have hD : va_D A [(a_this, .inr (5, [.ref a_this_latest, .int (v_this_held - (1 : Int32))])), (a_this_latest, .inl (cI, 8, .inl v_this_latest))] := hD
    refine lv_aload_n hx hb dX5_takeLatest_19 rfl (lv_at hl 0 rfl) ?_
    refine va_get (D := D) (ci := 5) (v := .ref a_this_latest) (C := RX5) (T := TX5) (N := 2) hx hb hW in_X5 hown hE.1 hP 0 rfl rfl 0 (by decide) (hW _ tw_105) (fun _ h9 => h9) rfl dX5_takeLatest_20 ?_
    refine lv_aload_n hx hb dX5_takeLatest_23 rfl (lv_at hl 0 rfl) ?_
    refine va_get (D := D) (ci := 5) (v := .int (v_this_held - (1 : Int32))) (C := RX5) (T := TX5) (N := 2) hx hb hW in_X5 hown hE.1 hP 0 rfl rfl 1 (by decide) (hW _ tw_106) (fun _ h9 => h9) rfl dX5_takeLatest_24 ?_
    obtain ⟨h1, hf⟩ := gx_ite hf
    refine va_iald hx hb hE.1 hP 1 0 rfl rfl h1 dX5_takeLatest_27 ?_
    cases hf
    exact gx_iret hx hb hr hlocks rfl hP hD hS dX5_takeLatest_28
  · have hf := gx_f hf hc
    refine lv_iconst (v := -1) hx hb dX5_takeLatest_7 (by decide) ?_
    cases hf
    exact gx_iret hx hb hr hlocks rfl hP hD hS dX5_takeLatest_8
theorem X5_takeLatest_ok (l : Launch) (D : va_G) (cI cJ cB cO : ClassId) (tM tS : Nat) (a_this a_this_latest : Nat)  (v_this_held : Int32) (v_this_latest : Nat → Int32) (n_r n_this_held : Int32) (hf : X5_takeLatest v_this_held v_this_latest = some (n_r, n_this_held)) : gx_M l yX5_takeLatest cX5_takeLatest 1 (some .int) X5_takeLatest_rm D cI cJ cB cO tM tS [.ref a_this] [(a_this, .inr (5, [.ref a_this_latest, .int v_this_held])), (a_this_latest, .inl (cI, 8, .inl v_this_latest))] (X5_takeLatest_B cI cJ cB cO a_this a_this_latest v_this_latest n_this_held) (some (.int n_r)) 0 0 := by
  refine gx_of (by decide) (Nat.le_of_ble_eq_true rfl) ?_
  intro p e s m args below meth c ls A C hP hD hl _
  have hl : lv_has ls 1 [(0, .ref a_this)] := hl
  exact X5_takeLatest_b0_ok C a_this a_this_latest n_r n_this_held v_this_held v_this_latest hf s.heap [] ls hP hD va_S.rf hl
