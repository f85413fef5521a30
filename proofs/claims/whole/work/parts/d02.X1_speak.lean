def X1_speak_B (cI cJ cB cO : ClassId) (a_this a_this_seats a_this_words : Nat) (v_this_seated n_this_spoken : Int32) (n_this_words : Nat → Int32) : va_W → Prop := fun w1 => w1 = [(a_this, .inr (1, [.ref a_this_seats, .ref a_this_words, .int v_this_seated, .int n_this_spoken])), (a_this_words, .inl (cI, 12, .inl n_this_words))]
abbrev X1_speak_rm : Room := { frames := 0, cells := 0, slots := 0, locals := 0 }
set_option maxHeartbeats 4000000 in
set_option maxRecDepth 100000 in
theorem X1_speak_b0_ok {p : Program} {l : Launch} {e : Env} {s : State} {m : MethodId} {args : Array Value} {below : List Frame} {meth : Method} {c : Code} {D : va_G} {cI cJ cB cO : ClassId} {tM tS : Nat} {A : Nat → Prop} (C : gx_X p s m args meth c cX1_speak 2 none RX1 D cI cJ cB cO tM tS A) (a_this a_this_seats a_this_words : Nat) (v_this_seated : Int32) (n_this_spoken : Int32) (n_this_words : Nat → Int32)  : ∀ (x1 v_this_spoken : Int32) (v_this_words : Nat → Int32) , X1_speak x1 v_this_spoken v_this_words = some (n_this_spoken, n_this_words) → gx_Wt p l e X1_speak_rm s m args below meth c (MQ below (gx_Q D A (X1_speak_B cI cJ cB cO a_this a_this_seats a_this_words v_this_seated n_this_spoken n_this_words) none) args s 0 0 A) D A 2 [(a_this, .inr (1, [.ref a_this_seats, .ref a_this_words, .int v_this_seated, .int v_this_spoken])), (a_this_words, .inl (cI, 12, .inl v_this_words))] [(0, .ref a_this), (1, .int x1)] 0 [] := by
  intro x1 v_this_spoken v_this_words hf H locs ls hP hD hS hl
  obtain ⟨hx, hb, hr, hml, hown, hW, hlocks, hE, hA⟩ := id C
  unfold X1_speak at hf
  refine lv_aload_n hx hb dX1_speak_0 rfl (lv_at hl 0 rfl) ?_
  refine va_get (D := D) (ci := 1) (v := .int v_this_spoken) (C := RX1) (T := TX1) (N := 4) hx hb hW in_X1 hown hE.1 hP 0 rfl rfl 3 (by decide) (hW _ tw_89) (fun _ h9 => h9) rfl dX1_speak_1 ?_
  refine lv_bipush (v := 12) hx hb dX1_speak_4 (by decide) ?_
  refine lv_icmp_ge (tgt := 29) hx hb dX1_speak_6 (by decide) (fun hc => ?_) (fun hc => ?_)
  · have hf := gx_t hf hc
    cases hf
    exact gx_vret hx hb hr hlocks rfl hP hD hS dX1_speak_29
  · have hf := gx_f hf hc
    refine lv_aload_n hx hb dX1_speak_9 rfl (lv_at hl 0 rfl) ?_
    refine va_get (D := D) (ci := 1) (v := .ref a_this_words) (C := RX1) (T := TX1) (N := 4) hx hb hW in_X1 hown hE.1 hP 0 rfl rfl 1 (by decide) (hW _ tw_87) (fun _ h9 => h9) rfl dX1_speak_10 ?_
    refine lv_aload_n hx hb dX1_speak_13 rfl (lv_at hl 0 rfl) ?_
    refine va_get (D := D) (ci := 1) (v := .int v_this_spoken) (C := RX1) (T := TX1) (N := 4) hx hb hW in_X1 hown hE.1 hP 0 rfl rfl 3 (by decide) (hW _ tw_89) (fun _ h9 => h9) rfl dX1_speak_14 ?_
    refine lv_iload_n hx hb dX1_speak_17 rfl (lv_at hl 1 rfl) ?_
    obtain ⟨h1, hf⟩ := gx_ite hf
    refine va_iast hx hb hE.1 hP hD hS 1 0 rfl rfl h1 dX1_speak_18 (fun H locs hP hD hS => ?_)
    have hP : va_P D gx_cl [(a_this, .inr (1, [.ref a_this_seats, .ref a_this_words, .int v_this_seated, .int v_this_spoken])), (a_this_words, .inl (cI, 12, .inl (upd v_this_words v_this_spoken.toNatClampNeg x1)))] H := hP
    have hD : va_D A [(a_this, .inr (1, [.ref a_this_seats, .ref a_this_words, .int v_this_seated, .int v_this_spoken])), (a_this_words, .inl (cI, 12, .inl (upd v_this_words v_this_spoken.toNatClampNeg x1)))] := hD
    refine lv_aload_n hx hb dX1_speak_19 rfl (lv_at hl 0 rfl) ?_
    refine lv_dup hx hb dX1_speak_20 rfl ?_
    refine va_get (D := D) (ci := 1) (v := .int v_this_spoken) (C := RX1) (T := TX1) (N := 4) hx hb hW in_X1 hown hE.1 hP 0 rfl rfl 3 (by decide) (hW _ tw_89) (fun _ h9 => h9) rfl dX1_speak_21 ?_
    refine lv_iconst (v := 1) hx hb dX1_speak_24 (by decide) ?_
    refine lv_iadd hx hb dX1_speak_25 ?_
    refine va_put (D := D) (ci := 1) (v := .int (v_this_spoken + (1 : Int32))) (ty := tyX1 3) (C := RX1) (T := TX1) (N := 4) hx hb hW in_X1 tyX1 tyX1_ok nmX1 hown hE.1 hP hD hS 0 rfl rfl 3 (by decide) (hW _ tw_89) (fun _ h9 => h9) rfl (by decide +kernel) rfl rfl (Nat.le_of_ble_eq_true rfl) dX1_speak_26 (fun H locs hP hD hS => ?_)
    have hP : va_P D gx_cl [(a_this, .inr (1, [.ref a_this_seats, .ref a_this_words, .int v_this_seated, .int (v_this_spoken + (1 : Int32))])), (a_this_words, .inl (cI, 12, .inl (upd v_this_words v_this_spoken.toNatClampNeg x1)))] H := hP
    have hD : va_D A [(a_this, .inr (1, [.ref a_this_seats, .ref a_this_words, .int v_this_seated, .int (v_this_spoken + (1 : Int32))])), (a_this_words, .inl (cI, 12, .inl (upd v_this_words v_this_spoken.toNatClampNeg x1)))] := hD
    cases hf
    exact gx_vret hx hb hr hlocks rfl hP hD hS dX1_speak_29
theorem X1_speak_ok (l : Launch) (D : va_G) (cI cJ cB cO : ClassId) (tM tS : Nat) (a_this a_this_seats a_this_words : Nat)  (v_this_seated v_this_spoken : Int32) (v_this_words : Nat → Int32) (x1 n_this_spoken : Int32) (n_this_words : Nat → Int32) (hf : X1_speak x1 v_this_spoken v_this_words = some (n_this_spoken, n_this_words)) : gx_M l yX1_speak cX1_speak 2 none X1_speak_rm D cI cJ cB cO tM tS [.ref a_this, .int x1] [(a_this, .inr (1, [.ref a_this_seats, .ref a_this_words, .int v_this_seated, .int v_this_spoken])), (a_this_words, .inl (cI, 12, .inl v_this_words))] (X1_speak_B cI cJ cB cO a_this a_this_seats a_this_words v_this_seated n_this_spoken n_this_words) none 0 0 := by
  refine gx_of (by decide) (Nat.le_of_ble_eq_true rfl) ?_
  intro p e s m args below meth c ls A C hP hD hl _
  have hl : lv_has ls 2 [(0, .ref a_this), (1, .int x1)] := hl
  exact X1_speak_b0_ok C a_this a_this_seats a_this_words v_this_seated n_this_spoken n_this_words x1 v_this_spoken v_this_words hf s.heap [] ls hP hD va_S.rf hl
def X1_spoken_B (cI cJ cB cO : ClassId) (a_this a_this_seats a_this_words : Nat) (v_this_seated v_this_spoken : Int32) : va_W → Prop := fun w1 => w1 = [(a_this, .inr (1, [.ref a_this_seats, .ref a_this_words, .int v_this_seated, .int v_this_spoken]))]
abbrev X1_spoken_rm : Room := { frames := 0, cells := 0, slots := 0, locals := 0 }
set_option maxHeartbeats 4000000 in
set_option maxRecDepth 100000 in
theorem X1_spoken_b0_ok {p : Program} {l : Launch} {e : Env} {s : State} {m : MethodId} {args : Array Value} {below : List Frame} {meth : Method} {c : Code} {D : va_G} {cI cJ cB cO : ClassId} {tM tS : Nat} {A : Nat → Prop} (C : gx_X p s m args meth c cX1_spoken 1 (some .int) RX1 D cI cJ cB cO tM tS A) (a_this a_this_seats a_this_words : Nat) (v_this_seated : Int32) (n_r : Int32)  : ∀ (v_this_spoken : Int32) , X1_spoken v_this_spoken = some n_r → gx_Wt p l e X1_spoken_rm s m args below meth c (MQ below (gx_Q D A (X1_spoken_B cI cJ cB cO a_this a_this_seats a_this_words v_this_seated v_this_spoken) (some (.int n_r))) args s 0 0 A) D A 1 [(a_this, .inr (1, [.ref a_this_seats, .ref a_this_words, .int v_this_seated, .int v_this_spoken]))] [(0, .ref a_this)] 0 [] := by
  intro v_this_spoken hf H locs ls hP hD hS hl
  obtain ⟨hx, hb, hr, hml, hown, hW, hlocks, hE, hA⟩ := id C
  unfold X1_spoken at hf
  refine lv_aload_n hx hb dX1_spoken_0 rfl (lv_at hl 0 rfl) ?_
  refine va_get (D := D) (ci := 1) (v := .int v_this_spoken) (C := RX1) (T := TX1) (N := 4) hx hb hW in_X1 hown hE.1 hP 0 rfl rfl 3 (by decide) (hW _ tw_89) (fun _ h9 => h9) rfl dX1_spoken_1 ?_
  cases hf
  exact gx_iret hx hb hr hlocks rfl hP hD hS dX1_spoken_4
theorem X1_spoken_ok (l : Launch) (D : va_G) (cI cJ cB cO : ClassId) (tM tS : Nat) (a_this a_this_seats a_this_words : Nat)  (v_this_seated v_this_spoken n_r : Int32) (hf : X1_spoken v_this_spoken = some n_r) : gx_M l yX1_spoken cX1_spoken 1 (some .int) X1_spoken_rm D cI cJ cB cO tM tS [.ref a_this] [(a_this, .inr (1, [.ref a_this_seats, .ref a_this_words, .int v_this_seated, .int v_this_spoken]))] (X1_spoken_B cI cJ cB cO a_this a_this_seats a_this_words v_this_seated v_this_spoken) (some (.int n_r)) 0 0 := by
  refine gx_of (by decide) (Nat.le_of_ble_eq_true rfl) ?_
  intro p e s m args below meth c ls A C hP hD hl _
  have hl : lv_has ls 1 [(0, .ref a_this)] := hl
  exact X1_spoken_b0_ok C a_this a_this_seats a_this_words v_this_seated n_r v_this_spoken hf s.heap [] ls hP hD va_S.rf hl
def X1_wordAt_B (cI cJ cB cO : ClassId) (a_this a_this_seats a_this_words : Nat) (v_this_seated v_this_spoken : Int32) (v_this_words : Nat → Int32) : va_W → Prop := fun w1 => w1 = [(a_this, .inr (1, [.ref a_this_seats, .ref a_this_words, .int v_this_seated, .int v_this_spoken])), (a_this_words, .inl (cI, 12, .inl v_this_words))]
abbrev X1_wordAt_rm : Room := { frames := 0, cells := 0, slots := 0, locals := 0 }
set_option maxHeartbeats 4000000 in
set_option maxRecDepth 100000 in
theorem X1_wordAt_b0_ok {p : Program} {l : Launch} {e : Env} {s : State} {m : MethodId} {args : Array Value} {below : List Frame} {meth : Method} {c : Code} {D : va_G} {cI cJ cB cO : ClassId} {tM tS : Nat} {A : Nat → Prop} (C : gx_X p s m args meth c cX1_wordAt 2 (some .int) RX1 D cI cJ cB cO tM tS A) (a_this a_this_seats a_this_words : Nat) (v_this_seated : Int32) (n_r : Int32)  : ∀ (x1 v_this_spoken : Int32) (v_this_words : Nat → Int32) , X1_wordAt x1 v_this_spoken v_this_words = some n_r → gx_Wt p l e X1_wordAt_rm s m args below meth c (MQ below (gx_Q D A (X1_wordAt_B cI cJ cB cO a_this a_this_seats a_this_words v_this_seated v_this_spoken v_this_words) (some (.int n_r))) args s 0 0 A) D A 2 [(a_this, .inr (1, [.ref a_this_seats, .ref a_this_words, .int v_this_seated, .int v_this_spoken])), (a_this_words, .inl (cI, 12, .inl v_this_words))] [(0, .ref a_this), (1, .int x1)] 0 [] := by
  intro x1 v_this_spoken v_this_words hf H locs ls hP hD hS hl
  obtain ⟨hx, hb, hr, hml, hown, hW, hlocks, hE, hA⟩ := id C
  unfold X1_wordAt at hf
  refine lv_iload_n hx hb dX1_wordAt_0 rfl (lv_at hl 1 rfl) ?_
  refine lv_if_lt (tgt := 27) hx hb dX1_wordAt_1 (by decide) (fun hc => ?_) (fun hc => ?_)
  · have hf := gx_t hf hc
    refine lv_bipush (v := -4) hx hb dX1_wordAt_27 (by decide) ?_
    cases hf
    exact gx_iret hx hb hr hlocks rfl hP hD hS dX1_wordAt_29
  · have hf := gx_f hf hc
    refine lv_iload_n hx hb dX1_wordAt_4 rfl (lv_at hl 1 rfl) ?_
    refine lv_aload_n hx hb dX1_wordAt_5 rfl (lv_at hl 0 rfl) ?_
    refine va_get (D := D) (ci := 1) (v := .int v_this_spoken) (C := RX1) (T := TX1) (N := 4) hx hb hW in_X1 hown hE.1 hP 0 rfl rfl 3 (by decide) (hW _ tw_89) (fun _ h9 => h9) rfl dX1_wordAt_6 ?_
    refine lv_icmp_ge (tgt := 27) hx hb dX1_wordAt_9 (by decide) (fun hc => ?_) (fun hc => ?_)
    · have hf := gx_t hf hc
      refine lv_bipush (v := -4) hx hb dX1_wordAt_27 (by decide) ?_
      cases hf
      exact gx_iret hx hb hr hlocks rfl hP hD hS dX1_wordAt_29
    · have hf := gx_f hf hc
      refine lv_iload_n hx hb dX1_wordAt_12 rfl (lv_at hl 1 rfl) ?_
      refine lv_bipush (v := 12) hx hb dX1_wordAt_13 (by decide) ?_
      refine lv_icmp_ge (tgt := 27) hx hb dX1_wordAt_15 (by decide) (fun hc => ?_) (fun hc => ?_)
      · have hf := gx_t hf hc
        refine lv_bipush (v := -4) hx hb dX1_wordAt_27 (by decide) ?_
        cases hf
        exact gx_iret hx hb hr hlocks rfl hP hD hS dX1_wordAt_29
      · have hf := gx_f hf hc
        refine lv_aload_n hx hb dX1_wordAt_18 rfl (lv_at hl 0 rfl) ?_
        refine va_get (D := D) (ci := 1) (v := .ref a_this_words) (C := RX1) (T := TX1) (N := 4) hx hb hW in_X1 hown hE.1 hP 0 rfl rfl 1 (by decide) (hW _ tw_87) (fun _ h9 => h9) rfl dX1_wordAt_19 ?_
        refine lv_iload_n hx hb dX1_wordAt_22 rfl (lv_at hl 1 rfl) ?_
        obtain ⟨h1, hf⟩ := gx_ite hf
        refine va_iald hx hb hE.1 hP 1 0 rfl rfl h1 dX1_wordAt_23 ?_
        refine lv_goto (tgt := 29) hx hb dX1_wordAt_24 (by decide) ?_
        cases hf
        exact gx_iret hx hb hr hlocks rfl hP hD hS dX1_wordAt_29
theorem X1_wordAt_ok (l : Launch) (D : va_G) (cI cJ cB cO : ClassId) (tM tS : Nat) (a_this a_this_seats a_this_words : Nat)  (v_this_seated v_this_spoken : Int32) (v_this_words : Nat → Int32) (x1 n_r : Int32) (hf : X1_wordAt x1 v_this_spoken v_this_words = some n_r) : gx_M l yX1_wordAt cX1_wordAt 2 (some .int) X1_wordAt_rm D cI cJ cB cO tM tS [.ref a_this, .int x1] [(a_this, .inr (1, [.ref a_this_seats, .ref a_this_words, .int v_this_seated, .int v_this_spoken])), (a_this_words, .inl (cI, 12, .inl v_this_words))] (X1_wordAt_B cI cJ cB cO a_this a_this_seats a_this_words v_this_seated v_this_spoken v_this_words) (some (.int n_r)) 0 0 := by
  refine gx_of (by decide) (Nat.le_of_ble_eq_true rfl) ?_
  intro p e s m args below meth c ls A C hP hD hl _
  have hl : lv_has ls 2 [(0, .ref a_this), (1, .int x1)] := hl
  exact X1_wordAt_b0_ok C a_this a_this_seats a_this_words v_this_seated n_r x1 v_this_spoken v_this_words hf s.heap [] ls hP hD va_S.rf hl
def X6_isSense_B (cI cJ cB cO : ClassId)  : va_W → Prop := fun w1 => w1 = []
abbrev X6_isSense_rm : Room := { frames := 0, cells := 0, slots := 0, locals := 0 }
set_option maxHeartbeats 4000000 in
set_option maxRecDepth 100000 in
theorem X6_isSense_b0_ok {p : Program} {l : Launch} {e : Env} {s : State} {m : MethodId} {args : Array Value} {below : List Frame} {meth : Method} {c : Code} {D : va_G} {cI cJ cB cO : ClassId} {tM tS : Nat} {A : Nat → Prop} (C : gx_X p s m args meth c cX6_isSense 1 (some .boolean) RX6 D cI cJ cB cO tM tS A) (n_r : Int32)  : ∀ (x0 : Int32) , X6_isSense x0 = some n_r → gx_Wt p l e X6_isSense_rm s m args below meth c (MQ below (gx_Q D A (X6_isSense_B cI cJ cB cO) (some (.int n_r))) args s 0 0 A) D A 1 [] [(0, .int x0)] 0 [] := by
  intro x0 hf H locs ls hP hD hS hl
  obtain ⟨hx, hb, hr, hml, hown, hW, hlocks, hE, hA⟩ := id C
  unfold X6_isSense at hf
  refine lv_iload_n hx hb dX6_isSense_0 rfl (lv_at hl 0 rfl) ?_
  refine lv_if_lt (tgt := 14) hx hb dX6_isSense_1 (by decide) (fun hc => ?_) (fun hc => ?_)
  · have hf := gx_t hf hc
    refine lv_iconst (v := 0) hx hb dX6_isSense_14 (by decide) ?_
    cases hf
    exact gx_zret hx hb hr hlocks (by decide) rfl hP hD hS dX6_isSense_15
  · have hf := gx_f hf hc
    refine lv_iload_n hx hb dX6_isSense_4 rfl (lv_at hl 0 rfl) ?_
    refine lv_bipush (v := 10) hx hb dX6_isSense_5 (by decide) ?_
    refine lv_icmp_ge (tgt := 14) hx hb dX6_isSense_7 (by decide) (fun hc => ?_) (fun hc => ?_)
    · have hf := gx_t hf hc
      refine lv_iconst (v := 0) hx hb dX6_isSense_14 (by decide) ?_
      cases hf
      exact gx_zret hx hb hr hlocks (by decide) rfl hP hD hS dX6_isSense_15
    · have hf := gx_f hf hc
      refine lv_iconst (v := 1) hx hb dX6_isSense_10 (by decide) ?_
      refine lv_goto (tgt := 15) hx hb dX6_isSense_11 (by decide) ?_
      cases hf
      exact gx_zret hx hb hr hlocks (by decide) rfl hP hD hS dX6_isSense_15
theorem X6_isSense_ok (l : Launch) (D : va_G) (cI cJ cB cO : ClassId) (tM tS : Nat)  (x0 n_r : Int32) (hf : X6_isSense x0 = some n_r) : gx_M l yX6_isSense cX6_isSense 1 (some .boolean) X6_isSense_rm D cI cJ cB cO tM tS [.int x0] [] (X6_isSense_B cI cJ cB cO) (some (.int n_r)) 0 0 := by
  refine gx_of (by decide) (Nat.le_of_ble_eq_true rfl) ?_
  intro p e s m args below meth c ls A C hP hD hl _
  have hl : lv_has ls 1 [(0, .int x0)] := hl
  exact X6_isSense_b0_ok C n_r x0 hf s.heap [] ls hP hD va_S.rf hl
def X2_above_B (cI cJ cB cO : ClassId) (a_this a_this_cells a_this_behind : Nat) (v_this_below : Int64) (v_this_cells : Nat → Int64) : va_W → Prop := fun w1 => w1 = [(a_this, .inr (2, [.ref a_this_cells, .ref a_this_behind, .long v_this_below])), (a_this_cells, .inl (cJ, 100, .inr (.inl v_this_cells)))]
abbrev X2_above_rm : Room := { frames := 1, cells := 0, slots := 0, locals := 20 }
set_option maxHeartbeats 4000000 in
set_option maxRecDepth 100000 in
theorem X2_above_b0_ok {p : Program} {l : Launch} {e : Env} {s : State} {m : MethodId} {args : Array Value} {below : List Frame} {meth : Method} {c : Code} {D : va_G} {cI cJ cB cO : ClassId} {tM tS : Nat} {A : Nat → Prop} (C : gx_X p s m args meth c cX2_above 3 (some .long) RX2 D cI cJ cB cO tM tS A) (a_this a_this_cells a_this_behind : Nat) (v_this_below : Int64) (n_r : Int64)  : ∀ (x1 x2 : Int32) (v_this_cells : Nat → Int64) , X2_above x1 x2 v_this_cells = some n_r → gx_Wt p l e X2_above_rm s m args below meth c (MQ below (gx_Q D A (X2_above_B cI cJ cB cO a_this a_this_cells a_this_behind v_this_below v_this_cells) (some (.long n_r))) args s 0 0 A) D A 3 [(a_this, .inr (2, [.ref a_this_cells, .ref a_this_behind, .long v_this_below])), (a_this_cells, .inl (cJ, 100, .inr (.inl v_this_cells)))] [(0, .ref a_this), (1, .int x1), (2, .int x2)] 0 [] := by
  intro x1 x2 v_this_cells hf H locs ls hP hD hS hl
  obtain ⟨hx, hb, hr, hml, hown, hW, hlocks, hE, hA⟩ := id C
  unfold X2_above at hf
  refine lv_iload_n hx hb dX2_above_0 rfl (lv_at hl 1 rfl) ?_
  obtain ⟨r1, hg, hf⟩ := gx_bs hf
  refine gx_SN (As := [.int x1]) (rest := []) (st1 := [.int r1]) (cells1 := 0) (slots1 := 0) (wc := []) (wr := [(a_this, .inr (2, [.ref a_this_cells, .ref a_this_behind, .long v_this_below])), (a_this_cells, .inl (cJ, 100, .inr (.inl v_this_cells)))]) ⟨hx, hb, hml, hown, hW⟩ (X6_isSense_ok l D cI cJ cB cO tM tS x1 r1 hg) yk_X6_isSense (hE.2.1.2.2.2.2.2.2.2.1) tw_334 ⟨rfl, rfl⟩ ⟨Nat.le_of_ble_eq_true rfl, Nat.le_of_ble_eq_true rfl⟩ hE hP hD hS hA [] [0, 1] rfl rfl (by decide +kernel) (by decide +kernel) rfl (by decide +kernel) rfl hl.1 (Nat.le_of_ble_eq_true rfl) rfl rfl dX2_above_1 ⟨Nat.le_of_ble_eq_true rfl, Nat.le_of_ble_eq_true rfl⟩ ⟨rfl, rfl⟩ (fun w1 H locs hB hP hD hS => ?_)
  obtain rfl := hB
  have hP : va_P D gx_cl [(a_this, .inr (2, [.ref a_this_cells, .ref a_this_behind, .long v_this_below])), (a_this_cells, .inl (cJ, 100, .inr (.inl v_this_cells)))] H := hP
  have hD : va_D A [(a_this, .inr (2, [.ref a_this_cells, .ref a_this_behind, .long v_this_below])), (a_this_cells, .inl (cJ, 100, .inr (.inl v_this_cells)))] := hD
  refine lv_if_eq (tgt := 28) hx hb dX2_above_4 (by decide) (fun hc => ?_) (fun hc => ?_)
  · have hf := gx_t hf hc
    refine lv_lconst (v := 0) hx hb dX2_above_28 (by decide) ?_
    cases hf
    exact gx_lret hx hb hr hlocks rfl hP hD hS dX2_above_29
  · have hf := gx_f hf hc
    refine lv_iload_n hx hb dX2_above_7 rfl (lv_at hl 2 rfl) ?_
    obtain ⟨r2, hg, hf⟩ := gx_bs hf
    refine gx_SN (As := [.int x2]) (rest := []) (st1 := [.int r2]) (cells1 := 0) (slots1 := 0) (wc := []) (wr := [(a_this, .inr (2, [.ref a_this_cells, .ref a_this_behind, .long v_this_below])), (a_this_cells, .inl (cJ, 100, .inr (.inl v_this_cells)))]) ⟨hx, hb, hml, hown, hW⟩ (X6_isSense_ok l D cI cJ cB cO tM tS x2 r2 hg) yk_X6_isSense (hE.2.1.2.2.2.2.2.2.2.1) tw_334 ⟨rfl, rfl⟩ ⟨Nat.le_of_ble_eq_true rfl, Nat.le_of_ble_eq_true rfl⟩ hE hP hD hS hA [] [0, 1] rfl rfl (by decide +kernel) (by decide +kernel) rfl (by decide +kernel) rfl hl.1 (Nat.le_of_ble_eq_true rfl) rfl rfl dX2_above_8 ⟨Nat.le_of_ble_eq_true rfl, Nat.le_of_ble_eq_true rfl⟩ ⟨rfl, rfl⟩ (fun w1 H locs hB hP hD hS => ?_)
    obtain rfl := hB
    have hP : va_P D gx_cl [(a_this, .inr (2, [.ref a_this_cells, .ref a_this_behind, .long v_this_below])), (a_this_cells, .inl (cJ, 100, .inr (.inl v_this_cells)))] H := hP
    have hD : va_D A [(a_this, .inr (2, [.ref a_this_cells, .ref a_this_behind, .long v_this_below])), (a_this_cells, .inl (cJ, 100, .inr (.inl v_this_cells)))] := hD
    refine lv_if_eq (tgt := 28) hx hb dX2_above_11 (by decide) (fun hc => ?_) (fun hc => ?_)
    · have hf := gx_t hf hc
      refine lv_lconst (v := 0) hx hb dX2_above_28 (by decide) ?_
      cases hf
      exact gx_lret hx hb hr hlocks rfl hP hD hS dX2_above_29
    · have hf := gx_f hf hc
      refine lv_aload_n hx hb dX2_above_14 rfl (lv_at hl 0 rfl) ?_
      refine va_get (D := D) (ci := 2) (v := .ref a_this_cells) (C := RX2) (T := TX2) (N := 3) hx hb hW in_X2 hown hE.1 hP 0 rfl rfl 0 (by decide) (hW _ tw_118) (fun _ h9 => h9) rfl dX2_above_15 ?_
      refine lv_iload_n hx hb dX2_above_18 rfl (lv_at hl 2 rfl) ?_
      refine lv_bipush (v := 10) hx hb dX2_above_19 (by decide) ?_
      refine lv_imul hx hb dX2_above_21 ?_
      refine lv_iload_n hx hb dX2_above_22 rfl (lv_at hl 1 rfl) ?_
      refine lv_iadd hx hb dX2_above_23 ?_
      obtain ⟨h3, hf⟩ := gx_ite hf
      refine va_lald hx hb hE.1 hP 1 1 rfl rfl h3 dX2_above_24 ?_
      refine lv_goto (tgt := 29) hx hb dX2_above_25 (by decide) ?_
      cases hf
      exact gx_lret hx hb hr hlocks rfl hP hD hS dX2_above_29
theorem X2_above_ok (l : Launch) (D : va_G) (cI cJ cB cO : ClassId) (tM tS : Nat) (a_this a_this_cells a_this_behind : Nat)  (v_this_below : Int64) (v_this_cells : Nat → Int64) (x1 x2 : Int32) (n_r : Int64) (hf : X2_above x1 x2 v_this_cells = some n_r) : gx_M l yX2_above cX2_above 3 (some .long) X2_above_rm D cI cJ cB cO tM tS [.ref a_this, .int x1, .int x2] [(a_this, .inr (2, [.ref a_this_cells, .ref a_this_behind, .long v_this_below])), (a_this_cells, .inl (cJ, 100, .inr (.inl v_this_cells)))] (X2_above_B cI cJ cB cO a_this a_this_cells a_this_behind v_this_below v_this_cells) (some (.long n_r)) 0 0 := by
  refine gx_of (by decide) (Nat.le_of_ble_eq_true rfl) ?_
  intro p e s m args below meth c ls A C hP hD hl _
  have hl : lv_has ls 3 [(0, .ref a_this), (1, .int x1), (2, .int x2)] := hl
  exact X2_above_b0_ok C a_this a_this_cells a_this_behind v_this_below n_r x1 x2 v_this_cells hf s.heap [] ls hP hD va_S.rf hl
def X2_below_B (cI cJ cB cO : ClassId) (a_this a_this_cells a_this_behind : Nat) (v_this_below : Int64) : va_W → Prop := fun w1 => w1 = [(a_this, .inr (2, [.ref a_this_cells, .ref a_this_behind, .long v_this_below]))]
abbrev X2_below_rm : Room := { frames := 0, cells := 0, slots := 0, locals := 0 }
set_option maxHeartbeats 4000000 in
set_option maxRecDepth 100000 in
theorem X2_below_b0_ok {p : Program} {l : Launch} {e : Env} {s : State} {m : MethodId} {args : Array Value} {below : List Frame} {meth : Method} {c : Code} {D : va_G} {cI cJ cB cO : ClassId} {tM tS : Nat} {A : Nat → Prop} (C : gx_X p s m args meth c cX2_below 1 (some .long) RX2 D cI cJ cB cO tM tS A) (a_this a_this_cells a_this_behind : Nat) (n_r : Int64)  : ∀ (v_this_below : Int64) , X2_below v_this_below = some n_r → gx_Wt p l e X2_below_rm s m args below meth c (MQ below (gx_Q D A (X2_below_B cI cJ cB cO a_this a_this_cells a_this_behind v_this_below) (some (.long n_r))) args s 0 0 A) D A 1 [(a_this, .inr (2, [.ref a_this_cells, .ref a_this_behind, .long v_this_below]))] [(0, .ref a_this)] 0 [] := by
  intro v_this_below hf H locs ls hP hD hS hl
  obtain ⟨hx, hb, hr, hml, hown, hW, hlocks, hE, hA⟩ := id C
  unfold X2_below at hf
  refine lv_aload_n hx hb dX2_below_0 rfl (lv_at hl 0 rfl) ?_
  refine va_get (D := D) (ci := 2) (v := .long v_this_below) (C := RX2) (T := TX2) (N := 3) hx hb hW in_X2 hown hE.1 hP 0 rfl rfl 2 (by decide) (hW _ tw_120) (fun _ h9 => h9) rfl dX2_below_1 ?_
  cases hf
  exact gx_lret hx hb hr hlocks rfl hP hD hS dX2_below_4
theorem X2_below_ok (l : Launch) (D : va_G) (cI cJ cB cO : ClassId) (tM tS : Nat) (a_this a_this_cells a_this_behind : Nat)  (v_this_below n_r : Int64) (hf : X2_below v_this_below = some n_r) : gx_M l yX2_below cX2_below 1 (some .long) X2_below_rm D cI cJ cB cO tM tS [.ref a_this] [(a_this, .inr (2, [.ref a_this_cells, .ref a_this_behind, .long v_this_below]))] (X2_below_B cI cJ cB cO a_this a_this_cells a_this_behind v_this_below) (some (.long n_r)) 0 0 := by
  refine gx_of (by decide) (Nat.le_of_ble_eq_true rfl) ?_
  intro p e s m args below meth c ls A C hP hD hl _
  have hl : lv_has ls 1 [(0, .ref a_this)] := hl
  exact X2_below_b0_ok C a_this a_this_cells a_this_behind n_r v_this_below hf s.heap [] ls hP hD va_S.rf hl
def X2_clear_B (cI cJ cB cO : ClassId) (a_this a_this_cells a_this_behind : Nat) (n_this_below : Int64) (n_this_cells : Nat → Int64) : va_W → Prop := fun w1 => w1 = [(a_this, .inr (2, [.ref a_this_cells, .ref a_this_behind, .long n_this_below])), (a_this_cells, .inl (cJ, 100, .inr (.inl n_this_cells)))]
abbrev X2_clear_rm : Room := { frames := 1, cells := 0, slots := 0, locals := 24 }
set_option maxHeartbeats 4000000 in
set_option maxRecDepth 100000 in
theorem X2_clear_b34_ok {p : Program} {l : Launch} {e : Env} {s : State} {m : MethodId} {args : Array Value} {below : List Frame} {meth : Method} {c : Code} {D : va_G} {cI cJ cB cO : ClassId} {tM tS : Nat} {A : Nat → Prop} (C : gx_X p s m args meth c cX2_clear 2 none RX2 D cI cJ cB cO tM tS A) (a_this a_this_cells a_this_behind : Nat) (n_this_below : Int64) (n_this_cells : Nat → Int64)  : ∀ (v_this_below : Int64) (v_this_cells : Nat → Int64) , X2_clear_b34 v_this_below v_this_cells = some (n_this_below, n_this_cells) → gx_Wt p l e X2_clear_rm s m args below meth c (MQ below (gx_Q D A (X2_clear_B cI cJ cB cO a_this a_this_cells a_this_behind n_this_below n_this_cells) none) args s 0 0 A) D A 2 [(a_this, .inr (2, [.ref a_this_cells, .ref a_this_behind, .long v_this_below])), (a_this_cells, .inl (cJ, 100, .inr (.inl v_this_cells)))] [(0, .ref a_this)] 34 [] := by
  intro v_this_below v_this_cells hf H locs ls hP hD hS hl
  obtain ⟨hx, hb, hr, hml, hown, hW, hlocks, hE, hA⟩ := id C
  unfold X2_clear_b34 at hf
  refine lv_aload_n hx hb dX2_clear_34 rfl (lv_at hl 0 rfl) ?_
  refine lv_lconst (v := 1) hx hb dX2_clear_35 (by decide) ?_
  refine va_put (D := D) (ci := 2) (v := .long (1 : Int64)) (ty := tyX2 2) (C := RX2) (T := TX2) (N := 3) hx hb hW in_X2 tyX2 tyX2_ok nmX2 hown hE.1 hP hD hS 0 rfl rfl 2 (by decide) (hW _ tw_120) (fun _ h9 => h9) rfl (by decide +kernel) rfl rfl (Nat.le_of_ble_eq_true rfl) dX2_clear_36 (fun H locs hP hD hS => ?_)
  have hP : va_P D gx_cl [(a_this, .inr (2, [.ref a_this_cells, .ref a_this_behind, .long (1 : Int64)])), (a_this_cells, .inl (cJ, 100, .inr (.inl v_this_cells)))] H := hP
  have hD : va_D A [(a_this, .inr (2, [.ref a_this_cells, .ref a_this_behind, .long (1 : Int64)])), (a_this_cells, .inl (cJ, 100, .inr (.inl v_this_cells)))] := hD
  cases hf
  exact gx_vret hx hb hr hlocks rfl hP hD hS dX2_clear_39
set_option maxHeartbeats 4000000 in
set_option maxRecDepth 100000 in
theorem X2_clear_b10_ok {p : Program} {l : Launch} {e : Env} {s : State} {m : MethodId} {args : Array Value} {below : List Frame} {meth : Method} {c : Code} {D : va_G} {cI cJ cB cO : ClassId} {tM tS : Nat} {A : Nat → Prop} (C : gx_X p s m args meth c cX2_clear 2 none RX2 D cI cJ cB cO tM tS A) (a_this a_this_cells a_this_behind : Nat) (n_this_below : Int64) (n_this_cells : Nat → Int64) (k10 : Int32 → Int64 → (Nat → Int64) → Option (Int64 × (Nat → Int64))) (k34 : Int64 → (Nat → Int64) → Option (Int64 × (Nat → Int64))) (K10 : ∀ (x1 : Int32) (v_this_below : Int64) (v_this_cells : Nat → Int64) , k10 x1 v_this_below v_this_cells = some (n_this_below, n_this_cells) → gx_Wt p l e X2_clear_rm s m args below meth c (MQ below (gx_Q D A (X2_clear_B cI cJ cB cO a_this a_this_cells a_this_behind n_this_below n_this_cells) none) args s 0 0 A) D A 2 [(a_this, .inr (2, [.ref a_this_cells, .ref a_this_behind, .long v_this_below])), (a_this_cells, .inl (cJ, 100, .inr (.inl v_this_cells)))] [(0, .ref a_this), (1, .int x1)] 10 []) (K34 : ∀ (v_this_below : Int64) (v_this_cells : Nat → Int64) , k34 v_this_below v_this_cells = some (n_this_below, n_this_cells) → gx_Wt p l e X2_clear_rm s m args below meth c (MQ below (gx_Q D A (X2_clear_B cI cJ cB cO a_this a_this_cells a_this_behind n_this_below n_this_cells) none) args s 0 0 A) D A 2 [(a_this, .inr (2, [.ref a_this_cells, .ref a_this_behind, .long v_this_below])), (a_this_cells, .inl (cJ, 100, .inr (.inl v_this_cells)))] [(0, .ref a_this)] 34 []) : ∀ (x1 : Int32) (v_this_below : Int64) (v_this_cells : Nat → Int64) , X2_clear_b10 k10 k34 x1 v_this_below v_this_cells = some (n_this_below, n_this_cells) → gx_Wt p l e X2_clear_rm s m args below meth c (MQ below (gx_Q D A (X2_clear_B cI cJ cB cO a_this a_this_cells a_this_behind n_this_below n_this_cells) none) args s 0 0 A) D A 2 [(a_this, .inr (2, [.ref a_this_cells, .ref a_this_behind, .long v_this_below])), (a_this_cells, .inl (cJ, 100, .inr (.inl v_this_cells)))] [(0, .ref a_this), (1, .int x1)] 10 [] := by
  intro x1 v_this_below v_this_cells hf H locs ls hP hD hS hl
  obtain ⟨hx, hb, hr, hml, hown, hW, hlocks, hE, hA⟩ := id C
  unfold X2_clear_b10 at hf
  refine lv_iload_n hx hb dX2_clear_10 rfl (lv_at hl 1 rfl) ?_
  refine lv_bipush (v := 10) hx hb dX2_clear_11 (by decide) ?_
  refine lv_icmp_ge (tgt := 34) hx hb dX2_clear_13 (by decide) (fun hc => ?_) (fun hc => ?_)
  · have hf := gx_t hf hc
    exact K34 v_this_below v_this_cells hf H locs ls hP hD hS (lv_sub hl [0] rfl)
  · have hf := gx_f hf hc
    refine lv_aload_n hx hb dX2_clear_16 rfl (lv_at hl 0 rfl) ?_
    refine va_get (D := D) (ci := 2) (v := .ref a_this_cells) (C := RX2) (T := TX2) (N := 3) hx hb hW in_X2 hown hE.1 hP 0 rfl rfl 0 (by decide) (hW _ tw_118) (fun _ h9 => h9) rfl dX2_clear_17 ?_
    refine lv_iload_n hx hb dX2_clear_20 rfl (lv_at hl 1 rfl) ?_
    refine lv_bipush (v := 10) hx hb dX2_clear_21 (by decide) ?_
    refine lv_imul hx hb dX2_clear_23 ?_
    refine lv_iload_n hx hb dX2_clear_24 rfl (lv_at hl 1 rfl) ?_
    refine lv_iadd hx hb dX2_clear_25 ?_
    refine lv_lconst (v := 1) hx hb dX2_clear_26 (by decide) ?_
    obtain ⟨h1, hf⟩ := gx_ite hf
    refine va_last hx hb hE.1 hP hD hS 1 1 rfl rfl h1 dX2_clear_27 (fun H locs hP hD hS => ?_)
    have hP : va_P D gx_cl [(a_this, .inr (2, [.ref a_this_cells, .ref a_this_behind, .long v_this_below])), (a_this_cells, .inl (cJ, 100, .inr (.inl (vp_updL v_this_cells ((x1 * (10 : Int32)) + x1).toNatClampNeg (1 : Int64)))))] H := hP
    have hD : va_D A [(a_this, .inr (2, [.ref a_this_cells, .ref a_this_behind, .long v_this_below])), (a_this_cells, .inl (cJ, 100, .inr (.inl (vp_updL v_this_cells ((x1 * (10 : Int32)) + x1).toNatClampNeg (1 : Int64)))))] := hD
    refine lv_iinc (v := x1 + 1) (lv' := [(1, .int (x1 + 1)), (0, .ref a_this)]) hx hb dX2_clear_28 hl (k := 1) rfl rfl (by decide) rfl (fun ls hl => ?_)
    refine lv_goto (tgt := 10) hx hb dX2_clear_31 (by decide) ?_
    exact K10 (x1 + 1) v_this_below (vp_updL v_this_cells ((x1 * (10 : Int32)) + x1).toNatClampNeg (1 : Int64)) hf H locs ls hP hD hS (lv_sub hl [1, 0] rfl)
theorem X2_clear_l10_ok {p : Program} {l : Launch} {e : Env} {s : State} {m : MethodId} {args : Array Value} {below : List Frame} {meth : Method} {c : Code} {D : va_G} {cI cJ cB cO : ClassId} {tM tS : Nat} {A : Nat → Prop} (C : gx_X p s m args meth c cX2_clear 2 none RX2 D cI cJ cB cO tM tS A) (a_this a_this_cells a_this_behind : Nat) (n_this_below : Int64) (n_this_cells : Nat → Int64) (k34 : Int64 → (Nat → Int64) → Option (Int64 × (Nat → Int64))) (K34 : ∀ (v_this_below : Int64) (v_this_cells : Nat → Int64) , k34 v_this_below v_this_cells = some (n_this_below, n_this_cells) → gx_Wt p l e X2_clear_rm s m args below meth c (MQ below (gx_Q D A (X2_clear_B cI cJ cB cO a_this a_this_cells a_this_behind n_this_below n_this_cells) none) args s 0 0 A) D A 2 [(a_this, .inr (2, [.ref a_this_cells, .ref a_this_behind, .long v_this_below])), (a_this_cells, .inl (cJ, 100, .inr (.inl v_this_cells)))] [(0, .ref a_this)] 34 []) : ∀ (n : Nat) (x1 : Int32) (v_this_below : Int64) (v_this_cells : Nat → Int64) , X2_clear_l10 k34 n x1 v_this_below v_this_cells = some (n_this_below, n_this_cells) → gx_Wt p l e X2_clear_rm s m args below meth c (MQ below (gx_Q D A (X2_clear_B cI cJ cB cO a_this a_this_cells a_this_behind n_this_below n_this_cells) none) args s 0 0 A) D A 2 [(a_this, .inr (2, [.ref a_this_cells, .ref a_this_behind, .long v_this_below])), (a_this_cells, .inl (cJ, 100, .inr (.inl v_this_cells)))] [(0, .ref a_this), (1, .int x1)] 10 [] := by
  intro n
  induction n with
  | zero =>
    intro _ _ _ hf
    cases hf
  | succ n ih => exact fun x1 v_this_below v_this_cells hf => X2_clear_b10_ok C a_this a_this_cells a_this_behind n_this_below n_this_cells (X2_clear_l10 k34 n) k34 ih K34 x1 v_this_below v_this_cells hf
set_option maxHeartbeats 4000000 in
set_option maxRecDepth 100000 in
theorem X2_clear_b0_ok {p : Program} {l : Launch} {e : Env} {s : State} {m : MethodId} {args : Array Value} {below : List Frame} {meth : Method} {c : Code} {D : va_G} {cI cJ cB cO : ClassId} {tM tS : Nat} {A : Nat → Prop} (C : gx_X p s m args meth c cX2_clear 2 none RX2 D cI cJ cB cO tM tS A) (a_this a_this_cells a_this_behind : Nat) (n_this_below : Int64) (n_this_cells : Nat → Int64)  : ∀ (v_this_below : Int64) (v_this_cells : Nat → Int64) , X2_clear v_this_below v_this_cells = some (n_this_below, n_this_cells) → gx_Wt p l e X2_clear_rm s m args below meth c (MQ below (gx_Q D A (X2_clear_B cI cJ cB cO a_this a_this_cells a_this_behind n_this_below n_this_cells) none) args s 0 0 A) D A 2 [(a_this, .inr (2, [.ref a_this_cells, .ref a_this_behind, .long v_this_below])), (a_this_cells, .inl (cJ, 100, .inr (.inl v_this_cells)))] [(0, .ref a_this)] 0 [] := by
  intro v_this_below v_this_cells hf H locs ls hP hD hS hl
  obtain ⟨hx, hb, hr, hml, hown, hW, hlocks, hE, hA⟩ := id C
  unfold X2_clear at hf
  refine lv_aload_n hx hb dX2_clear_0 rfl (lv_at hl 0 rfl) ?_
  refine va_get (D := D) (ci := 2) (v := .ref a_this_cells) (C := RX2) (T := TX2) (N := 3) hx hb hW in_X2 hown hE.1 hP 0 rfl rfl 0 (by decide) (hW _ tw_118) (fun _ h9 => h9) rfl dX2_clear_1 ?_
  refine lv_lconst (v := 0) hx hb dX2_clear_4 (by decide) ?_
  obtain ⟨w1, hg, hf⟩ := gx_bs hf
  refine gx_Sc (As := [.ref a_this_cells, .long (0 : Int64)]) (rest := []) (st1 := []) (cells1 := 0) (slots1 := 0) (wc := [(a_this_cells, .inl (cJ, 100, .inr (.inl v_this_cells)))]) (wr := [(a_this, .inr (2, [.ref a_this_cells, .ref a_this_behind, .long v_this_below]))]) ⟨hx, hb, hml, hown, hW⟩ (J7_fill_d0a16_ok l D cI cJ cB cO tM tS a_this_cells 100 v_this_cells (0 : Int64) w1 hg) yk_J7_fill_d0a16 tw_143 tw_144 ⟨rfl, rfl⟩ ⟨Nat.le_of_ble_eq_true rfl, Nat.le_of_ble_eq_true rfl⟩ hE hP hD hS hA [1] [0] rfl rfl (by decide +kernel) (by decide +kernel) rfl (by decide +kernel) rfl hl.1 (Nat.le_of_ble_eq_true rfl) rfl rfl dX2_clear_5 ⟨Nat.le_of_ble_eq_true rfl, Nat.le_of_ble_eq_true rfl⟩ ⟨rfl, rfl⟩ (fun w1 H locs hB hP hD hS => ?_)
  obtain rfl := hB
  have hP : va_P D gx_cl [(a_this, .inr (2, [.ref a_this_cells, .ref a_this_behind, .long v_this_below])), (a_this_cells, .inl (cJ, 100, .inr (.inl w1)))] H := hP
  have hD : va_D A [(a_this, .inr (2, [.ref a_this_cells, .ref a_this_behind, .long v_this_below])), (a_this_cells, .inl (cJ, 100, .inr (.inl w1)))] := hD
  refine lv_iconst (v := 0) hx hb dX2_clear_8 (by decide) ?_
  refine lv_istore_n (lv' := [(1, .int (0 : Int32)), (0, .ref a_this)]) hx hb dX2_clear_9 rfl hl (by decide) rfl (fun ls hl => ?_)
  exact X2_clear_l10_ok C a_this a_this_cells a_this_behind n_this_below n_this_cells X2_clear_b34 (X2_clear_b34_ok C a_this a_this_cells a_this_behind n_this_below n_this_cells) gx_F (0 : Int32) v_this_below w1 hf H locs ls hP hD hS (lv_sub hl [1, 0] rfl)
theorem X2_clear_ok (l : Launch) (D : va_G) (cI cJ cB cO : ClassId) (tM tS : Nat) (a_this a_this_cells a_this_behind : Nat)  (v_this_below : Int64) (v_this_cells : Nat → Int64) (n_this_below : Int64) (n_this_cells : Nat → Int64) (hf : X2_clear v_this_below v_this_cells = some (n_this_below, n_this_cells)) : gx_M l yX2_clear cX2_clear 2 none X2_clear_rm D cI cJ cB cO tM tS [.ref a_this] [(a_this, .inr (2, [.ref a_this_cells, .ref a_this_behind, .long v_this_below])), (a_this_cells, .inl (cJ, 100, .inr (.inl v_this_cells)))] (X2_clear_B cI cJ cB cO a_this a_this_cells a_this_behind n_this_below n_this_cells) none 0 0 := by
  refine gx_of (by decide) (Nat.le_of_ble_eq_true rfl) ?_
  intro p e s m args below meth c ls A C hP hD hl _
  have hl : lv_has ls 2 [(0, .ref a_this)] := hl
  exact X2_clear_b0_ok C a_this a_this_cells a_this_behind n_this_below n_this_cells v_this_below v_this_cells hf s.heap [] ls hP hD va_S.rf hl
def X2_copyFrom_B (cI cJ cB cO : ClassId) (a_this a_this_cells a_this_behind a_p1 a_p1_cells a_p1_behind : Nat) (v_p1_below : Int64) (v_p1_cells : Nat → Int64) (n_this_below : Int64) (n_this_cells : Nat → Int64) : va_W → Prop := fun w1 => w1 = [(a_this, .inr (2, [.ref a_this_cells, .ref a_this_behind, .long n_this_below])), (a_this_cells, .inl (cJ, 100, .inr (.inl n_this_cells))), (a_p1, .inr (2, [.ref a_p1_cells, .ref a_p1_behind, .long v_p1_below])), (a_p1_cells, .inl (cJ, 100, .inr (.inl v_p1_cells)))]
abbrev X2_copyFrom_rm : Room := { frames := 1, cells := 0, slots := 0, locals := 40 }
set_option maxHeartbeats 4000000 in
set_option maxRecDepth 100000 in
theorem X2_copyFrom_b0_ok {p : Program} {l : Launch} {e : Env} {s : State} {m : MethodId} {args : Array Value} {below : List Frame} {meth : Method} {c : Code} {D : va_G} {cI cJ cB cO : ClassId} {tM tS : Nat} {A : Nat → Prop} (C : gx_X p s m args meth c cX2_copyFrom 2 none RX2 D cI cJ cB cO tM tS A) (a_this a_this_cells a_this_behind a_p1 a_p1_cells a_p1_behind : Nat) (n_this_below : Int64) (n_this_cells : Nat → Int64)  : ∀ (v_this_below : Int64) (v_this_cells : Nat → Int64) (v_p1_below : Int64) (v_p1_cells : Nat → Int64) , X2_copyFrom v_this_below v_this_cells v_p1_below v_p1_cells = some (n_this_below, n_this_cells) → gx_Wt p l e X2_copyFrom_rm s m args below meth c (MQ below (gx_Q D A (X2_copyFrom_B cI cJ cB cO a_this a_this_cells a_this_behind a_p1 a_p1_cells a_p1_behind v_p1_below v_p1_cells n_this_below n_this_cells) none) args s 0 0 A) D A 2 [(a_this, .inr (2, [.ref a_this_cells, .ref a_this_behind, .long v_this_below])), (a_this_cells, .inl (cJ, 100, .inr (.inl v_this_cells))), (a_p1, .inr (2, [.ref a_p1_cells, .ref a_p1_behind, .long v_p1_below])), (a_p1_cells, .inl (cJ, 100, .inr (.inl v_p1_cells)))] [(0, .ref a_this), (1, .ref a_p1)] 0 [] := by
  intro v_this_below v_this_cells v_p1_below v_p1_cells hf H locs ls hP hD hS hl
  obtain ⟨hx, hb, hr, hml, hown, hW, hlocks, hE, hA⟩ := id C
  unfold X2_copyFrom at hf
  refine lv_aload_n hx hb dX2_copyFrom_0 rfl (lv_at hl 1 rfl) ?_
  refine va_get (D := D) (ci := 2) (v := .ref a_p1_cells) (C := RX2) (T := TX2) (N := 3) hx hb hW in_X2 hown hE.1 hP 2 rfl rfl 0 (by decide) (hW _ tw_118) (fun _ h9 => h9) rfl dX2_copyFrom_1 ?_
  refine lv_iconst (v := 0) hx hb dX2_copyFrom_4 (by decide) ?_
  refine lv_aload_n hx hb dX2_copyFrom_5 rfl (lv_at hl 0 rfl) ?_
  refine va_get (D := D) (ci := 2) (v := .ref a_this_cells) (C := RX2) (T := TX2) (N := 3) hx hb hW in_X2 hown hE.1 hP 0 rfl rfl 0 (by decide) (hW _ tw_118) (fun _ h9 => h9) rfl dX2_copyFrom_6 ?_
  refine lv_iconst (v := 0) hx hb dX2_copyFrom_9 (by decide) ?_
  refine lv_bipush (v := 100) hx hb dX2_copyFrom_10 (by decide) ?_
  refine va_copyl hx hb (hml.trans hl.1.symm) hown (hW _ tw_547) (hW _ tw_360) (hW _ tw_359) (hW _ tw_52) hE.1 hP hD hS 3 1 1 1 rfl rfl rfl rfl rfl (by decide) (by decide) (by decide) (by decide) (by decide) (fun _ _ => rfl) (Nat.le_of_ble_eq_true rfl) (Nat.le_of_ble_eq_true rfl) dX2_copyFrom_12 (fun H locs hP hD hS => ?_)
  have hP : va_P D gx_cl [(a_this, .inr (2, [.ref a_this_cells, .ref a_this_behind, .long v_this_below])), (a_this_cells, .inl (cJ, 100, .inr (.inl (va_cpy v_p1_cells v_this_cells (0 : Int32).toNatClampNeg (0 : Int32).toNatClampNeg (100 : Int32).toNatClampNeg)))), (a_p1, .inr (2, [.ref a_p1_cells, .ref a_p1_behind, .long v_p1_below])), (a_p1_cells, .inl (cJ, 100, .inr (.inl v_p1_cells)))] H := hP
  have hD : va_D A [(a_this, .inr (2, [.ref a_this_cells, .ref a_this_behind, .long v_this_below])), (a_this_cells, .inl (cJ, 100, .inr (.inl (va_cpy v_p1_cells v_this_cells (0 : Int32).toNatClampNeg (0 : Int32).toNatClampNeg (100 : Int32).toNatClampNeg)))), (a_p1, .inr (2, [.ref a_p1_cells, .ref a_p1_behind, .long v_p1_below])), (a_p1_cells, .inl (cJ, 100, .inr (.inl v_p1_cells)))] := hD
  refine lv_aload_n hx hb dX2_copyFrom_15 rfl (lv_at hl 0 rfl) ?_
  refine lv_aload_n hx hb dX2_copyFrom_16 rfl (lv_at hl 1 rfl) ?_
  refine va_get (D := D) (ci := 2) (v := .long v_p1_below) (C := RX2) (T := TX2) (N := 3) hx hb hW in_X2 hown hE.1 hP 2 rfl rfl 2 (by decide) (hW _ tw_120) (fun _ h9 => h9) rfl dX2_copyFrom_17 ?_
  refine va_put (D := D) (ci := 2) (v := .long v_p1_below) (ty := tyX2 2) (C := RX2) (T := TX2) (N := 3) hx hb hW in_X2 tyX2 tyX2_ok nmX2 hown hE.1 hP hD hS 0 rfl rfl 2 (by decide) (hW _ tw_120) (fun _ h9 => h9) rfl (by decide +kernel) rfl rfl (Nat.le_of_ble_eq_true rfl) dX2_copyFrom_20 (fun H locs hP hD hS => ?_)
  have hP : va_P D gx_cl [(a_this, .inr (2, [.ref a_this_cells, .ref a_this_behind, .long v_p1_below])), (a_this_cells, .inl (cJ, 100, .inr (.inl (va_cpy v_p1_cells v_this_cells (0 : Int32).toNatClampNeg (0 : Int32).toNatClampNeg (100 : Int32).toNatClampNeg)))), (a_p1, .inr (2, [.ref a_p1_cells, .ref a_p1_behind, .long v_p1_below])), (a_p1_cells, .inl (cJ, 100, .inr (.inl v_p1_cells)))] H := hP
  have hD : va_D A [(a_this, .inr (2, [.ref a_this_cells, .ref a_this_behind, .long v_p1_below])), (a_this_cells, .inl (cJ, 100, .inr (.inl (va_cpy v_p1_cells v_this_cells (0 : Int32).toNatClampNeg (0 : Int32).toNatClampNeg (100 : Int32).toNatClampNeg)))), (a_p1, .inr (2, [.ref a_p1_cells, .ref a_p1_behind, .long v_p1_below])), (a_p1_cells, .inl (cJ, 100, .inr (.inl v_p1_cells)))] := hD
  cases hf
  exact gx_vret hx hb hr hlocks rfl hP hD hS dX2_copyFrom_23
theorem X2_copyFrom_ok (l : Launch) (D : va_G) (cI cJ cB cO : ClassId) (tM tS : Nat) (a_this a_this_cells a_this_behind a_p1 a_p1_cells a_p1_behind : Nat)  (v_this_below : Int64) (v_this_cells : Nat → Int64) (v_p1_below : Int64) (v_p1_cells : Nat → Int64) (n_this_below : Int64) (n_this_cells : Nat → Int64) (hf : X2_copyFrom v_this_below v_this_cells v_p1_below v_p1_cells = some (n_this_below, n_this_cells)) : gx_M l yX2_copyFrom cX2_copyFrom 2 none X2_copyFrom_rm D cI cJ cB cO tM tS [.ref a_this, .ref a_p1] [(a_this, .inr (2, [.ref a_this_cells, .ref a_this_behind, .long v_this_below])), (a_this_cells, .inl (cJ, 100, .inr (.inl v_this_cells))), (a_p1, .inr (2, [.ref a_p1_cells, .ref a_p1_behind, .long v_p1_below])), (a_p1_cells, .inl (cJ, 100, .inr (.inl v_p1_cells)))] (X2_copyFrom_B cI cJ cB cO a_this a_this_cells a_this_behind a_p1 a_p1_cells a_p1_behind v_p1_below v_p1_cells n_this_below n_this_cells) none 0 0 := by
  refine gx_of (by decide) (Nat.le_of_ble_eq_true rfl) ?_
  intro p e s m args below meth c ls A C hP hD hl _
  have hl : lv_has ls 2 [(0, .ref a_this), (1, .ref a_p1)] := hl
  exact X2_copyFrom_b0_ok C a_this a_this_cells a_this_behind a_p1 a_p1_cells a_p1_behind n_this_below n_this_cells v_this_below v_this_cells v_p1_below v_p1_cells hf s.heap [] ls hP hD va_S.rf hl
def X2_kept_B (cI cJ cB cO : ClassId) (a_this a_this_cells a_this_behind : Nat) (v_this_below : Int64) (v_this_cells : Nat → Int64) : va_W → Prop := fun w1 => w1 = [(a_this, .inr (2, [.ref a_this_cells, .ref a_this_behind, .long v_this_below])), (a_this_cells, .inl (cJ, 100, .inr (.inl v_this_cells)))]
abbrev X2_kept_rm : Room := { frames := 2, cells := 0, slots := 0, locals := 42 }
set_option maxHeartbeats 4000000 in
set_option maxRecDepth 100000 in
theorem X2_kept_b4_ok {p : Program} {l : Launch} {e : Env} {s : State} {m : MethodId} {args : Array Value} {below : List Frame} {meth : Method} {c : Code} {D : va_G} {cI cJ cB cO : ClassId} {tM tS : Nat} {A : Nat → Prop} (C : gx_X p s m args meth c cX2_kept 4 (some .long) RX2 D cI cJ cB cO tM tS A) (a_this a_this_cells a_this_behind : Nat) (v_this_below : Int64) (n_r : Int64) (k4 : Int64 → Int32 → (Nat → Int64) → Option (Int64)) (K4 : ∀ (x1 : Int64) (x3 : Int32) (v_this_cells : Nat → Int64) , k4 x1 x3 v_this_cells = some n_r → gx_Wt p l e X2_kept_rm s m args below meth c (MQ below (gx_Q D A (X2_kept_B cI cJ cB cO a_this a_this_cells a_this_behind v_this_below v_this_cells) (some (.long n_r))) args s 0 0 A) D A 4 [(a_this, .inr (2, [.ref a_this_cells, .ref a_this_behind, .long v_this_below])), (a_this_cells, .inl (cJ, 100, .inr (.inl v_this_cells)))] [(0, .ref a_this), (1, .long x1), (3, .int x3)] 4 []) : ∀ (x1 : Int64) (x3 : Int32) (v_this_cells : Nat → Int64) , X2_kept_b4 k4 x1 x3 v_this_cells = some n_r → gx_Wt p l e X2_kept_rm s m args below meth c (MQ below (gx_Q D A (X2_kept_B cI cJ cB cO a_this a_this_cells a_this_behind v_this_below v_this_cells) (some (.long n_r))) args s 0 0 A) D A 4 [(a_this, .inr (2, [.ref a_this_cells, .ref a_this_behind, .long v_this_below])), (a_this_cells, .inl (cJ, 100, .inr (.inl v_this_cells)))] [(0, .ref a_this), (1, .long x1), (3, .int x3)] 4 [] := by
  intro x1 x3 v_this_cells hf H locs ls hP hD hS hl
  obtain ⟨hx, hb, hr, hml, hown, hW, hlocks, hE, hA⟩ := id C
  unfold X2_kept_b4 at hf
  refine lv_iload_n hx hb dX2_kept_4 rfl (lv_at hl 2 rfl) ?_
  refine lv_bipush (v := 10) hx hb dX2_kept_5 (by decide) ?_
  refine lv_icmp_ge (tgt := 25) hx hb dX2_kept_7 (by decide) (fun hc => ?_) (fun hc => ?_)
  · have hf := gx_t hf hc
    refine lv_lload_n hx hb dX2_kept_25 rfl (lv_at hl 1 rfl) ?_
    cases hf
    exact gx_lret hx hb hr hlocks rfl hP hD hS dX2_kept_26
  · have hf := gx_f hf hc
    refine lv_lload_n hx hb dX2_kept_10 rfl (lv_at hl 1 rfl) ?_
    refine lv_aload_n hx hb dX2_kept_11 rfl (lv_at hl 0 rfl) ?_
    refine lv_iload_n hx hb dX2_kept_12 rfl (lv_at hl 2 rfl) ?_
    refine lv_iload_n hx hb dX2_kept_13 rfl (lv_at hl 2 rfl) ?_
    obtain ⟨r1, hg, hf⟩ := gx_bs hf
    refine gx_V (As := [.int x3, .int x3]) (rest := [.long x1]) (st1 := [.long r1, .long x1]) (cells1 := 0) (slots1 := 0) (wc := [(a_this, .inr (2, [.ref a_this_cells, .ref a_this_behind, .long v_this_below])), (a_this_cells, .inl (cJ, 100, .inr (.inl v_this_cells)))]) (wr := []) ⟨hx, hb, hml, hown, hW⟩ (X2_above_ok l D cI cJ cB cO tM tS a_this a_this_cells a_this_behind v_this_below v_this_cells x3 x3 r1 hg) yk_X2_above tw_497 yv_X2_above ⟨rfl, rfl⟩ ⟨Nat.le_of_ble_eq_true rfl, Nat.le_of_ble_eq_true rfl⟩ hE hP hD hS hA [0, 1] [] rfl rfl (by decide +kernel) (by decide +kernel) rfl (by decide +kernel) (ci := 2) rfl rfl rfl hl.1 (Nat.le_of_ble_eq_true rfl) rfl rfl dX2_kept_14 ⟨Nat.le_of_ble_eq_true rfl, Nat.le_of_ble_eq_true rfl⟩ ⟨rfl, rfl⟩ (fun w1 H locs hB hP hD hS => ?_)
    obtain rfl := hB
    have hP : va_P D gx_cl [(a_this, .inr (2, [.ref a_this_cells, .ref a_this_behind, .long v_this_below])), (a_this_cells, .inl (cJ, 100, .inr (.inl v_this_cells)))] H := hP
    have hD : va_D A [(a_this, .inr (2, [.ref a_this_cells, .ref a_this_behind, .long v_this_below])), (a_this_cells, .inl (cJ, 100, .inr (.inl v_this_cells)))] := hD
    refine lv_ladd hx hb dX2_kept_17 ?_
    refine lv_topl (fun y2 ey2 => ?_)
    have hf := gx_lv hf ey2
    clear ey2
    refine lv_lstore_n (lv' := [(1, .long y2), (0, .ref a_this), (3, .int x3)]) hx hb dX2_kept_18 rfl hl (by decide) rfl (fun ls hl => ?_)
    refine lv_iinc (v := x3 + 1) (lv' := [(3, .int (x3 + 1)), (1, .long y2), (0, .ref a_this)]) hx hb dX2_kept_19 hl (k := 2) rfl rfl (by decide) rfl (fun ls hl => ?_)
    refine lv_goto (tgt := 4) hx hb dX2_kept_22 (by decide) ?_
    exact K4 y2 (x3 + 1) v_this_cells hf H locs ls hP hD hS (lv_sub hl [2, 1, 0] rfl)
theorem X2_kept_l4_ok {p : Program} {l : Launch} {e : Env} {s : State} {m : MethodId} {args : Array Value} {below : List Frame} {meth : Method} {c : Code} {D : va_G} {cI cJ cB cO : ClassId} {tM tS : Nat} {A : Nat → Prop} (C : gx_X p s m args meth c cX2_kept 4 (some .long) RX2 D cI cJ cB cO tM tS A) (a_this a_this_cells a_this_behind : Nat) (v_this_below : Int64) (n_r : Int64)  : ∀ (n : Nat) (x1 : Int64) (x3 : Int32) (v_this_cells : Nat → Int64) , X2_kept_l4 n x1 x3 v_this_cells = some n_r → gx_Wt p l e X2_kept_rm s m args below meth c (MQ below (gx_Q D A (X2_kept_B cI cJ cB cO a_this a_this_cells a_this_behind v_this_below v_this_cells) (some (.long n_r))) args s 0 0 A) D A 4 [(a_this, .inr (2, [.ref a_this_cells, .ref a_this_behind, .long v_this_below])), (a_this_cells, .inl (cJ, 100, .inr (.inl v_this_cells)))] [(0, .ref a_this), (1, .long x1), (3, .int x3)] 4 [] := by
  intro n
  induction n with
  | zero =>
    intro _ _ _ hf
    cases hf
  | succ n ih => exact fun x1 x3 v_this_cells hf => X2_kept_b4_ok C a_this a_this_cells a_this_behind v_this_below n_r (X2_kept_l4 n) ih x1 x3 v_this_cells hf
set_option maxHeartbeats 4000000 in
set_option maxRecDepth 100000 in
theorem X2_kept_b0_ok {p : Program} {l : Launch} {e : Env} {s : State} {m : MethodId} {args : Array Value} {below : List Frame} {meth : Method} {c : Code} {D : va_G} {cI cJ cB cO : ClassId} {tM tS : Nat} {A : Nat → Prop} (C : gx_X p s m args meth c cX2_kept 4 (some .long) RX2 D cI cJ cB cO tM tS A) (a_this a_this_cells a_this_behind : Nat) (v_this_below : Int64) (n_r : Int64)  : ∀ (v_this_cells : Nat → Int64) , X2_kept v_this_cells = some n_r → gx_Wt p l e X2_kept_rm s m args below meth c (MQ below (gx_Q D A (X2_kept_B cI cJ cB cO a_this a_this_cells a_this_behind v_this_below v_this_cells) (some (.long n_r))) args s 0 0 A) D A 4 [(a_this, .inr (2, [.ref a_this_cells, .ref a_this_behind, .long v_this_below])), (a_this_cells, .inl (cJ, 100, .inr (.inl v_this_cells)))] [(0, .ref a_this)] 0 [] := by
  intro v_this_cells hf H locs ls hP hD hS hl
  obtain ⟨hx, hb, hr, hml, hown, hW, hlocks, hE, hA⟩ := id C
  unfold X2_kept at hf
  refine lv_lconst (v := 0) hx hb dX2_kept_0 (by decide) ?_
  refine lv_lstore_n (lv' := [(1, .long (0 : Int64)), (0, .ref a_this)]) hx hb dX2_kept_1 rfl hl (by decide) rfl (fun ls hl => ?_)
  refine lv_iconst (v := 0) hx hb dX2_kept_2 (by decide) ?_
  refine lv_istore_n (lv' := [(3, .int (0 : Int32)), (1, .long (0 : Int64)), (0, .ref a_this)]) hx hb dX2_kept_3 rfl hl (by decide) rfl (fun ls hl => ?_)
  exact X2_kept_l4_ok C a_this a_this_cells a_this_behind v_this_below n_r gx_F (0 : Int64) (0 : Int32) v_this_cells hf H locs ls hP hD hS (lv_sub hl [2, 1, 0] rfl)
theorem X2_kept_ok (l : Launch) (D : va_G) (cI cJ cB cO : ClassId) (tM tS : Nat) (a_this a_this_cells a_this_behind : Nat)  (v_this_below : Int64) (v_this_cells : Nat → Int64) (n_r : Int64) (hf : X2_kept v_this_cells = some n_r) : gx_M l yX2_kept cX2_kept 4 (some .long) X2_kept_rm D cI cJ cB cO tM tS [.ref a_this] [(a_this, .inr (2, [.ref a_this_cells, .ref a_this_behind, .long v_this_below])), (a_this_cells, .inl (cJ, 100, .inr (.inl v_this_cells)))] (X2_kept_B cI cJ cB cO a_this a_this_cells a_this_behind v_this_below v_this_cells) (some (.long n_r)) 0 0 := by
  refine gx_of (by decide) (Nat.le_of_ble_eq_true rfl) ?_
  intro p e s m args below meth c ls A C hP hD hl _
  have hl : lv_has ls 4 [(0, .ref a_this)] := hl
  exact X2_kept_b0_ok C a_this a_this_cells a_this_behind v_this_below n_r v_this_cells hf s.heap [] ls hP hD va_S.rf hl
def X2_keptAtMost_B (cI cJ cB cO : ClassId) (a_this a_this_cells a_this_behind : Nat) (v_this_below : Int64) (v_this_cells : Nat → Int64) : va_W → Prop := fun w1 => w1 = [(a_this, .inr (2, [.ref a_this_cells, .ref a_this_behind, .long v_this_below])), (a_this_cells, .inl (cJ, 100, .inr (.inl v_this_cells)))]
abbrev X2_keptAtMost_rm : Room := { frames := 1, cells := 0, slots := 0, locals := 40 }
set_option maxHeartbeats 4000000 in
set_option maxRecDepth 100000 in
theorem X2_keptAtMost_b48_ok {p : Program} {l : Launch} {e : Env} {s : State} {m : MethodId} {args : Array Value} {below : List Frame} {meth : Method} {c : Code} {D : va_G} {cI cJ cB cO : ClassId} {tM tS : Nat} {A : Nat → Prop} (C : gx_X p s m args meth c cX2_keptAtMost 7 (some .long) RX2 D cI cJ cB cO tM tS A) (a_this a_this_cells a_this_behind : Nat) (v_this_below : Int64) (n_r : Int64) (k4 : Int64 → Int32 → (Nat → Int64) → Option (Int64)) (K4 : ∀ (x1 : Int64) (x3 : Int32) (v_this_cells : Nat → Int64) , k4 x1 x3 v_this_cells = some n_r → gx_Wt p l e X2_keptAtMost_rm s m args below meth c (MQ below (gx_Q D A (X2_keptAtMost_B cI cJ cB cO a_this a_this_cells a_this_behind v_this_below v_this_cells) (some (.long n_r))) args s 0 0 A) D A 7 [(a_this, .inr (2, [.ref a_this_cells, .ref a_this_behind, .long v_this_below])), (a_this_cells, .inl (cJ, 100, .inr (.inl v_this_cells)))] [(0, .ref a_this), (1, .long x1), (3, .int x3)] 4 []) : ∀ (x1 : Int64) (x3 : Int32) (x4 : Int64) (v_this_cells : Nat → Int64) , X2_keptAtMost_b48 k4 x1 x3 x4 v_this_cells = some n_r → gx_Wt p l e X2_keptAtMost_rm s m args below meth c (MQ below (gx_Q D A (X2_keptAtMost_B cI cJ cB cO a_this a_this_cells a_this_behind v_this_below v_this_cells) (some (.long n_r))) args s 0 0 A) D A 7 [(a_this, .inr (2, [.ref a_this_cells, .ref a_this_behind, .long v_this_below])), (a_this_cells, .inl (cJ, 100, .inr (.inl v_this_cells)))] [(0, .ref a_this), (1, .long x1), (3, .int x3), (4, .long x4)] 48 [] := by
  intro x1 x3 x4 v_this_cells hf H locs ls hP hD hS hl
  obtain ⟨hx, hb, hr, hml, hown, hW, hlocks, hE, hA⟩ := id C
  unfold X2_keptAtMost_b48 at hf
  refine lv_lload_n hx hb dX2_keptAtMost_48 rfl (lv_at hl 1 rfl) ?_
  refine lv_lload hx hb dX2_keptAtMost_49 (lv_at hl 3 rfl) ?_
  refine lv_ladd hx hb dX2_keptAtMost_51 ?_
  refine lv_topl (fun y1 ey1 => ?_)
  have hf := gx_lv hf ey1
  clear ey1
  refine lv_lstore_n (lv' := [(1, .long y1), (0, .ref a_this), (3, .int x3), (4, .long x4)]) hx hb dX2_keptAtMost_52 rfl hl (by decide) rfl (fun ls hl => ?_)
  refine lv_iinc (v := x3 + 1) (lv' := [(3, .int (x3 + 1)), (1, .long y1), (0, .ref a_this), (4, .long x4)]) hx hb dX2_keptAtMost_53 hl (k := 2) rfl rfl (by decide) rfl (fun ls hl => ?_)
  refine lv_goto (tgt := 4) hx hb dX2_keptAtMost_56 (by decide) ?_
  exact K4 y1 (x3 + 1) v_this_cells hf H locs ls hP hD hS (lv_sub hl [2, 1, 0] rfl)
set_option maxHeartbeats 4000000 in
set_option maxRecDepth 100000 in
theorem X2_keptAtMost_b16_ok {p : Program} {l : Launch} {e : Env} {s : State} {m : MethodId} {args : Array Value} {below : List Frame} {meth : Method} {c : Code} {D : va_G} {cI cJ cB cO : ClassId} {tM tS : Nat} {A : Nat → Prop} (C : gx_X p s m args meth c cX2_keptAtMost 7 (some .long) RX2 D cI cJ cB cO tM tS A) (a_this a_this_cells a_this_behind : Nat) (v_this_below : Int64) (n_r : Int64) (k16 : Int64 → Int32 → Int64 → Int32 → (Nat → Int64) → Option (Int64)) (k48 : Int64 → Int32 → Int64 → (Nat → Int64) → Option (Int64)) (K16 : ∀ (x1 : Int64) (x3 : Int32) (x4 : Int64) (x6 : Int32) (v_this_cells : Nat → Int64) , k16 x1 x3 x4 x6 v_this_cells = some n_r → gx_Wt p l e X2_keptAtMost_rm s m args below meth c (MQ below (gx_Q D A (X2_keptAtMost_B cI cJ cB cO a_this a_this_cells a_this_behind v_this_below v_this_cells) (some (.long n_r))) args s 0 0 A) D A 7 [(a_this, .inr (2, [.ref a_this_cells, .ref a_this_behind, .long v_this_below])), (a_this_cells, .inl (cJ, 100, .inr (.inl v_this_cells)))] [(0, .ref a_this), (1, .long x1), (3, .int x3), (4, .long x4), (6, .int x6)] 16 []) (K48 : ∀ (x1 : Int64) (x3 : Int32) (x4 : Int64) (v_this_cells : Nat → Int64) , k48 x1 x3 x4 v_this_cells = some n_r → gx_Wt p l e X2_keptAtMost_rm s m args below meth c (MQ below (gx_Q D A (X2_keptAtMost_B cI cJ cB cO a_this a_this_cells a_this_behind v_this_below v_this_cells) (some (.long n_r))) args s 0 0 A) D A 7 [(a_this, .inr (2, [.ref a_this_cells, .ref a_this_behind, .long v_this_below])), (a_this_cells, .inl (cJ, 100, .inr (.inl v_this_cells)))] [(0, .ref a_this), (1, .long x1), (3, .int x3), (4, .long x4)] 48 []) : ∀ (x1 : Int64) (x3 : Int32) (x4 : Int64) (x6 : Int32) (v_this_cells : Nat → Int64) , X2_keptAtMost_b16 k16 k48 x1 x3 x4 x6 v_this_cells = some n_r → gx_Wt p l e X2_keptAtMost_rm s m args below meth c (MQ below (gx_Q D A (X2_keptAtMost_B cI cJ cB cO a_this a_this_cells a_this_behind v_this_below v_this_cells) (some (.long n_r))) args s 0 0 A) D A 7 [(a_this, .inr (2, [.ref a_this_cells, .ref a_this_behind, .long v_this_below])), (a_this_cells, .inl (cJ, 100, .inr (.inl v_this_cells)))] [(0, .ref a_this), (1, .long x1), (3, .int x3), (4, .long x4), (6, .int x6)] 16 [] := by
  intro x1 x3 x4 x6 v_this_cells hf H locs ls hP hD hS hl
  obtain ⟨hx, hb, hr, hml, hown, hW, hlocks, hE, hA⟩ := id C
  unfold X2_keptAtMost_b16 at hf
  refine lv_iload hx hb dX2_keptAtMost_16 (lv_at hl 4 rfl) ?_
  refine lv_bipush (v := 10) hx hb dX2_keptAtMost_18 (by decide) ?_
  refine lv_icmp_ge (tgt := 48) hx hb dX2_keptAtMost_20 (by decide) (fun hc => ?_) (fun hc => ?_)
  · have hf := gx_t hf hc
    exact K48 x1 x3 x4 v_this_cells hf H locs ls hP hD hS (lv_sub hl [0, 1, 2, 3] rfl)
  · have hf := gx_f hf hc
    refine lv_lload hx hb dX2_keptAtMost_23 (lv_at hl 3 rfl) ?_
    refine lv_aload_n hx hb dX2_keptAtMost_25 rfl (lv_at hl 0 rfl) ?_
    refine va_get (D := D) (ci := 2) (v := .ref a_this_cells) (C := RX2) (T := TX2) (N := 3) hx hb hW in_X2 hown hE.1 hP 0 rfl rfl 0 (by decide) (hW _ tw_118) (fun _ h9 => h9) rfl dX2_keptAtMost_26 ?_
    refine lv_iload_n hx hb dX2_keptAtMost_29 rfl (lv_at hl 2 rfl) ?_
    refine lv_bipush (v := 10) hx hb dX2_keptAtMost_30 (by decide) ?_
    refine lv_imul hx hb dX2_keptAtMost_32 ?_
    refine lv_iload hx hb dX2_keptAtMost_33 (lv_at hl 4 rfl) ?_
    refine lv_iadd hx hb dX2_keptAtMost_35 ?_
    obtain ⟨h1, hf⟩ := gx_ite hf
    refine va_lald hx hb hE.1 hP 1 1 rfl rfl h1 dX2_keptAtMost_36 ?_
    refine va_mmax_long hx hb (hml.trans hl.1.symm) hown (hW _ tw_553) (hW _ tw_554) (hW _ tw_53) (hW _ tw_555) (Nat.le_of_ble_eq_true rfl) (Nat.le_of_ble_eq_true rfl) (Nat.le_of_ble_eq_true rfl) (Nat.le_of_ble_eq_true rfl) dX2_keptAtMost_37 ?_
    refine lv_topl (fun y2 ey2 => ?_)
    have hf := gx_lv hf ey2
    clear ey2
    refine lv_lstore (lv' := [(4, .long y2), (0, .ref a_this), (1, .long x1), (3, .int x3), (6, .int x6)]) hx hb dX2_keptAtMost_40 hl (by decide) rfl (fun ls hl => ?_)
    refine lv_iinc (v := x6 + 1) (lv' := [(6, .int (x6 + 1)), (4, .long y2), (0, .ref a_this), (1, .long x1), (3, .int x3)]) hx hb dX2_keptAtMost_42 hl (k := 4) rfl rfl (by decide) rfl (fun ls hl => ?_)
    refine lv_goto (tgt := 16) hx hb dX2_keptAtMost_45 (by decide) ?_
    exact K16 x1 x3 y2 (x6 + 1) v_this_cells hf H locs ls hP hD hS (lv_sub hl [2, 3, 4, 1, 0] rfl)
theorem X2_keptAtMost_l16_ok {p : Program} {l : Launch} {e : Env} {s : State} {m : MethodId} {args : Array Value} {below : List Frame} {meth : Method} {c : Code} {D : va_G} {cI cJ cB cO : ClassId} {tM tS : Nat} {A : Nat → Prop} (C : gx_X p s m args meth c cX2_keptAtMost 7 (some .long) RX2 D cI cJ cB cO tM tS A) (a_this a_this_cells a_this_behind : Nat) (v_this_below : Int64) (n_r : Int64) (k48 : Int64 → Int32 → Int64 → (Nat → Int64) → Option (Int64)) (K48 : ∀ (x1 : Int64) (x3 : Int32) (x4 : Int64) (v_this_cells : Nat → Int64) , k48 x1 x3 x4 v_this_cells = some n_r → gx_Wt p l e X2_keptAtMost_rm s m args below meth c (MQ below (gx_Q D A (X2_keptAtMost_B cI cJ cB cO a_this a_this_cells a_this_behind v_this_below v_this_cells) (some (.long n_r))) args s 0 0 A) D A 7 [(a_this, .inr (2, [.ref a_this_cells, .ref a_this_behind, .long v_this_below])), (a_this_cells, .inl (cJ, 100, .inr (.inl v_this_cells)))] [(0, .ref a_this), (1, .long x1), (3, .int x3), (4, .long x4)] 48 []) : ∀ (n : Nat) (x1 : Int64) (x3 : Int32) (x4 : Int64) (x6 : Int32) (v_this_cells : Nat → Int64) , X2_keptAtMost_l16 k48 n x1 x3 x4 x6 v_this_cells = some n_r → gx_Wt p l e X2_keptAtMost_rm s m args below meth c (MQ below (gx_Q D A (X2_keptAtMost_B cI cJ cB cO a_this a_this_cells a_this_behind v_this_below v_this_cells) (some (.long n_r))) args s 0 0 A) D A 7 [(a_this, .inr (2, [.ref a_this_cells, .ref a_this_behind, .long v_this_below])), (a_this_cells, .inl (cJ, 100, .inr (.inl v_this_cells)))] [(0, .ref a_this), (1, .long x1), (3, .int x3), (4, .long x4), (6, .int x6)] 16 [] := by
  intro n
  induction n with
  | zero =>
    intro _ _ _ _ _ hf
    cases hf
  | succ n ih => exact fun x1 x3 x4 x6 v_this_cells hf => X2_keptAtMost_b16_ok C a_this a_this_cells a_this_behind v_this_below n_r (X2_keptAtMost_l16 k48 n) k48 ih K48 x1 x3 x4 x6 v_this_cells hf
set_option maxHeartbeats 4000000 in
set_option maxRecDepth 100000 in
theorem X2_keptAtMost_b4_ok {p : Program} {l : Launch} {e : Env} {s : State} {m : MethodId} {args : Array Value} {below : List Frame} {meth : Method} {c : Code} {D : va_G} {cI cJ cB cO : ClassId} {tM tS : Nat} {A : Nat → Prop} (C : gx_X p s m args meth c cX2_keptAtMost 7 (some .long) RX2 D cI cJ cB cO tM tS A) (a_this a_this_cells a_this_behind : Nat) (v_this_below : Int64) (n_r : Int64) (k4 : Int64 → Int32 → (Nat → Int64) → Option (Int64)) (K4 : ∀ (x1 : Int64) (x3 : Int32) (v_this_cells : Nat → Int64) , k4 x1 x3 v_this_cells = some n_r → gx_Wt p l e X2_keptAtMost_rm s m args below meth c (MQ below (gx_Q D A (X2_keptAtMost_B cI cJ cB cO a_this a_this_cells a_this_behind v_this_below v_this_cells) (some (.long n_r))) args s 0 0 A) D A 7 [(a_this, .inr (2, [.ref a_this_cells, .ref a_this_behind, .long v_this_below])), (a_this_cells, .inl (cJ, 100, .inr (.inl v_this_cells)))] [(0, .ref a_this), (1, .long x1), (3, .int x3)] 4 []) : ∀ (x1 : Int64) (x3 : Int32) (v_this_cells : Nat → Int64) , X2_keptAtMost_b4 k4 x1 x3 v_this_cells = some n_r → gx_Wt p l e X2_keptAtMost_rm s m args below meth c (MQ below (gx_Q D A (X2_keptAtMost_B cI cJ cB cO a_this a_this_cells a_this_behind v_this_below v_this_cells) (some (.long n_r))) args s 0 0 A) D A 7 [(a_this, .inr (2, [.ref a_this_cells, .ref a_this_behind, .long v_this_below])), (a_this_cells, .inl (cJ, 100, .inr (.inl v_this_cells)))] [(0, .ref a_this), (1, .long x1), (3, .int x3)] 4 [] := by
  intro x1 x3 v_this_cells hf H locs ls hP hD hS hl
  obtain ⟨hx, hb, hr, hml, hown, hW, hlocks, hE, hA⟩ := id C
  unfold X2_keptAtMost_b4 at hf
  refine lv_iload_n hx hb dX2_keptAtMost_4 rfl (lv_at hl 2 rfl) ?_
  refine lv_bipush (v := 10) hx hb dX2_keptAtMost_5 (by decide) ?_
  refine lv_icmp_ge (tgt := 59) hx hb dX2_keptAtMost_7 (by decide) (fun hc => ?_) (fun hc => ?_)
  · have hf := gx_t hf hc
    refine lv_lload_n hx hb dX2_keptAtMost_59 rfl (lv_at hl 1 rfl) ?_
    cases hf
    exact gx_lret hx hb hr hlocks rfl hP hD hS dX2_keptAtMost_60
  · have hf := gx_f hf hc
    refine lv_lconst (v := 0) hx hb dX2_keptAtMost_10 (by decide) ?_
    refine lv_lstore (lv' := [(4, .long (0 : Int64)), (0, .ref a_this), (1, .long x1), (3, .int x3)]) hx hb dX2_keptAtMost_11 hl (by decide) rfl (fun ls hl => ?_)
    refine lv_iconst (v := 0) hx hb dX2_keptAtMost_13 (by decide) ?_
    refine lv_istore (lv' := [(6, .int (0 : Int32)), (4, .long (0 : Int64)), (0, .ref a_this), (1, .long x1), (3, .int x3)]) hx hb dX2_keptAtMost_14 hl (by decide) rfl (fun ls hl => ?_)
    exact X2_keptAtMost_l16_ok C a_this a_this_cells a_this_behind v_this_below n_r (X2_keptAtMost_b48 k4) (X2_keptAtMost_b48_ok C a_this a_this_cells a_this_behind v_this_below n_r k4 K4) gx_F x1 x3 (0 : Int64) (0 : Int32) v_this_cells hf H locs ls hP hD hS (lv_sub hl [2, 3, 4, 1, 0] rfl)
theorem X2_keptAtMost_l4_ok {p : Program} {l : Launch} {e : Env} {s : State} {m : MethodId} {args : Array Value} {below : List Frame} {meth : Method} {c : Code} {D : va_G} {cI cJ cB cO : ClassId} {tM tS : Nat} {A : Nat → Prop} (C : gx_X p s m args meth c cX2_keptAtMost 7 (some .long) RX2 D cI cJ cB cO tM tS A) (a_this a_this_cells a_this_behind : Nat) (v_this_below : Int64) (n_r : Int64)  : ∀ (n : Nat) (x1 : Int64) (x3 : Int32) (v_this_cells : Nat → Int64) , X2_keptAtMost_l4 n x1 x3 v_this_cells = some n_r → gx_Wt p l e X2_keptAtMost_rm s m args below meth c (MQ below (gx_Q D A (X2_keptAtMost_B cI cJ cB cO a_this a_this_cells a_this_behind v_this_below v_this_cells) (some (.long n_r))) args s 0 0 A) D A 7 [(a_this, .inr (2, [.ref a_this_cells, .ref a_this_behind, .long v_this_below])), (a_this_cells, .inl (cJ, 100, .inr (.inl v_this_cells)))] [(0, .ref a_this), (1, .long x1), (3, .int x3)] 4 [] := by
  intro n
  induction n with
  | zero =>
    intro _ _ _ hf
    cases hf
  | succ n ih => exact fun x1 x3 v_this_cells hf => X2_keptAtMost_b4_ok C a_this a_this_cells a_this_behind v_this_below n_r (X2_keptAtMost_l4 n) ih x1 x3 v_this_cells hf
set_option maxHeartbeats 4000000 in
set_option maxRecDepth 100000 in
theorem X2_keptAtMost_b0_ok {p : Program} {l : Launch} {e : Env} {s : State} {m : MethodId} {args : Array Value} {below : List Frame} {meth : Method} {c : Code} {D : va_G} {cI cJ cB cO : ClassId} {tM tS : Nat} {A : Nat → Prop} (C : gx_X p s m args meth c cX2_keptAtMost 7 (some .long) RX2 D cI cJ cB cO tM tS A) (a_this a_this_cells a_this_behind : Nat) (v_this_below : Int64) (n_r : Int64)  : ∀ (v_this_cells : Nat → Int64) , X2_keptAtMost v_this_cells = some n_r → gx_Wt p l e X2_keptAtMost_rm s m args below meth c (MQ below (gx_Q D A (X2_keptAtMost_B cI cJ cB cO a_this a_this_cells a_this_behind v_this_below v_this_cells) (some (.long n_r))) args s 0 0 A) D A 7 [(a_this, .inr (2, [.ref a_this_cells, .ref a_this_behind, .long v_this_below])), (a_this_cells, .inl (cJ, 100, .inr (.inl v_this_cells)))] [(0, .ref a_this)] 0 [] := by
  intro v_this_cells hf H locs ls hP hD hS hl
  obtain ⟨hx, hb, hr, hml, hown, hW, hlocks, hE, hA⟩ := id C
  unfold X2_keptAtMost at hf
  refine lv_lconst (v := 0) hx hb dX2_keptAtMost_0 (by decide) ?_
  refine lv_lstore_n (lv' := [(1, .long (0 : Int64)), (0, .ref a_this)]) hx hb dX2_keptAtMost_1 rfl hl (by decide) rfl (fun ls hl => ?_)
  refine lv_iconst (v := 0) hx hb dX2_keptAtMost_2 (by decide) ?_
  refine lv_istore_n (lv' := [(3, .int (0 : Int32)), (1, .long (0 : Int64)), (0, .ref a_this)]) hx hb dX2_keptAtMost_3 rfl hl (by decide) rfl (fun ls hl => ?_)
  exact X2_keptAtMost_l4_ok C a_this a_this_cells a_this_behind v_this_below n_r gx_F (0 : Int64) (0 : Int32) v_this_cells hf H locs ls hP hD hS (lv_sub hl [2, 1, 0] rfl)
theorem X2_keptAtMost_ok (l : Launch) (D : va_G) (cI cJ cB cO : ClassId) (tM tS : Nat) (a_this a_this_cells a_this_behind : Nat)  (v_this_below : Int64) (v_this_cells : Nat → Int64) (n_r : Int64) (hf : X2_keptAtMost v_this_cells = some n_r) : gx_M l yX2_keptAtMost cX2_keptAtMost 7 (some .long) X2_keptAtMost_rm D cI cJ cB cO tM tS [.ref a_this] [(a_this, .inr (2, [.ref a_this_cells, .ref a_this_behind, .long v_this_below])), (a_this_cells, .inl (cJ, 100, .inr (.inl v_this_cells)))] (X2_keptAtMost_B cI cJ cB cO a_this a_this_cells a_this_behind v_this_below v_this_cells) (some (.long n_r)) 0 0 := by
  refine gx_of (by decide) (Nat.le_of_ble_eq_true rfl) ?_
  intro p e s m args below meth c ls A C hP hD hl _
  have hl : lv_has ls 7 [(0, .ref a_this)] := hl
  exact X2_keptAtMost_b0_ok C a_this a_this_cells a_this_behind v_this_below n_r v_this_cells hf s.heap [] ls hP hD va_S.rf hl
def X6_turned_B (cI cJ cB cO : ClassId)  : va_W → Prop := fun w1 => w1 = []
abbrev X6_turned_rm : Room := { frames := 0, cells := 0, slots := 0, locals := 0 }
set_option maxHeartbeats 4000000 in
set_option maxRecDepth 100000 in
theorem X6_turned_b0_ok {p : Program} {l : Launch} {e : Env} {s : State} {m : MethodId} {args : Array Value} {below : List Frame} {meth : Method} {c : Code} {D : va_G} {cI cJ cB cO : ClassId} {tM tS : Nat} {A : Nat → Prop} (C : gx_X p s m args meth c cX6_turned 2 (some .int) RX6 D cI cJ cB cO tM tS A) (n_r : Int32)  : ∀ (x0 x1 : Int32) , X6_turned x0 x1 = some n_r → gx_Wt p l e X6_turned_rm s m args below meth c (MQ below (gx_Q D A (X6_turned_B cI cJ cB cO) (some (.int n_r))) args s 0 0 A) D A 2 [] [(0, .int x0), (1, .int x1)] 0 [] := by
  intro x0 x1 hf H locs ls hP hD hS hl
  obtain ⟨hx, hb, hr, hml, hown, hW, hlocks, hE, hA⟩ := id C
  unfold X6_turned at hf
  refine lv_iload_n hx hb dX6_turned_0 rfl (lv_at hl 0 rfl) ?_
  refine lv_if_lt (tgt := 20) hx hb dX6_turned_1 (by decide) (fun hc => ?_) (fun hc => ?_)
  · have hf := gx_t hf hc
    refine lv_iload_n hx hb dX6_turned_20 rfl (lv_at hl 1 rfl) ?_
    cases hf
    exact gx_iret hx hb hr hlocks rfl hP hD hS dX6_turned_21
  · have hf := gx_f hf hc
    refine lv_iload_n hx hb dX6_turned_4 rfl (lv_at hl 0 rfl) ?_
    refine lv_bipush (v := 6) hx hb dX6_turned_5 (by decide) ?_
    refine lv_icmp_ge (tgt := 20) hx hb dX6_turned_7 (by decide) (fun hc => ?_) (fun hc => ?_)
    · have hf := gx_t hf hc
      refine lv_iload_n hx hb dX6_turned_20 rfl (lv_at hl 1 rfl) ?_
      cases hf
      exact gx_iret hx hb hr hlocks rfl hP hD hS dX6_turned_21
    · have hf := gx_f hf hc
      refine lv_iload_n hx hb dX6_turned_10 rfl (lv_at hl 1 rfl) ?_
      refine lv_if_lt (tgt := 20) hx hb dX6_turned_11 (by decide) (fun hc => ?_) (fun hc => ?_)
      · have hf := gx_t hf hc
        refine lv_iload_n hx hb dX6_turned_20 rfl (lv_at hl 1 rfl) ?_
        cases hf
        exact gx_iret hx hb hr hlocks rfl hP hD hS dX6_turned_21
      · have hf := gx_f hf hc
        refine lv_iload_n hx hb dX6_turned_14 rfl (lv_at hl 1 rfl) ?_
        refine lv_bipush (v := 10) hx hb dX6_turned_15 (by decide) ?_
        refine lv_icmp_lt (tgt := 22) hx hb dX6_turned_17 (by decide) (fun hc => ?_) (fun hc => ?_)
        · have hf := gx_t hf hc
          refine va_gets hx hb hE.2.2.1 hS hown (hW _ tw_339) (fun _ h9 => h9) dX6_turned_22 ?_
          refine lv_iload_n hx hb dX6_turned_25 rfl (lv_at hl 0 rfl) ?_
          refine lv_bipush (v := 10) hx hb dX6_turned_26 (by decide) ?_
          refine lv_imul hx hb dX6_turned_28 ?_
          refine lv_iload_n hx hb dX6_turned_29 rfl (lv_at hl 1 rfl) ?_
          refine lv_iadd hx hb dX6_turned_30 ?_
          obtain ⟨h1, hf⟩ := gx_ite hf
          refine va_ti hx hb hE.2.2.2.1 hS h1 rfl dX6_turned_31 ?_
          cases hf
          exact gx_iret hx hb hr hlocks rfl hP hD hS dX6_turned_32
        · have hf := gx_f hf hc
          refine lv_iload_n hx hb dX6_turned_20 rfl (lv_at hl 1 rfl) ?_
          cases hf
          exact gx_iret hx hb hr hlocks rfl hP hD hS dX6_turned_21
theorem X6_turned_ok (l : Launch) (D : va_G) (cI cJ cB cO : ClassId) (tM tS : Nat)  (x0 x1 n_r : Int32) (hf : X6_turned x0 x1 = some n_r) : gx_M l yX6_turned cX6_turned 2 (some .int) X6_turned_rm D cI cJ cB cO tM tS [.int x0, .int x1] [] (X6_turned_B cI cJ cB cO) (some (.int n_r)) 0 0 := by
  refine gx_of (by decide) (Nat.le_of_ble_eq_true rfl) ?_
  intro p e s m args below meth c ls A C hP hD hl _
  have hl : lv_has ls 2 [(0, .int x0), (1, .int x1)] := hl
  exact X6_turned_b0_ok C n_r x0 x1 hf s.heap [] ls hP hD va_S.rf hl
def X6_slipped_B (cI cJ cB cO : ClassId)  : va_W → Prop := fun w1 => w1 = []
abbrev X6_slipped_rm : Room := { frames := 0, cells := 0, slots := 0, locals := 0 }
set_option maxHeartbeats 4000000 in
set_option maxRecDepth 100000 in
theorem X6_slipped_b0_ok {p : Program} {l : Launch} {e : Env} {s : State} {m : MethodId} {args : Array Value} {below : List Frame} {meth : Method} {c : Code} {D : va_G} {cI cJ cB cO : ClassId} {tM tS : Nat} {A : Nat → Prop} (C : gx_X p s m args meth c cX6_slipped 1 (some .int) RX6 D cI cJ cB cO tM tS A) (n_r : Int32)  : ∀ (x0 : Int32) , X6_slipped x0 = some n_r → gx_Wt p l e X6_slipped_rm s m args below meth c (MQ below (gx_Q D A (X6_slipped_B cI cJ cB cO) (some (.int n_r))) args s 0 0 A) D A 1 [] [(0, .int x0)] 0 [] := by
  intro x0 hf H locs ls hP hD hS hl
  obtain ⟨hx, hb, hr, hml, hown, hW, hlocks, hE, hA⟩ := id C
  unfold X6_slipped at hf
  refine lv_iload_n hx hb dX6_slipped_0 rfl (lv_at hl 0 rfl) ?_
  refine lv_bipush (v := 9) hx hb dX6_slipped_1 (by decide) ?_
  refine lv_icmp_ne (tgt := 10) hx hb dX6_slipped_3 (by decide) (fun hc => ?_) (fun hc => ?_)
  · have hf := gx_f hf hc
    refine lv_iload_n hx hb dX6_slipped_10 rfl (lv_at hl 0 rfl) ?_
    refine lv_iconst (v := 1) hx hb dX6_slipped_11 (by decide) ?_
    refine lv_iadd hx hb dX6_slipped_12 ?_
    cases hf
    exact gx_iret hx hb hr hlocks rfl hP hD hS dX6_slipped_13
  · have hf := gx_t hf hc
    refine lv_iconst (v := 0) hx hb dX6_slipped_6 (by decide) ?_
    refine lv_goto (tgt := 13) hx hb dX6_slipped_7 (by decide) ?_
    cases hf
    exact gx_iret hx hb hr hlocks rfl hP hD hS dX6_slipped_13
theorem X6_slipped_ok (l : Launch) (D : va_G) (cI cJ cB cO : ClassId) (tM tS : Nat)  (x0 n_r : Int32) (hf : X6_slipped x0 = some n_r) : gx_M l yX6_slipped cX6_slipped 1 (some .int) X6_slipped_rm D cI cJ cB cO tM tS [.int x0] [] (X6_slipped_B cI cJ cB cO) (some (.int n_r)) 0 0 := by
  refine gx_of (by decide) (Nat.le_of_ble_eq_true rfl) ?_
  intro p e s m args below meth c ls A C hP hD hl _
  have hl : lv_has ls 1 [(0, .int x0)] := hl
  exact X6_slipped_b0_ok C n_r x0 hf s.heap [] ls hP hD va_S.rf hl
def X2_keptBehind_B (cI cJ cB cO : ClassId) (a_this a_this_cells a_this_behind : Nat) (v_this_below : Int64) (v_this_cells : Nat → Int64) : va_W → Prop := fun w1 => w1 = [(a_this, .inr (2, [.ref a_this_cells, .ref a_this_behind, .long v_this_below])), (a_this_cells, .inl (cJ, 100, .inr (.inl v_this_cells)))]
abbrev X2_keptBehind_rm : Room := { frames := 2, cells := 0, slots := 0, locals := 42 }
set_option maxHeartbeats 4000000 in
set_option maxRecDepth 100000 in
theorem X2_keptBehind_b5_ok {p : Program} {l : Launch} {e : Env} {s : State} {m : MethodId} {args : Array Value} {below : List Frame} {meth : Method} {c : Code} {D : va_G} {cI cJ cB cO : ClassId} {tM tS : Nat} {A : Nat → Prop} (C : gx_X p s m args meth c cX2_keptBehind 7 (some .long) RX2 D cI cJ cB cO tM tS A) (a_this a_this_cells a_this_behind : Nat) (v_this_below : Int64) (n_r : Int64) (k5 : Int32 → Int32 → Int64 → Int32 → (Nat → Int64) → Option (Int64)) (K5 : ∀ (x1 x2 : Int32) (x3 : Int64) (x5 : Int32) (v_this_cells : Nat → Int64) , k5 x1 x2 x3 x5 v_this_cells = some n_r → gx_Wt p l e X2_keptBehind_rm s m args below meth c (MQ below (gx_Q D A (X2_keptBehind_B cI cJ cB cO a_this a_this_cells a_this_behind v_this_below v_this_cells) (some (.long n_r))) args s 0 0 A) D A 7 [(a_this, .inr (2, [.ref a_this_cells, .ref a_this_behind, .long v_this_below])), (a_this_cells, .inl (cJ, 100, .inr (.inl v_this_cells)))] [(0, .ref a_this), (1, .int x1), (2, .int x2), (3, .long x3), (5, .int x5)] 5 []) : ∀ (x1 x2 : Int32) (x3 : Int64) (x5 : Int32) (v_this_cells : Nat → Int64) , X2_keptBehind_b5 k5 x1 x2 x3 x5 v_this_cells = some n_r → gx_Wt p l e X2_keptBehind_rm s m args below meth c (MQ below (gx_Q D A (X2_keptBehind_B cI cJ cB cO a_this a_this_cells a_this_behind v_this_below v_this_cells) (some (.long n_r))) args s 0 0 A) D A 7 [(a_this, .inr (2, [.ref a_this_cells, .ref a_this_behind, .long v_this_below])), (a_this_cells, .inl (cJ, 100, .inr (.inl v_this_cells)))] [(0, .ref a_this), (1, .int x1), (2, .int x2), (3, .long x3), (5, .int x5)] 5 [] := by
  intro x1 x2 x3 x5 v_this_cells hf H locs ls hP hD hS hl
  obtain ⟨hx, hb, hr, hml, hown, hW, hlocks, hE, hA⟩ := id C
  unfold X2_keptBehind_b5 at hf
  refine lv_iload hx hb dX2_keptBehind_5 (lv_at hl 4 rfl) ?_
  refine lv_bipush (v := 10) hx hb dX2_keptBehind_7 (by decide) ?_
  refine lv_icmp_ge (tgt := 60) hx hb dX2_keptBehind_9 (by decide) (fun hc => ?_) (fun hc => ?_)
  · have hf := gx_t hf hc
    refine lv_lload_n hx hb dX2_keptBehind_60 rfl (lv_at hl 3 rfl) ?_
    cases hf
    exact gx_lret hx hb hr hlocks rfl hP hD hS dX2_keptBehind_61
  · have hf := gx_f hf hc
    refine lv_iload_n hx hb dX2_keptBehind_12 rfl (lv_at hl 1 rfl) ?_
    refine lv_iload hx hb dX2_keptBehind_13 (lv_at hl 4 rfl) ?_
    obtain ⟨r1, hg, hf⟩ := gx_bs hf
    refine gx_SN (As := [.int x1, .int x5]) (rest := []) (st1 := [.int r1]) (cells1 := 0) (slots1 := 0) (wc := []) (wr := [(a_this, .inr (2, [.ref a_this_cells, .ref a_this_behind, .long v_this_below])), (a_this_cells, .inl (cJ, 100, .inr (.inl v_this_cells)))]) ⟨hx, hb, hml, hown, hW⟩ (X6_turned_ok l D cI cJ cB cO tM tS x1 x5 r1 hg) yk_X6_turned (hE.2.1.2.2.2.2.2.2.1) tw_337 ⟨rfl, rfl⟩ ⟨Nat.le_of_ble_eq_true rfl, Nat.le_of_ble_eq_true rfl⟩ hE hP hD hS hA [] [0, 1] rfl rfl (by decide +kernel) (by decide +kernel) rfl (by decide +kernel) rfl hl.1 (Nat.le_of_ble_eq_true rfl) rfl rfl dX2_keptBehind_15 ⟨Nat.le_of_ble_eq_true rfl, Nat.le_of_ble_eq_true rfl⟩ ⟨rfl, rfl⟩ (fun w1 H locs hB hP hD hS => ?_)
    obtain rfl := hB
    have hP : va_P D gx_cl [(a_this, .inr (2, [.ref a_this_cells, .ref a_this_behind, .long v_this_below])), (a_this_cells, .inl (cJ, 100, .inr (.inl v_this_cells)))] H := hP
    have hD : va_D A [(a_this, .inr (2, [.ref a_this_cells, .ref a_this_behind, .long v_this_below])), (a_this_cells, .inl (cJ, 100, .inr (.inl v_this_cells)))] := hD
    refine lv_istore (lv' := [(6, .int r1), (0, .ref a_this), (1, .int x1), (2, .int x2), (3, .long x3), (5, .int x5)]) hx hb dX2_keptBehind_18 hl (by decide) rfl (fun ls hl => ?_)
    refine lv_lload_n hx hb dX2_keptBehind_20 rfl (lv_at hl 4 rfl) ?_
    refine lv_aload_n hx hb dX2_keptBehind_21 rfl (lv_at hl 1 rfl) ?_
    refine lv_iload hx hb dX2_keptBehind_22 (lv_at hl 0 rfl) ?_
    refine lv_iload hx hb dX2_keptBehind_24 (lv_at hl 5 rfl) ?_
    obtain ⟨r2, hg, hf⟩ := gx_bs hf
    refine gx_V (As := [.int r1, .int x5]) (rest := [.long x3]) (st1 := [.long r2, .long x3]) (cells1 := 0) (slots1 := 0) (wc := [(a_this, .inr (2, [.ref a_this_cells, .ref a_this_behind, .long v_this_below])), (a_this_cells, .inl (cJ, 100, .inr (.inl v_this_cells)))]) (wr := []) ⟨hx, hb, hml, hown, hW⟩ (X2_above_ok l D cI cJ cB cO tM tS a_this a_this_cells a_this_behind v_this_below v_this_cells r1 x5 r2 hg) yk_X2_above tw_497 yv_X2_above ⟨rfl, rfl⟩ ⟨Nat.le_of_ble_eq_true rfl, Nat.le_of_ble_eq_true rfl⟩ hE hP hD hS hA [0, 1] [] rfl rfl (by decide +kernel) (by decide +kernel) rfl (by decide +kernel) (ci := 2) rfl rfl rfl hl.1 (Nat.le_of_ble_eq_true rfl) rfl rfl dX2_keptBehind_26 ⟨Nat.le_of_ble_eq_true rfl, Nat.le_of_ble_eq_true rfl⟩ ⟨rfl, rfl⟩ (fun w1 H locs hB hP hD hS => ?_)
    obtain rfl := hB
    have hP : va_P D gx_cl [(a_this, .inr (2, [.ref a_this_cells, .ref a_this_behind, .long v_this_below])), (a_this_cells, .inl (cJ, 100, .inr (.inl v_this_cells)))] H := hP
    have hD : va_D A [(a_this, .inr (2, [.ref a_this_cells, .ref a_this_behind, .long v_this_below])), (a_this_cells, .inl (cJ, 100, .inr (.inl v_this_cells)))] := hD
    refine lv_iload_n hx hb dX2_keptBehind_29 rfl (lv_at hl 3 rfl) ?_
    refine lv_i2l hx hb dX2_keptBehind_30 rfl ?_
    refine lv_lmul hx hb dX2_keptBehind_31 ?_
    refine lv_ladd hx hb dX2_keptBehind_32 ?_
    refine lv_topl (fun y3 ey3 => ?_)
    have hf := gx_lv hf ey3
    clear ey3
    refine lv_lstore_n (lv' := [(3, .long y3), (6, .int r1), (0, .ref a_this), (1, .int x1), (2, .int x2), (5, .int x5)]) hx hb dX2_keptBehind_33 rfl hl (by decide) rfl (fun ls hl => ?_)
    refine lv_lload_n hx hb dX2_keptBehind_34 rfl (lv_at hl 0 rfl) ?_
    refine lv_aload_n hx hb dX2_keptBehind_35 rfl (lv_at hl 2 rfl) ?_
    refine lv_iload hx hb dX2_keptBehind_36 (lv_at hl 1 rfl) ?_
    obtain ⟨r4, hg, hf⟩ := gx_bs hf
    refine gx_SN (As := [.int r1]) (rest := [.ref a_this, .long y3]) (st1 := [.int r4, .ref a_this, .long y3]) (cells1 := 0) (slots1 := 0) (wc := []) (wr := [(a_this, .inr (2, [.ref a_this_cells, .ref a_this_behind, .long v_this_below])), (a_this_cells, .inl (cJ, 100, .inr (.inl v_this_cells)))]) ⟨hx, hb, hml, hown, hW⟩ (X6_slipped_ok l D cI cJ cB cO tM tS r1 r4 hg) yk_X6_slipped (hE.2.1.2.2.2.2.2.2.2.2.1) tw_472 ⟨rfl, rfl⟩ ⟨Nat.le_of_ble_eq_true rfl, Nat.le_of_ble_eq_true rfl⟩ hE hP hD hS hA [] [0, 1] rfl rfl (by decide +kernel) (by decide +kernel) rfl (by decide +kernel) rfl hl.1 (Nat.le_of_ble_eq_true rfl) rfl rfl dX2_keptBehind_38 ⟨Nat.le_of_ble_eq_true rfl, Nat.le_of_ble_eq_true rfl⟩ ⟨rfl, rfl⟩ (fun w1 H locs hB hP hD hS => ?_)
    obtain rfl := hB
    have hP : va_P D gx_cl [(a_this, .inr (2, [.ref a_this_cells, .ref a_this_behind, .long v_this_below])), (a_this_cells, .inl (cJ, 100, .inr (.inl v_this_cells)))] H := hP
    have hD : va_D A [(a_this, .inr (2, [.ref a_this_cells, .ref a_this_behind, .long v_this_below])), (a_this_cells, .inl (cJ, 100, .inr (.inl v_this_cells)))] := hD
    refine lv_iload hx hb dX2_keptBehind_41 (lv_at hl 5 rfl) ?_
    obtain ⟨r5, hg, hf⟩ := gx_bs hf
    refine gx_V (As := [.int r4, .int x5]) (rest := [.long y3]) (st1 := [.long r5, .long y3]) (cells1 := 0) (slots1 := 0) (wc := [(a_this, .inr (2, [.ref a_this_cells, .ref a_this_behind, .long v_this_below])), (a_this_cells, .inl (cJ, 100, .inr (.inl v_this_cells)))]) (wr := []) ⟨hx, hb, hml, hown, hW⟩ (X2_above_ok l D cI cJ cB cO tM tS a_this a_this_cells a_this_behind v_this_below v_this_cells r4 x5 r5 hg) yk_X2_above tw_497 yv_X2_above ⟨rfl, rfl⟩ ⟨Nat.le_of_ble_eq_true rfl, Nat.le_of_ble_eq_true rfl⟩ hE hP hD hS hA [0, 1] [] rfl rfl (by decide +kernel) (by decide +kernel) rfl (by decide +kernel) (ci := 2) rfl rfl rfl hl.1 (Nat.le_of_ble_eq_true rfl) rfl rfl dX2_keptBehind_43 ⟨Nat.le_of_ble_eq_true rfl, Nat.le_of_ble_eq_true rfl⟩ ⟨rfl, rfl⟩ (fun w1 H locs hB hP hD hS => ?_)
    obtain rfl := hB
    have hP : va_P D gx_cl [(a_this, .inr (2, [.ref a_this_cells, .ref a_this_behind, .long v_this_below])), (a_this_cells, .inl (cJ, 100, .inr (.inl v_this_cells)))] H := hP
    have hD : va_D A [(a_this, .inr (2, [.ref a_this_cells, .ref a_this_behind, .long v_this_below])), (a_this_cells, .inl (cJ, 100, .inr (.inl v_this_cells)))] := hD
    refine lv_bipush (v := 10) hx hb dX2_keptBehind_46 (by decide) ?_
    refine lv_iload_n hx hb dX2_keptBehind_48 rfl (lv_at hl 4 rfl) ?_
    refine lv_isub hx hb dX2_keptBehind_49 ?_
    refine lv_i2l hx hb dX2_keptBehind_50 rfl ?_
    refine lv_lmul hx hb dX2_keptBehind_51 ?_
    refine lv_ladd hx hb dX2_keptBehind_52 ?_
    refine lv_topl (fun y6 ey6 => ?_)
    have hf := gx_lv hf ey6
    clear ey6
    refine lv_lstore_n (lv' := [(3, .long y6), (6, .int r1), (0, .ref a_this), (1, .int x1), (2, .int x2), (5, .int x5)]) hx hb dX2_keptBehind_53 rfl hl (by decide) rfl (fun ls hl => ?_)
    refine lv_iinc (v := x5 + 1) (lv' := [(5, .int (x5 + 1)), (3, .long y6), (6, .int r1), (0, .ref a_this), (1, .int x1), (2, .int x2)]) hx hb dX2_keptBehind_54 hl (k := 5) rfl rfl (by decide) rfl (fun ls hl => ?_)
    refine lv_goto (tgt := 5) hx hb dX2_keptBehind_57 (by decide) ?_
    exact K5 x1 x2 y6 (x5 + 1) v_this_cells hf H locs ls hP hD hS (lv_sub hl [3, 4, 5, 1, 0] rfl)
theorem X2_keptBehind_l5_ok {p : Program} {l : Launch} {e : Env} {s : State} {m : MethodId} {args : Array Value} {below : List Frame} {meth : Method} {c : Code} {D : va_G} {cI cJ cB cO : ClassId} {tM tS : Nat} {A : Nat → Prop} (C : gx_X p s m args meth c cX2_keptBehind 7 (some .long) RX2 D cI cJ cB cO tM tS A) (a_this a_this_cells a_this_behind : Nat) (v_this_below : Int64) (n_r : Int64)  : ∀ (n : Nat) (x1 x2 : Int32) (x3 : Int64) (x5 : Int32) (v_this_cells : Nat → Int64) , X2_keptBehind_l5 n x1 x2 x3 x5 v_this_cells = some n_r → gx_Wt p l e X2_keptBehind_rm s m args below meth c (MQ below (gx_Q D A (X2_keptBehind_B cI cJ cB cO a_this a_this_cells a_this_behind v_this_below v_this_cells) (some (.long n_r))) args s 0 0 A) D A 7 [(a_this, .inr (2, [.ref a_this_cells, .ref a_this_behind, .long v_this_below])), (a_this_cells, .inl (cJ, 100, .inr (.inl v_this_cells)))] [(0, .ref a_this), (1, .int x1), (2, .int x2), (3, .long x3), (5, .int x5)] 5 [] := by
  intro n
  induction n with
  | zero =>
    intro _ _ _ _ _ hf
    cases hf
  | succ n ih => exact fun x1 x2 x3 x5 v_this_cells hf => X2_keptBehind_b5_ok C a_this a_this_cells a_this_behind v_this_below n_r (X2_keptBehind_l5 n) ih x1 x2 x3 x5 v_this_cells hf
set_option maxHeartbeats 4000000 in
set_option maxRecDepth 100000 in
theorem X2_keptBehind_b0_ok {p : Program} {l : Launch} {e : Env} {s : State} {m : MethodId} {args : Array Value} {below : List Frame} {meth : Method} {c : Code} {D : va_G} {cI cJ cB cO : ClassId} {tM tS : Nat} {A : Nat → Prop} (C : gx_X p s m args meth c cX2_keptBehind 7 (some .long) RX2 D cI cJ cB cO tM tS A) (a_this a_this_cells a_this_behind : Nat) (v_this_below : Int64) (n_r : Int64)  : ∀ (x1 x2 : Int32) (v_this_cells : Nat → Int64) , X2_keptBehind x1 x2 v_this_cells = some n_r → gx_Wt p l e X2_keptBehind_rm s m args below meth c (MQ below (gx_Q D A (X2_keptBehind_B cI cJ cB cO a_this a_this_cells a_this_behind v_this_below v_this_cells) (some (.long n_r))) args s 0 0 A) D A 7 [(a_this, .inr (2, [.ref a_this_cells, .ref a_this_behind, .long v_this_below])), (a_this_cells, .inl (cJ, 100, .inr (.inl v_this_cells)))] [(0, .ref a_this), (1, .int x1), (2, .int x2)] 0 [] := by
  intro x1 x2 v_this_cells hf H locs ls hP hD hS hl
  obtain ⟨hx, hb, hr, hml, hown, hW, hlocks, hE, hA⟩ := id C
  unfold X2_keptBehind at hf
  refine lv_lconst (v := 0) hx hb dX2_keptBehind_0 (by decide) ?_
  refine lv_lstore_n (lv' := [(3, .long (0 : Int64)), (0, .ref a_this), (1, .int x1), (2, .int x2)]) hx hb dX2_keptBehind_1 rfl hl (by decide) rfl (fun ls hl => ?_)
  refine lv_iconst (v := 0) hx hb dX2_keptBehind_2 (by decide) ?_
  refine lv_istore (lv' := [(5, .int (0 : Int32)), (3, .long (0 : Int64)), (0, .ref a_this), (1, .int x1), (2, .int x2)]) hx hb dX2_keptBehind_3 hl (by decide) rfl (fun ls hl => ?_)
  exact X2_keptBehind_l5_ok C a_this a_this_cells a_this_behind v_this_below n_r gx_F x1 x2 (0 : Int64) (0 : Int32) v_this_cells hf H locs ls hP hD hS (lv_sub hl [2, 3, 4, 1, 0] rfl)
theorem X2_keptBehind_ok (l : Launch) (D : va_G) (cI cJ cB cO : ClassId) (tM tS : Nat) (a_this a_this_cells a_this_behind : Nat)  (v_this_below : Int64) (v_this_cells : Nat → Int64) (x1 x2 : Int32) (n_r : Int64) (hf : X2_keptBehind x1 x2 v_this_cells = some n_r) : gx_M l yX2_keptBehind cX2_keptBehind 7 (some .long) X2_keptBehind_rm D cI cJ cB cO tM tS [.ref a_this, .int x1, .int x2] [(a_this, .inr (2, [.ref a_this_cells, .ref a_this_behind, .long v_this_below])), (a_this_cells, .inl (cJ, 100, .inr (.inl v_this_cells)))] (X2_keptBehind_B cI cJ cB cO a_this a_this_cells a_this_behind v_this_below v_this_cells) (some (.long n_r)) 0 0 := by
  refine gx_of (by decide) (Nat.le_of_ble_eq_true rfl) ?_
  intro p e s m args below meth c ls A C hP hD hl _
  have hl : lv_has ls 7 [(0, .ref a_this), (1, .int x1), (2, .int x2)] := hl
  exact X2_keptBehind_b0_ok C a_this a_this_cells a_this_behind v_this_below n_r x1 x2 v_this_cells hf s.heap [] ls hP hD va_S.rf hl
def X2_pour_B (cI cJ cB cO : ClassId) (a_this a_this_cells a_this_behind : Nat) (v_this_below : Int64) (v_this_cells n_this_behind : Nat → Int64) : va_W → Prop := fun w1 => w1 = [(a_this, .inr (2, [.ref a_this_cells, .ref a_this_behind, .long v_this_below])), (a_this_cells, .inl (cJ, 100, .inr (.inl v_this_cells))), (a_this_behind, .inl (cJ, 100, .inr (.inl n_this_behind)))]
abbrev X2_pour_rm : Room := { frames := 1, cells := 0, slots := 0, locals := 20 }
set_option maxHeartbeats 4000000 in
set_option maxRecDepth 100000 in
theorem X2_pour_b22_ok {p : Program} {l : Launch} {e : Env} {s : State} {m : MethodId} {args : Array Value} {below : List Frame} {meth : Method} {c : Code} {D : va_G} {cI cJ cB cO : ClassId} {tM tS : Nat} {A : Nat → Prop} (C : gx_X p s m args meth c cX2_pour 5 none RX2 D cI cJ cB cO tM tS A) (a_this a_this_cells a_this_behind : Nat) (v_this_below : Int64) (n_this_behind : Nat → Int64) (k22 : Int32 → Int32 → Int32 → Int32 → (Nat → Int64) → (Nat → Int64) → Option ((Nat → Int64))) (K22 : ∀ (x1 x2 x3 x4 : Int32) (v_this_cells v_this_behind : Nat → Int64) , k22 x1 x2 x3 x4 v_this_cells v_this_behind = some n_this_behind → gx_Wt p l e X2_pour_rm s m args below meth c (MQ below (gx_Q D A (X2_pour_B cI cJ cB cO a_this a_this_cells a_this_behind v_this_below v_this_cells n_this_behind) none) args s 0 0 A) D A 5 [(a_this, .inr (2, [.ref a_this_cells, .ref a_this_behind, .long v_this_below])), (a_this_cells, .inl (cJ, 100, .inr (.inl v_this_cells))), (a_this_behind, .inl (cJ, 100, .inr (.inl v_this_behind)))] [(0, .ref a_this), (1, .int x1), (2, .int x2), (3, .int x3), (4, .int x4)] 22 []) : ∀ (x1 x2 x3 x4 : Int32) (v_this_cells v_this_behind : Nat → Int64) , X2_pour_b22 k22 x1 x2 x3 x4 v_this_cells v_this_behind = some n_this_behind → gx_Wt p l e X2_pour_rm s m args below meth c (MQ below (gx_Q D A (X2_pour_B cI cJ cB cO a_this a_this_cells a_this_behind v_this_below v_this_cells n_this_behind) none) args s 0 0 A) D A 5 [(a_this, .inr (2, [.ref a_this_cells, .ref a_this_behind, .long v_this_below])), (a_this_cells, .inl (cJ, 100, .inr (.inl v_this_cells))), (a_this_behind, .inl (cJ, 100, .inr (.inl v_this_behind)))] [(0, .ref a_this), (1, .int x1), (2, .int x2), (3, .int x3), (4, .int x4)] 22 [] := by
  intro x1 x2 x3 x4 v_this_cells v_this_behind hf H locs ls hP hD hS hl
  obtain ⟨hx, hb, hr, hml, hown, hW, hlocks, hE, hA⟩ := id C
  unfold X2_pour_b22 at hf
  refine lv_iload hx hb dX2_pour_22 (lv_at hl 4 rfl) ?_
  refine lv_bipush (v := 10) hx hb dX2_pour_24 (by decide) ?_
  refine lv_icmp_ge (tgt := 65) hx hb dX2_pour_26 (by decide) (fun hc => ?_) (fun hc => ?_)
  · have hf := gx_t hf hc
    cases hf
    exact gx_vret hx hb hr hlocks rfl hP hD hS dX2_pour_65
  · have hf := gx_f hf hc
    refine lv_aload_n hx hb dX2_pour_29 rfl (lv_at hl 0 rfl) ?_
    refine va_get (D := D) (ci := 2) (v := .ref a_this_behind) (C := RX2) (T := TX2) (N := 3) hx hb hW in_X2 hown hE.1 hP 0 rfl rfl 1 (by decide) (hW _ tw_119) (fun _ h9 => h9) rfl dX2_pour_30 ?_
    refine lv_iload_n hx hb dX2_pour_33 rfl (lv_at hl 2 rfl) ?_
    refine lv_bipush (v := 10) hx hb dX2_pour_34 (by decide) ?_
    refine lv_imul hx hb dX2_pour_36 ?_
    refine lv_iload hx hb dX2_pour_37 (lv_at hl 4 rfl) ?_
    refine lv_iadd hx hb dX2_pour_39 ?_
    refine lv_dup2_11 hx hb dX2_pour_40 rfl rfl ?_
    obtain ⟨h1, hf⟩ := gx_ite hf
    refine va_lald hx hb hE.1 hP 2 1 rfl rfl h1 dX2_pour_41 ?_
    refine lv_aload_n hx hb dX2_pour_42 rfl (lv_at hl 0 rfl) ?_
    refine va_get (D := D) (ci := 2) (v := .ref a_this_cells) (C := RX2) (T := TX2) (N := 3) hx hb hW in_X2 hown hE.1 hP 0 rfl rfl 0 (by decide) (hW _ tw_118) (fun _ h9 => h9) rfl dX2_pour_43 ?_
    refine lv_iload_n hx hb dX2_pour_46 rfl (lv_at hl 1 rfl) ?_
    refine lv_bipush (v := 10) hx hb dX2_pour_47 (by decide) ?_
    refine lv_imul hx hb dX2_pour_49 ?_
    refine lv_iload hx hb dX2_pour_50 (lv_at hl 4 rfl) ?_
    refine lv_iadd hx hb dX2_pour_52 ?_
    obtain ⟨h2, hf⟩ := gx_ite hf
    refine va_lald hx hb hE.1 hP 1 1 rfl rfl h2 dX2_pour_53 ?_
    refine lv_iload_n hx hb dX2_pour_54 rfl (lv_at hl 3 rfl) ?_
    refine lv_i2l hx hb dX2_pour_55 rfl ?_
    refine lv_lmul hx hb dX2_pour_56 ?_
    refine lv_ladd hx hb dX2_pour_57 ?_
    obtain ⟨h3, hf⟩ := gx_ite hf
    refine va_last hx hb hE.1 hP hD hS 2 1 rfl rfl h3 dX2_pour_58 (fun H locs hP hD hS => ?_)
    have hP : va_P D gx_cl [(a_this, .inr (2, [.ref a_this_cells, .ref a_this_behind, .long v_this_below])), (a_this_cells, .inl (cJ, 100, .inr (.inl v_this_cells))), (a_this_behind, .inl (cJ, 100, .inr (.inl (vp_updL v_this_behind ((x2 * (10 : Int32)) + x4).toNatClampNeg ((v_this_behind ((x2 * (10 : Int32)) + x4).toNatClampNeg) + ((v_this_cells ((x1 * (10 : Int32)) + x4).toNatClampNeg) * x3.toInt64))))))] H := hP
    have hD : va_D A [(a_this, .inr (2, [.ref a_this_cells, .ref a_this_behind, .long v_this_below])), (a_this_cells, .inl (cJ, 100, .inr (.inl v_this_cells))), (a_this_behind, .inl (cJ, 100, .inr (.inl (vp_updL v_this_behind ((x2 * (10 : Int32)) + x4).toNatClampNeg ((v_this_behind ((x2 * (10 : Int32)) + x4).toNatClampNeg) + ((v_this_cells ((x1 * (10 : Int32)) + x4).toNatClampNeg) * x3.toInt64))))))] := hD
    refine lv_iinc (v := x4 + 1) (lv' := [(4, .int (x4 + 1)), (0, .ref a_this), (1, .int x1), (2, .int x2), (3, .int x3)]) hx hb dX2_pour_59 hl (k := 4) rfl rfl (by decide) rfl (fun ls hl => ?_)
    refine lv_goto (tgt := 22) hx hb dX2_pour_62 (by decide) ?_
    exact K22 x1 x2 x3 (x4 + 1) v_this_cells (vp_updL v_this_behind ((x2 * (10 : Int32)) + x4).toNatClampNeg ((v_this_behind ((x2 * (10 : Int32)) + x4).toNatClampNeg) + ((v_this_cells ((x1 * (10 : Int32)) + x4).toNatClampNeg) * x3.toInt64))) hf H locs ls hP hD hS (lv_sub hl [1, 2, 3, 4, 0] rfl)
theorem X2_pour_l22_ok {p : Program} {l : Launch} {e : Env} {s : State} {m : MethodId} {args : Array Value} {below : List Frame} {meth : Method} {c : Code} {D : va_G} {cI cJ cB cO : ClassId} {tM tS : Nat} {A : Nat → Prop} (C : gx_X p s m args meth c cX2_pour 5 none RX2 D cI cJ cB cO tM tS A) (a_this a_this_cells a_this_behind : Nat) (v_this_below : Int64) (n_this_behind : Nat → Int64)  : ∀ (n : Nat) (x1 x2 x3 x4 : Int32) (v_this_cells v_this_behind : Nat → Int64) , X2_pour_l22 n x1 x2 x3 x4 v_this_cells v_this_behind = some n_this_behind → gx_Wt p l e X2_pour_rm s m args below meth c (MQ below (gx_Q D A (X2_pour_B cI cJ cB cO a_this a_this_cells a_this_behind v_this_below v_this_cells n_this_behind) none) args s 0 0 A) D A 5 [(a_this, .inr (2, [.ref a_this_cells, .ref a_this_behind, .long v_this_below])), (a_this_cells, .inl (cJ, 100, .inr (.inl v_this_cells))), (a_this_behind, .inl (cJ, 100, .inr (.inl v_this_behind)))] [(0, .ref a_this), (1, .int x1), (2, .int x2), (3, .int x3), (4, .int x4)] 22 [] := by
  intro n
  induction n with
  | zero =>
    intro _ _ _ _ _ _ hf
    cases hf
  | succ n ih => exact fun x1 x2 x3 x4 v_this_cells v_this_behind hf => X2_pour_b22_ok C a_this a_this_cells a_this_behind v_this_below n_this_behind (X2_pour_l22 n) ih x1 x2 x3 x4 v_this_cells v_this_behind hf
set_option maxHeartbeats 4000000 in
set_option maxRecDepth 100000 in
theorem X2_pour_b0_ok {p : Program} {l : Launch} {e : Env} {s : State} {m : MethodId} {args : Array Value} {below : List Frame} {meth : Method} {c : Code} {D : va_G} {cI cJ cB cO : ClassId} {tM tS : Nat} {A : Nat → Prop} (C : gx_X p s m args meth c cX2_pour 5 none RX2 D cI cJ cB cO tM tS A) (a_this a_this_cells a_this_behind : Nat) (v_this_below : Int64) (n_this_behind : Nat → Int64)  : ∀ (x1 x2 x3 : Int32) (v_this_cells v_this_behind : Nat → Int64) , X2_pour x1 x2 x3 v_this_cells v_this_behind = some n_this_behind → gx_Wt p l e X2_pour_rm s m args below meth c (MQ below (gx_Q D A (X2_pour_B cI cJ cB cO a_this a_this_cells a_this_behind v_this_below v_this_cells n_this_behind) none) args s 0 0 A) D A 5 [(a_this, .inr (2, [.ref a_this_cells, .ref a_this_behind, .long v_this_below])), (a_this_cells, .inl (cJ, 100, .inr (.inl v_this_cells))), (a_this_behind, .inl (cJ, 100, .inr (.inl v_this_behind)))] [(0, .ref a_this), (1, .int x1), (2, .int x2), (3, .int x3)] 0 [] := by
  intro x1 x2 x3 v_this_cells v_this_behind hf H locs ls hP hD hS hl
  obtain ⟨hx, hb, hr, hml, hown, hW, hlocks, hE, hA⟩ := id C
  unfold X2_pour at hf
  refine lv_iload_n hx hb dX2_pour_0 rfl (lv_at hl 3 rfl) ?_
  refine lv_if_eq (tgt := 18) hx hb dX2_pour_1 (by decide) (fun hc => ?_) (fun hc => ?_)
  · have hf := gx_t hf hc
    cases hf
    exact gx_vret hx hb hr hlocks rfl hP hD hS dX2_pour_18
  · have hf := gx_f hf hc
    refine lv_iload_n hx hb dX2_pour_4 rfl (lv_at hl 1 rfl) ?_
    obtain ⟨r1, hg, hf⟩ := gx_bs hf
    refine gx_SN (As := [.int x1]) (rest := []) (st1 := [.int r1]) (cells1 := 0) (slots1 := 0) (wc := []) (wr := [(a_this, .inr (2, [.ref a_this_cells, .ref a_this_behind, .long v_this_below])), (a_this_cells, .inl (cJ, 100, .inr (.inl v_this_cells))), (a_this_behind, .inl (cJ, 100, .inr (.inl v_this_behind)))]) ⟨hx, hb, hml, hown, hW⟩ (X6_isSense_ok l D cI cJ cB cO tM tS x1 r1 hg) yk_X6_isSense (hE.2.1.2.2.2.2.2.2.2.1) tw_334 ⟨rfl, rfl⟩ ⟨Nat.le_of_ble_eq_true rfl, Nat.le_of_ble_eq_true rfl⟩ hE hP hD hS hA [] [0, 1, 2] rfl rfl (by decide +kernel) (by decide +kernel) rfl (by decide +kernel) rfl hl.1 (Nat.le_of_ble_eq_true rfl) rfl rfl dX2_pour_5 ⟨Nat.le_of_ble_eq_true rfl, Nat.le_of_ble_eq_true rfl⟩ ⟨rfl, rfl⟩ (fun w1 H locs hB hP hD hS => ?_)
    obtain rfl := hB
    have hP : va_P D gx_cl [(a_this, .inr (2, [.ref a_this_cells, .ref a_this_behind, .long v_this_below])), (a_this_cells, .inl (cJ, 100, .inr (.inl v_this_cells))), (a_this_behind, .inl (cJ, 100, .inr (.inl v_this_behind)))] H := hP
    have hD : va_D A [(a_this, .inr (2, [.ref a_this_cells, .ref a_this_behind, .long v_this_below])), (a_this_cells, .inl (cJ, 100, .inr (.inl v_this_cells))), (a_this_behind, .inl (cJ, 100, .inr (.inl v_this_behind)))] := hD
    refine lv_if_eq (tgt := 18) hx hb dX2_pour_8 (by decide) (fun hc => ?_) (fun hc => ?_)
    · have hf := gx_t hf hc
      cases hf
      exact gx_vret hx hb hr hlocks rfl hP hD hS dX2_pour_18
    · have hf := gx_f hf hc
      refine lv_iload_n hx hb dX2_pour_11 rfl (lv_at hl 2 rfl) ?_
      obtain ⟨r2, hg, hf⟩ := gx_bs hf
      refine gx_SN (As := [.int x2]) (rest := []) (st1 := [.int r2]) (cells1 := 0) (slots1 := 0) (wc := []) (wr := [(a_this, .inr (2, [.ref a_this_cells, .ref a_this_behind, .long v_this_below])), (a_this_cells, .inl (cJ, 100, .inr (.inl v_this_cells))), (a_this_behind, .inl (cJ, 100, .inr (.inl v_this_behind)))]) ⟨hx, hb, hml, hown, hW⟩ (X6_isSense_ok l D cI cJ cB cO tM tS x2 r2 hg) yk_X6_isSense (hE.2.1.2.2.2.2.2.2.2.1) tw_334 ⟨rfl, rfl⟩ ⟨Nat.le_of_ble_eq_true rfl, Nat.le_of_ble_eq_true rfl⟩ hE hP hD hS hA [] [0, 1, 2] rfl rfl (by decide +kernel) (by decide +kernel) rfl (by decide +kernel) rfl hl.1 (Nat.le_of_ble_eq_true rfl) rfl rfl dX2_pour_12 ⟨Nat.le_of_ble_eq_true rfl, Nat.le_of_ble_eq_true rfl⟩ ⟨rfl, rfl⟩ (fun w1 H locs hB hP hD hS => ?_)
      obtain rfl := hB
      have hP : va_P D gx_cl [(a_this, .inr (2, [.ref a_this_cells, .ref a_this_behind, .long v_this_below])), (a_this_cells, .inl (cJ, 100, .inr (.inl v_this_cells))), (a_this_behind, .inl (cJ, 100, .inr (.inl v_this_behind)))] H := hP
      have hD : va_D A [(a_this, .inr (2, [.ref a_this_cells, .ref a_this_behind, .long v_this_below])), (a_this_cells, .inl (cJ, 100, .inr (.inl v_this_cells))), (a_this_behind, .inl (cJ, 100, .inr (.inl v_this_behind)))] := hD
      refine lv_if_ne (tgt := 19) hx hb dX2_pour_15 (by decide) (fun hc => ?_) (fun hc => ?_)
      · have hf := gx_f hf hc
        refine lv_iconst (v := 0) hx hb dX2_pour_19 (by decide) ?_
        refine lv_istore (lv' := [(4, .int (0 : Int32)), (0, .ref a_this), (1, .int x1), (2, .int x2), (3, .int x3)]) hx hb dX2_pour_20 hl (by decide) rfl (fun ls hl => ?_)
        exact X2_pour_l22_ok C a_this a_this_cells a_this_behind v_this_below n_this_behind gx_F x1 x2 x3 (0 : Int32) v_this_cells v_this_behind hf H locs ls hP hD hS (lv_sub hl [1, 2, 3, 4, 0] rfl)
      · have hf := gx_t hf hc
        cases hf
        exact gx_vret hx hb hr hlocks rfl hP hD hS dX2_pour_18
theorem X2_pour_ok (l : Launch) (D : va_G) (cI cJ cB cO : ClassId) (tM tS : Nat) (a_this a_this_cells a_this_behind : Nat)  (v_this_below : Int64) (v_this_cells v_this_behind : Nat → Int64) (x1 x2 x3 : Int32) (n_this_behind : Nat → Int64) (hf : X2_pour x1 x2 x3 v_this_cells v_this_behind = some n_this_behind) : gx_M l yX2_pour cX2_pour 5 none X2_pour_rm D cI cJ cB cO tM tS [.ref a_this, .int x1, .int x2, .int x3] [(a_this, .inr (2, [.ref a_this_cells, .ref a_this_behind, .long v_this_below])), (a_this_cells, .inl (cJ, 100, .inr (.inl v_this_cells))), (a_this_behind, .inl (cJ, 100, .inr (.inl v_this_behind)))] (X2_pour_B cI cJ cB cO a_this a_this_cells a_this_behind v_this_below v_this_cells n_this_behind) none 0 0 := by
  refine gx_of (by decide) (Nat.le_of_ble_eq_true rfl) ?_
  intro p e s m args below meth c ls A C hP hD hl _
  have hl : lv_has ls 5 [(0, .ref a_this), (1, .int x1), (2, .int x2), (3, .int x3)] := hl
  exact X2_pour_b0_ok C a_this a_this_cells a_this_behind v_this_below n_this_behind x1 x2 x3 v_this_cells v_this_behind hf s.heap [] ls hP hD va_S.rf hl
def X2_pass_B (cI cJ cB cO : ClassId) (a_this : Nat) (n_this_below : Int64) (n_this_cells n_this_behind : Nat → Int64) : va_W → Prop := fun w1 => ∃ a_this_cells a_this_behind : Nat, w1 = [(a_this, .inr (2, [.ref a_this_cells, .ref a_this_behind, .long n_this_below])), (a_this_cells, .inl (cJ, 100, .inr (.inl n_this_cells))), (a_this_behind, .inl (cJ, 100, .inr (.inl n_this_behind)))]
abbrev X2_pass_rm : Room := { frames := 2, cells := 0, slots := 0, locals := 44 }
set_option maxHeartbeats 4000000 in
set_option maxRecDepth 100000 in
theorem X2_pass_b51_ok {p : Program} {l : Launch} {e : Env} {s : State} {m : MethodId} {args : Array Value} {below : List Frame} {meth : Method} {c : Code} {D : va_G} {cI cJ cB cO : ClassId} {tM tS : Nat} {A : Nat → Prop} (C : gx_X p s m args meth c cX2_pass 5 none RX2 D cI cJ cB cO tM tS A) (a_this : Nat) (n_this_below : Int64) (n_this_cells n_this_behind : Nat → Int64)  : ∀ (v_this_below : Int64) (v_this_cells v_this_behind : Nat → Int64) (a_this_cells a_this_behind : Nat) , X2_pass_b51 v_this_below v_this_cells v_this_behind = some (n_this_below, n_this_cells, n_this_behind) → gx_Wt p l e X2_pass_rm s m args below meth c (MQ below (gx_Q D A (X2_pass_B cI cJ cB cO a_this n_this_below n_this_cells n_this_behind) none) args s 0 0 A) D A 5 [(a_this, .inr (2, [.ref a_this_cells, .ref a_this_behind, .long v_this_below])), (a_this_cells, .inl (cJ, 100, .inr (.inl v_this_cells))), (a_this_behind, .inl (cJ, 100, .inr (.inl v_this_behind)))] [(0, .ref a_this)] 51 [] := by
  intro v_this_below v_this_cells v_this_behind a_this_cells a_this_behind hf H locs ls hP hD hS hl
  obtain ⟨hx, hb, hr, hml, hown, hW, hlocks, hE, hA⟩ := id C
  unfold X2_pass_b51 at hf
  refine lv_aload_n hx hb dX2_pass_51 rfl (lv_at hl 0 rfl) ?_
  refine va_get (D := D) (ci := 2) (v := .ref a_this_cells) (C := RX2) (T := TX2) (N := 3) hx hb hW in_X2 hown hE.1 hP 0 rfl rfl 0 (by decide) (hW _ tw_118) (fun _ h9 => h9) rfl dX2_pass_52 ?_
  refine lv_astore_n (lv' := [(3, .ref a_this_cells), (0, .ref a_this)]) hx hb dX2_pass_55 rfl hl (by decide) rfl (fun ls hl => ?_)
  refine lv_aload_n hx hb dX2_pass_56 rfl (lv_at hl 1 rfl) ?_
  refine lv_aload_n hx hb dX2_pass_57 rfl (lv_at hl 1 rfl) ?_
  refine va_get (D := D) (ci := 2) (v := .ref a_this_behind) (C := RX2) (T := TX2) (N := 3) hx hb hW in_X2 hown hE.1 hP 0 rfl rfl 1 (by decide) (hW _ tw_119) (fun _ h9 => h9) rfl dX2_pass_58 ?_
  refine va_put (D := D) (ci := 2) (v := .ref a_this_behind) (ty := tyX2 0) (C := RX2) (T := TX2) (N := 3) hx hb hW in_X2 tyX2 tyX2_ok nmX2 hown hE.1 hP hD hS 0 rfl rfl 0 (by decide) (hW _ tw_118) (fun _ h9 => h9) rfl (by decide +kernel) rfl rfl (Nat.le_of_ble_eq_true rfl) dX2_pass_61 (fun H locs hP hD hS => ?_)
  have hP : va_P D gx_cl [(a_this, .inr (2, [.ref a_this_behind, .ref a_this_behind, .long v_this_below])), (a_this_cells, .inl (cJ, 100, .inr (.inl v_this_cells))), (a_this_behind, .inl (cJ, 100, .inr (.inl v_this_behind)))] H := hP
  have hD : va_D A [(a_this, .inr (2, [.ref a_this_behind, .ref a_this_behind, .long v_this_below])), (a_this_cells, .inl (cJ, 100, .inr (.inl v_this_cells))), (a_this_behind, .inl (cJ, 100, .inr (.inl v_this_behind)))] := hD
  refine lv_aload_n hx hb dX2_pass_64 rfl (lv_at hl 1 rfl) ?_
  refine lv_aload_n hx hb dX2_pass_65 rfl (lv_at hl 0 rfl) ?_
  refine va_put (D := D) (ci := 2) (v := .ref a_this_cells) (ty := tyX2 1) (C := RX2) (T := TX2) (N := 3) hx hb hW in_X2 tyX2 tyX2_ok nmX2 hown hE.1 hP hD hS 0 rfl rfl 1 (by decide) (hW _ tw_119) (fun _ h9 => h9) rfl (by decide +kernel) rfl rfl (Nat.le_of_ble_eq_true rfl) dX2_pass_66 (fun H locs hP hD hS => ?_)
  have hP : va_P D gx_cl [(a_this, .inr (2, [.ref a_this_behind, .ref a_this_cells, .long v_this_below])), (a_this_cells, .inl (cJ, 100, .inr (.inl v_this_cells))), (a_this_behind, .inl (cJ, 100, .inr (.inl v_this_behind)))] H := hP
  have hD : va_D A [(a_this, .inr (2, [.ref a_this_behind, .ref a_this_cells, .long v_this_below])), (a_this_cells, .inl (cJ, 100, .inr (.inl v_this_cells))), (a_this_behind, .inl (cJ, 100, .inr (.inl v_this_behind)))] := hD
  refine lv_aload_n hx hb dX2_pass_69 rfl (lv_at hl 1 rfl) ?_
  refine lv_dup hx hb dX2_pass_70 rfl ?_
  refine va_get (D := D) (ci := 2) (v := .long v_this_below) (C := RX2) (T := TX2) (N := 3) hx hb hW in_X2 hown hE.1 hP 0 rfl rfl 2 (by decide) (hW _ tw_120) (fun _ h9 => h9) rfl dX2_pass_71 ?_
  refine lv_ldc2 (v := 10) hx hb hown (hW _ tw_474) dX2_pass_74 ?_
  refine lv_lmul hx hb dX2_pass_77 ?_
  refine va_put (D := D) (ci := 2) (v := .long (v_this_below * (10 : Int64))) (ty := tyX2 2) (C := RX2) (T := TX2) (N := 3) hx hb hW in_X2 tyX2 tyX2_ok nmX2 hown hE.1 hP hD hS 0 rfl rfl 2 (by decide) (hW _ tw_120) (fun _ h9 => h9) rfl (by decide +kernel) rfl rfl (Nat.le_of_ble_eq_true rfl) dX2_pass_78 (fun H locs hP hD hS => ?_)
  have hP : va_P D gx_cl [(a_this, .inr (2, [.ref a_this_behind, .ref a_this_cells, .long (v_this_below * (10 : Int64))])), (a_this_cells, .inl (cJ, 100, .inr (.inl v_this_cells))), (a_this_behind, .inl (cJ, 100, .inr (.inl v_this_behind)))] H := hP
  have hD : va_D A [(a_this, .inr (2, [.ref a_this_behind, .ref a_this_cells, .long (v_this_below * (10 : Int64))])), (a_this_cells, .inl (cJ, 100, .inr (.inl v_this_cells))), (a_this_behind, .inl (cJ, 100, .inr (.inl v_this_behind)))] := hD
  have hP : va_P D gx_cl [(a_this, .inr (2, [.ref a_this_behind, .ref a_this_cells, .long (v_this_below * (10 : Int64))])), (a_this_behind, .inl (cJ, 100, .inr (.inl v_this_behind))), (a_this_cells, .inl (cJ, 100, .inr (.inl v_this_cells)))] H := hP.sub [0, 2, 1] rfl
  have hD : va_D A [(a_this, .inr (2, [.ref a_this_behind, .ref a_this_cells, .long (v_this_below * (10 : Int64))])), (a_this_behind, .inl (cJ, 100, .inr (.inl v_this_behind))), (a_this_cells, .inl (cJ, 100, .inr (.inl v_this_cells)))] := hD.sub [0, 2, 1] (by decide +kernel) rfl
  cases hf
  exact gx_vret hx hb hr hlocks ⟨a_this_behind, a_this_cells, rfl⟩ hP hD hS dX2_pass_81
set_option maxHeartbeats 4000000 in
set_option maxRecDepth 100000 in
theorem X2_pass_b10_ok {p : Program} {l : Launch} {e : Env} {s : State} {m : MethodId} {args : Array Value} {below : List Frame} {meth : Method} {c : Code} {D : va_G} {cI cJ cB cO : ClassId} {tM tS : Nat} {A : Nat → Prop} (C : gx_X p s m args meth c cX2_pass 5 none RX2 D cI cJ cB cO tM tS A) (a_this : Nat) (n_this_below : Int64) (n_this_cells n_this_behind : Nat → Int64) (k10 : Int32 → Int32 → Int32 → Int64 → (Nat → Int64) → (Nat → Int64) → Option (Int64 × (Nat → Int64) × (Nat → Int64))) (k51 : Int64 → (Nat → Int64) → (Nat → Int64) → Option (Int64 × (Nat → Int64) × (Nat → Int64))) (K10 : ∀ (x1 x2 x3 : Int32) (v_this_below : Int64) (v_this_cells v_this_behind : Nat → Int64) (a_this_cells a_this_behind : Nat) , k10 x1 x2 x3 v_this_below v_this_cells v_this_behind = some (n_this_below, n_this_cells, n_this_behind) → gx_Wt p l e X2_pass_rm s m args below meth c (MQ below (gx_Q D A (X2_pass_B cI cJ cB cO a_this n_this_below n_this_cells n_this_behind) none) args s 0 0 A) D A 5 [(a_this, .inr (2, [.ref a_this_cells, .ref a_this_behind, .long v_this_below])), (a_this_cells, .inl (cJ, 100, .inr (.inl v_this_cells))), (a_this_behind, .inl (cJ, 100, .inr (.inl v_this_behind)))] [(0, .ref a_this), (1, .int x1), (2, .int x2), (3, .int x3)] 10 []) (K51 : ∀ (v_this_below : Int64) (v_this_cells v_this_behind : Nat → Int64) (a_this_cells a_this_behind : Nat) , k51 v_this_below v_this_cells v_this_behind = some (n_this_below, n_this_cells, n_this_behind) → gx_Wt p l e X2_pass_rm s m args below meth c (MQ below (gx_Q D A (X2_pass_B cI cJ cB cO a_this n_this_below n_this_cells n_this_behind) none) args s 0 0 A) D A 5 [(a_this, .inr (2, [.ref a_this_cells, .ref a_this_behind, .long v_this_below])), (a_this_cells, .inl (cJ, 100, .inr (.inl v_this_cells))), (a_this_behind, .inl (cJ, 100, .inr (.inl v_this_behind)))] [(0, .ref a_this)] 51 []) : ∀ (x1 x2 x3 : Int32) (v_this_below : Int64) (v_this_cells v_this_behind : Nat → Int64) (a_this_cells a_this_behind : Nat) , X2_pass_b10 k10 k51 x1 x2 x3 v_this_below v_this_cells v_this_behind = some (n_this_below, n_this_cells, n_this_behind) → gx_Wt p l e X2_pass_rm s m args below meth c (MQ below (gx_Q D A (X2_pass_B cI cJ cB cO a_this n_this_below n_this_cells n_this_behind) none) args s 0 0 A) D A 5 [(a_this, .inr (2, [.ref a_this_cells, .ref a_this_behind, .long v_this_below])), (a_this_cells, .inl (cJ, 100, .inr (.inl v_this_cells))), (a_this_behind, .inl (cJ, 100, .inr (.inl v_this_behind)))] [(0, .ref a_this), (1, .int x1), (2, .int x2), (3, .int x3)] 10 [] := by
  intro x1 x2 x3 v_this_below v_this_cells v_this_behind a_this_cells a_this_behind hf H locs ls hP hD hS hl
  obtain ⟨hx, hb, hr, hml, hown, hW, hlocks, hE, hA⟩ := id C
  unfold X2_pass_b10 at hf
  refine lv_iload_n hx hb dX2_pass_10 rfl (lv_at hl 3 rfl) ?_
  refine lv_bipush (v := 10) hx hb dX2_pass_11 (by decide) ?_
  refine lv_icmp_ge (tgt := 51) hx hb dX2_pass_13 (by decide) (fun hc => ?_) (fun hc => ?_)
  · have hf := gx_t hf hc
    exact K51 v_this_below v_this_cells v_this_behind a_this_cells a_this_behind hf H locs ls hP hD hS (lv_sub hl [0] rfl)
  · have hf := gx_f hf hc
    refine lv_iload_n hx hb dX2_pass_16 rfl (lv_at hl 1 rfl) ?_
    refine lv_iload_n hx hb dX2_pass_17 rfl (lv_at hl 3 rfl) ?_
    obtain ⟨r1, hg, hf⟩ := gx_bs hf
    refine gx_SN (As := [.int x1, .int x3]) (rest := []) (st1 := [.int r1]) (cells1 := 0) (slots1 := 0) (wc := []) (wr := [(a_this, .inr (2, [.ref a_this_cells, .ref a_this_behind, .long v_this_below])), (a_this_cells, .inl (cJ, 100, .inr (.inl v_this_cells))), (a_this_behind, .inl (cJ, 100, .inr (.inl v_this_behind)))]) ⟨hx, hb, hml, hown, hW⟩ (X6_turned_ok l D cI cJ cB cO tM tS x1 x3 r1 hg) yk_X6_turned (hE.2.1.2.2.2.2.2.2.1) tw_337 ⟨rfl, rfl⟩ ⟨Nat.le_of_ble_eq_true rfl, Nat.le_of_ble_eq_true rfl⟩ hE hP hD hS hA [] [0, 1, 2] rfl rfl (by decide +kernel) (by decide +kernel) rfl (by decide +kernel) rfl hl.1 (Nat.le_of_ble_eq_true rfl) rfl rfl dX2_pass_18 ⟨Nat.le_of_ble_eq_true rfl, Nat.le_of_ble_eq_true rfl⟩ ⟨rfl, rfl⟩ (fun w1 H locs hB hP hD hS => ?_)
    obtain rfl := hB
    have hP : va_P D gx_cl [(a_this, .inr (2, [.ref a_this_cells, .ref a_this_behind, .long v_this_below])), (a_this_cells, .inl (cJ, 100, .inr (.inl v_this_cells))), (a_this_behind, .inl (cJ, 100, .inr (.inl v_this_behind)))] H := hP
    have hD : va_D A [(a_this, .inr (2, [.ref a_this_cells, .ref a_this_behind, .long v_this_below])), (a_this_cells, .inl (cJ, 100, .inr (.inl v_this_cells))), (a_this_behind, .inl (cJ, 100, .inr (.inl v_this_behind)))] := hD
    refine lv_istore (lv' := [(4, .int r1), (0, .ref a_this), (1, .int x1), (2, .int x2), (3, .int x3)]) hx hb dX2_pass_21 hl (by decide) rfl (fun ls hl => ?_)
    refine lv_aload_n hx hb dX2_pass_23 rfl (lv_at hl 1 rfl) ?_
    refine lv_iload_n hx hb dX2_pass_24 rfl (lv_at hl 4 rfl) ?_
    refine lv_iload hx hb dX2_pass_25 (lv_at hl 0 rfl) ?_
    refine lv_iload_n hx hb dX2_pass_27 rfl (lv_at hl 3 rfl) ?_
    obtain ⟨w2, hg, hf⟩ := gx_bs hf
    refine gx_V (As := [.int x3, .int r1, .int x2]) (rest := []) (st1 := []) (cells1 := 0) (slots1 := 0) (wc := [(a_this, .inr (2, [.ref a_this_cells, .ref a_this_behind, .long v_this_below])), (a_this_cells, .inl (cJ, 100, .inr (.inl v_this_cells))), (a_this_behind, .inl (cJ, 100, .inr (.inl v_this_behind)))]) (wr := []) ⟨hx, hb, hml, hown, hW⟩ (X2_pour_ok l D cI cJ cB cO tM tS a_this a_this_cells a_this_behind v_this_below v_this_cells v_this_behind x3 r1 x2 w2 hg) yk_X2_pour tw_466 yv_X2_pour ⟨rfl, rfl⟩ ⟨Nat.le_of_ble_eq_true rfl, Nat.le_of_ble_eq_true rfl⟩ hE hP hD hS hA [0, 1, 2] [] rfl rfl (by decide +kernel) (by decide +kernel) rfl (by decide +kernel) (ci := 2) rfl rfl rfl hl.1 (Nat.le_of_ble_eq_true rfl) rfl rfl dX2_pass_28 ⟨Nat.le_of_ble_eq_true rfl, Nat.le_of_ble_eq_true rfl⟩ ⟨rfl, rfl⟩ (fun w1 H locs hB hP hD hS => ?_)
    obtain rfl := hB
    have hP : va_P D gx_cl [(a_this, .inr (2, [.ref a_this_cells, .ref a_this_behind, .long v_this_below])), (a_this_cells, .inl (cJ, 100, .inr (.inl v_this_cells))), (a_this_behind, .inl (cJ, 100, .inr (.inl w2)))] H := hP
    have hD : va_D A [(a_this, .inr (2, [.ref a_this_cells, .ref a_this_behind, .long v_this_below])), (a_this_cells, .inl (cJ, 100, .inr (.inl v_this_cells))), (a_this_behind, .inl (cJ, 100, .inr (.inl w2)))] := hD
    refine lv_aload_n hx hb dX2_pass_31 rfl (lv_at hl 1 rfl) ?_
    refine lv_iload_n hx hb dX2_pass_32 rfl (lv_at hl 4 rfl) ?_
    refine lv_iload hx hb dX2_pass_33 (lv_at hl 0 rfl) ?_
    obtain ⟨r3, hg, hf⟩ := gx_bs hf
    refine gx_SN (As := [.int r1]) (rest := [.int x3, .ref a_this]) (st1 := [.int r3, .int x3, .ref a_this]) (cells1 := 0) (slots1 := 0) (wc := []) (wr := [(a_this, .inr (2, [.ref a_this_cells, .ref a_this_behind, .long v_this_below])), (a_this_cells, .inl (cJ, 100, .inr (.inl v_this_cells))), (a_this_behind, .inl (cJ, 100, .inr (.inl w2)))]) ⟨hx, hb, hml, hown, hW⟩ (X6_slipped_ok l D cI cJ cB cO tM tS r1 r3 hg) yk_X6_slipped (hE.2.1.2.2.2.2.2.2.2.2.1) tw_472 ⟨rfl, rfl⟩ ⟨Nat.le_of_ble_eq_true rfl, Nat.le_of_ble_eq_true rfl⟩ hE hP hD hS hA [] [0, 1, 2] rfl rfl (by decide +kernel) (by decide +kernel) rfl (by decide +kernel) rfl hl.1 (Nat.le_of_ble_eq_true rfl) rfl rfl dX2_pass_35 ⟨Nat.le_of_ble_eq_true rfl, Nat.le_of_ble_eq_true rfl⟩ ⟨rfl, rfl⟩ (fun w1 H locs hB hP hD hS => ?_)
    obtain rfl := hB
    have hP : va_P D gx_cl [(a_this, .inr (2, [.ref a_this_cells, .ref a_this_behind, .long v_this_below])), (a_this_cells, .inl (cJ, 100, .inr (.inl v_this_cells))), (a_this_behind, .inl (cJ, 100, .inr (.inl w2)))] H := hP
    have hD : va_D A [(a_this, .inr (2, [.ref a_this_cells, .ref a_this_behind, .long v_this_below])), (a_this_cells, .inl (cJ, 100, .inr (.inl v_this_cells))), (a_this_behind, .inl (cJ, 100, .inr (.inl w2)))] := hD
    refine lv_bipush (v := 10) hx hb dX2_pass_38 (by decide) ?_
    refine lv_iload_n hx hb dX2_pass_40 rfl (lv_at hl 3 rfl) ?_
    refine lv_isub hx hb dX2_pass_41 ?_
    obtain ⟨w4, hg, hf⟩ := gx_bs hf
    refine gx_V (As := [.int x3, .int r3, .int ((10 : Int32) - x2)]) (rest := []) (st1 := []) (cells1 := 0) (slots1 := 0) (wc := [(a_this, .inr (2, [.ref a_this_cells, .ref a_this_behind, .long v_this_below])), (a_this_cells, .inl (cJ, 100, .inr (.inl v_this_cells))), (a_this_behind, .inl (cJ, 100, .inr (.inl w2)))]) (wr := []) ⟨hx, hb, hml, hown, hW⟩ (X2_pour_ok l D cI cJ cB cO tM tS a_this a_this_cells a_this_behind v_this_below v_this_cells w2 x3 r3 ((10 : Int32) - x2) w4 hg) yk_X2_pour tw_466 yv_X2_pour ⟨rfl, rfl⟩ ⟨Nat.le_of_ble_eq_true rfl, Nat.le_of_ble_eq_true rfl⟩ hE hP hD hS hA [0, 1, 2] [] rfl rfl (by decide +kernel) (by decide +kernel) rfl (by decide +kernel) (ci := 2) rfl rfl rfl hl.1 (Nat.le_of_ble_eq_true rfl) rfl rfl dX2_pass_42 ⟨Nat.le_of_ble_eq_true rfl, Nat.le_of_ble_eq_true rfl⟩ ⟨rfl, rfl⟩ (fun w1 H locs hB hP hD hS => ?_)
    obtain rfl := hB
    have hP : va_P D gx_cl [(a_this, .inr (2, [.ref a_this_cells, .ref a_this_behind, .long v_this_below])), (a_this_cells, .inl (cJ, 100, .inr (.inl v_this_cells))), (a_this_behind, .inl (cJ, 100, .inr (.inl w4)))] H := hP
    have hD : va_D A [(a_this, .inr (2, [.ref a_this_cells, .ref a_this_behind, .long v_this_below])), (a_this_cells, .inl (cJ, 100, .inr (.inl v_this_cells))), (a_this_behind, .inl (cJ, 100, .inr (.inl w4)))] := hD
    refine lv_iinc (v := x3 + 1) (lv' := [(3, .int (x3 + 1)), (4, .int r1), (0, .ref a_this), (1, .int x1), (2, .int x2)]) hx hb dX2_pass_45 hl (k := 4) rfl rfl (by decide) rfl (fun ls hl => ?_)
    refine lv_goto (tgt := 10) hx hb dX2_pass_48 (by decide) ?_
    exact K10 x1 x2 (x3 + 1) v_this_below v_this_cells w4 a_this_cells a_this_behind hf H locs ls hP hD hS (lv_sub hl [2, 3, 4, 0] rfl)
theorem X2_pass_l10_ok {p : Program} {l : Launch} {e : Env} {s : State} {m : MethodId} {args : Array Value} {below : List Frame} {meth : Method} {c : Code} {D : va_G} {cI cJ cB cO : ClassId} {tM tS : Nat} {A : Nat → Prop} (C : gx_X p s m args meth c cX2_pass 5 none RX2 D cI cJ cB cO tM tS A) (a_this : Nat) (n_this_below : Int64) (n_this_cells n_this_behind : Nat → Int64) (k51 : Int64 → (Nat → Int64) → (Nat → Int64) → Option (Int64 × (Nat → Int64) × (Nat → Int64))) (K51 : ∀ (v_this_below : Int64) (v_this_cells v_this_behind : Nat → Int64) (a_this_cells a_this_behind : Nat) , k51 v_this_below v_this_cells v_this_behind = some (n_this_below, n_this_cells, n_this_behind) → gx_Wt p l e X2_pass_rm s m args below meth c (MQ below (gx_Q D A (X2_pass_B cI cJ cB cO a_this n_this_below n_this_cells n_this_behind) none) args s 0 0 A) D A 5 [(a_this, .inr (2, [.ref a_this_cells, .ref a_this_behind, .long v_this_below])), (a_this_cells, .inl (cJ, 100, .inr (.inl v_this_cells))), (a_this_behind, .inl (cJ, 100, .inr (.inl v_this_behind)))] [(0, .ref a_this)] 51 []) : ∀ (n : Nat) (x1 x2 x3 : Int32) (v_this_below : Int64) (v_this_cells v_this_behind : Nat → Int64) (a_this_cells a_this_behind : Nat) , X2_pass_l10 k51 n x1 x2 x3 v_this_below v_this_cells v_this_behind = some (n_this_below, n_this_cells, n_this_behind) → gx_Wt p l e X2_pass_rm s m args below meth c (MQ below (gx_Q D A (X2_pass_B cI cJ cB cO a_this n_this_below n_this_cells n_this_behind) none) args s 0 0 A) D A 5 [(a_this, .inr (2, [.ref a_this_cells, .ref a_this_behind, .long v_this_below])), (a_this_cells, .inl (cJ, 100, .inr (.inl v_this_cells))), (a_this_behind, .inl (cJ, 100, .inr (.inl v_this_behind)))] [(0, .ref a_this), (1, .int x1), (2, .int x2), (3, .int x3)] 10 [] := by
  intro n
  induction n with
  | zero =>
    intro _ _ _ _ _ _ _ _ hf
    cases hf
  | succ n ih => exact fun x1 x2 x3 v_this_below v_this_cells v_this_behind a_this_cells a_this_behind hf => X2_pass_b10_ok C a_this n_this_below n_this_cells n_this_behind (X2_pass_l10 k51 n) k51 ih K51 x1 x2 x3 v_this_below v_this_cells v_this_behind a_this_cells a_this_behind hf
set_option maxHeartbeats 4000000 in
set_option maxRecDepth 100000 in
theorem X2_pass_b0_ok {p : Program} {l : Launch} {e : Env} {s : State} {m : MethodId} {args : Array Value} {below : List Frame} {meth : Method} {c : Code} {D : va_G} {cI cJ cB cO : ClassId} {tM tS : Nat} {A : Nat → Prop} (C : gx_X p s m args meth c cX2_pass 5 none RX2 D cI cJ cB cO tM tS A) (a_this : Nat) (n_this_below : Int64) (n_this_cells n_this_behind : Nat → Int64)  : ∀ (x1 x2 : Int32) (v_this_below : Int64) (v_this_cells v_this_behind : Nat → Int64) (a_this_cells a_this_behind : Nat) , X2_pass x1 x2 v_this_below v_this_cells v_this_behind = some (n_this_below, n_this_cells, n_this_behind) → gx_Wt p l e X2_pass_rm s m args below meth c (MQ below (gx_Q D A (X2_pass_B cI cJ cB cO a_this n_this_below n_this_cells n_this_behind) none) args s 0 0 A) D A 5 [(a_this, .inr (2, [.ref a_this_cells, .ref a_this_behind, .long v_this_below])), (a_this_cells, .inl (cJ, 100, .inr (.inl v_this_cells))), (a_this_behind, .inl (cJ, 100, .inr (.inl v_this_behind)))] [(0, .ref a_this), (1, .int x1), (2, .int x2)] 0 [] := by
  intro x1 x2 v_this_below v_this_cells v_this_behind a_this_cells a_this_behind hf H locs ls hP hD hS hl
  obtain ⟨hx, hb, hr, hml, hown, hW, hlocks, hE, hA⟩ := id C
  unfold X2_pass at hf
  refine lv_aload_n hx hb dX2_pass_0 rfl (lv_at hl 0 rfl) ?_
  refine va_get (D := D) (ci := 2) (v := .ref a_this_behind) (C := RX2) (T := TX2) (N := 3) hx hb hW in_X2 hown hE.1 hP 0 rfl rfl 1 (by decide) (hW _ tw_119) (fun _ h9 => h9) rfl dX2_pass_1 ?_
  refine lv_lconst (v := 0) hx hb dX2_pass_4 (by decide) ?_
  obtain ⟨w1, hg, hf⟩ := gx_bs hf
  refine gx_Sc (As := [.ref a_this_behind, .long (0 : Int64)]) (rest := []) (st1 := []) (cells1 := 0) (slots1 := 0) (wc := [(a_this_behind, .inl (cJ, 100, .inr (.inl v_this_behind)))]) (wr := [(a_this, .inr (2, [.ref a_this_cells, .ref a_this_behind, .long v_this_below])), (a_this_cells, .inl (cJ, 100, .inr (.inl v_this_cells)))]) ⟨hx, hb, hml, hown, hW⟩ (J7_fill_d0a16_ok l D cI cJ cB cO tM tS a_this_behind 100 v_this_behind (0 : Int64) w1 hg) yk_J7_fill_d0a16 tw_143 tw_144 ⟨rfl, rfl⟩ ⟨Nat.le_of_ble_eq_true rfl, Nat.le_of_ble_eq_true rfl⟩ hE hP hD hS hA [2] [0, 1] rfl rfl (by decide +kernel) (by decide +kernel) rfl (by decide +kernel) rfl hl.1 (Nat.le_of_ble_eq_true rfl) rfl rfl dX2_pass_5 ⟨Nat.le_of_ble_eq_true rfl, Nat.le_of_ble_eq_true rfl⟩ ⟨rfl, rfl⟩ (fun w1 H locs hB hP hD hS => ?_)
  obtain rfl := hB
  have hP : va_P D gx_cl [(a_this, .inr (2, [.ref a_this_cells, .ref a_this_behind, .long v_this_below])), (a_this_cells, .inl (cJ, 100, .inr (.inl v_this_cells))), (a_this_behind, .inl (cJ, 100, .inr (.inl w1)))] H := hP
  have hD : va_D A [(a_this, .inr (2, [.ref a_this_cells, .ref a_this_behind, .long v_this_below])), (a_this_cells, .inl (cJ, 100, .inr (.inl v_this_cells))), (a_this_behind, .inl (cJ, 100, .inr (.inl w1)))] := hD
  refine lv_iconst (v := 0) hx hb dX2_pass_8 (by decide) ?_
  refine lv_istore_n (lv' := [(3, .int (0 : Int32)), (0, .ref a_this), (1, .int x1), (2, .int x2)]) hx hb dX2_pass_9 rfl hl (by decide) rfl (fun ls hl => ?_)
  exact X2_pass_l10_ok C a_this n_this_below n_this_cells n_this_behind X2_pass_b51 (X2_pass_b51_ok C a_this n_this_below n_this_cells n_this_behind) gx_F x1 x2 (0 : Int32) v_this_below v_this_cells w1 a_this_cells a_this_behind hf H locs ls hP hD hS (lv_sub hl [1, 2, 3, 0] rfl)
theorem X2_pass_ok (l : Launch) (D : va_G) (cI cJ cB cO : ClassId) (tM tS : Nat) (a_this a_this_cells a_this_behind : Nat)  (v_this_below : Int64) (v_this_cells v_this_behind : Nat → Int64) (x1 x2 : Int32) (n_this_below : Int64) (n_this_cells n_this_behind : Nat → Int64) (hf : X2_pass x1 x2 v_this_below v_this_cells v_this_behind = some (n_this_below, n_this_cells, n_this_behind)) : gx_M l yX2_pass cX2_pass 5 none X2_pass_rm D cI cJ cB cO tM tS [.ref a_this, .int x1, .int x2] [(a_this, .inr (2, [.ref a_this_cells, .ref a_this_behind, .long v_this_below])), (a_this_cells, .inl (cJ, 100, .inr (.inl v_this_cells))), (a_this_behind, .inl (cJ, 100, .inr (.inl v_this_behind)))] (X2_pass_B cI cJ cB cO a_this n_this_below n_this_cells n_this_behind) none 0 0 := by
  refine gx_of (by decide) (Nat.le_of_ble_eq_true rfl) ?_
  intro p e s m args below meth c ls A C hP hD hl _
  have hl : lv_has ls 5 [(0, .ref a_this), (1, .int x1), (2, .int x2)] := hl
  exact X2_pass_b0_ok C a_this n_this_below n_this_cells n_this_behind x1 x2 v_this_below v_this_cells v_this_behind a_this_cells a_this_behind hf s.heap [] ls hP hD va_S.rf hl
def X2_reaching_B (cI cJ cB cO : ClassId) (a_this a_this_cells a_this_behind : Nat) (v_this_below : Int64) (v_this_cells : Nat → Int64) : va_W → Prop := fun w1 => w1 = [(a_this, .inr (2, [.ref a_this_cells, .ref a_this_behind, .long v_this_below])), (a_this_cells, .inl (cJ, 100, .inr (.inl v_this_cells)))]
abbrev X2_reaching_rm : Room := { frames := 2, cells := 0, slots := 0, locals := 42 }
set_option maxHeartbeats 4000000 in
set_option maxRecDepth 100000 in
theorem X2_reaching_b5_ok {p : Program} {l : Launch} {e : Env} {s : State} {m : MethodId} {args : Array Value} {below : List Frame} {meth : Method} {c : Code} {D : va_G} {cI cJ cB cO : ClassId} {tM tS : Nat} {A : Nat → Prop} (C : gx_X p s m args meth c cX2_reaching 5 (some .long) RX2 D cI cJ cB cO tM tS A) (a_this a_this_cells a_this_behind : Nat) (v_this_below : Int64) (n_r : Int64) (k5 : Int32 → Int64 → Int32 → (Nat → Int64) → Option (Int64)) (K5 : ∀ (x1 : Int32) (x2 : Int64) (x4 : Int32) (v_this_cells : Nat → Int64) , k5 x1 x2 x4 v_this_cells = some n_r → gx_Wt p l e X2_reaching_rm s m args below meth c (MQ below (gx_Q D A (X2_reaching_B cI cJ cB cO a_this a_this_cells a_this_behind v_this_below v_this_cells) (some (.long n_r))) args s 0 0 A) D A 5 [(a_this, .inr (2, [.ref a_this_cells, .ref a_this_behind, .long v_this_below])), (a_this_cells, .inl (cJ, 100, .inr (.inl v_this_cells)))] [(0, .ref a_this), (1, .int x1), (2, .long x2), (4, .int x4)] 5 []) : ∀ (x1 : Int32) (x2 : Int64) (x4 : Int32) (v_this_cells : Nat → Int64) , X2_reaching_b5 k5 x1 x2 x4 v_this_cells = some n_r → gx_Wt p l e X2_reaching_rm s m args below meth c (MQ below (gx_Q D A (X2_reaching_B cI cJ cB cO a_this a_this_cells a_this_behind v_this_below v_this_cells) (some (.long n_r))) args s 0 0 A) D A 5 [(a_this, .inr (2, [.ref a_this_cells, .ref a_this_behind, .long v_this_below])), (a_this_cells, .inl (cJ, 100, .inr (.inl v_this_cells)))] [(0, .ref a_this), (1, .int x1), (2, .long x2), (4, .int x4)] 5 [] := by
  intro x1 x2 x4 v_this_cells hf H locs ls hP hD hS hl
  obtain ⟨hx, hb, hr, hml, hown, hW, hlocks, hE, hA⟩ := id C
  unfold X2_reaching_b5 at hf
  refine lv_iload hx hb dX2_reaching_5 (lv_at hl 3 rfl) ?_
  refine lv_bipush (v := 10) hx hb dX2_reaching_7 (by decide) ?_
  refine lv_icmp_ge (tgt := 28) hx hb dX2_reaching_9 (by decide) (fun hc => ?_) (fun hc => ?_)
  · have hf := gx_t hf hc
    refine lv_lload_n hx hb dX2_reaching_28 rfl (lv_at hl 2 rfl) ?_
    cases hf
    exact gx_lret hx hb hr hlocks rfl hP hD hS dX2_reaching_29
  · have hf := gx_f hf hc
    refine lv_lload_n hx hb dX2_reaching_12 rfl (lv_at hl 2 rfl) ?_
    refine lv_aload_n hx hb dX2_reaching_13 rfl (lv_at hl 0 rfl) ?_
    refine lv_iload hx hb dX2_reaching_14 (lv_at hl 3 rfl) ?_
    refine lv_iload_n hx hb dX2_reaching_16 rfl (lv_at hl 1 rfl) ?_
    obtain ⟨r1, hg, hf⟩ := gx_bs hf
    refine gx_V (As := [.int x4, .int x1]) (rest := [.long x2]) (st1 := [.long r1, .long x2]) (cells1 := 0) (slots1 := 0) (wc := [(a_this, .inr (2, [.ref a_this_cells, .ref a_this_behind, .long v_this_below])), (a_this_cells, .inl (cJ, 100, .inr (.inl v_this_cells)))]) (wr := []) ⟨hx, hb, hml, hown, hW⟩ (X2_above_ok l D cI cJ cB cO tM tS a_this a_this_cells a_this_behind v_this_below v_this_cells x4 x1 r1 hg) yk_X2_above tw_497 yv_X2_above ⟨rfl, rfl⟩ ⟨Nat.le_of_ble_eq_true rfl, Nat.le_of_ble_eq_true rfl⟩ hE hP hD hS hA [0, 1] [] rfl rfl (by decide +kernel) (by decide +kernel) rfl (by decide +kernel) (ci := 2) rfl rfl rfl hl.1 (Nat.le_of_ble_eq_true rfl) rfl rfl dX2_reaching_17 ⟨Nat.le_of_ble_eq_true rfl, Nat.le_of_ble_eq_true rfl⟩ ⟨rfl, rfl⟩ (fun w1 H locs hB hP hD hS => ?_)
    obtain rfl := hB
    have hP : va_P D gx_cl [(a_this, .inr (2, [.ref a_this_cells, .ref a_this_behind, .long v_this_below])), (a_this_cells, .inl (cJ, 100, .inr (.inl v_this_cells)))] H := hP
    have hD : va_D A [(a_this, .inr (2, [.ref a_this_cells, .ref a_this_behind, .long v_this_below])), (a_this_cells, .inl (cJ, 100, .inr (.inl v_this_cells)))] := hD
    refine lv_ladd hx hb dX2_reaching_20 ?_
    refine lv_topl (fun y2 ey2 => ?_)
    have hf := gx_lv hf ey2
    clear ey2
    refine lv_lstore_n (lv' := [(2, .long y2), (0, .ref a_this), (1, .int x1), (4, .int x4)]) hx hb dX2_reaching_21 rfl hl (by decide) rfl (fun ls hl => ?_)
    refine lv_iinc (v := x4 + 1) (lv' := [(4, .int (x4 + 1)), (2, .long y2), (0, .ref a_this), (1, .int x1)]) hx hb dX2_reaching_22 hl (k := 3) rfl rfl (by decide) rfl (fun ls hl => ?_)
    refine lv_goto (tgt := 5) hx hb dX2_reaching_25 (by decide) ?_
    exact K5 x1 y2 (x4 + 1) v_this_cells hf H locs ls hP hD hS (lv_sub hl [2, 3, 1, 0] rfl)
theorem X2_reaching_l5_ok {p : Program} {l : Launch} {e : Env} {s : State} {m : MethodId} {args : Array Value} {below : List Frame} {meth : Method} {c : Code} {D : va_G} {cI cJ cB cO : ClassId} {tM tS : Nat} {A : Nat → Prop} (C : gx_X p s m args meth c cX2_reaching 5 (some .long) RX2 D cI cJ cB cO tM tS A) (a_this a_this_cells a_this_behind : Nat) (v_this_below : Int64) (n_r : Int64)  : ∀ (n : Nat) (x1 : Int32) (x2 : Int64) (x4 : Int32) (v_this_cells : Nat → Int64) , X2_reaching_l5 n x1 x2 x4 v_this_cells = some n_r → gx_Wt p l e X2_reaching_rm s m args below meth c (MQ below (gx_Q D A (X2_reaching_B cI cJ cB cO a_this a_this_cells a_this_behind v_this_below v_this_cells) (some (.long n_r))) args s 0 0 A) D A 5 [(a_this, .inr (2, [.ref a_this_cells, .ref a_this_behind, .long v_this_below])), (a_this_cells, .inl (cJ, 100, .inr (.inl v_this_cells)))] [(0, .ref a_this), (1, .int x1), (2, .long x2), (4, .int x4)] 5 [] := by
  intro n
  induction n with
  | zero =>
    intro _ _ _ _ hf
    cases hf
  | succ n ih => exact fun x1 x2 x4 v_this_cells hf => X2_reaching_b5_ok C a_this a_this_cells a_this_behind v_this_below n_r (X2_reaching_l5 n) ih x1 x2 x4 v_this_cells hf
set_option maxHeartbeats 4000000 in
set_option maxRecDepth 100000 in
theorem X2_reaching_b0_ok {p : Program} {l : Launch} {e : Env} {s : State} {m : MethodId} {args : Array Value} {below : List Frame} {meth : Method} {c : Code} {D : va_G} {cI cJ cB cO : ClassId} {tM tS : Nat} {A : Nat → Prop} (C : gx_X p s m args meth c cX2_reaching 5 (some .long) RX2 D cI cJ cB cO tM tS A) (a_this a_this_cells a_this_behind : Nat) (v_this_below : Int64) (n_r : Int64)  : ∀ (x1 : Int32) (v_this_cells : Nat → Int64) , X2_reaching x1 v_this_cells = some n_r → gx_Wt p l e X2_reaching_rm s m args below meth c (MQ below (gx_Q D A (X2_reaching_B cI cJ cB cO a_this a_this_cells a_this_behind v_this_below v_this_cells) (some (.long n_r))) args s 0 0 A) D A 5 [(a_this, .inr (2, [.ref a_this_cells, .ref a_this_behind, .long v_this_below])), (a_this_cells, .inl (cJ, 100, .inr (.inl v_this_cells)))] [(0, .ref a_this), (1, .int x1)] 0 [] := by
  intro x1 v_this_cells hf H locs ls hP hD hS hl
  obtain ⟨hx, hb, hr, hml, hown, hW, hlocks, hE, hA⟩ := id C
  unfold X2_reaching at hf
  refine lv_lconst (v := 0) hx hb dX2_reaching_0 (by decide) ?_
  refine lv_lstore_n (lv' := [(2, .long (0 : Int64)), (0, .ref a_this), (1, .int x1)]) hx hb dX2_reaching_1 rfl hl (by decide) rfl (fun ls hl => ?_)
  refine lv_iconst (v := 0) hx hb dX2_reaching_2 (by decide) ?_
  refine lv_istore (lv' := [(4, .int (0 : Int32)), (2, .long (0 : Int64)), (0, .ref a_this), (1, .int x1)]) hx hb dX2_reaching_3 hl (by decide) rfl (fun ls hl => ?_)
  exact X2_reaching_l5_ok C a_this a_this_cells a_this_behind v_this_below n_r gx_F x1 (0 : Int64) (0 : Int32) v_this_cells hf H locs ls hP hD hS (lv_sub hl [2, 3, 1, 0] rfl)
theorem X2_reaching_ok (l : Launch) (D : va_G) (cI cJ cB cO : ClassId) (tM tS : Nat) (a_this a_this_cells a_this_behind : Nat)  (v_this_below : Int64) (v_this_cells : Nat → Int64) (x1 : Int32) (n_r : Int64) (hf : X2_reaching x1 v_this_cells = some n_r) : gx_M l yX2_reaching cX2_reaching 5 (some .long) X2_reaching_rm D cI cJ cB cO tM tS [.ref a_this, .int x1] [(a_this, .inr (2, [.ref a_this_cells, .ref a_this_behind, .long v_this_below])), (a_this_cells, .inl (cJ, 100, .inr (.inl v_this_cells)))] (X2_reaching_B cI cJ cB cO a_this a_this_cells a_this_behind v_this_below v_this_cells) (some (.long n_r)) 0 0 := by
  refine gx_of (by decide) (Nat.le_of_ble_eq_true rfl) ?_
  intro p e s m args below meth c ls A C hP hD hl _
  have hl : lv_has ls 5 [(0, .ref a_this), (1, .int x1)] := hl
  exact X2_reaching_b0_ok C a_this a_this_cells a_this_behind v_this_below n_r x1 v_this_cells hf s.heap [] ls hP hD va_S.rf hl
def X3_append_B (cI cJ cB cO : ClassId) (a_this a_this_bytes a_this_numbers : Nat) (n_this_length : Int32) (n_this_bytes : Nat → Int32) : va_W → Prop := fun w1 => w1 = [(a_this, .inr (3, [.ref a_this_bytes, .ref a_this_numbers, .int n_this_length])), (a_this_bytes, .inl (cI, 200, .inl n_this_bytes))]
abbrev X3_append_rm : Room := { frames := 0, cells := 0, slots := 0, locals := 0 }
set_option maxHeartbeats 4000000 in
set_option maxRecDepth 100000 in
theorem X3_append_b0_ok {p : Program} {l : Launch} {e : Env} {s : State} {m : MethodId} {args : Array Value} {below : List Frame} {meth : Method} {c : Code} {D : va_G} {cI cJ cB cO : ClassId} {tM tS : Nat} {A : Nat → Prop} (C : gx_X p s m args meth c cX3_append 2 none RX3 D cI cJ cB cO tM tS A) (a_this a_this_bytes a_this_numbers : Nat) (n_this_length : Int32) (n_this_bytes : Nat → Int32)  : ∀ (x1 v_this_length : Int32) (v_this_bytes : Nat → Int32) , X3_append x1 v_this_length v_this_bytes = some (n_this_length, n_this_bytes) → gx_Wt p l e X3_append_rm s m args below meth c (MQ below (gx_Q D A (X3_append_B cI cJ cB cO a_this a_this_bytes a_this_numbers n_this_length n_this_bytes) none) args s 0 0 A) D A 2 [(a_this, .inr (3, [.ref a_this_bytes, .ref a_this_numbers, .int v_this_length])), (a_this_bytes, .inl (cI, 200, .inl v_this_bytes))] [(0, .ref a_this), (1, .int x1)] 0 [] := by
  intro x1 v_this_length v_this_bytes hf H locs ls hP hD hS hl
  obtain ⟨hx, hb, hr, hml, hown, hW, hlocks, hE, hA⟩ := id C
  unfold X3_append at hf
  refine lv_aload_n hx hb dX3_append_0 rfl (lv_at hl 0 rfl) ?_
  refine va_get (D := D) (ci := 3) (v := .int v_this_length) (C := RX3) (T := TX3) (N := 3) hx hb hW in_X3 hown hE.1 hP 0 rfl rfl 2 (by decide) (hW _ tw_71) (fun _ h9 => h9) rfl dX3_append_1 ?_
  refine lv_sipush (v := 200) hx hb dX3_append_4 (by decide) ?_
  refine lv_icmp_ge (tgt := 30) hx hb dX3_append_7 (by decide) (fun hc => ?_) (fun hc => ?_)
  · have hf := gx_t hf hc
    cases hf
    exact gx_vret hx hb hr hlocks rfl hP hD hS dX3_append_30
  · have hf := gx_f hf hc
    refine lv_aload_n hx hb dX3_append_10 rfl (lv_at hl 0 rfl) ?_
    refine va_get (D := D) (ci := 3) (v := .ref a_this_bytes) (C := RX3) (T := TX3) (N := 3) hx hb hW in_X3 hown hE.1 hP 0 rfl rfl 0 (by decide) (hW _ tw_69) (fun _ h9 => h9) rfl dX3_append_11 ?_
    refine lv_aload_n hx hb dX3_append_14 rfl (lv_at hl 0 rfl) ?_
    refine va_get (D := D) (ci := 3) (v := .int v_this_length) (C := RX3) (T := TX3) (N := 3) hx hb hW in_X3 hown hE.1 hP 0 rfl rfl 2 (by decide) (hW _ tw_71) (fun _ h9 => h9) rfl dX3_append_15 ?_
    refine lv_iload_n hx hb dX3_append_18 rfl (lv_at hl 1 rfl) ?_
    obtain ⟨h1, hf⟩ := gx_ite hf
    refine va_iast hx hb hE.1 hP hD hS 1 0 rfl rfl h1 dX3_append_19 (fun H locs hP hD hS => ?_)
    have hP : va_P D gx_cl [(a_this, .inr (3, [.ref a_this_bytes, .ref a_this_numbers, .int v_this_length])), (a_this_bytes, .inl (cI, 200, .inl (upd v_this_bytes v_this_length.toNatClampNeg x1)))] H := hP
    have hD : va_D A [(a_this, .inr (3, [.ref a_this_bytes, .ref a_this_numbers, .int v_this_length])), (a_this_bytes, .inl (cI, 200, .inl (upd v_this_bytes v_this_length.toNatClampNeg x1)))] := hD
    refine lv_aload_n hx hb dX3_append_20 rfl (lv_at hl 0 rfl) ?_
    refine lv_dup hx hb dX3_append_21 rfl ?_
    refine va_get (D := D) (ci := 3) (v := .int v_this_length) (C := RX3) (T := TX3) (N := 3) hx hb hW in_X3 hown hE.1 hP 0 rfl rfl 2 (by decide) (hW _ tw_71) (fun _ h9 => h9) rfl dX3_append_22 ?_
    refine lv_iconst (v := 1) hx hb dX3_append_25 (by decide) ?_
    refine lv_iadd hx hb dX3_append_26 ?_
    refine va_put (D := D) (ci := 3) (v := .int (v_this_length + (1 : Int32))) (ty := tyX3 2) (C := RX3) (T := TX3) (N := 3) hx hb hW in_X3 tyX3 tyX3_ok nmX3 hown hE.1 hP hD hS 0 rfl rfl 2 (by decide) (hW _ tw_71) (fun _ h9 => h9) rfl (by decide +kernel) rfl rfl (Nat.le_of_ble_eq_true rfl) dX3_append_27 (fun H locs hP hD hS => ?_)
    have hP : va_P D gx_cl [(a_this, .inr (3, [.ref a_this_bytes, .ref a_this_numbers, .int (v_this_length + (1 : Int32))])), (a_this_bytes, .inl (cI, 200, .inl (upd v_this_bytes v_this_length.toNatClampNeg x1)))] H := hP
    have hD : va_D A [(a_this, .inr (3, [.ref a_this_bytes, .ref a_this_numbers, .int (v_this_length + (1 : Int32))])), (a_this_bytes, .inl (cI, 200, .inl (upd v_this_bytes v_this_length.toNatClampNeg x1)))] := hD
    cases hf
    exact gx_vret hx hb hr hlocks rfl hP hD hS dX3_append_30
theorem X3_append_ok (l : Launch) (D : va_G) (cI cJ cB cO : ClassId) (tM tS : Nat) (a_this a_this_bytes a_this_numbers : Nat)  (v_this_length : Int32) (v_this_bytes : Nat → Int32) (x1 n_this_length : Int32) (n_this_bytes : Nat → Int32) (hf : X3_append x1 v_this_length v_this_bytes = some (n_this_length, n_this_bytes)) : gx_M l yX3_append cX3_append 2 none X3_append_rm D cI cJ cB cO tM tS [.ref a_this, .int x1] [(a_this, .inr (3, [.ref a_this_bytes, .ref a_this_numbers, .int v_this_length])), (a_this_bytes, .inl (cI, 200, .inl v_this_bytes))] (X3_append_B cI cJ cB cO a_this a_this_bytes a_this_numbers n_this_length n_this_bytes) none 0 0 := by
  refine gx_of (by decide) (Nat.le_of_ble_eq_true rfl) ?_
  intro p e s m args below meth c ls A C hP hD hl _
  have hl : lv_has ls 2 [(0, .ref a_this), (1, .int x1)] := hl
  exact X3_append_b0_ok C a_this a_this_bytes a_this_numbers n_this_length n_this_bytes x1 v_this_length v_this_bytes hf s.heap [] ls hP hD va_S.rf hl
def X3_byteAt_B (cI cJ cB cO : ClassId) (a_this a_this_bytes a_this_numbers : Nat) (v_this_length : Int32) (v_this_bytes : Nat → Int32) : va_W → Prop := fun w1 => w1 = [(a_this, .inr (3, [.ref a_this_bytes, .ref a_this_numbers, .int v_this_length])), (a_this_bytes, .inl (cI, 200, .inl v_this_bytes))]
abbrev X3_byteAt_rm : Room := { frames := 0, cells := 0, slots := 0, locals := 0 }
set_option maxHeartbeats 4000000 in
set_option maxRecDepth 100000 in
theorem X3_byteAt_b0_ok {p : Program} {l : Launch} {e : Env} {s : State} {m : MethodId} {args : Array Value} {below : List Frame} {meth : Method} {c : Code} {D : va_G} {cI cJ cB cO : ClassId} {tM tS : Nat} {A : Nat → Prop} (C : gx_X p s m args meth c cX3_byteAt 2 (some .int) RX3 D cI cJ cB cO tM tS A) (a_this a_this_bytes a_this_numbers : Nat) (n_r : Int32)  : ∀ (x1 v_this_length : Int32) (v_this_bytes : Nat → Int32) , X3_byteAt x1 v_this_length v_this_bytes = some n_r → gx_Wt p l e X3_byteAt_rm s m args below meth c (MQ below (gx_Q D A (X3_byteAt_B cI cJ cB cO a_this a_this_bytes a_this_numbers v_this_length v_this_bytes) (some (.int n_r))) args s 0 0 A) D A 2 [(a_this, .inr (3, [.ref a_this_bytes, .ref a_this_numbers, .int v_this_length])), (a_this_bytes, .inl (cI, 200, .inl v_this_bytes))] [(0, .ref a_this), (1, .int x1)] 0 [] := by
  intro x1 v_this_length v_this_bytes hf H locs ls hP hD hS hl
  obtain ⟨hx, hb, hr, hml, hown, hW, hlocks, hE, hA⟩ := id C
  unfold X3_byteAt at hf
  refine lv_iload_n hx hb dX3_byteAt_0 rfl (lv_at hl 1 rfl) ?_
  refine lv_if_lt (tgt := 28) hx hb dX3_byteAt_1 (by decide) (fun hc => ?_) (fun hc => ?_)
  · have hf := gx_t hf hc
    refine lv_iconst (v := -1) hx hb dX3_byteAt_28 (by decide) ?_
    cases hf
    exact gx_iret hx hb hr hlocks rfl hP hD hS dX3_byteAt_29
  · have hf := gx_f hf hc
    refine lv_iload_n hx hb dX3_byteAt_4 rfl (lv_at hl 1 rfl) ?_
    refine lv_aload_n hx hb dX3_byteAt_5 rfl (lv_at hl 0 rfl) ?_
    refine va_get (D := D) (ci := 3) (v := .int v_this_length) (C := RX3) (T := TX3) (N := 3) hx hb hW in_X3 hown hE.1 hP 0 rfl rfl 2 (by decide) (hW _ tw_71) (fun _ h9 => h9) rfl dX3_byteAt_6 ?_
    refine lv_icmp_ge (tgt := 28) hx hb dX3_byteAt_9 (by decide) (fun hc => ?_) (fun hc => ?_)
    · have hf := gx_t hf hc
      refine lv_iconst (v := -1) hx hb dX3_byteAt_28 (by decide) ?_
      cases hf
      exact gx_iret hx hb hr hlocks rfl hP hD hS dX3_byteAt_29
    · have hf := gx_f hf hc
      refine lv_iload_n hx hb dX3_byteAt_12 rfl (lv_at hl 1 rfl) ?_
      refine lv_sipush (v := 200) hx hb dX3_byteAt_13 (by decide) ?_
      refine lv_icmp_ge (tgt := 28) hx hb dX3_byteAt_16 (by decide) (fun hc => ?_) (fun hc => ?_)
      · have hf := gx_t hf hc
        refine lv_iconst (v := -1) hx hb dX3_byteAt_28 (by decide) ?_
        cases hf
        exact gx_iret hx hb hr hlocks rfl hP hD hS dX3_byteAt_29
      · have hf := gx_f hf hc
        refine lv_aload_n hx hb dX3_byteAt_19 rfl (lv_at hl 0 rfl) ?_
        refine va_get (D := D) (ci := 3) (v := .ref a_this_bytes) (C := RX3) (T := TX3) (N := 3) hx hb hW in_X3 hown hE.1 hP 0 rfl rfl 0 (by decide) (hW _ tw_69) (fun _ h9 => h9) rfl dX3_byteAt_20 ?_
        refine lv_iload_n hx hb dX3_byteAt_23 rfl (lv_at hl 1 rfl) ?_
        obtain ⟨h1, hf⟩ := gx_ite hf
        refine va_iald hx hb hE.1 hP 1 0 rfl rfl h1 dX3_byteAt_24 ?_
        refine lv_goto (tgt := 29) hx hb dX3_byteAt_25 (by decide) ?_
        cases hf
        exact gx_iret hx hb hr hlocks rfl hP hD hS dX3_byteAt_29
theorem X3_byteAt_ok (l : Launch) (D : va_G) (cI cJ cB cO : ClassId) (tM tS : Nat) (a_this a_this_bytes a_this_numbers : Nat)  (v_this_length : Int32) (v_this_bytes : Nat → Int32) (x1 n_r : Int32) (hf : X3_byteAt x1 v_this_length v_this_bytes = some n_r) : gx_M l yX3_byteAt cX3_byteAt 2 (some .int) X3_byteAt_rm D cI cJ cB cO tM tS [.ref a_this, .int x1] [(a_this, .inr (3, [.ref a_this_bytes, .ref a_this_numbers, .int v_this_length])), (a_this_bytes, .inl (cI, 200, .inl v_this_bytes))] (X3_byteAt_B cI cJ cB cO a_this a_this_bytes a_this_numbers v_this_length v_this_bytes) (some (.int n_r)) 0 0 := by
  refine gx_of (by decide) (Nat.le_of_ble_eq_true rfl) ?_
  intro p e s m args below meth c ls A C hP hD hl _
  have hl : lv_has ls 2 [(0, .ref a_this), (1, .int x1)] := hl
  exact X3_byteAt_b0_ok C a_this a_this_bytes a_this_numbers n_r x1 v_this_length v_this_bytes hf s.heap [] ls hP hD va_S.rf hl
def X3_clear_B (cI cJ cB cO : ClassId) (a_this a_this_bytes a_this_numbers : Nat) (n_this_length : Int32) : va_W → Prop := fun w1 => w1 = [(a_this, .inr (3, [.ref a_this_bytes, .ref a_this_numbers, .int n_this_length]))]
abbrev X3_clear_rm : Room := { frames := 0, cells := 0, slots := 0, locals := 0 }
set_option maxHeartbeats 4000000 in
set_option maxRecDepth 100000 in
theorem X3_clear_b0_ok {p : Program} {l : Launch} {e : Env} {s : State} {m : MethodId} {args : Array Value} {below : List Frame} {meth : Method} {c : Code} {D : va_G} {cI cJ cB cO : ClassId} {tM tS : Nat} {A : Nat → Prop} (C : gx_X p s m args meth c cX3_clear 1 none RX3 D cI cJ cB cO tM tS A) (a_this a_this_bytes a_this_numbers : Nat) (n_this_length : Int32)  : ∀ (v_this_length : Int32) , X3_clear v_this_length = some n_this_length → gx_Wt p l e X3_clear_rm s m args below meth c (MQ below (gx_Q D A (X3_clear_B cI cJ cB cO a_this a_this_bytes a_this_numbers n_this_length) none) args s 0 0 A) D A 1 [(a_this, .inr (3, [.ref a_this_bytes, .ref a_this_numbers, .int v_this_length]))] [(0, .ref a_this)] 0 [] := by
  intro v_this_length hf H locs ls hP hD hS hl
  obtain ⟨hx, hb, hr, hml, hown, hW, hlocks, hE, hA⟩ := id C
  unfold X3_clear at hf
  refine lv_aload_n hx hb dX3_clear_0 rfl (lv_at hl 0 rfl) ?_
  refine lv_iconst (v := 0) hx hb dX3_clear_1 (by decide) ?_
  refine va_put (D := D) (ci := 3) (v := .int (0 : Int32)) (ty := tyX3 2) (C := RX3) (T := TX3) (N := 3) hx hb hW in_X3 tyX3 tyX3_ok nmX3 hown hE.1 hP hD hS 0 rfl rfl 2 (by decide) (hW _ tw_71) (fun _ h9 => h9) rfl (by decide +kernel) rfl rfl (Nat.le_of_ble_eq_true rfl) dX3_clear_2 (fun H locs hP hD hS => ?_)
  have hP : va_P D gx_cl [(a_this, .inr (3, [.ref a_this_bytes, .ref a_this_numbers, .int (0 : Int32)]))] H := hP
  have hD : va_D A [(a_this, .inr (3, [.ref a_this_bytes, .ref a_this_numbers, .int (0 : Int32)]))] := hD
  cases hf
  exact gx_vret hx hb hr hlocks rfl hP hD hS dX3_clear_5
theorem X3_clear_ok (l : Launch) (D : va_G) (cI cJ cB cO : ClassId) (tM tS : Nat) (a_this a_this_bytes a_this_numbers : Nat)  (v_this_length n_this_length : Int32) (hf : X3_clear v_this_length = some n_this_length) : gx_M l yX3_clear cX3_clear 1 none X3_clear_rm D cI cJ cB cO tM tS [.ref a_this] [(a_this, .inr (3, [.ref a_this_bytes, .ref a_this_numbers, .int v_this_length]))] (X3_clear_B cI cJ cB cO a_this a_this_bytes a_this_numbers n_this_length) none 0 0 := by
  refine gx_of (by decide) (Nat.le_of_ble_eq_true rfl) ?_
  intro p e s m args below meth c ls A C hP hD hl _
  have hl : lv_has ls 1 [(0, .ref a_this)] := hl
  exact X3_clear_b0_ok C a_this a_this_bytes a_this_numbers n_this_length v_this_length hf s.heap [] ls hP hD va_S.rf hl
