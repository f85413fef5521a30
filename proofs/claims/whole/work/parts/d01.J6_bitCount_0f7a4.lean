def J6_bitCount_0f7a4_B (cI cJ cB cO : ClassId)  : va_W → Prop := fun w1 => w1 = []
abbrev J6_bitCount_0f7a4_rm : Room := { frames := 0, cells := 0, slots := 0, locals := 0 }
set_option maxHeartbeats 4000000 in
set_option maxRecDepth 100000 in
theorem J6_bitCount_0f7a4_b0_ok {p : Program} {l : Launch} {e : Env} {s : State} {m : MethodId} {args : Array Value} {below : List Frame} {meth : Method} {c : Code} {D : va_G} {cI cJ cB cO : ClassId} {tM tS : Nat} {A : Nat → Prop} (C : gx_X p s m args meth c cJ6_bitCount_0f7a4 1 (some .int) RJ6 D cI cJ cB cO tM tS A) (n_r : Int32)  : ∀ (x0 : Int32) , J6_bitCount_0f7a4 x0 = some n_r → gx_Wt p l e J6_bitCount_0f7a4_rm s m args below meth c (MQ below (gx_Q D A (J6_bitCount_0f7a4_B cI cJ cB cO) (some (.int n_r))) args s 0 0 A) D A 1 [] [(0, .int x0)] 0 [] := by
  intro x0 hf H locs ls hP hD hS hl
  obtain ⟨hx, hb, hr, hml, hown, hW, hlocks, hE, hA⟩ := id C
  unfold J6_bitCount_0f7a4 at hf
  refine lv_iload_n hx hb dJ6_bitCount_0f7a4_0 rfl (lv_at hl 0 rfl) ?_
  refine lv_iload_n hx hb dJ6_bitCount_0f7a4_1 rfl (lv_at hl 0 rfl) ?_
  refine lv_iconst (v := 1) hx hb dJ6_bitCount_0f7a4_2 (by decide) ?_
  refine lv_iushr hx hb dJ6_bitCount_0f7a4_3 rfl ?_
  refine lv_ldcw (v := 1431655765) hx hb hown (hW _ tw_591) dJ6_bitCount_0f7a4_4 ?_
  refine lv_iand hx hb dJ6_bitCount_0f7a4_7 ?_
  refine lv_isub hx hb dJ6_bitCount_0f7a4_8 ?_
  refine lv_topi (fun y1 ey1 => ?_)
  have hf := gx_lv hf ey1
  clear ey1
  refine lv_istore_n (lv' := [(0, .int y1)]) hx hb dJ6_bitCount_0f7a4_9 rfl hl (by decide) rfl (fun ls hl => ?_)
  refine lv_iload_n hx hb dJ6_bitCount_0f7a4_10 rfl (lv_at hl 0 rfl) ?_
  refine lv_ldcw (v := 858993459) hx hb hown (hW _ tw_592) dJ6_bitCount_0f7a4_11 ?_
  refine lv_iand hx hb dJ6_bitCount_0f7a4_14 ?_
  refine lv_iload_n hx hb dJ6_bitCount_0f7a4_15 rfl (lv_at hl 0 rfl) ?_
  refine lv_iconst (v := 2) hx hb dJ6_bitCount_0f7a4_16 (by decide) ?_
  refine lv_iushr hx hb dJ6_bitCount_0f7a4_17 rfl ?_
  refine lv_ldcw (v := 858993459) hx hb hown (hW _ tw_592) dJ6_bitCount_0f7a4_18 ?_
  refine lv_iand hx hb dJ6_bitCount_0f7a4_21 ?_
  refine lv_iadd hx hb dJ6_bitCount_0f7a4_22 ?_
  refine lv_topi (fun y2 ey2 => ?_)
  have hf := gx_lv hf ey2
  clear ey2
  refine lv_istore_n (lv' := [(0, .int y2)]) hx hb dJ6_bitCount_0f7a4_23 rfl hl (by decide) rfl (fun ls hl => ?_)
  refine lv_iload_n hx hb dJ6_bitCount_0f7a4_24 rfl (lv_at hl 0 rfl) ?_
  refine lv_iload_n hx hb dJ6_bitCount_0f7a4_25 rfl (lv_at hl 0 rfl) ?_
  refine lv_iconst (v := 4) hx hb dJ6_bitCount_0f7a4_26 (by decide) ?_
  refine lv_iushr hx hb dJ6_bitCount_0f7a4_27 rfl ?_
  refine lv_iadd hx hb dJ6_bitCount_0f7a4_28 ?_
  refine lv_ldcw (v := 252645135) hx hb hown (hW _ tw_593) dJ6_bitCount_0f7a4_29 ?_
  refine lv_iand hx hb dJ6_bitCount_0f7a4_32 ?_
  refine lv_topi (fun y3 ey3 => ?_)
  have hf := gx_lv hf ey3
  clear ey3
  refine lv_istore_n (lv' := [(0, .int y3)]) hx hb dJ6_bitCount_0f7a4_33 rfl hl (by decide) rfl (fun ls hl => ?_)
  refine lv_iload_n hx hb dJ6_bitCount_0f7a4_34 rfl (lv_at hl 0 rfl) ?_
  refine lv_iload_n hx hb dJ6_bitCount_0f7a4_35 rfl (lv_at hl 0 rfl) ?_
  refine lv_bipush (v := 8) hx hb dJ6_bitCount_0f7a4_36 (by decide) ?_
  refine lv_iushr hx hb dJ6_bitCount_0f7a4_38 rfl ?_
  refine lv_iadd hx hb dJ6_bitCount_0f7a4_39 ?_
  refine lv_topi (fun y4 ey4 => ?_)
  have hf := gx_lv hf ey4
  clear ey4
  refine lv_istore_n (lv' := [(0, .int y4)]) hx hb dJ6_bitCount_0f7a4_40 rfl hl (by decide) rfl (fun ls hl => ?_)
  refine lv_iload_n hx hb dJ6_bitCount_0f7a4_41 rfl (lv_at hl 0 rfl) ?_
  refine lv_iload_n hx hb dJ6_bitCount_0f7a4_42 rfl (lv_at hl 0 rfl) ?_
  refine lv_bipush (v := 16) hx hb dJ6_bitCount_0f7a4_43 (by decide) ?_
  refine lv_iushr hx hb dJ6_bitCount_0f7a4_45 rfl ?_
  refine lv_iadd hx hb dJ6_bitCount_0f7a4_46 ?_
  refine lv_topi (fun y5 ey5 => ?_)
  have hf := gx_lv hf ey5
  clear ey5
  refine lv_istore_n (lv' := [(0, .int y5)]) hx hb dJ6_bitCount_0f7a4_47 rfl hl (by decide) rfl (fun ls hl => ?_)
  refine lv_iload_n hx hb dJ6_bitCount_0f7a4_48 rfl (lv_at hl 0 rfl) ?_
  refine lv_bipush (v := 63) hx hb dJ6_bitCount_0f7a4_49 (by decide) ?_
  refine lv_iand hx hb dJ6_bitCount_0f7a4_51 ?_
  cases hf
  exact gx_iret hx hb hr hlocks rfl hP hD hS dJ6_bitCount_0f7a4_52
theorem J6_bitCount_0f7a4_ok (l : Launch) (D : va_G) (cI cJ cB cO : ClassId) (tM tS : Nat)  (x0 n_r : Int32) (hf : J6_bitCount_0f7a4 x0 = some n_r) : gx_M l yJ6_bitCount_0f7a4 cJ6_bitCount_0f7a4 1 (some .int) J6_bitCount_0f7a4_rm D cI cJ cB cO tM tS [.int x0] [] (J6_bitCount_0f7a4_B cI cJ cB cO) (some (.int n_r)) 0 0 := by
  refine gx_of (by decide) (Nat.le_of_ble_eq_true rfl) ?_
  intro p e s m args below meth c ls A C hP hD hl _
  have hl : lv_has ls 1 [(0, .int x0)] := hl
  exact J6_bitCount_0f7a4_b0_ok C n_r x0 hf s.heap [] ls hP hD va_S.rf hl
def J7_fill_53178_B (cI cJ cB cO : ClassId) (N a_p0 : Nat) (n_p0 : Nat → Int32) : va_W → Prop := fun w1 => w1 = [(a_p0, .inl (cI, N, .inl n_p0))]
abbrev J7_fill_53178_rm : Room := { frames := 0, cells := 0, slots := 0, locals := 0 }
set_option maxHeartbeats 4000000 in
set_option maxRecDepth 100000 in
theorem J7_fill_53178_b5_ok {p : Program} {l : Launch} {e : Env} {s : State} {m : MethodId} {args : Array Value} {below : List Frame} {meth : Method} {c : Code} {D : va_G} {cI cJ cB cO : ClassId} {tM tS : Nat} {A : Nat → Prop} (C : gx_X p s m args meth c cJ7_fill_53178 4 none RJ7 D cI cJ cB cO tM tS A) (a_p0 : Nat) (n_p0 : Nat → Int32) (k5 : Nat → Int32 → Int32 → Int32 → (Nat → Int32) → Option ((Nat → Int32))) (K5 : ∀ (N : Nat) (x1 x2 x3 : Int32) (v_p0 : Nat → Int32) , k5 N x1 x2 x3 v_p0 = some n_p0 → gx_Wt p l e J7_fill_53178_rm s m args below meth c (MQ below (gx_Q D A (J7_fill_53178_B cI cJ cB cO N a_p0 n_p0) none) args s 0 0 A) D A 4 [(a_p0, .inl (cI, N, .inl v_p0))] [(0, .ref a_p0), (1, .int x1), (2, .int x2), (3, .int x3)] 5 []) : ∀ (N : Nat) (x1 x2 x3 : Int32) (v_p0 : Nat → Int32) , J7_fill_53178_b5 k5 N x1 x2 x3 v_p0 = some n_p0 → gx_Wt p l e J7_fill_53178_rm s m args below meth c (MQ below (gx_Q D A (J7_fill_53178_B cI cJ cB cO N a_p0 n_p0) none) args s 0 0 A) D A 4 [(a_p0, .inl (cI, N, .inl v_p0))] [(0, .ref a_p0), (1, .int x1), (2, .int x2), (3, .int x3)] 5 [] := by
  intro N x1 x2 x3 v_p0 hf H locs ls hP hD hS hl
  obtain ⟨hx, hb, hr, hml, hown, hW, hlocks, hE, hA⟩ := id C
  unfold J7_fill_53178_b5 at hf
  refine lv_iload_n hx hb dJ7_fill_53178_5 rfl (lv_at hl 2 rfl) ?_
  refine lv_iload_n hx hb dJ7_fill_53178_6 rfl (lv_at hl 3 rfl) ?_
  refine lv_icmp_ge (tgt := 20) hx hb dJ7_fill_53178_7 (by decide) (fun hc => ?_) (fun hc => ?_)
  · have hf := gx_t hf hc
    cases hf
    exact gx_vret hx hb hr hlocks rfl hP hD hS dJ7_fill_53178_20
  · have hf := gx_f hf hc
    refine lv_aload_n hx hb dJ7_fill_53178_10 rfl (lv_at hl 0 rfl) ?_
    refine lv_iload_n hx hb dJ7_fill_53178_11 rfl (lv_at hl 2 rfl) ?_
    refine lv_iload_n hx hb dJ7_fill_53178_12 rfl (lv_at hl 1 rfl) ?_
    obtain ⟨h1, hf⟩ := gx_ite hf
    refine va_iast hx hb hE.1 hP hD hS 0 0 rfl rfl h1 dJ7_fill_53178_13 (fun H locs hP hD hS => ?_)
    have hP : va_P D gx_cl [(a_p0, .inl (cI, N, .inl (upd v_p0 x2.toNatClampNeg x1)))] H := hP
    have hD : va_D A [(a_p0, .inl (cI, N, .inl (upd v_p0 x2.toNatClampNeg x1)))] := hD
    refine lv_iinc (v := x2 + 1) (lv' := [(2, .int (x2 + 1)), (0, .ref a_p0), (1, .int x1), (3, .int x3)]) hx hb dJ7_fill_53178_14 hl (k := 2) rfl rfl (by decide) rfl (fun ls hl => ?_)
    refine lv_goto (tgt := 5) hx hb dJ7_fill_53178_17 (by decide) ?_
    exact K5 N x1 (x2 + 1) x3 (upd v_p0 x2.toNatClampNeg x1) hf H locs ls hP hD hS (lv_sub hl [1, 2, 0, 3] rfl)
theorem J7_fill_53178_l5_ok {p : Program} {l : Launch} {e : Env} {s : State} {m : MethodId} {args : Array Value} {below : List Frame} {meth : Method} {c : Code} {D : va_G} {cI cJ cB cO : ClassId} {tM tS : Nat} {A : Nat → Prop} (C : gx_X p s m args meth c cJ7_fill_53178 4 none RJ7 D cI cJ cB cO tM tS A) (a_p0 : Nat) (n_p0 : Nat → Int32)  : ∀ (n : Nat) (N : Nat) (x1 x2 x3 : Int32) (v_p0 : Nat → Int32) , J7_fill_53178_l5 n N x1 x2 x3 v_p0 = some n_p0 → gx_Wt p l e J7_fill_53178_rm s m args below meth c (MQ below (gx_Q D A (J7_fill_53178_B cI cJ cB cO N a_p0 n_p0) none) args s 0 0 A) D A 4 [(a_p0, .inl (cI, N, .inl v_p0))] [(0, .ref a_p0), (1, .int x1), (2, .int x2), (3, .int x3)] 5 [] := by
  intro n
  induction n with
  | zero =>
    intro _ _ _ _ _ hf
    cases hf
  | succ n ih => exact fun N x1 x2 x3 v_p0 hf => J7_fill_53178_b5_ok C a_p0 n_p0 (J7_fill_53178_l5 n) ih N x1 x2 x3 v_p0 hf
set_option maxHeartbeats 4000000 in
set_option maxRecDepth 100000 in
theorem J7_fill_53178_b0_ok {p : Program} {l : Launch} {e : Env} {s : State} {m : MethodId} {args : Array Value} {below : List Frame} {meth : Method} {c : Code} {D : va_G} {cI cJ cB cO : ClassId} {tM tS : Nat} {A : Nat → Prop} (C : gx_X p s m args meth c cJ7_fill_53178 4 none RJ7 D cI cJ cB cO tM tS A) (a_p0 : Nat) (n_p0 : Nat → Int32)  : ∀ (N : Nat) (x1 : Int32) (v_p0 : Nat → Int32) , J7_fill_53178 N x1 v_p0 = some n_p0 → gx_Wt p l e J7_fill_53178_rm s m args below meth c (MQ below (gx_Q D A (J7_fill_53178_B cI cJ cB cO N a_p0 n_p0) none) args s 0 0 A) D A 4 [(a_p0, .inl (cI, N, .inl v_p0))] [(0, .ref a_p0), (1, .int x1)] 0 [] := by
  intro N x1 v_p0 hf H locs ls hP hD hS hl
  obtain ⟨hx, hb, hr, hml, hown, hW, hlocks, hE, hA⟩ := id C
  unfold J7_fill_53178 at hf
  refine lv_iconst (v := 0) hx hb dJ7_fill_53178_0 (by decide) ?_
  refine lv_istore_n (lv' := [(2, .int (0 : Int32)), (0, .ref a_p0), (1, .int x1)]) hx hb dJ7_fill_53178_1 rfl hl (by decide) rfl (fun ls hl => ?_)
  refine lv_aload_n hx hb dJ7_fill_53178_2 rfl (lv_at hl 1 rfl) ?_
  refine va_alen hx hb hE.1 hP 0 0 rfl rfl rfl dJ7_fill_53178_3 ?_
  refine lv_topi (fun y1 ey1 => ?_)
  have hf := gx_lv hf ey1
  clear ey1
  refine lv_istore_n (lv' := [(3, .int y1), (2, .int (0 : Int32)), (0, .ref a_p0), (1, .int x1)]) hx hb dJ7_fill_53178_4 rfl hl (by decide) rfl (fun ls hl => ?_)
  exact J7_fill_53178_l5_ok C a_p0 n_p0 gx_F N x1 (0 : Int32) y1 v_p0 hf H locs ls hP hD hS (lv_sub hl [2, 3, 1, 0] rfl)
theorem J7_fill_53178_ok (l : Launch) (D : va_G) (cI cJ cB cO : ClassId) (tM tS : Nat) (a_p0 : Nat)  (N : Nat) (v_p0 : Nat → Int32) (x1 : Int32) (n_p0 : Nat → Int32) (hf : J7_fill_53178 N x1 v_p0 = some n_p0) : gx_M l yJ7_fill_53178 cJ7_fill_53178 4 none J7_fill_53178_rm D cI cJ cB cO tM tS [.ref a_p0, .int x1] [(a_p0, .inl (cI, N, .inl v_p0))] (J7_fill_53178_B cI cJ cB cO N a_p0 n_p0) none 0 0 := by
  refine gx_of (by decide) (Nat.le_of_ble_eq_true rfl) ?_
  intro p e s m args below meth c ls A C hP hD hl _
  have hl : lv_has ls 4 [(0, .ref a_p0), (1, .int x1)] := hl
  exact J7_fill_53178_b0_ok C a_p0 n_p0 N x1 v_p0 hf s.heap [] ls hP hD va_S.rf hl
def J7_fill_d0a16_B (cI cJ cB cO : ClassId) (N a_p0 : Nat) (n_p0 : Nat → Int64) : va_W → Prop := fun w1 => w1 = [(a_p0, .inl (cJ, N, .inr (.inl n_p0)))]
abbrev J7_fill_d0a16_rm : Room := { frames := 0, cells := 0, slots := 0, locals := 0 }
set_option maxHeartbeats 4000000 in
set_option maxRecDepth 100000 in
theorem J7_fill_d0a16_b6_ok {p : Program} {l : Launch} {e : Env} {s : State} {m : MethodId} {args : Array Value} {below : List Frame} {meth : Method} {c : Code} {D : va_G} {cI cJ cB cO : ClassId} {tM tS : Nat} {A : Nat → Prop} (C : gx_X p s m args meth c cJ7_fill_d0a16 5 none RJ7 D cI cJ cB cO tM tS A) (a_p0 : Nat) (n_p0 : Nat → Int64) (k6 : Nat → Int64 → Int32 → Int32 → (Nat → Int64) → Option ((Nat → Int64))) (K6 : ∀ (N : Nat) (x1 : Int64) (x3 x4 : Int32) (v_p0 : Nat → Int64) , k6 N x1 x3 x4 v_p0 = some n_p0 → gx_Wt p l e J7_fill_d0a16_rm s m args below meth c (MQ below (gx_Q D A (J7_fill_d0a16_B cI cJ cB cO N a_p0 n_p0) none) args s 0 0 A) D A 5 [(a_p0, .inl (cJ, N, .inr (.inl v_p0)))] [(0, .ref a_p0), (1, .long x1), (3, .int x3), (4, .int x4)] 6 []) : ∀ (N : Nat) (x1 : Int64) (x3 x4 : Int32) (v_p0 : Nat → Int64) , J7_fill_d0a16_b6 k6 N x1 x3 x4 v_p0 = some n_p0 → gx_Wt p l e J7_fill_d0a16_rm s m args below meth c (MQ below (gx_Q D A (J7_fill_d0a16_B cI cJ cB cO N a_p0 n_p0) none) args s 0 0 A) D A 5 [(a_p0, .inl (cJ, N, .inr (.inl v_p0)))] [(0, .ref a_p0), (1, .long x1), (3, .int x3), (4, .int x4)] 6 [] := by
  intro N x1 x3 x4 v_p0 hf H locs ls hP hD hS hl
  obtain ⟨hx, hb, hr, hml, hown, hW, hlocks, hE, hA⟩ := id C
  unfold J7_fill_d0a16_b6 at hf
  refine lv_iload_n hx hb dJ7_fill_d0a16_6 rfl (lv_at hl 2 rfl) ?_
  refine lv_iload hx hb dJ7_fill_d0a16_7 (lv_at hl 3 rfl) ?_
  refine lv_icmp_ge (tgt := 22) hx hb dJ7_fill_d0a16_9 (by decide) (fun hc => ?_) (fun hc => ?_)
  · have hf := gx_t hf hc
    cases hf
    exact gx_vret hx hb hr hlocks rfl hP hD hS dJ7_fill_d0a16_22
  · have hf := gx_f hf hc
    refine lv_aload_n hx hb dJ7_fill_d0a16_12 rfl (lv_at hl 0 rfl) ?_
    refine lv_iload_n hx hb dJ7_fill_d0a16_13 rfl (lv_at hl 2 rfl) ?_
    refine lv_lload_n hx hb dJ7_fill_d0a16_14 rfl (lv_at hl 1 rfl) ?_
    obtain ⟨h1, hf⟩ := gx_ite hf
    refine va_last hx hb hE.1 hP hD hS 0 1 rfl rfl h1 dJ7_fill_d0a16_15 (fun H locs hP hD hS => ?_)
    have hP : va_P D gx_cl [(a_p0, .inl (cJ, N, .inr (.inl (vp_updL v_p0 x3.toNatClampNeg x1))))] H := hP
    have hD : va_D A [(a_p0, .inl (cJ, N, .inr (.inl (vp_updL v_p0 x3.toNatClampNeg x1))))] := hD
    refine lv_iinc (v := x3 + 1) (lv' := [(3, .int (x3 + 1)), (0, .ref a_p0), (1, .long x1), (4, .int x4)]) hx hb dJ7_fill_d0a16_16 hl (k := 2) rfl rfl (by decide) rfl (fun ls hl => ?_)
    refine lv_goto (tgt := 6) hx hb dJ7_fill_d0a16_19 (by decide) ?_
    exact K6 N x1 (x3 + 1) x4 (vp_updL v_p0 x3.toNatClampNeg x1) hf H locs ls hP hD hS (lv_sub hl [1, 2, 0, 3] rfl)
theorem J7_fill_d0a16_l6_ok {p : Program} {l : Launch} {e : Env} {s : State} {m : MethodId} {args : Array Value} {below : List Frame} {meth : Method} {c : Code} {D : va_G} {cI cJ cB cO : ClassId} {tM tS : Nat} {A : Nat → Prop} (C : gx_X p s m args meth c cJ7_fill_d0a16 5 none RJ7 D cI cJ cB cO tM tS A) (a_p0 : Nat) (n_p0 : Nat → Int64)  : ∀ (n : Nat) (N : Nat) (x1 : Int64) (x3 x4 : Int32) (v_p0 : Nat → Int64) , J7_fill_d0a16_l6 n N x1 x3 x4 v_p0 = some n_p0 → gx_Wt p l e J7_fill_d0a16_rm s m args below meth c (MQ below (gx_Q D A (J7_fill_d0a16_B cI cJ cB cO N a_p0 n_p0) none) args s 0 0 A) D A 5 [(a_p0, .inl (cJ, N, .inr (.inl v_p0)))] [(0, .ref a_p0), (1, .long x1), (3, .int x3), (4, .int x4)] 6 [] := by
  intro n
  induction n with
  | zero =>
    intro _ _ _ _ _ hf
    cases hf
  | succ n ih => exact fun N x1 x3 x4 v_p0 hf => J7_fill_d0a16_b6_ok C a_p0 n_p0 (J7_fill_d0a16_l6 n) ih N x1 x3 x4 v_p0 hf
set_option maxHeartbeats 4000000 in
set_option maxRecDepth 100000 in
theorem J7_fill_d0a16_b0_ok {p : Program} {l : Launch} {e : Env} {s : State} {m : MethodId} {args : Array Value} {below : List Frame} {meth : Method} {c : Code} {D : va_G} {cI cJ cB cO : ClassId} {tM tS : Nat} {A : Nat → Prop} (C : gx_X p s m args meth c cJ7_fill_d0a16 5 none RJ7 D cI cJ cB cO tM tS A) (a_p0 : Nat) (n_p0 : Nat → Int64)  : ∀ (N : Nat) (x1 : Int64) (v_p0 : Nat → Int64) , J7_fill_d0a16 N x1 v_p0 = some n_p0 → gx_Wt p l e J7_fill_d0a16_rm s m args below meth c (MQ below (gx_Q D A (J7_fill_d0a16_B cI cJ cB cO N a_p0 n_p0) none) args s 0 0 A) D A 5 [(a_p0, .inl (cJ, N, .inr (.inl v_p0)))] [(0, .ref a_p0), (1, .long x1)] 0 [] := by
  intro N x1 v_p0 hf H locs ls hP hD hS hl
  obtain ⟨hx, hb, hr, hml, hown, hW, hlocks, hE, hA⟩ := id C
  unfold J7_fill_d0a16 at hf
  refine lv_iconst (v := 0) hx hb dJ7_fill_d0a16_0 (by decide) ?_
  refine lv_istore_n (lv' := [(3, .int (0 : Int32)), (0, .ref a_p0), (1, .long x1)]) hx hb dJ7_fill_d0a16_1 rfl hl (by decide) rfl (fun ls hl => ?_)
  refine lv_aload_n hx hb dJ7_fill_d0a16_2 rfl (lv_at hl 1 rfl) ?_
  refine va_alen hx hb hE.1 hP 0 1 rfl rfl rfl dJ7_fill_d0a16_3 ?_
  refine lv_topi (fun y1 ey1 => ?_)
  have hf := gx_lv hf ey1
  clear ey1
  refine lv_istore (lv' := [(4, .int y1), (3, .int (0 : Int32)), (0, .ref a_p0), (1, .long x1)]) hx hb dJ7_fill_d0a16_4 hl (by decide) rfl (fun ls hl => ?_)
  exact J7_fill_d0a16_l6_ok C a_p0 n_p0 gx_F N x1 (0 : Int32) y1 v_p0 hf H locs ls hP hD hS (lv_sub hl [2, 3, 1, 0] rfl)
theorem J7_fill_d0a16_ok (l : Launch) (D : va_G) (cI cJ cB cO : ClassId) (tM tS : Nat) (a_p0 : Nat)  (N : Nat) (v_p0 : Nat → Int64) (x1 : Int64) (n_p0 : Nat → Int64) (hf : J7_fill_d0a16 N x1 v_p0 = some n_p0) : gx_M l yJ7_fill_d0a16 cJ7_fill_d0a16 5 none J7_fill_d0a16_rm D cI cJ cB cO tM tS [.ref a_p0, .long x1] [(a_p0, .inl (cJ, N, .inr (.inl v_p0)))] (J7_fill_d0a16_B cI cJ cB cO N a_p0 n_p0) none 0 0 := by
  refine gx_of (by decide) (Nat.le_of_ble_eq_true rfl) ?_
  intro p e s m args below meth c ls A C hP hD hl _
  have hl : lv_has ls 5 [(0, .ref a_p0), (1, .long x1)] := hl
  exact J7_fill_d0a16_b0_ok C a_p0 n_p0 N x1 v_p0 hf s.heap [] ls hP hD va_S.rf hl
def X0_has_B (cI cJ cB cO : ClassId) (a_this a_this_traits a_this_hated : Nat) (v_this_mouths v_this_speaks v_this_hears : Int32) : va_W → Prop := fun w1 => w1 = [(a_this, .inr (0, [.ref a_this_traits, .ref a_this_hated, .int v_this_mouths, .int v_this_speaks, .int v_this_hears]))]
abbrev X0_has_rm : Room := { frames := 0, cells := 0, slots := 0, locals := 0 }
set_option maxHeartbeats 4000000 in
set_option maxRecDepth 100000 in
theorem X0_has_b0_ok {p : Program} {l : Launch} {e : Env} {s : State} {m : MethodId} {args : Array Value} {below : List Frame} {meth : Method} {c : Code} {D : va_G} {cI cJ cB cO : ClassId} {tM tS : Nat} {A : Nat → Prop} (C : gx_X p s m args meth c cX0_has 2 (some .boolean) RX0 D cI cJ cB cO tM tS A) (a_this a_this_traits a_this_hated : Nat) (v_this_speaks v_this_hears : Int32) (n_r : Int32)  : ∀ (x1 v_this_mouths : Int32) , X0_has x1 v_this_mouths = some n_r → gx_Wt p l e X0_has_rm s m args below meth c (MQ below (gx_Q D A (X0_has_B cI cJ cB cO a_this a_this_traits a_this_hated v_this_mouths v_this_speaks v_this_hears) (some (.int n_r))) args s 0 0 A) D A 2 [(a_this, .inr (0, [.ref a_this_traits, .ref a_this_hated, .int v_this_mouths, .int v_this_speaks, .int v_this_hears]))] [(0, .ref a_this), (1, .int x1)] 0 [] := by
  intro x1 v_this_mouths hf H locs ls hP hD hS hl
  obtain ⟨hx, hb, hr, hml, hown, hW, hlocks, hE, hA⟩ := id C
  unfold X0_has at hf
  refine lv_iload_n hx hb dX0_has_0 rfl (lv_at hl 1 rfl) ?_
  refine lv_if_lt (tgt := 22) hx hb dX0_has_1 (by decide) (fun hc => ?_) (fun hc => ?_)
  · have hf := gx_t hf hc
    refine lv_iconst (v := 0) hx hb dX0_has_22 (by decide) ?_
    cases hf
    exact gx_zret hx hb hr hlocks (by decide) rfl hP hD hS dX0_has_23
  · have hf := gx_f hf hc
    refine lv_iload_n hx hb dX0_has_4 rfl (lv_at hl 1 rfl) ?_
    refine lv_aload_n hx hb dX0_has_5 rfl (lv_at hl 0 rfl) ?_
    refine va_get (D := D) (ci := 0) (v := .int v_this_mouths) (C := RX0) (T := TX0) (N := 5) hx hb hW in_X0 hown hE.1 hP 0 rfl rfl 2 (by decide) (hW _ tw_176) (fun _ h9 => h9) rfl dX0_has_6 ?_
    refine lv_icmp_ge (tgt := 22) hx hb dX0_has_9 (by decide) (fun hc => ?_) (fun hc => ?_)
    · have hf := gx_t hf hc
      refine lv_iconst (v := 0) hx hb dX0_has_22 (by decide) ?_
      cases hf
      exact gx_zret hx hb hr hlocks (by decide) rfl hP hD hS dX0_has_23
    · have hf := gx_f hf hc
      refine lv_iload_n hx hb dX0_has_12 rfl (lv_at hl 1 rfl) ?_
      refine lv_bipush (v := 7) hx hb dX0_has_13 (by decide) ?_
      refine lv_icmp_ge (tgt := 22) hx hb dX0_has_15 (by decide) (fun hc => ?_) (fun hc => ?_)
      · have hf := gx_t hf hc
        refine lv_iconst (v := 0) hx hb dX0_has_22 (by decide) ?_
        cases hf
        exact gx_zret hx hb hr hlocks (by decide) rfl hP hD hS dX0_has_23
      · have hf := gx_f hf hc
        refine lv_iconst (v := 1) hx hb dX0_has_18 (by decide) ?_
        refine lv_goto (tgt := 23) hx hb dX0_has_19 (by decide) ?_
        cases hf
        exact gx_zret hx hb hr hlocks (by decide) rfl hP hD hS dX0_has_23
theorem X0_has_ok (l : Launch) (D : va_G) (cI cJ cB cO : ClassId) (tM tS : Nat) (a_this a_this_traits a_this_hated : Nat)  (v_this_mouths v_this_speaks v_this_hears x1 n_r : Int32) (hf : X0_has x1 v_this_mouths = some n_r) : gx_M l yX0_has cX0_has 2 (some .boolean) X0_has_rm D cI cJ cB cO tM tS [.ref a_this, .int x1] [(a_this, .inr (0, [.ref a_this_traits, .ref a_this_hated, .int v_this_mouths, .int v_this_speaks, .int v_this_hears]))] (X0_has_B cI cJ cB cO a_this a_this_traits a_this_hated v_this_mouths v_this_speaks v_this_hears) (some (.int n_r)) 0 0 := by
  refine gx_of (by decide) (Nat.le_of_ble_eq_true rfl) ?_
  intro p e s m args below meth c ls A C hP hD hl _
  have hl : lv_has ls 2 [(0, .ref a_this), (1, .int x1)] := hl
  exact X0_has_b0_ok C a_this a_this_traits a_this_hated v_this_speaks v_this_hears n_r x1 v_this_mouths hf s.heap [] ls hP hD va_S.rf hl
def X0_across_B (cI cJ cB cO : ClassId) (a_this a_this_traits a_this_hated : Nat) (v_this_mouths v_this_speaks v_this_hears : Int32) (v_this_traits : Nat → Int32) : va_W → Prop := fun w1 => w1 = [(a_this, .inr (0, [.ref a_this_traits, .ref a_this_hated, .int v_this_mouths, .int v_this_speaks, .int v_this_hears])), (a_this_traits, .inl (cI, 35, .inl v_this_traits))]
abbrev X0_across_rm : Room := { frames := 1, cells := 0, slots := 0, locals := 21 }
set_option maxHeartbeats 4000000 in
set_option maxRecDepth 100000 in
theorem X0_across_b0_ok {p : Program} {l : Launch} {e : Env} {s : State} {m : MethodId} {args : Array Value} {below : List Frame} {meth : Method} {c : Code} {D : va_G} {cI cJ cB cO : ClassId} {tM tS : Nat} {A : Nat → Prop} (C : gx_X p s m args meth c cX0_across 5 (some .int) RX0 D cI cJ cB cO tM tS A) (a_this a_this_traits a_this_hated : Nat) (v_this_speaks v_this_hears : Int32) (n_r : Int32)  : ∀ (x1 x2 v_this_mouths : Int32) (v_this_traits : Nat → Int32) , X0_across x1 x2 v_this_mouths v_this_traits = some n_r → gx_Wt p l e X0_across_rm s m args below meth c (MQ below (gx_Q D A (X0_across_B cI cJ cB cO a_this a_this_traits a_this_hated v_this_mouths v_this_speaks v_this_hears v_this_traits) (some (.int n_r))) args s 0 0 A) D A 5 [(a_this, .inr (0, [.ref a_this_traits, .ref a_this_hated, .int v_this_mouths, .int v_this_speaks, .int v_this_hears])), (a_this_traits, .inl (cI, 35, .inl v_this_traits))] [(0, .ref a_this), (1, .int x1), (2, .int x2)] 0 [] := by
  intro x1 x2 v_this_mouths v_this_traits hf H locs ls hP hD hS hl
  obtain ⟨hx, hb, hr, hml, hown, hW, hlocks, hE, hA⟩ := id C
  unfold X0_across at hf
  refine lv_aload_n hx hb dX0_across_0 rfl (lv_at hl 0 rfl) ?_
  refine lv_iload_n hx hb dX0_across_1 rfl (lv_at hl 1 rfl) ?_
  obtain ⟨r1, hg, hf⟩ := gx_bs hf
  refine gx_V (As := [.int x1]) (rest := []) (st1 := [.int r1]) (cells1 := 0) (slots1 := 0) (wc := [(a_this, .inr (0, [.ref a_this_traits, .ref a_this_hated, .int v_this_mouths, .int v_this_speaks, .int v_this_hears]))]) (wr := [(a_this_traits, .inl (cI, 35, .inl v_this_traits))]) ⟨hx, hb, hml, hown, hW⟩ (X0_has_ok l D cI cJ cB cO tM tS a_this a_this_traits a_this_hated v_this_mouths v_this_speaks v_this_hears x1 r1 hg) yk_X0_has tw_297 yv_X0_has ⟨rfl, rfl⟩ ⟨Nat.le_of_ble_eq_true rfl, Nat.le_of_ble_eq_true rfl⟩ hE hP hD hS hA [0] [1] rfl rfl (by decide +kernel) (by decide +kernel) rfl (by decide +kernel) (ci := 0) rfl rfl rfl hl.1 (Nat.le_of_ble_eq_true rfl) rfl rfl dX0_across_2 ⟨Nat.le_of_ble_eq_true rfl, Nat.le_of_ble_eq_true rfl⟩ ⟨rfl, rfl⟩ (fun w1 H locs hB hP hD hS => ?_)
  obtain rfl := hB
  have hP : va_P D gx_cl [(a_this, .inr (0, [.ref a_this_traits, .ref a_this_hated, .int v_this_mouths, .int v_this_speaks, .int v_this_hears])), (a_this_traits, .inl (cI, 35, .inl v_this_traits))] H := hP.sub [1, 0] rfl
  have hD : va_D A [(a_this, .inr (0, [.ref a_this_traits, .ref a_this_hated, .int v_this_mouths, .int v_this_speaks, .int v_this_hears])), (a_this_traits, .inl (cI, 35, .inl v_this_traits))] := hD.sub [1, 0] (by decide +kernel) rfl
  refine lv_if_ne (tgt := 11) hx hb dX0_across_5 (by decide) (fun hc => ?_) (fun hc => ?_)
  · have hf := gx_f hf hc
    refine lv_aload_n hx hb dX0_across_11 rfl (lv_at hl 0 rfl) ?_
    refine va_get (D := D) (ci := 0) (v := .ref a_this_traits) (C := RX0) (T := TX0) (N := 5) hx hb hW in_X0 hown hE.1 hP 0 rfl rfl 0 (by decide) (hW _ tw_174) (fun _ h9 => h9) rfl dX0_across_12 ?_
    refine lv_iload_n hx hb dX0_across_15 rfl (lv_at hl 1 rfl) ?_
    refine lv_iconst (v := 5) hx hb dX0_across_16 (by decide) ?_
    refine lv_imul hx hb dX0_across_17 ?_
    obtain ⟨h2, hf⟩ := gx_ite hf
    refine va_iald hx hb hE.1 hP 1 0 rfl rfl h2 dX0_across_18 ?_
    refine lv_topi (fun y3 ey3 => ?_)
    have hf := gx_lv hf ey3
    clear ey3
    refine lv_istore_n (lv' := [(3, .int y3), (0, .ref a_this), (1, .int x1), (2, .int x2)]) hx hb dX0_across_19 rfl hl (by decide) rfl (fun ls hl => ?_)
    refine lv_aload_n hx hb dX0_across_20 rfl (lv_at hl 1 rfl) ?_
    refine va_get (D := D) (ci := 0) (v := .ref a_this_traits) (C := RX0) (T := TX0) (N := 5) hx hb hW in_X0 hown hE.1 hP 0 rfl rfl 0 (by decide) (hW _ tw_174) (fun _ h9 => h9) rfl dX0_across_21 ?_
    refine lv_iload_n hx hb dX0_across_24 rfl (lv_at hl 2 rfl) ?_
    refine lv_iconst (v := 5) hx hb dX0_across_25 (by decide) ?_
    refine lv_imul hx hb dX0_across_26 ?_
    refine lv_iconst (v := 1) hx hb dX0_across_27 (by decide) ?_
    refine lv_iadd hx hb dX0_across_28 ?_
    obtain ⟨h4, hf⟩ := gx_ite hf
    refine va_iald hx hb hE.1 hP 1 0 rfl rfl h4 dX0_across_29 ?_
    refine lv_topi (fun y5 ey5 => ?_)
    have hf := gx_lv hf ey5
    clear ey5
    refine lv_istore (lv' := [(4, .int y5), (3, .int y3), (0, .ref a_this), (1, .int x1), (2, .int x2)]) hx hb dX0_across_30 hl (by decide) rfl (fun ls hl => ?_)
    refine lv_iload_n hx hb dX0_across_32 rfl (lv_at hl 1 rfl) ?_
    refine lv_iload_n hx hb dX0_across_33 rfl (lv_at hl 4 rfl) ?_
    refine lv_icmp_ne (tgt := 40) hx hb dX0_across_34 (by decide) (fun hc => ?_) (fun hc => ?_)
    · have hf := gx_f hf hc
      refine lv_iload hx hb dX0_across_40 (lv_at hl 0 rfl) ?_
      refine lv_iload_n hx hb dX0_across_42 rfl (lv_at hl 4 rfl) ?_
      refine lv_icmp_ne (tgt := 50) hx hb dX0_across_43 (by decide) (fun hc => ?_) (fun hc => ?_)
      · have hf := gx_f hf hc
        refine lv_bipush (v := -4) hx hb dX0_across_50 (by decide) ?_
        cases hf
        exact gx_iret hx hb hr hlocks rfl hP hD hS dX0_across_52
      · have hf := gx_t hf hc
        refine lv_iload_n hx hb dX0_across_46 rfl (lv_at hl 1 rfl) ?_
        refine lv_goto (tgt := 52) hx hb dX0_across_47 (by decide) ?_
        cases hf
        exact gx_iret hx hb hr hlocks rfl hP hD hS dX0_across_52
    · have hf := gx_t hf hc
      refine lv_iload hx hb dX0_across_37 (lv_at hl 0 rfl) ?_
      cases hf
      exact gx_iret hx hb hr hlocks rfl hP hD hS dX0_across_39
  · have hf := gx_t hf hc
    refine lv_bipush (v := -4) hx hb dX0_across_8 (by decide) ?_
    cases hf
    exact gx_iret hx hb hr hlocks rfl hP hD hS dX0_across_10
theorem X0_across_ok (l : Launch) (D : va_G) (cI cJ cB cO : ClassId) (tM tS : Nat) (a_this a_this_traits a_this_hated : Nat)  (v_this_mouths v_this_speaks v_this_hears : Int32) (v_this_traits : Nat → Int32) (x1 x2 n_r : Int32) (hf : X0_across x1 x2 v_this_mouths v_this_traits = some n_r) : gx_M l yX0_across cX0_across 5 (some .int) X0_across_rm D cI cJ cB cO tM tS [.ref a_this, .int x1, .int x2] [(a_this, .inr (0, [.ref a_this_traits, .ref a_this_hated, .int v_this_mouths, .int v_this_speaks, .int v_this_hears])), (a_this_traits, .inl (cI, 35, .inl v_this_traits))] (X0_across_B cI cJ cB cO a_this a_this_traits a_this_hated v_this_mouths v_this_speaks v_this_hears v_this_traits) (some (.int n_r)) 0 0 := by
  refine gx_of (by decide) (Nat.le_of_ble_eq_true rfl) ?_
  intro p e s m args below meth c ls A C hP hD hl _
  have hl : lv_has ls 5 [(0, .ref a_this), (1, .int x1), (2, .int x2)] := hl
  exact X0_across_b0_ok C a_this a_this_traits a_this_hated v_this_speaks v_this_hears n_r x1 x2 v_this_mouths v_this_traits hf s.heap [] ls hP hD va_S.rf hl
def X0_isTongue_B (cI cJ cB cO : ClassId)  : va_W → Prop := fun w1 => w1 = []
abbrev X0_isTongue_rm : Room := { frames := 0, cells := 0, slots := 0, locals := 0 }
set_option maxHeartbeats 4000000 in
set_option maxRecDepth 100000 in
theorem X0_isTongue_b0_ok {p : Program} {l : Launch} {e : Env} {s : State} {m : MethodId} {args : Array Value} {below : List Frame} {meth : Method} {c : Code} {D : va_G} {cI cJ cB cO : ClassId} {tM tS : Nat} {A : Nat → Prop} (C : gx_X p s m args meth c cX0_isTongue 1 (some .boolean) RX0 D cI cJ cB cO tM tS A) (n_r : Int32)  : ∀ (x0 : Int32) , X0_isTongue x0 = some n_r → gx_Wt p l e X0_isTongue_rm s m args below meth c (MQ below (gx_Q D A (X0_isTongue_B cI cJ cB cO) (some (.int n_r))) args s 0 0 A) D A 1 [] [(0, .int x0)] 0 [] := by
  intro x0 hf H locs ls hP hD hS hl
  obtain ⟨hx, hb, hr, hml, hown, hW, hlocks, hE, hA⟩ := id C
  unfold X0_isTongue at hf
  refine lv_iload_n hx hb dX0_isTongue_0 rfl (lv_at hl 0 rfl) ?_
  refine lv_if_lt (tgt := 14) hx hb dX0_isTongue_1 (by decide) (fun hc => ?_) (fun hc => ?_)
  · have hf := gx_t hf hc
    refine lv_iconst (v := 0) hx hb dX0_isTongue_14 (by decide) ?_
    cases hf
    exact gx_zret hx hb hr hlocks (by decide) rfl hP hD hS dX0_isTongue_15
  · have hf := gx_f hf hc
    refine lv_iload_n hx hb dX0_isTongue_4 rfl (lv_at hl 0 rfl) ?_
    refine lv_bipush (v := 9) hx hb dX0_isTongue_5 (by decide) ?_
    refine lv_icmp_ge (tgt := 14) hx hb dX0_isTongue_7 (by decide) (fun hc => ?_) (fun hc => ?_)
    · have hf := gx_t hf hc
      refine lv_iconst (v := 0) hx hb dX0_isTongue_14 (by decide) ?_
      cases hf
      exact gx_zret hx hb hr hlocks (by decide) rfl hP hD hS dX0_isTongue_15
    · have hf := gx_f hf hc
      refine lv_iconst (v := 1) hx hb dX0_isTongue_10 (by decide) ?_
      refine lv_goto (tgt := 15) hx hb dX0_isTongue_11 (by decide) ?_
      cases hf
      exact gx_zret hx hb hr hlocks (by decide) rfl hP hD hS dX0_isTongue_15
theorem X0_isTongue_ok (l : Launch) (D : va_G) (cI cJ cB cO : ClassId) (tM tS : Nat)  (x0 n_r : Int32) (hf : X0_isTongue x0 = some n_r) : gx_M l yX0_isTongue cX0_isTongue 1 (some .boolean) X0_isTongue_rm D cI cJ cB cO tM tS [.int x0] [] (X0_isTongue_B cI cJ cB cO) (some (.int n_r)) 0 0 := by
  refine gx_of (by decide) (Nat.le_of_ble_eq_true rfl) ?_
  intro p e s m args below meth c ls A C hP hD hl _
  have hl : lv_has ls 1 [(0, .int x0)] := hl
  exact X0_isTongue_b0_ok C n_r x0 hf s.heap [] ls hP hD va_S.rf hl
def X0_admit_B (cI cJ cB cO : ClassId) (a_this a_this_traits a_this_hated : Nat) (v_this_speaks v_this_hears n_this_mouths : Int32) (n_this_traits : Nat → Int32) : va_W → Prop := fun w1 => w1 = [(a_this, .inr (0, [.ref a_this_traits, .ref a_this_hated, .int n_this_mouths, .int v_this_speaks, .int v_this_hears])), (a_this_traits, .inl (cI, 35, .inl n_this_traits))]
abbrev X0_admit_rm : Room := { frames := 1, cells := 0, slots := 0, locals := 20 }
set_option maxHeartbeats 4000000 in
set_option maxRecDepth 100000 in
theorem X0_admit_b0_ok {p : Program} {l : Launch} {e : Env} {s : State} {m : MethodId} {args : Array Value} {below : List Frame} {meth : Method} {c : Code} {D : va_G} {cI cJ cB cO : ClassId} {tM tS : Nat} {A : Nat → Prop} (C : gx_X p s m args meth c cX0_admit 7 (some .boolean) RX0 D cI cJ cB cO tM tS A) (a_this a_this_traits a_this_hated : Nat) (v_this_speaks v_this_hears : Int32) (n_r n_this_mouths : Int32) (n_this_traits : Nat → Int32)  : ∀ (x1 x2 x3 x4 x5 v_this_mouths : Int32) (v_this_traits : Nat → Int32) , X0_admit x1 x2 x3 x4 x5 v_this_mouths v_this_traits = some (n_r, n_this_mouths, n_this_traits) → gx_Wt p l e X0_admit_rm s m args below meth c (MQ below (gx_Q D A (X0_admit_B cI cJ cB cO a_this a_this_traits a_this_hated v_this_speaks v_this_hears n_this_mouths n_this_traits) (some (.int n_r))) args s 0 0 A) D A 7 [(a_this, .inr (0, [.ref a_this_traits, .ref a_this_hated, .int v_this_mouths, .int v_this_speaks, .int v_this_hears])), (a_this_traits, .inl (cI, 35, .inl v_this_traits))] [(0, .ref a_this), (1, .int x1), (2, .int x2), (3, .int x3), (4, .int x4), (5, .int x5)] 0 [] := by
  intro x1 x2 x3 x4 x5 v_this_mouths v_this_traits hf H locs ls hP hD hS hl
  obtain ⟨hx, hb, hr, hml, hown, hW, hlocks, hE, hA⟩ := id C
  unfold X0_admit at hf
  refine lv_aload_n hx hb dX0_admit_0 rfl (lv_at hl 0 rfl) ?_
  refine va_get (D := D) (ci := 0) (v := .int v_this_mouths) (C := RX0) (T := TX0) (N := 5) hx hb hW in_X0 hown hE.1 hP 0 rfl rfl 2 (by decide) (hW _ tw_176) (fun _ h9 => h9) rfl dX0_admit_1 ?_
  refine lv_bipush (v := 7) hx hb dX0_admit_4 (by decide) ?_
  refine lv_icmp_ge (tgt := 28) hx hb dX0_admit_6 (by decide) (fun hc => ?_) (fun hc => ?_)
  · have hf := gx_t hf hc
    refine lv_iconst (v := 0) hx hb dX0_admit_28 (by decide) ?_
    cases hf
    exact gx_zret hx hb hr hlocks (by decide) rfl hP hD hS dX0_admit_29
  · have hf := gx_f hf hc
    refine lv_iload_n hx hb dX0_admit_9 rfl (lv_at hl 1 rfl) ?_
    obtain ⟨r1, hg, hf⟩ := gx_bs hf
    refine gx_Sc (As := [.int x1]) (rest := []) (st1 := [.int r1]) (cells1 := 0) (slots1 := 0) (wc := []) (wr := [(a_this, .inr (0, [.ref a_this_traits, .ref a_this_hated, .int v_this_mouths, .int v_this_speaks, .int v_this_hears])), (a_this_traits, .inl (cI, 35, .inl v_this_traits))]) ⟨hx, hb, hml, hown, hW⟩ (X0_isTongue_ok l D cI cJ cB cO tM tS x1 r1 hg) yk_X0_isTongue tw_194 tw_195 ⟨rfl, rfl⟩ ⟨Nat.le_of_ble_eq_true rfl, Nat.le_of_ble_eq_true rfl⟩ hE hP hD hS hA [] [0, 1] rfl rfl (by decide +kernel) (by decide +kernel) rfl (by decide +kernel) rfl hl.1 (Nat.le_of_ble_eq_true rfl) rfl rfl dX0_admit_10 ⟨Nat.le_of_ble_eq_true rfl, Nat.le_of_ble_eq_true rfl⟩ ⟨rfl, rfl⟩ (fun w1 H locs hB hP hD hS => ?_)
    obtain rfl := hB
    have hP : va_P D gx_cl [(a_this, .inr (0, [.ref a_this_traits, .ref a_this_hated, .int v_this_mouths, .int v_this_speaks, .int v_this_hears])), (a_this_traits, .inl (cI, 35, .inl v_this_traits))] H := hP
    have hD : va_D A [(a_this, .inr (0, [.ref a_this_traits, .ref a_this_hated, .int v_this_mouths, .int v_this_speaks, .int v_this_hears])), (a_this_traits, .inl (cI, 35, .inl v_this_traits))] := hD
    refine lv_if_eq (tgt := 28) hx hb dX0_admit_13 (by decide) (fun hc => ?_) (fun hc => ?_)
    · have hf := gx_t hf hc
      refine lv_iconst (v := 0) hx hb dX0_admit_28 (by decide) ?_
      cases hf
      exact gx_zret hx hb hr hlocks (by decide) rfl hP hD hS dX0_admit_29
    · have hf := gx_f hf hc
      refine lv_iload_n hx hb dX0_admit_16 rfl (lv_at hl 2 rfl) ?_
      obtain ⟨r2, hg, hf⟩ := gx_bs hf
      refine gx_Sc (As := [.int x2]) (rest := []) (st1 := [.int r2]) (cells1 := 0) (slots1 := 0) (wc := []) (wr := [(a_this, .inr (0, [.ref a_this_traits, .ref a_this_hated, .int v_this_mouths, .int v_this_speaks, .int v_this_hears])), (a_this_traits, .inl (cI, 35, .inl v_this_traits))]) ⟨hx, hb, hml, hown, hW⟩ (X0_isTongue_ok l D cI cJ cB cO tM tS x2 r2 hg) yk_X0_isTongue tw_194 tw_195 ⟨rfl, rfl⟩ ⟨Nat.le_of_ble_eq_true rfl, Nat.le_of_ble_eq_true rfl⟩ hE hP hD hS hA [] [0, 1] rfl rfl (by decide +kernel) (by decide +kernel) rfl (by decide +kernel) rfl hl.1 (Nat.le_of_ble_eq_true rfl) rfl rfl dX0_admit_17 ⟨Nat.le_of_ble_eq_true rfl, Nat.le_of_ble_eq_true rfl⟩ ⟨rfl, rfl⟩ (fun w1 H locs hB hP hD hS => ?_)
      obtain rfl := hB
      have hP : va_P D gx_cl [(a_this, .inr (0, [.ref a_this_traits, .ref a_this_hated, .int v_this_mouths, .int v_this_speaks, .int v_this_hears])), (a_this_traits, .inl (cI, 35, .inl v_this_traits))] H := hP
      have hD : va_D A [(a_this, .inr (0, [.ref a_this_traits, .ref a_this_hated, .int v_this_mouths, .int v_this_speaks, .int v_this_hears])), (a_this_traits, .inl (cI, 35, .inl v_this_traits))] := hD
      refine lv_if_eq (tgt := 28) hx hb dX0_admit_20 (by decide) (fun hc => ?_) (fun hc => ?_)
      · have hf := gx_t hf hc
        refine lv_iconst (v := 0) hx hb dX0_admit_28 (by decide) ?_
        cases hf
        exact gx_zret hx hb hr hlocks (by decide) rfl hP hD hS dX0_admit_29
      · have hf := gx_f hf hc
        refine lv_iload_n hx hb dX0_admit_23 rfl (lv_at hl 1 rfl) ?_
        refine lv_iload_n hx hb dX0_admit_24 rfl (lv_at hl 2 rfl) ?_
        refine lv_icmp_ne (tgt := 30) hx hb dX0_admit_25 (by decide) (fun hc => ?_) (fun hc => ?_)
        · have hf := gx_f hf hc
          refine lv_iload_n hx hb dX0_admit_30 rfl (lv_at hl 3 rfl) ?_
          refine lv_if_lt (tgt := 52) hx hb dX0_admit_31 (by decide) (fun hc => ?_) (fun hc => ?_)
          · have hf := gx_t hf hc
            refine lv_iconst (v := 0) hx hb dX0_admit_52 (by decide) ?_
            cases hf
            exact gx_zret hx hb hr hlocks (by decide) rfl hP hD hS dX0_admit_53
          · have hf := gx_f hf hc
            refine lv_iload_n hx hb dX0_admit_34 rfl (lv_at hl 3 rfl) ?_
            refine lv_bipush (v := 6) hx hb dX0_admit_35 (by decide) ?_
            refine lv_icmp_ge (tgt := 52) hx hb dX0_admit_37 (by decide) (fun hc => ?_) (fun hc => ?_)
            · have hf := gx_t hf hc
              refine lv_iconst (v := 0) hx hb dX0_admit_52 (by decide) ?_
              cases hf
              exact gx_zret hx hb hr hlocks (by decide) rfl hP hD hS dX0_admit_53
            · have hf := gx_f hf hc
              refine lv_iload hx hb dX0_admit_40 (lv_at hl 4 rfl) ?_
              refine lv_if_lt (tgt := 52) hx hb dX0_admit_42 (by decide) (fun hc => ?_) (fun hc => ?_)
              · have hf := gx_t hf hc
                refine lv_iconst (v := 0) hx hb dX0_admit_52 (by decide) ?_
                cases hf
                exact gx_zret hx hb hr hlocks (by decide) rfl hP hD hS dX0_admit_53
              · have hf := gx_f hf hc
                refine lv_iload hx hb dX0_admit_45 (lv_at hl 4 rfl) ?_
                refine lv_bipush (v := 10) hx hb dX0_admit_47 (by decide) ?_
                refine lv_icmp_le (tgt := 54) hx hb dX0_admit_49 (by decide) (fun hc => ?_) (fun hc => ?_)
                · have hf := gx_t hf hc
                  refine lv_iload hx hb dX0_admit_54 (lv_at hl 5 rfl) ?_
                  refine lv_if_lt (tgt := 66) hx hb dX0_admit_56 (by decide) (fun hc => ?_) (fun hc => ?_)
                  · have hf := gx_t hf hc
                    refine lv_iconst (v := 0) hx hb dX0_admit_66 (by decide) ?_
                    cases hf
                    exact gx_zret hx hb hr hlocks (by decide) rfl hP hD hS dX0_admit_67
                  · have hf := gx_f hf hc
                    refine lv_iload hx hb dX0_admit_59 (lv_at hl 5 rfl) ?_
                    refine lv_bipush (v := 100) hx hb dX0_admit_61 (by decide) ?_
                    refine lv_icmp_lt (tgt := 68) hx hb dX0_admit_63 (by decide) (fun hc => ?_) (fun hc => ?_)
                    · have hf := gx_t hf hc
                      refine lv_aload_n hx hb dX0_admit_68 rfl (lv_at hl 0 rfl) ?_
                      refine va_get (D := D) (ci := 0) (v := .int v_this_mouths) (C := RX0) (T := TX0) (N := 5) hx hb hW in_X0 hown hE.1 hP 0 rfl rfl 2 (by decide) (hW _ tw_176) (fun _ h9 => h9) rfl dX0_admit_69 ?_
                      refine lv_iconst (v := 5) hx hb dX0_admit_72 (by decide) ?_
                      refine lv_imul hx hb dX0_admit_73 ?_
                      refine lv_topi (fun y3 ey3 => ?_)
                      have hf := gx_lv hf ey3
                      clear ey3
                      refine lv_istore (lv' := [(6, .int y3), (0, .ref a_this), (1, .int x1), (2, .int x2), (3, .int x3), (4, .int x4), (5, .int x5)]) hx hb dX0_admit_74 hl (by decide) rfl (fun ls hl => ?_)
                      refine lv_aload_n hx hb dX0_admit_76 rfl (lv_at hl 1 rfl) ?_
                      refine va_get (D := D) (ci := 0) (v := .ref a_this_traits) (C := RX0) (T := TX0) (N := 5) hx hb hW in_X0 hown hE.1 hP 0 rfl rfl 0 (by decide) (hW _ tw_174) (fun _ h9 => h9) rfl dX0_admit_77 ?_
                      refine lv_iload hx hb dX0_admit_80 (lv_at hl 0 rfl) ?_
                      refine lv_iload_n hx hb dX0_admit_82 rfl (lv_at hl 2 rfl) ?_
                      obtain ⟨h4, hf⟩ := gx_ite hf
                      refine va_iast hx hb hE.1 hP hD hS 1 0 rfl rfl h4 dX0_admit_83 (fun H locs hP hD hS => ?_)
                      have hP : va_P D gx_cl [(a_this, .inr (0, [.ref a_this_traits, .ref a_this_hated, .int v_this_mouths, .int v_this_speaks, .int v_this_hears])), (a_this_traits, .inl (cI, 35, .inl (upd v_this_traits y3.toNatClampNeg x1)))] H := hP
                      have hD : va_D A [(a_this, .inr (0, [.ref a_this_traits, .ref a_this_hated, .int v_this_mouths, .int v_this_speaks, .int v_this_hears])), (a_this_traits, .inl (cI, 35, .inl (upd v_this_traits y3.toNatClampNeg x1)))] := hD
                      refine lv_aload_n hx hb dX0_admit_84 rfl (lv_at hl 1 rfl) ?_
                      refine va_get (D := D) (ci := 0) (v := .ref a_this_traits) (C := RX0) (T := TX0) (N := 5) hx hb hW in_X0 hown hE.1 hP 0 rfl rfl 0 (by decide) (hW _ tw_174) (fun _ h9 => h9) rfl dX0_admit_85 ?_
                      refine lv_iload hx hb dX0_admit_88 (lv_at hl 0 rfl) ?_
                      refine lv_iconst (v := 1) hx hb dX0_admit_90 (by decide) ?_
                      refine lv_iadd hx hb dX0_admit_91 ?_
                      refine lv_iload_n hx hb dX0_admit_92 rfl (lv_at hl 3 rfl) ?_
                      obtain ⟨h5, hf⟩ := gx_ite hf
                      refine va_iast hx hb hE.1 hP hD hS 1 0 rfl rfl h5 dX0_admit_93 (fun H locs hP hD hS => ?_)
                      have hP : va_P D gx_cl [(a_this, .inr (0, [.ref a_this_traits, .ref a_this_hated, .int v_this_mouths, .int v_this_speaks, .int v_this_hears])), (a_this_traits, .inl (cI, 35, .inl (upd (upd v_this_traits y3.toNatClampNeg x1) (y3 + (1 : Int32)).toNatClampNeg x2)))] H := hP
                      have hD : va_D A [(a_this, .inr (0, [.ref a_this_traits, .ref a_this_hated, .int v_this_mouths, .int v_this_speaks, .int v_this_hears])), (a_this_traits, .inl (cI, 35, .inl (upd (upd v_this_traits y3.toNatClampNeg x1) (y3 + (1 : Int32)).toNatClampNeg x2)))] := hD
                      refine lv_aload_n hx hb dX0_admit_94 rfl (lv_at hl 1 rfl) ?_
                      refine va_get (D := D) (ci := 0) (v := .ref a_this_traits) (C := RX0) (T := TX0) (N := 5) hx hb hW in_X0 hown hE.1 hP 0 rfl rfl 0 (by decide) (hW _ tw_174) (fun _ h9 => h9) rfl dX0_admit_95 ?_
                      refine lv_iload hx hb dX0_admit_98 (lv_at hl 0 rfl) ?_
                      refine lv_iconst (v := 2) hx hb dX0_admit_100 (by decide) ?_
                      refine lv_iadd hx hb dX0_admit_101 ?_
                      refine lv_iload_n hx hb dX0_admit_102 rfl (lv_at hl 4 rfl) ?_
                      obtain ⟨h6, hf⟩ := gx_ite hf
                      refine va_iast hx hb hE.1 hP hD hS 1 0 rfl rfl h6 dX0_admit_103 (fun H locs hP hD hS => ?_)
                      have hP : va_P D gx_cl [(a_this, .inr (0, [.ref a_this_traits, .ref a_this_hated, .int v_this_mouths, .int v_this_speaks, .int v_this_hears])), (a_this_traits, .inl (cI, 35, .inl (upd (upd (upd v_this_traits y3.toNatClampNeg x1) (y3 + (1 : Int32)).toNatClampNeg x2) (y3 + (2 : Int32)).toNatClampNeg x3)))] H := hP
                      have hD : va_D A [(a_this, .inr (0, [.ref a_this_traits, .ref a_this_hated, .int v_this_mouths, .int v_this_speaks, .int v_this_hears])), (a_this_traits, .inl (cI, 35, .inl (upd (upd (upd v_this_traits y3.toNatClampNeg x1) (y3 + (1 : Int32)).toNatClampNeg x2) (y3 + (2 : Int32)).toNatClampNeg x3)))] := hD
                      refine lv_aload_n hx hb dX0_admit_104 rfl (lv_at hl 1 rfl) ?_
                      refine va_get (D := D) (ci := 0) (v := .ref a_this_traits) (C := RX0) (T := TX0) (N := 5) hx hb hW in_X0 hown hE.1 hP 0 rfl rfl 0 (by decide) (hW _ tw_174) (fun _ h9 => h9) rfl dX0_admit_105 ?_
                      refine lv_iload hx hb dX0_admit_108 (lv_at hl 0 rfl) ?_
                      refine lv_iconst (v := 3) hx hb dX0_admit_110 (by decide) ?_
                      refine lv_iadd hx hb dX0_admit_111 ?_
                      refine lv_iload hx hb dX0_admit_112 (lv_at hl 5 rfl) ?_
                      obtain ⟨h7, hf⟩ := gx_ite hf
                      refine va_iast hx hb hE.1 hP hD hS 1 0 rfl rfl h7 dX0_admit_114 (fun H locs hP hD hS => ?_)
                      have hP : va_P D gx_cl [(a_this, .inr (0, [.ref a_this_traits, .ref a_this_hated, .int v_this_mouths, .int v_this_speaks, .int v_this_hears])), (a_this_traits, .inl (cI, 35, .inl (upd (upd (upd (upd v_this_traits y3.toNatClampNeg x1) (y3 + (1 : Int32)).toNatClampNeg x2) (y3 + (2 : Int32)).toNatClampNeg x3) (y3 + (3 : Int32)).toNatClampNeg x4)))] H := hP
                      have hD : va_D A [(a_this, .inr (0, [.ref a_this_traits, .ref a_this_hated, .int v_this_mouths, .int v_this_speaks, .int v_this_hears])), (a_this_traits, .inl (cI, 35, .inl (upd (upd (upd (upd v_this_traits y3.toNatClampNeg x1) (y3 + (1 : Int32)).toNatClampNeg x2) (y3 + (2 : Int32)).toNatClampNeg x3) (y3 + (3 : Int32)).toNatClampNeg x4)))] := hD
                      refine lv_aload_n hx hb dX0_admit_115 rfl (lv_at hl 1 rfl) ?_
                      refine va_get (D := D) (ci := 0) (v := .ref a_this_traits) (C := RX0) (T := TX0) (N := 5) hx hb hW in_X0 hown hE.1 hP 0 rfl rfl 0 (by decide) (hW _ tw_174) (fun _ h9 => h9) rfl dX0_admit_116 ?_
                      refine lv_iload hx hb dX0_admit_119 (lv_at hl 0 rfl) ?_
                      refine lv_iconst (v := 4) hx hb dX0_admit_121 (by decide) ?_
                      refine lv_iadd hx hb dX0_admit_122 ?_
                      refine lv_iload hx hb dX0_admit_123 (lv_at hl 6 rfl) ?_
                      obtain ⟨h8, hf⟩ := gx_ite hf
                      refine va_iast hx hb hE.1 hP hD hS 1 0 rfl rfl h8 dX0_admit_125 (fun H locs hP hD hS => ?_)
                      have hP : va_P D gx_cl [(a_this, .inr (0, [.ref a_this_traits, .ref a_this_hated, .int v_this_mouths, .int v_this_speaks, .int v_this_hears])), (a_this_traits, .inl (cI, 35, .inl (upd (upd (upd (upd (upd v_this_traits y3.toNatClampNeg x1) (y3 + (1 : Int32)).toNatClampNeg x2) (y3 + (2 : Int32)).toNatClampNeg x3) (y3 + (3 : Int32)).toNatClampNeg x4) (y3 + (4 : Int32)).toNatClampNeg x5)))] H := hP
                      have hD : va_D A [(a_this, .inr (0, [.ref a_this_traits, .ref a_this_hated, .int v_this_mouths, .int v_this_speaks, .int v_this_hears])), (a_this_traits, .inl (cI, 35, .inl (upd (upd (upd (upd (upd v_this_traits y3.toNatClampNeg x1) (y3 + (1 : Int32)).toNatClampNeg x2) (y3 + (2 : Int32)).toNatClampNeg x3) (y3 + (3 : Int32)).toNatClampNeg x4) (y3 + (4 : Int32)).toNatClampNeg x5)))] := hD
                      refine lv_aload_n hx hb dX0_admit_126 rfl (lv_at hl 1 rfl) ?_
                      refine lv_dup hx hb dX0_admit_127 rfl ?_
                      refine va_get (D := D) (ci := 0) (v := .int v_this_mouths) (C := RX0) (T := TX0) (N := 5) hx hb hW in_X0 hown hE.1 hP 0 rfl rfl 2 (by decide) (hW _ tw_176) (fun _ h9 => h9) rfl dX0_admit_128 ?_
                      refine lv_iconst (v := 1) hx hb dX0_admit_131 (by decide) ?_
                      refine lv_iadd hx hb dX0_admit_132 ?_
                      refine va_put (D := D) (ci := 0) (v := .int (v_this_mouths + (1 : Int32))) (ty := tyX0 2) (C := RX0) (T := TX0) (N := 5) hx hb hW in_X0 tyX0 tyX0_ok nmX0 hown hE.1 hP hD hS 0 rfl rfl 2 (by decide) (hW _ tw_176) (fun _ h9 => h9) rfl (by decide +kernel) rfl rfl (Nat.le_of_ble_eq_true rfl) dX0_admit_133 (fun H locs hP hD hS => ?_)
                      have hP : va_P D gx_cl [(a_this, .inr (0, [.ref a_this_traits, .ref a_this_hated, .int (v_this_mouths + (1 : Int32)), .int v_this_speaks, .int v_this_hears])), (a_this_traits, .inl (cI, 35, .inl (upd (upd (upd (upd (upd v_this_traits y3.toNatClampNeg x1) (y3 + (1 : Int32)).toNatClampNeg x2) (y3 + (2 : Int32)).toNatClampNeg x3) (y3 + (3 : Int32)).toNatClampNeg x4) (y3 + (4 : Int32)).toNatClampNeg x5)))] H := hP
                      have hD : va_D A [(a_this, .inr (0, [.ref a_this_traits, .ref a_this_hated, .int (v_this_mouths + (1 : Int32)), .int v_this_speaks, .int v_this_hears])), (a_this_traits, .inl (cI, 35, .inl (upd (upd (upd (upd (upd v_this_traits y3.toNatClampNeg x1) (y3 + (1 : Int32)).toNatClampNeg x2) (y3 + (2 : Int32)).toNatClampNeg x3) (y3 + (3 : Int32)).toNatClampNeg x4) (y3 + (4 : Int32)).toNatClampNeg x5)))] := hD
                      refine lv_iconst (v := 1) hx hb dX0_admit_136 (by decide) ?_
                      cases hf
                      exact gx_zret hx hb hr hlocks (by decide) rfl hP hD hS dX0_admit_137
                    · have hf := gx_f hf hc
                      refine lv_iconst (v := 0) hx hb dX0_admit_66 (by decide) ?_
                      cases hf
                      exact gx_zret hx hb hr hlocks (by decide) rfl hP hD hS dX0_admit_67
                · have hf := gx_f hf hc
                  refine lv_iconst (v := 0) hx hb dX0_admit_52 (by decide) ?_
                  cases hf
                  exact gx_zret hx hb hr hlocks (by decide) rfl hP hD hS dX0_admit_53
        · have hf := gx_t hf hc
          refine lv_iconst (v := 0) hx hb dX0_admit_28 (by decide) ?_
          cases hf
          exact gx_zret hx hb hr hlocks (by decide) rfl hP hD hS dX0_admit_29
theorem X0_admit_ok (l : Launch) (D : va_G) (cI cJ cB cO : ClassId) (tM tS : Nat) (a_this a_this_traits a_this_hated : Nat)  (v_this_mouths v_this_speaks v_this_hears : Int32) (v_this_traits : Nat → Int32) (x1 x2 x3 x4 x5 n_r n_this_mouths : Int32) (n_this_traits : Nat → Int32) (hf : X0_admit x1 x2 x3 x4 x5 v_this_mouths v_this_traits = some (n_r, n_this_mouths, n_this_traits)) : gx_M l yX0_admit cX0_admit 7 (some .boolean) X0_admit_rm D cI cJ cB cO tM tS [.ref a_this, .int x1, .int x2, .int x3, .int x4, .int x5] [(a_this, .inr (0, [.ref a_this_traits, .ref a_this_hated, .int v_this_mouths, .int v_this_speaks, .int v_this_hears])), (a_this_traits, .inl (cI, 35, .inl v_this_traits))] (X0_admit_B cI cJ cB cO a_this a_this_traits a_this_hated v_this_speaks v_this_hears n_this_mouths n_this_traits) (some (.int n_r)) 0 0 := by
  refine gx_of (by decide) (Nat.le_of_ble_eq_true rfl) ?_
  intro p e s m args below meth c ls A C hP hD hl _
  have hl : lv_has ls 7 [(0, .ref a_this), (1, .int x1), (2, .int x2), (3, .int x3), (4, .int x4), (5, .int x5)] := hl
  exact X0_admit_b0_ok C a_this a_this_traits a_this_hated v_this_speaks v_this_hears n_r n_this_mouths n_this_traits x1 x2 x3 x4 x5 v_this_mouths v_this_traits hf s.heap [] ls hP hD va_S.rf hl
def X0_areAtOdds_B (cI cJ cB cO : ClassId) (a_this a_this_traits a_this_hated : Nat) (v_this_mouths v_this_speaks v_this_hears : Int32) (v_this_hated : Nat → Int32) : va_W → Prop := fun w1 => w1 = [(a_this, .inr (0, [.ref a_this_traits, .ref a_this_hated, .int v_this_mouths, .int v_this_speaks, .int v_this_hears])), (a_this_hated, .inl (cI, 7, .inl v_this_hated))]
abbrev X0_areAtOdds_rm : Room := { frames := 1, cells := 0, slots := 0, locals := 21 }
set_option maxHeartbeats 4000000 in
set_option maxRecDepth 100000 in
theorem X0_areAtOdds_b0_ok {p : Program} {l : Launch} {e : Env} {s : State} {m : MethodId} {args : Array Value} {below : List Frame} {meth : Method} {c : Code} {D : va_G} {cI cJ cB cO : ClassId} {tM tS : Nat} {A : Nat → Prop} (C : gx_X p s m args meth c cX0_areAtOdds 3 (some .boolean) RX0 D cI cJ cB cO tM tS A) (a_this a_this_traits a_this_hated : Nat) (v_this_speaks v_this_hears : Int32) (n_r : Int32)  : ∀ (x1 x2 v_this_mouths : Int32) (v_this_hated : Nat → Int32) , X0_areAtOdds x1 x2 v_this_mouths v_this_hated = some n_r → gx_Wt p l e X0_areAtOdds_rm s m args below meth c (MQ below (gx_Q D A (X0_areAtOdds_B cI cJ cB cO a_this a_this_traits a_this_hated v_this_mouths v_this_speaks v_this_hears v_this_hated) (some (.int n_r))) args s 0 0 A) D A 3 [(a_this, .inr (0, [.ref a_this_traits, .ref a_this_hated, .int v_this_mouths, .int v_this_speaks, .int v_this_hears])), (a_this_hated, .inl (cI, 7, .inl v_this_hated))] [(0, .ref a_this), (1, .int x1), (2, .int x2)] 0 [] := by
  intro x1 x2 v_this_mouths v_this_hated hf H locs ls hP hD hS hl
  obtain ⟨hx, hb, hr, hml, hown, hW, hlocks, hE, hA⟩ := id C
  unfold X0_areAtOdds at hf
  refine lv_aload_n hx hb dX0_areAtOdds_0 rfl (lv_at hl 0 rfl) ?_
  refine lv_iload_n hx hb dX0_areAtOdds_1 rfl (lv_at hl 1 rfl) ?_
  obtain ⟨r1, hg, hf⟩ := gx_bs hf
  refine gx_V (As := [.int x1]) (rest := []) (st1 := [.int r1]) (cells1 := 0) (slots1 := 0) (wc := [(a_this, .inr (0, [.ref a_this_traits, .ref a_this_hated, .int v_this_mouths, .int v_this_speaks, .int v_this_hears]))]) (wr := [(a_this_hated, .inl (cI, 7, .inl v_this_hated))]) ⟨hx, hb, hml, hown, hW⟩ (X0_has_ok l D cI cJ cB cO tM tS a_this a_this_traits a_this_hated v_this_mouths v_this_speaks v_this_hears x1 r1 hg) yk_X0_has tw_297 yv_X0_has ⟨rfl, rfl⟩ ⟨Nat.le_of_ble_eq_true rfl, Nat.le_of_ble_eq_true rfl⟩ hE hP hD hS hA [0] [1] rfl rfl (by decide +kernel) (by decide +kernel) rfl (by decide +kernel) (ci := 0) rfl rfl rfl hl.1 (Nat.le_of_ble_eq_true rfl) rfl rfl dX0_areAtOdds_2 ⟨Nat.le_of_ble_eq_true rfl, Nat.le_of_ble_eq_true rfl⟩ ⟨rfl, rfl⟩ (fun w1 H locs hB hP hD hS => ?_)
  obtain rfl := hB
  have hP : va_P D gx_cl [(a_this, .inr (0, [.ref a_this_traits, .ref a_this_hated, .int v_this_mouths, .int v_this_speaks, .int v_this_hears])), (a_this_hated, .inl (cI, 7, .inl v_this_hated))] H := hP.sub [1, 0] rfl
  have hD : va_D A [(a_this, .inr (0, [.ref a_this_traits, .ref a_this_hated, .int v_this_mouths, .int v_this_speaks, .int v_this_hears])), (a_this_hated, .inl (cI, 7, .inl v_this_hated))] := hD.sub [1, 0] (by decide +kernel) rfl
  refine lv_if_eq (tgt := 33) hx hb dX0_areAtOdds_5 (by decide) (fun hc => ?_) (fun hc => ?_)
  · have hf := gx_t hf hc
    refine lv_iconst (v := 0) hx hb dX0_areAtOdds_33 (by decide) ?_
    cases hf
    exact gx_zret hx hb hr hlocks (by decide) rfl hP hD hS dX0_areAtOdds_34
  · have hf := gx_f hf hc
    refine lv_aload_n hx hb dX0_areAtOdds_8 rfl (lv_at hl 0 rfl) ?_
    refine lv_iload_n hx hb dX0_areAtOdds_9 rfl (lv_at hl 2 rfl) ?_
    obtain ⟨r2, hg, hf⟩ := gx_bs hf
    refine gx_V (As := [.int x2]) (rest := []) (st1 := [.int r2]) (cells1 := 0) (slots1 := 0) (wc := [(a_this, .inr (0, [.ref a_this_traits, .ref a_this_hated, .int v_this_mouths, .int v_this_speaks, .int v_this_hears]))]) (wr := [(a_this_hated, .inl (cI, 7, .inl v_this_hated))]) ⟨hx, hb, hml, hown, hW⟩ (X0_has_ok l D cI cJ cB cO tM tS a_this a_this_traits a_this_hated v_this_mouths v_this_speaks v_this_hears x2 r2 hg) yk_X0_has tw_297 yv_X0_has ⟨rfl, rfl⟩ ⟨Nat.le_of_ble_eq_true rfl, Nat.le_of_ble_eq_true rfl⟩ hE hP hD hS hA [0] [1] rfl rfl (by decide +kernel) (by decide +kernel) rfl (by decide +kernel) (ci := 0) rfl rfl rfl hl.1 (Nat.le_of_ble_eq_true rfl) rfl rfl dX0_areAtOdds_10 ⟨Nat.le_of_ble_eq_true rfl, Nat.le_of_ble_eq_true rfl⟩ ⟨rfl, rfl⟩ (fun w1 H locs hB hP hD hS => ?_)
    obtain rfl := hB
    have hP : va_P D gx_cl [(a_this, .inr (0, [.ref a_this_traits, .ref a_this_hated, .int v_this_mouths, .int v_this_speaks, .int v_this_hears])), (a_this_hated, .inl (cI, 7, .inl v_this_hated))] H := hP.sub [1, 0] rfl
    have hD : va_D A [(a_this, .inr (0, [.ref a_this_traits, .ref a_this_hated, .int v_this_mouths, .int v_this_speaks, .int v_this_hears])), (a_this_hated, .inl (cI, 7, .inl v_this_hated))] := hD.sub [1, 0] (by decide +kernel) rfl
    refine lv_if_eq (tgt := 33) hx hb dX0_areAtOdds_13 (by decide) (fun hc => ?_) (fun hc => ?_)
    · have hf := gx_t hf hc
      refine lv_iconst (v := 0) hx hb dX0_areAtOdds_33 (by decide) ?_
      cases hf
      exact gx_zret hx hb hr hlocks (by decide) rfl hP hD hS dX0_areAtOdds_34
    · have hf := gx_f hf hc
      refine lv_aload_n hx hb dX0_areAtOdds_16 rfl (lv_at hl 0 rfl) ?_
      refine va_get (D := D) (ci := 0) (v := .ref a_this_hated) (C := RX0) (T := TX0) (N := 5) hx hb hW in_X0 hown hE.1 hP 0 rfl rfl 1 (by decide) (hW _ tw_175) (fun _ h9 => h9) rfl dX0_areAtOdds_17 ?_
      refine lv_iload_n hx hb dX0_areAtOdds_20 rfl (lv_at hl 1 rfl) ?_
      obtain ⟨h3, hf⟩ := gx_ite hf
      refine va_iald hx hb hE.1 hP 1 0 rfl rfl h3 dX0_areAtOdds_21 ?_
      refine lv_iload_n hx hb dX0_areAtOdds_22 rfl (lv_at hl 2 rfl) ?_
      refine lv_ishr hx hb dX0_areAtOdds_23 ?_
      refine lv_iconst (v := 1) hx hb dX0_areAtOdds_24 (by decide) ?_
      refine lv_iand hx hb dX0_areAtOdds_25 ?_
      refine lv_if_eq (tgt := 33) hx hb dX0_areAtOdds_26 (by decide) (fun hc => ?_) (fun hc => ?_)
      · have hf := gx_t hf hc
        refine lv_iconst (v := 0) hx hb dX0_areAtOdds_33 (by decide) ?_
        cases hf
        exact gx_zret hx hb hr hlocks (by decide) rfl hP hD hS dX0_areAtOdds_34
      · have hf := gx_f hf hc
        refine lv_iconst (v := 1) hx hb dX0_areAtOdds_29 (by decide) ?_
        refine lv_goto (tgt := 34) hx hb dX0_areAtOdds_30 (by decide) ?_
        cases hf
        exact gx_zret hx hb hr hlocks (by decide) rfl hP hD hS dX0_areAtOdds_34
theorem X0_areAtOdds_ok (l : Launch) (D : va_G) (cI cJ cB cO : ClassId) (tM tS : Nat) (a_this a_this_traits a_this_hated : Nat)  (v_this_mouths v_this_speaks v_this_hears : Int32) (v_this_hated : Nat → Int32) (x1 x2 n_r : Int32) (hf : X0_areAtOdds x1 x2 v_this_mouths v_this_hated = some n_r) : gx_M l yX0_areAtOdds cX0_areAtOdds 3 (some .boolean) X0_areAtOdds_rm D cI cJ cB cO tM tS [.ref a_this, .int x1, .int x2] [(a_this, .inr (0, [.ref a_this_traits, .ref a_this_hated, .int v_this_mouths, .int v_this_speaks, .int v_this_hears])), (a_this_hated, .inl (cI, 7, .inl v_this_hated))] (X0_areAtOdds_B cI cJ cB cO a_this a_this_traits a_this_hated v_this_mouths v_this_speaks v_this_hears v_this_hated) (some (.int n_r)) 0 0 := by
  refine gx_of (by decide) (Nat.le_of_ble_eq_true rfl) ?_
  intro p e s m args below meth c ls A C hP hD hl _
  have hl : lv_has ls 3 [(0, .ref a_this), (1, .int x1), (2, .int x2)] := hl
  exact X0_areAtOdds_b0_ok C a_this a_this_traits a_this_hated v_this_speaks v_this_hears n_r x1 x2 v_this_mouths v_this_hated hf s.heap [] ls hP hD va_S.rf hl
def X0_clear_B (cI cJ cB cO : ClassId) (a_this a_this_traits a_this_hated : Nat) (n_this_mouths n_this_speaks n_this_hears : Int32) (n_this_hated : Nat → Int32) : va_W → Prop := fun w1 => w1 = [(a_this, .inr (0, [.ref a_this_traits, .ref a_this_hated, .int n_this_mouths, .int n_this_speaks, .int n_this_hears])), (a_this_hated, .inl (cI, 7, .inl n_this_hated))]
abbrev X0_clear_rm : Room := { frames := 1, cells := 0, slots := 0, locals := 23 }
set_option maxHeartbeats 4000000 in
set_option maxRecDepth 100000 in
theorem X0_clear_b0_ok {p : Program} {l : Launch} {e : Env} {s : State} {m : MethodId} {args : Array Value} {below : List Frame} {meth : Method} {c : Code} {D : va_G} {cI cJ cB cO : ClassId} {tM tS : Nat} {A : Nat → Prop} (C : gx_X p s m args meth c cX0_clear 1 none RX0 D cI cJ cB cO tM tS A) (a_this a_this_traits a_this_hated : Nat) (n_this_mouths n_this_speaks n_this_hears : Int32) (n_this_hated : Nat → Int32)  : ∀ (v_this_mouths v_this_speaks v_this_hears : Int32) (v_this_hated : Nat → Int32) , X0_clear v_this_mouths v_this_speaks v_this_hears v_this_hated = some (n_this_mouths, n_this_speaks, n_this_hears, n_this_hated) → gx_Wt p l e X0_clear_rm s m args below meth c (MQ below (gx_Q D A (X0_clear_B cI cJ cB cO a_this a_this_traits a_this_hated n_this_mouths n_this_speaks n_this_hears n_this_hated) none) args s 0 0 A) D A 1 [(a_this, .inr (0, [.ref a_this_traits, .ref a_this_hated, .int v_this_mouths, .int v_this_speaks, .int v_this_hears])), (a_this_hated, .inl (cI, 7, .inl v_this_hated))] [(0, .ref a_this)] 0 [] := by
  intro v_this_mouths v_this_speaks v_this_hears v_this_hated hf H locs ls hP hD hS hl
  obtain ⟨hx, hb, hr, hml, hown, hW, hlocks, hE, hA⟩ := id C
  unfold X0_clear at hf
  refine lv_aload_n hx hb dX0_clear_0 rfl (lv_at hl 0 rfl) ?_
  refine va_get (D := D) (ci := 0) (v := .ref a_this_hated) (C := RX0) (T := TX0) (N := 5) hx hb hW in_X0 hown hE.1 hP 0 rfl rfl 1 (by decide) (hW _ tw_175) (fun _ h9 => h9) rfl dX0_clear_1 ?_
  refine lv_iconst (v := 0) hx hb dX0_clear_4 (by decide) ?_
  obtain ⟨w1, hg, hf⟩ := gx_bs hf
  refine gx_Sc (As := [.ref a_this_hated, .int (0 : Int32)]) (rest := []) (st1 := []) (cells1 := 0) (slots1 := 0) (wc := [(a_this_hated, .inl (cI, 7, .inl v_this_hated))]) (wr := [(a_this, .inr (0, [.ref a_this_traits, .ref a_this_hated, .int v_this_mouths, .int v_this_speaks, .int v_this_hears]))]) ⟨hx, hb, hml, hown, hW⟩ (J7_fill_53178_ok l D cI cJ cB cO tM tS a_this_hated 7 v_this_hated (0 : Int32) w1 hg) yk_J7_fill_53178 tw_260 tw_147 ⟨rfl, rfl⟩ ⟨Nat.le_of_ble_eq_true rfl, Nat.le_of_ble_eq_true rfl⟩ hE hP hD hS hA [1] [0] rfl rfl (by decide +kernel) (by decide +kernel) rfl (by decide +kernel) rfl hl.1 (Nat.le_of_ble_eq_true rfl) rfl rfl dX0_clear_5 ⟨Nat.le_of_ble_eq_true rfl, Nat.le_of_ble_eq_true rfl⟩ ⟨rfl, rfl⟩ (fun w1 H locs hB hP hD hS => ?_)
  obtain rfl := hB
  have hP : va_P D gx_cl [(a_this, .inr (0, [.ref a_this_traits, .ref a_this_hated, .int v_this_mouths, .int v_this_speaks, .int v_this_hears])), (a_this_hated, .inl (cI, 7, .inl w1))] H := hP
  have hD : va_D A [(a_this, .inr (0, [.ref a_this_traits, .ref a_this_hated, .int v_this_mouths, .int v_this_speaks, .int v_this_hears])), (a_this_hated, .inl (cI, 7, .inl w1))] := hD
  refine lv_aload_n hx hb dX0_clear_8 rfl (lv_at hl 0 rfl) ?_
  refine lv_iconst (v := 0) hx hb dX0_clear_9 (by decide) ?_
  refine va_put (D := D) (ci := 0) (v := .int (0 : Int32)) (ty := tyX0 2) (C := RX0) (T := TX0) (N := 5) hx hb hW in_X0 tyX0 tyX0_ok nmX0 hown hE.1 hP hD hS 0 rfl rfl 2 (by decide) (hW _ tw_176) (fun _ h9 => h9) rfl (by decide +kernel) rfl rfl (Nat.le_of_ble_eq_true rfl) dX0_clear_10 (fun H locs hP hD hS => ?_)
  have hP : va_P D gx_cl [(a_this, .inr (0, [.ref a_this_traits, .ref a_this_hated, .int (0 : Int32), .int v_this_speaks, .int v_this_hears])), (a_this_hated, .inl (cI, 7, .inl w1))] H := hP
  have hD : va_D A [(a_this, .inr (0, [.ref a_this_traits, .ref a_this_hated, .int (0 : Int32), .int v_this_speaks, .int v_this_hears])), (a_this_hated, .inl (cI, 7, .inl w1))] := hD
  refine lv_aload_n hx hb dX0_clear_13 rfl (lv_at hl 0 rfl) ?_
  refine lv_iconst (v := 0) hx hb dX0_clear_14 (by decide) ?_
  refine va_put (D := D) (ci := 0) (v := .int (0 : Int32)) (ty := tyX0 3) (C := RX0) (T := TX0) (N := 5) hx hb hW in_X0 tyX0 tyX0_ok nmX0 hown hE.1 hP hD hS 0 rfl rfl 3 (by decide) (hW _ tw_177) (fun _ h9 => h9) rfl (by decide +kernel) rfl rfl (Nat.le_of_ble_eq_true rfl) dX0_clear_15 (fun H locs hP hD hS => ?_)
  have hP : va_P D gx_cl [(a_this, .inr (0, [.ref a_this_traits, .ref a_this_hated, .int (0 : Int32), .int (0 : Int32), .int v_this_hears])), (a_this_hated, .inl (cI, 7, .inl w1))] H := hP
  have hD : va_D A [(a_this, .inr (0, [.ref a_this_traits, .ref a_this_hated, .int (0 : Int32), .int (0 : Int32), .int v_this_hears])), (a_this_hated, .inl (cI, 7, .inl w1))] := hD
  refine lv_aload_n hx hb dX0_clear_18 rfl (lv_at hl 0 rfl) ?_
  refine lv_iconst (v := 1) hx hb dX0_clear_19 (by decide) ?_
  refine va_put (D := D) (ci := 0) (v := .int (1 : Int32)) (ty := tyX0 4) (C := RX0) (T := TX0) (N := 5) hx hb hW in_X0 tyX0 tyX0_ok nmX0 hown hE.1 hP hD hS 0 rfl rfl 4 (by decide) (hW _ tw_178) (fun _ h9 => h9) rfl (by decide +kernel) rfl rfl (Nat.le_of_ble_eq_true rfl) dX0_clear_20 (fun H locs hP hD hS => ?_)
  have hP : va_P D gx_cl [(a_this, .inr (0, [.ref a_this_traits, .ref a_this_hated, .int (0 : Int32), .int (0 : Int32), .int (1 : Int32)])), (a_this_hated, .inl (cI, 7, .inl w1))] H := hP
  have hD : va_D A [(a_this, .inr (0, [.ref a_this_traits, .ref a_this_hated, .int (0 : Int32), .int (0 : Int32), .int (1 : Int32)])), (a_this_hated, .inl (cI, 7, .inl w1))] := hD
  cases hf
  exact gx_vret hx hb hr hlocks rfl hP hD hS dX0_clear_23
theorem X0_clear_ok (l : Launch) (D : va_G) (cI cJ cB cO : ClassId) (tM tS : Nat) (a_this a_this_traits a_this_hated : Nat)  (v_this_mouths v_this_speaks v_this_hears : Int32) (v_this_hated : Nat → Int32) (n_this_mouths n_this_speaks n_this_hears : Int32) (n_this_hated : Nat → Int32) (hf : X0_clear v_this_mouths v_this_speaks v_this_hears v_this_hated = some (n_this_mouths, n_this_speaks, n_this_hears, n_this_hated)) : gx_M l yX0_clear cX0_clear 1 none X0_clear_rm D cI cJ cB cO tM tS [.ref a_this] [(a_this, .inr (0, [.ref a_this_traits, .ref a_this_hated, .int v_this_mouths, .int v_this_speaks, .int v_this_hears])), (a_this_hated, .inl (cI, 7, .inl v_this_hated))] (X0_clear_B cI cJ cB cO a_this a_this_traits a_this_hated n_this_mouths n_this_speaks n_this_hears n_this_hated) none 0 0 := by
  refine gx_of (by decide) (Nat.le_of_ble_eq_true rfl) ?_
  intro p e s m args below meth c ls A C hP hD hl _
  have hl : lv_has ls 1 [(0, .ref a_this)] := hl
  exact X0_clear_b0_ok C a_this a_this_traits a_this_hated n_this_mouths n_this_speaks n_this_hears n_this_hated v_this_mouths v_this_speaks v_this_hears v_this_hated hf s.heap [] ls hP hD va_S.rf hl
def X0_hears_B (cI cJ cB cO : ClassId) (a_this a_this_traits a_this_hated : Nat) (v_this_mouths v_this_speaks v_this_hears : Int32) : va_W → Prop := fun w1 => w1 = [(a_this, .inr (0, [.ref a_this_traits, .ref a_this_hated, .int v_this_mouths, .int v_this_speaks, .int v_this_hears]))]
abbrev X0_hears_rm : Room := { frames := 0, cells := 0, slots := 0, locals := 0 }
set_option maxHeartbeats 4000000 in
set_option maxRecDepth 100000 in
theorem X0_hears_b0_ok {p : Program} {l : Launch} {e : Env} {s : State} {m : MethodId} {args : Array Value} {below : List Frame} {meth : Method} {c : Code} {D : va_G} {cI cJ cB cO : ClassId} {tM tS : Nat} {A : Nat → Prop} (C : gx_X p s m args meth c cX0_hears 1 (some .int) RX0 D cI cJ cB cO tM tS A) (a_this a_this_traits a_this_hated : Nat) (v_this_mouths v_this_speaks : Int32) (n_r : Int32)  : ∀ (v_this_hears : Int32) , X0_hears v_this_hears = some n_r → gx_Wt p l e X0_hears_rm s m args below meth c (MQ below (gx_Q D A (X0_hears_B cI cJ cB cO a_this a_this_traits a_this_hated v_this_mouths v_this_speaks v_this_hears) (some (.int n_r))) args s 0 0 A) D A 1 [(a_this, .inr (0, [.ref a_this_traits, .ref a_this_hated, .int v_this_mouths, .int v_this_speaks, .int v_this_hears]))] [(0, .ref a_this)] 0 [] := by
  intro v_this_hears hf H locs ls hP hD hS hl
  obtain ⟨hx, hb, hr, hml, hown, hW, hlocks, hE, hA⟩ := id C
  unfold X0_hears at hf
  refine lv_aload_n hx hb dX0_hears_0 rfl (lv_at hl 0 rfl) ?_
  refine va_get (D := D) (ci := 0) (v := .int v_this_hears) (C := RX0) (T := TX0) (N := 5) hx hb hW in_X0 hown hE.1 hP 0 rfl rfl 4 (by decide) (hW _ tw_178) (fun _ h9 => h9) rfl dX0_hears_1 ?_
  cases hf
  exact gx_iret hx hb hr hlocks rfl hP hD hS dX0_hears_4
theorem X0_hears_ok (l : Launch) (D : va_G) (cI cJ cB cO : ClassId) (tM tS : Nat) (a_this a_this_traits a_this_hated : Nat)  (v_this_mouths v_this_speaks v_this_hears n_r : Int32) (hf : X0_hears v_this_hears = some n_r) : gx_M l yX0_hears cX0_hears 1 (some .int) X0_hears_rm D cI cJ cB cO tM tS [.ref a_this] [(a_this, .inr (0, [.ref a_this_traits, .ref a_this_hated, .int v_this_mouths, .int v_this_speaks, .int v_this_hears]))] (X0_hears_B cI cJ cB cO a_this a_this_traits a_this_hated v_this_mouths v_this_speaks v_this_hears) (some (.int n_r)) 0 0 := by
  refine gx_of (by decide) (Nat.le_of_ble_eq_true rfl) ?_
  intro p e s m args below meth c ls A C hP hD hl _
  have hl : lv_has ls 1 [(0, .ref a_this)] := hl
  exact X0_hears_b0_ok C a_this a_this_traits a_this_hated v_this_mouths v_this_speaks n_r v_this_hears hf s.heap [] ls hP hD va_S.rf hl
def X0_mouths_B (cI cJ cB cO : ClassId) (a_this a_this_traits a_this_hated : Nat) (v_this_mouths v_this_speaks v_this_hears : Int32) : va_W → Prop := fun w1 => w1 = [(a_this, .inr (0, [.ref a_this_traits, .ref a_this_hated, .int v_this_mouths, .int v_this_speaks, .int v_this_hears]))]
abbrev X0_mouths_rm : Room := { frames := 0, cells := 0, slots := 0, locals := 0 }
set_option maxHeartbeats 4000000 in
set_option maxRecDepth 100000 in
theorem X0_mouths_b0_ok {p : Program} {l : Launch} {e : Env} {s : State} {m : MethodId} {args : Array Value} {below : List Frame} {meth : Method} {c : Code} {D : va_G} {cI cJ cB cO : ClassId} {tM tS : Nat} {A : Nat → Prop} (C : gx_X p s m args meth c cX0_mouths 1 (some .int) RX0 D cI cJ cB cO tM tS A) (a_this a_this_traits a_this_hated : Nat) (v_this_speaks v_this_hears : Int32) (n_r : Int32)  : ∀ (v_this_mouths : Int32) , X0_mouths v_this_mouths = some n_r → gx_Wt p l e X0_mouths_rm s m args below meth c (MQ below (gx_Q D A (X0_mouths_B cI cJ cB cO a_this a_this_traits a_this_hated v_this_mouths v_this_speaks v_this_hears) (some (.int n_r))) args s 0 0 A) D A 1 [(a_this, .inr (0, [.ref a_this_traits, .ref a_this_hated, .int v_this_mouths, .int v_this_speaks, .int v_this_hears]))] [(0, .ref a_this)] 0 [] := by
  intro v_this_mouths hf H locs ls hP hD hS hl
  obtain ⟨hx, hb, hr, hml, hown, hW, hlocks, hE, hA⟩ := id C
  unfold X0_mouths at hf
  refine lv_aload_n hx hb dX0_mouths_0 rfl (lv_at hl 0 rfl) ?_
  refine va_get (D := D) (ci := 0) (v := .int v_this_mouths) (C := RX0) (T := TX0) (N := 5) hx hb hW in_X0 hown hE.1 hP 0 rfl rfl 2 (by decide) (hW _ tw_176) (fun _ h9 => h9) rfl dX0_mouths_1 ?_
  cases hf
  exact gx_iret hx hb hr hlocks rfl hP hD hS dX0_mouths_4
theorem X0_mouths_ok (l : Launch) (D : va_G) (cI cJ cB cO : ClassId) (tM tS : Nat) (a_this a_this_traits a_this_hated : Nat)  (v_this_mouths v_this_speaks v_this_hears n_r : Int32) (hf : X0_mouths v_this_mouths = some n_r) : gx_M l yX0_mouths cX0_mouths 1 (some .int) X0_mouths_rm D cI cJ cB cO tM tS [.ref a_this] [(a_this, .inr (0, [.ref a_this_traits, .ref a_this_hated, .int v_this_mouths, .int v_this_speaks, .int v_this_hears]))] (X0_mouths_B cI cJ cB cO a_this a_this_traits a_this_hated v_this_mouths v_this_speaks v_this_hears) (some (.int n_r)) 0 0 := by
  refine gx_of (by decide) (Nat.le_of_ble_eq_true rfl) ?_
  intro p e s m args below meth c ls A C hP hD hl _
  have hl : lv_has ls 1 [(0, .ref a_this)] := hl
  exact X0_mouths_b0_ok C a_this a_this_traits a_this_hated v_this_speaks v_this_hears n_r v_this_mouths hf s.heap [] ls hP hD va_S.rf hl
def X0_setAtOdds_B (cI cJ cB cO : ClassId) (a_this a_this_traits a_this_hated : Nat) (v_this_mouths v_this_speaks v_this_hears : Int32) (n_this_hated : Nat → Int32) : va_W → Prop := fun w1 => w1 = [(a_this, .inr (0, [.ref a_this_traits, .ref a_this_hated, .int v_this_mouths, .int v_this_speaks, .int v_this_hears])), (a_this_hated, .inl (cI, 7, .inl n_this_hated))]
abbrev X0_setAtOdds_rm : Room := { frames := 1, cells := 0, slots := 0, locals := 21 }
set_option maxHeartbeats 4000000 in
set_option maxRecDepth 100000 in
theorem X0_setAtOdds_b0_ok {p : Program} {l : Launch} {e : Env} {s : State} {m : MethodId} {args : Array Value} {below : List Frame} {meth : Method} {c : Code} {D : va_G} {cI cJ cB cO : ClassId} {tM tS : Nat} {A : Nat → Prop} (C : gx_X p s m args meth c cX0_setAtOdds 3 (some .boolean) RX0 D cI cJ cB cO tM tS A) (a_this a_this_traits a_this_hated : Nat) (v_this_speaks v_this_hears : Int32) (n_r : Int32) (n_this_hated : Nat → Int32)  : ∀ (x1 x2 v_this_mouths : Int32) (v_this_hated : Nat → Int32) , X0_setAtOdds x1 x2 v_this_mouths v_this_hated = some (n_r, n_this_hated) → gx_Wt p l e X0_setAtOdds_rm s m args below meth c (MQ below (gx_Q D A (X0_setAtOdds_B cI cJ cB cO a_this a_this_traits a_this_hated v_this_mouths v_this_speaks v_this_hears n_this_hated) (some (.int n_r))) args s 0 0 A) D A 3 [(a_this, .inr (0, [.ref a_this_traits, .ref a_this_hated, .int v_this_mouths, .int v_this_speaks, .int v_this_hears])), (a_this_hated, .inl (cI, 7, .inl v_this_hated))] [(0, .ref a_this), (1, .int x1), (2, .int x2)] 0 [] := by
  intro x1 x2 v_this_mouths v_this_hated hf H locs ls hP hD hS hl
  obtain ⟨hx, hb, hr, hml, hown, hW, hlocks, hE, hA⟩ := id C
  unfold X0_setAtOdds at hf
  refine lv_aload_n hx hb dX0_setAtOdds_0 rfl (lv_at hl 0 rfl) ?_
  refine lv_iload_n hx hb dX0_setAtOdds_1 rfl (lv_at hl 1 rfl) ?_
  obtain ⟨r1, hg, hf⟩ := gx_bs hf
  refine gx_V (As := [.int x1]) (rest := []) (st1 := [.int r1]) (cells1 := 0) (slots1 := 0) (wc := [(a_this, .inr (0, [.ref a_this_traits, .ref a_this_hated, .int v_this_mouths, .int v_this_speaks, .int v_this_hears]))]) (wr := [(a_this_hated, .inl (cI, 7, .inl v_this_hated))]) ⟨hx, hb, hml, hown, hW⟩ (X0_has_ok l D cI cJ cB cO tM tS a_this a_this_traits a_this_hated v_this_mouths v_this_speaks v_this_hears x1 r1 hg) yk_X0_has tw_297 yv_X0_has ⟨rfl, rfl⟩ ⟨Nat.le_of_ble_eq_true rfl, Nat.le_of_ble_eq_true rfl⟩ hE hP hD hS hA [0] [1] rfl rfl (by decide +kernel) (by decide +kernel) rfl (by decide +kernel) (ci := 0) rfl rfl rfl hl.1 (Nat.le_of_ble_eq_true rfl) rfl rfl dX0_setAtOdds_2 ⟨Nat.le_of_ble_eq_true rfl, Nat.le_of_ble_eq_true rfl⟩ ⟨rfl, rfl⟩ (fun w1 H locs hB hP hD hS => ?_)
  obtain rfl := hB
  have hP : va_P D gx_cl [(a_this, .inr (0, [.ref a_this_traits, .ref a_this_hated, .int v_this_mouths, .int v_this_speaks, .int v_this_hears])), (a_this_hated, .inl (cI, 7, .inl v_this_hated))] H := hP.sub [1, 0] rfl
  have hD : va_D A [(a_this, .inr (0, [.ref a_this_traits, .ref a_this_hated, .int v_this_mouths, .int v_this_speaks, .int v_this_hears])), (a_this_hated, .inl (cI, 7, .inl v_this_hated))] := hD.sub [1, 0] (by decide +kernel) rfl
  refine lv_if_eq (tgt := 21) hx hb dX0_setAtOdds_5 (by decide) (fun hc => ?_) (fun hc => ?_)
  · have hf := gx_t hf hc
    refine lv_iconst (v := 0) hx hb dX0_setAtOdds_21 (by decide) ?_
    cases hf
    exact gx_zret hx hb hr hlocks (by decide) rfl hP hD hS dX0_setAtOdds_22
  · have hf := gx_f hf hc
    refine lv_aload_n hx hb dX0_setAtOdds_8 rfl (lv_at hl 0 rfl) ?_
    refine lv_iload_n hx hb dX0_setAtOdds_9 rfl (lv_at hl 2 rfl) ?_
    obtain ⟨r2, hg, hf⟩ := gx_bs hf
    refine gx_V (As := [.int x2]) (rest := []) (st1 := [.int r2]) (cells1 := 0) (slots1 := 0) (wc := [(a_this, .inr (0, [.ref a_this_traits, .ref a_this_hated, .int v_this_mouths, .int v_this_speaks, .int v_this_hears]))]) (wr := [(a_this_hated, .inl (cI, 7, .inl v_this_hated))]) ⟨hx, hb, hml, hown, hW⟩ (X0_has_ok l D cI cJ cB cO tM tS a_this a_this_traits a_this_hated v_this_mouths v_this_speaks v_this_hears x2 r2 hg) yk_X0_has tw_297 yv_X0_has ⟨rfl, rfl⟩ ⟨Nat.le_of_ble_eq_true rfl, Nat.le_of_ble_eq_true rfl⟩ hE hP hD hS hA [0] [1] rfl rfl (by decide +kernel) (by decide +kernel) rfl (by decide +kernel) (ci := 0) rfl rfl rfl hl.1 (Nat.le_of_ble_eq_true rfl) rfl rfl dX0_setAtOdds_10 ⟨Nat.le_of_ble_eq_true rfl, Nat.le_of_ble_eq_true rfl⟩ ⟨rfl, rfl⟩ (fun w1 H locs hB hP hD hS => ?_)
    obtain rfl := hB
    have hP : va_P D gx_cl [(a_this, .inr (0, [.ref a_this_traits, .ref a_this_hated, .int v_this_mouths, .int v_this_speaks, .int v_this_hears])), (a_this_hated, .inl (cI, 7, .inl v_this_hated))] H := hP.sub [1, 0] rfl
    have hD : va_D A [(a_this, .inr (0, [.ref a_this_traits, .ref a_this_hated, .int v_this_mouths, .int v_this_speaks, .int v_this_hears])), (a_this_hated, .inl (cI, 7, .inl v_this_hated))] := hD.sub [1, 0] (by decide +kernel) rfl
    refine lv_if_eq (tgt := 21) hx hb dX0_setAtOdds_13 (by decide) (fun hc => ?_) (fun hc => ?_)
    · have hf := gx_t hf hc
      refine lv_iconst (v := 0) hx hb dX0_setAtOdds_21 (by decide) ?_
      cases hf
      exact gx_zret hx hb hr hlocks (by decide) rfl hP hD hS dX0_setAtOdds_22
    · have hf := gx_f hf hc
      refine lv_iload_n hx hb dX0_setAtOdds_16 rfl (lv_at hl 1 rfl) ?_
      refine lv_iload_n hx hb dX0_setAtOdds_17 rfl (lv_at hl 2 rfl) ?_
      refine lv_icmp_ne (tgt := 23) hx hb dX0_setAtOdds_18 (by decide) (fun hc => ?_) (fun hc => ?_)
      · have hf := gx_f hf hc
        refine lv_aload_n hx hb dX0_setAtOdds_23 rfl (lv_at hl 0 rfl) ?_
        refine va_get (D := D) (ci := 0) (v := .ref a_this_hated) (C := RX0) (T := TX0) (N := 5) hx hb hW in_X0 hown hE.1 hP 0 rfl rfl 1 (by decide) (hW _ tw_175) (fun _ h9 => h9) rfl dX0_setAtOdds_24 ?_
        refine lv_iload_n hx hb dX0_setAtOdds_27 rfl (lv_at hl 1 rfl) ?_
        refine lv_dup2_11 hx hb dX0_setAtOdds_28 rfl rfl ?_
        obtain ⟨h3, hf⟩ := gx_ite hf
        refine va_iald hx hb hE.1 hP 1 0 rfl rfl h3 dX0_setAtOdds_29 ?_
        refine lv_iconst (v := 1) hx hb dX0_setAtOdds_30 (by decide) ?_
        refine lv_iload_n hx hb dX0_setAtOdds_31 rfl (lv_at hl 2 rfl) ?_
        refine lv_ishl hx hb dX0_setAtOdds_32 ?_
        refine lv_ior hx hb dX0_setAtOdds_33 ?_
        obtain ⟨h4, hf⟩ := gx_ite hf
        refine va_iast hx hb hE.1 hP hD hS 1 0 rfl rfl h4 dX0_setAtOdds_34 (fun H locs hP hD hS => ?_)
        have hP : va_P D gx_cl [(a_this, .inr (0, [.ref a_this_traits, .ref a_this_hated, .int v_this_mouths, .int v_this_speaks, .int v_this_hears])), (a_this_hated, .inl (cI, 7, .inl (upd v_this_hated x1.toNatClampNeg ((v_this_hated x1.toNatClampNeg) ||| ((1 : Int32) <<< (x2 &&& 31))))))] H := hP
        have hD : va_D A [(a_this, .inr (0, [.ref a_this_traits, .ref a_this_hated, .int v_this_mouths, .int v_this_speaks, .int v_this_hears])), (a_this_hated, .inl (cI, 7, .inl (upd v_this_hated x1.toNatClampNeg ((v_this_hated x1.toNatClampNeg) ||| ((1 : Int32) <<< (x2 &&& 31))))))] := hD
        refine lv_aload_n hx hb dX0_setAtOdds_35 rfl (lv_at hl 0 rfl) ?_
        refine va_get (D := D) (ci := 0) (v := .ref a_this_hated) (C := RX0) (T := TX0) (N := 5) hx hb hW in_X0 hown hE.1 hP 0 rfl rfl 1 (by decide) (hW _ tw_175) (fun _ h9 => h9) rfl dX0_setAtOdds_36 ?_
        refine lv_iload_n hx hb dX0_setAtOdds_39 rfl (lv_at hl 2 rfl) ?_
        refine lv_dup2_11 hx hb dX0_setAtOdds_40 rfl rfl ?_
        obtain ⟨h5, hf⟩ := gx_ite hf
        refine va_iald hx hb hE.1 hP 1 0 rfl rfl h5 dX0_setAtOdds_41 ?_
        refine lv_iconst (v := 1) hx hb dX0_setAtOdds_42 (by decide) ?_
        refine lv_iload_n hx hb dX0_setAtOdds_43 rfl (lv_at hl 1 rfl) ?_
        refine lv_ishl hx hb dX0_setAtOdds_44 ?_
        refine lv_ior hx hb dX0_setAtOdds_45 ?_
        obtain ⟨h6, hf⟩ := gx_ite hf
        refine va_iast hx hb hE.1 hP hD hS 1 0 rfl rfl h6 dX0_setAtOdds_46 (fun H locs hP hD hS => ?_)
        have hP : va_P D gx_cl [(a_this, .inr (0, [.ref a_this_traits, .ref a_this_hated, .int v_this_mouths, .int v_this_speaks, .int v_this_hears])), (a_this_hated, .inl (cI, 7, .inl (upd (upd v_this_hated x1.toNatClampNeg ((v_this_hated x1.toNatClampNeg) ||| ((1 : Int32) <<< (x2 &&& 31)))) x2.toNatClampNeg (((upd v_this_hated x1.toNatClampNeg ((v_this_hated x1.toNatClampNeg) ||| ((1 : Int32) <<< (x2 &&& 31)))) x2.toNatClampNeg) ||| ((1 : Int32) <<< (x1 &&& 31))))))] H := hP
        have hD : va_D A [(a_this, .inr (0, [.ref a_this_traits, .ref a_this_hated, .int v_this_mouths, .int v_this_speaks, .int v_this_hears])), (a_this_hated, .inl (cI, 7, .inl (upd (upd v_this_hated x1.toNatClampNeg ((v_this_hated x1.toNatClampNeg) ||| ((1 : Int32) <<< (x2 &&& 31)))) x2.toNatClampNeg (((upd v_this_hated x1.toNatClampNeg ((v_this_hated x1.toNatClampNeg) ||| ((1 : Int32) <<< (x2 &&& 31)))) x2.toNatClampNeg) ||| ((1 : Int32) <<< (x1 &&& 31))))))] := hD
        refine lv_iconst (v := 1) hx hb dX0_setAtOdds_47 (by decide) ?_
        cases hf
        exact gx_zret hx hb hr hlocks (by decide) rfl hP hD hS dX0_setAtOdds_48
      · have hf := gx_t hf hc
        refine lv_iconst (v := 0) hx hb dX0_setAtOdds_21 (by decide) ?_
        cases hf
        exact gx_zret hx hb hr hlocks (by decide) rfl hP hD hS dX0_setAtOdds_22
theorem X0_setAtOdds_ok (l : Launch) (D : va_G) (cI cJ cB cO : ClassId) (tM tS : Nat) (a_this a_this_traits a_this_hated : Nat)  (v_this_mouths v_this_speaks v_this_hears : Int32) (v_this_hated : Nat → Int32) (x1 x2 n_r : Int32) (n_this_hated : Nat → Int32) (hf : X0_setAtOdds x1 x2 v_this_mouths v_this_hated = some (n_r, n_this_hated)) : gx_M l yX0_setAtOdds cX0_setAtOdds 3 (some .boolean) X0_setAtOdds_rm D cI cJ cB cO tM tS [.ref a_this, .int x1, .int x2] [(a_this, .inr (0, [.ref a_this_traits, .ref a_this_hated, .int v_this_mouths, .int v_this_speaks, .int v_this_hears])), (a_this_hated, .inl (cI, 7, .inl v_this_hated))] (X0_setAtOdds_B cI cJ cB cO a_this a_this_traits a_this_hated v_this_mouths v_this_speaks v_this_hears n_this_hated) (some (.int n_r)) 0 0 := by
  refine gx_of (by decide) (Nat.le_of_ble_eq_true rfl) ?_
  intro p e s m args below meth c ls A C hP hD hl _
  have hl : lv_has ls 3 [(0, .ref a_this), (1, .int x1), (2, .int x2)] := hl
  exact X0_setAtOdds_b0_ok C a_this a_this_traits a_this_hated v_this_speaks v_this_hears n_r n_this_hated x1 x2 v_this_mouths v_this_hated hf s.heap [] ls hP hD va_S.rf hl
def X0_speakAndHear_B (cI cJ cB cO : ClassId) (a_this a_this_traits a_this_hated : Nat) (v_this_mouths n_this_speaks n_this_hears : Int32) : va_W → Prop := fun w1 => w1 = [(a_this, .inr (0, [.ref a_this_traits, .ref a_this_hated, .int v_this_mouths, .int n_this_speaks, .int n_this_hears]))]
abbrev X0_speakAndHear_rm : Room := { frames := 1, cells := 0, slots := 0, locals := 20 }
set_option maxHeartbeats 4000000 in
set_option maxRecDepth 100000 in
theorem X0_speakAndHear_b0_ok {p : Program} {l : Launch} {e : Env} {s : State} {m : MethodId} {args : Array Value} {below : List Frame} {meth : Method} {c : Code} {D : va_G} {cI cJ cB cO : ClassId} {tM tS : Nat} {A : Nat → Prop} (C : gx_X p s m args meth c cX0_speakAndHear 3 (some .boolean) RX0 D cI cJ cB cO tM tS A) (a_this a_this_traits a_this_hated : Nat) (v_this_mouths : Int32) (n_r n_this_speaks n_this_hears : Int32)  : ∀ (x1 x2 v_this_speaks v_this_hears : Int32) , X0_speakAndHear x1 x2 v_this_speaks v_this_hears = some (n_r, n_this_speaks, n_this_hears) → gx_Wt p l e X0_speakAndHear_rm s m args below meth c (MQ below (gx_Q D A (X0_speakAndHear_B cI cJ cB cO a_this a_this_traits a_this_hated v_this_mouths n_this_speaks n_this_hears) (some (.int n_r))) args s 0 0 A) D A 3 [(a_this, .inr (0, [.ref a_this_traits, .ref a_this_hated, .int v_this_mouths, .int v_this_speaks, .int v_this_hears]))] [(0, .ref a_this), (1, .int x1), (2, .int x2)] 0 [] := by
  intro x1 x2 v_this_speaks v_this_hears hf H locs ls hP hD hS hl
  obtain ⟨hx, hb, hr, hml, hown, hW, hlocks, hE, hA⟩ := id C
  unfold X0_speakAndHear at hf
  refine lv_iload_n hx hb dX0_speakAndHear_0 rfl (lv_at hl 1 rfl) ?_
  obtain ⟨r1, hg, hf⟩ := gx_bs hf
  refine gx_Sc (As := [.int x1]) (rest := []) (st1 := [.int r1]) (cells1 := 0) (slots1 := 0) (wc := []) (wr := [(a_this, .inr (0, [.ref a_this_traits, .ref a_this_hated, .int v_this_mouths, .int v_this_speaks, .int v_this_hears]))]) ⟨hx, hb, hml, hown, hW⟩ (X0_isTongue_ok l D cI cJ cB cO tM tS x1 r1 hg) yk_X0_isTongue tw_194 tw_195 ⟨rfl, rfl⟩ ⟨Nat.le_of_ble_eq_true rfl, Nat.le_of_ble_eq_true rfl⟩ hE hP hD hS hA [] [0] rfl rfl (by decide +kernel) (by decide +kernel) rfl (by decide +kernel) rfl hl.1 (Nat.le_of_ble_eq_true rfl) rfl rfl dX0_speakAndHear_1 ⟨Nat.le_of_ble_eq_true rfl, Nat.le_of_ble_eq_true rfl⟩ ⟨rfl, rfl⟩ (fun w1 H locs hB hP hD hS => ?_)
  obtain rfl := hB
  have hP : va_P D gx_cl [(a_this, .inr (0, [.ref a_this_traits, .ref a_this_hated, .int v_this_mouths, .int v_this_speaks, .int v_this_hears]))] H := hP
  have hD : va_D A [(a_this, .inr (0, [.ref a_this_traits, .ref a_this_hated, .int v_this_mouths, .int v_this_speaks, .int v_this_hears]))] := hD
  refine lv_if_eq (tgt := 14) hx hb dX0_speakAndHear_4 (by decide) (fun hc => ?_) (fun hc => ?_)
  · have hf := gx_t hf hc
    refine lv_iconst (v := 0) hx hb dX0_speakAndHear_14 (by decide) ?_
    cases hf
    exact gx_zret hx hb hr hlocks (by decide) rfl hP hD hS dX0_speakAndHear_15
  · have hf := gx_f hf hc
    refine lv_iload_n hx hb dX0_speakAndHear_7 rfl (lv_at hl 2 rfl) ?_
    obtain ⟨r2, hg, hf⟩ := gx_bs hf
    refine gx_Sc (As := [.int x2]) (rest := []) (st1 := [.int r2]) (cells1 := 0) (slots1 := 0) (wc := []) (wr := [(a_this, .inr (0, [.ref a_this_traits, .ref a_this_hated, .int v_this_mouths, .int v_this_speaks, .int v_this_hears]))]) ⟨hx, hb, hml, hown, hW⟩ (X0_isTongue_ok l D cI cJ cB cO tM tS x2 r2 hg) yk_X0_isTongue tw_194 tw_195 ⟨rfl, rfl⟩ ⟨Nat.le_of_ble_eq_true rfl, Nat.le_of_ble_eq_true rfl⟩ hE hP hD hS hA [] [0] rfl rfl (by decide +kernel) (by decide +kernel) rfl (by decide +kernel) rfl hl.1 (Nat.le_of_ble_eq_true rfl) rfl rfl dX0_speakAndHear_8 ⟨Nat.le_of_ble_eq_true rfl, Nat.le_of_ble_eq_true rfl⟩ ⟨rfl, rfl⟩ (fun w1 H locs hB hP hD hS => ?_)
    obtain rfl := hB
    have hP : va_P D gx_cl [(a_this, .inr (0, [.ref a_this_traits, .ref a_this_hated, .int v_this_mouths, .int v_this_speaks, .int v_this_hears]))] H := hP
    have hD : va_D A [(a_this, .inr (0, [.ref a_this_traits, .ref a_this_hated, .int v_this_mouths, .int v_this_speaks, .int v_this_hears]))] := hD
    refine lv_if_ne (tgt := 16) hx hb dX0_speakAndHear_11 (by decide) (fun hc => ?_) (fun hc => ?_)
    · have hf := gx_f hf hc
      refine lv_aload_n hx hb dX0_speakAndHear_16 rfl (lv_at hl 0 rfl) ?_
      refine lv_iload_n hx hb dX0_speakAndHear_17 rfl (lv_at hl 1 rfl) ?_
      refine va_put (D := D) (ci := 0) (v := .int x1) (ty := tyX0 3) (C := RX0) (T := TX0) (N := 5) hx hb hW in_X0 tyX0 tyX0_ok nmX0 hown hE.1 hP hD hS 0 rfl rfl 3 (by decide) (hW _ tw_177) (fun _ h9 => h9) rfl (by decide +kernel) rfl rfl (Nat.le_of_ble_eq_true rfl) dX0_speakAndHear_18 (fun H locs hP hD hS => ?_)
      have hP : va_P D gx_cl [(a_this, .inr (0, [.ref a_this_traits, .ref a_this_hated, .int v_this_mouths, .int x1, .int v_this_hears]))] H := hP
      have hD : va_D A [(a_this, .inr (0, [.ref a_this_traits, .ref a_this_hated, .int v_this_mouths, .int x1, .int v_this_hears]))] := hD
      refine lv_aload_n hx hb dX0_speakAndHear_21 rfl (lv_at hl 0 rfl) ?_
      refine lv_iload_n hx hb dX0_speakAndHear_22 rfl (lv_at hl 2 rfl) ?_
      refine va_put (D := D) (ci := 0) (v := .int x2) (ty := tyX0 4) (C := RX0) (T := TX0) (N := 5) hx hb hW in_X0 tyX0 tyX0_ok nmX0 hown hE.1 hP hD hS 0 rfl rfl 4 (by decide) (hW _ tw_178) (fun _ h9 => h9) rfl (by decide +kernel) rfl rfl (Nat.le_of_ble_eq_true rfl) dX0_speakAndHear_23 (fun H locs hP hD hS => ?_)
      have hP : va_P D gx_cl [(a_this, .inr (0, [.ref a_this_traits, .ref a_this_hated, .int v_this_mouths, .int x1, .int x2]))] H := hP
      have hD : va_D A [(a_this, .inr (0, [.ref a_this_traits, .ref a_this_hated, .int v_this_mouths, .int x1, .int x2]))] := hD
      refine lv_iconst (v := 1) hx hb dX0_speakAndHear_26 (by decide) ?_
      cases hf
      exact gx_zret hx hb hr hlocks (by decide) rfl hP hD hS dX0_speakAndHear_27
    · have hf := gx_t hf hc
      refine lv_iconst (v := 0) hx hb dX0_speakAndHear_14 (by decide) ?_
      cases hf
      exact gx_zret hx hb hr hlocks (by decide) rfl hP hD hS dX0_speakAndHear_15
theorem X0_speakAndHear_ok (l : Launch) (D : va_G) (cI cJ cB cO : ClassId) (tM tS : Nat) (a_this a_this_traits a_this_hated : Nat)  (v_this_mouths v_this_speaks v_this_hears x1 x2 n_r n_this_speaks n_this_hears : Int32) (hf : X0_speakAndHear x1 x2 v_this_speaks v_this_hears = some (n_r, n_this_speaks, n_this_hears)) : gx_M l yX0_speakAndHear cX0_speakAndHear 3 (some .boolean) X0_speakAndHear_rm D cI cJ cB cO tM tS [.ref a_this, .int x1, .int x2] [(a_this, .inr (0, [.ref a_this_traits, .ref a_this_hated, .int v_this_mouths, .int v_this_speaks, .int v_this_hears]))] (X0_speakAndHear_B cI cJ cB cO a_this a_this_traits a_this_hated v_this_mouths n_this_speaks n_this_hears) (some (.int n_r)) 0 0 := by
  refine gx_of (by decide) (Nat.le_of_ble_eq_true rfl) ?_
  intro p e s m args below meth c ls A C hP hD hl _
  have hl : lv_has ls 3 [(0, .ref a_this), (1, .int x1), (2, .int x2)] := hl
  exact X0_speakAndHear_b0_ok C a_this a_this_traits a_this_hated v_this_mouths n_r n_this_speaks n_this_hears x1 x2 v_this_speaks v_this_hears hf s.heap [] ls hP hD va_S.rf hl
def X0_speaks_B (cI cJ cB cO : ClassId) (a_this a_this_traits a_this_hated : Nat) (v_this_mouths v_this_speaks v_this_hears : Int32) : va_W → Prop := fun w1 => w1 = [(a_this, .inr (0, [.ref a_this_traits, .ref a_this_hated, .int v_this_mouths, .int v_this_speaks, .int v_this_hears]))]
abbrev X0_speaks_rm : Room := { frames := 0, cells := 0, slots := 0, locals := 0 }
set_option maxHeartbeats 4000000 in
set_option maxRecDepth 100000 in
theorem X0_speaks_b0_ok {p : Program} {l : Launch} {e : Env} {s : State} {m : MethodId} {args : Array Value} {below : List Frame} {meth : Method} {c : Code} {D : va_G} {cI cJ cB cO : ClassId} {tM tS : Nat} {A : Nat → Prop} (C : gx_X p s m args meth c cX0_speaks 1 (some .int) RX0 D cI cJ cB cO tM tS A) (a_this a_this_traits a_this_hated : Nat) (v_this_mouths v_this_hears : Int32) (n_r : Int32)  : ∀ (v_this_speaks : Int32) , X0_speaks v_this_speaks = some n_r → gx_Wt p l e X0_speaks_rm s m args below meth c (MQ below (gx_Q D A (X0_speaks_B cI cJ cB cO a_this a_this_traits a_this_hated v_this_mouths v_this_speaks v_this_hears) (some (.int n_r))) args s 0 0 A) D A 1 [(a_this, .inr (0, [.ref a_this_traits, .ref a_this_hated, .int v_this_mouths, .int v_this_speaks, .int v_this_hears]))] [(0, .ref a_this)] 0 [] := by
  intro v_this_speaks hf H locs ls hP hD hS hl
  obtain ⟨hx, hb, hr, hml, hown, hW, hlocks, hE, hA⟩ := id C
  unfold X0_speaks at hf
  refine lv_aload_n hx hb dX0_speaks_0 rfl (lv_at hl 0 rfl) ?_
  refine va_get (D := D) (ci := 0) (v := .int v_this_speaks) (C := RX0) (T := TX0) (N := 5) hx hb hW in_X0 hown hE.1 hP 0 rfl rfl 3 (by decide) (hW _ tw_177) (fun _ h9 => h9) rfl dX0_speaks_1 ?_
  cases hf
  exact gx_iret hx hb hr hlocks rfl hP hD hS dX0_speaks_4
theorem X0_speaks_ok (l : Launch) (D : va_G) (cI cJ cB cO : ClassId) (tM tS : Nat) (a_this a_this_traits a_this_hated : Nat)  (v_this_mouths v_this_speaks v_this_hears n_r : Int32) (hf : X0_speaks v_this_speaks = some n_r) : gx_M l yX0_speaks cX0_speaks 1 (some .int) X0_speaks_rm D cI cJ cB cO tM tS [.ref a_this] [(a_this, .inr (0, [.ref a_this_traits, .ref a_this_hated, .int v_this_mouths, .int v_this_speaks, .int v_this_hears]))] (X0_speaks_B cI cJ cB cO a_this a_this_traits a_this_hated v_this_mouths v_this_speaks v_this_hears) (some (.int n_r)) 0 0 := by
  refine gx_of (by decide) (Nat.le_of_ble_eq_true rfl) ?_
  intro p e s m args below meth c ls A C hP hD hl _
  have hl : lv_has ls 1 [(0, .ref a_this)] := hl
  exact X0_speaks_b0_ok C a_this a_this_traits a_this_hated v_this_mouths v_this_hears n_r v_this_speaks hf s.heap [] ls hP hD va_S.rf hl
def X0_trait_B (cI cJ cB cO : ClassId) (a_this a_this_traits a_this_hated : Nat) (v_this_mouths v_this_speaks v_this_hears : Int32) (v_this_traits : Nat → Int32) : va_W → Prop := fun w1 => w1 = [(a_this, .inr (0, [.ref a_this_traits, .ref a_this_hated, .int v_this_mouths, .int v_this_speaks, .int v_this_hears])), (a_this_traits, .inl (cI, 35, .inl v_this_traits))]
abbrev X0_trait_rm : Room := { frames := 1, cells := 0, slots := 0, locals := 21 }
set_option maxHeartbeats 4000000 in
set_option maxRecDepth 100000 in
theorem X0_trait_b0_ok {p : Program} {l : Launch} {e : Env} {s : State} {m : MethodId} {args : Array Value} {below : List Frame} {meth : Method} {c : Code} {D : va_G} {cI cJ cB cO : ClassId} {tM tS : Nat} {A : Nat → Prop} (C : gx_X p s m args meth c cX0_trait 3 (some .int) RX0 D cI cJ cB cO tM tS A) (a_this a_this_traits a_this_hated : Nat) (v_this_speaks v_this_hears : Int32) (n_r : Int32)  : ∀ (x1 x2 v_this_mouths : Int32) (v_this_traits : Nat → Int32) , X0_trait x1 x2 v_this_mouths v_this_traits = some n_r → gx_Wt p l e X0_trait_rm s m args below meth c (MQ below (gx_Q D A (X0_trait_B cI cJ cB cO a_this a_this_traits a_this_hated v_this_mouths v_this_speaks v_this_hears v_this_traits) (some (.int n_r))) args s 0 0 A) D A 3 [(a_this, .inr (0, [.ref a_this_traits, .ref a_this_hated, .int v_this_mouths, .int v_this_speaks, .int v_this_hears])), (a_this_traits, .inl (cI, 35, .inl v_this_traits))] [(0, .ref a_this), (1, .int x1), (2, .int x2)] 0 [] := by
  intro x1 x2 v_this_mouths v_this_traits hf H locs ls hP hD hS hl
  obtain ⟨hx, hb, hr, hml, hown, hW, hlocks, hE, hA⟩ := id C
  unfold X0_trait at hf
  refine lv_aload_n hx hb dX0_trait_0 rfl (lv_at hl 0 rfl) ?_
  refine lv_iload_n hx hb dX0_trait_1 rfl (lv_at hl 1 rfl) ?_
  obtain ⟨r1, hg, hf⟩ := gx_bs hf
  refine gx_V (As := [.int x1]) (rest := []) (st1 := [.int r1]) (cells1 := 0) (slots1 := 0) (wc := [(a_this, .inr (0, [.ref a_this_traits, .ref a_this_hated, .int v_this_mouths, .int v_this_speaks, .int v_this_hears]))]) (wr := [(a_this_traits, .inl (cI, 35, .inl v_this_traits))]) ⟨hx, hb, hml, hown, hW⟩ (X0_has_ok l D cI cJ cB cO tM tS a_this a_this_traits a_this_hated v_this_mouths v_this_speaks v_this_hears x1 r1 hg) yk_X0_has tw_297 yv_X0_has ⟨rfl, rfl⟩ ⟨Nat.le_of_ble_eq_true rfl, Nat.le_of_ble_eq_true rfl⟩ hE hP hD hS hA [0] [1] rfl rfl (by decide +kernel) (by decide +kernel) rfl (by decide +kernel) (ci := 0) rfl rfl rfl hl.1 (Nat.le_of_ble_eq_true rfl) rfl rfl dX0_trait_2 ⟨Nat.le_of_ble_eq_true rfl, Nat.le_of_ble_eq_true rfl⟩ ⟨rfl, rfl⟩ (fun w1 H locs hB hP hD hS => ?_)
  obtain rfl := hB
  have hP : va_P D gx_cl [(a_this, .inr (0, [.ref a_this_traits, .ref a_this_hated, .int v_this_mouths, .int v_this_speaks, .int v_this_hears])), (a_this_traits, .inl (cI, 35, .inl v_this_traits))] H := hP.sub [1, 0] rfl
  have hD : va_D A [(a_this, .inr (0, [.ref a_this_traits, .ref a_this_hated, .int v_this_mouths, .int v_this_speaks, .int v_this_hears])), (a_this_traits, .inl (cI, 35, .inl v_this_traits))] := hD.sub [1, 0] (by decide +kernel) rfl
  refine lv_if_eq (tgt := 17) hx hb dX0_trait_5 (by decide) (fun hc => ?_) (fun hc => ?_)
  · have hf := gx_t hf hc
    refine lv_iconst (v := -1) hx hb dX0_trait_17 (by decide) ?_
    cases hf
    exact gx_iret hx hb hr hlocks rfl hP hD hS dX0_trait_18
  · have hf := gx_f hf hc
    refine lv_iload_n hx hb dX0_trait_8 rfl (lv_at hl 2 rfl) ?_
    refine lv_if_lt (tgt := 17) hx hb dX0_trait_9 (by decide) (fun hc => ?_) (fun hc => ?_)
    · have hf := gx_t hf hc
      refine lv_iconst (v := -1) hx hb dX0_trait_17 (by decide) ?_
      cases hf
      exact gx_iret hx hb hr hlocks rfl hP hD hS dX0_trait_18
    · have hf := gx_f hf hc
      refine lv_iload_n hx hb dX0_trait_12 rfl (lv_at hl 2 rfl) ?_
      refine lv_iconst (v := 5) hx hb dX0_trait_13 (by decide) ?_
      refine lv_icmp_lt (tgt := 19) hx hb dX0_trait_14 (by decide) (fun hc => ?_) (fun hc => ?_)
      · have hf := gx_t hf hc
        refine lv_aload_n hx hb dX0_trait_19 rfl (lv_at hl 0 rfl) ?_
        refine va_get (D := D) (ci := 0) (v := .ref a_this_traits) (C := RX0) (T := TX0) (N := 5) hx hb hW in_X0 hown hE.1 hP 0 rfl rfl 0 (by decide) (hW _ tw_174) (fun _ h9 => h9) rfl dX0_trait_20 ?_
        refine lv_iload_n hx hb dX0_trait_23 rfl (lv_at hl 1 rfl) ?_
        refine lv_iconst (v := 5) hx hb dX0_trait_24 (by decide) ?_
        refine lv_imul hx hb dX0_trait_25 ?_
        refine lv_iload_n hx hb dX0_trait_26 rfl (lv_at hl 2 rfl) ?_
        refine lv_iadd hx hb dX0_trait_27 ?_
        obtain ⟨h2, hf⟩ := gx_ite hf
        refine va_iald hx hb hE.1 hP 1 0 rfl rfl h2 dX0_trait_28 ?_
        cases hf
        exact gx_iret hx hb hr hlocks rfl hP hD hS dX0_trait_29
      · have hf := gx_f hf hc
        refine lv_iconst (v := -1) hx hb dX0_trait_17 (by decide) ?_
        cases hf
        exact gx_iret hx hb hr hlocks rfl hP hD hS dX0_trait_18
theorem X0_trait_ok (l : Launch) (D : va_G) (cI cJ cB cO : ClassId) (tM tS : Nat) (a_this a_this_traits a_this_hated : Nat)  (v_this_mouths v_this_speaks v_this_hears : Int32) (v_this_traits : Nat → Int32) (x1 x2 n_r : Int32) (hf : X0_trait x1 x2 v_this_mouths v_this_traits = some n_r) : gx_M l yX0_trait cX0_trait 3 (some .int) X0_trait_rm D cI cJ cB cO tM tS [.ref a_this, .int x1, .int x2] [(a_this, .inr (0, [.ref a_this_traits, .ref a_this_hated, .int v_this_mouths, .int v_this_speaks, .int v_this_hears])), (a_this_traits, .inl (cI, 35, .inl v_this_traits))] (X0_trait_B cI cJ cB cO a_this a_this_traits a_this_hated v_this_mouths v_this_speaks v_this_hears v_this_traits) (some (.int n_r)) 0 0 := by
  refine gx_of (by decide) (Nat.le_of_ble_eq_true rfl) ?_
  intro p e s m args below meth c ls A C hP hD hl _
  have hl : lv_has ls 3 [(0, .ref a_this), (1, .int x1), (2, .int x2)] := hl
  exact X0_trait_b0_ok C a_this a_this_traits a_this_hated v_this_speaks v_this_hears n_r x1 x2 v_this_mouths v_this_traits hf s.heap [] ls hP hD va_S.rf hl
def X1_clear_B (cI cJ cB cO : ClassId) (a_this a_this_seats a_this_words : Nat) (n_this_seated n_this_spoken : Int32) : va_W → Prop := fun w1 => w1 = [(a_this, .inr (1, [.ref a_this_seats, .ref a_this_words, .int n_this_seated, .int n_this_spoken]))]
abbrev X1_clear_rm : Room := { frames := 0, cells := 0, slots := 0, locals := 0 }
set_option maxHeartbeats 4000000 in
set_option maxRecDepth 100000 in
theorem X1_clear_b0_ok {p : Program} {l : Launch} {e : Env} {s : State} {m : MethodId} {args : Array Value} {below : List Frame} {meth : Method} {c : Code} {D : va_G} {cI cJ cB cO : ClassId} {tM tS : Nat} {A : Nat → Prop} (C : gx_X p s m args meth c cX1_clear 1 none RX1 D cI cJ cB cO tM tS A) (a_this a_this_seats a_this_words : Nat) (n_this_seated n_this_spoken : Int32)  : ∀ (v_this_seated v_this_spoken : Int32) , X1_clear v_this_seated v_this_spoken = some (n_this_seated, n_this_spoken) → gx_Wt p l e X1_clear_rm s m args below meth c (MQ below (gx_Q D A (X1_clear_B cI cJ cB cO a_this a_this_seats a_this_words n_this_seated n_this_spoken) none) args s 0 0 A) D A 1 [(a_this, .inr (1, [.ref a_this_seats, .ref a_this_words, .int v_this_seated, .int v_this_spoken]))] [(0, .ref a_this)] 0 [] := by
  intro v_this_seated v_this_spoken hf H locs ls hP hD hS hl
  obtain ⟨hx, hb, hr, hml, hown, hW, hlocks, hE, hA⟩ := id C
  unfold X1_clear at hf
  refine lv_aload_n hx hb dX1_clear_0 rfl (lv_at hl 0 rfl) ?_
  refine lv_iconst (v := 0) hx hb dX1_clear_1 (by decide) ?_
  refine va_put (D := D) (ci := 1) (v := .int (0 : Int32)) (ty := tyX1 2) (C := RX1) (T := TX1) (N := 4) hx hb hW in_X1 tyX1 tyX1_ok nmX1 hown hE.1 hP hD hS 0 rfl rfl 2 (by decide) (hW _ tw_88) (fun _ h9 => h9) rfl (by decide +kernel) rfl rfl (Nat.le_of_ble_eq_true rfl) dX1_clear_2 (fun H locs hP hD hS => ?_)
  have hP : va_P D gx_cl [(a_this, .inr (1, [.ref a_this_seats, .ref a_this_words, .int (0 : Int32), .int v_this_spoken]))] H := hP
  have hD : va_D A [(a_this, .inr (1, [.ref a_this_seats, .ref a_this_words, .int (0 : Int32), .int v_this_spoken]))] := hD
  refine lv_aload_n hx hb dX1_clear_5 rfl (lv_at hl 0 rfl) ?_
  refine lv_iconst (v := 0) hx hb dX1_clear_6 (by decide) ?_
  refine va_put (D := D) (ci := 1) (v := .int (0 : Int32)) (ty := tyX1 3) (C := RX1) (T := TX1) (N := 4) hx hb hW in_X1 tyX1 tyX1_ok nmX1 hown hE.1 hP hD hS 0 rfl rfl 3 (by decide) (hW _ tw_89) (fun _ h9 => h9) rfl (by decide +kernel) rfl rfl (Nat.le_of_ble_eq_true rfl) dX1_clear_7 (fun H locs hP hD hS => ?_)
  have hP : va_P D gx_cl [(a_this, .inr (1, [.ref a_this_seats, .ref a_this_words, .int (0 : Int32), .int (0 : Int32)]))] H := hP
  have hD : va_D A [(a_this, .inr (1, [.ref a_this_seats, .ref a_this_words, .int (0 : Int32), .int (0 : Int32)]))] := hD
  cases hf
  exact gx_vret hx hb hr hlocks rfl hP hD hS dX1_clear_10
theorem X1_clear_ok (l : Launch) (D : va_G) (cI cJ cB cO : ClassId) (tM tS : Nat) (a_this a_this_seats a_this_words : Nat)  (v_this_seated v_this_spoken n_this_seated n_this_spoken : Int32) (hf : X1_clear v_this_seated v_this_spoken = some (n_this_seated, n_this_spoken)) : gx_M l yX1_clear cX1_clear 1 none X1_clear_rm D cI cJ cB cO tM tS [.ref a_this] [(a_this, .inr (1, [.ref a_this_seats, .ref a_this_words, .int v_this_seated, .int v_this_spoken]))] (X1_clear_B cI cJ cB cO a_this a_this_seats a_this_words n_this_seated n_this_spoken) none 0 0 := by
  refine gx_of (by decide) (Nat.le_of_ble_eq_true rfl) ?_
  intro p e s m args below meth c ls A C hP hD hl _
  have hl : lv_has ls 1 [(0, .ref a_this)] := hl
  exact X1_clear_b0_ok C a_this a_this_seats a_this_words n_this_seated n_this_spoken v_this_seated v_this_spoken hf s.heap [] ls hP hD va_S.rf hl
def X1_copyFrom_B (cI cJ cB cO : ClassId) (a_this a_this_seats a_this_words a_p1 a_p1_seats a_p1_words : Nat) (v_p1_seated v_p1_spoken : Int32) (v_p1_seats v_p1_words : Nat → Int32) (n_this_seated n_this_spoken : Int32) (n_this_seats n_this_words : Nat → Int32) : va_W → Prop := fun w1 => w1 = [(a_this, .inr (1, [.ref a_this_seats, .ref a_this_words, .int n_this_seated, .int n_this_spoken])), (a_this_seats, .inl (cI, 7, .inl n_this_seats)), (a_this_words, .inl (cI, 12, .inl n_this_words)), (a_p1, .inr (1, [.ref a_p1_seats, .ref a_p1_words, .int v_p1_seated, .int v_p1_spoken])), (a_p1_seats, .inl (cI, 7, .inl v_p1_seats)), (a_p1_words, .inl (cI, 12, .inl v_p1_words))]
abbrev X1_copyFrom_rm : Room := { frames := 1, cells := 0, slots := 0, locals := 40 }
set_option maxHeartbeats 4000000 in
set_option maxRecDepth 100000 in
theorem X1_copyFrom_b0_ok {p : Program} {l : Launch} {e : Env} {s : State} {m : MethodId} {args : Array Value} {below : List Frame} {meth : Method} {c : Code} {D : va_G} {cI cJ cB cO : ClassId} {tM tS : Nat} {A : Nat → Prop} (C : gx_X p s m args meth c cX1_copyFrom 2 none RX1 D cI cJ cB cO tM tS A) (a_this a_this_seats a_this_words a_p1 a_p1_seats a_p1_words : Nat) (n_this_seated n_this_spoken : Int32) (n_this_seats n_this_words : Nat → Int32)  : ∀ (v_this_seated v_this_spoken : Int32) (v_this_seats v_this_words : Nat → Int32) (v_p1_seated v_p1_spoken : Int32) (v_p1_seats v_p1_words : Nat → Int32) , X1_copyFrom v_this_seated v_this_spoken v_this_seats v_this_words v_p1_seated v_p1_spoken v_p1_seats v_p1_words = some (n_this_seated, n_this_spoken, n_this_seats, n_this_words) → gx_Wt p l e X1_copyFrom_rm s m args below meth c (MQ below (gx_Q D A (X1_copyFrom_B cI cJ cB cO a_this a_this_seats a_this_words a_p1 a_p1_seats a_p1_words v_p1_seated v_p1_spoken v_p1_seats v_p1_words n_this_seated n_this_spoken n_this_seats n_this_words) none) args s 0 0 A) D A 2 [(a_this, .inr (1, [.ref a_this_seats, .ref a_this_words, .int v_this_seated, .int v_this_spoken])), (a_this_seats, .inl (cI, 7, .inl v_this_seats)), (a_this_words, .inl (cI, 12, .inl v_this_words)), (a_p1, .inr (1, [.ref a_p1_seats, .ref a_p1_words, .int v_p1_seated, .int v_p1_spoken])), (a_p1_seats, .inl (cI, 7, .inl v_p1_seats)), (a_p1_words, .inl (cI, 12, .inl v_p1_words))] [(0, .ref a_this), (1, .ref a_p1)] 0 [] := by
  intro v_this_seated v_this_spoken v_this_seats v_this_words v_p1_seated v_p1_spoken v_p1_seats v_p1_words hf H locs ls hP hD hS hl
  obtain ⟨hx, hb, hr, hml, hown, hW, hlocks, hE, hA⟩ := id C
  unfold X1_copyFrom at hf
  refine lv_aload_n hx hb dX1_copyFrom_0 rfl (lv_at hl 1 rfl) ?_
  refine va_get (D := D) (ci := 1) (v := .ref a_p1_seats) (C := RX1) (T := TX1) (N := 4) hx hb hW in_X1 hown hE.1 hP 3 rfl rfl 0 (by decide) (hW _ tw_86) (fun _ h9 => h9) rfl dX1_copyFrom_1 ?_
  refine lv_iconst (v := 0) hx hb dX1_copyFrom_4 (by decide) ?_
  refine lv_aload_n hx hb dX1_copyFrom_5 rfl (lv_at hl 0 rfl) ?_
  refine va_get (D := D) (ci := 1) (v := .ref a_this_seats) (C := RX1) (T := TX1) (N := 4) hx hb hW in_X1 hown hE.1 hP 0 rfl rfl 0 (by decide) (hW _ tw_86) (fun _ h9 => h9) rfl dX1_copyFrom_6 ?_
  refine lv_iconst (v := 0) hx hb dX1_copyFrom_9 (by decide) ?_
  refine lv_bipush (v := 7) hx hb dX1_copyFrom_10 (by decide) ?_
  refine va_copyi hx hb (hml.trans hl.1.symm) hown (hW _ tw_653) (hW _ tw_360) (hW _ tw_359) (hW _ tw_52) hE.1 hP hD hS 4 1 0 0 rfl rfl rfl rfl rfl (by decide) (by decide) (by decide) (by decide) (by decide) (fun _ _ => rfl) (Nat.le_of_ble_eq_true rfl) (Nat.le_of_ble_eq_true rfl) dX1_copyFrom_12 (fun H locs hP hD hS => ?_)
  have hP : va_P D gx_cl [(a_this, .inr (1, [.ref a_this_seats, .ref a_this_words, .int v_this_seated, .int v_this_spoken])), (a_this_seats, .inl (cI, 7, .inl (va_cpy v_p1_seats v_this_seats (0 : Int32).toNatClampNeg (0 : Int32).toNatClampNeg (7 : Int32).toNatClampNeg))), (a_this_words, .inl (cI, 12, .inl v_this_words)), (a_p1, .inr (1, [.ref a_p1_seats, .ref a_p1_words, .int v_p1_seated, .int v_p1_spoken])), (a_p1_seats, .inl (cI, 7, .inl v_p1_seats)), (a_p1_words, .inl (cI, 12, .inl v_p1_words))] H := hP
  have hD : va_D A [(a_this, .inr (1, [.ref a_this_seats, .ref a_this_words, .int v_this_seated, .int v_this_spoken])), (a_this_seats, .inl (cI, 7, .inl (va_cpy v_p1_seats v_this_seats (0 : Int32).toNatClampNeg (0 : Int32).toNatClampNeg (7 : Int32).toNatClampNeg))), (a_this_words, .inl (cI, 12, .inl v_this_words)), (a_p1, .inr (1, [.ref a_p1_seats, .ref a_p1_words, .int v_p1_seated, .int v_p1_spoken])), (a_p1_seats, .inl (cI, 7, .inl v_p1_seats)), (a_p1_words, .inl (cI, 12, .inl v_p1_words))] := hD
  refine lv_aload_n hx hb dX1_copyFrom_15 rfl (lv_at hl 1 rfl) ?_
  refine va_get (D := D) (ci := 1) (v := .ref a_p1_words) (C := RX1) (T := TX1) (N := 4) hx hb hW in_X1 hown hE.1 hP 3 rfl rfl 1 (by decide) (hW _ tw_87) (fun _ h9 => h9) rfl dX1_copyFrom_16 ?_
  refine lv_iconst (v := 0) hx hb dX1_copyFrom_19 (by decide) ?_
  refine lv_aload_n hx hb dX1_copyFrom_20 rfl (lv_at hl 0 rfl) ?_
  refine va_get (D := D) (ci := 1) (v := .ref a_this_words) (C := RX1) (T := TX1) (N := 4) hx hb hW in_X1 hown hE.1 hP 0 rfl rfl 1 (by decide) (hW _ tw_87) (fun _ h9 => h9) rfl dX1_copyFrom_21 ?_
  refine lv_iconst (v := 0) hx hb dX1_copyFrom_24 (by decide) ?_
  refine lv_bipush (v := 12) hx hb dX1_copyFrom_25 (by decide) ?_
  refine va_copyi hx hb (hml.trans hl.1.symm) hown (hW _ tw_653) (hW _ tw_360) (hW _ tw_359) (hW _ tw_52) hE.1 hP hD hS 5 2 0 0 rfl rfl rfl rfl rfl (by decide) (by decide) (by decide) (by decide) (by decide) (fun _ _ => rfl) (Nat.le_of_ble_eq_true rfl) (Nat.le_of_ble_eq_true rfl) dX1_copyFrom_27 (fun H locs hP hD hS => ?_)
  have hP : va_P D gx_cl [(a_this, .inr (1, [.ref a_this_seats, .ref a_this_words, .int v_this_seated, .int v_this_spoken])), (a_this_seats, .inl (cI, 7, .inl (va_cpy v_p1_seats v_this_seats (0 : Int32).toNatClampNeg (0 : Int32).toNatClampNeg (7 : Int32).toNatClampNeg))), (a_this_words, .inl (cI, 12, .inl (va_cpy v_p1_words v_this_words (0 : Int32).toNatClampNeg (0 : Int32).toNatClampNeg (12 : Int32).toNatClampNeg))), (a_p1, .inr (1, [.ref a_p1_seats, .ref a_p1_words, .int v_p1_seated, .int v_p1_spoken])), (a_p1_seats, .inl (cI, 7, .inl v_p1_seats)), (a_p1_words, .inl (cI, 12, .inl v_p1_words))] H := hP
  have hD : va_D A [(a_this, .inr (1, [.ref a_this_seats, .ref a_this_words, .int v_this_seated, .int v_this_spoken])), (a_this_seats, .inl (cI, 7, .inl (va_cpy v_p1_seats v_this_seats (0 : Int32).toNatClampNeg (0 : Int32).toNatClampNeg (7 : Int32).toNatClampNeg))), (a_this_words, .inl (cI, 12, .inl (va_cpy v_p1_words v_this_words (0 : Int32).toNatClampNeg (0 : Int32).toNatClampNeg (12 : Int32).toNatClampNeg))), (a_p1, .inr (1, [.ref a_p1_seats, .ref a_p1_words, .int v_p1_seated, .int v_p1_spoken])), (a_p1_seats, .inl (cI, 7, .inl v_p1_seats)), (a_p1_words, .inl (cI, 12, .inl v_p1_words))] := hD
  refine lv_aload_n hx hb dX1_copyFrom_30 rfl (lv_at hl 0 rfl) ?_
  refine lv_aload_n hx hb dX1_copyFrom_31 rfl (lv_at hl 1 rfl) ?_
  refine va_get (D := D) (ci := 1) (v := .int v_p1_seated) (C := RX1) (T := TX1) (N := 4) hx hb hW in_X1 hown hE.1 hP 3 rfl rfl 2 (by decide) (hW _ tw_88) (fun _ h9 => h9) rfl dX1_copyFrom_32 ?_
  refine va_put (D := D) (ci := 1) (v := .int v_p1_seated) (ty := tyX1 2) (C := RX1) (T := TX1) (N := 4) hx hb hW in_X1 tyX1 tyX1_ok nmX1 hown hE.1 hP hD hS 0 rfl rfl 2 (by decide) (hW _ tw_88) (fun _ h9 => h9) rfl (by decide +kernel) rfl rfl (Nat.le_of_ble_eq_true rfl) dX1_copyFrom_35 (fun H locs hP hD hS => ?_)
  have hP : va_P D gx_cl [(a_this, .inr (1, [.ref a_this_seats, .ref a_this_words, .int v_p1_seated, .int v_this_spoken])), (a_this_seats, .inl (cI, 7, .inl (va_cpy v_p1_seats v_this_seats (0 : Int32).toNatClampNeg (0 : Int32).toNatClampNeg (7 : Int32).toNatClampNeg))), (a_this_words, .inl (cI, 12, .inl (va_cpy v_p1_words v_this_words (0 : Int32).toNatClampNeg (0 : Int32).toNatClampNeg (12 : Int32).toNatClampNeg))), (a_p1, .inr (1, [.ref a_p1_seats, .ref a_p1_words, .int v_p1_seated, .int v_p1_spoken])), (a_p1_seats, .inl (cI, 7, .inl v_p1_seats)), (a_p1_words, .inl (cI, 12, .inl v_p1_words))] H := hP
  have hD : va_D A [(a_this, .inr (1, [.ref a_this_seats, .ref a_this_words, .int v_p1_seated, .int v_this_spoken])), (a_this_seats, .inl (cI, 7, .inl (va_cpy v_p1_seats v_this_seats (0 : Int32).toNatClampNeg (0 : Int32).toNatClampNeg (7 : Int32).toNatClampNeg))), (a_this_words, .inl (cI, 12, .inl (va_cpy v_p1_words v_this_words (0 : Int32).toNatClampNeg (0 : Int32).toNatClampNeg (12 : Int32).toNatClampNeg))), (a_p1, .inr (1, [.ref a_p1_seats, .ref a_p1_words, .int v_p1_seated, .int v_p1_spoken])), (a_p1_seats, .inl (cI, 7, .inl v_p1_seats)), (a_p1_words, .inl (cI, 12, .inl v_p1_words))] := hD
  refine lv_aload_n hx hb dX1_copyFrom_38 rfl (lv_at hl 0 rfl) ?_
  refine lv_aload_n hx hb dX1_copyFrom_39 rfl (lv_at hl 1 rfl) ?_
  refine va_get (D := D) (ci := 1) (v := .int v_p1_spoken) (C := RX1) (T := TX1) (N := 4) hx hb hW in_X1 hown hE.1 hP 3 rfl rfl 3 (by decide) (hW _ tw_89) (fun _ h9 => h9) rfl dX1_copyFrom_40 ?_
  refine va_put (D := D) (ci := 1) (v := .int v_p1_spoken) (ty := tyX1 3) (C := RX1) (T := TX1) (N := 4) hx hb hW in_X1 tyX1 tyX1_ok nmX1 hown hE.1 hP hD hS 0 rfl rfl 3 (by decide) (hW _ tw_89) (fun _ h9 => h9) rfl (by decide +kernel) rfl rfl (Nat.le_of_ble_eq_true rfl) dX1_copyFrom_43 (fun H locs hP hD hS => ?_)
  have hP : va_P D gx_cl [(a_this, .inr (1, [.ref a_this_seats, .ref a_this_words, .int v_p1_seated, .int v_p1_spoken])), (a_this_seats, .inl (cI, 7, .inl (va_cpy v_p1_seats v_this_seats (0 : Int32).toNatClampNeg (0 : Int32).toNatClampNeg (7 : Int32).toNatClampNeg))), (a_this_words, .inl (cI, 12, .inl (va_cpy v_p1_words v_this_words (0 : Int32).toNatClampNeg (0 : Int32).toNatClampNeg (12 : Int32).toNatClampNeg))), (a_p1, .inr (1, [.ref a_p1_seats, .ref a_p1_words, .int v_p1_seated, .int v_p1_spoken])), (a_p1_seats, .inl (cI, 7, .inl v_p1_seats)), (a_p1_words, .inl (cI, 12, .inl v_p1_words))] H := hP
  have hD : va_D A [(a_this, .inr (1, [.ref a_this_seats, .ref a_this_words, .int v_p1_seated, .int v_p1_spoken])), (a_this_seats, .inl (cI, 7, .inl (va_cpy v_p1_seats v_this_seats (0 : Int32).toNatClampNeg (0 : Int32).toNatClampNeg (7 : Int32).toNatClampNeg))), (a_this_words, .inl (cI, 12, .inl (va_cpy v_p1_words v_this_words (0 : Int32).toNatClampNeg (0 : Int32).toNatClampNeg (12 : Int32).toNatClampNeg))), (a_p1, .inr (1, [.ref a_p1_seats, .ref a_p1_words, .int v_p1_seated, .int v_p1_spoken])), (a_p1_seats, .inl (cI, 7, .inl v_p1_seats)), (a_p1_words, .inl (cI, 12, .inl v_p1_words))] := hD
  cases hf
  exact gx_vret hx hb hr hlocks rfl hP hD hS dX1_copyFrom_46
theorem X1_copyFrom_ok (l : Launch) (D : va_G) (cI cJ cB cO : ClassId) (tM tS : Nat) (a_this a_this_seats a_this_words a_p1 a_p1_seats a_p1_words : Nat)  (v_this_seated v_this_spoken : Int32) (v_this_seats v_this_words : Nat → Int32) (v_p1_seated v_p1_spoken : Int32) (v_p1_seats v_p1_words : Nat → Int32) (n_this_seated n_this_spoken : Int32) (n_this_seats n_this_words : Nat → Int32) (hf : X1_copyFrom v_this_seated v_this_spoken v_this_seats v_this_words v_p1_seated v_p1_spoken v_p1_seats v_p1_words = some (n_this_seated, n_this_spoken, n_this_seats, n_this_words)) : gx_M l yX1_copyFrom cX1_copyFrom 2 none X1_copyFrom_rm D cI cJ cB cO tM tS [.ref a_this, .ref a_p1] [(a_this, .inr (1, [.ref a_this_seats, .ref a_this_words, .int v_this_seated, .int v_this_spoken])), (a_this_seats, .inl (cI, 7, .inl v_this_seats)), (a_this_words, .inl (cI, 12, .inl v_this_words)), (a_p1, .inr (1, [.ref a_p1_seats, .ref a_p1_words, .int v_p1_seated, .int v_p1_spoken])), (a_p1_seats, .inl (cI, 7, .inl v_p1_seats)), (a_p1_words, .inl (cI, 12, .inl v_p1_words))] (X1_copyFrom_B cI cJ cB cO a_this a_this_seats a_this_words a_p1 a_p1_seats a_p1_words v_p1_seated v_p1_spoken v_p1_seats v_p1_words n_this_seated n_this_spoken n_this_seats n_this_words) none 0 0 := by
  refine gx_of (by decide) (Nat.le_of_ble_eq_true rfl) ?_
  intro p e s m args below meth c ls A C hP hD hl _
  have hl : lv_has ls 2 [(0, .ref a_this), (1, .ref a_p1)] := hl
  exact X1_copyFrom_b0_ok C a_this a_this_seats a_this_words a_p1 a_p1_seats a_p1_words n_this_seated n_this_spoken n_this_seats n_this_words v_this_seated v_this_spoken v_this_seats v_this_words v_p1_seated v_p1_spoken v_p1_seats v_p1_words hf s.heap [] ls hP hD va_S.rf hl
def X1_holds_B (cI cJ cB cO : ClassId) (a_this a_this_seats a_this_words : Nat) (v_this_seated v_this_spoken : Int32) (v_this_seats : Nat → Int32) : va_W → Prop := fun w1 => w1 = [(a_this, .inr (1, [.ref a_this_seats, .ref a_this_words, .int v_this_seated, .int v_this_spoken])), (a_this_seats, .inl (cI, 7, .inl v_this_seats))]
abbrev X1_holds_rm : Room := { frames := 0, cells := 0, slots := 0, locals := 0 }
set_option maxHeartbeats 4000000 in
set_option maxRecDepth 100000 in
theorem X1_holds_b2_ok {p : Program} {l : Launch} {e : Env} {s : State} {m : MethodId} {args : Array Value} {below : List Frame} {meth : Method} {c : Code} {D : va_G} {cI cJ cB cO : ClassId} {tM tS : Nat} {A : Nat → Prop} (C : gx_X p s m args meth c cX1_holds 3 (some .boolean) RX1 D cI cJ cB cO tM tS A) (a_this a_this_seats a_this_words : Nat) (v_this_spoken : Int32) (n_r : Int32) (k2 : Int32 → Int32 → Int32 → (Nat → Int32) → Option (Int32)) (K2 : ∀ (x1 x2 v_this_seated : Int32) (v_this_seats : Nat → Int32) , k2 x1 x2 v_this_seated v_this_seats = some n_r → gx_Wt p l e X1_holds_rm s m args below meth c (MQ below (gx_Q D A (X1_holds_B cI cJ cB cO a_this a_this_seats a_this_words v_this_seated v_this_spoken v_this_seats) (some (.int n_r))) args s 0 0 A) D A 3 [(a_this, .inr (1, [.ref a_this_seats, .ref a_this_words, .int v_this_seated, .int v_this_spoken])), (a_this_seats, .inl (cI, 7, .inl v_this_seats))] [(0, .ref a_this), (1, .int x1), (2, .int x2)] 2 []) : ∀ (x1 x2 v_this_seated : Int32) (v_this_seats : Nat → Int32) , X1_holds_b2 k2 x1 x2 v_this_seated v_this_seats = some n_r → gx_Wt p l e X1_holds_rm s m args below meth c (MQ below (gx_Q D A (X1_holds_B cI cJ cB cO a_this a_this_seats a_this_words v_this_seated v_this_spoken v_this_seats) (some (.int n_r))) args s 0 0 A) D A 3 [(a_this, .inr (1, [.ref a_this_seats, .ref a_this_words, .int v_this_seated, .int v_this_spoken])), (a_this_seats, .inl (cI, 7, .inl v_this_seats))] [(0, .ref a_this), (1, .int x1), (2, .int x2)] 2 [] := by
  intro x1 x2 v_this_seated v_this_seats hf H locs ls hP hD hS hl
  obtain ⟨hx, hb, hr, hml, hown, hW, hlocks, hE, hA⟩ := id C
  unfold X1_holds_b2 at hf
  refine lv_iload_n hx hb dX1_holds_2 rfl (lv_at hl 2 rfl) ?_
  refine lv_aload_n hx hb dX1_holds_3 rfl (lv_at hl 0 rfl) ?_
  refine va_get (D := D) (ci := 1) (v := .int v_this_seated) (C := RX1) (T := TX1) (N := 4) hx hb hW in_X1 hown hE.1 hP 0 rfl rfl 2 (by decide) (hW _ tw_88) (fun _ h9 => h9) rfl dX1_holds_4 ?_
  refine lv_icmp_ge (tgt := 34) hx hb dX1_holds_7 (by decide) (fun hc => ?_) (fun hc => ?_)
  · have hf := gx_t hf hc
    refine lv_iconst (v := 0) hx hb dX1_holds_34 (by decide) ?_
    cases hf
    exact gx_zret hx hb hr hlocks (by decide) rfl hP hD hS dX1_holds_35
  · have hf := gx_f hf hc
    refine lv_iload_n hx hb dX1_holds_10 rfl (lv_at hl 2 rfl) ?_
    refine lv_bipush (v := 7) hx hb dX1_holds_11 (by decide) ?_
    refine lv_icmp_ge (tgt := 34) hx hb dX1_holds_13 (by decide) (fun hc => ?_) (fun hc => ?_)
    · have hf := gx_t hf hc
      refine lv_iconst (v := 0) hx hb dX1_holds_34 (by decide) ?_
      cases hf
      exact gx_zret hx hb hr hlocks (by decide) rfl hP hD hS dX1_holds_35
    · have hf := gx_f hf hc
      refine lv_aload_n hx hb dX1_holds_16 rfl (lv_at hl 0 rfl) ?_
      refine va_get (D := D) (ci := 1) (v := .ref a_this_seats) (C := RX1) (T := TX1) (N := 4) hx hb hW in_X1 hown hE.1 hP 0 rfl rfl 0 (by decide) (hW _ tw_86) (fun _ h9 => h9) rfl dX1_holds_17 ?_
      refine lv_iload_n hx hb dX1_holds_20 rfl (lv_at hl 2 rfl) ?_
      obtain ⟨h1, hf⟩ := gx_ite hf
      refine va_iald hx hb hE.1 hP 1 0 rfl rfl h1 dX1_holds_21 ?_
      refine lv_iload_n hx hb dX1_holds_22 rfl (lv_at hl 1 rfl) ?_
      refine lv_icmp_ne (tgt := 28) hx hb dX1_holds_23 (by decide) (fun hc => ?_) (fun hc => ?_)
      · have hf := gx_f hf hc
        refine lv_iinc (v := x2 + 1) (lv' := [(2, .int (x2 + 1)), (0, .ref a_this), (1, .int x1)]) hx hb dX1_holds_28 hl (k := 2) rfl rfl (by decide) rfl (fun ls hl => ?_)
        refine lv_goto (tgt := 2) hx hb dX1_holds_31 (by decide) ?_
        exact K2 x1 (x2 + 1) v_this_seated v_this_seats hf H locs ls hP hD hS (lv_sub hl [1, 2, 0] rfl)
      · have hf := gx_t hf hc
        refine lv_iconst (v := 1) hx hb dX1_holds_26 (by decide) ?_
        cases hf
        exact gx_zret hx hb hr hlocks (by decide) rfl hP hD hS dX1_holds_27
theorem X1_holds_l2_ok {p : Program} {l : Launch} {e : Env} {s : State} {m : MethodId} {args : Array Value} {below : List Frame} {meth : Method} {c : Code} {D : va_G} {cI cJ cB cO : ClassId} {tM tS : Nat} {A : Nat → Prop} (C : gx_X p s m args meth c cX1_holds 3 (some .boolean) RX1 D cI cJ cB cO tM tS A) (a_this a_this_seats a_this_words : Nat) (v_this_spoken : Int32) (n_r : Int32)  : ∀ (n : Nat) (x1 x2 v_this_seated : Int32) (v_this_seats : Nat → Int32) , X1_holds_l2 n x1 x2 v_this_seated v_this_seats = some n_r → gx_Wt p l e X1_holds_rm s m args below meth c (MQ below (gx_Q D A (X1_holds_B cI cJ cB cO a_this a_this_seats a_this_words v_this_seated v_this_spoken v_this_seats) (some (.int n_r))) args s 0 0 A) D A 3 [(a_this, .inr (1, [.ref a_this_seats, .ref a_this_words, .int v_this_seated, .int v_this_spoken])), (a_this_seats, .inl (cI, 7, .inl v_this_seats))] [(0, .ref a_this), (1, .int x1), (2, .int x2)] 2 [] := by
  intro n
  induction n with
  | zero =>
    intro _ _ _ _ hf
    cases hf
  | succ n ih => exact fun x1 x2 v_this_seated v_this_seats hf => X1_holds_b2_ok C a_this a_this_seats a_this_words v_this_spoken n_r (X1_holds_l2 n) ih x1 x2 v_this_seated v_this_seats hf
set_option maxHeartbeats 4000000 in
set_option maxRecDepth 100000 in
theorem X1_holds_b0_ok {p : Program} {l : Launch} {e : Env} {s : State} {m : MethodId} {args : Array Value} {below : List Frame} {meth : Method} {c : Code} {D : va_G} {cI cJ cB cO : ClassId} {tM tS : Nat} {A : Nat → Prop} (C : gx_X p s m args meth c cX1_holds 3 (some .boolean) RX1 D cI cJ cB cO tM tS A) (a_this a_this_seats a_this_words : Nat) (v_this_spoken : Int32) (n_r : Int32)  : ∀ (x1 v_this_seated : Int32) (v_this_seats : Nat → Int32) , X1_holds x1 v_this_seated v_this_seats = some n_r → gx_Wt p l e X1_holds_rm s m args below meth c (MQ below (gx_Q D A (X1_holds_B cI cJ cB cO a_this a_this_seats a_this_words v_this_seated v_this_spoken v_this_seats) (some (.int n_r))) args s 0 0 A) D A 3 [(a_this, .inr (1, [.ref a_this_seats, .ref a_this_words, .int v_this_seated, .int v_this_spoken])), (a_this_seats, .inl (cI, 7, .inl v_this_seats))] [(0, .ref a_this), (1, .int x1)] 0 [] := by
  intro x1 v_this_seated v_this_seats hf H locs ls hP hD hS hl
  obtain ⟨hx, hb, hr, hml, hown, hW, hlocks, hE, hA⟩ := id C
  unfold X1_holds at hf
  refine lv_iconst (v := 0) hx hb dX1_holds_0 (by decide) ?_
  refine lv_istore_n (lv' := [(2, .int (0 : Int32)), (0, .ref a_this), (1, .int x1)]) hx hb dX1_holds_1 rfl hl (by decide) rfl (fun ls hl => ?_)
  exact X1_holds_l2_ok C a_this a_this_seats a_this_words v_this_spoken n_r gx_F x1 (0 : Int32) v_this_seated v_this_seats hf H locs ls hP hD hS (lv_sub hl [1, 2, 0] rfl)
theorem X1_holds_ok (l : Launch) (D : va_G) (cI cJ cB cO : ClassId) (tM tS : Nat) (a_this a_this_seats a_this_words : Nat)  (v_this_seated v_this_spoken : Int32) (v_this_seats : Nat → Int32) (x1 n_r : Int32) (hf : X1_holds x1 v_this_seated v_this_seats = some n_r) : gx_M l yX1_holds cX1_holds 3 (some .boolean) X1_holds_rm D cI cJ cB cO tM tS [.ref a_this, .int x1] [(a_this, .inr (1, [.ref a_this_seats, .ref a_this_words, .int v_this_seated, .int v_this_spoken])), (a_this_seats, .inl (cI, 7, .inl v_this_seats))] (X1_holds_B cI cJ cB cO a_this a_this_seats a_this_words v_this_seated v_this_spoken v_this_seats) (some (.int n_r)) 0 0 := by
  refine gx_of (by decide) (Nat.le_of_ble_eq_true rfl) ?_
  intro p e s m args below meth c ls A C hP hD hl _
  have hl : lv_has ls 3 [(0, .ref a_this), (1, .int x1)] := hl
  exact X1_holds_b0_ok C a_this a_this_seats a_this_words v_this_spoken n_r x1 v_this_seated v_this_seats hf s.heap [] ls hP hD va_S.rf hl
def X1_hush_B (cI cJ cB cO : ClassId) (a_this a_this_seats a_this_words : Nat) (v_this_seated n_this_spoken : Int32) : va_W → Prop := fun w1 => w1 = [(a_this, .inr (1, [.ref a_this_seats, .ref a_this_words, .int v_this_seated, .int n_this_spoken]))]
abbrev X1_hush_rm : Room := { frames := 0, cells := 0, slots := 0, locals := 0 }
set_option maxHeartbeats 4000000 in
set_option maxRecDepth 100000 in
theorem X1_hush_b0_ok {p : Program} {l : Launch} {e : Env} {s : State} {m : MethodId} {args : Array Value} {below : List Frame} {meth : Method} {c : Code} {D : va_G} {cI cJ cB cO : ClassId} {tM tS : Nat} {A : Nat → Prop} (C : gx_X p s m args meth c cX1_hush 1 none RX1 D cI cJ cB cO tM tS A) (a_this a_this_seats a_this_words : Nat) (v_this_seated : Int32) (n_this_spoken : Int32)  : ∀ (v_this_spoken : Int32) , X1_hush v_this_spoken = some n_this_spoken → gx_Wt p l e X1_hush_rm s m args below meth c (MQ below (gx_Q D A (X1_hush_B cI cJ cB cO a_this a_this_seats a_this_words v_this_seated n_this_spoken) none) args s 0 0 A) D A 1 [(a_this, .inr (1, [.ref a_this_seats, .ref a_this_words, .int v_this_seated, .int v_this_spoken]))] [(0, .ref a_this)] 0 [] := by
  intro v_this_spoken hf H locs ls hP hD hS hl
  obtain ⟨hx, hb, hr, hml, hown, hW, hlocks, hE, hA⟩ := id C
  unfold X1_hush at hf
  refine lv_aload_n hx hb dX1_hush_0 rfl (lv_at hl 0 rfl) ?_
  refine lv_iconst (v := 0) hx hb dX1_hush_1 (by decide) ?_
  refine va_put (D := D) (ci := 1) (v := .int (0 : Int32)) (ty := tyX1 3) (C := RX1) (T := TX1) (N := 4) hx hb hW in_X1 tyX1 tyX1_ok nmX1 hown hE.1 hP hD hS 0 rfl rfl 3 (by decide) (hW _ tw_89) (fun _ h9 => h9) rfl (by decide +kernel) rfl rfl (Nat.le_of_ble_eq_true rfl) dX1_hush_2 (fun H locs hP hD hS => ?_)
  have hP : va_P D gx_cl [(a_this, .inr (1, [.ref a_this_seats, .ref a_this_words, .int v_this_seated, .int (0 : Int32)]))] H := hP
  have hD : va_D A [(a_this, .inr (1, [.ref a_this_seats, .ref a_this_words, .int v_this_seated, .int (0 : Int32)]))] := hD
  cases hf
  exact gx_vret hx hb hr hlocks rfl hP hD hS dX1_hush_5
theorem X1_hush_ok (l : Launch) (D : va_G) (cI cJ cB cO : ClassId) (tM tS : Nat) (a_this a_this_seats a_this_words : Nat)  (v_this_seated v_this_spoken n_this_spoken : Int32) (hf : X1_hush v_this_spoken = some n_this_spoken) : gx_M l yX1_hush cX1_hush 1 none X1_hush_rm D cI cJ cB cO tM tS [.ref a_this] [(a_this, .inr (1, [.ref a_this_seats, .ref a_this_words, .int v_this_seated, .int v_this_spoken]))] (X1_hush_B cI cJ cB cO a_this a_this_seats a_this_words v_this_seated n_this_spoken) none 0 0 := by
  refine gx_of (by decide) (Nat.le_of_ble_eq_true rfl) ?_
  intro p e s m args below meth c ls A C hP hD hl _
  have hl : lv_has ls 1 [(0, .ref a_this)] := hl
  exact X1_hush_b0_ok C a_this a_this_seats a_this_words v_this_seated n_this_spoken v_this_spoken hf s.heap [] ls hP hD va_S.rf hl
def X1_rise_B (cI cJ cB cO : ClassId) (a_this a_this_seats a_this_words : Nat) (v_this_spoken : Int32) (v_this_seats : Nat → Int32) (n_this_seated : Int32) : va_W → Prop := fun w1 => w1 = [(a_this, .inr (1, [.ref a_this_seats, .ref a_this_words, .int n_this_seated, .int v_this_spoken])), (a_this_seats, .inl (cI, 7, .inl v_this_seats))]
abbrev X1_rise_rm : Room := { frames := 0, cells := 0, slots := 0, locals := 0 }
set_option maxHeartbeats 4000000 in
set_option maxRecDepth 100000 in
theorem X1_rise_b0_ok {p : Program} {l : Launch} {e : Env} {s : State} {m : MethodId} {args : Array Value} {below : List Frame} {meth : Method} {c : Code} {D : va_G} {cI cJ cB cO : ClassId} {tM tS : Nat} {A : Nat → Prop} (C : gx_X p s m args meth c cX1_rise 1 (some .int) RX1 D cI cJ cB cO tM tS A) (a_this a_this_seats a_this_words : Nat) (v_this_spoken : Int32) (n_r n_this_seated : Int32)  : ∀ (v_this_seated : Int32) (v_this_seats : Nat → Int32) , X1_rise v_this_seated v_this_seats = some (n_r, n_this_seated) → gx_Wt p l e X1_rise_rm s m args below meth c (MQ below (gx_Q D A (X1_rise_B cI cJ cB cO a_this a_this_seats a_this_words v_this_spoken v_this_seats n_this_seated) (some (.int n_r))) args s 0 0 A) D A 1 [(a_this, .inr (1, [.ref a_this_seats, .ref a_this_words, .int v_this_seated, .int v_this_spoken])), (a_this_seats, .inl (cI, 7, .inl v_this_seats))] [(0, .ref a_this)] 0 [] := by
  intro v_this_seated v_this_seats hf H locs ls hP hD hS hl
  obtain ⟨hx, hb, hr, hml, hown, hW, hlocks, hE, hA⟩ := id C
  unfold X1_rise at hf
  refine lv_aload_n hx hb dX1_rise_0 rfl (lv_at hl 0 rfl) ?_
  refine va_get (D := D) (ci := 1) (v := .int v_this_seated) (C := RX1) (T := TX1) (N := 4) hx hb hW in_X1 hown hE.1 hP 0 rfl rfl 2 (by decide) (hW _ tw_88) (fun _ h9 => h9) rfl dX1_rise_1 ?_
  refine lv_if_gt (tgt := 10) hx hb dX1_rise_4 (by decide) (fun hc => ?_) (fun hc => ?_)
  · have hf := gx_t hf hc
    refine lv_aload_n hx hb dX1_rise_10 rfl (lv_at hl 0 rfl) ?_
    refine lv_dup hx hb dX1_rise_11 rfl ?_
    refine va_get (D := D) (ci := 1) (v := .int v_this_seated) (C := RX1) (T := TX1) (N := 4) hx hb hW in_X1 hown hE.1 hP 0 rfl rfl 2 (by decide) (hW _ tw_88) (fun _ h9 => h9) rfl dX1_rise_12 ?_
    refine lv_iconst (v := 1) hx hb dX1_rise_15 (by decide) ?_
    refine lv_isub hx hb dX1_rise_16 ?_
    refine va_put (D := D) (ci := 1) (v := .int (v_this_seated - (1 : Int32))) (ty := tyX1 2) (C := RX1) (T := TX1) (N := 4) hx hb hW in_X1 tyX1 tyX1_ok nmX1 hown hE.1 hP hD hS 0 rfl rfl 2 (by decide) (hW _ tw_88) (fun _ h9 => h9) rfl (by decide +kernel) rfl rfl (Nat.le_of_ble_eq_true rfl) dX1_rise_17 (fun H locs hP hD hS => ?_)
    have hP : va_P D gx_cl [(a_this, .inr (1, [.ref a_this_seats, .ref a_this_words, .int (v_this_seated - (1 : Int32)), .int v_this_spoken])), (a_this_seats, .inl (cI, 7, .inl v_this_seats))] H := hP
    have hD : va_D A [(a_this, .inr (1, [.ref a_this_seats, .ref a_this_words, .int (v_this_seated - (1 : Int32)), .int v_this_spoken])), (a_this_seats, .inl (cI, 7, .inl v_this_seats))] := hD
    refine lv_aload_n hx hb dX1_rise_20 rfl (lv_at hl 0 rfl) ?_
    refine va_get (D := D) (ci := 1) (v := .ref a_this_seats) (C := RX1) (T := TX1) (N := 4) hx hb hW in_X1 hown hE.1 hP 0 rfl rfl 0 (by decide) (hW _ tw_86) (fun _ h9 => h9) rfl dX1_rise_21 ?_
    refine lv_aload_n hx hb dX1_rise_24 rfl (lv_at hl 0 rfl) ?_
    refine va_get (D := D) (ci := 1) (v := .int (v_this_seated - (1 : Int32))) (C := RX1) (T := TX1) (N := 4) hx hb hW in_X1 hown hE.1 hP 0 rfl rfl 2 (by decide) (hW _ tw_88) (fun _ h9 => h9) rfl dX1_rise_25 ?_
    obtain ⟨h1, hf⟩ := gx_ite hf
    refine va_iald hx hb hE.1 hP 1 0 rfl rfl h1 dX1_rise_28 ?_
    cases hf
    exact gx_iret hx hb hr hlocks rfl hP hD hS dX1_rise_29
  · have hf := gx_f hf hc
    refine lv_bipush (v := -4) hx hb dX1_rise_7 (by decide) ?_
    cases hf
    exact gx_iret hx hb hr hlocks rfl hP hD hS dX1_rise_9
theorem X1_rise_ok (l : Launch) (D : va_G) (cI cJ cB cO : ClassId) (tM tS : Nat) (a_this a_this_seats a_this_words : Nat)  (v_this_seated v_this_spoken : Int32) (v_this_seats : Nat → Int32) (n_r n_this_seated : Int32) (hf : X1_rise v_this_seated v_this_seats = some (n_r, n_this_seated)) : gx_M l yX1_rise cX1_rise 1 (some .int) X1_rise_rm D cI cJ cB cO tM tS [.ref a_this] [(a_this, .inr (1, [.ref a_this_seats, .ref a_this_words, .int v_this_seated, .int v_this_spoken])), (a_this_seats, .inl (cI, 7, .inl v_this_seats))] (X1_rise_B cI cJ cB cO a_this a_this_seats a_this_words v_this_spoken v_this_seats n_this_seated) (some (.int n_r)) 0 0 := by
  refine gx_of (by decide) (Nat.le_of_ble_eq_true rfl) ?_
  intro p e s m args below meth c ls A C hP hD hl _
  have hl : lv_has ls 1 [(0, .ref a_this)] := hl
  exact X1_rise_b0_ok C a_this a_this_seats a_this_words v_this_spoken n_r n_this_seated v_this_seated v_this_seats hf s.heap [] ls hP hD va_S.rf hl
def X1_seatAt_B (cI cJ cB cO : ClassId) (a_this a_this_seats a_this_words : Nat) (v_this_seated v_this_spoken : Int32) (v_this_seats : Nat → Int32) : va_W → Prop := fun w1 => w1 = [(a_this, .inr (1, [.ref a_this_seats, .ref a_this_words, .int v_this_seated, .int v_this_spoken])), (a_this_seats, .inl (cI, 7, .inl v_this_seats))]
abbrev X1_seatAt_rm : Room := { frames := 0, cells := 0, slots := 0, locals := 0 }
set_option maxHeartbeats 4000000 in
set_option maxRecDepth 100000 in
theorem X1_seatAt_b0_ok {p : Program} {l : Launch} {e : Env} {s : State} {m : MethodId} {args : Array Value} {below : List Frame} {meth : Method} {c : Code} {D : va_G} {cI cJ cB cO : ClassId} {tM tS : Nat} {A : Nat → Prop} (C : gx_X p s m args meth c cX1_seatAt 2 (some .int) RX1 D cI cJ cB cO tM tS A) (a_this a_this_seats a_this_words : Nat) (v_this_spoken : Int32) (n_r : Int32)  : ∀ (x1 v_this_seated : Int32) (v_this_seats : Nat → Int32) , X1_seatAt x1 v_this_seated v_this_seats = some n_r → gx_Wt p l e X1_seatAt_rm s m args below meth c (MQ below (gx_Q D A (X1_seatAt_B cI cJ cB cO a_this a_this_seats a_this_words v_this_seated v_this_spoken v_this_seats) (some (.int n_r))) args s 0 0 A) D A 2 [(a_this, .inr (1, [.ref a_this_seats, .ref a_this_words, .int v_this_seated, .int v_this_spoken])), (a_this_seats, .inl (cI, 7, .inl v_this_seats))] [(0, .ref a_this), (1, .int x1)] 0 [] := by
  intro x1 v_this_seated v_this_seats hf H locs ls hP hD hS hl
  obtain ⟨hx, hb, hr, hml, hown, hW, hlocks, hE, hA⟩ := id C
  unfold X1_seatAt at hf
  refine lv_iload_n hx hb dX1_seatAt_0 rfl (lv_at hl 1 rfl) ?_
  refine lv_if_lt (tgt := 27) hx hb dX1_seatAt_1 (by decide) (fun hc => ?_) (fun hc => ?_)
  · have hf := gx_t hf hc
    refine lv_bipush (v := -4) hx hb dX1_seatAt_27 (by decide) ?_
    cases hf
    exact gx_iret hx hb hr hlocks rfl hP hD hS dX1_seatAt_29
  · have hf := gx_f hf hc
    refine lv_iload_n hx hb dX1_seatAt_4 rfl (lv_at hl 1 rfl) ?_
    refine lv_aload_n hx hb dX1_seatAt_5 rfl (lv_at hl 0 rfl) ?_
    refine va_get (D := D) (ci := 1) (v := .int v_this_seated) (C := RX1) (T := TX1) (N := 4) hx hb hW in_X1 hown hE.1 hP 0 rfl rfl 2 (by decide) (hW _ tw_88) (fun _ h9 => h9) rfl dX1_seatAt_6 ?_
    refine lv_icmp_ge (tgt := 27) hx hb dX1_seatAt_9 (by decide) (fun hc => ?_) (fun hc => ?_)
    · have hf := gx_t hf hc
      refine lv_bipush (v := -4) hx hb dX1_seatAt_27 (by decide) ?_
      cases hf
      exact gx_iret hx hb hr hlocks rfl hP hD hS dX1_seatAt_29
    · have hf := gx_f hf hc
      refine lv_iload_n hx hb dX1_seatAt_12 rfl (lv_at hl 1 rfl) ?_
      refine lv_bipush (v := 7) hx hb dX1_seatAt_13 (by decide) ?_
      refine lv_icmp_ge (tgt := 27) hx hb dX1_seatAt_15 (by decide) (fun hc => ?_) (fun hc => ?_)
      · have hf := gx_t hf hc
        refine lv_bipush (v := -4) hx hb dX1_seatAt_27 (by decide) ?_
        cases hf
        exact gx_iret hx hb hr hlocks rfl hP hD hS dX1_seatAt_29
      · have hf := gx_f hf hc
        refine lv_aload_n hx hb dX1_seatAt_18 rfl (lv_at hl 0 rfl) ?_
        refine va_get (D := D) (ci := 1) (v := .ref a_this_seats) (C := RX1) (T := TX1) (N := 4) hx hb hW in_X1 hown hE.1 hP 0 rfl rfl 0 (by decide) (hW _ tw_86) (fun _ h9 => h9) rfl dX1_seatAt_19 ?_
        refine lv_iload_n hx hb dX1_seatAt_22 rfl (lv_at hl 1 rfl) ?_
        obtain ⟨h1, hf⟩ := gx_ite hf
        refine va_iald hx hb hE.1 hP 1 0 rfl rfl h1 dX1_seatAt_23 ?_
        refine lv_goto (tgt := 29) hx hb dX1_seatAt_24 (by decide) ?_
        cases hf
        exact gx_iret hx hb hr hlocks rfl hP hD hS dX1_seatAt_29
theorem X1_seatAt_ok (l : Launch) (D : va_G) (cI cJ cB cO : ClassId) (tM tS : Nat) (a_this a_this_seats a_this_words : Nat)  (v_this_seated v_this_spoken : Int32) (v_this_seats : Nat → Int32) (x1 n_r : Int32) (hf : X1_seatAt x1 v_this_seated v_this_seats = some n_r) : gx_M l yX1_seatAt cX1_seatAt 2 (some .int) X1_seatAt_rm D cI cJ cB cO tM tS [.ref a_this, .int x1] [(a_this, .inr (1, [.ref a_this_seats, .ref a_this_words, .int v_this_seated, .int v_this_spoken])), (a_this_seats, .inl (cI, 7, .inl v_this_seats))] (X1_seatAt_B cI cJ cB cO a_this a_this_seats a_this_words v_this_seated v_this_spoken v_this_seats) (some (.int n_r)) 0 0 := by
  refine gx_of (by decide) (Nat.le_of_ble_eq_true rfl) ?_
  intro p e s m args below meth c ls A C hP hD hl _
  have hl : lv_has ls 2 [(0, .ref a_this), (1, .int x1)] := hl
  exact X1_seatAt_b0_ok C a_this a_this_seats a_this_words v_this_spoken n_r x1 v_this_seated v_this_seats hf s.heap [] ls hP hD va_S.rf hl
def X1_seatBits_B (cI cJ cB cO : ClassId) (a_this a_this_seats a_this_words : Nat) (v_this_seated v_this_spoken : Int32) (v_this_seats : Nat → Int32) : va_W → Prop := fun w1 => w1 = [(a_this, .inr (1, [.ref a_this_seats, .ref a_this_words, .int v_this_seated, .int v_this_spoken])), (a_this_seats, .inl (cI, 7, .inl v_this_seats))]
abbrev X1_seatBits_rm : Room := { frames := 0, cells := 0, slots := 0, locals := 0 }
set_option maxHeartbeats 4000000 in
set_option maxRecDepth 100000 in
theorem X1_seatBits_b4_ok {p : Program} {l : Launch} {e : Env} {s : State} {m : MethodId} {args : Array Value} {below : List Frame} {meth : Method} {c : Code} {D : va_G} {cI cJ cB cO : ClassId} {tM tS : Nat} {A : Nat → Prop} (C : gx_X p s m args meth c cX1_seatBits 3 (some .int) RX1 D cI cJ cB cO tM tS A) (a_this a_this_seats a_this_words : Nat) (v_this_spoken : Int32) (n_r : Int32) (k4 : Int32 → Int32 → Int32 → (Nat → Int32) → Option (Int32)) (K4 : ∀ (x1 x2 v_this_seated : Int32) (v_this_seats : Nat → Int32) , k4 x1 x2 v_this_seated v_this_seats = some n_r → gx_Wt p l e X1_seatBits_rm s m args below meth c (MQ below (gx_Q D A (X1_seatBits_B cI cJ cB cO a_this a_this_seats a_this_words v_this_seated v_this_spoken v_this_seats) (some (.int n_r))) args s 0 0 A) D A 3 [(a_this, .inr (1, [.ref a_this_seats, .ref a_this_words, .int v_this_seated, .int v_this_spoken])), (a_this_seats, .inl (cI, 7, .inl v_this_seats))] [(0, .ref a_this), (1, .int x1), (2, .int x2)] 4 []) : ∀ (x1 x2 v_this_seated : Int32) (v_this_seats : Nat → Int32) , X1_seatBits_b4 k4 x1 x2 v_this_seated v_this_seats = some n_r → gx_Wt p l e X1_seatBits_rm s m args below meth c (MQ below (gx_Q D A (X1_seatBits_B cI cJ cB cO a_this a_this_seats a_this_words v_this_seated v_this_spoken v_this_seats) (some (.int n_r))) args s 0 0 A) D A 3 [(a_this, .inr (1, [.ref a_this_seats, .ref a_this_words, .int v_this_seated, .int v_this_spoken])), (a_this_seats, .inl (cI, 7, .inl v_this_seats))] [(0, .ref a_this), (1, .int x1), (2, .int x2)] 4 [] := by
  intro x1 x2 v_this_seated v_this_seats hf H locs ls hP hD hS hl
  obtain ⟨hx, hb, hr, hml, hown, hW, hlocks, hE, hA⟩ := id C
  unfold X1_seatBits_b4 at hf
  refine lv_iload_n hx hb dX1_seatBits_4 rfl (lv_at hl 2 rfl) ?_
  refine lv_aload_n hx hb dX1_seatBits_5 rfl (lv_at hl 0 rfl) ?_
  refine va_get (D := D) (ci := 1) (v := .int v_this_seated) (C := RX1) (T := TX1) (N := 4) hx hb hW in_X1 hown hE.1 hP 0 rfl rfl 2 (by decide) (hW _ tw_88) (fun _ h9 => h9) rfl dX1_seatBits_6 ?_
  refine lv_icmp_ge (tgt := 35) hx hb dX1_seatBits_9 (by decide) (fun hc => ?_) (fun hc => ?_)
  · have hf := gx_t hf hc
    refine lv_iload_n hx hb dX1_seatBits_35 rfl (lv_at hl 1 rfl) ?_
    cases hf
    exact gx_iret hx hb hr hlocks rfl hP hD hS dX1_seatBits_36
  · have hf := gx_f hf hc
    refine lv_iload_n hx hb dX1_seatBits_12 rfl (lv_at hl 2 rfl) ?_
    refine lv_bipush (v := 7) hx hb dX1_seatBits_13 (by decide) ?_
    refine lv_icmp_ge (tgt := 35) hx hb dX1_seatBits_15 (by decide) (fun hc => ?_) (fun hc => ?_)
    · have hf := gx_t hf hc
      refine lv_iload_n hx hb dX1_seatBits_35 rfl (lv_at hl 1 rfl) ?_
      cases hf
      exact gx_iret hx hb hr hlocks rfl hP hD hS dX1_seatBits_36
    · have hf := gx_f hf hc
      refine lv_iload_n hx hb dX1_seatBits_18 rfl (lv_at hl 1 rfl) ?_
      refine lv_iconst (v := 1) hx hb dX1_seatBits_19 (by decide) ?_
      refine lv_aload_n hx hb dX1_seatBits_20 rfl (lv_at hl 0 rfl) ?_
      refine va_get (D := D) (ci := 1) (v := .ref a_this_seats) (C := RX1) (T := TX1) (N := 4) hx hb hW in_X1 hown hE.1 hP 0 rfl rfl 0 (by decide) (hW _ tw_86) (fun _ h9 => h9) rfl dX1_seatBits_21 ?_
      refine lv_iload_n hx hb dX1_seatBits_24 rfl (lv_at hl 2 rfl) ?_
      obtain ⟨h1, hf⟩ := gx_ite hf
      refine va_iald hx hb hE.1 hP 1 0 rfl rfl h1 dX1_seatBits_25 ?_
      refine lv_ishl hx hb dX1_seatBits_26 ?_
      refine lv_ior hx hb dX1_seatBits_27 ?_
      refine lv_topi (fun y2 ey2 => ?_)
      have hf := gx_lv hf ey2
      clear ey2
      refine lv_istore_n (lv' := [(1, .int y2), (0, .ref a_this), (2, .int x2)]) hx hb dX1_seatBits_28 rfl hl (by decide) rfl (fun ls hl => ?_)
      refine lv_iinc (v := x2 + 1) (lv' := [(2, .int (x2 + 1)), (1, .int y2), (0, .ref a_this)]) hx hb dX1_seatBits_29 hl (k := 2) rfl rfl (by decide) rfl (fun ls hl => ?_)
      refine lv_goto (tgt := 4) hx hb dX1_seatBits_32 (by decide) ?_
      exact K4 y2 (x2 + 1) v_this_seated v_this_seats hf H locs ls hP hD hS (lv_sub hl [2, 1, 0] rfl)
theorem X1_seatBits_l4_ok {p : Program} {l : Launch} {e : Env} {s : State} {m : MethodId} {args : Array Value} {below : List Frame} {meth : Method} {c : Code} {D : va_G} {cI cJ cB cO : ClassId} {tM tS : Nat} {A : Nat → Prop} (C : gx_X p s m args meth c cX1_seatBits 3 (some .int) RX1 D cI cJ cB cO tM tS A) (a_this a_this_seats a_this_words : Nat) (v_this_spoken : Int32) (n_r : Int32)  : ∀ (n : Nat) (x1 x2 v_this_seated : Int32) (v_this_seats : Nat → Int32) , X1_seatBits_l4 n x1 x2 v_this_seated v_this_seats = some n_r → gx_Wt p l e X1_seatBits_rm s m args below meth c (MQ below (gx_Q D A (X1_seatBits_B cI cJ cB cO a_this a_this_seats a_this_words v_this_seated v_this_spoken v_this_seats) (some (.int n_r))) args s 0 0 A) D A 3 [(a_this, .inr (1, [.ref a_this_seats, .ref a_this_words, .int v_this_seated, .int v_this_spoken])), (a_this_seats, .inl (cI, 7, .inl v_this_seats))] [(0, .ref a_this), (1, .int x1), (2, .int x2)] 4 [] := by
  intro n
  induction n with
  | zero =>
    intro _ _ _ _ hf
    cases hf
  | succ n ih => exact fun x1 x2 v_this_seated v_this_seats hf => X1_seatBits_b4_ok C a_this a_this_seats a_this_words v_this_spoken n_r (X1_seatBits_l4 n) ih x1 x2 v_this_seated v_this_seats hf
set_option maxHeartbeats 4000000 in
set_option maxRecDepth 100000 in
theorem X1_seatBits_b0_ok {p : Program} {l : Launch} {e : Env} {s : State} {m : MethodId} {args : Array Value} {below : List Frame} {meth : Method} {c : Code} {D : va_G} {cI cJ cB cO : ClassId} {tM tS : Nat} {A : Nat → Prop} (C : gx_X p s m args meth c cX1_seatBits 3 (some .int) RX1 D cI cJ cB cO tM tS A) (a_this a_this_seats a_this_words : Nat) (v_this_spoken : Int32) (n_r : Int32)  : ∀ (v_this_seated : Int32) (v_this_seats : Nat → Int32) , X1_seatBits v_this_seated v_this_seats = some n_r → gx_Wt p l e X1_seatBits_rm s m args below meth c (MQ below (gx_Q D A (X1_seatBits_B cI cJ cB cO a_this a_this_seats a_this_words v_this_seated v_this_spoken v_this_seats) (some (.int n_r))) args s 0 0 A) D A 3 [(a_this, .inr (1, [.ref a_this_seats, .ref a_this_words, .int v_this_seated, .int v_this_spoken])), (a_this_seats, .inl (cI, 7, .inl v_this_seats))] [(0, .ref a_this)] 0 [] := by
  intro v_this_seated v_this_seats hf H locs ls hP hD hS hl
  obtain ⟨hx, hb, hr, hml, hown, hW, hlocks, hE, hA⟩ := id C
  unfold X1_seatBits at hf
  refine lv_iconst (v := 0) hx hb dX1_seatBits_0 (by decide) ?_
  refine lv_istore_n (lv' := [(1, .int (0 : Int32)), (0, .ref a_this)]) hx hb dX1_seatBits_1 rfl hl (by decide) rfl (fun ls hl => ?_)
  refine lv_iconst (v := 0) hx hb dX1_seatBits_2 (by decide) ?_
  refine lv_istore_n (lv' := [(2, .int (0 : Int32)), (1, .int (0 : Int32)), (0, .ref a_this)]) hx hb dX1_seatBits_3 rfl hl (by decide) rfl (fun ls hl => ?_)
  exact X1_seatBits_l4_ok C a_this a_this_seats a_this_words v_this_spoken n_r gx_F (0 : Int32) (0 : Int32) v_this_seated v_this_seats hf H locs ls hP hD hS (lv_sub hl [2, 1, 0] rfl)
theorem X1_seatBits_ok (l : Launch) (D : va_G) (cI cJ cB cO : ClassId) (tM tS : Nat) (a_this a_this_seats a_this_words : Nat)  (v_this_seated v_this_spoken : Int32) (v_this_seats : Nat → Int32) (n_r : Int32) (hf : X1_seatBits v_this_seated v_this_seats = some n_r) : gx_M l yX1_seatBits cX1_seatBits 3 (some .int) X1_seatBits_rm D cI cJ cB cO tM tS [.ref a_this] [(a_this, .inr (1, [.ref a_this_seats, .ref a_this_words, .int v_this_seated, .int v_this_spoken])), (a_this_seats, .inl (cI, 7, .inl v_this_seats))] (X1_seatBits_B cI cJ cB cO a_this a_this_seats a_this_words v_this_seated v_this_spoken v_this_seats) (some (.int n_r)) 0 0 := by
  refine gx_of (by decide) (Nat.le_of_ble_eq_true rfl) ?_
  intro p e s m args below meth c ls A C hP hD hl _
  have hl : lv_has ls 3 [(0, .ref a_this)] := hl
  exact X1_seatBits_b0_ok C a_this a_this_seats a_this_words v_this_spoken n_r v_this_seated v_this_seats hf s.heap [] ls hP hD va_S.rf hl
def X1_seated_B (cI cJ cB cO : ClassId) (a_this a_this_seats a_this_words : Nat) (v_this_seated v_this_spoken : Int32) : va_W → Prop := fun w1 => w1 = [(a_this, .inr (1, [.ref a_this_seats, .ref a_this_words, .int v_this_seated, .int v_this_spoken]))]
abbrev X1_seated_rm : Room := { frames := 0, cells := 0, slots := 0, locals := 0 }
set_option maxHeartbeats 4000000 in
set_option maxRecDepth 100000 in
theorem X1_seated_b0_ok {p : Program} {l : Launch} {e : Env} {s : State} {m : MethodId} {args : Array Value} {below : List Frame} {meth : Method} {c : Code} {D : va_G} {cI cJ cB cO : ClassId} {tM tS : Nat} {A : Nat → Prop} (C : gx_X p s m args meth c cX1_seated 1 (some .int) RX1 D cI cJ cB cO tM tS A) (a_this a_this_seats a_this_words : Nat) (v_this_spoken : Int32) (n_r : Int32)  : ∀ (v_this_seated : Int32) , X1_seated v_this_seated = some n_r → gx_Wt p l e X1_seated_rm s m args below meth c (MQ below (gx_Q D A (X1_seated_B cI cJ cB cO a_this a_this_seats a_this_words v_this_seated v_this_spoken) (some (.int n_r))) args s 0 0 A) D A 1 [(a_this, .inr (1, [.ref a_this_seats, .ref a_this_words, .int v_this_seated, .int v_this_spoken]))] [(0, .ref a_this)] 0 [] := by
  intro v_this_seated hf H locs ls hP hD hS hl
  obtain ⟨hx, hb, hr, hml, hown, hW, hlocks, hE, hA⟩ := id C
  unfold X1_seated at hf
  refine lv_aload_n hx hb dX1_seated_0 rfl (lv_at hl 0 rfl) ?_
  refine va_get (D := D) (ci := 1) (v := .int v_this_seated) (C := RX1) (T := TX1) (N := 4) hx hb hW in_X1 hown hE.1 hP 0 rfl rfl 2 (by decide) (hW _ tw_88) (fun _ h9 => h9) rfl dX1_seated_1 ?_
  cases hf
  exact gx_iret hx hb hr hlocks rfl hP hD hS dX1_seated_4
theorem X1_seated_ok (l : Launch) (D : va_G) (cI cJ cB cO : ClassId) (tM tS : Nat) (a_this a_this_seats a_this_words : Nat)  (v_this_seated v_this_spoken n_r : Int32) (hf : X1_seated v_this_seated = some n_r) : gx_M l yX1_seated cX1_seated 1 (some .int) X1_seated_rm D cI cJ cB cO tM tS [.ref a_this] [(a_this, .inr (1, [.ref a_this_seats, .ref a_this_words, .int v_this_seated, .int v_this_spoken]))] (X1_seated_B cI cJ cB cO a_this a_this_seats a_this_words v_this_seated v_this_spoken) (some (.int n_r)) 0 0 := by
  refine gx_of (by decide) (Nat.le_of_ble_eq_true rfl) ?_
  intro p e s m args below meth c ls A C hP hD hl _
  have hl : lv_has ls 1 [(0, .ref a_this)] := hl
  exact X1_seated_b0_ok C a_this a_this_seats a_this_words v_this_spoken n_r v_this_seated hf s.heap [] ls hP hD va_S.rf hl
def X1_sit_B (cI cJ cB cO : ClassId) (a_this a_this_seats a_this_words : Nat) (v_this_spoken n_this_seated : Int32) (n_this_seats : Nat → Int32) : va_W → Prop := fun w1 => w1 = [(a_this, .inr (1, [.ref a_this_seats, .ref a_this_words, .int n_this_seated, .int v_this_spoken])), (a_this_seats, .inl (cI, 7, .inl n_this_seats))]
abbrev X1_sit_rm : Room := { frames := 0, cells := 0, slots := 0, locals := 0 }
set_option maxHeartbeats 4000000 in
set_option maxRecDepth 100000 in
theorem X1_sit_b0_ok {p : Program} {l : Launch} {e : Env} {s : State} {m : MethodId} {args : Array Value} {below : List Frame} {meth : Method} {c : Code} {D : va_G} {cI cJ cB cO : ClassId} {tM tS : Nat} {A : Nat → Prop} (C : gx_X p s m args meth c cX1_sit 2 none RX1 D cI cJ cB cO tM tS A) (a_this a_this_seats a_this_words : Nat) (v_this_spoken : Int32) (n_this_seated : Int32) (n_this_seats : Nat → Int32)  : ∀ (x1 v_this_seated : Int32) (v_this_seats : Nat → Int32) , X1_sit x1 v_this_seated v_this_seats = some (n_this_seated, n_this_seats) → gx_Wt p l e X1_sit_rm s m args below meth c (MQ below (gx_Q D A (X1_sit_B cI cJ cB cO a_this a_this_seats a_this_words v_this_spoken n_this_seated n_this_seats) none) args s 0 0 A) D A 2 [(a_this, .inr (1, [.ref a_this_seats, .ref a_this_words, .int v_this_seated, .int v_this_spoken])), (a_this_seats, .inl (cI, 7, .inl v_this_seats))] [(0, .ref a_this), (1, .int x1)] 0 [] := by
  intro x1 v_this_seated v_this_seats hf H locs ls hP hD hS hl
  obtain ⟨hx, hb, hr, hml, hown, hW, hlocks, hE, hA⟩ := id C
  unfold X1_sit at hf
  refine lv_aload_n hx hb dX1_sit_0 rfl (lv_at hl 0 rfl) ?_
  refine va_get (D := D) (ci := 1) (v := .int v_this_seated) (C := RX1) (T := TX1) (N := 4) hx hb hW in_X1 hown hE.1 hP 0 rfl rfl 2 (by decide) (hW _ tw_88) (fun _ h9 => h9) rfl dX1_sit_1 ?_
  refine lv_bipush (v := 7) hx hb dX1_sit_4 (by decide) ?_
  refine lv_icmp_ge (tgt := 29) hx hb dX1_sit_6 (by decide) (fun hc => ?_) (fun hc => ?_)
  · have hf := gx_t hf hc
    cases hf
    exact gx_vret hx hb hr hlocks rfl hP hD hS dX1_sit_29
  · have hf := gx_f hf hc
    refine lv_aload_n hx hb dX1_sit_9 rfl (lv_at hl 0 rfl) ?_
    refine va_get (D := D) (ci := 1) (v := .ref a_this_seats) (C := RX1) (T := TX1) (N := 4) hx hb hW in_X1 hown hE.1 hP 0 rfl rfl 0 (by decide) (hW _ tw_86) (fun _ h9 => h9) rfl dX1_sit_10 ?_
    refine lv_aload_n hx hb dX1_sit_13 rfl (lv_at hl 0 rfl) ?_
    refine va_get (D := D) (ci := 1) (v := .int v_this_seated) (C := RX1) (T := TX1) (N := 4) hx hb hW in_X1 hown hE.1 hP 0 rfl rfl 2 (by decide) (hW _ tw_88) (fun _ h9 => h9) rfl dX1_sit_14 ?_
    refine lv_iload_n hx hb dX1_sit_17 rfl (lv_at hl 1 rfl) ?_
    obtain ⟨h1, hf⟩ := gx_ite hf
    refine va_iast hx hb hE.1 hP hD hS 1 0 rfl rfl h1 dX1_sit_18 (fun H locs hP hD hS => ?_)
    have hP : va_P D gx_cl [(a_this, .inr (1, [.ref a_this_seats, .ref a_this_words, .int v_this_seated, .int v_this_spoken])), (a_this_seats, .inl (cI, 7, .inl (upd v_this_seats v_this_seated.toNatClampNeg x1)))] H := hP
    have hD : va_D A [(a_this, .inr (1, [.ref a_this_seats, .ref a_this_words, .int v_this_seated, .int v_this_spoken])), (a_this_seats, .inl (cI, 7, .inl (upd v_this_seats v_this_seated.toNatClampNeg x1)))] := hD
    refine lv_aload_n hx hb dX1_sit_19 rfl (lv_at hl 0 rfl) ?_
    refine lv_dup hx hb dX1_sit_20 rfl ?_
    refine va_get (D := D) (ci := 1) (v := .int v_this_seated) (C := RX1) (T := TX1) (N := 4) hx hb hW in_X1 hown hE.1 hP 0 rfl rfl 2 (by decide) (hW _ tw_88) (fun _ h9 => h9) rfl dX1_sit_21 ?_
    refine lv_iconst (v := 1) hx hb dX1_sit_24 (by decide) ?_
    refine lv_iadd hx hb dX1_sit_25 ?_
    refine va_put (D := D) (ci := 1) (v := .int (v_this_seated + (1 : Int32))) (ty := tyX1 2) (C := RX1) (T := TX1) (N := 4) hx hb hW in_X1 tyX1 tyX1_ok nmX1 hown hE.1 hP hD hS 0 rfl rfl 2 (by decide) (hW _ tw_88) (fun _ h9 => h9) rfl (by decide +kernel) rfl rfl (Nat.le_of_ble_eq_true rfl) dX1_sit_26 (fun H locs hP hD hS => ?_)
    have hP : va_P D gx_cl [(a_this, .inr (1, [.ref a_this_seats, .ref a_this_words, .int (v_this_seated + (1 : Int32)), .int v_this_spoken])), (a_this_seats, .inl (cI, 7, .inl (upd v_this_seats v_this_seated.toNatClampNeg x1)))] H := hP
    have hD : va_D A [(a_this, .inr (1, [.ref a_this_seats, .ref a_this_words, .int (v_this_seated + (1 : Int32)), .int v_this_spoken])), (a_this_seats, .inl (cI, 7, .inl (upd v_this_seats v_this_seated.toNatClampNeg x1)))] := hD
    cases hf
    exact gx_vret hx hb hr hlocks rfl hP hD hS dX1_sit_29
theorem X1_sit_ok (l : Launch) (D : va_G) (cI cJ cB cO : ClassId) (tM tS : Nat) (a_this a_this_seats a_this_words : Nat)  (v_this_seated v_this_spoken : Int32) (v_this_seats : Nat → Int32) (x1 n_this_seated : Int32) (n_this_seats : Nat → Int32) (hf : X1_sit x1 v_this_seated v_this_seats = some (n_this_seated, n_this_seats)) : gx_M l yX1_sit cX1_sit 2 none X1_sit_rm D cI cJ cB cO tM tS [.ref a_this, .int x1] [(a_this, .inr (1, [.ref a_this_seats, .ref a_this_words, .int v_this_seated, .int v_this_spoken])), (a_this_seats, .inl (cI, 7, .inl v_this_seats))] (X1_sit_B cI cJ cB cO a_this a_this_seats a_this_words v_this_spoken n_this_seated n_this_seats) none 0 0 := by
  refine gx_of (by decide) (Nat.le_of_ble_eq_true rfl) ?_
  intro p e s m args below meth c ls A C hP hD hl _
  have hl : lv_has ls 2 [(0, .ref a_this), (1, .int x1)] := hl
  exact X1_sit_b0_ok C a_this a_this_seats a_this_words v_this_spoken n_this_seated n_this_seats x1 v_this_seated v_this_seats hf s.heap [] ls hP hD va_S.rf hl
