/-! ===== the best row: the search in plain words ===== -/
def oth (tr : Nat → Nat) (i tg : Nat) : Option Nat := if tr (5 * i) = tg then some (tr (5 * i + 1)) else if tr (5 * i + 1) = tg then some (tr (5 * i)) else none
def nxt (hate : Nat → Nat) (r : List Nat) (i : Nat) : Bool := decide (i ∉ r) && (decide (r = []) || !(hate (r.getD (r.length - 1) 0)).testBit i)
def bet : Option (Nat × List Nat) → Nat → Nat → Bool
  | none, _, _ => true
  | some (w, l), v, n => decide (w < v) || (decide (v = w) && decide (n < l.length))
def kp (c : Nat → Nat → Nat) : Nat := sm (fun s => c s s) 10
def tak (s : Option (Nat × List Nat)) (c : Nat → Nat → Nat) (r : List Nat) : Option (Nat × List Nat) := if bet s (kp c * 10 ^ (7 - r.length)) r.length then some (kp c * 10 ^ (7 - r.length), r) else s
def lpf {α : Type} (f : Nat → α → α) : Nat → Nat → α → α
  | _, 0, s => s
  | i, n + 1, s => lpf f (i + 1) n (f i s)
def stp (tr : Nat → Nat) (he : Nat) (hate : Nat → Nat) (rec : List Nat → Nat → (Nat → Nat → Nat) → Option (Nat × List Nat) → Option (Nat × List Nat)) (r : List Nat) (tg : Nat) (c : Nat → Nat → Nat) (i : Nat) (s : Option (Nat × List Nat)) : Option (Nat × List Nat) :=
  match oth tr i tg with
  | none => s
  | some h => if nxt hate r i then rec (r ++ [i]) h (pas (tr (5 * i + 2)) (tr (5 * i + 3)) c) (if h = he then tak s (pas (tr (5 * i + 2)) (tr (5 * i + 3)) c) (r ++ [i]) else s) else s
def srch (M : Nat) (tr : Nat → Nat) (he : Nat) (hate : Nat → Nat) : Nat → List Nat → Nat → (Nat → Nat → Nat) → Option (Nat × List Nat) → Option (Nat × List Nat)
  | 0 => fun _ _ _ s => s
  | g + 1 => fun r tg c s => lpf (stp tr he hate (srch M tr he hate g) r tg c) 0 M s
def mx (f : Nat → Nat) : Nat → Nat
  | 0 => 0
  | n + 1 => max (mx f n) (f n)
def kam (c : Nat → Nat → Nat) : Nat := sm (fun t => mx (fun s => c s t) 10) 10
theorem mx_le (f : Nat → Nat) : ∀ n i, i < n → f i ≤ mx f n
  | 0, i, h => by omega
  | n + 1, i, h => by
    rw [mx]
    by_cases hi : i = n
    · subst hi; omega
    · have := mx_le f n i (by omega); omega
theorem mx_lub (f : Nat → Nat) (B : Nat) : ∀ n, (∀ i, i < n → f i ≤ B) → mx f n ≤ B
  | 0, _ => by simp [mx]
  | n + 1, h => by
    have h1 := mx_lub f B n (fun i hi => h i (by omega))
    have h2 := h n (by omega)
    rw [mx]; omega
theorem pac_mono (k q : Nat) (c c' : Nat → Nat → Nat) (s s' u : Nat) : ∀ T, (∀ t, t < T → c s t ≤ c' s' t) → pac k q c T s u ≤ pac k q c' T s' u
  | 0, _ => Nat.le_refl _
  | T + 1, h => by
    have h1 := pac_mono k q c c' s s' u T (fun t ht => h t (by omega))
    have h2 := h T (by omega)
    have h3 : c s T * q ≤ c' s' T * q := Nat.mul_le_mul_right q h2
    have h4 : c s T * (10 - q) ≤ c' s' T * (10 - q) := Nat.mul_le_mul_right (10 - q) h2
    rw [pac, pac]
    split <;> split <;> omega
theorem kam_pas {k q : Nat} (hk : k < 6) (hq : q ≤ 10) (c : Nat → Nat → Nat) : kam (pas k q c) ≤ kam c * 10 := by
  have e := pas_row k q hk hq (fun _ t => mx (fun s => c s t) 10) 0
  show _ ≤ sm (fun t => mx (fun s => c s t) 10) 10 * 10
  rw [← e]
  apply sm_mono
  intro u hu
  apply mx_lub
  intro s hs
  exact pac_mono k q c (fun _ t => mx (fun s => c s t) 10) s 0 u 10 (fun t ht => mx_le (fun s => c s t) 10 s hs)
theorem kp_le (c : Nat → Nat → Nat) : kp c ≤ kam c := sm_mono 10 (fun i hi => mx_le (fun s => c s i) 10 i hi)
theorem kam_le {n : Nat} {c : Nat → Nat → Nat} (h : wM n c) : kam c ≤ 10 * 10 ^ n := by
  have h1 : kam c ≤ sm (fun _ => 10 ^ n) 10 := sm_mono 10 (fun t ht => mx_lub _ _ 10 (fun s hs => wM_le h hs ht))
  have h2 : sm (fun _ => 10 ^ n) 10 = 10 * 10 ^ n := by simp only [sm]; omega
  omega
theorem sm_iff (f : Nat → Nat) (u n : Nat) (h : u < n) : sm (fun i => if u = i then f i else 0) n = f u := by
  have : (fun i => if u = i then f i else 0) = fun i => if u = i then f u else 0 := by
    funext i
    by_cases hi : u = i
    · rw [if_pos hi, if_pos hi, hi]
    · rw [if_neg hi, if_neg hi]
  rw [this, sm_if, if_pos h]
/-- what is kept behind one more, told by what was ahead -/
theorem kp_pas {k : Nat} (q : Nat) (hk : k < 6) (c : Nat → Nat → Nat) : ∀ T, T ≤ 10 → sm (fun s => pac k q c T s s) 10 = sm (fun t => c (md k t) t * q + c (sl (md k t)) t * (10 - q)) T
  | 0, _ => sm_zero 10
  | T + 1, h => by
    have hm := md_lt k hk T (by omega)
    have hs := sl_lt _ hm
    have e : (fun s => pac k q c (T + 1) s s) = fun s => (pac k q c T s s + (if md k T = s then c s T * q else 0)) + (if sl (md k T) = s then c s T * (10 - q) else 0) := by funext u; rfl
    rw [e, sm_add (fun s => pac k q c T s s + (if md k T = s then c s T * q else 0)), sm_add (fun s => pac k q c T s s), kp_pas q hk c T (by omega), sm_iff (fun s => c s T * q) _ _ hm, sm_iff (fun s => c s T * (10 - q)) _ _ hs, sm]
    omega
theorem bet_mono {s : Option (Nat × List Nat)} {B v n n' : Nat} (h : bet s B n = false) (hv : v ≤ B) (hn : n ≤ n') : bet s v n' = false := by
  cases s with
  | none => simp [bet] at h
  | some p =>
    obtain ⟨w, l⟩ := p
    simp only [bet, Bool.or_eq_false_iff, Bool.and_eq_false_iff, decide_eq_false_iff_not] at h ⊢
    obtain ⟨h1, h2⟩ := h
    refine ⟨by omega, ?_⟩
    by_cases hw : v = w
    · right
      rcases h2 with h2 | h2 <;> omega
    · left; exact hw
theorem lpf_id {α : Type} {f : Nat → α → α} {s : α} : ∀ (n i : Nat), (∀ j, i ≤ j → j < i + n → f j s = s) → lpf f i n s = s
  | 0, i, _ => rfl
  | n + 1, i, h => by
    rw [lpf, h i (by omega) (by omega)]
    exact lpf_id n (i + 1) (fun j h1 h2 => h j (by omega) (by omega))
section PRUNE
variable {M sp he : Nat} {tr hate : Nat → Nat}
/-- where no row beyond can be better, nothing changes -/
theorem prn (hw : wC M tr sp he hate) : ∀ (g : Nat) (r : List Nat) (tg : Nat) (c : Nat → Nat → Nat) (s : Option (Nat × List Nat)), r.length + g ≤ 7 → bet s (kam c * 10 ^ (7 - r.length)) (r.length + 1) = false → srch M tr he hate g r tg c s = s
  | 0, r, tg, c, s, _, _ => rfl
  | g + 1, r, tg, c, s, hl, hb => by
    show lpf (stp tr he hate (srch M tr he hate g) r tg c) 0 M s = s
    apply lpf_id
    intro i _ hi
    have gi := hw.2.2.2.2 i (by omega)
    have e7 : 10 ^ (7 - r.length) = 10 * 10 ^ (7 - (r.length + 1)) := by
      rw [show 7 - r.length = 7 - (r.length + 1) + 1 by omega, Nat.pow_succ, Nat.mul_comm]
    have hk1 := kam_pas gi.2.2.2.1 (show tr (5 * i + 3) ≤ 10 by omega) c
    have hk2 := kp_le (pas (tr (5 * i + 2)) (tr (5 * i + 3)) c)
    unfold stp
    cases oth tr i tg with
    | none => rfl
    | some h =>
      show (if nxt hate r i = true then _ else _) = _
      by_cases hn : nxt hate r i = true
      · rw [if_pos hn]
        generalize pas (tr (5 * i + 2)) (tr (5 * i + 3)) c = c' at *
        have b2 : kam c' * 10 ^ (7 - (r.length + 1)) ≤ kam c * 10 ^ (7 - r.length) := by
          rw [e7, ← Nat.mul_assoc]; exact Nat.mul_le_mul_right _ hk1
        have b1 : kp c' * 10 ^ (7 - (r.length + 1)) ≤ kam c' * 10 ^ (7 - (r.length + 1)) := Nat.mul_le_mul_right _ hk2
        have hlen : (r ++ [i]).length = r.length + 1 := by simp
        have t1 : tak s c' (r ++ [i]) = s := by
          unfold tak
          rw [hlen, if_neg (by rw [bet_mono hb (by omega) (Nat.le_refl _)]; simp)]
        have t2 : (if h = he then tak s c' (r ++ [i]) else s) = s := by rw [t1]; split <;> rfl
        rw [t2]
        exact prn hw g (r ++ [i]) h c' s (by rw [hlen]; omega) (by rw [hlen]; exact bet_mono hb b2 (by omega))
      · rw [if_neg hn]
/-- where all are seated, nothing changes -/
theorem prn_all (g : Nat) (r : List Nat) (tg : Nat) (c : Nat → Nat → Nat) (s : Option (Nat × List Nat)) (h : ∀ i, i < M → i ∈ r) : srch M tr he hate g r tg c s = s := by
  cases g with
  | zero => rfl
  | succ g =>
    show lpf (stp tr he hate (srch M tr he hate g) r tg c) 0 M s = s
    apply lpf_id
    intro i _ hi
    unfold stp
    cases oth tr i tg with
    | none => rfl
    | some h2 =>
      show (if nxt hate r i = true then _ else _) = _
      rw [if_neg (by simp [nxt, h i (by omega)])]
end PRUNE
theorem nd_all {M : Nat} {r : List Nat} (hn : r.Nodup) (hr : ∀ i, i ∈ r → i < M) (hl : M ≤ r.length) {i : Nat} (hi : i < M) : i ∈ r := by
  by_cases h : i ∈ r
  · exact h
  · exfalso
    have h1 := nd_len M (i :: r) (List.nodup_cons.mpr ⟨h, hn⟩) (fun j hj => by
      rcases List.mem_cons.mp hj with h2 | h2
      · omega
      · exact hr j h2)
    simp at h1
    omega
theorem thru_app (tr : Nat → Nat) (i : Nat) : ∀ (r : List Nat) (c : Nat → Nat → Nat), thru tr (r ++ [i]) c = pas (tr (5 * i + 2)) (tr (5 * i + 3)) (thru tr r c)
  | [], c => rfl
  | j :: r, c => by
    show thru tr (r ++ [i]) _ = _
    rw [thru_app tr i r]; rfl
theorem bts_app (i : Nat) : ∀ (r : List Nat) (m : Nat), bts (r ++ [i]) m = bts r m ||| 2 ^ i
  | [], m => rfl
  | j :: r, m => by
    show bts (r ++ [i]) _ = _
    rw [bts_app i r]; rfl
theorem bts_in : ∀ (l : List Nat) (m j : Nat), (m.testBit j = true ∨ j ∈ l) → (bts l m).testBit j = true
  | [], m, j, h => by
    rcases h with h | h
    · exact h
    · simp at h
  | i :: l, m, j, h => by
    apply bts_in l
    rcases h with h | h
    · left; rw [Nat.testBit_or, h]; rfl
    · rcases List.mem_cons.mp h with h | h
      · left; rw [Nat.testBit_or, h, Nat.testBit_two_pow_self, Bool.or_true]
      · right; exact h
