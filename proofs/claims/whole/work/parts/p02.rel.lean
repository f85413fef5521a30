/-! ===== what class and reference hold, in plain words ===== -/
/-- the text: n bytes t -/
def pT (n : Nat) (t : Nat → Nat) (len : Int32) (by_ : Nat → Int32) : Prop := n ≤ 200 ∧ len = nI n ∧ ∀ k, k < n → t k < 256 ∧ by_ k = nI (t k)
def qT (n : Nat) (t : Nat → Nat) (len : Int32) (tx : Nat → Int32) : Prop := len = nI n ∧ ∀ k, k < n → tx k = (nI (t k)).toInt8.toInt32
/-- a court of M interpreters -/
def wC (M : Nat) (tr : Nat → Nat) (sp he : Nat) (hate : Nat → Nat) : Prop := M ≤ 7 ∧ sp < 9 ∧ he < 9 ∧ (∀ i, i < 7 → hate i < 128) ∧ ∀ i, i < M → tr (5 * i) < 9 ∧ tr (5 * i + 1) < 9 ∧ tr (5 * i) ≠ tr (5 * i + 1) ∧ tr (5 * i + 2) < 6 ∧ tr (5 * i + 3) < 11 ∧ tr (5 * i + 4) < 100
def pC (M : Nat) (tr : Nat → Nat) (sp he : Nat) (hate : Nat → Nat) (mo sk hr : Int32) (ts hs : Nat → Int32) : Prop := mo = nI M ∧ sk = nI sp ∧ hr = nI he ∧ (∀ k, k < 5 * M → ts k = nI (tr k)) ∧ ∀ i, i < 7 → hs i = nI (hate i)
/-- the same in the reference, at its place o (0 laid, 1 told) -/
def qC (o M : Nat) (tr : Nat → Nat) (sp he : Nat) (hate : Nat → Nat) (told mouths mouth hates : Nat → Int32) : Prop := mouths o = nI M ∧ told (2 * o) = nI sp ∧ told (2 * o + 1) = nI he ∧ (∀ k, k < 5 * M → mouth (35 * o + k) = nI (tr k)) ∧ ∀ i, i < 7 → hates (7 * o + i) = nI (hate i)
/-- a chain ch and a sentence wd -/
def wH (M : Nat) (ch wd : List Nat) : Prop := ch.Nodup ∧ ch.length ≤ 7 ∧ (∀ i, i ∈ ch → i < M) ∧ wd.length ≤ 12 ∧ ∀ s, s ∈ wd → s < 10
def pH (ch wd : List Nat) (se spo : Int32) (seats words : Nat → Int32) : Prop := se = nI ch.length ∧ spo = nI wd.length ∧ (∀ k, k < ch.length → seats k = nI (ch.getD k 0)) ∧ ∀ k, k < wd.length → words k = nI (wd.getD k 0)
def qH (o : Nat) (ch wd : List Nat) (seated chain words word : Nat → Int32) : Prop := seated o = nI ch.length ∧ words o = nI wd.length ∧ (∀ k, k < ch.length → chain (7 * o + k) = nI (ch.getD k 0)) ∧ ∀ k, k < wd.length → word (12 * o + k) = nI (wd.getD k 0)
/-- the steps that can be undone, the latest first: i below 10 he was seated, 10 + i unseated -/
def wS (M : Nat) : List Nat → List Nat → Prop
  | [], _ => True
  | c :: dr, ch => (c < 10 → ch ≠ [] ∧ wS M dr ch.dropLast) ∧ (10 ≤ c → c - 10 < M ∧ c - 10 ∉ ch ∧ wS M dr (ch ++ [c - 10]))
def pS (dr : List Nat) (held : Int32) (latest : Nat → Int32) : Prop := dr.length ≤ 8 ∧ held = nI dr.length ∧ ∀ k, k < dr.length → latest (dr.length - 1 - k) = (if dr.getD k 0 < 10 then -1 else nI (dr.getD k 0 - 10))
def qS (dr : List Nat) (done : Int32) (did : Nat → Int32) : Prop := done = nI dr.length ∧ (∀ k, k < dr.length → dr.getD k 0 < 20) ∧ ∀ k, k < dr.length → did (dr.length - 1 - k) = nI (dr.getD k 0)
