/-! X0_has: MouthsToJudge$Court has (I)Z -/
def X0_has (x1 v_this_mouths : Int32) : Option (Int32) := (if x1 < 0 then some (0 : Int32) else (if v_this_mouths ≤ x1 then some (0 : Int32) else (if (7 : Int32) ≤ x1 then some (0 : Int32) else some (1 : Int32))))
/-! X0_trait: MouthsToJudge$Court trait (II)I -/
def X0_trait (x1 x2 v_this_mouths : Int32) (v_this_traits : Nat → Int32) : Option (Int32) := (gx_b (X0_has x1 v_this_mouths) (fun r1 => (if r1 = 0 then some (-1 : Int32) else (if x2 < 0 then some (-1 : Int32) else (if x2 < (5 : Int32) then (if gx_in ((x1 * (5 : Int32)) + x2) 35 then some (v_this_traits ((x1 * (5 : Int32)) + x2).toNatClampNeg) else none) else some (-1 : Int32))))))
/-! X1_holds: MouthsToJudge$Hearing holds (I)Z -/
def X1_holds_b2 (k2 : Int32 → Int32 → Int32 → (Nat → Int32) → Option (Int32)) (x1 x2 v_this_seated : Int32) (v_this_seats : Nat → Int32) : Option (Int32) := (if v_this_seated ≤ x2 then some (0 : Int32) else (if (7 : Int32) ≤ x2 then some (0 : Int32) else (if gx_in x2 7 then (if (v_this_seats x2.toNatClampNeg) = x1 then some (1 : Int32) else k2 x1 (x2 + 1) v_this_seated v_this_seats) else none)))
def X1_holds_l2  : Nat → Int32 → Int32 → Int32 → (Nat → Int32) → Option (Int32)
  | 0 => fun _ _ _ _ => none
  | n + 1 => X1_holds_b2 (X1_holds_l2 n)
def X1_holds (x1 v_this_seated : Int32) (v_this_seats : Nat → Int32) : Option (Int32) := X1_holds_l2 gx_F x1 (0 : Int32) v_this_seated v_this_seats
/-! X1_seatAt: MouthsToJudge$Hearing seatAt (I)I -/
def X1_seatAt (x1 v_this_seated : Int32) (v_this_seats : Nat → Int32) : Option (Int32) := (if x1 < 0 then some (-4 : Int32) else (if v_this_seated ≤ x1 then some (-4 : Int32) else (if (7 : Int32) ≤ x1 then some (-4 : Int32) else (if gx_in x1 7 then some (v_this_seats x1.toNatClampNeg) else none))))
/-! X1_seatBits: MouthsToJudge$Hearing seatBits ()I -/
def X1_seatBits_b4 (k4 : Int32 → Int32 → Int32 → (Nat → Int32) → Option (Int32)) (x1 x2 v_this_seated : Int32) (v_this_seats : Nat → Int32) : Option (Int32) := (if v_this_seated ≤ x2 then some x1 else (if (7 : Int32) ≤ x2 then some x1 else (if gx_in x2 7 then (gx_l (x1 ||| ((1 : Int32) <<< ((v_this_seats x2.toNatClampNeg) &&& 31))) (fun y2 => k4 y2 (x2 + 1) v_this_seated v_this_seats)) else none)))
def X1_seatBits_l4  : Nat → Int32 → Int32 → Int32 → (Nat → Int32) → Option (Int32)
  | 0 => fun _ _ _ _ => none
  | n + 1 => X1_seatBits_b4 (X1_seatBits_l4 n)
def X1_seatBits (v_this_seated : Int32) (v_this_seats : Nat → Int32) : Option (Int32) := X1_seatBits_l4 gx_F (0 : Int32) (0 : Int32) v_this_seated v_this_seats
/-! X1_seated: MouthsToJudge$Hearing seated ()I -/
def X1_seated (v_this_seated : Int32) : Option (Int32) := some v_this_seated
/-! X1_sit: MouthsToJudge$Hearing sit (I)V -/
def X1_sit (x1 v_this_seated : Int32) (v_this_seats : Nat → Int32) : Option (Int32 × (Nat → Int32)) := (if (7 : Int32) ≤ v_this_seated then some (v_this_seated, v_this_seats) else (if gx_in v_this_seated 7 then some (v_this_seated + (1 : Int32), upd v_this_seats v_this_seated.toNatClampNeg x1) else none))
/-! X5_forget: MouthsToJudge$Steps forget ()V -/
def X5_forget (v_this_held : Int32) : Option (Int32) := some (0 : Int32)
/-! X5_held: MouthsToJudge$Steps held ()I -/
def X5_held (v_this_held : Int32) : Option (Int32) := some v_this_held
/-! X5_note: MouthsToJudge$Steps note (I)V -/
def X5_note_b30 (x1 v_this_held : Int32) (v_this_latest : Nat → Int32) : Option (Int32 × (Nat → Int32)) := (if gx_in v_this_held 8 then some (v_this_held + (1 : Int32), upd v_this_latest v_this_held.toNatClampNeg x1) else none)
def X5_note (x1 v_this_held : Int32) (v_this_latest : Nat → Int32) : Option (Int32 × (Nat → Int32)) := (if v_this_held < (8 : Int32) then X5_note_b30 x1 v_this_held v_this_latest else X5_note_b30 x1 (7 : Int32) (va_cpy v_this_latest v_this_latest (1 : Int32).toNatClampNeg (0 : Int32).toNatClampNeg (7 : Int32).toNatClampNeg))
/-! X5_takeLatest: MouthsToJudge$Steps takeLatest ()I -/
def X5_takeLatest (v_this_held : Int32) (v_this_latest : Nat → Int32) : Option (Int32 × Int32) := (if 0 < v_this_held then (if gx_in (v_this_held - (1 : Int32)) 8 then some (v_this_latest (v_this_held - (1 : Int32)).toNatClampNeg, v_this_held - (1 : Int32)) else none) else some ((-1 : Int32), v_this_held))
