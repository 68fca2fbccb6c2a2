/-! THE FRESH OBJECTS -/
def gH (x : aR) : aH := match x with
  | some (_, h) => h
  | none => []
def isN (x : aR) : Bool := match x with
  | some (none, _) => true
  | _ => false
theorem isN_eq {x : aR} (h : isN x = true) : x = some (none, gH x) := by
  match x, h with
  | some (none, h), _ => rfl
def oX : aE := .inr (.inr (.inr (4, [.null, .null, .null, .null, .null, .int 0, .int 0, .int 0, .int 0])))
def oY : aE := .inr (.inr (.inr (5, [.null, .int 0, .null, .null, .int 0, .null, .int 0, .int 0, .int 0, .int 0, .int 0, .int 0, .null, .null, .null, .null, .null, .int 0, .null, .int 0])))
def hX : aH := gH (exM LL 100000 8 62 [.inl (.ref 0)] [oX])
set_option maxRecDepth 100000 in
theorem hX_ok : isN (exM LL 100000 8 62 [.inl (.ref 0)] [oX]) = true := by decide +kernel
set_option maxRecDepth 100000 in
theorem hX_len : hX.length = 89 := by decide +kernel
def hY : aH := gH (exM LL 100000 8 95 [.inl (.ref 89)] (hX ++ [oY]))
set_option maxRecDepth 100000 in
theorem hY_ok : isN (exM LL 100000 8 95 [.inl (.ref 89)] (hX ++ [oY])) = true := by decide +kernel
def ckL (L k : Nat) (sc : List aV) : Bool := runB (exM LL 100000 8) (PL L k sc) 780 600000 7302250 100000 16 [(2, .inl (.ref 89)), (1, .inl (.ref 0)), (0, .inr (2, 0))] [] hY 100 21436
def scv (v : aV) : List aV := [.inr (0, 8), v, .inr (0, 2), .inr (0, 5)]
def ck4 (B k : Nat) : Bool := ckL 4 k (scv (.inr (0, 0))) && (ckL 4 k (scv (.inr (0, 3 * B + 1))) && (List.range B).all (fun c => ckL 4 k (scv (.inl (.int (nI c))))))
