-- needs 27.copy
/-! what a season's text says: the place where the reading stops, and, if it is well, the codes and what they mean -/
abbrev pE : Type := List Int32 × (zW0 → Bool)
abbrev pA : Type := List Int32 × Int32 × (zW0 → Int32)
def tk (x : zW0) (s : Nat) (c : Int32) (p : Nat) : Bool := decide (p < s) && decide (x p = c)
def pDig (x : zW0) (s p : Nat) : Bool := decide (p < s) && decide (¬ x p < 48) && decide (¬ 57 < x p)
def pNum (x : zW0) (s p : Nat) : Nat × Option Int32 :=
  if pDig x s p then (if pDig x s (p + 1) then (p + 2, some (10 * (x p - 48) + x (p + 1) - 48)) else (p + 1, some (x p - 48))) else (p, none)
def pLet (c : Int32) : Bool := decide (c = 112 ∨ c = 107 ∨ c = 118 ∨ c = 119 ∨ c = 116 ∨ c = 100)
def pRel (c : Int32) : Bool := decide (c = 60 ∨ c = 61 ∨ c = 62)
def pCode (c r n : Int32) : Int32 := iShl c 16 ||| iShl r 8 ||| n
def pTest (x : zW0) (s p : Nat) : Nat × Option pE :=
  if decide (p < s) && pLet (x p) then
    (if decide (p + 1 < s) && pRel (x (p + 1)) then
      (match pNum x s (p + 2) with
        | (q, some n) => (q, some ([pCode (x p) (x (p + 1)) n], fun nm => decide (sCmp (sLet (x p) nm) (x (p + 1)) n = 1)))
        | (q, none) => (q, none))
    else (p + 1, none))
  else (p, none)
def pAnd (x : zW0) (s : Nat) (F : Nat → Nat × Option pE) : Nat → pE → Nat → Nat × Option pE
  | 0, e, p => (p, some e)
  | m + 1, e, p => if tk x s 38 p then (match F (p + 1) with
      | (q, some e2) => pAnd x s F m (e.1 ++ e2.1 ++ [pCode 38 0 0], fun nm => e.2 nm && e2.2 nm) q
      | (q, none) => (q, none)) else (p, some e)
def pBoth (x : zW0) (s : Nat) (F : Nat → Nat × Option pE) (p : Nat) : Nat × Option pE := match F p with
  | (q, some e) => pAnd x s F s e q
  | (q, none) => (q, none)
def pOr (x : zW0) (s : Nat) (F : Nat → Nat × Option pE) : Nat → pE → Nat → Nat × Option pE
  | 0, e, p => (p, some e)
  | m + 1, e, p => if tk x s 124 p then (match pBoth x s F (p + 1) with
      | (q, some e2) => pOr x s F m (e.1 ++ e2.1 ++ [pCode 124 0 0], fun nm => e.2 nm || e2.2 nm) q
      | (q, none) => (q, none)) else (p, some e)
def pAny (x : zW0) (s : Nat) (F : Nat → Nat × Option pE) (p : Nat) : Nat × Option pE := match pBoth x s F p with
  | (q, some e) => pOr x s F s e q
  | (q, none) => (q, none)
def pFac (x : zW0) (s : Nat) : Nat → Nat → Nat × Option pE
  | 0, p => pTest x s p
  | k + 1, p => if tk x s 33 p then (match pFac x s k (p + 1) with
      | (q, some e) => (q, some (e.1 ++ [pCode 33 0 0], fun nm => !e.2 nm))
      | (q, none) => (q, none))
    else if tk x s 40 p then (match pAny x s (pFac x s k) (p + 1) with
      | (q, some e) => if tk x s 41 q then (q + 1, some e) else (q, none)
      | (q, none) => (q, none))
    else pTest x s p
def pWord (x : zW0) (s : Nat) : List Int32 → Nat → Nat × Bool
  | [], p => (p, true)
  | c :: l, p => if tk x s c p then pWord x s l (p + 1) else (p, false)
/-- more, less: the sign, the number with its sign -/
def pMore (x : zW0) (s : Nat) (c : Int32) (g : Int32 → Int32) (word : List Int32) (a : pA) (p : Nat) : Nat × Option pA := match pWord x s word p with
  | (q, true) => (match pNum x s q with
    | (q1, some n) => if tk x s 32 q1 then (match pAny x s (pFac x s 4) (q1 + 1) with
        | (q2, some e) => (q2, some (a.1 ++ e.1 ++ [pCode c 0 n], a.2.1, fun nm => a.2.2 nm + (if e.2 nm then g n else 0)))
        | (q2, none) => (q2, none)) else (q1, none)
    | (q1, none) => (q1, none))
  | (q, false) => (q, none)
def pClause (x : zW0) (s : Nat) (a : pA) (p : Nat) : Nat × Option pA :=
  if tk x s 109 p then pMore x s 109 (fun n => n) [109, 111, 114, 101, 32] a p
  else if tk x s 108 p then pMore x s 108 (fun n => -n) [108, 101, 115, 115, 32] a p
  else match pWord x s [112, 97, 121, 32] p with
    | (q, true) => (match pNum x s q with
      | (q1, some n) => (q1, some (a.1, n, a.2.2))
      | (q1, none) => (q1, none))
    | (q, false) => (q, none)
def pAll (x : zW0) (s : Nat) : Nat → pA → Nat → Nat × Option pA
  | 0, a, p => (p, none)
  | m + 1, a, p => match pClause x s a p with
    | (q, some a2) => if m ≠ 0 ∧ tk x s 59 q then pAll x s m a2 (q + 1) else if q = s then (q, some a2) else (q, none)
    | (q, none) => (q, none)
def pA0 : pA := ([], 10, fun _ => 0)
/-- the reference's season that holds -/
def Tx (h : zH) (w : zW0) (py : Int32) (ex : zW0 → Int32) : Prop := (w 63 = 0 ∧ py = 10 ∧ ex = fun _ => 0) ∨ ∃ (r s p : Nat) (cs : List Int32), r < 6 ∧ w 63 = nI (r + 1) ∧ zI h 94 r = nI s ∧ s ≤ 100 ∧ pAll (fun k => zI h 93 (100 * r + k)) s 10 pA0 0 = (p, some (cs, py, ex))
