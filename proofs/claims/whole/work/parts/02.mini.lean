/-! THE MINI MACHINE: heap, instructions, what a program does (least fixed point) -/
abbrev zH : Type := (Nat → Nat × Nat) × (Nat → Nat → Int32) × (Nat → Nat → Int64) × (Nat → Nat → Value) × Nat × Nat
def zT (h : zH) (a : Nat) : Nat × Nat := h.1 a
def zI (h : zH) (a k : Nat) : Int32 := h.2.1 a k
def zJ (h : zH) (a k : Nat) : Int64 := h.2.2.1 a k
def zR (h : zH) (a k : Nat) : Value := h.2.2.2.1 a k
def zN (h : zH) : Nat := h.2.2.2.2.1
def zZ (h : zH) : Nat := h.2.2.2.2.2
def z2 {α : Type} (f : Nat → Nat → α) (a : Nat) (g : Nat → α) : Nat → Nat → α := fun b => if b = a then g else f b
/-- a whole row of ints, longs, refs becomes g -/
def wIr (h : zH) (a : Nat) (g : Nat → Int32) : zH := (h.1, z2 h.2.1 a g, h.2.2)
def wJr (h : zH) (a : Nat) (g : Nat → Int64) : zH := (h.1, h.2.1, z2 h.2.2.1 a g, h.2.2.2)
def wRr (h : zH) (a : Nat) (g : Nat → Value) : zH := (h.1, h.2.1, h.2.2.1, z2 h.2.2.2.1 a g, h.2.2.2.2)
def wI (h : zH) (a k : Nat) (x : Int32) : zH := wIr h a (va_up (zI h a) k x)
def wJ (h : zH) (a k : Nat) (x : Int64) : zH := wJr h a (va_up (zJ h a) k x)
def wR (h : zH) (a k : Nat) (x : Value) : zH := wRr h a (va_up (zR h a) k x)
/-- a new cell, all 0 and null -/
def wN (h : zH) (t : Nat × Nat) : zH := (fun a => if a = zN h then t else zT h a, fun a => if a = zN h then fun _ => 0 else zI h a, fun a => if a = zN h then fun _ => 0 else zJ h a, fun a => if a = zN h then fun _ => .null else zR h a, zN h + 1, zZ h + t.2)
theorem zT_wI (h : zH) (a k : Nat) (x : Int32) : zT (wI h a k x) = zT h := rfl
theorem zT_wJ (h : zH) (a k : Nat) (x : Int64) : zT (wJ h a k x) = zT h := rfl
theorem zT_wR (h : zH) (a k : Nat) (x : Value) : zT (wR h a k x) = zT h := rfl
theorem zT_wIr (h : zH) (a : Nat) (x : Nat → Int32) : zT (wIr h a x) = zT h := rfl
theorem zT_wJr (h : zH) (a : Nat) (x : Nat → Int64) : zT (wJr h a x) = zT h := rfl
theorem zT_wRr (h : zH) (a : Nat) (x : Nat → Value) : zT (wRr h a x) = zT h := rfl
theorem zI_wJ (h : zH) (a k : Nat) (x : Int64) : zI (wJ h a k x) = zI h := rfl
theorem zI_wR (h : zH) (a k : Nat) (x : Value) : zI (wR h a k x) = zI h := rfl
theorem zI_wJr (h : zH) (a : Nat) (x : Nat → Int64) : zI (wJr h a x) = zI h := rfl
theorem zI_wRr (h : zH) (a : Nat) (x : Nat → Value) : zI (wRr h a x) = zI h := rfl
theorem zJ_wI (h : zH) (a k : Nat) (x : Int32) : zJ (wI h a k x) = zJ h := rfl
theorem zJ_wR (h : zH) (a k : Nat) (x : Value) : zJ (wR h a k x) = zJ h := rfl
theorem zJ_wIr (h : zH) (a : Nat) (x : Nat → Int32) : zJ (wIr h a x) = zJ h := rfl
theorem zJ_wRr (h : zH) (a : Nat) (x : Nat → Value) : zJ (wRr h a x) = zJ h := rfl
theorem zR_wI (h : zH) (a k : Nat) (x : Int32) : zR (wI h a k x) = zR h := rfl
theorem zR_wJ (h : zH) (a k : Nat) (x : Int64) : zR (wJ h a k x) = zR h := rfl
theorem zR_wIr (h : zH) (a : Nat) (x : Nat → Int32) : zR (wIr h a x) = zR h := rfl
theorem zR_wJr (h : zH) (a : Nat) (x : Nat → Int64) : zR (wJr h a x) = zR h := rfl
theorem zN_wI (h : zH) (a k : Nat) (x : Int32) : zN (wI h a k x) = zN h := rfl
theorem zN_wJ (h : zH) (a k : Nat) (x : Int64) : zN (wJ h a k x) = zN h := rfl
theorem zN_wR (h : zH) (a k : Nat) (x : Value) : zN (wR h a k x) = zN h := rfl
theorem zN_wIr (h : zH) (a : Nat) (x : Nat → Int32) : zN (wIr h a x) = zN h := rfl
theorem zN_wJr (h : zH) (a : Nat) (x : Nat → Int64) : zN (wJr h a x) = zN h := rfl
theorem zN_wRr (h : zH) (a : Nat) (x : Nat → Value) : zN (wRr h a x) = zN h := rfl
theorem zZ_wI (h : zH) (a k : Nat) (x : Int32) : zZ (wI h a k x) = zZ h := rfl
theorem zZ_wJ (h : zH) (a k : Nat) (x : Int64) : zZ (wJ h a k x) = zZ h := rfl
theorem zZ_wR (h : zH) (a k : Nat) (x : Value) : zZ (wR h a k x) = zZ h := rfl
theorem zZ_wIr (h : zH) (a : Nat) (x : Nat → Int32) : zZ (wIr h a x) = zZ h := rfl
theorem zZ_wJr (h : zH) (a : Nat) (x : Nat → Int64) : zZ (wJr h a x) = zZ h := rfl
theorem zZ_wRr (h : zH) (a : Nat) (x : Nat → Value) : zZ (wRr h a x) = zZ h := rfl
theorem zI_wIr (h : zH) (a : Nat) (g : Nat → Int32) (b : Nat) : zI (wIr h a g) b = if b = a then g else zI h b := rfl
theorem zJ_wJr (h : zH) (a : Nat) (g : Nat → Int64) (b : Nat) : zJ (wJr h a g) b = if b = a then g else zJ h b := rfl
theorem zR_wRr (h : zH) (a : Nat) (g : Nat → Value) (b : Nat) : zR (wRr h a g) b = if b = a then g else zR h b := rfl
theorem zI_wI (h : zH) (a k : Nat) (x : Int32) (b : Nat) : zI (wI h a k x) b = if b = a then va_up (zI h a) k x else zI h b := rfl
theorem zJ_wJ (h : zH) (a k : Nat) (x : Int64) (b : Nat) : zJ (wJ h a k x) b = if b = a then va_up (zJ h a) k x else zJ h b := rfl
theorem zR_wR (h : zH) (a k : Nat) (x : Value) (b : Nat) : zR (wR h a k x) b = if b = a then va_up (zR h a) k x else zR h b := rfl
theorem zT_wN (h : zH) (t : Nat × Nat) (b : Nat) : zT (wN h t) b = if b = zN h then t else zT h b := rfl
theorem zI_wN (h : zH) (t : Nat × Nat) (b : Nat) : zI (wN h t) b = if b = zN h then fun _ => 0 else zI h b := rfl
theorem zJ_wN (h : zH) (t : Nat × Nat) (b : Nat) : zJ (wN h t) b = if b = zN h then fun _ => 0 else zJ h b := rfl
theorem zR_wN (h : zH) (t : Nat × Nat) (b : Nat) : zR (wN h t) b = if b = zN h then fun _ => .null else zR h b := rfl
theorem zN_wN (h : zH) (t : Nat × Nat) : zN (wN h t) = zN h + 1 := rfl
theorem zZ_wN (h : zH) (t : Nat × Nat) : zZ (wN h t) = zZ h + t.2 := rfl
/-- locals -/
abbrev zL : Type := List (Option Value)
def lg : zL → Nat → Option Value
  | [], _ => none
  | v :: _, 0 => v
  | _ :: l, n + 1 => lg l n
def kl : Option Value → Option Value
  | some (.long _) => none
  | some (.double _) => none
  | v => v
theorem kl_int (x : Int32) : kl (some (.int x)) = some (.int x) := rfl
theorem kl_ref (x : Nat) : kl (some (.ref x)) = some (.ref x) := rfl
theorem kl_null : kl (some .null) = some .null := rfl
theorem kl_none : kl none = none := rfl
theorem kl_long (x : Int64) : kl (some (.long x)) = none := rfl
theorem kl_kl (v : Option Value) : kl (kl v) = kl v := by
  rcases v with _ | v
  · rfl
  · cases v <;> rfl
/-- one word at k -/
def ls1 : zL → Nat → Value → zL
  | [], _, _ => []
  | _ :: l, 0, v => some v :: l
  | w :: l, 1, v => kl w :: ls1 l 0 v
  | w :: l, n + 2, v => w :: ls1 l (n + 1) v
/-- two words at k -/
def ls2 : zL → Nat → Value → zL
  | [], _, _ => []
  | _ :: [], 0, _ => [none]
  | _ :: _ :: l, 0, v => some v :: none :: l
  | w :: l, 1, v => kl w :: ls2 l 0 v
  | w :: l, n + 2, v => w :: ls2 l (n + 1) v
/-- a place of a row -/
abbrev zin (i : Int32) (n : Nat) : Prop := ¬ i < 0 ∧ i.toNatClampNeg < n
/-- what one instruction does: it goes on, returns, or calls; or it is none -/
abbrev zS : Type := Nat × zL × List Value × zH
abbrev zX : Type := Option (zS ⊕ ((Option Value × zH) ⊕ (Nat × List Value × zS)))
def rN (pc : Nat) (L : zL) (st : List Value) (h : zH) : zX := some (.inl (pc, L, st, h))
def rQ (v : Option Value) (h : zH) : zX := some (.inr (.inl (v, h)))
def rC (y : Nat) (as : List Value) (pc : Nat) (L : zL) (st : List Value) (h : zH) : zX := some (.inr (.inr (y, as, pc, L, st, h)))
abbrev zOp : Type := zL → List Value → zH → zX
abbrev zPr : Type := Nat → zL → List Value → zH → Prop
abbrev zQq : Type := Option Value → zH → Prop
abbrev zCa : Type := Nat → List Value → zH → zQq → Prop
def zpush (v : Option Value) (st : List Value) : List Value := match v with
  | some v => v :: st
  | none => st
theorem zpush_s (v : Value) (st : List Value) : zpush (some v) st = v :: st := rfl
theorem zpush_n (st : List Value) : zpush none st = st := rfl
def wp (N : zPr) (Q : zQq) (C : zCa) : zX → Prop
  | none => False
  | some (.inl (pc, L, st, h)) => N pc L st h
  | some (.inr (.inl (v, h))) => Q v h
  | some (.inr (.inr (y, as, pc, L, st, h))) => C y as h (fun v h1 => N pc L (zpush v st) h1)
/-! the instructions -/
def zF : zOp := fun _ _ _ => none
def op_c (v : Value) (nx : Nat) : zOp := fun L st h => rN nx L (v :: st) h
def op_ldI (k nx : Nat) : zOp := fun L st h => match lg L k with
  | some (.int x) => rN nx L (.int x :: st) h
  | _ => none
def op_ldJ (k nx : Nat) : zOp := fun L st h => match lg L k with
  | some (.long x) => rN nx L (.long x :: st) h
  | _ => none
def op_ldA (k nx : Nat) : zOp := fun L st h => match lg L k with
  | some (.ref x) => rN nx L (.ref x :: st) h
  | _ => none
def op_stI (k nx : Nat) : zOp := fun L st h => match st with
  | .int x :: st => if k < L.length then rN nx (ls1 L k (.int x)) st h else none
  | _ => none
def op_stA (k nx : Nat) : zOp := fun L st h => match st with
  | .ref x :: st => if k < L.length then rN nx (ls1 L k (.ref x)) st h else none
  | _ => none
def op_stJ (k nx : Nat) : zOp := fun L st h => match st with
  | .long x :: st => if k + 1 < L.length then rN nx (ls2 L k (.long x)) st h else none
  | _ => none
def op_inc (k : Nat) (n : Int32) (nx : Nat) : zOp := fun L st h => match lg L k with
  | some (.int x) => rN nx (ls1 L k (.int (x + n))) st h
  | _ => none
def op_pop (nx : Nat) : zOp := fun L st h => match st with
  | .int _ :: st => rN nx L st h
  | .ref _ :: st => rN nx L st h
  | _ => none
def op_dup (nx : Nat) : zOp := fun L st h => match st with
  | .int x :: st => rN nx L (.int x :: .int x :: st) h
  | .ref x :: st => rN nx L (.ref x :: .ref x :: st) h
  | _ => none
def op_dup2 (nx : Nat) : zOp := fun L st h => match st with
  | .int x :: .ref y :: st => rN nx L (.int x :: .ref y :: .int x :: .ref y :: st) h
  | _ => none
def op_b (f : Int32 → Int32 → Int32) (nx : Nat) : zOp := fun L st h => match st with
  | .int y :: .int x :: st => rN nx L (.int (f x y) :: st) h
  | _ => none
def op_d (f : Int32 → Int32 → Int32) (nx : Nat) : zOp := fun L st h => match st with
  | .int y :: .int x :: st => if y = 0 then none else rN nx L (.int (f x y) :: st) h
  | _ => none
def op_u (f : Int32 → Int32) (nx : Nat) : zOp := fun L st h => match st with
  | .int x :: st => rN nx L (.int (f x) :: st) h
  | _ => none
def op_lb (f : Int64 → Int64 → Int64) (nx : Nat) : zOp := fun L st h => match st with
  | .long y :: .long x :: st => rN nx L (.long (f x y) :: st) h
  | _ => none
def op_ldv (f : Int64 → Int64 → Int64) (nx : Nat) : zOp := fun L st h => match st with
  | .long y :: .long x :: st => if y = 0 then none else rN nx L (.long (f x y) :: st) h
  | _ => none
def op_lsh (f : Int64 → Int32 → Int64) (nx : Nat) : zOp := fun L st h => match st with
  | .int y :: .long x :: st => rN nx L (.long (f x y) :: st) h
  | _ => none
def op_i2l (nx : Nat) : zOp := fun L st h => match st with
  | .int x :: st => rN nx L (.long x.toInt64 :: st) h
  | _ => none
def op_l2i (nx : Nat) : zOp := fun L st h => match st with
  | .long x :: st => rN nx L (.int x.toInt32 :: st) h
  | _ => none
def zcmp (x y : Int64) : Int32 := if y < x then 1 else if x = y then 0 else -1
def op_lcmp (nx : Nat) : zOp := fun L st h => match st with
  | .long y :: .long x :: st => rN nx L (.int (zcmp x y) :: st) h
  | _ => none
def op_i1 (P : Int32 → Prop) [DecidablePred P] (t nx : Nat) : zOp := fun L st h => match st with
  | .int x :: st => if P x then rN t L st h else rN nx L st h
  | _ => none
def op_i2 (P : Int32 → Int32 → Prop) [∀ x y, Decidable (P x y)] (t nx : Nat) : zOp := fun L st h => match st with
  | .int y :: .int x :: st => if P x y then rN t L st h else rN nx L st h
  | _ => none
/-- ifnull -/
def op_nul (t nx : Nat) : zOp := fun L st h => match st with
  | .null :: st => rN t L st h
  | .ref a :: st => if (zT h a).1 < 20 then rN nx L st h else none
  | _ => none
def op_go (t : Nat) : zOp := fun L st h => rN t L st h
def zsw (x : Int32) (L : zL) (st : List Value) (h : zH) (d : Nat) : List (Int32 × Nat) → zX
  | [] => rN d L st h
  | (k, t) :: l => if x = k then rN t L st h else zsw x L st h d l
def op_sw (ps : List (Int32 × Nat)) (d : Nat) : zOp := fun L st h => match st with
  | .int x :: st => zsw x L st h d ps
  | _ => none
def op_gI (c n k nx : Nat) : zOp := fun L st h => match st with
  | .ref a :: st => if zT h a = (c, n) then rN nx L (.int (zI h a k) :: st) h else none
  | _ => none
def op_gR (c n k nx : Nat) : zOp := fun L st h => match st with
  | .ref a :: st => if zT h a = (c, n) then rN nx L (zR h a k :: st) h else none
  | _ => none
def op_pI (c n k nx : Nat) : zOp := fun L st h => match st with
  | .int x :: .ref a :: st => if zT h a = (c, n) then rN nx L st (wI h a k x) else none
  | _ => none
def op_pZ (c n k nx : Nat) : zOp := fun L st h => match st with
  | .int x :: .ref a :: st => if zT h a = (c, n) ∧ (x = 0 ∨ x = 1) then rN nx L st (wI h a k x) else none
  | _ => none
def op_pR (c n k nx : Nat) : zOp := fun L st h => match st with
  | .ref x :: .ref a :: st => if zT h a = (c, n) then rN nx L st (wR h a k (.ref x)) else none
  | .null :: .ref a :: st => if zT h a = (c, n) then rN nx L st (wR h a k .null) else none
  | _ => none
/-- load of an int array's item (int, byte, char, boolean; a constant's by its kind) -/
def op_ia (kd nx : Nat) : zOp := fun L st h => match st with
  | .int i :: .ref b :: st => if (zT h b).1 = kd ∧ zin i (zT h b).2 then rN nx L (.int (zI h b i.toNatClampNeg) :: st) h else none
  | _ => none
def op_is (kd : Nat) (f : Int32 → Int32) (nx : Nat) : zOp := fun L st h => match st with
  | .int x :: .int i :: .ref b :: st => if (zT h b).1 = kd ∧ zin i (zT h b).2 then rN nx L st (wI h b i.toNatClampNeg (f x)) else none
  | _ => none
def op_ja (nx : Nat) : zOp := fun L st h => match st with
  | .int i :: .ref b :: st => if (zT h b).1 = 24 ∧ zin i (zT h b).2 then rN nx L (.long (zJ h b i.toNatClampNeg) :: st) h else none
  | _ => none
def op_js (nx : Nat) : zOp := fun L st h => match st with
  | .long x :: .int i :: .ref b :: st => if (zT h b).1 = 24 ∧ zin i (zT h b).2 then rN nx L st (wJ h b i.toNatClampNeg x) else none
  | _ => none
def op_ra (kd nx : Nat) : zOp := fun L st h => match st with
  | .int i :: .ref b :: st => if (zT h b).1 = kd ∧ zin i (zT h b).2 then rN nx L (zR h b i.toNatClampNeg :: st) h else none
  | _ => none
/-- a Tape into the row of Tapes -/
def op_rs (nx : Nat) : zOp := fun L st h => match st with
  | .ref x :: .int i :: .ref b :: st => if (zT h b).1 = 25 ∧ zin i (zT h b).2 ∧ zT h x = (6, 3) then rN nx L st (wR h b i.toNatClampNeg (.ref x)) else none
  | _ => none
def op_len (kd nx : Nat) : zOp := fun L st h => match st with
  | .ref b :: st => if (zT h b).1 = kd then rN nx L (.int (Int32.ofNat (zT h b).2) :: st) h else none
  | _ => none
def op_new (c n nx : Nat) : zOp := fun L st h => rN nx L (.ref (zN h) :: st) (wN h (c, n))
def op_na (kd nx : Nat) : zOp := fun L st h => match st with
  | .int n :: st => if ¬ n < 0 ∧ n.toNatClampNeg ≤ 1000 then rN nx L (.ref (zN h) :: st) (wN h (kd, n.toNatClampNeg)) else none
  | _ => none
/-- new int[6][4] -/
def wM (h : zH) : zH := (fun a => if a = zN h then (26, 6) else if zN h < a ∧ a ≤ zN h + 6 then (20, 4) else zT h a, fun a => if zN h ≤ a ∧ a ≤ zN h + 6 then fun _ => 0 else zI h a, zJ h, fun a => if a = zN h then fun j => if j < 6 then .ref (zN h + 1 + j) else .null else zR h a, zN h + 7, zZ h + 30)
def op_mna (nx : Nat) : zOp := fun L st h => match st with
  | .int k :: .int n :: st => if n = 6 ∧ k = 4 then rN nx L (.ref (zN h) :: st) (wM h) else none
  | _ => none
/-- a call: n arguments (the object, if any, among them), of class c where one is chosen by it -/
def op_cV (y n c nx : Nat) : zOp := fun L st h => match (st.take n).reverse with
  | .ref a :: as => if (zT h a).1 = c ∧ as.length + 1 = n ∧ (st.drop n).length ≤ 4 then rC y (.ref a :: as) nx L (st.drop n) h else none
  | _ => none
def op_cI (y n nx : Nat) : zOp := fun L st h => match (st.take n).reverse with
  | .ref a :: as => if (zT h a).1 < 20 ∧ as.length + 1 = n ∧ (st.drop n).length ≤ 4 then rC y (.ref a :: as) nx L (st.drop n) h else none
  | _ => none
def op_cS (y n nx : Nat) : zOp := fun L st h => if n ≤ st.length ∧ (st.drop n).length ≤ 4 then rC y ((st.take n).reverse) nx L (st.drop n) h else none
/-- Object's constructor -/
def op_oi (nx : Nat) : zOp := fun L st h => match st with
  | [.ref a] => if (zT h a).1 < 20 then rN nx L [] h else none
  | _ => none
/-- Math.min, Math.max -/
def zmin (x y : Int32) : Int32 := if y < x then y else x
def zmax (x y : Int32) : Int32 := if x < y then y else x
def op_mm (f : Int32 → Int32 → Int32) (nx : Nat) : zOp := fun L st h => match st with
  | .int y :: .int x :: st => if st.length ≤ 4 then rN nx L (.int (f x y) :: st) h else none
  | _ => none
/-- System.arraycopy of longs -/
def op_cp (nx : Nat) : zOp := fun L st h => match st with
  | [.int n, .int dp, .ref b1, .int sp, .ref b0] => if (zT h b0).1 = 24 ∧ (zT h b1).1 = 24 ∧ ¬ sp < 0 ∧ ¬ dp < 0 ∧ ¬ n < 0 ∧ sp.toNatClampNeg + n.toNatClampNeg ≤ (zT h b0).2 ∧ dp.toNatClampNeg + n.toNatClampNeg ≤ (zT h b1).2 then rN nx L [] (wJr h b1 (va_cpy (zJ h b0) (zJ h b1) sp.toNatClampNeg dp.toNatClampNeg n.toNatClampNeg)) else none
  | _ => none
/-- a String constant's bytes, and its coder -/
def op_sv (nx : Nat) : zOp := fun L st h => match st with
  | .ref a :: st => if (zT h a).1 = 31 then rN nx L (zR h a 0 :: st) h else none
  | _ => none
def op_sc (nx : Nat) : zOp := fun L st h => match st with
  | .ref a :: st => if (zT h a).1 = 31 then rN nx L (.int 0 :: st) h else none
  | _ => none
def op_rI (ok : Int32 → Prop) [DecidablePred ok] : zOp := fun _ st h => match st with
  | [.int x] => if ok x then rQ (some (.int x)) h else none
  | _ => none
def op_rJ : zOp := fun _ st h => match st with
  | [.long x] => rQ (some (.long x)) h
  | _ => none
def op_rA : zOp := fun _ st h => match st with
  | [.ref x] => rQ (some (.ref x)) h
  | _ => none
def op_rV : zOp := fun _ st h => match st with
  | [] => rQ none h
  | _ => none
/-! what a program does -/
def zGo (C : zCa) (code : Nat → zOp) (pc : Nat) (L : zL) (st : List Value) (h : zH) (Q : zQq) : Prop :=
  ∀ P : zPr, (∀ pc L st h, wp P Q C (code pc L st h) → P pc L st h) → P pc L st h
theorem wp_mono {N N' : zPr} {Q Q' : zQq} {C : zCa} (hC : ∀ y as h (Q1 Q2 : zQq), (∀ v h, Q1 v h → Q2 v h) → C y as h Q1 → C y as h Q2) (hN : ∀ pc L st h, N pc L st h → N' pc L st h) (hQ : ∀ v h, Q v h → Q' v h) : ∀ x : zX, wp N Q C x → wp N' Q' C x
  | none, h => h
  | some (.inl (pc, L, st, h)), q => hN pc L st h q
  | some (.inr (.inl (v, h))), q => hQ v h q
  | some (.inr (.inr (y, as, pc, L, st, h))), q => hC _ _ _ _ _ (fun v h1 g => hN _ _ _ _ g) q
/-- the entry's locals -/
def zsl : List Value → zL
  | [] => []
  | .long x :: vs => some (.long x) :: none :: zsl vs
  | .double x :: vs => some (.double x) :: none :: zsl vs
  | v :: vs => some v :: zsl vs
def zent (n : Nat) (vs : List Value) : zL := zsl vs ++ List.replicate (n - (zsl vs).length) none
def zlk : List (Nat × zOp) → Nat → zOp
  | [], _ => zF
  | (k, o) :: l, n => bif Nat.beq k n then o else zlk l n
def zlk2 (l : List (List (Nat × zOp))) (n : Nat) : zOp := zlk (l.getD (n / 64) []) n
