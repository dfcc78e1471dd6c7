-- needs 20.base
/-! what both programs do, as functions of one row of numbers (the reference's own) -/
def lp {α : Type} (f : Nat → α → α) : Nat → Nat → α → α
  | 0, _, s => s
  | m + 1, t, s => lp f m (t + 1) (f t s)
theorem lp_0 {α : Type} (f : Nat → α → α) (t : Nat) (s : α) : lp f 0 t s = s := rfl
theorem lp_s {α : Type} (f : Nat → α → α) (m t : Nat) (s : α) : lp f (m + 1) t s = lp f m (t + 1) (f t s) := rfl
theorem lp_e {α : Type} (f : Nat → α → α) : ∀ (m t : Nat) (s : α), lp f (m + 1) t s = f (t + m) (lp f m t s)
  | 0, t, s => rfl
  | m + 1, t, s => by
    rw [lp_s, lp_e f m (t + 1), ← lp_s, show t + 1 + m = t + (m + 1) by omega]
theorem lp_c {α : Type} {f g : Nat → α → α} : ∀ (m t : Nat) (s : α), (∀ k, t ≤ k → k < t + m → ∀ s, f k s = g k s) → lp f m t s = lp g m t s
  | 0, t, s, _ => rfl
  | m + 1, t, s, h => by
    rw [lp_s, lp_s, h t (Nat.le_refl _) (by omega)]
    exact lp_c m (t + 1) _ (fun k h1 h2 => h k (by omega) (by omega))
theorem lp_i {α : Type} {f : Nat → α → α} (P : Nat → α → Prop) : ∀ (m t : Nat) (s : α), P t s → (∀ k, t ≤ k → k < t + m → ∀ s, P k s → P (k + 1) (f k s)) → P (t + m) (lp f m t s)
  | 0, t, s, h, _ => h
  | m + 1, t, s, h, hs => by
    rw [lp_s, show t + (m + 1) = t + 1 + m by omega]
    exact lp_i P m (t + 1) _ (hs t (Nat.le_refl _) (by omega) s h) (fun k h1 h2 => hs k (by omega) (by omega))
abbrev zW0 : Type := Nat → Int32
def iRem (x z : Int32) : Int32 := x - x / z * z
def iShl (x z : Int32) : Int32 := x <<< (z &&& 31)
def iShr (x z : Int32) : Int32 := x >>> (z &&& 31)
/-- what a season's text names -/
def sNm (w : zW0) (t : Nat) (k : Nat) : Int32 := if k = 0 then nI t else if k = 1 then w (10 * t) else if k = 2 then w (10 * t + 1) else if k = 3 then w (10 * t + 2) / 10 else if k = 4 then iRem (w (10 * t + 5)) 10 else iRem (w 62) 10
/-- whether another than t is at the bar -/
def sAn (w : zW0) (n t : Nat) : Bool := lp (fun k s => s || (k != t && w (10 * k + 3) == 5)) n 0 false
def sSum (p : Int32) (ex : zW0 → Int32) (w : zW0) (t : Nat) : Int32 := ex (sNm w t) + p
def sOf (p : Int32) (ex : zW0 → Int32) (n : Nat) (w : zW0) (t : Nat) : Int32 :=
  let s := sSum p ex w t
  if w (10 * t) = 1 then s + w (10 * t + 1) else if w (10 * t) = 2 then s / 2 else if w (10 * t) = 3 then s - zmin 10 (w (10 * t + 5))
  else if w (10 * t) = 4 then (if sAn w n t then 2 * (s + w (10 * t + 1)) else s + w (10 * t + 1))
  else if w (10 * t) = 5 then s / 2 + (if iRem (w 62) 7 = 0 then 5 else 0)
  else if w (10 * t) = 6 then s - zmin 10 (w (10 * t + 5)) + w (10 * t + 6 + (w 62).toNatClampNeg % 4) else s
/-- one who is not in the city goes on for a day: the two halves -/
def sG1 (w : zW0) (t : Nat) : zW0 := va_up w (10 * t + 3) (w (10 * t + 3) + (if w (10 * t + 4) = 1 then -1 else 1))
def sG2 (w : zW0) (t : Nat) : zW0 := if w (10 * t + 3) = 0 then va_up w (10 * t + 4) 0 else w
def sG3 (w : zW0) (t : Nat) (o : Int32) : zW0 := va_up (va_up (va_up (va_up w 61 (w 61 - o)) (10 * t + 4) 1) (10 * t + 5) (w (10 * t + 5) + 1)) (10 * t + 2) (zmin 99 (w (10 * t + 2) + 3))
abbrev sTk (w : zW0) (t : Nat) (o : Int32) : Prop := 0 < o ∧ ¬ w 61 < o ∧ ¬ o < w (10 * t + 2)
def sG4 (w : zW0) (t : Nat) (o : Int32) : zW0 := if sTk w t o then sG3 w t o else w
def sGo (p : Int32) (ex : zW0 → Int32) (n : Nat) (w : zW0) (t : Nat) : zW0 :=
  let w2 := sG2 (sG1 w t) t
  if w2 (10 * t + 3) = 5 ∧ w2 (10 * t + 4) = 0 then sG4 w2 t (sOf p ex n w2 t) else w2
def sGw (p : Int32) (ex : zW0 → Int32) (n : Nat) (t : Nat) (w : zW0) : zW0 := if w (10 * t + 3) = 10 then w else sGo p ex n w t
def sD0 (p : Int32) (ex : zW0 → Int32) (n : Nat) (w : zW0) : zW0 := lp (sGw p ex n) n 0 w
def sDay (p : Int32) (ex : zW0 → Int32) (n : Nat) (w : zW0) : zW0 := va_up (sD0 p ex n w) 62 (sD0 p ex n w 62 + 1)
def sDays (p : Int32) (ex : zW0 → Int32) (n k : Nat) (w : zW0) : zW0 := lp (fun _ w => sDay p ex n w) k 0 w
/-- bits of those at a place, of those who are on their way back -/
def sAt (w : zW0) (n : Nat) (pl : Int32) : Int32 := lp (fun t s => if w (10 * t + 3) = pl then s ||| iShl 1 (nI t) else s) n 0 0
def sBk (w : zW0) (n : Nat) : Int32 := lp (fun t s => if w (10 * t + 4) = 1 then s ||| iShl 1 (nI t) else s) n 0 0
/-- what holds of the row all the time -/
def sOK (w : zW0) (n D : Nat) : Prop := w 60 = nI n ∧ n ≤ 6 ∧ w 62 = nI D ∧ ∀ t, t < n → w (10 * t + 4) = 0 ∨ w (10 * t + 4) = 1
/-! it holds on -/
theorem sG1_ok {w : zW0} {n D t : Nat} (h : sOK w n D) (ht : t < n) : sOK (sG1 w t) n D := by
  obtain ⟨h1, h2, h3, h4⟩ := h
  refine ⟨?_, h2, ?_, fun s hs => ?_⟩ <;> unfold sG1 <;> rw [up_n _ _ (by omega)] <;> first | assumption | exact h4 s hs
theorem sG2_ok {w : zW0} {n D t : Nat} (h : sOK w n D) (ht : t < n) : sOK (sG2 w t) n D := by
  obtain ⟨h1, h2, h3, h4⟩ := id h
  unfold sG2
  split
  · refine ⟨?_, h2, ?_, fun s hs => ?_⟩
    · rw [up_n _ _ (by omega)]; exact h1
    · rw [up_n _ _ (by omega)]; exact h3
    · by_cases e : s = t
      · subst e; rw [up_s]; exact Or.inl rfl
      · rw [up_n _ _ (by omega)]; exact h4 s hs
  · exact h
theorem sG3_ok {w : zW0} {n D t : Nat} {o : Int32} (h : sOK w n D) (ht : t < n) : sOK (sG3 w t o) n D := by
  obtain ⟨h1, h2, h3, h4⟩ := id h
  unfold sG3
  refine ⟨?_, h2, ?_, fun s hs => ?_⟩
  · rw [up_n _ _ (by omega), up_n _ _ (by omega), up_n _ _ (by omega), up_n _ _ (by omega)]; exact h1
  · rw [up_n _ _ (by omega), up_n _ _ (by omega), up_n _ _ (by omega), up_n _ _ (by omega)]; exact h3
  · rw [up_n _ _ (by omega), up_n _ _ (by omega)]
    by_cases e : s = t
    · subst e; rw [up_s]; exact Or.inr rfl
    · rw [up_n _ _ (by omega), up_n _ _ (by omega)]; exact h4 s hs
theorem sGo_ok {w : zW0} {n D t : Nat} {p : Int32} {ex : zW0 → Int32} (h : sOK w n D) (ht : t < n) : sOK (sGo p ex n w t) n D := by
  have h2 := sG2_ok (sG1_ok h ht) ht
  unfold sGo sG4
  dsimp only
  split
  · split
    · exact sG3_ok h2 ht
    · exact h2
  · exact h2
theorem sGw_ok {w : zW0} {n D t : Nat} {p : Int32} {ex : zW0 → Int32} (h : sOK w n D) (ht : t < n) : sOK (sGw p ex n t w) n D := by
  unfold sGw
  split
  · exact h
  · exact sGo_ok h ht
theorem sDay_ok {w : zW0} {n D : Nat} {p : Int32} {ex : zW0 → Int32} (h : sOK w n D) : sOK (sDay p ex n w) n (D + 1) := by
  have key : sOK (sD0 p ex n w) n D := lp_i (fun _ w => sOK w n D) n 0 w h (fun k h1 h2 s hs => sGw_ok hs (by omega))
  obtain ⟨h1, h2, h3, h4⟩ := key
  unfold sDay
  refine ⟨?_, h2, ?_, fun s hs => ?_⟩
  · rw [up_n _ _ (by omega)]; exact h1
  · rw [up_s, h3, nI_1]
  · rw [up_n _ _ (by omega)]; exact h4 s hs
theorem sDays_ok {w : zW0} {n D : Nat} {p : Int32} {ex : zW0 → Int32} (h : sOK w n D) (k : Nat) : sOK (sDays p ex n k w) n (D + k) := by
  have := lp_i (f := fun _ w => sDay p ex n w) (fun j w => sOK w n (D + j)) k 0 w h (fun k h1 h2 s hs => sDay_ok hs)
  rwa [Nat.zero_add] at this
