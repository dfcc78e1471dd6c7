-- needs 70.sea2
variable {s : Nat} {x y : zW0} {c : Int32} {F : Nat → Nat × Option pE}
theorem tk_cg (hx : ∀ k, k < s → y k = x k) (c : Int32) (p : Nat) : tk y s c p = tk x s c p := by
  unfold tk
  by_cases h : p < s
  · rw [hx p h]
  · simp [h]
theorem pDig_cg (hx : ∀ k, k < s → y k = x k) (p : Nat) : pDig y s p = pDig x s p := by
  unfold pDig
  by_cases h : p < s
  · rw [hx p h]
  · simp [h]
theorem pNum_cg (hx : ∀ k, k < s → y k = x k) (p : Nat) : pNum y s p = pNum x s p := by
  unfold pNum
  rw [pDig_cg hx, pDig_cg hx]
  by_cases h : pDig x s p = true
  · rw [if_pos h, if_pos h, hx p (pDig_lt h)]
    by_cases h2 : pDig x s (p + 1) = true
    · rw [if_pos h2, if_pos h2, hx _ (pDig_lt h2)]
    · rw [if_neg h2, if_neg h2]
  · rw [if_neg h, if_neg h]
theorem pTest_cg (hx : ∀ k, k < s → y k = x k) (p : Nat) : pTest y s p = pTest x s p := by
  unfold pTest
  by_cases h : p < s
  · by_cases h2 : p + 1 < s
    · rw [hx p h, hx _ h2, pNum_cg hx]
    · rw [hx p h]; simp [h2]
  · simp [h]
theorem pAnd_cg (hx : ∀ k, k < s → y k = x k) : ∀ (m : Nat) (e : pE) (p : Nat), pAnd y s F m e p = pAnd x s F m e p
  | 0, e, p => rfl
  | m + 1, e, p => by
    unfold pAnd
    rw [tk_cg hx]
    simp only [pAnd_cg hx m]
theorem pBoth_cg (hx : ∀ k, k < s → y k = x k) (p : Nat) : pBoth y s F p = pBoth x s F p := by
  unfold pBoth
  simp only [pAnd_cg hx]
theorem pOr_cg (hx : ∀ k, k < s → y k = x k) : ∀ (m : Nat) (e : pE) (p : Nat), pOr y s F m e p = pOr x s F m e p
  | 0, e, p => rfl
  | m + 1, e, p => by
    unfold pOr
    rw [tk_cg hx]
    simp only [pOr_cg hx m, pBoth_cg hx]
theorem pAny_cg (hx : ∀ k, k < s → y k = x k) (p : Nat) : pAny y s F p = pAny x s F p := by
  unfold pAny
  simp only [pOr_cg hx, pBoth_cg hx]
theorem pFac_cg (hx : ∀ k, k < s → y k = x k) : ∀ k, pFac y s k = pFac x s k
  | 0 => funext fun p => pTest_cg hx p
  | k + 1 => funext fun p => by
    unfold pFac
    simp only [tk_cg hx, pAny_cg hx, pFac_cg hx k, pTest_cg hx]
theorem pWord_cg (hx : ∀ k, k < s → y k = x k) : ∀ (l : List Int32) (p : Nat), pWord y s l p = pWord x s l p
  | [], p => rfl
  | c :: l, p => by
    unfold pWord
    rw [tk_cg hx, pWord_cg hx l]
theorem pMore_cg (hx : ∀ k, k < s → y k = x k) (c : Int32) (g : Int32 → Int32) (wd : List Int32) (a : pA) (p : Nat) : pMore y s c g wd a p = pMore x s c g wd a p := by
  unfold pMore
  simp only [pWord_cg hx, pNum_cg hx, tk_cg hx, pAny_cg hx, pFac_cg hx]
theorem pClause_cg (hx : ∀ k, k < s → y k = x k) (a : pA) (p : Nat) : pClause y s a p = pClause x s a p := by
  unfold pClause
  simp only [pWord_cg hx, pNum_cg hx, tk_cg hx, pMore_cg hx]
theorem pAll_cg (hx : ∀ k, k < s → y k = x k) : ∀ (m : Nat) (a : pA) (p : Nat), pAll y s m a p = pAll x s m a p
  | 0, a, p => rfl
  | m + 1, a, p => by
    unfold pAll
    simp only [pClause_cg hx, tk_cg hx, pAll_cg hx m]
