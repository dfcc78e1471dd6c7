-- needs 45.c2 30.p5
variable {d a b n t D K s p q g cc k dep : Nat} {h h1 : zH} {w x nm : zW0} {c v r : Int32} {F : Nat → Nat × Option pE} {cs : List Int32}
/-! bounds -/
def Bd (s : Nat) (F : Nat → Nat × Option pE) : Prop := ∀ p, p ≤ s → p ≤ (F p).1 ∧ (F p).1 ≤ s
theorem pTest_le : Bd s (pTest x s) := by
  intro p hp
  unfold pTest
  split
  · next c1 =>
    have c1 : p < s := by simp at c1; exact c1.1
    split
    · next c2 =>
      have c2 : p + 1 < s := by simp at c2; exact c2.1
      have := pNum_le (x := x) (s := s) (p := p + 2) (by omega)
      revert this
      rcases pNum x s (p + 2) with ⟨q, _ | n⟩ <;> intro this <;> simp only at this ⊢ <;> omega
    · simp only; omega
  · exact ⟨Nat.le_refl _, hp⟩
theorem pAnd_le (hF : Bd s F) : ∀ (m : Nat) (e : pE) (p : Nat), p ≤ s → p ≤ (pAnd x s F m e p).1 ∧ (pAnd x s F m e p).1 ≤ s
  | 0, e, p, hp => ⟨Nat.le_refl _, hp⟩
  | m + 1, e, p, hp => by
    unfold pAnd
    split
    · next c1 =>
      have ps := (tk_i.mp c1).1
      have := hF (p + 1) (by omega)
      revert this
      rcases F (p + 1) with ⟨q, _ | e2⟩
      · intro this; simp only at this ⊢; omega
      · intro this
        simp only at this
        have := pAnd_le hF m (e.1 ++ e2.1 ++ [pCode 38 0 0], fun nm => e.2 nm && e2.2 nm) q (by omega)
        simp only
        omega
    · exact ⟨Nat.le_refl _, hp⟩
theorem pBoth_le (hF : Bd s F) : Bd s (pBoth x s F) := by
  intro p hp
  have := hF p hp
  unfold pBoth
  revert this
  rcases F p with ⟨q, _ | e⟩
  · exact id
  · intro this
    simp only at this
    have := pAnd_le (x := x) hF s e q (by omega)
    simp only
    omega
theorem pOr_le (hF : Bd s F) : ∀ (m : Nat) (e : pE) (p : Nat), p ≤ s → p ≤ (pOr x s F m e p).1 ∧ (pOr x s F m e p).1 ≤ s
  | 0, e, p, hp => ⟨Nat.le_refl _, hp⟩
  | m + 1, e, p, hp => by
    unfold pOr
    split
    · next c1 =>
      have ps := (tk_i.mp c1).1
      have := pBoth_le (x := x) hF (p + 1) (by omega)
      revert this
      rcases pBoth x s F (p + 1) with ⟨q, _ | e2⟩
      · intro this; simp only at this ⊢; omega
      · intro this
        simp only at this
        have := pOr_le hF m (e.1 ++ e2.1 ++ [pCode 124 0 0], fun nm => e.2 nm || e2.2 nm) q (by omega)
        simp only
        omega
    · exact ⟨Nat.le_refl _, hp⟩
theorem pAny_le (hF : Bd s F) : Bd s (pAny x s F) := by
  intro p hp
  have := pBoth_le (x := x) hF p hp
  unfold pAny
  revert this
  rcases pBoth x s F p with ⟨q, _ | e⟩
  · exact id
  · intro this
    simp only at this
    have := pOr_le (x := x) hF s e q (by omega)
    simp only
    omega
theorem pFac_le : ∀ k, Bd s (pFac x s k)
  | 0 => pTest_le
  | k + 1 => by
    intro p hp
    have ih := pFac_le k
    unfold pFac
    split
    · next c1 =>
      have ps := (tk_i.mp c1).1
      have := ih (p + 1) (by omega)
      revert this
      rcases pFac x s k (p + 1) with ⟨q, _ | e⟩ <;> intro this <;> simp only at this ⊢ <;> omega
    · split
      · next c1 =>
        have ps := (tk_i.mp c1).1
        have := pAny_le (x := x) ih (p + 1) (by omega)
        revert this
        rcases pAny x s (pFac x s k) (p + 1) with ⟨q, _ | e⟩
        · intro this; simp only at this ⊢; omega
        · intro this
          simp only at this ⊢
          split
          · next c2 =>
            have := (tk_i.mp c2).1
            simp only
            omega
          · simp only; omega
      · exact pTest_le p hp
/-! there is always enough to go on with -/
theorem pAnd_f (hF : Bd s F) : ∀ (m m' : Nat) (e : pE) (p : Nat), p ≤ s → s ≤ p + m → s ≤ p + m' → pAnd x s F m e p = pAnd x s F m' e p
  | 0, 0, e, p, _, _, _ => rfl
  | 0, m' + 1, e, p, _, h1, _ => by
    have : tk x s 38 p = false := tk_f1 (by omega)
    rw [pAnd, pAnd, this]
    rfl
  | m + 1, 0, e, p, _, _, h1 => by
    have : tk x s 38 p = false := tk_f1 (by omega)
    rw [pAnd, pAnd, this]
    rfl
  | m + 1, m' + 1, e, p, hp, h1, h2 => by
    rw [pAnd, pAnd]
    cases q : tk x s 38 p with
    | false => rfl
    | true =>
      have ps := (tk_i.mp q).1
      have := hF (p + 1) (by omega)
      revert this
      simp only [if_true]
      rcases F (p + 1) with ⟨q', _ | e2⟩
      · intro _; rfl
      · intro this
        simp only at this ⊢
        exact pAnd_f hF m m' _ q' (by omega) (by omega) (by omega)
theorem pOr_f (hF : Bd s F) : ∀ (m m' : Nat) (e : pE) (p : Nat), p ≤ s → s ≤ p + m → s ≤ p + m' → pOr x s F m e p = pOr x s F m' e p
  | 0, 0, e, p, _, _, _ => rfl
  | 0, m' + 1, e, p, _, h1, _ => by
    have : tk x s 124 p = false := tk_f1 (by omega)
    rw [pOr, pOr, this]
    rfl
  | m + 1, 0, e, p, _, _, h1 => by
    have : tk x s 124 p = false := tk_f1 (by omega)
    rw [pOr, pOr, this]
    rfl
  | m + 1, m' + 1, e, p, hp, h1, h2 => by
    rw [pOr, pOr]
    cases q : tk x s 124 p with
    | false => rfl
    | true =>
      have ps := (tk_i.mp q).1
      have := pBoth_le (x := x) hF (p + 1) (by omega)
      revert this
      simp only [if_true]
      rcases pBoth x s F (p + 1) with ⟨q', _ | e2⟩
      · intro _; rfl
      · intro this
        simp only at this ⊢
        exact pOr_f hF m m' _ q' (by omega) (by omega) (by omega)
theorem AF_n (e : pE) (ht : tk x s 38 p = false) : pAnd x s F s e p = (p, some e) := by
  cases s with
  | zero => rfl
  | succ s => rw [pAnd, ht]; rfl
theorem AF_t (hF : Bd s F) (e : pE) (ht : tk x s 38 p = true) : pAnd x s F s e p = (match F (p + 1) with
    | (q, some e2) => pAnd x s F s (e.1 ++ e2.1 ++ [pCode 38 0 0], fun nm => e.2 nm && e2.2 nm) q
    | (q, none) => (q, none)) := by
  have ps := (tk_i.mp ht).1
  obtain ⟨s', rfl⟩ : ∃ s', s = s' + 1 := ⟨s - 1, by omega⟩
  have := hF (p + 1) (by omega)
  rw [show pAnd x (s' + 1) F (s' + 1) e p = _ from by rw [pAnd, ht]]
  revert this
  simp only [if_true]
  rcases F (p + 1) with ⟨q', _ | e2⟩
  · intro _; rfl
  · intro this
    simp only at this ⊢
    exact pAnd_f hF s' (s' + 1) _ q' (by omega) (by omega) (by omega)
theorem OF_n (e : pE) (ht : tk x s 124 p = false) : pOr x s F s e p = (p, some e) := by
  cases s with
  | zero => rfl
  | succ s => rw [pOr, ht]; rfl
theorem OF_t (hF : Bd s F) (e : pE) (ht : tk x s 124 p = true) : pOr x s F s e p = (match pBoth x s F (p + 1) with
    | (q, some e2) => pOr x s F s (e.1 ++ e2.1 ++ [pCode 124 0 0], fun nm => e.2 nm || e2.2 nm) q
    | (q, none) => (q, none)) := by
  have ps := (tk_i.mp ht).1
  obtain ⟨s', rfl⟩ : ∃ s', s = s' + 1 := ⟨s - 1, by omega⟩
  have := pBoth_le (x := x) hF (p + 1) (by omega)
  rw [show pOr x (s' + 1) F (s' + 1) e p = _ from by rw [pOr, ht]]
  revert this
  simp only [if_true]
  rcases pBoth x (s' + 1) F (p + 1) with ⟨q', _ | e2⟩
  · intro _; rfl
  · intro this
    simp only at this ⊢
    exact pOr_f hF s' (s' + 1) _ q' (by omega) (by omega) (by omega)
/-! an expression -/
def cA : Option pE → List Int32
  | none => []
  | some a => a.1
def cAnd : Option pE → pE → pE
  | none, e => e
  | some a, e => (a.1 ++ e.1 ++ [pCode 38 0 0], fun nm => a.2 nm && e.2 nm)
def cOr : Option pE → pE → pE
  | none, e => e
  | some a, e => (a.1 ++ e.1 ++ [pCode 124 0 0], fun nm => a.2 nm || e.2 nm)
def fin (x : zW0) (s : Nat) (F : Nat → Nat × Option pE) (EO : Option pE) : Nat × Option pE → Nat × Option pE
  | (q, none) => (q, none)
  | (q, some e) => pOr x s F s (cOr EO e) q
def rR (x : zW0) (s : Nat) (F : Nat → Nat × Option pE) (EO EA : Option pE) (p : Nat) : Nat × Option pE := match F p with
  | (q, none) => (q, none)
  | (q, some e) => fin x s F EO (pAnd x s F s (cAnd EA e) q)
theorem rR_any : pAny x s F p = rR x s F none none p := by
  unfold pAny pBoth rR
  rcases F p with ⟨q, _ | e⟩
  · rfl
  · show (match pAnd x s F s e q with
        | (q, some e) => pOr x s F s e q
        | (q, none) => (q, none)) = fin x s F none (pAnd x s F s e q)
    rcases pAnd x s F s e q with ⟨q', _ | e'⟩ <;> rfl
def nS (o : Option pE) : Nat := if o.isSome then 1 else 0
theorem bB_s (b : Bool) : bB b = if b = true then 1 else 0 := by cases b <;> rfl
theorem rR_le (hF : Bd s F) (EO EA : Option pE) (hp : p ≤ s) : p ≤ (rR x s F EO EA p).1 ∧ (rR x s F EO EA p).1 ≤ s := by
  have := hF p hp
  unfold rR
  revert this
  rcases F p with ⟨q, _ | e⟩
  · exact id
  · intro this
    simp only at this
    have h2 := pAnd_le (x := x) hF s (cAnd EA e) q (by omega)
    revert h2
    simp only
    rcases pAnd x s F s (cAnd EA e) q with ⟨q2, _ | e2⟩
    · intro h2; unfold fin; simp only at h2 ⊢; omega
    · intro h2
      simp only at h2
      have := pOr_le (x := x) hF s (cOr EO e2) q2 (by omega)
      unfold fin
      simp only
      omega
theorem c_expr_lp (hI : ImpC x s g cc 508 (D + 2) [.int (nI dep)] F) (hF : Bd s F) {cs0 : List Int32} {p0 : Nat} (hcs : cs0.length ≤ p0) : ∀ (N i : Nat) (h : zH) (p : Nat) (EO EA : Option pE), s < p + N → 2 * i ≤ p → p ≤ s → CP h x s g cc → Dr h g cc (cs0 ++ cA EO ++ cA EA) → zI h 69 2 = nI p → (cA EO).length + (cA EA).length + p0 + nS EO + nS EA ≤ p → ∃ h1, FS (SQ g cc) h h1 ∧ zI h1 69 2 = nI (rR x s F EO EA p).1 ∧ zI h1 g 2 = zI h g 2 ∧ (∀ e, (rR x s F EO EA p).2 = some e → Dr h1 g cc (cs0 ++ e.1) ∧ p0 + e.1.length ≤ (rR x s F EO EA p).1 ∧ 1 ≤ e.1.length) ∧ ∀ Q, zG (d + (D + 2)) 507 7 [some (.ref 69), some (.int (nI dep)), some (.int (bB EA.isSome)), some (.int (bB EO.isSome)), some (.int (nI i))] [] h Q = Q (some (.int (bB (rR x s F EO EA p).2.isSome))) h1
  | 0, i, h, p, EO, EA, hN, hi, hp, m, hd, e, hl => by omega
  | N + 1, i, h, p, EO, EA, hN, hi, hp, m, hd, e, hl => by
    have hs := m.2.2.2.2.2.2.2.2.2.1
    have hlen : (cs0 ++ cA EO ++ cA EA).length ≤ p := by simp only [List.length_append]; omega
    obtain ⟨h1, f1, e1, u1, w1, b1, v1, g1⟩ := hI d h p _ m hd e hlen hp
    have m1 := CP_f m f1
    have m69 := m.2.1
    have k69 := m1.2.1
    have k5 := m1.2.2.2.2.1
    have k6 := m1.2.2.2.2.2.1
    have z100 : ¬ (100 : Int32) ≤ nI i := by rw [i_le]; exact Classical.not_not.mpr (nI_lt (b := 100) (by omega) (by omega))
    have hz1 := bB_z EA.isSome
    have eR : rR x s F EO EA p = (match F p with
      | (q, none) => (q, none)
      | (q, some e) => fin x s F EO (pAnd x s F s (cAnd EA e) q)) := rfl
    rw [eR]
    clear eR
    revert e1 u1 w1 v1 g1
    rcases F p with ⟨q, _ | e0⟩
    · intro e1 u1 w1 v1 g1
      refine ⟨h1, f1, e1, b1, fun e he => by simp at he, fun Q => ?_⟩
      rw [g507_7]
      simp +decide only [Nat.reduceEqDiff, Nat.add_eq_left, Nat.left_eq_add, Nat.reduceAdd, Nat.reduceLeDiff, Nat.reduceMul, Nat.reduceSub, Nat.reduceLT, zlt8, zlt8_, zlt8n, zlt8n_, List.length_cons, List.length_nil, true_or, or_true, false_or, or_false, and_self, and_true, true_and, and_false, false_and, not_false_eq_true, not_true_eq_false, ite_true, ite_false, if_true, if_false, ite_not, zin, zpush_s, zpush_n, kl_int, kl_ref, kl_none, kl_kl, kl_long, kl_null, zT_wI, zT_wJ, zT_wR, zT_wIr, zT_wJr, zT_wRr, zI_wJ, zI_wR, zI_wJr, zI_wRr, zJ_wI, zJ_wR, zJ_wIr, zJ_wRr, zR_wI, zR_wJ, zR_wIr, zR_wJr, zN_wI, zN_wJ, zN_wR, zN_wIr, zN_wJr, zN_wRr, zZ_wI, zZ_wJ, zZ_wR, zZ_wIr, zZ_wJr, zZ_wRr, zI_wI, zJ_wJ, zR_wR, zI_wIr, zJ_wJr, zR_wRr, g507_9, g507_11, g507_14, g507_15, g507_16, g507_19, g507_22, g507_23, m69, g1, z100, bB_f, Option.isSome]
    · intro e1 u1 w1 v1 g1
      simp only at e1 u1 w1 v1 g1
      dsimp only
      obtain ⟨D1, L1, L2⟩ := v1 e0 rfl
      -- the and that waits
      have A : ∃ h2, FS (SQ g cc) h1 h2 ∧ zI h2 69 2 = nI q ∧ zI h2 g 2 = zI h1 g 2 ∧ Dr h2 g cc (cs0 ++ cA EO ++ (cAnd EA e0).1) ∧ (cA EO).length + (cAnd EA e0).1.length + p0 + nS EO ≤ q ∧ 1 ≤ (cAnd EA e0).1.length ∧ ∀ Q, zG (d + (D + 2)) 507 24 [some (.ref 69), some (.int (nI dep)), some (.int (bB EA.isSome)), some (.int (bB EO.isSome)), some (.int (nI i))] [] h1 Q = zG (d + (D + 2)) 507 39 [some (.ref 69), some (.int (nI dep)), some (.int (bB EA.isSome)), some (.int (bB EO.isSome)), some (.int (nI i))] [] h2 Q := by
        cases EA with
        | none =>
          refine ⟨h1, FS_r _ _, e1, rfl, ?_, ?_, L2, fun Q => ?_⟩
          · show Dr h1 g cc (cs0 ++ cA EO ++ e0.1)
            rw [show cs0 ++ cA EO ++ cA none ++ e0.1 = cs0 ++ cA EO ++ e0.1 by show cs0 ++ cA EO ++ [] ++ e0.1 = _; rw [List.append_nil]] at D1
            exact D1
          · show (cA EO).length + e0.1.length + p0 + nS EO ≤ q
            have : (cA none).length = 0 := rfl
            omega
          · simp +decide only [Nat.reduceEqDiff, Nat.add_eq_left, Nat.left_eq_add, Nat.reduceAdd, Nat.reduceLeDiff, Nat.reduceMul, Nat.reduceSub, Nat.reduceLT, zlt8, zlt8_, zlt8n, zlt8n_, List.length_cons, List.length_nil, true_or, or_true, false_or, or_false, and_self, and_true, true_and, and_false, false_and, not_false_eq_true, not_true_eq_false, ite_true, ite_false, if_true, if_false, ite_not, zin, zpush_s, zpush_n, kl_int, kl_ref, kl_none, kl_kl, kl_long, kl_null, zT_wI, zT_wJ, zT_wR, zT_wIr, zT_wJr, zT_wRr, zI_wJ, zI_wR, zI_wJr, zI_wRr, zJ_wI, zJ_wR, zJ_wIr, zJ_wRr, zR_wI, zR_wJ, zR_wIr, zR_wJr, zN_wI, zN_wJ, zN_wR, zN_wIr, zN_wJr, zN_wRr, zZ_wI, zZ_wJ, zZ_wR, zZ_wIr, zZ_wJr, zZ_wRr, zI_wI, zJ_wJ, zR_wR, zI_wIr, zJ_wJr, zR_wRr, g507_24, g507_25, bB_f, Option.isSome]
        | some a =>
          have hlen2 : (cs0 ++ cA EO ++ cA (some a) ++ e0.1).length < 100 := by
            simp only [List.length_append]
            have : nS (some a) = 1 := rfl
            omega
          obtain ⟨h2, f2, a2, b2, D2, g2⟩ := c_add (d := d + (D + 1)) (c := 38) m1 D1 hlen2 0 0
          refine ⟨h2, f2, by rw [a2]; exact e1, b2, ?_, ?_, ?_, fun Q => ?_⟩
          · show Dr h2 g cc (cs0 ++ cA EO ++ (a.1 ++ e0.1 ++ [pCode 38 0 0]))
            have : cs0 ++ cA EO ++ cA (some a) ++ e0.1 ++ [pCode 38 0 0] = cs0 ++ cA EO ++ (a.1 ++ e0.1 ++ [pCode 38 0 0]) := by
              show cs0 ++ cA EO ++ a.1 ++ e0.1 ++ [pCode 38 0 0] = _
              simp only [List.append_assoc]
            rw [this] at D2
            exact D2
          · show (cA EO).length + (a.1 ++ e0.1 ++ [pCode 38 0 0]).length + p0 + nS EO ≤ q
            have h1 : nS (some a) = 1 := rfl
            have h2 : (cA (some a)).length = a.1.length := rfl
            simp only [List.length_append, List.length_singleton]
            omega
          · show 1 ≤ (a.1 ++ e0.1 ++ [pCode 38 0 0]).length
            simp only [List.length_append, List.length_singleton]; omega
          · have g2' : ∀ Q, zCall (d + (D + 2)) 403 [.ref g, .int 38, .int 0, .int 0] h1 Q = Q none h2 := g2
            simp +decide only [Nat.reduceEqDiff, Nat.add_eq_left, Nat.left_eq_add, Nat.reduceAdd, Nat.reduceLeDiff, Nat.reduceMul, Nat.reduceSub, Nat.reduceLT, zlt8, zlt8_, zlt8n, zlt8n_, List.length_cons, List.length_nil, true_or, or_true, false_or, or_false, and_self, and_true, true_and, and_false, false_and, not_false_eq_true, not_true_eq_false, ite_true, ite_false, if_true, if_false, ite_not, zin, zpush_s, zpush_n, kl_int, kl_ref, kl_none, kl_kl, kl_long, kl_null, zT_wI, zT_wJ, zT_wR, zT_wIr, zT_wJr, zT_wRr, zI_wJ, zI_wR, zI_wJr, zI_wRr, zJ_wI, zJ_wR, zJ_wIr, zJ_wRr, zR_wI, zR_wJ, zR_wIr, zR_wJr, zN_wI, zN_wJ, zN_wR, zN_wIr, zN_wJr, zN_wRr, zZ_wI, zZ_wJ, zZ_wR, zZ_wIr, zZ_wJr, zZ_wRr, zI_wI, zJ_wJ, zR_wR, zI_wIr, zJ_wJr, zR_wRr, g507_24, g507_25, g507_28, g507_29, g507_32, g507_34, g507_35, g507_36, k69, k5, k6, g2', bB_t, Option.isSome]
      obtain ⟨h2, f2, e2, b2, D2, L3, L4, g2⟩ := A
      have m2 := CP_f m1 f2
      have n69 := m2.2.1
      generalize cAnd EA e0 = E at *
      have cp38 : ∀ Q, zCall (d + (D + 2)) 512 [.ref 69, .int 38] h2 Q = Q (some (.int (bB (tk x s 38 q)))) (if tk x s 38 q = true then wI h2 69 2 (nI (q + 1)) else h2) := fun Q => c_pass (d := d + D) m2 e2 w1 (by decide) Q
      have start : ∀ Q, zG (d + (D + 2)) 507 7 [some (.ref 69), some (.int (nI dep)), some (.int (bB EA.isSome)), some (.int (bB EO.isSome)), some (.int (nI i))] [] h Q = zG (d + (D + 2)) 507 39 [some (.ref 69), some (.int (nI dep)), some (.int (bB EA.isSome)), some (.int (bB EO.isSome)), some (.int (nI i))] [] h2 Q := fun Q => by
        rw [g507_7, ← g2 Q]
        simp +decide only [Nat.reduceEqDiff, Nat.add_eq_left, Nat.left_eq_add, Nat.reduceAdd, Nat.reduceLeDiff, Nat.reduceMul, Nat.reduceSub, Nat.reduceLT, zlt8, zlt8_, zlt8n, zlt8n_, List.length_cons, List.length_nil, true_or, or_true, false_or, or_false, and_self, and_true, true_and, and_false, false_and, not_false_eq_true, not_true_eq_false, ite_true, ite_false, if_true, if_false, ite_not, zin, zpush_s, zpush_n, kl_int, kl_ref, kl_none, kl_kl, kl_long, kl_null, zT_wI, zT_wJ, zT_wR, zT_wIr, zT_wJr, zT_wRr, zI_wJ, zI_wR, zI_wJr, zI_wRr, zJ_wI, zJ_wR, zJ_wIr, zJ_wRr, zR_wI, zR_wJ, zR_wIr, zR_wJr, zN_wI, zN_wJ, zN_wR, zN_wIr, zN_wJr, zN_wRr, zZ_wI, zZ_wJ, zZ_wR, zZ_wIr, zZ_wJr, zZ_wRr, zI_wI, zJ_wJ, zR_wR, zI_wIr, zJ_wJr, zR_wRr, g507_9, g507_11, g507_14, g507_15, g507_16, g507_19, m69, g1, z100, bB_t, Option.isSome]
      cases t38 : tk x s 38 q with
      | true =>
        rw [t38] at cp38
        have qs := (tk_i.mp t38).1
        have eN : fin x s F EO (pAnd x s F s E q) = rR x s F EO (some E) (q + 1) := by
          rw [AF_t hF E t38]
          unfold rR
          rcases F (q + 1) with ⟨q', _ | e2⟩ <;> rfl
        rw [eN]
        have A3 := At_w (h := h2) (q + 1)
        obtain ⟨h3, f3, e3, b3, v3, g3⟩ := c_expr_lp hI hF hcs N (i + 1) (wI h2 69 2 (nI (q + 1))) (q + 1) EO (some E) (by omega) (by omega) (by omega) (At_C m2 A3) (At_D m2 A3 D2) A3.2 (by
          have : nS (some E) = 1 := rfl
          have : (cA (some E)).length = E.1.length := rfl
          omega)
        refine ⟨h3, FS_t f1 (FS_t f2 (FS_t (At_Q A3) f3)), e3, by rw [b3, At_g m2 A3, b2, b1], v3, fun Q => ?_⟩
        rw [start, ← g3 Q]
        simp +decide only [Nat.reduceEqDiff, Nat.add_eq_left, Nat.left_eq_add, Nat.reduceAdd, Nat.reduceLeDiff, Nat.reduceMul, Nat.reduceSub, Nat.reduceLT, zlt8, zlt8_, zlt8n, zlt8n_, List.length_cons, List.length_nil, true_or, or_true, false_or, or_false, and_self, and_true, true_and, and_false, false_and, not_false_eq_true, not_true_eq_false, ite_true, ite_false, if_true, if_false, ite_not, zin, zpush_s, zpush_n, kl_int, kl_ref, kl_none, kl_kl, kl_long, kl_null, zT_wI, zT_wJ, zT_wR, zT_wIr, zT_wJr, zT_wRr, zI_wJ, zI_wR, zI_wJr, zI_wRr, zJ_wI, zJ_wR, zJ_wIr, zJ_wRr, zR_wI, zR_wJ, zR_wIr, zR_wJr, zN_wI, zN_wJ, zN_wR, zN_wIr, zN_wJr, zN_wRr, zZ_wI, zZ_wJ, zZ_wR, zZ_wIr, zZ_wJr, zZ_wRr, zI_wI, zJ_wJ, zR_wR, zI_wIr, zJ_wJr, zR_wRr, g507_39, g507_40, g507_42, g507_45, g507_46, g507_47, g507_78, g507_81, n69, cp38, bB_t, nI_1, Option.isSome]
      | false =>
        rw [t38] at cp38
        rw [AF_n E t38]
        show ∃ h1, FS (SQ g cc) h h1 ∧ zI h1 69 2 = nI (pOr x s F s (cOr EO E) q).1 ∧ zI h1 g 2 = zI h g 2 ∧ (∀ e, (pOr x s F s (cOr EO E) q).2 = some e → Dr h1 g cc (cs0 ++ e.1) ∧ p0 + e.1.length ≤ (pOr x s F s (cOr EO E) q).1 ∧ 1 ≤ e.1.length) ∧ ∀ Q, zG (d + (D + 2)) 507 7 [some (.ref 69), some (.int (nI dep)), some (.int (bB EA.isSome)), some (.int (bB EO.isSome)), some (.int (nI i))] [] h Q = Q (some (.int (bB (pOr x s F s (cOr EO E) q).2.isSome))) h1
        -- the or that waits
        have A : ∃ h3, FS (SQ g cc) h2 h3 ∧ zI h3 69 2 = nI q ∧ zI h3 g 2 = zI h2 g 2 ∧ Dr h3 g cc (cs0 ++ (cOr EO E).1) ∧ (cOr EO E).1.length + p0 ≤ q ∧ 1 ≤ (cOr EO E).1.length ∧ ∀ Q, zG (d + (D + 2)) 507 39 [some (.ref 69), some (.int (nI dep)), some (.int (bB EA.isSome)), some (.int (bB EO.isSome)), some (.int (nI i))] [] h2 Q = zG (d + (D + 2)) 507 65 [some (.ref 69), some (.int (nI dep)), some (.int 0), some (.int (bB EO.isSome)), some (.int (nI i))] [] h3 Q := by
          cases EO with
          | none =>
            refine ⟨h2, FS_r _ _, e2, rfl, ?_, ?_, L4, fun Q => ?_⟩
            · show Dr h2 g cc (cs0 ++ E.1)
              rw [show cs0 ++ cA none ++ E.1 = cs0 ++ E.1 by show cs0 ++ [] ++ E.1 = _; rw [List.append_nil]] at D2
              exact D2
            · show E.1.length + p0 ≤ q
              omega
            · simp +decide only [Nat.reduceEqDiff, Nat.add_eq_left, Nat.left_eq_add, Nat.reduceAdd, Nat.reduceLeDiff, Nat.reduceMul, Nat.reduceSub, Nat.reduceLT, zlt8, zlt8_, zlt8n, zlt8n_, List.length_cons, List.length_nil, true_or, or_true, false_or, or_false, and_self, and_true, true_and, and_false, false_and, not_false_eq_true, not_true_eq_false, ite_true, ite_false, if_true, if_false, ite_not, zin, zpush_s, zpush_n, kl_int, kl_ref, kl_none, kl_kl, kl_long, kl_null, zT_wI, zT_wJ, zT_wR, zT_wIr, zT_wJr, zT_wRr, zI_wJ, zI_wR, zI_wJr, zI_wRr, zJ_wI, zJ_wR, zJ_wIr, zJ_wRr, zR_wI, zR_wJ, zR_wIr, zR_wJr, zN_wI, zN_wJ, zN_wR, zN_wIr, zN_wJr, zN_wRr, zZ_wI, zZ_wJ, zZ_wR, zZ_wIr, zZ_wJr, zZ_wRr, zI_wI, zJ_wJ, zR_wR, zI_wIr, zJ_wJr, zR_wRr, g507_39, g507_40, g507_42, g507_45, g507_46, g507_47, g507_50, g507_51, n69, cp38, bB_f, Option.isSome, Bool.false_eq_true]
          | some o =>
            have hlen2 : (cs0 ++ cA (some o) ++ E.1).length < 100 := by
              simp only [List.length_append]
              have : nS (some o) = 1 := rfl
              omega
            have n5 := m2.2.2.2.2.1
            have n6 := m2.2.2.2.2.2.1
            obtain ⟨h3, f3, a3, b3, D3, g3⟩ := c_add (d := d + (D + 1)) (c := 124) m2 D2 hlen2 0 0
            refine ⟨h3, f3, by rw [a3]; exact e2, b3, ?_, ?_, ?_, fun Q => ?_⟩
            · show Dr h3 g cc (cs0 ++ (o.1 ++ E.1 ++ [pCode 124 0 0]))
              have : cs0 ++ cA (some o) ++ E.1 ++ [pCode 124 0 0] = cs0 ++ (o.1 ++ E.1 ++ [pCode 124 0 0]) := by
                show cs0 ++ o.1 ++ E.1 ++ [pCode 124 0 0] = _
                simp only [List.append_assoc]
              rw [this] at D3
              exact D3
            · show (o.1 ++ E.1 ++ [pCode 124 0 0]).length + p0 ≤ q
              have h1 : nS (some o) = 1 := rfl
              have h2 : (cA (some o)).length = o.1.length := rfl
              simp only [List.length_append, List.length_singleton]
              omega
            · show 1 ≤ (o.1 ++ E.1 ++ [pCode 124 0 0]).length
              simp only [List.length_append, List.length_singleton]; omega
            · have g3' : ∀ Q, zCall (d + (D + 2)) 403 [.ref g, .int 124, .int 0, .int 0] h2 Q = Q none h3 := g3
              simp +decide only [Nat.reduceEqDiff, Nat.add_eq_left, Nat.left_eq_add, Nat.reduceAdd, Nat.reduceLeDiff, Nat.reduceMul, Nat.reduceSub, Nat.reduceLT, zlt8, zlt8_, zlt8n, zlt8n_, List.length_cons, List.length_nil, true_or, or_true, false_or, or_false, and_self, and_true, true_and, and_false, false_and, not_false_eq_true, not_true_eq_false, ite_true, ite_false, if_true, if_false, ite_not, zin, zpush_s, zpush_n, kl_int, kl_ref, kl_none, kl_kl, kl_long, kl_null, zT_wI, zT_wJ, zT_wR, zT_wIr, zT_wJr, zT_wRr, zI_wJ, zI_wR, zI_wJr, zI_wRr, zJ_wI, zJ_wR, zJ_wIr, zJ_wRr, zR_wI, zR_wJ, zR_wIr, zR_wJr, zN_wI, zN_wJ, zN_wR, zN_wIr, zN_wJr, zN_wRr, zZ_wI, zZ_wJ, zZ_wR, zZ_wIr, zZ_wJr, zZ_wRr, zI_wI, zJ_wJ, zR_wR, zI_wIr, zJ_wJr, zR_wRr, g507_39, g507_40, g507_42, g507_45, g507_46, g507_47, g507_50, g507_51, g507_54, g507_55, g507_58, g507_60, g507_61, g507_62, n69, n5, n6, cp38, g3', bB_t, bB_f, Option.isSome, Bool.false_eq_true]
        obtain ⟨h3, f3, e3, b3, D3, L5, L6, g3⟩ := A
        have m3 := CP_f m2 f3
        have o69 := m3.2.1
        generalize cOr EO E = O at *
        have cp124 : ∀ Q, zCall (d + (D + 2)) 512 [.ref 69, .int 124] h3 Q = Q (some (.int (bB (tk x s 124 q)))) (if tk x s 124 q = true then wI h3 69 2 (nI (q + 1)) else h3) := fun Q => c_pass (d := d + D) m3 e3 w1 (by decide) Q
        cases t124 : tk x s 124 q with
        | true =>
          rw [t124] at cp124
          have qs := (tk_i.mp t124).1
          have eN : pOr x s F s O q = rR x s F (some O) none (q + 1) := by
            rw [OF_t hF O t124]
            unfold rR pBoth
            rcases F (q + 1) with ⟨q', _ | e2⟩
            · rfl
            · show (match pAnd x s F s e2 q' with
                | (q, some e2) => pOr x s F s (O.1 ++ e2.1 ++ [pCode 124 0 0], fun nm => O.2 nm || e2.2 nm) q
                | (q, none) => (q, none)) = fin x s F (some O) (pAnd x s F s e2 q')
              rcases pAnd x s F s e2 q' with ⟨q2, _ | e3⟩ <;> rfl
          rw [eN]
          have A4 := At_w (h := h3) (q + 1)
          obtain ⟨h4, f4, e4, b4, v4, g4⟩ := c_expr_lp hI hF hcs N (i + 1) (wI h3 69 2 (nI (q + 1))) (q + 1) (some O) none (by omega) (by omega) (by omega) (At_C m3 A4) (by
            have := At_D m3 A4 D3
            show Dr _ g cc (cs0 ++ O.1 ++ [])
            rw [List.append_nil]
            exact this) A4.2 (by
            have h1 : nS (some O) = 1 := rfl
            have h2 : (cA (some O)).length = O.1.length := rfl
            have h3 : (cA none).length = 0 := rfl
            have h4 : nS none = 0 := rfl
            omega)
          refine ⟨h4, FS_t f1 (FS_t f2 (FS_t f3 (FS_t (At_Q A4) f4))), e4, by rw [b4, At_g m3 A4, b3, b2, b1], v4, fun Q => ?_⟩
          have g4' : ∀ Q, zG (d + (D + 2)) 507 7 [some (.ref 69), some (.int (nI dep)), some (.int 0), some (.int 1), some (.int (nI (i + 1)))] [] (wI h3 69 2 (nI (q + 1))) Q = _ := g4
          rw [start, g3, ← g4' Q]
          simp +decide only [Nat.reduceEqDiff, Nat.add_eq_left, Nat.left_eq_add, Nat.reduceAdd, Nat.reduceLeDiff, Nat.reduceMul, Nat.reduceSub, Nat.reduceLT, zlt8, zlt8_, zlt8n, zlt8n_, List.length_cons, List.length_nil, true_or, or_true, false_or, or_false, and_self, and_true, true_and, and_false, false_and, not_false_eq_true, not_true_eq_false, ite_true, ite_false, if_true, if_false, ite_not, zin, zpush_s, zpush_n, kl_int, kl_ref, kl_none, kl_kl, kl_long, kl_null, zT_wI, zT_wJ, zT_wR, zT_wIr, zT_wJr, zT_wRr, zI_wJ, zI_wR, zI_wJr, zI_wRr, zJ_wI, zJ_wR, zJ_wIr, zJ_wRr, zR_wI, zR_wJ, zR_wIr, zR_wJr, zN_wI, zN_wJ, zN_wR, zN_wIr, zN_wJr, zN_wRr, zZ_wI, zZ_wJ, zZ_wR, zZ_wIr, zZ_wJr, zZ_wRr, zI_wI, zJ_wJ, zR_wR, zI_wIr, zJ_wJr, zR_wRr, g507_65, g507_66, g507_68, g507_71, g507_72, g507_73, g507_78, g507_81, o69, cp124, bB_t, nI_1]
        | false =>
          rw [t124] at cp124
          rw [OF_n O t124]
          refine ⟨h3, FS_t f1 (FS_t f2 f3), e3, by rw [b3, b2, b1], fun e he => ?_, fun Q => ?_⟩
          · have he := Option.some.inj he
            subst he
            exact ⟨D3, by simp only; omega, L6⟩
          · rw [start, g3]
            simp +decide only [Nat.reduceEqDiff, Nat.add_eq_left, Nat.left_eq_add, Nat.reduceAdd, Nat.reduceLeDiff, Nat.reduceMul, Nat.reduceSub, Nat.reduceLT, zlt8, zlt8_, zlt8n, zlt8n_, List.length_cons, List.length_nil, true_or, or_true, false_or, or_false, and_self, and_true, true_and, and_false, false_and, not_false_eq_true, not_true_eq_false, ite_true, ite_false, if_true, if_false, ite_not, zin, zpush_s, zpush_n, kl_int, kl_ref, kl_none, kl_kl, kl_long, kl_null, zT_wI, zT_wJ, zT_wR, zT_wIr, zT_wJr, zT_wRr, zI_wJ, zI_wR, zI_wJr, zI_wRr, zJ_wI, zJ_wR, zJ_wIr, zJ_wRr, zR_wI, zR_wJ, zR_wIr, zR_wJr, zN_wI, zN_wJ, zN_wR, zN_wIr, zN_wJr, zN_wRr, zZ_wI, zZ_wJ, zZ_wR, zZ_wIr, zZ_wJr, zZ_wRr, zI_wI, zJ_wJ, zR_wR, zI_wIr, zJ_wJr, zR_wRr, g507_65, g507_66, g507_68, g507_71, g507_72, g507_73, g507_76, g507_77, o69, cp124, bB_t, bB_f, Option.isSome, Bool.false_eq_true]
theorem c_expr (hI : ImpC x s g cc 508 (D + 2) [.int (nI dep)] F) (hF : Bd s F) : ImpC x s g cc 507 (D + 3) [.int (nI dep)] (pAny x s F) := by
  intro d h p cs m hd e hl hp
  obtain ⟨h1, f1, e1, b1, v1, g1⟩ := c_expr_lp (d := d) hI hF (p0 := p) hl (s + 1) 0 h p none none (by omega) (by omega) hp m (by show Dr h g cc (cs ++ [] ++ []); rw [List.append_nil, List.append_nil]; exact hd) e (by
    have h3 : (cA none).length = 0 := rfl
    have h4 : nS none = 0 := rfl
    omega)
  have le := rR_le (x := x) hF none none hp
  rw [rR_any]
  refine ⟨h1, f1, e1, le.1, le.2, b1, v1, fun Q => ?_⟩
  have g1' : ∀ Q, zG (d + (D + 2)) 507 7 [some (.ref 69), some (.int (nI dep)), some (.int 0), some (.int 0), some (.int 0)] [] h Q = _ := g1
  rw [← g1' Q, show d + (D + 3) = d + (D + 2) + 1 from rfl]
  simp +decide only [Nat.reduceEqDiff, Nat.add_eq_left, Nat.left_eq_add, Nat.reduceAdd, Nat.reduceLeDiff, Nat.reduceMul, Nat.reduceSub, Nat.reduceLT, zlt8, zlt8_, zlt8n, zlt8n_, List.length_cons, List.length_nil, true_or, or_true, false_or, or_false, and_self, and_true, true_and, and_false, false_and, not_false_eq_true, not_true_eq_false, ite_true, ite_false, if_true, if_false, ite_not, zin, zpush_s, zpush_n, kl_int, kl_ref, kl_none, kl_kl, kl_long, kl_null, zT_wI, zT_wJ, zT_wR, zT_wIr, zT_wJr, zT_wRr, zI_wJ, zI_wR, zI_wJr, zI_wRr, zJ_wI, zJ_wR, zJ_wIr, zJ_wRr, zR_wI, zR_wJ, zR_wIr, zR_wJr, zN_wI, zN_wJ, zN_wR, zN_wIr, zN_wJr, zN_wRr, zZ_wI, zZ_wJ, zZ_wR, zZ_wIr, zZ_wJr, zZ_wRr, zI_wI, zJ_wJ, zR_wR, zI_wIr, zJ_wJr, zR_wRr, k507, g507_0, g507_1, g507_2, g507_3, g507_4, g507_5]
