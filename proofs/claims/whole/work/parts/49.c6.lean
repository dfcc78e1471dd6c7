-- needs 48.c5
variable {d a b n t D K s p q g cc k dep B : Nat} {h h1 : zH} {w x nm : zW0} {c v r : Int32} {F : Nat → Nat × Option pE} {cs : List Int32} {e : pE}
theorem c_draft_lp : ∀ (m j : Nat) (h : zH) (p : Nat) (a : pA), j + m = 11 → 1 ≤ m → CP h x s g cc → Dr h g cc a.1 → zI h 69 2 = nI p → a.1.length ≤ p → p ≤ s → zI h g 2 = a.2.1 → ∃ h1 l2, FS (SQ g cc) h h1 ∧ zI h1 69 2 = nI (pAll x s m a p).1 ∧ (pAll x s m a p).1 ≤ s ∧ (∀ a2, (pAll x s m a p).2 = some a2 → Dr h1 g cc a2.1 ∧ zI h1 g 2 = a2.2.1 ∧ a2.1.length ≤ s) ∧ ∀ Q, zG (d + 17) 503 16 [some (.ref 69), some (.int 0), some (.int (nI j))] [] h Q = zG (d + 17) 503 77 [some (.ref 69), some (.int (bB (pAll x s m a p).2.isSome)), l2] [] h1 Q
  | 0, j, h, p, a, e, hm, m, hd, ep, hl, hp, ha => by omega
  | M + 1, j, h, p, a, e, hm, m, hd, ep, hl, hp, ha => by
    obtain ⟨h1, f1, e1, u1, w1, v1, g1⟩ := c_clause (d := d) m a hd ep hl hp ha
    have m69 := m.2.1
    have m1 := CP_f m f1
    have k69 := m1.2.1
    have k9 := m1.2.2.2.2.2.2.2.2.1
    have hs := m.2.2.2.2.2.2.2.2.2.1
    have z10 : ¬ (10 : Int32) < nI j := nI_nlt (a := 10) (by omega) (by omega)
    have zj : (nI j = 10) = (j = 10) := propext (nI_eq (b := 10) (by omega) (by omega))
    have eA : pAll x s (M + 1) a p = (match pClause x s a p with
        | (q, some a2) => if M ≠ 0 ∧ tk x s 59 q then pAll x s M a2 (q + 1) else if q = s then (q, some a2) else (q, none)
        | (q, none) => (q, none)) := by
      rw [pAll]
      rcases pClause x s a p with ⟨q, _ | a2⟩ <;> rfl
    rw [eA]
    revert e1 u1 w1 v1 g1
    rcases pClause x s a p with ⟨q, _ | a2⟩
    · intro e1 u1 w1 v1 g1
      refine ⟨h1, some (.int (nI j)), f1, e1, w1, fun a2 h2 => by simp at h2, fun Q => ?_⟩
      rw [g503_16]
      simp +decide only [Nat.reduceEqDiff, Nat.add_eq_left, Nat.left_eq_add, Nat.reduceAdd, Nat.reduceLeDiff, Nat.reduceMul, Nat.reduceSub, Nat.reduceLT, zlt8, zlt8_, zlt8n, zlt8n_, List.length_cons, List.length_nil, true_or, or_true, false_or, or_false, and_self, and_true, true_and, and_false, false_and, not_false_eq_true, not_true_eq_false, ite_true, ite_false, if_true, if_false, ite_not, zin, zpush_s, zpush_n, kl_int, kl_ref, kl_none, kl_kl, kl_long, kl_null, zT_wI, zT_wJ, zT_wR, zT_wIr, zT_wJr, zT_wRr, zI_wJ, zI_wR, zI_wJr, zI_wRr, zJ_wI, zJ_wR, zJ_wIr, zJ_wRr, zR_wI, zR_wJ, zR_wIr, zR_wJr, zN_wI, zN_wJ, zN_wR, zN_wIr, zN_wJr, zN_wRr, zZ_wI, zZ_wJ, zZ_wR, zZ_wIr, zZ_wJr, zZ_wRr, zI_wI, zJ_wJ, zR_wR, zI_wIr, zJ_wJr, zR_wRr, g503_0, g503_1, g503_4, g503_7, g503_8, g503_9, g503_12, g503_13, g503_14, g503_15, g503_17, g503_19, g503_22, g503_23, g503_26, g503_29, g503_32, g503_33, g503_36, g503_37, g503_40, g503_43, g503_44, g503_47, g503_48, g503_49, g503_50, g503_53, g503_54, g503_56, g503_59, g503_60, g503_62, g503_65, g503_68, g503_71, g503_74, g503_77, g503_78, g503_79, g503_82, g503_83, g503_86, g503_87, g503_90, g503_91, g503_94, m69, z10, g1, bB_f, Option.isSome]
    · intro e1 u1 w1 v1 g1
      simp only at e1 u1 w1
      obtain ⟨D1, b1, L1⟩ := v1 a2 rfl
      simp only at L1
      have cp59 : ∀ Q, zCall (d + 17) 512 [.ref 69, .int 59] h1 Q = Q (some (.int (bB (tk x s 59 q)))) (if tk x s 59 q = true then wI h1 69 2 (nI (q + 1)) else h1) := fun Q => c_pass (d := d + 15) m1 e1 w1 (by decide) Q
      have zq : (nI q = nI s) = (q = s) := propext (nI_eq (by omega) (by omega))
      dsimp only
      by_cases q1 : q = s
      · have t0 : tk x s 59 q = false := tk_f1 (by omega)
        rw [if_neg (by rw [t0]; simp), if_pos q1]
        refine ⟨h1, some (.int (nI j)), f1, e1, w1, fun a3 h3 => ?_, fun Q => ?_⟩
        · have h3 := Option.some.inj h3
          subst h3
          exact ⟨D1, b1, by omega⟩
        · rw [g503_16]
          simp +decide only [Nat.reduceEqDiff, Nat.add_eq_left, Nat.left_eq_add, Nat.reduceAdd, Nat.reduceLeDiff, Nat.reduceMul, Nat.reduceSub, Nat.reduceLT, zlt8, zlt8_, zlt8n, zlt8n_, List.length_cons, List.length_nil, true_or, or_true, false_or, or_false, and_self, and_true, true_and, and_false, false_and, not_false_eq_true, not_true_eq_false, ite_true, ite_false, if_true, if_false, ite_not, zin, zpush_s, zpush_n, kl_int, kl_ref, kl_none, kl_kl, kl_long, kl_null, zT_wI, zT_wJ, zT_wR, zT_wIr, zT_wJr, zT_wRr, zI_wJ, zI_wR, zI_wJr, zI_wRr, zJ_wI, zJ_wR, zJ_wIr, zJ_wRr, zR_wI, zR_wJ, zR_wIr, zR_wJr, zN_wI, zN_wJ, zN_wR, zN_wIr, zN_wJr, zN_wRr, zZ_wI, zZ_wJ, zZ_wR, zZ_wIr, zZ_wJr, zZ_wRr, zI_wI, zJ_wJ, zR_wR, zI_wIr, zJ_wJr, zR_wRr, g503_0, g503_1, g503_4, g503_7, g503_8, g503_9, g503_12, g503_13, g503_14, g503_15, g503_17, g503_19, g503_22, g503_23, g503_26, g503_29, g503_32, g503_33, g503_36, g503_37, g503_40, g503_43, g503_44, g503_47, g503_48, g503_49, g503_50, g503_53, g503_54, g503_56, g503_59, g503_60, g503_62, g503_65, g503_68, g503_71, g503_74, g503_77, g503_78, g503_79, g503_82, g503_83, g503_86, g503_87, g503_90, g503_91, g503_94, m69, k69, k9, z10, g1, e1, zq, q1, bB_t, Option.isSome]
      · by_cases q2 : M ≠ 0 ∧ tk x s 59 q = true
        · rw [if_pos q2]
          rw [q2.2] at cp59
          have qs := (tk_i.mp q2.2).1
          have A2 := At_w (h := h1) (q + 1)
          obtain ⟨h2, l2, f2, e2, w2, v2, g2⟩ := c_draft_lp M (j + 1) (wI h1 69 2 (nI (q + 1))) (q + 1) a2 (by omega) (by omega) (At_C m1 A2) (At_D m1 A2 D1) A2.2 (by omega) (by omega) (by rw [At_g m1 A2]; exact b1)
          refine ⟨h2, l2, FS_t f1 (FS_t (At_Q A2) f2), e2, w2, v2, fun Q => ?_⟩
          rw [← g2 Q, g503_16]
          simp +decide only [Nat.reduceEqDiff, Nat.add_eq_left, Nat.left_eq_add, Nat.reduceAdd, Nat.reduceLeDiff, Nat.reduceMul, Nat.reduceSub, Nat.reduceLT, zlt8, zlt8_, zlt8n, zlt8n_, List.length_cons, List.length_nil, true_or, or_true, false_or, or_false, and_self, and_true, true_and, and_false, false_and, not_false_eq_true, not_true_eq_false, ite_true, ite_false, if_true, if_false, ite_not, zin, zpush_s, zpush_n, kl_int, kl_ref, kl_none, kl_kl, kl_long, kl_null, zT_wI, zT_wJ, zT_wR, zT_wIr, zT_wJr, zT_wRr, zI_wJ, zI_wR, zI_wJr, zI_wRr, zJ_wI, zJ_wR, zJ_wIr, zJ_wRr, zR_wI, zR_wJ, zR_wIr, zR_wJr, zN_wI, zN_wJ, zN_wR, zN_wIr, zN_wJr, zN_wRr, zZ_wI, zZ_wJ, zZ_wR, zZ_wIr, zZ_wJr, zZ_wRr, zI_wI, zJ_wJ, zR_wR, zI_wIr, zJ_wJr, zR_wRr, g503_0, g503_1, g503_4, g503_7, g503_8, g503_9, g503_12, g503_13, g503_14, g503_15, g503_17, g503_19, g503_22, g503_23, g503_26, g503_29, g503_32, g503_33, g503_36, g503_37, g503_40, g503_43, g503_44, g503_47, g503_48, g503_49, g503_50, g503_53, g503_54, g503_56, g503_59, g503_60, g503_62, g503_65, g503_68, g503_71, g503_74, g503_77, g503_78, g503_79, g503_82, g503_83, g503_86, g503_87, g503_90, g503_91, g503_94, m69, k69, k9, z10, g1, e1, zq, q1, zj, show ¬ j = 10 by omega, cp59, bB_t, bB_f, nI_1, Option.isSome]
        · rw [if_neg q2, if_neg q1]
          by_cases q3 : j = 10
          · refine ⟨h1, some (.int (nI j)), f1, e1, w1, fun a3 h3 => by simp at h3, fun Q => ?_⟩
            rw [g503_16]
            simp +decide only [Nat.reduceEqDiff, Nat.add_eq_left, Nat.left_eq_add, Nat.reduceAdd, Nat.reduceLeDiff, Nat.reduceMul, Nat.reduceSub, Nat.reduceLT, zlt8, zlt8_, zlt8n, zlt8n_, List.length_cons, List.length_nil, true_or, or_true, false_or, or_false, and_self, and_true, true_and, and_false, false_and, not_false_eq_true, not_true_eq_false, ite_true, ite_false, if_true, if_false, ite_not, zin, zpush_s, zpush_n, kl_int, kl_ref, kl_none, kl_kl, kl_long, kl_null, zT_wI, zT_wJ, zT_wR, zT_wIr, zT_wJr, zT_wRr, zI_wJ, zI_wR, zI_wJr, zI_wRr, zJ_wI, zJ_wR, zJ_wIr, zJ_wRr, zR_wI, zR_wJ, zR_wIr, zR_wJr, zN_wI, zN_wJ, zN_wR, zN_wIr, zN_wJr, zN_wRr, zZ_wI, zZ_wJ, zZ_wR, zZ_wIr, zZ_wJr, zZ_wRr, zI_wI, zJ_wJ, zR_wR, zI_wIr, zJ_wJr, zR_wRr, g503_0, g503_1, g503_4, g503_7, g503_8, g503_9, g503_12, g503_13, g503_14, g503_15, g503_17, g503_19, g503_22, g503_23, g503_26, g503_29, g503_32, g503_33, g503_36, g503_37, g503_40, g503_43, g503_44, g503_47, g503_48, g503_49, g503_50, g503_53, g503_54, g503_56, g503_59, g503_60, g503_62, g503_65, g503_68, g503_71, g503_74, g503_77, g503_78, g503_79, g503_82, g503_83, g503_86, g503_87, g503_90, g503_91, g503_94, m69, k69, k9, z10, g1, e1, zq, q1, zj, q3, bB_t, bB_f, Option.isSome]
          · have t0 : tk x s 59 q = false := by
              cases t0 : tk x s 59 q with
              | false => rfl
              | true => exact absurd ⟨by omega, t0⟩ q2
            rw [t0] at cp59
            refine ⟨h1, some (.int (nI j)), f1, e1, w1, fun a3 h3 => by simp at h3, fun Q => ?_⟩
            rw [g503_16]
            simp +decide only [Nat.reduceEqDiff, Nat.add_eq_left, Nat.left_eq_add, Nat.reduceAdd, Nat.reduceLeDiff, Nat.reduceMul, Nat.reduceSub, Nat.reduceLT, zlt8, zlt8_, zlt8n, zlt8n_, List.length_cons, List.length_nil, true_or, or_true, false_or, or_false, and_self, and_true, true_and, and_false, false_and, not_false_eq_true, not_true_eq_false, ite_true, ite_false, if_true, if_false, ite_not, zin, zpush_s, zpush_n, kl_int, kl_ref, kl_none, kl_kl, kl_long, kl_null, zT_wI, zT_wJ, zT_wR, zT_wIr, zT_wJr, zT_wRr, zI_wJ, zI_wR, zI_wJr, zI_wRr, zJ_wI, zJ_wR, zJ_wIr, zJ_wRr, zR_wI, zR_wJ, zR_wIr, zR_wJr, zN_wI, zN_wJ, zN_wR, zN_wIr, zN_wJr, zN_wRr, zZ_wI, zZ_wJ, zZ_wR, zZ_wIr, zZ_wJr, zZ_wRr, zI_wI, zJ_wJ, zR_wR, zI_wIr, zJ_wJr, zR_wRr, g503_0, g503_1, g503_4, g503_7, g503_8, g503_9, g503_12, g503_13, g503_14, g503_15, g503_17, g503_19, g503_22, g503_23, g503_26, g503_29, g503_32, g503_33, g503_36, g503_37, g503_40, g503_43, g503_44, g503_47, g503_48, g503_49, g503_50, g503_53, g503_54, g503_56, g503_59, g503_60, g503_62, g503_65, g503_68, g503_71, g503_74, g503_77, g503_78, g503_79, g503_82, g503_83, g503_86, g503_87, g503_90, g503_91, g503_94, m69, k69, k9, z10, g1, e1, zq, q1, zj, q3, cp59, bB_t, bB_f, Option.isSome, Bool.false_eq_true]
def SD (g cc b k : Nat) : Prop := (b = 69 ∧ (k = 2 ∨ k = 3)) ∨ (b = g ∧ 1 ≤ k) ∨ b = cc
theorem SQ_D (b k : Nat) : SQ g cc b k → SD g cc b k := by unfold SQ SD; omega
theorem c_draft (m : CP h x s g cc) : ∃ h1, FS (SD g cc) h h1 ∧ zI h1 69 3 = 0 ∧ (∀ a, (pAll x s 10 pA0 0).2 = some a → Dr h1 g cc a.1 ∧ zI h1 g 2 = a.2.1 ∧ a.1.length ≤ 100) ∧ ∀ Q, zCall (d + 18) 503 [.ref 69] h Q = Q (some (.int (if (pAll x s 10 pA0 0).2.isSome = true then -1 else nI (pAll x s 10 pA0 0).1))) h1 := by
  have hg := m.2.2.2.2.2.2.2.2.2.2.2
  have hs := m.2.2.2.2.2.2.2.2.2.1
  have f0 : FS (SQ g cc) h (wI (wI (wI h g 1 0) g 2 10) 69 2 0) := FS_t (FS_t (FS_I _ (by unfold SQ; omega)) (FS_I _ (by unfold SQ; omega))) (FS_I _ (by unfold SQ; omega))
  have m0 := CP_f m f0
  have hg69 : ¬ g = 69 := by omega
  obtain ⟨h1, l2, f1, e1, w1, v1, g1⟩ := c_draft_lp (d := d) 10 1 (wI (wI (wI h g 1 0) g 2 10) 69 2 0) 0 pA0 (by omega) (by omega) m0 ⟨by simp +decide only [zI_wI, if_true, hg69, if_false, up_a] <;> rfl, fun i hi => by simp [pA0] at hi⟩ (by rw [zI_wI, if_pos rfl, up_s]; rfl) (by simp [pA0]) (by omega) (by simp +decide only [zI_wI, if_true, hg69, if_false, up_a] <;> rfl)
  have m1 := CP_f m0 f1
  refine ⟨wI h1 69 3 0, FS_t (FS_m SQ_D f0) (FS_t (FS_m SQ_D f1) (FS_I _ (by unfold SD; omega))), by rw [zI_wI, if_pos rfl, up_s], fun a ha => ?_, fun Q => ?_⟩
  · obtain ⟨D1, b1, L1⟩ := v1 a ha
    have hc69 : ¬ cc = 69 := by omega
    exact ⟨⟨by rw [zI_wI, if_neg hg69]; exact D1.1, fun i hi => by rw [zI_wI, if_neg hc69]; exact D1.2 i hi⟩, by rw [zI_wI, if_neg hg69]; exact b1, by omega⟩
  · obtain ⟨m1', m2, m3, m4, m5, m6, m7, m8, m9, m10, m11, m12, m13, m14, m15, m16⟩ := m
    have k69 := m1.2.1
    have n1 : nI 1 = 1 := rfl
    rw [n1] at g1
    simp +decide only [Nat.reduceEqDiff, Nat.add_eq_left, Nat.left_eq_add, Nat.reduceAdd, Nat.reduceLeDiff, Nat.reduceMul, Nat.reduceSub, Nat.reduceLT, zlt8, zlt8_, zlt8n, zlt8n_, List.length_cons, List.length_nil, true_or, or_true, false_or, or_false, and_self, and_true, true_and, and_false, false_and, not_false_eq_true, not_true_eq_false, ite_true, ite_false, if_true, if_false, ite_not, zin, zpush_s, zpush_n, kl_int, kl_ref, kl_none, kl_kl, kl_long, kl_null, zT_wI, zT_wJ, zT_wR, zT_wIr, zT_wJr, zT_wRr, zI_wJ, zI_wR, zI_wJr, zI_wRr, zJ_wI, zJ_wR, zJ_wIr, zJ_wRr, zR_wI, zR_wJ, zR_wIr, zR_wJr, zN_wI, zN_wJ, zN_wR, zN_wIr, zN_wJr, zN_wRr, zZ_wI, zZ_wJ, zZ_wR, zZ_wIr, zZ_wJr, zZ_wRr, zI_wI, zJ_wJ, zR_wR, zI_wIr, zJ_wJr, zR_wRr, k503, g503_0, g503_1, g503_4, k402, g402_0, g402_1, g402_2, g402_5, g402_6, g402_8, g402_11, g503_7, g503_8, g503_9, g503_12, g503_13, g503_14, g503_15, m2, m5, m6]
    rw [g1]
    cases q : (pAll x s 10 pA0 0).2.isSome <;> simp +decide only [Nat.reduceEqDiff, Nat.add_eq_left, Nat.left_eq_add, Nat.reduceAdd, Nat.reduceLeDiff, Nat.reduceMul, Nat.reduceSub, Nat.reduceLT, zlt8, zlt8_, zlt8n, zlt8n_, List.length_cons, List.length_nil, true_or, or_true, false_or, or_false, and_self, and_true, true_and, and_false, false_and, not_false_eq_true, not_true_eq_false, ite_true, ite_false, if_true, if_false, ite_not, zin, zpush_s, zpush_n, kl_int, kl_ref, kl_none, kl_kl, kl_long, kl_null, zT_wI, zT_wJ, zT_wR, zT_wIr, zT_wJr, zT_wRr, zI_wJ, zI_wR, zI_wJr, zI_wRr, zJ_wI, zJ_wR, zJ_wIr, zJ_wRr, zR_wI, zR_wJ, zR_wIr, zR_wJr, zN_wI, zN_wJ, zN_wR, zN_wIr, zN_wJr, zN_wRr, zZ_wI, zZ_wJ, zZ_wR, zZ_wIr, zZ_wJr, zZ_wRr, zI_wI, zJ_wJ, zR_wR, zI_wIr, zJ_wJr, zR_wRr, g503_77, g503_78, g503_79, g503_82, g503_83, g503_86, g503_87, g503_90, g503_91, g503_94, k69, bB_t, bB_f, e1, Bool.false_eq_true, up_a]
/-- a draft handed over: a new one is made -/
def hO (h : zH) : zH := wR (wR (wN (wN h (4, 3)) (20, 100)) (zN h) 0 (.ref (zN h + 1))) 69 1 (.ref (zN h))
theorem c_hand (m69 : zT h 69 = (5, 4)) (m5 : zR h 69 1 = .ref g) (hN : 69 < zN h) (Q : zQq) : zCall (d + 2) 504 [.ref 69] h Q = Q (some (.ref g)) (hO h) := by
  have n1 : ¬ 69 = zN h := by omega
  have n2 : ¬ 69 = zN h + 1 := by omega
  have n3 : ¬ zN h = zN h + 1 := by omega
  simp +decide only [Nat.reduceEqDiff, Nat.add_eq_left, Nat.left_eq_add, Nat.reduceAdd, Nat.reduceLeDiff, Nat.reduceMul, Nat.reduceSub, Nat.reduceLT, zlt8, zlt8_, zlt8n, zlt8n_, List.length_cons, List.length_nil, true_or, or_true, false_or, or_false, and_self, and_true, true_and, and_false, false_and, not_false_eq_true, not_true_eq_false, ite_true, ite_false, if_true, if_false, ite_not, zin, zpush_s, zpush_n, kl_int, kl_ref, kl_none, kl_kl, kl_long, kl_null, zT_wI, zT_wJ, zT_wR, zT_wIr, zT_wJr, zT_wRr, zI_wJ, zI_wR, zI_wJr, zI_wRr, zJ_wI, zJ_wR, zJ_wIr, zJ_wRr, zR_wI, zR_wJ, zR_wIr, zR_wJr, zN_wI, zN_wJ, zN_wR, zN_wIr, zN_wJr, zN_wRr, zZ_wI, zZ_wJ, zZ_wR, zZ_wIr, zZ_wJr, zZ_wRr, zI_wI, zJ_wJ, zR_wR, zI_wIr, zJ_wJr, zR_wRr, k504, g504_0, g504_1, g504_4, g504_5, g504_6, g504_9, g504_10, g504_13, g504_13_n, g504_16, g504_17, m69, m5, k401, g401_0, g401_1, g401_4, g401_5, g401_7, g401_9, g401_9_n, g401_12, zT_wN, zR_wN, zI_wN, zN_wN, n1, n2, n3, show Int32.toNatClampNeg 100 = 100 by decide, show ¬ (100 : Int32) < 0 by decide]
  rfl
