-- needs 46.c3 30.p7
variable {d a b n t D K s p q g cc k dep : Nat} {h h1 : zH} {w x nm : zW0} {c v r : Int32} {F : Nat → Nat × Option pE} {cs : List Int32}
theorem c_fac_t {l1 : Option Value} (hT : ∀ Q, zG (d + 6) 508 0 [some (.ref 69), l1, none] [] h Q = zG (d + 6) 508 17 [some (.ref 69), l1, some (.int (pk x s p))] [] h Q) (m : CP h x s g cc) (hd : Dr h g cc cs) (e : zI h 69 2 = nI p) (hl : cs.length ≤ p) (hp : p ≤ s) : ∃ h1, FS (SQ g cc) h h1 ∧ zI h1 69 2 = nI (pTest x s p).1 ∧ p ≤ (pTest x s p).1 ∧ (pTest x s p).1 ≤ s ∧ zI h1 g 2 = zI h g 2 ∧ (∀ e, (pTest x s p).2 = some e → Dr h1 g cc (cs ++ e.1) ∧ p + e.1.length ≤ (pTest x s p).1 ∧ 1 ≤ e.1.length) ∧ ∀ Q, zG (d + 6) 508 0 [some (.ref 69), l1, none] [] h Q = Q (some (.int (bB (pTest x s p).2.isSome))) h1 := by
  obtain ⟨h1, f1, e1, u1, w1, b1, v1, g1⟩ := c_test d h p cs m hd e hl hp
  refine ⟨h1, f1, e1, u1, w1, b1, v1, fun Q => ?_⟩
  have m69 := m.2.1
  have hz := bB_z (pTest x s p).2.isSome
  rw [hT]
  simp +decide only [Nat.reduceEqDiff, Nat.add_eq_left, Nat.left_eq_add, Nat.reduceAdd, Nat.reduceLeDiff, Nat.reduceMul, Nat.reduceSub, Nat.reduceLT, zlt8, zlt8_, zlt8n, zlt8n_, List.length_cons, List.length_nil, true_or, or_true, false_or, or_false, and_self, and_true, true_and, and_false, false_and, not_false_eq_true, not_true_eq_false, ite_true, ite_false, if_true, if_false, ite_not, zin, zpush_s, zpush_n, kl_int, kl_ref, kl_none, kl_kl, kl_long, kl_null, zT_wI, zT_wJ, zT_wR, zT_wIr, zT_wJr, zT_wRr, zI_wJ, zI_wR, zI_wJr, zI_wRr, zJ_wI, zJ_wR, zJ_wIr, zJ_wRr, zR_wI, zR_wJ, zR_wIr, zR_wJr, zN_wI, zN_wJ, zN_wR, zN_wIr, zN_wJr, zN_wRr, zZ_wI, zZ_wJ, zZ_wR, zZ_wIr, zZ_wJr, zZ_wRr, zI_wI, zJ_wJ, zR_wR, zI_wIr, zJ_wJr, zR_wRr, g508_17, g508_18, g508_21, m69, g1, hz]
theorem c_factor : ∀ (k dep : Nat), dep + k = 4 → ImpC x s g cc 508 (7 + 2 * k) [.int (nI dep)] (pFac x s k)
  | 0, dep, e4 => by
    intro d h p cs m hd e hl hp
    have m69 := m.2.1
    have ed : dep = 4 := by omega
    subst ed
    have cp : ∀ Q, zCall (d + 6) 513 [.ref 69] h Q = Q (some (.int (pk x s p))) h := fun Q => c_peek m e hp Q
    by_cases q : pk x s p = 33 ∨ pk x s p = 40
    · have ps : p < s := by
        rcases q with q | q <;> unfold pk at q <;> exact Classical.byContradiction fun z => by rw [if_neg z] at q; exact absurd q (by decide)
      have epk : pk x s p = x p := if_pos ps
      have eT : pTest x s p = (p, none) := by
        unfold pTest
        rw [if_neg]
        rw [epk] at q
        rcases q with q | q <;> rw [q] <;> simp [pLet]
      have eF : pFac x s 0 p = (p, none) := eT
      rw [eF]
      refine ⟨h, FS_r _ _, e, Nat.le_refl _, hp, rfl, fun e he => by simp at he, fun Q => ?_⟩
      rw [show d + (7 + 2 * 0) = d + 6 + 1 from rfl]
      rcases q with q | q <;> rw [q] at cp <;> simp +decide only [Nat.reduceEqDiff, Nat.add_eq_left, Nat.left_eq_add, Nat.reduceAdd, Nat.reduceLeDiff, Nat.reduceMul, Nat.reduceSub, Nat.reduceLT, zlt8, zlt8_, zlt8n, zlt8n_, List.length_cons, List.length_nil, true_or, or_true, false_or, or_false, and_self, and_true, true_and, and_false, false_and, not_false_eq_true, not_true_eq_false, ite_true, ite_false, if_true, if_false, ite_not, zin, zpush_s, zpush_n, kl_int, kl_ref, kl_none, kl_kl, kl_long, kl_null, zT_wI, zT_wJ, zT_wR, zT_wIr, zT_wJr, zT_wRr, zI_wJ, zI_wR, zI_wJr, zI_wRr, zJ_wI, zJ_wR, zJ_wIr, zJ_wRr, zR_wI, zR_wJ, zR_wIr, zR_wJr, zN_wI, zN_wJ, zN_wR, zN_wIr, zN_wJr, zN_wRr, zZ_wI, zZ_wJ, zZ_wR, zZ_wIr, zZ_wJr, zZ_wRr, zI_wI, zJ_wJ, zR_wR, zI_wIr, zJ_wJr, zR_wRr, k508, g508_0, g508_1, g508_4, g508_5, g508_6, g508_8, g508_11, g508_12, g508_14, g508_17, g508_18, g508_21, g508_22, g508_23, g508_24, g508_27, g508_28, g508_29, g508_30, g508_31, g508_34, g508_35, g508_36, g508_39, g508_40, g508_42, g508_45, g508_46, g508_47, g508_48, g508_49, g508_52, g508_55, g508_56, g508_58, g508_61, g508_64, g508_65, g508_68, g508_69, g508_70, g508_71, g508_72, g508_73, g508_74, g508_77, g508_80, g508_81, g508_82, g508_83, g508_86, g508_88, g508_89, g508_90, g508_93, g508_94, m69, cp, show ¬ nI 4 < 4 by decide, bB_f, Option.isSome]
    · obtain ⟨h1, f1, e1, u1, w1, b1, v1, g1⟩ := c_fac_t (d := d) (l1 := some (.int (nI 4))) (fun Q => by
        have q1 : ¬ pk x s p = 33 := fun z => q (Or.inl z)
        have q2 : ¬ pk x s p = 40 := fun z => q (Or.inr z)
        simp +decide only [Nat.reduceEqDiff, Nat.add_eq_left, Nat.left_eq_add, Nat.reduceAdd, Nat.reduceLeDiff, Nat.reduceMul, Nat.reduceSub, Nat.reduceLT, zlt8, zlt8_, zlt8n, zlt8n_, List.length_cons, List.length_nil, true_or, or_true, false_or, or_false, and_self, and_true, true_and, and_false, false_and, not_false_eq_true, not_true_eq_false, ite_true, ite_false, if_true, if_false, ite_not, zin, zpush_s, zpush_n, kl_int, kl_ref, kl_none, kl_kl, kl_long, kl_null, zT_wI, zT_wJ, zT_wR, zT_wIr, zT_wJr, zT_wRr, zI_wJ, zI_wR, zI_wJr, zI_wRr, zJ_wI, zJ_wR, zJ_wIr, zJ_wRr, zR_wI, zR_wJ, zR_wIr, zR_wJr, zN_wI, zN_wJ, zN_wR, zN_wIr, zN_wJr, zN_wRr, zZ_wI, zZ_wJ, zZ_wR, zZ_wIr, zZ_wJr, zZ_wRr, zI_wI, zJ_wJ, zR_wR, zI_wIr, zJ_wJr, zR_wRr, g508_0, g508_1, g508_4, g508_5, g508_6, g508_8, g508_11, g508_12, g508_14, m69, cp, q1, q2]) m hd e hl hp
      exact ⟨h1, f1, e1, u1, w1, b1, v1, fun Q => by
        rw [show pFac x s 0 p = pTest x s p from rfl, ← g1 Q, show d + (7 + 2 * 0) = d + 6 + 1 from rfl]
        simp +decide only [Nat.reduceEqDiff, Nat.add_eq_left, Nat.left_eq_add, Nat.reduceAdd, Nat.reduceLeDiff, Nat.reduceMul, Nat.reduceSub, Nat.reduceLT, zlt8, zlt8_, zlt8n, zlt8n_, List.length_cons, List.length_nil, true_or, or_true, false_or, or_false, and_self, and_true, true_and, and_false, false_and, not_false_eq_true, not_true_eq_false, ite_true, ite_false, if_true, if_false, ite_not, zin, zpush_s, zpush_n, kl_int, kl_ref, kl_none, kl_kl, kl_long, kl_null, zT_wI, zT_wJ, zT_wR, zT_wIr, zT_wJr, zT_wRr, zI_wJ, zI_wR, zI_wJr, zI_wRr, zJ_wI, zJ_wR, zJ_wIr, zJ_wRr, zR_wI, zR_wJ, zR_wIr, zR_wJr, zN_wI, zN_wJ, zN_wR, zN_wIr, zN_wJr, zN_wRr, zZ_wI, zZ_wJ, zZ_wR, zZ_wIr, zZ_wJr, zZ_wRr, zI_wI, zJ_wJ, zR_wR, zI_wIr, zJ_wJr, zR_wRr, k508]⟩
  | k + 1, dep, e4 => by
    intro d h p cs m hd e hl hp
    have ih := c_factor k (dep + 1) (by omega)
    have m69 := m.2.1
    have hs := m.2.2.2.2.2.2.2.2.2.1
    have cp : ∀ Q, zCall (d + 2 * k + 8) 513 [.ref 69] h Q = Q (some (.int (pk x s p))) h := fun Q => c_peek m e hp Q
    have t33 := pk_tk (x := x) (s := s) (p := p) (c := 33) (by decide)
    have t40 := pk_tk (x := x) (s := s) (p := p) (c := 40) (by decide)
    have z4 : nI dep < 4 := nI_lt (b := 4) (by omega) (by omega)
    have eD : d + (7 + 2 * (k + 1)) = d + 2 * k + 8 + 1 := by omega
    have ki : nI dep + 1 = nI (dep + 1) := nI_1 dep
    rw [eD]
    cases q : tk x s 33 p with
    | true =>
      have ps := (tk_i.mp q).1
      have ep : pk x s p = 33 := by rw [t33]; exact q
      rw [ep] at cp
      have A1 := At_w (h := h) (p + 1)
      have m1 := At_C m A1
      obtain ⟨h2, f2, e2, u2, w2, b2, v2, g2⟩ := ih (d + 1) _ (p + 1) cs m1 (At_D m A1 hd) A1.2 (by omega) (by omega)
      have eD2 : d + 1 + (7 + 2 * k) = d + 2 * k + 8 := by omega
      rw [eD2] at g2
      have m2 := CP_f m1 f2
      have k5 := m2.2.2.2.2.1
      have k6 := m2.2.2.2.2.2.1
      have k69 := m2.2.1
      have ek : pFac x s (k + 1) p = (match pFac x s k (p + 1) with
          | (q, some e) => (q, some (e.1 ++ [pCode 33 0 0], fun nm => !e.2 nm))
          | (q, none) => (q, none)) := by rw [pFac, q]; rfl
      rw [ek]
      revert e2 u2 w2 v2 g2
      rcases pFac x s k (p + 1) with ⟨q', _ | e0⟩
      · intro e2 u2 w2 v2 g2
        refine ⟨h2, FS_t (At_Q A1) f2, e2, by simp only at u2 ⊢; omega, w2, by rw [b2, At_g m A1], fun e he => by simp at he, fun Q => ?_⟩
        rw [k508]
        simp +decide only [Nat.reduceEqDiff, Nat.add_eq_left, Nat.left_eq_add, Nat.reduceAdd, Nat.reduceLeDiff, Nat.reduceMul, Nat.reduceSub, Nat.reduceLT, zlt8, zlt8_, zlt8n, zlt8n_, List.length_cons, List.length_nil, true_or, or_true, false_or, or_false, and_self, and_true, true_and, and_false, false_and, not_false_eq_true, not_true_eq_false, ite_true, ite_false, if_true, if_false, ite_not, zin, zpush_s, zpush_n, kl_int, kl_ref, kl_none, kl_kl, kl_long, kl_null, zT_wI, zT_wJ, zT_wR, zT_wIr, zT_wJr, zT_wRr, zI_wJ, zI_wR, zI_wJr, zI_wRr, zJ_wI, zJ_wR, zJ_wIr, zJ_wRr, zR_wI, zR_wJ, zR_wIr, zR_wJr, zN_wI, zN_wJ, zN_wR, zN_wIr, zN_wJr, zN_wRr, zZ_wI, zZ_wJ, zZ_wR, zZ_wIr, zZ_wJr, zZ_wRr, zI_wI, zJ_wJ, zR_wR, zI_wIr, zJ_wJr, zR_wRr, g508_0, g508_1, g508_4, g508_5, g508_6, g508_8, g508_11, g508_12, g508_14, g508_17, g508_18, g508_21, g508_22, g508_23, g508_24, g508_27, g508_28, g508_29, g508_30, g508_31, g508_34, g508_35, g508_36, g508_39, g508_40, g508_42, g508_45, g508_46, g508_47, g508_48, g508_49, g508_52, g508_55, g508_56, g508_58, g508_61, g508_64, g508_65, g508_68, g508_69, g508_70, g508_71, g508_72, g508_73, g508_74, g508_77, g508_80, g508_81, g508_82, g508_83, g508_86, g508_88, g508_89, g508_90, g508_93, g508_94, m69, cp, z4, ki, e, nI_1, g2, bB_f, Option.isSome]
      · intro e2 u2 w2 v2 g2
        obtain ⟨D2, L1, L2⟩ := v2 e0 rfl
        simp only at e2 u2 w2 L1
        obtain ⟨h3, f3, a3, b3, D3, g3⟩ := c_add (d := d + 2 * k + 7) (c := 33) m2 D2 (by simp only [List.length_append]; omega) 0 0
        refine ⟨h3, FS_t (At_Q A1) (FS_t f2 f3), by rw [a3]; exact e2, by simp only; omega, w2, by rw [b3, b2, At_g m A1], fun e' he => ?_, fun Q => ?_⟩
        · have he := Option.some.inj he
          subst he
          exact ⟨by rw [← List.append_assoc]; exact D3, by simp only [List.length_append, List.length_singleton]; omega, by simp⟩
        · rw [k508]
          simp +decide only [Nat.reduceEqDiff, Nat.add_eq_left, Nat.left_eq_add, Nat.reduceAdd, Nat.reduceLeDiff, Nat.reduceMul, Nat.reduceSub, Nat.reduceLT, zlt8, zlt8_, zlt8n, zlt8n_, List.length_cons, List.length_nil, true_or, or_true, false_or, or_false, and_self, and_true, true_and, and_false, false_and, not_false_eq_true, not_true_eq_false, ite_true, ite_false, if_true, if_false, ite_not, zin, zpush_s, zpush_n, kl_int, kl_ref, kl_none, kl_kl, kl_long, kl_null, zT_wI, zT_wJ, zT_wR, zT_wIr, zT_wJr, zT_wRr, zI_wJ, zI_wR, zI_wJr, zI_wRr, zJ_wI, zJ_wR, zJ_wIr, zJ_wRr, zR_wI, zR_wJ, zR_wIr, zR_wJr, zN_wI, zN_wJ, zN_wR, zN_wIr, zN_wJr, zN_wRr, zZ_wI, zZ_wJ, zZ_wR, zZ_wIr, zZ_wJr, zZ_wRr, zI_wI, zJ_wJ, zR_wR, zI_wIr, zJ_wJr, zR_wRr, g508_0, g508_1, g508_4, g508_5, g508_6, g508_8, g508_11, g508_12, g508_14, g508_17, g508_18, g508_21, g508_22, g508_23, g508_24, g508_27, g508_28, g508_29, g508_30, g508_31, g508_34, g508_35, g508_36, g508_39, g508_40, g508_42, g508_45, g508_46, g508_47, g508_48, g508_49, g508_52, g508_55, g508_56, g508_58, g508_61, g508_64, g508_65, g508_68, g508_69, g508_70, g508_71, g508_72, g508_73, g508_74, g508_77, g508_80, g508_81, g508_82, g508_83, g508_86, g508_88, g508_89, g508_90, g508_93, g508_94, m69, k69, k5, k6, cp, z4, ki, e, nI_1, g2, g3, bB_t, Option.isSome]
    | false =>
      have n33 : ¬ pk x s p = 33 := by rw [t33, q]; decide
      cases q3 : tk x s 40 p with
      | true =>
        have ps := (tk_i.mp q3).1
        have ep : pk x s p = 40 := by rw [t40]; exact q3
        rw [ep] at cp
        have A1 := At_w (h := h) (p + 1)
        have m1 := At_C m A1
        have ihx : ImpC x s g cc 507 (5 + 2 * k + 3) [.int (nI (dep + 1))] (pAny x s (pFac x s k)) := c_expr (D := 5 + 2 * k) (by rw [show 5 + 2 * k + 2 = 7 + 2 * k by omega]; exact ih) (pFac_le k)
        obtain ⟨h2, f2, e2, u2, w2, b2, v2, g2⟩ := ihx d _ (p + 1) cs m1 (At_D m A1 hd) A1.2 (by omega) (by omega)
        have eD2 : d + (5 + 2 * k + 3) = d + 2 * k + 8 := by omega
        rw [eD2] at g2
        have m2 := CP_f m1 f2
        have k69 := m2.2.1
        have ek : pFac x s (k + 1) p = (match pAny x s (pFac x s k) (p + 1) with
            | (q, some e) => if tk x s 41 q then (q + 1, some e) else (q, none)
            | (q, none) => (q, none)) := by rw [pFac, q, q3]; rfl
        rw [ek]
        revert e2 u2 w2 v2 g2
        rcases pAny x s (pFac x s k) (p + 1) with ⟨q', _ | e0⟩
        · intro e2 u2 w2 v2 g2
          refine ⟨h2, FS_t (At_Q A1) f2, e2, by simp only at u2 ⊢; omega, w2, by rw [b2, At_g m A1], fun e he => by simp at he, fun Q => ?_⟩
          rw [k508]
          simp +decide only [Nat.reduceEqDiff, Nat.add_eq_left, Nat.left_eq_add, Nat.reduceAdd, Nat.reduceLeDiff, Nat.reduceMul, Nat.reduceSub, Nat.reduceLT, zlt8, zlt8_, zlt8n, zlt8n_, List.length_cons, List.length_nil, true_or, or_true, false_or, or_false, and_self, and_true, true_and, and_false, false_and, not_false_eq_true, not_true_eq_false, ite_true, ite_false, if_true, if_false, ite_not, zin, zpush_s, zpush_n, kl_int, kl_ref, kl_none, kl_kl, kl_long, kl_null, zT_wI, zT_wJ, zT_wR, zT_wIr, zT_wJr, zT_wRr, zI_wJ, zI_wR, zI_wJr, zI_wRr, zJ_wI, zJ_wR, zJ_wIr, zJ_wRr, zR_wI, zR_wJ, zR_wIr, zR_wJr, zN_wI, zN_wJ, zN_wR, zN_wIr, zN_wJr, zN_wRr, zZ_wI, zZ_wJ, zZ_wR, zZ_wIr, zZ_wJr, zZ_wRr, zI_wI, zJ_wJ, zR_wR, zI_wIr, zJ_wJr, zR_wRr, g508_0, g508_1, g508_4, g508_5, g508_6, g508_8, g508_11, g508_12, g508_14, g508_17, g508_18, g508_21, g508_22, g508_23, g508_24, g508_27, g508_28, g508_29, g508_30, g508_31, g508_34, g508_35, g508_36, g508_39, g508_40, g508_42, g508_45, g508_46, g508_47, g508_48, g508_49, g508_52, g508_55, g508_56, g508_58, g508_61, g508_64, g508_65, g508_68, g508_69, g508_70, g508_71, g508_72, g508_73, g508_74, g508_77, g508_80, g508_81, g508_82, g508_83, g508_86, g508_88, g508_89, g508_90, g508_93, g508_94, m69, cp, z4, ki, e, nI_1, g2, bB_f, Option.isSome]
        · intro e2 u2 w2 v2 g2
          obtain ⟨D2, L1, L2⟩ := v2 e0 rfl
          simp only at e2 u2 w2 L1
          have cp41 : ∀ Q, zCall (d + 2 * k + 8) 512 [.ref 69, .int 41] h2 Q = Q (some (.int (bB (tk x s 41 q')))) (if tk x s 41 q' = true then wI h2 69 2 (nI (q' + 1)) else h2) := fun Q => c_pass (d := d + 2 * k + 6) m2 e2 w2 (by decide) Q
          dsimp only
          cases q5 : tk x s 41 q' with
          | true =>
            rw [q5] at cp41
            have qs := (tk_i.mp q5).1
            have A2 := At_w (h := h2) (q' + 1)
            simp only [if_true]
            refine ⟨_, FS_t (At_Q A1) (FS_t f2 (At_Q A2)), A2.2, by omega, by omega, by rw [At_g m2 A2, b2, At_g m A1], fun e' he => ?_, fun Q => ?_⟩
            · have he := Option.some.inj he
              subst he
              exact ⟨At_D m2 A2 D2, by omega, L2⟩
            · rw [k508]
              simp +decide only [Nat.reduceEqDiff, Nat.add_eq_left, Nat.left_eq_add, Nat.reduceAdd, Nat.reduceLeDiff, Nat.reduceMul, Nat.reduceSub, Nat.reduceLT, zlt8, zlt8_, zlt8n, zlt8n_, List.length_cons, List.length_nil, true_or, or_true, false_or, or_false, and_self, and_true, true_and, and_false, false_and, not_false_eq_true, not_true_eq_false, ite_true, ite_false, if_true, if_false, ite_not, zin, zpush_s, zpush_n, kl_int, kl_ref, kl_none, kl_kl, kl_long, kl_null, zT_wI, zT_wJ, zT_wR, zT_wIr, zT_wJr, zT_wRr, zI_wJ, zI_wR, zI_wJr, zI_wRr, zJ_wI, zJ_wR, zJ_wIr, zJ_wRr, zR_wI, zR_wJ, zR_wIr, zR_wJr, zN_wI, zN_wJ, zN_wR, zN_wIr, zN_wJr, zN_wRr, zZ_wI, zZ_wJ, zZ_wR, zZ_wIr, zZ_wJr, zZ_wRr, zI_wI, zJ_wJ, zR_wR, zI_wIr, zJ_wJr, zR_wRr, g508_0, g508_1, g508_4, g508_5, g508_6, g508_8, g508_11, g508_12, g508_14, g508_17, g508_18, g508_21, g508_22, g508_23, g508_24, g508_27, g508_28, g508_29, g508_30, g508_31, g508_34, g508_35, g508_36, g508_39, g508_40, g508_42, g508_45, g508_46, g508_47, g508_48, g508_49, g508_52, g508_55, g508_56, g508_58, g508_61, g508_64, g508_65, g508_68, g508_69, g508_70, g508_71, g508_72, g508_73, g508_74, g508_77, g508_80, g508_81, g508_82, g508_83, g508_86, g508_88, g508_89, g508_90, g508_93, g508_94, m69, k69, cp, z4, ki, e, nI_1, g2, cp41, bB_t, Option.isSome]
          | false =>
            rw [q5] at cp41
            simp only [Bool.false_eq_true, if_false]
            refine ⟨h2, FS_t (At_Q A1) f2, e2, by omega, w2, by rw [b2, At_g m A1], fun e he => by simp at he, fun Q => ?_⟩
            rw [k508]
            simp +decide only [Nat.reduceEqDiff, Nat.add_eq_left, Nat.left_eq_add, Nat.reduceAdd, Nat.reduceLeDiff, Nat.reduceMul, Nat.reduceSub, Nat.reduceLT, zlt8, zlt8_, zlt8n, zlt8n_, List.length_cons, List.length_nil, true_or, or_true, false_or, or_false, and_self, and_true, true_and, and_false, false_and, not_false_eq_true, not_true_eq_false, ite_true, ite_false, if_true, if_false, ite_not, zin, zpush_s, zpush_n, kl_int, kl_ref, kl_none, kl_kl, kl_long, kl_null, zT_wI, zT_wJ, zT_wR, zT_wIr, zT_wJr, zT_wRr, zI_wJ, zI_wR, zI_wJr, zI_wRr, zJ_wI, zJ_wR, zJ_wIr, zJ_wRr, zR_wI, zR_wJ, zR_wIr, zR_wJr, zN_wI, zN_wJ, zN_wR, zN_wIr, zN_wJr, zN_wRr, zZ_wI, zZ_wJ, zZ_wR, zZ_wIr, zZ_wJr, zZ_wRr, zI_wI, zJ_wJ, zR_wR, zI_wIr, zJ_wJr, zR_wRr, g508_0, g508_1, g508_4, g508_5, g508_6, g508_8, g508_11, g508_12, g508_14, g508_17, g508_18, g508_21, g508_22, g508_23, g508_24, g508_27, g508_28, g508_29, g508_30, g508_31, g508_34, g508_35, g508_36, g508_39, g508_40, g508_42, g508_45, g508_46, g508_47, g508_48, g508_49, g508_52, g508_55, g508_56, g508_58, g508_61, g508_64, g508_65, g508_68, g508_69, g508_70, g508_71, g508_72, g508_73, g508_74, g508_77, g508_80, g508_81, g508_82, g508_83, g508_86, g508_88, g508_89, g508_90, g508_93, g508_94, m69, k69, cp, z4, ki, e, nI_1, g2, cp41, bB_t, bB_f, Option.isSome, Bool.false_eq_true]
      | false =>
        have n40 : ¬ pk x s p = 40 := by rw [t40, q3]; decide
        have ek : pFac x s (k + 1) p = pTest x s p := by rw [pFac, q, q3]; rfl
        rw [ek]
        obtain ⟨h1, f1, e1, u1, w1, b1, v1, g1⟩ := c_fac_t (d := d + 2 * k + 2) (l1 := some (.int (nI dep))) (fun Q => by
          simp +decide only [Nat.reduceEqDiff, Nat.add_eq_left, Nat.left_eq_add, Nat.reduceAdd, Nat.reduceLeDiff, Nat.reduceMul, Nat.reduceSub, Nat.reduceLT, zlt8, zlt8_, zlt8n, zlt8n_, List.length_cons, List.length_nil, true_or, or_true, false_or, or_false, and_self, and_true, true_and, and_false, false_and, not_false_eq_true, not_true_eq_false, ite_true, ite_false, if_true, if_false, ite_not, zin, zpush_s, zpush_n, kl_int, kl_ref, kl_none, kl_kl, kl_long, kl_null, zT_wI, zT_wJ, zT_wR, zT_wIr, zT_wJr, zT_wRr, zI_wJ, zI_wR, zI_wJr, zI_wRr, zJ_wI, zJ_wR, zJ_wIr, zJ_wRr, zR_wI, zR_wJ, zR_wIr, zR_wJr, zN_wI, zN_wJ, zN_wR, zN_wIr, zN_wJr, zN_wRr, zZ_wI, zZ_wJ, zZ_wR, zZ_wIr, zZ_wJr, zZ_wRr, zI_wI, zJ_wJ, zR_wR, zI_wIr, zJ_wJr, zR_wRr, g508_0, g508_1, g508_4, g508_5, g508_6, g508_8, g508_11, g508_12, g508_14, m69, cp, n33, n40]) m hd e hl hp
        exact ⟨h1, f1, e1, u1, w1, b1, v1, fun Q => by
          rw [← g1 Q]
          simp +decide only [Nat.reduceEqDiff, Nat.add_eq_left, Nat.left_eq_add, Nat.reduceAdd, Nat.reduceLeDiff, Nat.reduceMul, Nat.reduceSub, Nat.reduceLT, zlt8, zlt8_, zlt8n, zlt8n_, List.length_cons, List.length_nil, true_or, or_true, false_or, or_false, and_self, and_true, true_and, and_false, false_and, not_false_eq_true, not_true_eq_false, ite_true, ite_false, if_true, if_false, ite_not, zin, zpush_s, zpush_n, kl_int, kl_ref, kl_none, kl_kl, kl_long, kl_null, zT_wI, zT_wJ, zT_wR, zT_wIr, zT_wJr, zT_wRr, zI_wJ, zI_wR, zI_wJr, zI_wRr, zJ_wI, zJ_wR, zJ_wIr, zJ_wRr, zR_wI, zR_wJ, zR_wIr, zR_wJr, zN_wI, zN_wJ, zN_wR, zN_wIr, zN_wJr, zN_wRr, zZ_wI, zZ_wJ, zZ_wR, zZ_wIr, zZ_wJr, zZ_wRr, zI_wI, zJ_wJ, zR_wR, zI_wIr, zJ_wJr, zR_wRr, k508]⟩
/-! clauses -/
theorem c_more (m : CP h x s g cc) (a : pA) (hd : Dr h g cc a.1) (e : zI h 69 2 = nI p) (hl : a.1.length ≤ p) (hp : p ≤ s) (k : Nat) (f : Int32 → Int32) (hk : (k = 1 ∧ c = 109) ∨ (k = 2 ∧ c = 108)) (ha : zI h g 2 = a.2.1) : ∃ h1, FS (SQ g cc) h h1 ∧ zI h1 69 2 = nI (pMore x s c f (kS k) a p).1 ∧ p ≤ (pMore x s c f (kS k) a p).1 ∧ (pMore x s c f (kS k) a p).1 ≤ s ∧ (∀ a2, (pMore x s c f (kS k) a p).2 = some a2 → Dr h1 g cc a2.1 ∧ zI h1 g 2 = a2.2.1 ∧ a2.1.length ≤ (pMore x s c f (kS k) a p).1) ∧ ∀ Q, zG (d + 16) 505 36 [some (.ref 69), some (.int c), none] [.ref (1000003 + k), .ref 69] h Q = Q (some (.int (bB (pMore x s c f (kS k) a p).2.isSome))) h1 := by
  have hk5 : k < 5 := by omega
  have hs := m.2.2.2.2.2.2.2.2.2.1
  obtain ⟨h1, A1, g1⟩ := c_word (d := d + 11) m e hp hk5
  have lw := pWord_le (x := x) (s := s) (kS k) p hp
  have m69 := m.2.1
  unfold pMore
  revert A1 g1 lw
  rcases pWord x s (kS k) p with ⟨q, _ | _⟩
  · intro A1 g1 lw
    refine ⟨h1, At_Q A1, A1.2, lw.1, lw.2, fun a2 h2 => by simp at h2, fun Q => ?_⟩
    simp +decide only [Nat.reduceEqDiff, Nat.add_eq_left, Nat.left_eq_add, Nat.reduceAdd, Nat.reduceLeDiff, Nat.reduceMul, Nat.reduceSub, Nat.reduceLT, zlt8, zlt8_, zlt8n, zlt8n_, List.length_cons, List.length_nil, true_or, or_true, false_or, or_false, and_self, and_true, true_and, and_false, false_and, not_false_eq_true, not_true_eq_false, ite_true, ite_false, if_true, if_false, ite_not, zin, zpush_s, zpush_n, kl_int, kl_ref, kl_none, kl_kl, kl_long, kl_null, zT_wI, zT_wJ, zT_wR, zT_wIr, zT_wJr, zT_wRr, zI_wJ, zI_wR, zI_wJr, zI_wRr, zJ_wI, zJ_wR, zJ_wIr, zJ_wRr, zR_wI, zR_wJ, zR_wIr, zR_wJr, zN_wI, zN_wJ, zN_wR, zN_wIr, zN_wJr, zN_wRr, zZ_wI, zZ_wJ, zZ_wR, zZ_wIr, zZ_wJr, zZ_wRr, zI_wI, zJ_wJ, zR_wR, zI_wIr, zJ_wJr, zR_wRr, g505_36, g505_39, g505_42, g505_43, m69, g1, bB_f, Option.isSome]
  · intro A1 g1 lw
    simp only at A1 lw
    have m1 := At_C m A1
    obtain ⟨h2, v, A2, v1, v2, g2⟩ := c_number (d := d + 14) m1 A1.2 lw.2
    have ln := pNum_le (x := x) (s := s) (p := q) lw.2
    have k69 := m1.2.1
    have m2 := At_C m1 A2
    have n69 := m2.2.1
    dsimp only
    revert A2 v1 v2 ln
    rcases pNum x s q with ⟨q1, _ | u⟩
    · intro A2 v1 v2 ln
      have v2 := v2 rfl
      subst v2
      simp only at A2 ln
      refine ⟨h2, At_Q (At_t A1 A2), A2.2, by simp only; omega, ln.2, fun a2 h2 => by simp at h2, fun Q => ?_⟩
      simp +decide only [Nat.reduceEqDiff, Nat.add_eq_left, Nat.left_eq_add, Nat.reduceAdd, Nat.reduceLeDiff, Nat.reduceMul, Nat.reduceSub, Nat.reduceLT, zlt8, zlt8_, zlt8n, zlt8n_, List.length_cons, List.length_nil, true_or, or_true, false_or, or_false, and_self, and_true, true_and, and_false, false_and, not_false_eq_true, not_true_eq_false, ite_true, ite_false, if_true, if_false, ite_not, zin, zpush_s, zpush_n, kl_int, kl_ref, kl_none, kl_kl, kl_long, kl_null, zT_wI, zT_wJ, zT_wR, zT_wIr, zT_wJr, zT_wRr, zI_wJ, zI_wR, zI_wJr, zI_wRr, zJ_wI, zJ_wR, zJ_wIr, zJ_wRr, zR_wI, zR_wJ, zR_wIr, zR_wJr, zN_wI, zN_wJ, zN_wR, zN_wIr, zN_wJr, zN_wRr, zZ_wI, zZ_wJ, zZ_wR, zZ_wIr, zZ_wJr, zZ_wRr, zI_wI, zJ_wJ, zR_wR, zI_wIr, zJ_wJr, zR_wRr, g505_36, g505_39, g505_44, g505_45, g505_48, g505_49, g505_50, g505_70, g505_71, m69, k69, g1, g2, bB_t, bB_f, Option.isSome]
    · intro A2 v1 v2 ln
      obtain ⟨rfl, j, j1, rfl⟩ := v1 u rfl
      simp only at A2 ln
      have zj := nI_pos (n := j) (by omega)
      have cp32 : ∀ Q, zCall (d + 16) 512 [.ref 69, .int 32] h2 Q = Q (some (.int (bB (tk x s 32 q1)))) (if tk x s 32 q1 = true then wI h2 69 2 (nI (q1 + 1)) else h2) := fun Q => c_pass (d := d + 14) m2 A2.2 ln.2 (by decide) Q
      dsimp only
      cases q3 : tk x s 32 q1 with
      | false =>
        rw [q3] at cp32
        simp only [Bool.false_eq_true, if_false]
        refine ⟨h2, At_Q (At_t A1 A2), A2.2, by omega, ln.2, fun a2 h2 => by simp at h2, fun Q => ?_⟩
        simp +decide only [Nat.reduceEqDiff, Nat.add_eq_left, Nat.left_eq_add, Nat.reduceAdd, Nat.reduceLeDiff, Nat.reduceMul, Nat.reduceSub, Nat.reduceLT, zlt8, zlt8_, zlt8n, zlt8n_, List.length_cons, List.length_nil, true_or, or_true, false_or, or_false, and_self, and_true, true_and, and_false, false_and, not_false_eq_true, not_true_eq_false, ite_true, ite_false, if_true, if_false, ite_not, zin, zpush_s, zpush_n, kl_int, kl_ref, kl_none, kl_kl, kl_long, kl_null, zT_wI, zT_wJ, zT_wR, zT_wIr, zT_wJr, zT_wRr, zI_wJ, zI_wR, zI_wJr, zI_wRr, zJ_wI, zJ_wR, zJ_wIr, zJ_wRr, zR_wI, zR_wJ, zR_wIr, zR_wJr, zN_wI, zN_wJ, zN_wR, zN_wIr, zN_wJr, zN_wRr, zZ_wI, zZ_wJ, zZ_wR, zZ_wIr, zZ_wJr, zZ_wRr, zI_wI, zJ_wJ, zR_wR, zI_wIr, zJ_wJr, zR_wRr, g505_36, g505_39, g505_44, g505_45, g505_48, g505_49, g505_50, g505_53, g505_54, g505_56, g505_59, g505_70, g505_71, m69, k69, n69, g1, g2, cp32, zj, bB_t, bB_f, Option.isSome, Bool.false_eq_true]
      | true =>
        rw [q3] at cp32
        have qs := (tk_i.mp q3).1
        simp only [if_true]
        have A3 := At_w (h := h2) (q1 + 1)
        have A := At_t A1 (At_t A2 A3)
        have m3 := At_C m2 A3
        have ix : ImpC x s g cc 507 16 [.int (nI 0)] (pAny x s (pFac x s 4)) := c_expr (D := 13) (c_factor 4 0 rfl) (pFac_le 4)
        obtain ⟨h4, f4, e4, u4, w4, b4, v4, g4⟩ := ix d _ (q1 + 1) a.1 m3 (At_D m A hd) A3.2 (by omega) (by omega)
        have m4 := CP_f m3 f4
        have k5 := m4.2.2.2.2.1
        have k6 := m4.2.2.2.2.2.1
        have o69 := m3.2.1
        have p69 := m4.2.1
        have g4' : ∀ Q, zCall (d + 16) 507 [.ref 69, .int 0] (wI h2 69 2 (nI (q1 + 1))) Q = _ := g4
        revert e4 u4 w4 v4 g4'
        clear g4
        rcases pAny x s (pFac x s 4) (q1 + 1) with ⟨q2, _ | e0⟩
        · intro e4 u4 w4 v4 g4'
          refine ⟨h4, FS_t (At_Q A) f4, e4, by simp only at u4 ⊢; omega, w4, fun a2 h2 => by simp at h2, fun Q => ?_⟩
          simp +decide only [Nat.reduceEqDiff, Nat.add_eq_left, Nat.left_eq_add, Nat.reduceAdd, Nat.reduceLeDiff, Nat.reduceMul, Nat.reduceSub, Nat.reduceLT, zlt8, zlt8_, zlt8n, zlt8n_, List.length_cons, List.length_nil, true_or, or_true, false_or, or_false, and_self, and_true, true_and, and_false, false_and, not_false_eq_true, not_true_eq_false, ite_true, ite_false, if_true, if_false, ite_not, zin, zpush_s, zpush_n, kl_int, kl_ref, kl_none, kl_kl, kl_long, kl_null, zT_wI, zT_wJ, zT_wR, zT_wIr, zT_wJr, zT_wRr, zI_wJ, zI_wR, zI_wJr, zI_wRr, zJ_wI, zJ_wR, zJ_wIr, zJ_wRr, zR_wI, zR_wJ, zR_wIr, zR_wJr, zN_wI, zN_wJ, zN_wR, zN_wIr, zN_wJr, zN_wRr, zZ_wI, zZ_wJ, zZ_wR, zZ_wIr, zZ_wJr, zZ_wRr, zI_wI, zJ_wJ, zR_wR, zI_wIr, zJ_wJr, zR_wRr, g505_36, g505_39, g505_44, g505_45, g505_48, g505_49, g505_50, g505_53, g505_54, g505_56, g505_59, g505_62, g505_63, g505_64, g505_67, g505_70, g505_71, m69, k69, n69, o69, g1, g2, cp32, g4', zj, bB_t, bB_f, Option.isSome]
        · intro e4 u4 w4 v4 g4'
          obtain ⟨D4, L1, L2⟩ := v4 e0 rfl
          simp only at e4 u4 w4 L1
          obtain ⟨h5, f5, a5, b5, D5, g5⟩ := c_add (d := d + 15) (c := c) m4 D4 (by simp only [List.length_append]; omega) 0 (nI j)
          refine ⟨h5, FS_t (At_Q A) (FS_t f4 f5), by rw [a5]; exact e4, by simp only; omega, w4, fun a2 h2 => ?_, fun Q => ?_⟩
          · have h2 := Option.some.inj h2
            subst h2
            exact ⟨D5, by rw [b5, b4, At_g m A]; exact ha, by simp only [List.length_append, List.length_singleton]; omega⟩
          · simp +decide only [Nat.reduceEqDiff, Nat.add_eq_left, Nat.left_eq_add, Nat.reduceAdd, Nat.reduceLeDiff, Nat.reduceMul, Nat.reduceSub, Nat.reduceLT, zlt8, zlt8_, zlt8n, zlt8n_, List.length_cons, List.length_nil, true_or, or_true, false_or, or_false, and_self, and_true, true_and, and_false, false_and, not_false_eq_true, not_true_eq_false, ite_true, ite_false, if_true, if_false, ite_not, zin, zpush_s, zpush_n, kl_int, kl_ref, kl_none, kl_kl, kl_long, kl_null, zT_wI, zT_wJ, zT_wR, zT_wIr, zT_wJr, zT_wRr, zI_wJ, zI_wR, zI_wJr, zI_wRr, zJ_wI, zJ_wR, zJ_wIr, zJ_wRr, zR_wI, zR_wJ, zR_wIr, zR_wJr, zN_wI, zN_wJ, zN_wR, zN_wIr, zN_wJr, zN_wRr, zZ_wI, zZ_wJ, zZ_wR, zZ_wIr, zZ_wJr, zZ_wRr, zI_wI, zJ_wJ, zR_wR, zI_wIr, zJ_wJr, zR_wRr, g505_36, g505_39, g505_44, g505_45, g505_48, g505_49, g505_50, g505_53, g505_54, g505_56, g505_59, g505_62, g505_63, g505_64, g505_67, g505_72, g505_73, g505_76, g505_77, g505_78, g505_79, g505_82, g505_83, m69, k69, n69, o69, p69, k5, k6, g1, g2, cp32, g4', g5, zj, bB_t, bB_f, Option.isSome]
theorem c_payC (m : CP h x s g cc) (a : pA) (hd : Dr h g cc a.1) (e : zI h 69 2 = nI p) (hl : a.1.length ≤ p) (hp : p ≤ s) (R : Nat × Option pA) (hR : R = (match pWord x s [112, 97, 121, 32] p with
    | (q, true) => (match pNum x s q with
      | (q1, some n) => (q1, some (a.1, n, a.2.2))
      | (q1, none) => (q1, none))
    | (q, false) => (q, none))) : ∃ h1, FS (SQ g cc) h h1 ∧ zI h1 69 2 = nI R.1 ∧ p ≤ R.1 ∧ R.1 ≤ s ∧ (∀ a2, R.2 = some a2 → Dr h1 g cc a2.1 ∧ zI h1 g 2 = a2.2.1 ∧ a2.1.length ≤ R.1) ∧ ∀ Q, zCall (d + 6) 506 [.ref 69] h Q = Q (some (.int (bB R.2.isSome))) h1 := by
  obtain ⟨h1, A1, g1⟩ := c_word (d := d) m e hp (k := 0) (by omega)
  have lw := pWord_le (x := x) (s := s) (kS 0) p hp
  have m69 := m.2.1
  have eK : kS 0 = [112, 97, 121, 32] := rfl
  rw [eK] at A1 g1 lw
  revert A1 g1 lw hR
  rcases pWord x s [112, 97, 121, 32] p with ⟨q, _ | _⟩
  · intro hR A1 g1 lw
    subst hR
    refine ⟨h1, At_Q A1, A1.2, lw.1, lw.2, fun a2 h2 => by simp at h2, fun Q => ?_⟩
    simp +decide only [Nat.reduceEqDiff, Nat.add_eq_left, Nat.left_eq_add, Nat.reduceAdd, Nat.reduceLeDiff, Nat.reduceMul, Nat.reduceSub, Nat.reduceLT, zlt8, zlt8_, zlt8n, zlt8n_, List.length_cons, List.length_nil, true_or, or_true, false_or, or_false, and_self, and_true, true_and, and_false, false_and, not_false_eq_true, not_true_eq_false, ite_true, ite_false, if_true, if_false, ite_not, zin, zpush_s, zpush_n, kl_int, kl_ref, kl_none, kl_kl, kl_long, kl_null, zT_wI, zT_wJ, zT_wR, zT_wIr, zT_wJr, zT_wRr, zI_wJ, zI_wR, zI_wJr, zI_wRr, zJ_wI, zJ_wR, zJ_wIr, zJ_wRr, zR_wI, zR_wJ, zR_wIr, zR_wJr, zN_wI, zN_wJ, zN_wR, zN_wIr, zN_wJr, zN_wRr, zZ_wI, zZ_wJ, zZ_wR, zZ_wIr, zZ_wJr, zZ_wRr, zI_wI, zJ_wJ, zR_wR, zI_wIr, zJ_wJr, zR_wRr, k506, g506_0, g506_1, g506_3, g506_6, g506_9, g506_10, g506_11, g506_12, g506_15, g506_16, g506_17, g506_20, g506_21, g506_22, g506_23, g506_26, g506_27, g506_30, g506_31, m69, g1, bB_f, Option.isSome]
  · intro hR A1 g1 lw
    dsimp only at hR
    simp only at A1 lw
    have m1 := At_C m A1
    obtain ⟨h2, v, A2, v1, v2, g2⟩ := c_number (d := d + 3) m1 A1.2 lw.2
    have ln := pNum_le (x := x) (s := s) (p := q) lw.2
    have k69 := m1.2.1
    have m2 := At_C m1 A2
    have n69 := m2.2.1
    have k5 := m2.2.2.2.2.1
    have k6 := m2.2.2.2.2.2.1
    revert A2 v1 v2 ln hR
    rcases pNum x s q with ⟨q1, _ | u⟩
    · intro hR A2 v1 v2 ln
      subst hR
      have v2 := v2 rfl
      subst v2
      simp only at A2 ln
      refine ⟨h2, At_Q (At_t A1 A2), A2.2, by simp only; omega, ln.2, fun a2 h2 => by simp at h2, fun Q => ?_⟩
      simp +decide only [Nat.reduceEqDiff, Nat.add_eq_left, Nat.left_eq_add, Nat.reduceAdd, Nat.reduceLeDiff, Nat.reduceMul, Nat.reduceSub, Nat.reduceLT, zlt8, zlt8_, zlt8n, zlt8n_, List.length_cons, List.length_nil, true_or, or_true, false_or, or_false, and_self, and_true, true_and, and_false, false_and, not_false_eq_true, not_true_eq_false, ite_true, ite_false, if_true, if_false, ite_not, zin, zpush_s, zpush_n, kl_int, kl_ref, kl_none, kl_kl, kl_long, kl_null, zT_wI, zT_wJ, zT_wR, zT_wIr, zT_wJr, zT_wRr, zI_wJ, zI_wR, zI_wJr, zI_wRr, zJ_wI, zJ_wR, zJ_wIr, zJ_wRr, zR_wI, zR_wJ, zR_wIr, zR_wJr, zN_wI, zN_wJ, zN_wR, zN_wIr, zN_wJr, zN_wRr, zZ_wI, zZ_wJ, zZ_wR, zZ_wIr, zZ_wJr, zZ_wRr, zI_wI, zJ_wJ, zR_wR, zI_wIr, zJ_wJr, zR_wRr, k506, g506_0, g506_1, g506_3, g506_6, g506_9, g506_10, g506_11, g506_12, g506_15, g506_16, g506_17, g506_20, g506_21, g506_22, g506_23, g506_26, g506_27, g506_30, g506_31, m69, k69, g1, g2, bB_t, bB_f, Option.isSome]
    · intro hR A2 v1 v2 ln
      subst hR
      obtain ⟨rfl, j, j1, rfl⟩ := v1 u rfl
      simp only at A2 ln
      have zj := nI_pos' (n := j) (by omega)
      have A := At_t A1 A2
      have hg := m.2.2.2.2.2.2.2.2.2.2.2
      refine ⟨wI h2 g 2 (nI j), FS_t (At_Q A) (FS_I _ (by unfold SQ; omega)), by rw [zI_wI, if_neg (by omega)]; exact A2.2, by simp only; omega, ln.2, fun a2 h2 => ?_, fun Q => ?_⟩
      · have h2 := Option.some.inj h2
        subst h2
        have D := At_D m A hd
        refine ⟨⟨by rw [zI_wI, if_pos rfl, up_n _ _ (by omega)]; exact D.1, fun i hi => by rw [zI_wI, if_neg (fun z => hg.2.2.2.2 z.symm)]; exact D.2 i hi⟩, by rw [zI_wI, if_pos rfl, up_s], by simp only; omega⟩
      · simp +decide only [Nat.reduceEqDiff, Nat.add_eq_left, Nat.left_eq_add, Nat.reduceAdd, Nat.reduceLeDiff, Nat.reduceMul, Nat.reduceSub, Nat.reduceLT, zlt8, zlt8_, zlt8n, zlt8n_, List.length_cons, List.length_nil, true_or, or_true, false_or, or_false, and_self, and_true, true_and, and_false, false_and, not_false_eq_true, not_true_eq_false, ite_true, ite_false, if_true, if_false, ite_not, zin, zpush_s, zpush_n, kl_int, kl_ref, kl_none, kl_kl, kl_long, kl_null, zT_wI, zT_wJ, zT_wR, zT_wIr, zT_wJr, zT_wRr, zI_wJ, zI_wR, zI_wJr, zI_wRr, zJ_wI, zJ_wR, zJ_wIr, zJ_wRr, zR_wI, zR_wJ, zR_wIr, zR_wJr, zN_wI, zN_wJ, zN_wR, zN_wIr, zN_wJr, zN_wRr, zZ_wI, zZ_wJ, zZ_wR, zZ_wIr, zZ_wJr, zZ_wRr, zI_wI, zJ_wJ, zR_wR, zI_wIr, zJ_wJr, zR_wRr, k506, g506_0, g506_1, g506_3, g506_6, g506_9, g506_10, g506_11, g506_12, g506_15, g506_16, g506_17, g506_20, g506_21, g506_22, g506_23, g506_26, g506_27, g506_30, g506_31, m69, k69, n69, k5, k6, g1, g2, zj, bB_t, bB_f, Option.isSome]
theorem c_clause (m : CP h x s g cc) (a : pA) (hd : Dr h g cc a.1) (e : zI h 69 2 = nI p) (hl : a.1.length ≤ p) (hp : p ≤ s) (ha : zI h g 2 = a.2.1) : ∃ h1, FS (SQ g cc) h h1 ∧ zI h1 69 2 = nI (pClause x s a p).1 ∧ p ≤ (pClause x s a p).1 ∧ (pClause x s a p).1 ≤ s ∧ (∀ a2, (pClause x s a p).2 = some a2 → Dr h1 g cc a2.1 ∧ zI h1 g 2 = a2.2.1 ∧ a2.1.length ≤ (pClause x s a p).1) ∧ ∀ Q, zCall (d + 17) 505 [.ref 69] h Q = Q (some (.int (bB (pClause x s a p).2.isSome))) h1 := by
  have cp : ∀ Q, zCall (d + 16) 513 [.ref 69] h Q = Q (some (.int (pk x s p))) h := fun Q => c_peek m e hp Q
  have t1 := pk_tk (x := x) (s := s) (p := p) (c := 109) (by decide)
  have t2 := pk_tk (x := x) (s := s) (p := p) (c := 108) (by decide)
  have m69 := m.2.1
  by_cases q1 : tk x s 109 p = true
  · have ec : pClause x s a p = pMore x s 109 (fun n => n) (kS 1) a p := by unfold pClause; rw [if_pos q1]; rfl
    have e1 : pk x s p = 109 := by rw [t1]; exact q1
    rw [e1] at cp
    rw [ec]
    obtain ⟨h1, f1, e1, u1, w1, v1, g1⟩ := c_more (d := d) (c := 109) m a hd e hl hp 1 (fun n => n) (Or.inl ⟨rfl, rfl⟩) ha
    refine ⟨h1, f1, e1, u1, w1, v1, fun Q => ?_⟩
    rw [← g1 Q]
    simp +decide only [Nat.reduceEqDiff, Nat.add_eq_left, Nat.left_eq_add, Nat.reduceAdd, Nat.reduceLeDiff, Nat.reduceMul, Nat.reduceSub, Nat.reduceLT, zlt8, zlt8_, zlt8n, zlt8n_, List.length_cons, List.length_nil, true_or, or_true, false_or, or_false, and_self, and_true, true_and, and_false, false_and, not_false_eq_true, not_true_eq_false, ite_true, ite_false, if_true, if_false, ite_not, zin, zpush_s, zpush_n, kl_int, kl_ref, kl_none, kl_kl, kl_long, kl_null, zT_wI, zT_wJ, zT_wR, zT_wIr, zT_wJr, zT_wRr, zI_wJ, zI_wR, zI_wJr, zI_wRr, zJ_wI, zJ_wR, zJ_wIr, zJ_wRr, zR_wI, zR_wJ, zR_wIr, zR_wJr, zN_wI, zN_wJ, zN_wR, zN_wIr, zN_wJr, zN_wRr, zZ_wI, zZ_wJ, zZ_wR, zZ_wIr, zZ_wJr, zZ_wRr, zI_wI, zJ_wJ, zR_wR, zI_wIr, zJ_wJr, zR_wRr, k505, g505_0, g505_1, g505_4, g505_5, g505_6, g505_8, g505_22, g505_23, g505_24, g505_26, g505_29, g505_31, m69, cp]
  by_cases q2 : tk x s 108 p = true
  · have ec : pClause x s a p = pMore x s 108 (fun n => -n) (kS 2) a p := by unfold pClause; rw [if_neg q1, if_pos q2]; rfl
    have e1 : pk x s p = 108 := by rw [t2]; exact q2
    rw [e1] at cp
    rw [ec]
    obtain ⟨h1, f1, e1, u1, w1, v1, g1⟩ := c_more (d := d) (c := 108) m a hd e hl hp 2 (fun n => -n) (Or.inr ⟨rfl, rfl⟩) ha
    refine ⟨h1, f1, e1, u1, w1, v1, fun Q => ?_⟩
    rw [← g1 Q]
    simp +decide only [Nat.reduceEqDiff, Nat.add_eq_left, Nat.left_eq_add, Nat.reduceAdd, Nat.reduceLeDiff, Nat.reduceMul, Nat.reduceSub, Nat.reduceLT, zlt8, zlt8_, zlt8n, zlt8n_, List.length_cons, List.length_nil, true_or, or_true, false_or, or_false, and_self, and_true, true_and, and_false, false_and, not_false_eq_true, not_true_eq_false, ite_true, ite_false, if_true, if_false, ite_not, zin, zpush_s, zpush_n, kl_int, kl_ref, kl_none, kl_kl, kl_long, kl_null, zT_wI, zT_wJ, zT_wR, zT_wIr, zT_wJr, zT_wRr, zI_wJ, zI_wR, zI_wJr, zI_wRr, zJ_wI, zJ_wR, zJ_wIr, zJ_wRr, zR_wI, zR_wJ, zR_wIr, zR_wJr, zN_wI, zN_wJ, zN_wR, zN_wIr, zN_wJr, zN_wRr, zZ_wI, zZ_wJ, zZ_wR, zZ_wIr, zZ_wJr, zZ_wRr, zI_wI, zJ_wJ, zR_wR, zI_wIr, zJ_wJr, zR_wRr, k505, g505_0, g505_1, g505_4, g505_5, g505_6, g505_8, g505_11, g505_12, g505_14, g505_22, g505_23, g505_24, g505_26, g505_34, m69, cp]
  · have n1 : ¬ pk x s p = 109 := by rw [t1]; exact q1
    have n2 : ¬ pk x s p = 108 := by rw [t2]; exact q2
    have ec : pClause x s a p = (match pWord x s [112, 97, 121, 32] p with
        | (q, true) => (match pNum x s q with
          | (q1, some n) => (q1, some (a.1, n, a.2.2))
          | (q1, none) => (q1, none))
        | (q, false) => (q, none)) := by
      unfold pClause
      rw [if_neg q1, if_neg q2]
      rfl
    obtain ⟨h1, f1, e1, u1, w1, v1, g1⟩ := c_payC (d := d + 10) m a hd e hl hp _ ec
    refine ⟨h1, f1, e1, u1, w1, v1, fun Q => ?_⟩
    have hz := bB_z (pClause x s a p).2.isSome
    simp +decide only [Nat.reduceEqDiff, Nat.add_eq_left, Nat.left_eq_add, Nat.reduceAdd, Nat.reduceLeDiff, Nat.reduceMul, Nat.reduceSub, Nat.reduceLT, zlt8, zlt8_, zlt8n, zlt8n_, List.length_cons, List.length_nil, true_or, or_true, false_or, or_false, and_self, and_true, true_and, and_false, false_and, not_false_eq_true, not_true_eq_false, ite_true, ite_false, if_true, if_false, ite_not, zin, zpush_s, zpush_n, kl_int, kl_ref, kl_none, kl_kl, kl_long, kl_null, zT_wI, zT_wJ, zT_wR, zT_wIr, zT_wJr, zT_wRr, zI_wJ, zI_wR, zI_wJr, zI_wRr, zJ_wI, zJ_wR, zJ_wIr, zJ_wRr, zR_wI, zR_wJ, zR_wIr, zR_wJr, zN_wI, zN_wJ, zN_wR, zN_wIr, zN_wJr, zN_wRr, zZ_wI, zZ_wJ, zZ_wR, zZ_wIr, zZ_wJr, zZ_wRr, zI_wI, zJ_wJ, zR_wR, zI_wIr, zJ_wJr, zR_wRr, k505, g505_0, g505_1, g505_4, g505_5, g505_6, g505_8, g505_11, g505_12, g505_14, g505_17, g505_18, g505_21, m69, cp, n1, n2, g1, hz]
