-- needs 44.c1
variable {d a b n t D K s p q g cc k : Nat} {h h1 : zH} {w x nm : zW0} {c v r : Int32} {F : Nat → Nat × Option pE} {cs : List Int32}
def ImpC (x : zW0) (s g cc y D : Nat) (as : List Value) (F : Nat → Nat × Option pE) : Prop := ∀ (d : Nat) (h : zH) (p : Nat) (cs : List Int32), CP h x s g cc → Dr h g cc cs → zI h 69 2 = nI p → cs.length ≤ p → p ≤ s → ∃ h1, FS (SQ g cc) h h1 ∧ zI h1 69 2 = nI (F p).1 ∧ p ≤ (F p).1 ∧ (F p).1 ≤ s ∧ zI h1 g 2 = zI h g 2 ∧ (∀ e, (F p).2 = some e → Dr h1 g cc (cs ++ e.1) ∧ p + e.1.length ≤ (F p).1 ∧ 1 ≤ e.1.length) ∧ ∀ Q, zCall (d + D) y (.ref 69 :: as) h Q = Q (some (.int (bB (F p).2.isSome))) h1
/-! numbers -/
theorem dig_v (m : CP h x s g cc) (hd : pDig x s p = true) : p < s ∧ pk x s p = x p ∧ ¬ x p < 48 ∧ ¬ 57 < x p ∧ ∃ j, j ≤ 9 ∧ x p - 48 = nI j := by
  have ps := pDig_lt hd
  unfold pDig at hd
  simp only [Bool.and_eq_true, decide_eq_true_eq] at hd
  obtain ⟨⟨-, h1⟩, h2⟩ := hd
  obtain ⟨j, j1, j2⟩ := (m.2.2.2.2.2.2.2.2.2.2.1 p ps).2
  refine ⟨ps, if_pos ps, h1, h2, ?_⟩
  rw [j2] at h1 h2
  have a1 : 48 ≤ j := by
    have : ¬ j < 48 := fun z => h1 (nI_lt (b := 48) z (by omega))
    omega
  have a2 : j ≤ 57 := by
    have : ¬ 57 < j := fun z => h2 (nI_lt (a := 57) z (by omega))
    omega
  refine ⟨j - 48, by omega, ?_⟩
  rw [j2, show (48 : Int32) = nI 48 from rfl, pk_sub a1]
theorem dig_f (hd : pDig x s p = false) : pk x s p < 48 ∨ (¬ pk x s p < 48 ∧ 57 < pk x s p) := by
  unfold pDig at hd
  unfold pk
  by_cases q : p < s
  · rw [if_pos q]
    by_cases q2 : x p < 48
    · exact Or.inl q2
    · by_cases q3 : 57 < x p
      · exact Or.inr ⟨q2, q3⟩
      · simp [q, q2, q3] at hd
  · rw [if_neg q]
    exact Or.inl (by decide)
theorem c_number (m : CP h x s g cc) (e : zI h 69 2 = nI p) (hp : p ≤ s) : ∃ h1 v, At h h1 (pNum x s p).1 ∧ (∀ u, (pNum x s p).2 = some u → v = u ∧ ∃ j, j ≤ 99 ∧ u = nI j) ∧ ((pNum x s p).2 = none → v = -1) ∧ ∀ Q, zCall (d + 2) 510 [.ref 69] h Q = Q (some (.int v)) h1 := by
  have m69 := m.2.1
  have cp : ∀ Q, zCall (d + 1) 513 [.ref 69] h Q = Q (some (.int (pk x s p))) h := fun Q => c_peek m e hp Q
  have h2l : ¬ (2 : Int32) ≤ nI 0 := by decide
  have h2l1 : ¬ (2 : Int32) ≤ nI 1 := by decide
  have h2l2 : (2 : Int32) ≤ nI 2 := by decide
  unfold pNum
  cases q : pDig x s p with
  | false =>
    simp only [Bool.false_eq_true, if_false]
    refine ⟨h, -1, At_r e, fun u hu => by simp at hu, fun _ => rfl, fun Q => ?_⟩
    simp +decide only [Nat.reduceEqDiff, Nat.add_eq_left, Nat.left_eq_add, Nat.reduceAdd, Nat.reduceLeDiff, Nat.reduceMul, Nat.reduceSub, Nat.reduceLT, zlt8, zlt8_, zlt8n, zlt8n_, List.length_cons, List.length_nil, true_or, or_true, false_or, or_false, and_self, and_true, true_and, and_false, false_and, not_false_eq_true, not_true_eq_false, ite_true, ite_false, if_true, if_false, ite_not, zin, zpush_s, zpush_n, kl_int, kl_ref, kl_none, kl_kl, kl_long, kl_null, zT_wI, zT_wJ, zT_wR, zT_wIr, zT_wJr, zT_wRr, zI_wJ, zI_wR, zI_wJr, zI_wRr, zJ_wI, zJ_wR, zJ_wIr, zJ_wRr, zR_wI, zR_wJ, zR_wIr, zR_wJr, zN_wI, zN_wJ, zN_wR, zN_wIr, zN_wJr, zN_wRr, zZ_wI, zZ_wJ, zZ_wR, zZ_wIr, zZ_wJr, zZ_wRr, zI_wI, zJ_wJ, zR_wR, zI_wIr, zJ_wJr, zR_wRr, k510, g510_0, g510_1, g510_2, g510_3]
    rw [show (0 : Int32) = nI 0 from rfl, g510_4]
    rcases dig_f q with q1 | ⟨q1, q2⟩
    · simp +decide only [Nat.reduceEqDiff, Nat.add_eq_left, Nat.left_eq_add, Nat.reduceAdd, Nat.reduceLeDiff, Nat.reduceMul, Nat.reduceSub, Nat.reduceLT, zlt8, zlt8_, zlt8n, zlt8n_, List.length_cons, List.length_nil, true_or, or_true, false_or, or_false, and_self, and_true, true_and, and_false, false_and, not_false_eq_true, not_true_eq_false, ite_true, ite_false, if_true, if_false, ite_not, zin, zpush_s, zpush_n, kl_int, kl_ref, kl_none, kl_kl, kl_long, kl_null, zT_wI, zT_wJ, zT_wR, zT_wIr, zT_wJr, zT_wRr, zI_wJ, zI_wR, zI_wJr, zI_wRr, zJ_wI, zJ_wR, zJ_wIr, zJ_wRr, zR_wI, zR_wJ, zR_wIr, zR_wJr, zN_wI, zN_wJ, zN_wR, zN_wIr, zN_wJr, zN_wRr, zZ_wI, zZ_wJ, zZ_wR, zZ_wIr, zZ_wJr, zZ_wRr, zI_wI, zJ_wJ, zR_wR, zI_wIr, zJ_wJr, zR_wRr, g510_0, g510_1, g510_2, g510_3, g510_5, g510_6, g510_9, g510_10, g510_13, g510_14, g510_15, g510_17, g510_20, g510_21, g510_23, g510_26, g510_27, g510_28, g510_29, g510_30, g510_33, g510_35, g510_36, g510_37, g510_38, g510_40, g510_41, g510_42, g510_43, g510_44, g510_47, g510_48, g510_49, g510_52, g510_55, g510_58, g510_59, m69, cp, h2l, q1]
    · simp +decide only [Nat.reduceEqDiff, Nat.add_eq_left, Nat.left_eq_add, Nat.reduceAdd, Nat.reduceLeDiff, Nat.reduceMul, Nat.reduceSub, Nat.reduceLT, zlt8, zlt8_, zlt8n, zlt8n_, List.length_cons, List.length_nil, true_or, or_true, false_or, or_false, and_self, and_true, true_and, and_false, false_and, not_false_eq_true, not_true_eq_false, ite_true, ite_false, if_true, if_false, ite_not, zin, zpush_s, zpush_n, kl_int, kl_ref, kl_none, kl_kl, kl_long, kl_null, zT_wI, zT_wJ, zT_wR, zT_wIr, zT_wJr, zT_wRr, zI_wJ, zI_wR, zI_wJr, zI_wRr, zJ_wI, zJ_wR, zJ_wIr, zJ_wRr, zR_wI, zR_wJ, zR_wIr, zR_wJr, zN_wI, zN_wJ, zN_wR, zN_wIr, zN_wJr, zN_wRr, zZ_wI, zZ_wJ, zZ_wR, zZ_wIr, zZ_wJr, zZ_wRr, zI_wI, zJ_wJ, zR_wR, zI_wIr, zJ_wJr, zR_wRr, g510_0, g510_1, g510_2, g510_3, g510_5, g510_6, g510_9, g510_10, g510_13, g510_14, g510_15, g510_17, g510_20, g510_21, g510_23, g510_26, g510_27, g510_28, g510_29, g510_30, g510_33, g510_35, g510_36, g510_37, g510_38, g510_40, g510_41, g510_42, g510_43, g510_44, g510_47, g510_48, g510_49, g510_52, g510_55, g510_58, g510_59, m69, cp, h2l, q1, i_le, q2]
  | true =>
    obtain ⟨ps, a1, a2, a3, j, j1, j2⟩ := dig_v m q
    rw [a1] at cp
    have m2 := At_C m (At_w (h := h) (p + 1))
    have e2 := (At_w (h := h) (p + 1)).2
    have cp2 : ∀ Q, zCall (d + 1) 513 [.ref 69] (wI h 69 2 (nI (p + 1))) Q = Q (some (.int (pk x s (p + 1)))) _ := fun Q => c_peek m2 e2 (by omega) Q
    have z0 : zmax (-1) 0 * 10 + x p - 48 = x p - 48 := by
      rw [show zmax (-1) 0 * 10 = 0 by decide]; simp
    have step1 : ∀ Q, zG (d + 1) 510 4 [some (.ref 69), some (.int (-1)), some (.int (nI 0)), none] [] h Q = zG (d + 1) 510 4 [some (.ref 69), some (.int (nI j)), some (.int (nI 1)), some (.int (x p))] [] (wI h 69 2 (nI (p + 1))) Q := fun Q => by
      rw [g510_4]
      simp +decide only [Nat.reduceEqDiff, Nat.add_eq_left, Nat.left_eq_add, Nat.reduceAdd, Nat.reduceLeDiff, Nat.reduceMul, Nat.reduceSub, Nat.reduceLT, zlt8, zlt8_, zlt8n, zlt8n_, List.length_cons, List.length_nil, true_or, or_true, false_or, or_false, and_self, and_true, true_and, and_false, false_and, not_false_eq_true, not_true_eq_false, ite_true, ite_false, if_true, if_false, ite_not, zin, zpush_s, zpush_n, kl_int, kl_ref, kl_none, kl_kl, kl_long, kl_null, zT_wI, zT_wJ, zT_wR, zT_wIr, zT_wJr, zT_wRr, zI_wJ, zI_wR, zI_wJr, zI_wRr, zJ_wI, zJ_wR, zJ_wIr, zJ_wRr, zR_wI, zR_wJ, zR_wIr, zR_wJr, zN_wI, zN_wJ, zN_wR, zN_wIr, zN_wJr, zN_wRr, zZ_wI, zZ_wJ, zZ_wR, zZ_wIr, zZ_wJr, zZ_wRr, zI_wI, zJ_wJ, zR_wR, zI_wIr, zJ_wJr, zR_wRr, g510_0, g510_1, g510_2, g510_3, g510_5, g510_6, g510_9, g510_10, g510_13, g510_14, g510_15, g510_17, g510_20, g510_21, g510_23, g510_26, g510_27, g510_28, g510_29, g510_30, g510_33, g510_35, g510_36, g510_37, g510_38, g510_40, g510_41, g510_42, g510_43, g510_44, g510_47, g510_48, g510_49, g510_52, g510_55, g510_58, g510_59, m69, cp, h2l, a2, a3, i_le, z0, j2, e, nI_1]
    simp only [if_true]
    cases q2 : pDig x s (p + 1) with
    | false =>
      simp only [Bool.false_eq_true, if_false]
      refine ⟨_, nI j, At_w (p + 1), fun u hu => by simp at hu; rw [← hu, j2]; exact ⟨rfl, j, by omega, rfl⟩, fun hu => by simp at hu, fun Q => ?_⟩
      simp +decide only [Nat.reduceEqDiff, Nat.add_eq_left, Nat.left_eq_add, Nat.reduceAdd, Nat.reduceLeDiff, Nat.reduceMul, Nat.reduceSub, Nat.reduceLT, zlt8, zlt8_, zlt8n, zlt8n_, List.length_cons, List.length_nil, true_or, or_true, false_or, or_false, and_self, and_true, true_and, and_false, false_and, not_false_eq_true, not_true_eq_false, ite_true, ite_false, if_true, if_false, ite_not, zin, zpush_s, zpush_n, kl_int, kl_ref, kl_none, kl_kl, kl_long, kl_null, zT_wI, zT_wJ, zT_wR, zT_wIr, zT_wJr, zT_wRr, zI_wJ, zI_wR, zI_wJr, zI_wRr, zJ_wI, zJ_wR, zJ_wIr, zJ_wRr, zR_wI, zR_wJ, zR_wIr, zR_wJr, zN_wI, zN_wJ, zN_wR, zN_wIr, zN_wJr, zN_wRr, zZ_wI, zZ_wJ, zZ_wR, zZ_wIr, zZ_wJr, zZ_wRr, zI_wI, zJ_wJ, zR_wR, zI_wIr, zJ_wJr, zR_wRr, k510, g510_0, g510_1, g510_2, g510_3]
      rw [show (0 : Int32) = nI 0 from rfl, step1, g510_4]
      rcases dig_f q2 with q1 | ⟨q1, q2⟩
      · simp +decide only [Nat.reduceEqDiff, Nat.add_eq_left, Nat.left_eq_add, Nat.reduceAdd, Nat.reduceLeDiff, Nat.reduceMul, Nat.reduceSub, Nat.reduceLT, zlt8, zlt8_, zlt8n, zlt8n_, List.length_cons, List.length_nil, true_or, or_true, false_or, or_false, and_self, and_true, true_and, and_false, false_and, not_false_eq_true, not_true_eq_false, ite_true, ite_false, if_true, if_false, ite_not, zin, zpush_s, zpush_n, kl_int, kl_ref, kl_none, kl_kl, kl_long, kl_null, zT_wI, zT_wJ, zT_wR, zT_wIr, zT_wJr, zT_wRr, zI_wJ, zI_wR, zI_wJr, zI_wRr, zJ_wI, zJ_wR, zJ_wIr, zJ_wRr, zR_wI, zR_wJ, zR_wIr, zR_wJr, zN_wI, zN_wJ, zN_wR, zN_wIr, zN_wJr, zN_wRr, zZ_wI, zZ_wJ, zZ_wR, zZ_wIr, zZ_wJr, zZ_wRr, zI_wI, zJ_wJ, zR_wR, zI_wIr, zJ_wJr, zR_wRr, g510_0, g510_1, g510_2, g510_3, g510_5, g510_6, g510_9, g510_10, g510_13, g510_14, g510_15, g510_17, g510_20, g510_21, g510_23, g510_26, g510_27, g510_28, g510_29, g510_30, g510_33, g510_35, g510_36, g510_37, g510_38, g510_40, g510_41, g510_42, g510_43, g510_44, g510_47, g510_48, g510_49, g510_52, g510_55, g510_58, g510_59, m69, cp2, h2l1, q1]
      · simp +decide only [Nat.reduceEqDiff, Nat.add_eq_left, Nat.left_eq_add, Nat.reduceAdd, Nat.reduceLeDiff, Nat.reduceMul, Nat.reduceSub, Nat.reduceLT, zlt8, zlt8_, zlt8n, zlt8n_, List.length_cons, List.length_nil, true_or, or_true, false_or, or_false, and_self, and_true, true_and, and_false, false_and, not_false_eq_true, not_true_eq_false, ite_true, ite_false, if_true, if_false, ite_not, zin, zpush_s, zpush_n, kl_int, kl_ref, kl_none, kl_kl, kl_long, kl_null, zT_wI, zT_wJ, zT_wR, zT_wIr, zT_wJr, zT_wRr, zI_wJ, zI_wR, zI_wJr, zI_wRr, zJ_wI, zJ_wR, zJ_wIr, zJ_wRr, zR_wI, zR_wJ, zR_wIr, zR_wJr, zN_wI, zN_wJ, zN_wR, zN_wIr, zN_wJr, zN_wRr, zZ_wI, zZ_wJ, zZ_wR, zZ_wIr, zZ_wJr, zZ_wRr, zI_wI, zJ_wJ, zR_wR, zI_wIr, zJ_wJr, zR_wRr, g510_0, g510_1, g510_2, g510_3, g510_5, g510_6, g510_9, g510_10, g510_13, g510_14, g510_15, g510_17, g510_20, g510_21, g510_23, g510_26, g510_27, g510_28, g510_29, g510_30, g510_33, g510_35, g510_36, g510_37, g510_38, g510_40, g510_41, g510_42, g510_43, g510_44, g510_47, g510_48, g510_49, g510_52, g510_55, g510_58, g510_59, m69, cp2, h2l1, q1, i_le, q2]
    | true =>
      obtain ⟨ps2, b1, b2, b3, i, i1, i2⟩ := dig_v m q2
      rw [b1] at cp2
      have zm : zmax (nI j) 0 = nI j := by
        unfold zmax
        rw [if_neg (nI_pos (by omega))]
      have ev : nI j * 10 + x (p + 1) - 48 = nI (10 * j + i) := by
        rw [Int32.sub_eq_add_neg, Int32.add_assoc, ← Int32.sub_eq_add_neg, i2, show (10 : Int32) = nI 10 from rfl, pk_mul, nI_add, Nat.mul_comm]
      have ev2 : 10 * (x p - 48) + x (p + 1) - 48 = nI (10 * j + i) := by
        rw [j2, Int32.mul_comm]; exact ev
      simp only [if_true, ev2]
      refine ⟨_, nI (10 * j + i), At_t (At_w (h := h) (p + 1)) (At_w (p + 2)), fun u hu => by simp at hu; rw [← hu]; exact ⟨rfl, 10 * j + i, by omega, rfl⟩, fun hu => by simp at hu, fun Q => ?_⟩
      simp +decide only [Nat.reduceEqDiff, Nat.add_eq_left, Nat.left_eq_add, Nat.reduceAdd, Nat.reduceLeDiff, Nat.reduceMul, Nat.reduceSub, Nat.reduceLT, zlt8, zlt8_, zlt8n, zlt8n_, List.length_cons, List.length_nil, true_or, or_true, false_or, or_false, and_self, and_true, true_and, and_false, false_and, not_false_eq_true, not_true_eq_false, ite_true, ite_false, if_true, if_false, ite_not, zin, zpush_s, zpush_n, kl_int, kl_ref, kl_none, kl_kl, kl_long, kl_null, zT_wI, zT_wJ, zT_wR, zT_wIr, zT_wJr, zT_wRr, zI_wJ, zI_wR, zI_wJr, zI_wRr, zJ_wI, zJ_wR, zJ_wIr, zJ_wRr, zR_wI, zR_wJ, zR_wIr, zR_wJr, zN_wI, zN_wJ, zN_wR, zN_wIr, zN_wJr, zN_wRr, zZ_wI, zZ_wJ, zZ_wR, zZ_wIr, zZ_wJr, zZ_wRr, zI_wI, zJ_wJ, zR_wR, zI_wIr, zJ_wJr, zR_wRr, k510, g510_0, g510_1, g510_2, g510_3]
      rw [show (0 : Int32) = nI 0 from rfl, step1, g510_4]
      simp +decide only [Nat.reduceEqDiff, Nat.add_eq_left, Nat.left_eq_add, Nat.reduceAdd, Nat.reduceLeDiff, Nat.reduceMul, Nat.reduceSub, Nat.reduceLT, zlt8, zlt8_, zlt8n, zlt8n_, List.length_cons, List.length_nil, true_or, or_true, false_or, or_false, and_self, and_true, true_and, and_false, false_and, not_false_eq_true, not_true_eq_false, ite_true, ite_false, if_true, if_false, ite_not, zin, zpush_s, zpush_n, kl_int, kl_ref, kl_none, kl_kl, kl_long, kl_null, zT_wI, zT_wJ, zT_wR, zT_wIr, zT_wJr, zT_wRr, zI_wJ, zI_wR, zI_wJr, zI_wRr, zJ_wI, zJ_wR, zJ_wIr, zJ_wRr, zR_wI, zR_wJ, zR_wIr, zR_wJr, zN_wI, zN_wJ, zN_wR, zN_wIr, zN_wJr, zN_wRr, zZ_wI, zZ_wJ, zZ_wR, zZ_wIr, zZ_wJr, zZ_wRr, zI_wI, zJ_wJ, zR_wR, zI_wIr, zJ_wJr, zR_wRr, g510_0, g510_1, g510_2, g510_3, g510_5, g510_6, g510_9, g510_10, g510_13, g510_14, g510_15, g510_17, g510_20, g510_21, g510_23, g510_26, g510_27, g510_28, g510_29, g510_30, g510_33, g510_35, g510_36, g510_37, g510_38, g510_40, g510_41, g510_42, g510_43, g510_44, g510_47, g510_48, g510_49, g510_52, g510_55, g510_58, g510_59, m69, cp2, h2l1, b2, b3, i_le, zm, ev, e2, nI_1]
      rw [g510_4]
      simp +decide only [Nat.reduceEqDiff, Nat.add_eq_left, Nat.left_eq_add, Nat.reduceAdd, Nat.reduceLeDiff, Nat.reduceMul, Nat.reduceSub, Nat.reduceLT, zlt8, zlt8_, zlt8n, zlt8n_, List.length_cons, List.length_nil, true_or, or_true, false_or, or_false, and_self, and_true, true_and, and_false, false_and, not_false_eq_true, not_true_eq_false, ite_true, ite_false, if_true, if_false, ite_not, zin, zpush_s, zpush_n, kl_int, kl_ref, kl_none, kl_kl, kl_long, kl_null, zT_wI, zT_wJ, zT_wR, zT_wIr, zT_wJr, zT_wRr, zI_wJ, zI_wR, zI_wJr, zI_wRr, zJ_wI, zJ_wR, zJ_wIr, zJ_wRr, zR_wI, zR_wJ, zR_wIr, zR_wJr, zN_wI, zN_wJ, zN_wR, zN_wIr, zN_wJr, zN_wRr, zZ_wI, zZ_wJ, zZ_wR, zZ_wIr, zZ_wJr, zZ_wRr, zI_wI, zJ_wJ, zR_wR, zI_wIr, zJ_wJr, zR_wRr, g510_0, g510_1, g510_2, g510_3, g510_5, g510_6, g510_9, g510_10, g510_13, g510_14, g510_15, g510_17, g510_20, g510_21, g510_23, g510_26, g510_27, g510_28, g510_29, g510_30, g510_33, g510_35, g510_36, g510_37, g510_38, g510_40, g510_41, g510_42, g510_43, g510_44, g510_47, g510_48, g510_49, g510_52, g510_55, g510_58, g510_59, show ¬ nI 2 < 2 by decide, i_le]
/-! codes -/
theorem c_add (m : CP h x s g cc) (hd : Dr h g cc cs) (hl : cs.length < 100) (r n : Int32) : ∃ h1, FS (SQ g cc) h h1 ∧ zI h1 69 2 = zI h 69 2 ∧ zI h1 g 2 = zI h g 2 ∧ Dr h1 g cc (cs ++ [pCode c r n]) ∧ ∀ Q, zCall (d + 1) 403 [.ref g, .int c, .int r, .int n] h Q = Q none h1 := by
  obtain ⟨m1, m2, m3, m4, m5, m6, m7, m8, m9, m10, m11, m12, m13, m14, m15, m16⟩ := m
  obtain ⟨d1, d2⟩ := hd
  have hgc : ¬ cc = g := fun z => m16 z.symm
  refine ⟨wI (wI h cc cs.length (pCode c r n)) g 1 (nI (cs.length + 1)), FS_t (FS_I _ (by unfold SQ; omega)) (FS_I _ (by unfold SQ; omega)), ?_, ?_, ⟨?_, fun i hi => ?_⟩, fun Q => ?_⟩
  · rw [zI_wI, if_neg (by omega), zI_wI, if_neg (by omega)]
  · rw [zI_wI, if_pos rfl, up_n _ _ (by omega), zI_wI, if_neg m16]
  · rw [zI_wI, if_pos rfl, up_s, List.length_append]; rfl
  · rw [zI_wI, if_neg hgc, zI_wI, if_pos rfl]
    by_cases e : i = cs.length
    · subst e
      rw [up_s]
      simp [List.getD_eq_getElem?_getD]
    · simp at hi
      rw [up_n _ _ e, d2 i (by omega), List.getD_eq_getElem?_getD, List.getD_eq_getElem?_getD, List.getElem?_append_left (by omega)]
  · have z1 : ¬ (100 : Int32) ≤ nI cs.length := by rw [i_le]; exact Classical.not_not.mpr (nI_lt (b := 100) hl (by omega))
    have z2 := nI_pos (n := cs.length) (by omega)
    have z3 := nI_clamp (n := cs.length) (by omega)
    unfold pCode iShl
    simp +decide only [Nat.reduceEqDiff, Nat.add_eq_left, Nat.left_eq_add, Nat.reduceAdd, Nat.reduceLeDiff, Nat.reduceMul, Nat.reduceSub, Nat.reduceLT, zlt8, zlt8_, zlt8n, zlt8n_, List.length_cons, List.length_nil, true_or, or_true, false_or, or_false, and_self, and_true, true_and, and_false, false_and, not_false_eq_true, not_true_eq_false, ite_true, ite_false, if_true, if_false, ite_not, zin, zpush_s, zpush_n, kl_int, kl_ref, kl_none, kl_kl, kl_long, kl_null, zT_wI, zT_wJ, zT_wR, zT_wIr, zT_wJr, zT_wRr, zI_wJ, zI_wR, zI_wJr, zI_wRr, zJ_wI, zJ_wR, zJ_wIr, zJ_wRr, zR_wI, zR_wJ, zR_wIr, zR_wJr, zN_wI, zN_wJ, zN_wR, zN_wIr, zN_wJr, zN_wRr, zZ_wI, zZ_wJ, zZ_wR, zZ_wIr, zZ_wJr, zZ_wRr, zI_wI, zJ_wJ, zR_wR, zI_wIr, zJ_wJr, zR_wRr, k403, g403_0, g403_1, g403_4, g403_6, g403_9, g403_10, g403_13, g403_14, g403_17, g403_18, g403_20, g403_21, g403_22, g403_24, g403_25, g403_26, g403_27, g403_28, g403_29, g403_30, g403_31, g403_34, g403_35, g403_36, g403_39, m6, m7, m8, d1, z1, z2, z3, hl, m16, nI_1]
/-! a test -/
theorem mem3 (c : Int32) : decide (c ∈ kS 3) = pLet c := by
  unfold pLet
  have : kS 3 = [112, 107, 118, 119, 116, 100] := rfl
  rw [this]
  simp only [List.mem_cons, List.not_mem_nil, or_false]
theorem mem4 (c : Int32) : decide (c ∈ kS 4) = pRel c := by
  unfold pRel
  have : kS 4 = [60, 61, 62] := rfl
  rw [this]
  simp only [List.mem_cons, List.not_mem_nil, or_false]
theorem c_test : ImpC x s g cc 509 6 [] (pTest x s) := by
  intro d h p cs m hd e hl hp
  have m69 := m.2.1
  have m5 := m.2.2.2.2.1
  have m6 := m.2.2.2.2.2.1
  have hs := m.2.2.2.2.2.2.2.2.2.1
  have cp : ∀ Q, zCall (d + 5) 513 [.ref 69] h Q = Q (some (.int (pk x s p))) h := fun Q => c_peek m e hp Q
  have co : ∀ c h (m : KS h) Q, zCall (d + 5) 514 [.int c, .ref 1000006] h Q = Q (some (.int (bB (pLet c)))) h := fun c h m Q => by rw [← mem3]; exact c_oneOf (k := 3) m (by omega) c Q
  have cr : ∀ c h (m : KS h) Q, zCall (d + 5) 514 [.int c, .ref 1000007] h Q = Q (some (.int (bB (pRel c)))) h := fun c h m Q => by rw [← mem4]; exact c_oneOf (k := 4) m (by omega) c Q
  unfold pTest
  by_cases q : p < s ∧ pLet (x p) = true
  · obtain ⟨ps, q2⟩ := q
    have epk : pk x s p = x p := if_pos ps
    rw [epk] at cp
    rw [if_pos (by simp [ps, q2])]
    have A1 := At_w (h := h) (p + 1)
    have m2 := At_C m A1
    have cp2 : ∀ Q, zCall (d + 5) 513 [.ref 69] (wI h 69 2 (nI (p + 1))) Q = Q (some (.int (pk x s (p + 1)))) _ := fun Q => c_peek m2 A1.2 (by omega) Q
    have e2 := A1.2
    have co1 := co (x p) h m.1
    have cr1 := cr (pk x s (p + 1)) _ m2.1
    rw [q2] at co1
    by_cases q3 : p + 1 < s ∧ pRel (x (p + 1)) = true
    · obtain ⟨ps2, q4⟩ := q3
      have epk2 : pk x s (p + 1) = x (p + 1) := if_pos ps2
      rw [epk2] at cp2 cr1
      rw [q4] at cr1
      rw [if_pos (by simp [ps2, q4])]
      have A2 := At_w (h := wI h 69 2 (nI (p + 1))) (p + 2)
      have m3 := At_C m2 A2
      obtain ⟨h3, v, A3, v1, v2, g3⟩ := c_number (d := d + 3) m3 A2.2 (by omega)
      have m4 := At_C m3 A3
      have A := At_t A1 (At_t A2 A3)
      have D3 := At_D m A hd
      have le := pNum_le (x := x) (s := s) (p := p + 2) (by omega)
      have k69 := m4.2.1
      have k5 := m4.2.2.2.2.1
      have k6 := m4.2.2.2.2.2.1
      revert A v1 v2 le
      rcases pNum x s (p + 2) with ⟨q', _ | u⟩
      · intro v1 v2 A le
        have v2 := v2 rfl
        subst v2
        refine ⟨h3, At_Q A, A.2, by simp only at le ⊢; omega, le.2, At_g m A 2, fun e he => by simp at he, fun Q => ?_⟩
        simp +decide only [Nat.reduceEqDiff, Nat.add_eq_left, Nat.left_eq_add, Nat.reduceAdd, Nat.reduceLeDiff, Nat.reduceMul, Nat.reduceSub, Nat.reduceLT, zlt8, zlt8_, zlt8n, zlt8n_, List.length_cons, List.length_nil, true_or, or_true, false_or, or_false, and_self, and_true, true_and, and_false, false_and, not_false_eq_true, not_true_eq_false, ite_true, ite_false, if_true, if_false, ite_not, zin, zpush_s, zpush_n, kl_int, kl_ref, kl_none, kl_kl, kl_long, kl_null, zT_wI, zT_wJ, zT_wR, zT_wIr, zT_wJr, zT_wRr, zI_wJ, zI_wR, zI_wJr, zI_wRr, zJ_wI, zJ_wR, zJ_wIr, zJ_wRr, zR_wI, zR_wJ, zR_wIr, zR_wJr, zN_wI, zN_wJ, zN_wR, zN_wIr, zN_wJr, zN_wRr, zZ_wI, zZ_wJ, zZ_wR, zZ_wIr, zZ_wJr, zZ_wRr, zI_wI, zJ_wJ, zR_wR, zI_wIr, zJ_wJr, zR_wRr, k509, g509_0, g509_1, g509_4, g509_5, g509_6, g509_8, g509_11, g509_14, g509_15, g509_16, g509_17, g509_18, g509_21, g509_22, g509_23, g509_26, g509_27, g509_30, g509_31, g509_32, g509_34, g509_37, g509_40, g509_41, g509_42, g509_43, g509_44, g509_47, g509_48, g509_49, g509_52, g509_53, g509_56, g509_57, g509_58, g509_61, g509_62, g509_63, g509_64, g509_67, g509_68, g509_69, g509_70, g509_73, g509_74, m69, cp, co1, cp2, cr1, e, e2, g3, bB_t, bB_f, nI_1, Option.isSome, up_a]
      · intro v1 v2 A le
        obtain ⟨rfl, j, j1, rfl⟩ := v1 u rfl
        obtain ⟨h4, f4, a4, b4, D4, g4⟩ := c_add (d := d + 4) (c := x p) m4 D3 (by omega) (x (p + 1)) (nI j)
        refine ⟨h4, FS_t (At_Q A) f4, by rw [a4]; exact A.2, by simp only at le ⊢; omega, le.2, by rw [b4]; exact At_g m A 2, fun e he => ?_, fun Q => ?_⟩
        · have he := Option.some.inj he
          subst he
          exact ⟨D4, by simp only [List.length_singleton] at le ⊢; omega, by simp⟩
        · have z := nI_pos (n := j) (by omega)
          simp +decide only [Nat.reduceEqDiff, Nat.add_eq_left, Nat.left_eq_add, Nat.reduceAdd, Nat.reduceLeDiff, Nat.reduceMul, Nat.reduceSub, Nat.reduceLT, zlt8, zlt8_, zlt8n, zlt8n_, List.length_cons, List.length_nil, true_or, or_true, false_or, or_false, and_self, and_true, true_and, and_false, false_and, not_false_eq_true, not_true_eq_false, ite_true, ite_false, if_true, if_false, ite_not, zin, zpush_s, zpush_n, kl_int, kl_ref, kl_none, kl_kl, kl_long, kl_null, zT_wI, zT_wJ, zT_wR, zT_wIr, zT_wJr, zT_wRr, zI_wJ, zI_wR, zI_wJr, zI_wRr, zJ_wI, zJ_wR, zJ_wIr, zJ_wRr, zR_wI, zR_wJ, zR_wIr, zR_wJr, zN_wI, zN_wJ, zN_wR, zN_wIr, zN_wJr, zN_wRr, zZ_wI, zZ_wJ, zZ_wR, zZ_wIr, zZ_wJr, zZ_wRr, zI_wI, zJ_wJ, zR_wR, zI_wIr, zJ_wJr, zR_wRr, k509, g509_0, g509_1, g509_4, g509_5, g509_6, g509_8, g509_11, g509_14, g509_15, g509_16, g509_17, g509_18, g509_21, g509_22, g509_23, g509_26, g509_27, g509_30, g509_31, g509_32, g509_34, g509_37, g509_40, g509_41, g509_42, g509_43, g509_44, g509_47, g509_48, g509_49, g509_52, g509_53, g509_56, g509_57, g509_58, g509_61, g509_62, g509_63, g509_64, g509_67, g509_68, g509_69, g509_70, g509_73, g509_74, m69, k69, k5, k6, cp, co1, cp2, cr1, e, e2, g3, g4, z, i_le, bB_t, bB_f, nI_1, Option.isSome, up_a]
    · have e3 : pRel (pk x s (p + 1)) = false := by
        unfold pk
        by_cases ps2 : p + 1 < s
        · rw [if_pos ps2]
          cases q4 : pRel (x (p + 1)) with
          | true => exact absurd ⟨ps2, q4⟩ q3
          | false => rfl
        · rw [if_neg ps2]; decide
      rw [e3] at cr1
      rw [if_neg (by simpa using q3)]
      refine ⟨_, At_Q A1, A1.2, by simp only; omega, by simp only; omega, At_g m A1 2, fun e he => by simp at he, fun Q => ?_⟩
      simp +decide only [Nat.reduceEqDiff, Nat.add_eq_left, Nat.left_eq_add, Nat.reduceAdd, Nat.reduceLeDiff, Nat.reduceMul, Nat.reduceSub, Nat.reduceLT, zlt8, zlt8_, zlt8n, zlt8n_, List.length_cons, List.length_nil, true_or, or_true, false_or, or_false, and_self, and_true, true_and, and_false, false_and, not_false_eq_true, not_true_eq_false, ite_true, ite_false, if_true, if_false, ite_not, zin, zpush_s, zpush_n, kl_int, kl_ref, kl_none, kl_kl, kl_long, kl_null, zT_wI, zT_wJ, zT_wR, zT_wIr, zT_wJr, zT_wRr, zI_wJ, zI_wR, zI_wJr, zI_wRr, zJ_wI, zJ_wR, zJ_wIr, zJ_wRr, zR_wI, zR_wJ, zR_wIr, zR_wJr, zN_wI, zN_wJ, zN_wR, zN_wIr, zN_wJr, zN_wRr, zZ_wI, zZ_wJ, zZ_wR, zZ_wIr, zZ_wJr, zZ_wRr, zI_wI, zJ_wJ, zR_wR, zI_wIr, zJ_wJr, zR_wRr, k509, g509_0, g509_1, g509_4, g509_5, g509_6, g509_8, g509_11, g509_14, g509_15, g509_16, g509_17, g509_18, g509_21, g509_22, g509_23, g509_26, g509_27, g509_30, g509_31, g509_32, g509_34, g509_37, g509_40, g509_41, g509_42, g509_43, g509_44, g509_47, g509_48, g509_49, g509_52, g509_53, g509_56, g509_57, g509_58, g509_61, g509_62, g509_63, g509_64, g509_67, g509_68, g509_69, g509_70, g509_73, g509_74, m69, cp, co1, cp2, cr1, e, e2, bB_t, bB_f, nI_1, Option.isSome]
  · have e3 : pLet (pk x s p) = false := by
      unfold pk
      by_cases ps : p < s
      · rw [if_pos ps]
        cases q4 : pLet (x p) with
        | true => exact absurd ⟨ps, q4⟩ q
        | false => rfl
      · rw [if_neg ps]; decide
    have co1 := co (pk x s p) h m.1
    rw [e3] at co1
    rw [if_neg (by simpa using q)]
    refine ⟨h, FS_r _ _, e, Nat.le_refl _, hp, rfl, fun e he => by simp at he, fun Q => ?_⟩
    simp +decide only [Nat.reduceEqDiff, Nat.add_eq_left, Nat.left_eq_add, Nat.reduceAdd, Nat.reduceLeDiff, Nat.reduceMul, Nat.reduceSub, Nat.reduceLT, zlt8, zlt8_, zlt8n, zlt8n_, List.length_cons, List.length_nil, true_or, or_true, false_or, or_false, and_self, and_true, true_and, and_false, false_and, not_false_eq_true, not_true_eq_false, ite_true, ite_false, if_true, if_false, ite_not, zin, zpush_s, zpush_n, kl_int, kl_ref, kl_none, kl_kl, kl_long, kl_null, zT_wI, zT_wJ, zT_wR, zT_wIr, zT_wJr, zT_wRr, zI_wJ, zI_wR, zI_wJr, zI_wRr, zJ_wI, zJ_wR, zJ_wIr, zJ_wRr, zR_wI, zR_wJ, zR_wIr, zR_wJr, zN_wI, zN_wJ, zN_wR, zN_wIr, zN_wJr, zN_wRr, zZ_wI, zZ_wJ, zZ_wR, zZ_wIr, zZ_wJr, zZ_wRr, zI_wI, zJ_wJ, zR_wR, zI_wIr, zJ_wJr, zR_wRr, k509, g509_0, g509_1, g509_4, g509_5, g509_6, g509_8, g509_11, g509_14, g509_15, g509_16, g509_17, g509_18, g509_21, g509_22, g509_23, g509_26, g509_27, g509_30, g509_31, g509_32, g509_34, g509_37, g509_40, g509_41, g509_42, g509_43, g509_44, g509_47, g509_48, g509_49, g509_52, g509_53, g509_56, g509_57, g509_58, g509_61, g509_62, g509_63, g509_64, g509_67, g509_68, g509_69, g509_70, g509_73, g509_74, m69, cp, co1, bB_f, Option.isSome]
