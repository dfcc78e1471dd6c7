-- needs 72.season
variable {n D D2 q L c1 c2 c3 a b t s r d K k kd i j ln c m M N p p2 z : Nat} {h h1 h2 h3 h4 g0 : zH} {w w1 x nm : zW0} {sv : Value} {xs : zW0} {ex : zW0 → Int32}
/-- M cells made; a alone of the older ones is other -/
def EX (h h1 : zH) (a M z : Nat) : Prop := zN h1 = zN h + M ∧ zZ h1 = zZ h + z ∧ ∀ b, ¬ b = a → (b < zN h ∨ zN h + M ≤ b) → zT h1 b = zT h b ∧ zI h1 b = zI h b ∧ zJ h1 b = zJ h b ∧ zR h1 b = zR h b
def nRoad (h : zH) (a : Nat) : zH := wI (wI (wR (wM (wR (wN (wR (wN (wR (wN (wR (wN (wR (wN (wR (wN h (20, 6)) a 0 (.ref (a + 1))) (20, 6)) a 1 (.ref (a + 2))) (20, 6)) a 2 (.ref (a + 3))) (20, 6)) a 3 (.ref (a + 4))) (20, 6)) a 4 (.ref (a + 5))) (23, 6)) a 5 (.ref (a + 6)))) a 6 (.ref (a + 7))) a 8 500) a 11 (-1)
theorem tN (h : zH) (t : Nat × Nat) (b : Nat) : zT (wN h t) b = if b = zN h then t else zT h b := rfl
theorem iN (h : zH) (t : Nat × Nat) (b : Nat) : zI (wN h t) b = if b = zN h then fun _ => 0 else zI h b := rfl
theorem jN (h : zH) (t : Nat × Nat) (b : Nat) : zJ (wN h t) b = if b = zN h then fun _ => 0 else zJ h b := rfl
theorem rN' (h : zH) (t : Nat × Nat) (b : Nat) : zR (wN h t) b = if b = zN h then fun _ => .null else zR h b := rfl
theorem nN (h : zH) (t : Nat × Nat) : zN (wN h t) = zN h + 1 := rfl
theorem zN' (h : zH) (t : Nat × Nat) : zZ (wN h t) = zZ h + t.2 := rfl
theorem tM (h : zH) (a : Nat) : zT (wM h) a = if a = zN h then (26, 6) else if zN h < a ∧ a ≤ zN h + 6 then (20, 4) else zT h a := rfl
theorem iM (h : zH) (a : Nat) : zI (wM h) a = if zN h ≤ a ∧ a ≤ zN h + 6 then fun _ => 0 else zI h a := rfl
theorem jM (h : zH) : zJ (wM h) = zJ h := rfl
theorem rM (h : zH) (a : Nat) : zR (wM h) a = if a = zN h then fun j => if j < 6 then .ref (zN h + 1 + j) else .null else zR h a := rfl
theorem nM (h : zH) : zN (wM h) = zN h + 7 := rfl
theorem zM' (h : zH) : zZ (wM h) = zZ h + 30 := rfl
theorem c_road (hT : zT h a = (2, 12)) (hN : zN h = a + 1) (hI : zI h a = fun _ => 0) (hR : zR h a = fun _ => .null) : EX h (nRoad h a) a 13 66 ∧ RS (nRoad h a) a ∧ (zI (nRoad h a) a 7 = 0 ∧ zI (nRoad h a) a 8 = 500 ∧ zI (nRoad h a) a 9 = 0 ∧ zI (nRoad h a) a 11 = -1 ∧ zR (nRoad h a) a 10 = .null) ∧ ∀ Q, zCall (d + 2) 201 [.ref a] h Q = Q none (nRoad h a) := by
  have v1 : (a + 7 < a) = False := by simp
  have v2 : (a + 7 ≤ a) = False := by simp
  refine ⟨⟨?_, ?_, fun b h1 h2 => ?_⟩, ?_, ?_, fun Q => ?_⟩
  · unfold nRoad
    simp +decide only [zN_wI, zN_wR, nN, nM, hN, Nat.add_assoc, Nat.reduceAdd]
  · unfold nRoad
    simp +decide only [zZ_wI, zZ_wR, zN', zM', Nat.add_assoc, Nat.reduceAdd]
  · rw [hN] at h2
    have e1 : ∀ k, k < 13 → (b = a + (1 + k)) = False := fun k hk => by simp; omega
    have e2 : (a + 7 < b ∧ b ≤ a + 13) = False := by simp; omega
    have e3 : (a + 7 ≤ b ∧ b ≤ a + 13) = False := by simp; omega
    have f1 := e1 0 (by omega)
    have f2 := e1 1 (by omega)
    have f3 := e1 2 (by omega)
    have f4 := e1 3 (by omega)
    have f5 := e1 4 (by omega)
    have f6 := e1 5 (by omega)
    have f7 := e1 6 (by omega)
    simp only [Nat.reduceAdd] at f1 f2 f3 f4 f5 f6 f7
    unfold nRoad
    refine ⟨?_, ?_, ?_, ?_⟩ <;> simp +decide only [zT_wI, zT_wJ, zT_wR, zT_wIr, zT_wJr, zT_wRr, zI_wJ, zI_wR, zI_wJr, zI_wRr, zJ_wI, zJ_wR, zJ_wIr, zJ_wRr, zR_wI, zR_wJ, zR_wIr, zR_wJr, zN_wI, zN_wJ, zN_wR, zN_wIr, zN_wJr, zN_wRr, zZ_wI, zZ_wJ, zZ_wR, zZ_wIr, zZ_wJr, zZ_wRr, zI_wI, zJ_wJ, zR_wR, zI_wIr, zJ_wJr, zR_wRr, tN, iN, jN, rN', nN, tM, iM, jM, rM, nM, hN, Nat.add_assoc, Nat.reduceAdd, h1, f1, f2, f3, f4, f5, f6, f7, e2, e3, if_false]
  · unfold RS nRoad
    refine ⟨?_, ?_, ?_, ?_, ?_, ?_, ?_, ?_, ?_, ?_, ?_, ?_, ?_, ?_, ?_, fun t ht => ⟨?_, ?_⟩⟩
    iterate 15 (simp +decide only [Nat.reduceEqDiff, Nat.add_eq_left, Nat.left_eq_add, Nat.reduceAdd, Nat.reduceLeDiff, Nat.reduceMul, Nat.reduceSub, Nat.reduceLT, zlt8, zlt8_, zlt8n, zlt8n_, List.length_cons, List.length_nil, true_or, or_true, false_or, or_false, and_self, and_true, true_and, and_false, false_and, not_false_eq_true, not_true_eq_false, ite_true, ite_false, if_true, if_false, ite_not, zin, zpush_s, zpush_n, kl_int, kl_ref, kl_none, kl_kl, kl_long, kl_null, zT_wI, zT_wJ, zT_wR, zT_wIr, zT_wJr, zT_wRr, zI_wJ, zI_wR, zI_wJr, zI_wRr, zJ_wI, zJ_wR, zJ_wIr, zJ_wRr, zR_wI, zR_wJ, zR_wIr, zR_wJr, zN_wI, zN_wJ, zN_wR, zN_wIr, zN_wJr, zN_wRr, zZ_wI, zZ_wJ, zZ_wR, zZ_wIr, zZ_wJr, zZ_wRr, zI_wI, zJ_wJ, zR_wR, zI_wIr, zJ_wJr, zR_wRr, tN, iN, jN, rN', nN, tM, iM, jM, rM, nM, hN, hT, Nat.add_assoc, up_a, v1, v2, Nat.add_lt_add_iff_left, Nat.add_le_add_iff_left])
    · simp +decide only [Nat.reduceEqDiff, Nat.add_eq_left, Nat.left_eq_add, Nat.reduceAdd, Nat.reduceLeDiff, Nat.reduceMul, Nat.reduceSub, Nat.reduceLT, zlt8, zlt8_, zlt8n, zlt8n_, List.length_cons, List.length_nil, true_or, or_true, false_or, or_false, and_self, and_true, true_and, and_false, false_and, not_false_eq_true, not_true_eq_false, ite_true, ite_false, if_true, if_false, ite_not, zin, zpush_s, zpush_n, kl_int, kl_ref, kl_none, kl_kl, kl_long, kl_null, zT_wI, zT_wJ, zT_wR, zT_wIr, zT_wJr, zT_wRr, zI_wJ, zI_wR, zI_wJr, zI_wRr, zJ_wI, zJ_wR, zJ_wIr, zJ_wRr, zR_wI, zR_wJ, zR_wIr, zR_wJr, zN_wI, zN_wJ, zN_wR, zN_wIr, zN_wJr, zN_wRr, zZ_wI, zZ_wJ, zZ_wR, zZ_wIr, zZ_wJr, zZ_wRr, zI_wI, zJ_wJ, zR_wR, zI_wIr, zJ_wJr, zR_wRr, tN, iN, jN, rN', nN, tM, iM, jM, rM, nM, hN, hT, Nat.add_assoc, up_a, ht]
    · have f1 : (a + (8 + t) = a + 7) = False := by simp; omega
      have f2 : (a + 7 < a + (8 + t) ∧ a + (8 + t) ≤ a + 13) = True := by simp; omega
      simp +decide only [Nat.reduceEqDiff, Nat.add_eq_left, Nat.left_eq_add, Nat.reduceAdd, Nat.reduceLeDiff, Nat.reduceMul, Nat.reduceSub, Nat.reduceLT, zlt8, zlt8_, zlt8n, zlt8n_, List.length_cons, List.length_nil, true_or, or_true, false_or, or_false, and_self, and_true, true_and, and_false, false_and, not_false_eq_true, not_true_eq_false, ite_true, ite_false, if_true, if_false, ite_not, zin, zpush_s, zpush_n, kl_int, kl_ref, kl_none, kl_kl, kl_long, kl_null, zT_wI, zT_wJ, zT_wR, zT_wIr, zT_wJr, zT_wRr, zI_wJ, zI_wR, zI_wJr, zI_wRr, zJ_wI, zJ_wR, zJ_wIr, zJ_wRr, zR_wI, zR_wJ, zR_wIr, zR_wJr, zN_wI, zN_wJ, zN_wR, zN_wIr, zN_wJr, zN_wRr, zZ_wI, zZ_wJ, zZ_wR, zZ_wIr, zZ_wJr, zZ_wRr, zI_wI, zJ_wJ, zR_wR, zI_wIr, zJ_wJr, zR_wRr, tN, iN, jN, rN', nN, tM, iM, jM, rM, nM, hN, hT, Nat.add_assoc, up_a, f1, f2]
  · unfold nRoad
    refine ⟨?_, ?_, ?_, ?_, ?_⟩ <;> simp +decide only [Nat.reduceEqDiff, Nat.add_eq_left, Nat.left_eq_add, Nat.reduceAdd, Nat.reduceLeDiff, Nat.reduceMul, Nat.reduceSub, Nat.reduceLT, zlt8, zlt8_, zlt8n, zlt8n_, List.length_cons, List.length_nil, true_or, or_true, false_or, or_false, and_self, and_true, true_and, and_false, false_and, not_false_eq_true, not_true_eq_false, ite_true, ite_false, if_true, if_false, ite_not, zin, zpush_s, zpush_n, kl_int, kl_ref, kl_none, kl_kl, kl_long, kl_null, zT_wI, zT_wJ, zT_wR, zT_wIr, zT_wJr, zT_wRr, zI_wJ, zI_wR, zI_wJr, zI_wRr, zJ_wI, zJ_wR, zJ_wIr, zJ_wRr, zR_wI, zR_wJ, zR_wIr, zR_wJr, zN_wI, zN_wJ, zN_wR, zN_wIr, zN_wJr, zN_wRr, zZ_wI, zZ_wJ, zZ_wR, zZ_wIr, zZ_wJr, zZ_wRr, zI_wI, zJ_wJ, zR_wR, zI_wIr, zJ_wJr, zR_wRr, tN, iN, jN, rN', nN, tM, iM, jM, rM, nM, hN, hI, hR, Nat.add_assoc, up_a, v1, v2, Nat.add_lt_add_iff_left, Nat.add_le_add_iff_left]
  · unfold nRoad
    simp +decide only [Nat.reduceEqDiff, Nat.add_eq_left, Nat.left_eq_add, Nat.reduceAdd, Nat.reduceLeDiff, Nat.reduceMul, Nat.reduceSub, Nat.reduceLT, zlt8, zlt8_, zlt8n, zlt8n_, List.length_cons, List.length_nil, true_or, or_true, false_or, or_false, and_self, and_true, true_and, and_false, false_and, not_false_eq_true, not_true_eq_false, ite_true, ite_false, if_true, if_false, ite_not, zin, zpush_s, zpush_n, kl_int, kl_ref, kl_none, kl_kl, kl_long, kl_null, VR_i, VR_l, zT_wI, zT_wJ, zT_wR, zT_wIr, zT_wJr, zT_wRr, zI_wJ, zI_wR, zI_wJr, zI_wRr, zJ_wI, zJ_wR, zJ_wIr, zJ_wRr, zR_wI, zR_wJ, zR_wIr, zR_wJr, zN_wI, zN_wJ, zN_wR, zN_wIr, zN_wJr, zN_wRr, zZ_wI, zZ_wJ, zZ_wR, zZ_wIr, zZ_wJr, zZ_wRr, zI_wI, zJ_wJ, zR_wR, zI_wIr, zJ_wJr, zR_wRr, k201, g201_0, g201_1, g201_4, g201_5, g201_7, g201_9, g201_9_n, g201_12, g201_13, g201_15, g201_17, g201_17_n, g201_20, g201_21, g201_23, g201_25, g201_25_n, g201_28, g201_29, g201_31, g201_33, g201_33_n, g201_36, g201_37, g201_39, g201_41, g201_41_n, g201_44, g201_45, g201_47, g201_49, g201_49_n, g201_52, g201_53, g201_55, g201_56, g201_60, g201_60_n, g201_63, g201_64, g201_67, g201_70, g201_71, g201_72, g201_75, tN, iN, jN, rN', nN, tM, iM, jM, rM, nM, hT, hN, Nat.add_assoc, v1, v2, Nat.add_lt_add_iff_left, Nat.add_le_add_iff_left, show Int32.toNatClampNeg 6 = 6 by decide, show ¬ (6 : Int32) < 0 by decide]
/-- all cells from there on are as at the start -/
def nRows (h : zH) (c m : Nat) : zH := wR (wN (wR (wN (wR (wN h (20, m)) c 0 (.ref (c + 1))) (20, m)) c 1 (.ref (c + 2))) (20, m)) c 2 (.ref (c + 3))
theorem c_rows (hT : zT h c = (3, 4)) (hN : zN h = c + 1) (hI : zI h c = fun _ => 0) (hm : m ≤ 10) : EX h (nRows h c m) c 3 (3 * m) ∧ WS (nRows h c m) c m ∧ zI (nRows h c m) c 3 = 0 ∧ ∀ Q, zCall (d + 1) 301 [.ref c, .int (nI m)] h Q = Q none (nRows h c m) := by
  refine ⟨⟨?_, ?_, fun b h1 h2 => ?_⟩, ?_, ?_, fun Q => ?_⟩
  · unfold nRows
    simp +decide only [zN_wI, zN_wR, nN, nM, hN, Nat.add_assoc, Nat.reduceAdd]
  · unfold nRows
    simp +decide only [zZ_wI, zZ_wR, zN']
    omega
  · rw [hN] at h2
    have f1 : (b = c + 1) = False := by simp; omega
    have f2 : (b = c + 2) = False := by simp; omega
    have f3 : (b = c + 3) = False := by simp; omega
    unfold nRows
    refine ⟨?_, ?_, ?_, ?_⟩ <;> simp +decide only [zT_wI, zT_wJ, zT_wR, zT_wIr, zT_wJr, zT_wRr, zI_wJ, zI_wR, zI_wJr, zI_wRr, zJ_wI, zJ_wR, zJ_wIr, zJ_wRr, zR_wI, zR_wJ, zR_wIr, zR_wJr, zN_wI, zN_wJ, zN_wR, zN_wIr, zN_wJr, zN_wRr, zZ_wI, zZ_wJ, zZ_wR, zZ_wIr, zZ_wJr, zZ_wRr, zI_wI, zJ_wJ, zR_wR, zI_wIr, zJ_wJr, zR_wRr, tN, iN, jN, rN', nN, hN, Nat.add_assoc, Nat.reduceAdd, h1, f1, f2, f3, if_false]
  · unfold WS nRows
    refine ⟨?_, ?_, ?_, ?_, ?_, ?_, ?_⟩
    iterate 7 (simp +decide only [Nat.reduceEqDiff, Nat.add_eq_left, Nat.left_eq_add, Nat.reduceAdd, Nat.reduceLeDiff, Nat.reduceMul, Nat.reduceSub, Nat.reduceLT, zlt8, zlt8_, zlt8n, zlt8n_, List.length_cons, List.length_nil, true_or, or_true, false_or, or_false, and_self, and_true, true_and, and_false, false_and, not_false_eq_true, not_true_eq_false, ite_true, ite_false, if_true, if_false, ite_not, zin, zpush_s, zpush_n, kl_int, kl_ref, kl_none, kl_kl, kl_long, kl_null, zT_wI, zT_wJ, zT_wR, zT_wIr, zT_wJr, zT_wRr, zI_wJ, zI_wR, zI_wJr, zI_wRr, zJ_wI, zJ_wR, zJ_wIr, zJ_wRr, zR_wI, zR_wJ, zR_wIr, zR_wJr, zN_wI, zN_wJ, zN_wR, zN_wIr, zN_wJr, zN_wRr, zZ_wI, zZ_wJ, zZ_wR, zZ_wIr, zZ_wJr, zZ_wRr, zI_wI, zJ_wJ, zR_wR, zI_wIr, zJ_wJr, zR_wRr, tN, iN, jN, rN', nN, hN, hT, Nat.add_assoc, up_a])
  · have e : zI (nRows h c m) c = fun _ => 0 := by
      unfold nRows
      simp +decide only [Nat.reduceEqDiff, Nat.add_eq_left, Nat.left_eq_add, Nat.reduceAdd, Nat.reduceLeDiff, Nat.reduceMul, Nat.reduceSub, Nat.reduceLT, zlt8, zlt8_, zlt8n, zlt8n_, List.length_cons, List.length_nil, true_or, or_true, false_or, or_false, and_self, and_true, true_and, and_false, false_and, not_false_eq_true, not_true_eq_false, ite_true, ite_false, if_true, if_false, ite_not, zin, zpush_s, zpush_n, kl_int, kl_ref, kl_none, kl_kl, kl_long, kl_null, zT_wI, zT_wJ, zT_wR, zT_wIr, zT_wJr, zT_wRr, zI_wJ, zI_wR, zI_wJr, zI_wRr, zJ_wI, zJ_wR, zJ_wIr, zJ_wRr, zR_wI, zR_wJ, zR_wIr, zR_wJr, zN_wI, zN_wJ, zN_wR, zN_wIr, zN_wJr, zN_wRr, zZ_wI, zZ_wJ, zZ_wR, zZ_wIr, zZ_wJr, zZ_wRr, zI_wI, zJ_wJ, zR_wR, zI_wIr, zJ_wJr, zR_wRr, tN, iN, jN, rN', nN, hN, hI, Nat.add_assoc, ite_self]
    rw [e]
  · have z1 := nI_pos (n := m) (by omega)
    have z2 := nI_clamp (n := m) (by omega)
    have z3 : zmax (nI m) 0 = nI m := by unfold zmax; rw [if_neg z1]
    unfold nRows
    simp +decide only [Nat.reduceEqDiff, Nat.add_eq_left, Nat.left_eq_add, Nat.reduceAdd, Nat.reduceLeDiff, Nat.reduceMul, Nat.reduceSub, Nat.reduceLT, zlt8, zlt8_, zlt8n, zlt8n_, List.length_cons, List.length_nil, true_or, or_true, false_or, or_false, and_self, and_true, true_and, and_false, false_and, not_false_eq_true, not_true_eq_false, ite_true, ite_false, if_true, if_false, ite_not, zin, zpush_s, zpush_n, kl_int, kl_ref, kl_none, kl_kl, kl_long, kl_null, VR_i, VR_l, zT_wI, zT_wJ, zT_wR, zT_wIr, zT_wJr, zT_wRr, zI_wJ, zI_wR, zI_wJr, zI_wRr, zJ_wI, zJ_wR, zJ_wIr, zJ_wRr, zR_wI, zR_wJ, zR_wIr, zR_wJr, zN_wI, zN_wJ, zN_wR, zN_wIr, zN_wJr, zN_wRr, zZ_wI, zZ_wJ, zZ_wR, zZ_wIr, zZ_wJr, zZ_wRr, zI_wI, zJ_wJ, zR_wR, zI_wIr, zJ_wJr, zR_wRr, k301, g301_0, g301_1, g301_4, g301_5, g301_6, g301_9, g301_10, g301_11, g301_12, g301_14, g301_14_n, g301_17, g301_18, g301_19, g301_21, g301_21_n, g301_24, g301_25, g301_26, g301_28, g301_28_n, g301_31, tN, iN, jN, rN', nN, hT, hN, Nat.add_assoc, z1, z2, z3, show m ≤ 1000 by omega]
