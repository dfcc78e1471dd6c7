-- needs 74.new2
variable {n D D2 q L c1 c2 c3 a b t s r d K k kd i j ln c m M N p p2 z : Nat} {h h1 h2 h3 h4 g0 : zH} {w w1 x nm : zW0} {sv : Value} {xs : zW0} {ex : zW0 → Int32} {ty : Nat × Nat}
def nReader (h : zH) (a : Nat) : zH := wR (wR (wN (wN (wR (wN h (21, 100)) a 0 (.ref (a + 1))) (4, 3)) (20, 100)) (a + 2) 0 (.ref (a + 3))) a 1 (.ref (a + 2))
theorem c_reader (hT : zT h a = (5, 4)) (hN : zN h = a + 1) (hI : zI h a = fun _ => 0) : EX h (nReader h a) a 3 203 ∧ (zT (nReader h a) a = (5, 4) ∧ zR (nReader h a) a 0 = .ref (a + 1) ∧ zR (nReader h a) a 1 = .ref (a + 2) ∧ zT (nReader h a) (a + 1) = (21, 100) ∧ zT (nReader h a) (a + 2) = (4, 3) ∧ zR (nReader h a) (a + 2) 0 = .ref (a + 3) ∧ zT (nReader h a) (a + 3) = (20, 100) ∧ zI (nReader h a) a = fun _ => 0) ∧ ∀ Q, zCall (d + 2) 501 [.ref a] h Q = Q none (nReader h a) := by
  refine ⟨⟨?_, ?_, fun b h1 h2 => ?_⟩, ⟨?_, ?_, ?_, ?_, ?_, ?_, ?_, ?_⟩, fun Q => ?_⟩
  · unfold nReader
    simp +decide only [zN_wI, zN_wR, nN, nM, hN, Nat.add_assoc, Nat.reduceAdd]
  · unfold nReader
    simp +decide only [zZ_wI, zZ_wR, zN', Nat.add_assoc, Nat.reduceAdd]
  · rw [hN] at h2
    have f1 : (b = a + 1) = False := by simp; omega
    have f2 : (b = a + 2) = False := by simp; omega
    have f3 : (b = a + 3) = False := by simp; omega
    unfold nReader
    refine ⟨?_, ?_, ?_, ?_⟩ <;> simp +decide only [zT_wI, zT_wJ, zT_wR, zT_wIr, zT_wJr, zT_wRr, zI_wJ, zI_wR, zI_wJr, zI_wRr, zJ_wI, zJ_wR, zJ_wIr, zJ_wRr, zR_wI, zR_wJ, zR_wIr, zR_wJr, zN_wI, zN_wJ, zN_wR, zN_wIr, zN_wJr, zN_wRr, zZ_wI, zZ_wJ, zZ_wR, zZ_wIr, zZ_wJr, zZ_wRr, zI_wI, zJ_wJ, zR_wR, zI_wIr, zJ_wJr, zR_wRr, tN, iN, jN, rN', nN, hN, Nat.add_assoc, Nat.reduceAdd, h1, f1, f2, f3, if_false]
  iterate 7 (unfold nReader; simp +decide only [Nat.reduceEqDiff, Nat.add_eq_left, Nat.left_eq_add, Nat.reduceAdd, Nat.reduceLeDiff, Nat.reduceMul, Nat.reduceSub, Nat.reduceLT, zlt8, zlt8_, zlt8n, zlt8n_, List.length_cons, List.length_nil, true_or, or_true, false_or, or_false, and_self, and_true, true_and, and_false, false_and, not_false_eq_true, not_true_eq_false, ite_true, ite_false, if_true, if_false, ite_not, zin, zpush_s, zpush_n, kl_int, kl_ref, kl_none, kl_kl, kl_long, kl_null, zT_wI, zT_wJ, zT_wR, zT_wIr, zT_wJr, zT_wRr, zI_wJ, zI_wR, zI_wJr, zI_wRr, zJ_wI, zJ_wR, zJ_wIr, zJ_wRr, zR_wI, zR_wJ, zR_wIr, zR_wJr, zN_wI, zN_wJ, zN_wR, zN_wIr, zN_wJr, zN_wRr, zZ_wI, zZ_wJ, zZ_wR, zZ_wIr, zZ_wJr, zZ_wRr, zI_wI, zJ_wJ, zR_wR, zI_wIr, zJ_wJr, zR_wRr, tN, iN, jN, rN', nN, hN, hT, Nat.add_assoc, up_a])
  · unfold nReader
    simp +decide only [Nat.reduceEqDiff, Nat.add_eq_left, Nat.left_eq_add, Nat.reduceAdd, Nat.reduceLeDiff, Nat.reduceMul, Nat.reduceSub, Nat.reduceLT, zlt8, zlt8_, zlt8n, zlt8n_, List.length_cons, List.length_nil, true_or, or_true, false_or, or_false, and_self, and_true, true_and, and_false, false_and, not_false_eq_true, not_true_eq_false, ite_true, ite_false, if_true, if_false, ite_not, zin, zpush_s, zpush_n, kl_int, kl_ref, kl_none, kl_kl, kl_long, kl_null, zT_wI, zT_wJ, zT_wR, zT_wIr, zT_wJr, zT_wRr, zI_wJ, zI_wR, zI_wJr, zI_wRr, zJ_wI, zJ_wR, zJ_wIr, zJ_wRr, zR_wI, zR_wJ, zR_wIr, zR_wJr, zN_wI, zN_wJ, zN_wR, zN_wIr, zN_wJr, zN_wRr, zZ_wI, zZ_wJ, zZ_wR, zZ_wIr, zZ_wJr, zZ_wRr, zI_wI, zJ_wJ, zR_wR, zI_wIr, zJ_wJr, zR_wRr, tN, iN, jN, rN', nN, hN, hI, Nat.add_assoc]
  · unfold nReader
    simp +decide only [Nat.reduceEqDiff, Nat.add_eq_left, Nat.left_eq_add, Nat.reduceAdd, Nat.reduceLeDiff, Nat.reduceMul, Nat.reduceSub, Nat.reduceLT, zlt8, zlt8_, zlt8n, zlt8n_, List.length_cons, List.length_nil, true_or, or_true, false_or, or_false, and_self, and_true, true_and, and_false, false_and, not_false_eq_true, not_true_eq_false, ite_true, ite_false, if_true, if_false, ite_not, zin, zpush_s, zpush_n, kl_int, kl_ref, kl_none, kl_kl, kl_long, kl_null, VR_i, VR_l, zT_wI, zT_wJ, zT_wR, zT_wIr, zT_wJr, zT_wRr, zI_wJ, zI_wR, zI_wJr, zI_wRr, zJ_wI, zJ_wR, zJ_wIr, zJ_wRr, zR_wI, zR_wJ, zR_wIr, zR_wJr, zN_wI, zN_wJ, zN_wR, zN_wIr, zN_wJr, zN_wRr, zZ_wI, zZ_wJ, zZ_wR, zZ_wIr, zZ_wJr, zZ_wRr, zI_wI, zJ_wJ, zR_wR, zI_wIr, zJ_wJr, zR_wRr, k501, g501_0, g501_1, g501_4, g501_5, g501_7, g501_9, g501_9_n, g501_12, g501_13, g501_16, g501_17, g501_20, g501_20_n, g501_23, k401, g401_0, g401_1, g401_4, g401_5, g401_7, g401_9, g401_9_n, g401_12, tN, iN, jN, rN', nN, hT, hN, Nat.add_assoc, show Int32.toNatClampNeg 100 = 100 by decide, show ¬ (100 : Int32) < 0 by decide]
def nActs (h : zH) (a : Nat) : zH := wR (wN h (20, 20)) a 0 (.ref (a + 1))
theorem c_acts (hT : zT h a = (0, 5)) (hN : zN h = a + 1) (hI : zI h a = fun _ => 0) : EX h (nActs h a) a 1 20 ∧ (zT (nActs h a) a = (0, 5) ∧ zR (nActs h a) a 0 = .ref (a + 1) ∧ zT (nActs h a) (a + 1) = (20, 20) ∧ zI (nActs h a) a = fun _ => 0) ∧ ∀ Q, zCall (d + 1) 1 [.ref a] h Q = Q none (nActs h a) := by
  refine ⟨⟨?_, ?_, fun b h1 h2 => ?_⟩, ⟨?_, ?_, ?_, ?_⟩, fun Q => ?_⟩
  · unfold nActs
    simp +decide only [zN_wI, zN_wR, nN, nM, hN, Nat.add_assoc, Nat.reduceAdd]
  · unfold nActs
    simp +decide only [zZ_wI, zZ_wR, zN', Nat.add_assoc, Nat.reduceAdd]
  · rw [hN] at h2
    have f1 : (b = a + 1) = False := by simp; omega
    unfold nActs
    refine ⟨?_, ?_, ?_, ?_⟩ <;> simp +decide only [zT_wI, zT_wJ, zT_wR, zT_wIr, zT_wJr, zT_wRr, zI_wJ, zI_wR, zI_wJr, zI_wRr, zJ_wI, zJ_wR, zJ_wIr, zJ_wRr, zR_wI, zR_wJ, zR_wIr, zR_wJr, zN_wI, zN_wJ, zN_wR, zN_wIr, zN_wJr, zN_wRr, zZ_wI, zZ_wJ, zZ_wR, zZ_wIr, zZ_wJr, zZ_wRr, zI_wI, zJ_wJ, zR_wR, zI_wIr, zJ_wJr, zR_wRr, tN, iN, jN, rN', nN, hN, Nat.add_assoc, Nat.reduceAdd, h1, f1, if_false]
  iterate 3 (unfold nActs; simp +decide only [Nat.reduceEqDiff, Nat.add_eq_left, Nat.left_eq_add, Nat.reduceAdd, Nat.reduceLeDiff, Nat.reduceMul, Nat.reduceSub, Nat.reduceLT, zlt8, zlt8_, zlt8n, zlt8n_, List.length_cons, List.length_nil, true_or, or_true, false_or, or_false, and_self, and_true, true_and, and_false, false_and, not_false_eq_true, not_true_eq_false, ite_true, ite_false, if_true, if_false, ite_not, zin, zpush_s, zpush_n, kl_int, kl_ref, kl_none, kl_kl, kl_long, kl_null, zT_wI, zT_wJ, zT_wR, zT_wIr, zT_wJr, zT_wRr, zI_wJ, zI_wR, zI_wJr, zI_wRr, zJ_wI, zJ_wR, zJ_wIr, zJ_wRr, zR_wI, zR_wJ, zR_wIr, zR_wJr, zN_wI, zN_wJ, zN_wR, zN_wIr, zN_wJr, zN_wRr, zZ_wI, zZ_wJ, zZ_wR, zZ_wIr, zZ_wJr, zZ_wRr, zI_wI, zJ_wJ, zR_wR, zI_wIr, zJ_wJr, zR_wRr, tN, iN, jN, rN', nN, hN, hT, Nat.add_assoc, up_a])
  · unfold nActs
    simp +decide only [Nat.reduceEqDiff, Nat.add_eq_left, Nat.left_eq_add, Nat.reduceAdd, Nat.reduceLeDiff, Nat.reduceMul, Nat.reduceSub, Nat.reduceLT, zlt8, zlt8_, zlt8n, zlt8n_, List.length_cons, List.length_nil, true_or, or_true, false_or, or_false, and_self, and_true, true_and, and_false, false_and, not_false_eq_true, not_true_eq_false, ite_true, ite_false, if_true, if_false, ite_not, zin, zpush_s, zpush_n, kl_int, kl_ref, kl_none, kl_kl, kl_long, kl_null, zT_wI, zT_wJ, zT_wR, zT_wIr, zT_wJr, zT_wRr, zI_wJ, zI_wR, zI_wJr, zI_wRr, zJ_wI, zJ_wR, zJ_wIr, zJ_wRr, zR_wI, zR_wJ, zR_wIr, zR_wJr, zN_wI, zN_wJ, zN_wR, zN_wIr, zN_wJr, zN_wRr, zZ_wI, zZ_wJ, zZ_wR, zZ_wIr, zZ_wJr, zZ_wRr, zI_wI, zJ_wJ, zR_wR, zI_wIr, zJ_wJr, zR_wRr, tN, iN, jN, rN', nN, hN, hI, Nat.add_assoc]
  · unfold nActs
    simp +decide only [Nat.reduceEqDiff, Nat.add_eq_left, Nat.left_eq_add, Nat.reduceAdd, Nat.reduceLeDiff, Nat.reduceMul, Nat.reduceSub, Nat.reduceLT, zlt8, zlt8_, zlt8n, zlt8n_, List.length_cons, List.length_nil, true_or, or_true, false_or, or_false, and_self, and_true, true_and, and_false, false_and, not_false_eq_true, not_true_eq_false, ite_true, ite_false, if_true, if_false, ite_not, zin, zpush_s, zpush_n, kl_int, kl_ref, kl_none, kl_kl, kl_long, kl_null, VR_i, VR_l, zT_wI, zT_wJ, zT_wR, zT_wIr, zT_wJr, zT_wRr, zI_wJ, zI_wR, zI_wJr, zI_wRr, zJ_wI, zJ_wR, zJ_wIr, zJ_wRr, zR_wI, zR_wJ, zR_wIr, zR_wJr, zN_wI, zN_wJ, zN_wR, zN_wIr, zN_wJr, zN_wRr, zZ_wI, zZ_wJ, zZ_wR, zZ_wIr, zZ_wJr, zZ_wRr, zI_wI, zJ_wJ, zR_wR, zI_wIr, zJ_wJr, zR_wRr, k1, g1_0, g1_1, g1_4, g1_5, g1_7, g1_9, g1_9_n, g1_12, tN, iN, jN, rN', nN, hT, hN, Nat.add_assoc, show Int32.toNatClampNeg 20 = 20 by decide, show ¬ (20 : Int32) < 0 by decide]
def nTape (h : zH) (a : Nat) : zH := wR (wN (wI h a 0 (-1)) (24, 60)) a 2 (.ref (a + 1))
theorem c_tape (hT : zT h a = (6, 3)) (hN : zN h = a + 1) (hI : zI h a = fun _ => 0) : EX h (nTape h a) a 1 60 ∧ (zT (nTape h a) a = (6, 3) ∧ zR (nTape h a) a 2 = .ref (a + 1) ∧ zT (nTape h a) (a + 1) = (24, 60) ∧ zI (nTape h a) a 0 = -1 ∧ zI (nTape h a) a 1 = 0) ∧ ∀ Q, zCall (d + 1) 601 [.ref a] h Q = Q none (nTape h a) := by
  refine ⟨⟨?_, ?_, fun b h1 h2 => ?_⟩, ⟨?_, ?_, ?_, ?_, ?_⟩, fun Q => ?_⟩
  · unfold nTape
    simp +decide only [zN_wI, zN_wR, nN, nM, hN, Nat.add_assoc, Nat.reduceAdd]
  · unfold nTape
    simp +decide only [zZ_wI, zZ_wR, zN', Nat.add_assoc, Nat.reduceAdd]
  · rw [hN] at h2
    have f1 : (b = a + 1) = False := by simp; omega
    unfold nTape
    refine ⟨?_, ?_, ?_, ?_⟩ <;> simp +decide only [zT_wI, zT_wJ, zT_wR, zT_wIr, zT_wJr, zT_wRr, zI_wJ, zI_wR, zI_wJr, zI_wRr, zJ_wI, zJ_wR, zJ_wIr, zJ_wRr, zR_wI, zR_wJ, zR_wIr, zR_wJr, zN_wI, zN_wJ, zN_wR, zN_wIr, zN_wJr, zN_wRr, zZ_wI, zZ_wJ, zZ_wR, zZ_wIr, zZ_wJr, zZ_wRr, zI_wI, zJ_wJ, zR_wR, zI_wIr, zJ_wJr, zR_wRr, tN, iN, jN, rN', nN, hN, Nat.add_assoc, Nat.reduceAdd, h1, f1, if_false]
  iterate 3 (unfold nTape; simp +decide only [Nat.reduceEqDiff, Nat.add_eq_left, Nat.left_eq_add, Nat.reduceAdd, Nat.reduceLeDiff, Nat.reduceMul, Nat.reduceSub, Nat.reduceLT, zlt8, zlt8_, zlt8n, zlt8n_, List.length_cons, List.length_nil, true_or, or_true, false_or, or_false, and_self, and_true, true_and, and_false, false_and, not_false_eq_true, not_true_eq_false, ite_true, ite_false, if_true, if_false, ite_not, zin, zpush_s, zpush_n, kl_int, kl_ref, kl_none, kl_kl, kl_long, kl_null, zT_wI, zT_wJ, zT_wR, zT_wIr, zT_wJr, zT_wRr, zI_wJ, zI_wR, zI_wJr, zI_wRr, zJ_wI, zJ_wR, zJ_wIr, zJ_wRr, zR_wI, zR_wJ, zR_wIr, zR_wJr, zN_wI, zN_wJ, zN_wR, zN_wIr, zN_wJr, zN_wRr, zZ_wI, zZ_wJ, zZ_wR, zZ_wIr, zZ_wJr, zZ_wRr, zI_wI, zJ_wJ, zR_wR, zI_wIr, zJ_wJr, zR_wRr, tN, iN, jN, rN', nN, hN, hT, hI, Nat.add_assoc, up_a])
  iterate 2 (
    have e : zI (nTape h a) a = va_up (fun _ => 0) 0 (-1) := by
      unfold nTape
      simp +decide only [Nat.reduceEqDiff, Nat.add_eq_left, Nat.left_eq_add, Nat.reduceAdd, Nat.reduceLeDiff, Nat.reduceMul, Nat.reduceSub, Nat.reduceLT, zlt8, zlt8_, zlt8n, zlt8n_, List.length_cons, List.length_nil, true_or, or_true, false_or, or_false, and_self, and_true, true_and, and_false, false_and, not_false_eq_true, not_true_eq_false, ite_true, ite_false, if_true, if_false, ite_not, zin, zpush_s, zpush_n, kl_int, kl_ref, kl_none, kl_kl, kl_long, kl_null, zT_wI, zT_wJ, zT_wR, zT_wIr, zT_wJr, zT_wRr, zI_wJ, zI_wR, zI_wJr, zI_wRr, zJ_wI, zJ_wR, zJ_wIr, zJ_wRr, zR_wI, zR_wJ, zR_wIr, zR_wJr, zN_wI, zN_wJ, zN_wR, zN_wIr, zN_wJr, zN_wRr, zZ_wI, zZ_wJ, zZ_wR, zZ_wIr, zZ_wJr, zZ_wRr, zI_wI, zJ_wJ, zR_wR, zI_wIr, zJ_wJr, zR_wRr, tN, iN, jN, rN', nN, hN, hI, Nat.add_assoc]
    rw [e]; rfl)
  · unfold nTape
    simp +decide only [Nat.reduceEqDiff, Nat.add_eq_left, Nat.left_eq_add, Nat.reduceAdd, Nat.reduceLeDiff, Nat.reduceMul, Nat.reduceSub, Nat.reduceLT, zlt8, zlt8_, zlt8n, zlt8n_, List.length_cons, List.length_nil, true_or, or_true, false_or, or_false, and_self, and_true, true_and, and_false, false_and, not_false_eq_true, not_true_eq_false, ite_true, ite_false, if_true, if_false, ite_not, zin, zpush_s, zpush_n, kl_int, kl_ref, kl_none, kl_kl, kl_long, kl_null, VR_i, VR_l, zT_wI, zT_wJ, zT_wR, zT_wIr, zT_wJr, zT_wRr, zI_wJ, zI_wR, zI_wJr, zI_wRr, zJ_wI, zJ_wR, zJ_wIr, zJ_wRr, zR_wI, zR_wJ, zR_wIr, zR_wJr, zN_wI, zN_wJ, zN_wR, zN_wIr, zN_wJr, zN_wRr, zZ_wI, zZ_wJ, zZ_wR, zZ_wIr, zZ_wJr, zZ_wRr, zI_wI, zJ_wJ, zR_wR, zI_wIr, zJ_wJr, zR_wRr, k601, g601_0, g601_1, g601_4, g601_5, g601_6, g601_9, g601_10, g601_12, g601_14, g601_14_n, g601_17, tN, iN, jN, rN', nN, hT, hN, Nat.add_assoc, show Int32.toNatClampNeg 60 = 60 by decide, show ¬ (60 : Int32) < 0 by decide]
/-- an object made, set in a field of cell 0 -/
def Ob (h h1 h2 : zH) (N M z k : Nat) : Prop := zN h2 = N + 1 + M ∧ zZ h2 = zZ h + z ∧ (∀ b, ¬ b = 0 → b < N ∨ N + 1 + M ≤ b → SA h h2 b) ∧ zT h2 0 = zT h 0 ∧ zI h2 0 = zI h 0 ∧ zR h2 0 = va_up (zR h 0) k (.ref N) ∧ zT h1 0 = zT h 0 ∧ ∀ b, ¬ b = 0 → SA h1 h2 b
theorem st_obj (hN : zN h = N) (h0 : 0 < N) (e : EX (wN h ty) h1 N M z) (k : Nat) : Ob h h1 (wR h1 0 k (.ref N)) N M (ty.2 + z) k := by
  have n1 : zN (wN h ty) = N + 1 := by rw [← hN]; rfl
  have sa : ∀ b, b < N ∨ N + 1 + M ≤ b → SA h h1 b := fun b x => SA_t (SA_N _ (by omega)) (SA_E e (by omega) (by omega))
  have s0 := sa 0 (by omega)
  refine ⟨?_, ?_, fun b x1 x2 => SA_t (sa b x2) (SA_R _ _ x1), s0.1, s0.2.1, ?_, s0.1, fun b x => SA_R _ _ x⟩
  · show zN h1 = _
    rw [e.1, n1]
  · show zZ h1 = _
    rw [e.2.1, zN', Nat.add_assoc]
  · show zR (wR h1 0 k _) 0 = _
    rw [zR_wR, if_pos rfl, s0.2.2.2]
/-! the tapes -/
def Tf (h : zH) (j : Nat) : Prop := zR h 75 j = .ref (76 + 2 * j) ∧ zT h (76 + 2 * j) = (6, 3) ∧ zR h (76 + 2 * j) 2 = .ref (77 + 2 * j) ∧ zT h (77 + 2 * j) = (24, 60) ∧ zI h (76 + 2 * j) 0 = -1 ∧ zI h (76 + 2 * j) 1 = 0
theorem tp_new : ∀ (m i : Nat) (h : zH), i + m = 6 → zT h 0 = (7, 10) → zR h 0 9 = .ref 75 → zT h 75 = (25, 6) → zN h = 76 + 2 * i → ∃ h', zN h' = 88 ∧ zZ h' = zZ h + 63 * m ∧ (∀ b, ¬ b = 75 → b < 76 + 2 * i ∨ 88 ≤ b → SA h h' b) ∧ zT h' 75 = (25, 6) ∧ (∀ j, j < i → zR h' 75 j = zR h 75 j) ∧ (∀ j, i ≤ j → j < 6 → Tf h' j) ∧ ∀ Q, zG (d + 1) 701 92 [some (.ref 0), some (.int (nI i))] [] h Q = Q none h'
  | 0, i, h, e, t0, r9, t75, hN => by
    have e : i = 6 := by omega
    subst e
    refine ⟨h, hN, rfl, fun b _ _ => ⟨rfl, rfl, rfl, rfl⟩, t75, fun _ _ => rfl, fun j h1 h2 => by omega, fun Q => ?_⟩
    rw [g701_92]
    simp +decide only [Nat.reduceEqDiff, Nat.add_eq_left, Nat.left_eq_add, Nat.reduceAdd, Nat.reduceLeDiff, Nat.reduceMul, Nat.reduceSub, Nat.reduceLT, zlt8, zlt8_, zlt8n, zlt8n_, List.length_cons, List.length_nil, true_or, or_true, false_or, or_false, and_self, and_true, true_and, and_false, false_and, not_false_eq_true, not_true_eq_false, ite_true, ite_false, if_true, if_false, ite_not, zin, zpush_s, zpush_n, kl_int, kl_ref, kl_none, kl_kl, kl_long, kl_null, VR_i, VR_l, zT_wI, zT_wJ, zT_wR, zT_wIr, zT_wJr, zT_wRr, zI_wJ, zI_wR, zI_wJr, zI_wRr, zJ_wI, zJ_wR, zJ_wIr, zJ_wRr, zR_wI, zR_wJ, zR_wIr, zR_wJr, zN_wI, zN_wJ, zN_wR, zN_wIr, zN_wJr, zN_wRr, zZ_wI, zZ_wJ, zZ_wR, zZ_wIr, zZ_wJr, zZ_wRr, zI_wI, zJ_wJ, zR_wR, zI_wIr, zJ_wJr, zR_wRr, g701_0, g701_1, g701_4, g701_5, g701_8, g701_9, g701_12, g701_12_n, g701_15, g701_16, g701_19, g701_20, g701_23, g701_23_n, g701_26, g701_27, g701_30, g701_31, g701_34, g701_34_n, g701_37, g701_38, g701_41, g701_42, g701_45, g701_45_n, g701_48, g701_49, g701_52, g701_53, g701_56, g701_56_n, g701_59, g701_60, g701_63, g701_64, g701_67, g701_67_n, g701_70, g701_71, g701_74, g701_75, g701_78, g701_78_n, g701_81, g701_82, g701_84, g701_87, g701_87_n, g701_90, g701_91, g701_93, g701_95, g701_98, g701_99, g701_102, g701_103, g701_106, g701_107, g701_110, g701_111, g701_114, g701_117, i_le, show ¬ nI 6 < 6 by decide]
  | m + 1, i, h, he, t0, r9, t75, hN => by
    have hi : i < 6 := by omega
    obtain ⟨e, ⟨f1, f2, f3, f4, f5⟩, q1⟩ := c_tape (d := d) (h := wN h (6, 3)) (a := 76 + 2 * i) (by rw [tN, if_pos hN.symm]) (by rw [nN, hN]) (by rw [iN, if_pos hN.symm])
    have n1 : zN (wN h (6, 3)) = 77 + 2 * i := by rw [nN, hN]; omega
    have sa : ∀ b, b < 76 + 2 * i ∨ 78 + 2 * i ≤ b → SA h (nTape (wN h (6, 3)) (76 + 2 * i)) b := fun b x => SA_t (SA_N _ (by omega)) (SA_E e (by omega) (by omega))
    have s0 := sa 0 (by omega)
    have s75 := sa 75 (by omega)
    obtain ⟨h', a1, a2, a3, a4, a5, a6, a7⟩ := tp_new m (i + 1) (wR (nTape (wN h (6, 3)) (76 + 2 * i)) 75 i (.ref (76 + 2 * i))) (by omega) (by rw [zT_wR, s0.1]; exact t0) (by rw [zR_wR, if_neg (by omega), s0.2.2.2]; exact r9) (by rw [zT_wR, s75.1]; exact t75) (by rw [zN_wR, e.1, n1]; omega)
    refine ⟨h', a1, ?_, fun b x1 x2 => SA_t (sa b (by omega)) (SA_t (SA_R _ _ x1) (a3 b x1 (by omega))), a4, fun j hj => ?_, fun j x1 x2 => ?_, fun Q => ?_⟩
    · rw [a2, zZ_wR, e.2.1, zN']; show zZ h + 3 + 60 + 63 * m = _; omega
    · rw [a5 j (by omega), zR_wR, if_pos rfl, up_n _ _ (by omega), s75.2.2.2]
    · by_cases ej : j = i
      · subst ej
        have b1 := SA_t (SA_R j (.ref (76 + 2 * j)) (show ¬ 76 + 2 * j = 75 by omega)) (a3 (76 + 2 * j) (by omega) (by omega))
        have b2 := SA_t (SA_R j (.ref (76 + 2 * j)) (show ¬ 77 + 2 * j = 75 by omega)) (a3 (77 + 2 * j) (by omega) (by omega))
        refine ⟨?_, by rw [b1.1]; exact f1, ?_, ?_, by rw [b1.2.1]; exact f4, by rw [b1.2.1]; exact f5⟩
        · rw [a5 j (by omega), zR_wR, if_pos rfl, up_s]
        · rw [b1.2.2.2, f2, show 77 + 2 * j = 76 + 2 * j + 1 by omega]
        · rw [b2.1, show 77 + 2 * j = 76 + 2 * j + 1 by omega]; exact f3
      · exact a6 j (by omega) x2
    · have z1 := nI_pos (n := i) (by omega)
      have z2 := nI_clamp (n := i) (by omega)
      have z3 : nI i < 6 := nI_lt (a := i) (b := 6) (by omega) (by omega)
      have ki : nI i + 1 = nI (i + 1) := nI_1 i
      have t1 : zT (wN h (6, 3)) (76 + 2 * i) = (6, 3) := by rw [tN, if_pos hN.symm]
      have t2 : zT (nTape (wN h (6, 3)) (76 + 2 * i)) 75 = (25, 6) := by rw [s75.1]; exact t75
      rw [g701_92, ← a7 Q]
      simp +decide only [Nat.reduceEqDiff, Nat.add_eq_left, Nat.left_eq_add, Nat.reduceAdd, Nat.reduceLeDiff, Nat.reduceMul, Nat.reduceSub, Nat.reduceLT, zlt8, zlt8_, zlt8n, zlt8n_, List.length_cons, List.length_nil, true_or, or_true, false_or, or_false, and_self, and_true, true_and, and_false, false_and, not_false_eq_true, not_true_eq_false, ite_true, ite_false, if_true, if_false, ite_not, zin, zpush_s, zpush_n, kl_int, kl_ref, kl_none, kl_kl, kl_long, kl_null, VR_i, VR_l, zT_wI, zT_wJ, zT_wR, zT_wIr, zT_wJr, zT_wRr, zI_wJ, zI_wR, zI_wJr, zI_wRr, zJ_wI, zJ_wR, zJ_wIr, zJ_wRr, zR_wI, zR_wJ, zR_wIr, zR_wJr, zN_wI, zN_wJ, zN_wR, zN_wIr, zN_wJr, zN_wRr, zZ_wI, zZ_wJ, zZ_wR, zZ_wIr, zZ_wJr, zZ_wRr, zI_wI, zJ_wJ, zR_wR, zI_wIr, zJ_wJr, zR_wRr, g701_0, g701_1, g701_4, g701_5, g701_8, g701_9, g701_12, g701_12_n, g701_15, g701_16, g701_19, g701_20, g701_23, g701_23_n, g701_26, g701_27, g701_30, g701_31, g701_34, g701_34_n, g701_37, g701_38, g701_41, g701_42, g701_45, g701_45_n, g701_48, g701_49, g701_52, g701_53, g701_56, g701_56_n, g701_59, g701_60, g701_63, g701_64, g701_67, g701_67_n, g701_70, g701_71, g701_74, g701_75, g701_78, g701_78_n, g701_81, g701_82, g701_84, g701_87, g701_87_n, g701_90, g701_91, g701_93, g701_95, g701_98, g701_99, g701_102, g701_103, g701_106, g701_107, g701_110, g701_111, g701_114, g701_117, i_le, z1, z2, z3, ki, hi, t0, r9, hN, t1, q1, f1, t2]
