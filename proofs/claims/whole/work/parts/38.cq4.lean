-- needs 37.notes
variable {d a b n t D D2 K c1 c2 c3 : Nat} {h : zH} {w w0 w2 v : zW0} {fo fp x y z py p : Int32} {sv : Value} {ex : zW0 → Int32}
/-- from m - 1 down to 0: how many fit, the least that fits -/
def sDn (f : Nat → Bool) : Nat → Int32 × Int32 → Int32 × Int32
  | 0, s => s
  | m + 1, s => sDn f m (if f m then (s.1 + 1, nI m) else s)
theorem sOK_c (hw : sOK w n D) (j : Nat) (hj : j < 4 ∨ (5 ≤ j ∧ j < 10)) (ht : t < 6) : sOK (va_up w (10 * t + j) x) n D := by
  obtain ⟨h1, h2, h3, h4⟩ := hw
  refine ⟨?_, h2, ?_, fun s hs => ?_⟩
  · rw [up_n _ _ (by omega)]; exact h1
  · rw [up_n _ _ (by omega)]; exact h3
  · rw [up_n _ _ (by omega)]; exact h4 s hs
theorem sOK_b (hw : sOK w n D) (ht : t < 6) (hx : x = 0 ∨ x = 1) : sOK (va_up w (10 * t + 4) x) n D := by
  obtain ⟨h1, h2, h3, h4⟩ := hw
  refine ⟨?_, h2, ?_, fun s hs => ?_⟩
  · rw [up_n _ _ (by omega)]; exact h1
  · rw [up_n _ _ (by omega)]; exact h3
  · by_cases e : s = t
    · subst e; rw [up_s]; exact hx
    · rw [up_n _ _ (by omega)]; exact h4 s hs
/-- whether all seen comes true where one's number is other -/
def sF (p : Int32) (ex : zW0 → Int32) (n : Nat) (w : zW0) (c t j : Nat) (m : Nat) : Bool := sSee p ex n w c 13 0 (va_up w (10 * t + j) (nI m))
theorem c_can_lp (which : Int32) (j : Nat) (hw : (which = 0 ∧ j = 2) ∨ (which = 1 ∧ j = 1)) (ht : t < n) : ∀ (m : Nat) (h : zH) (s : Int32 × Int32), m ≤ 100 → CQ h n D w py ex sv → NQ h w n c1 c2 c3 → ∃ h1, FS (RA 15) h h1 ∧ ∀ Q, zG (d + 7) 721 50 [some (.ref 0), some (.int (nI t)), some (.int which), some (.int x), some (.int y), some (.int s.1), some (.int s.2), some (.int (nI m - 1))] [] h Q = zG (d + 7) 721 115 [some (.ref 0), some (.int (nI t)), some (.int which), some (.int x), some (.int y), some (.int (sDn (sF py ex n w c1 t j) m s).1), some (.int (sDn (sF py ex n w c1 t j) m s).2), some (.int (nI 0 - 1))] [] h1 Q
  | 0, h, s, e, c, N => by
    refine ⟨h, FS_r _ _, fun Q => ?_⟩
    rw [g721_50]
    simp +decide only [Nat.reduceEqDiff, Nat.add_eq_left, Nat.left_eq_add, Nat.reduceAdd, Nat.reduceLeDiff, Nat.reduceMul, Nat.reduceSub, Nat.reduceLT, zlt8, zlt8_, zlt8n, zlt8n_, List.length_cons, List.length_nil, true_or, or_true, false_or, or_false, and_self, and_true, true_and, and_false, false_and, not_false_eq_true, not_true_eq_false, ite_true, ite_false, if_true, if_false, ite_not, zin, zpush_s, zpush_n, kl_int, kl_ref, kl_none, kl_kl, kl_long, kl_null, zT_wI, zT_wJ, zT_wR, zT_wIr, zT_wJr, zT_wRr, zI_wJ, zI_wR, zI_wJr, zI_wRr, zJ_wI, zJ_wR, zJ_wIr, zJ_wRr, zR_wI, zR_wJ, zR_wIr, zR_wJr, zN_wI, zN_wJ, zN_wR, zN_wIr, zN_wJr, zN_wRr, zZ_wI, zZ_wJ, zZ_wR, zZ_wIr, zZ_wJr, zZ_wRr, zI_wI, zJ_wJ, zR_wR, zI_wIr, zJ_wJr, zR_wRr, g721_52, show (nI 0 - 1) < 0 by decide]
    rfl
  | m + 1, h, s, e, c, N => by
    obtain ⟨h1, f1, v1, g1⟩ := c_copyT (d := d + 6) c
    have hn := c.2.2.2.2.1.2.1
    have C1 := CQ_f f1 c
    have f2 : FS (RA 15) h1 (wI h1 (15 + (j + 1)) t (nI m)) := FS_I _ (by unfold RA; omega)
    have v2 : Rv (wI h1 (15 + (j + 1)) t (nI m)) 15 n (va_up w (10 * t + j) (nI m)) (-1) sv := Rv_c v1 hn (by omega) (j + 1) j (by omega)
    obtain ⟨h3, f3, g3⟩ := c_true (d := d + 1) (CQ_f f2 C1) (NQ_f f2 (NQ_f f1 N)) v2 (sOK_c c.2.2.2.2.1 j (by omega) (by omega)) (by have := c.2.2.2.2.2.1; omega)
    have F3 := FS_t (FS_t f1 f2) f3
    obtain ⟨h4, f4, g4⟩ := c_can_lp which j hw ht m h3 (if sF py ex n w c1 t j m then (s.1 + 1, nI m) else s) (by omega) (CQ_f F3 c) (NQ_f F3 N)
    refine ⟨h4, FS_t F3 f4, fun Q => ?_⟩
    have g4' := g4 Q
    have e1 : sDn (sF py ex n w c1 t j) (m + 1) s = sDn (sF py ex n w c1 t j) m (if sF py ex n w c1 t j m then (s.1 + 1, nI m) else s) := rfl
    rw [e1, ← g4']
    obtain ⟨k0, j0, j1, j2, j3, j4, j6, j8, j9⟩ := id c.1
    obtain ⟨q0, q1, q2, q3, q4, q5, q6, q7, r0, r1, r2, r3, r4, r5, r6, r7⟩ := id C1.2.2.1
    have i1 : zR h1 0 1 = .ref 15 := C1.1.2.2.1
    have k1 : zT h1 0 = (7, 10) := C1.1.1
    have l0 : zT h3 0 = (7, 10) := (CQ_f F3 c).1.1
    have p0 := c.2.1.1
    have p1 := c.2.2.1.1
    have z0 := nI_pred m
    have z1 := nI_pos (n := m) (by omega)
    have z2 := nI_pos (n := t) (by omega)
    have z3 := nI_clamp (n := t) (by omega)
    have z4 : nI m + -1 = nI m - 1 := (Int32.sub_eq_add_neg ..).symm
    have eF : sSee py ex n w c1 13 0 (va_up w (10 * t + j) (nI m)) = sF py ex n w c1 t j m := rfl
    rw [eF] at g3
    rw [g721_50]
    rcases hw with ⟨rfl, rfl⟩ | ⟨rfl, rfl⟩ <;> cases q : sF py ex n w c1 t _ m <;> rw [q] at g3 <;> simp +decide only [Nat.reduceEqDiff, Nat.add_eq_left, Nat.left_eq_add, Nat.reduceAdd, Nat.reduceLeDiff, Nat.reduceMul, Nat.reduceSub, Nat.reduceLT, zlt8, zlt8_, zlt8n, zlt8n_, List.length_cons, List.length_nil, true_or, or_true, false_or, or_false, and_self, and_true, true_and, and_false, false_and, not_false_eq_true, not_true_eq_false, ite_true, ite_false, if_true, if_false, ite_not, zin, zpush_s, zpush_n, kl_int, kl_ref, kl_none, kl_kl, kl_long, kl_null, zT_wI, zT_wJ, zT_wR, zT_wIr, zT_wJr, zT_wRr, zI_wJ, zI_wR, zI_wJr, zI_wRr, zJ_wI, zJ_wR, zJ_wIr, zJ_wRr, zR_wI, zR_wJ, zR_wIr, zR_wJr, zN_wI, zN_wJ, zN_wR, zN_wIr, zN_wJr, zN_wRr, zZ_wI, zZ_wJ, zZ_wR, zZ_wIr, zZ_wJr, zZ_wRr, zI_wI, zJ_wJ, zR_wR, zI_wIr, zJ_wJr, zR_wRr, g721_0, g721_1, g721_2, g721_5, g721_8, g721_9, g721_10, g721_13, g721_16, g721_17, g721_18, g721_21, g721_24, g721_25, g721_26, g721_27, g721_30, g721_32, g721_35, g721_37, g721_39, g721_40, g721_42, g721_44, g721_46, g721_48, g721_52, g721_55, g721_56, g721_59, g721_60, g721_63, g721_66, g721_67, g721_70, g721_71, g721_74, g721_77, g721_78, g721_80, g721_81, g721_84, g721_85, g721_88, g721_91, g721_92, g721_94, g721_95, g721_96, g721_99, g721_102, g721_105, g721_107, g721_109, g721_112, g721_115, g721_116, g721_119, g721_121, g721_124, g721_126, k0, j0, j1, j2, j3, j4, j6, j8, j9, q0, q1, q2, q3, q4, q5, q6, q7, r0, r1, r2, r3, r4, r5, r6, z0, z1, z2, z3, z4, show t < 6 by omega, g1, g3, i1, k1, l0, p0, p1, bB_t, bB_f, Bool.false_eq_true]
/-- the answer of can -/
def sPick (what : Int32) (s : Int32 × Int32) : Int32 := if what = 0 then s.1 else s.2
def aCan (p : Int32) (ex : zW0 → Int32) (n : Nat) (w : zW0) (c t : Nat) (which what : Int32) : Int32 :=
  sPick what (if which = 0 then sDn (sF p ex n w c t 2) 100 (0, -5) else sDn (sF p ex n w c t 1) 10 (0, -5))
theorem c_can (c : CQ h n D w py ex sv) (N : NQ h w n c1 c2 c3) (ht : t < n) (hx : x = 0 ∨ x = 1) (hy : y = 0 ∨ y = 1) : ∃ h1, FS (RA 15) h h1 ∧ ∀ Q, zCall (d + 8) 721 [.ref 0, .int (nI t), .int x, .int y] h Q = Q (some (.int (aCan py ex n w c1 t x y))) h1 := by
  have hn := c.2.2.2.2.1.2.1
  have ct : ∀ x Q, zCall (d + 7) 743 [.ref 0, .int x] h Q = Q (some (.int (bI (sIs n x)))) h := fun x Q => c_there c Q
  have y4 : sIs n (nI t) := ⟨t, ht, rfl⟩
  obtain ⟨k0, j0, j1, j2, j3, j4, j6, j8, j9⟩ := id c.1
  rcases hx with rfl | rfl
  · obtain ⟨h1, f1, g1⟩ := c_can_lp (d := d) (x := y) (y := 99) 0 2 (Or.inl ⟨rfl, rfl⟩) ht 100 h (0, -5) (by omega) c N
    have e9 : nI 100 - 1 = 99 := by decide
    rw [e9] at g1
    have ea : aCan py ex n w c1 t 0 y = sPick y (sDn (sF py ex n w c1 t 2) 100 (0, -5)) := by unfold aCan; rw [if_pos rfl]
    rw [ea]
    refine ⟨h1, f1, ?_⟩
    revert g1
    generalize sDn (sF py ex n w c1 t 2) 100 (0, -5) = r
    intro g1 Q
    have g1' := g1 Q
    unfold sPick
    rcases hy with rfl | rfl <;> simp +decide only [Nat.reduceEqDiff, Nat.add_eq_left, Nat.left_eq_add, Nat.reduceAdd, Nat.reduceLeDiff, Nat.reduceMul, Nat.reduceSub, Nat.reduceLT, zlt8, zlt8_, zlt8n, zlt8n_, List.length_cons, List.length_nil, true_or, or_true, false_or, or_false, and_self, and_true, true_and, and_false, false_and, not_false_eq_true, not_true_eq_false, ite_true, ite_false, if_true, if_false, ite_not, zin, zpush_s, zpush_n, kl_int, kl_ref, kl_none, kl_kl, kl_long, kl_null, zT_wI, zT_wJ, zT_wR, zT_wIr, zT_wJr, zT_wRr, zI_wJ, zI_wR, zI_wJr, zI_wRr, zJ_wI, zJ_wR, zJ_wIr, zJ_wRr, zR_wI, zR_wJ, zR_wIr, zR_wJr, zN_wI, zN_wJ, zN_wR, zN_wIr, zN_wJr, zN_wRr, zZ_wI, zZ_wJ, zZ_wR, zZ_wIr, zZ_wJr, zZ_wRr, zI_wI, zJ_wJ, zR_wR, zI_wIr, zJ_wJr, zR_wRr, k721, g721_0, g721_1, g721_2, g721_5, g721_8, g721_9, g721_10, g721_13, g721_16, g721_17, g721_18, g721_21, g721_24, g721_25, g721_26, g721_27, g721_30, g721_32, g721_35, g721_37, g721_39, g721_40, g721_42, g721_44, g721_46, g721_48, g721_52, g721_55, g721_56, g721_59, g721_60, g721_63, g721_66, g721_67, g721_70, g721_71, g721_74, g721_77, g721_78, g721_80, g721_81, g721_84, g721_85, g721_88, g721_91, g721_92, g721_94, g721_95, g721_96, g721_99, g721_102, g721_105, g721_107, g721_109, g721_112, g721_115, g721_116, g721_119, g721_121, g721_124, g721_126, k0, j0, j1, j2, j3, j4, j6, j8, j9, ct, y4, bI_t, c_within, i_le, g1]
  · obtain ⟨h1, f1, g1⟩ := c_can_lp (d := d) (x := y) (y := 9) 1 1 (Or.inr ⟨rfl, rfl⟩) ht 10 h (0, -5) (by omega) c N
    have e9 : nI 10 - 1 = 9 := by decide
    rw [e9] at g1
    have ea : aCan py ex n w c1 t 1 y = sPick y (sDn (sF py ex n w c1 t 1) 10 (0, -5)) := by unfold aCan; rw [if_neg (by decide)]
    rw [ea]
    refine ⟨h1, f1, ?_⟩
    revert g1
    generalize sDn (sF py ex n w c1 t 1) 10 (0, -5) = r
    intro g1 Q
    unfold sPick
    rcases hy with rfl | rfl <;> simp +decide only [Nat.reduceEqDiff, Nat.add_eq_left, Nat.left_eq_add, Nat.reduceAdd, Nat.reduceLeDiff, Nat.reduceMul, Nat.reduceSub, Nat.reduceLT, zlt8, zlt8_, zlt8n, zlt8n_, List.length_cons, List.length_nil, true_or, or_true, false_or, or_false, and_self, and_true, true_and, and_false, false_and, not_false_eq_true, not_true_eq_false, ite_true, ite_false, if_true, if_false, ite_not, zin, zpush_s, zpush_n, kl_int, kl_ref, kl_none, kl_kl, kl_long, kl_null, zT_wI, zT_wJ, zT_wR, zT_wIr, zT_wJr, zT_wRr, zI_wJ, zI_wR, zI_wJr, zI_wRr, zJ_wI, zJ_wR, zJ_wIr, zJ_wRr, zR_wI, zR_wJ, zR_wIr, zR_wJr, zN_wI, zN_wJ, zN_wR, zN_wIr, zN_wJr, zN_wRr, zZ_wI, zZ_wJ, zZ_wR, zZ_wIr, zZ_wJr, zZ_wRr, zI_wI, zJ_wJ, zR_wR, zI_wIr, zJ_wJr, zR_wRr, k721, g721_0, g721_1, g721_2, g721_5, g721_8, g721_9, g721_10, g721_13, g721_16, g721_17, g721_18, g721_21, g721_24, g721_25, g721_26, g721_27, g721_30, g721_32, g721_35, g721_37, g721_39, g721_40, g721_42, g721_44, g721_46, g721_48, g721_52, g721_55, g721_56, g721_59, g721_60, g721_63, g721_66, g721_67, g721_70, g721_71, g721_74, g721_77, g721_78, g721_80, g721_81, g721_84, g721_85, g721_88, g721_91, g721_92, g721_94, g721_95, g721_96, g721_99, g721_102, g721_105, g721_107, g721_109, g721_112, g721_115, g721_116, g721_119, g721_121, g721_124, g721_126, k0, j0, j1, j2, j3, j4, j6, j8, j9, ct, y4, bI_t, c_within, i_le, g1]
/-- places: bits of those where all seen comes true -/
def sP1 (p : Int32) (ex : zW0 → Int32) (n : Nat) (w : zW0) (c t : Nat) (k : Nat) : Bool := sSee p ex n w c 13 0 (va_up (va_up w (10 * t + 3) (nI k)) (10 * t + 4) 0)
def sPl (p : Int32) (ex : zW0 → Int32) (n : Nat) (w : zW0) (c t : Nat) : Int32 := lp (fun k s => if sP1 p ex n w c t k then s ||| iShl 1 (nI k) else s) 11 0 0
theorem c_places_lp (ht : t < n) : ∀ (m k : Nat) (h : zH) (s : Int32), k + m = 11 → CQ h n D w py ex sv → NQ h w n c1 c2 c3 → ∃ h1, FS (RA 15) h h1 ∧ ∀ Q, zG (d + 7) 722 14 [some (.ref 0), some (.int (nI t)), some (.int s), some (.int (nI k))] [] h Q = Q (some (.int (lp (fun k s => if sP1 py ex n w c1 t k then s ||| iShl 1 (nI k) else s) m k s))) h1
  | 0, k, h, s, e, c, N => by
    have e : k = 11 := by omega
    subst e
    refine ⟨h, FS_r _ _, fun Q => ?_⟩
    rw [g722_14]
    simp +decide only [Nat.reduceEqDiff, Nat.add_eq_left, Nat.left_eq_add, Nat.reduceAdd, Nat.reduceLeDiff, Nat.reduceMul, Nat.reduceSub, Nat.reduceLT, zlt8, zlt8_, zlt8n, zlt8n_, List.length_cons, List.length_nil, true_or, or_true, false_or, or_false, and_self, and_true, true_and, and_false, false_and, not_false_eq_true, not_true_eq_false, ite_true, ite_false, if_true, if_false, ite_not, zin, zpush_s, zpush_n, kl_int, kl_ref, kl_none, kl_kl, kl_long, kl_null, zT_wI, zT_wJ, zT_wR, zT_wIr, zT_wJr, zT_wRr, zI_wJ, zI_wR, zI_wJr, zI_wRr, zJ_wI, zJ_wR, zJ_wIr, zJ_wRr, zR_wI, zR_wJ, zR_wIr, zR_wJr, zN_wI, zN_wJ, zN_wR, zN_wIr, zN_wJr, zN_wRr, zZ_wI, zZ_wJ, zZ_wR, zZ_wIr, zZ_wJr, zZ_wRr, zI_wI, zJ_wJ, zR_wR, zI_wIr, zJ_wJr, zR_wRr, g722_0, g722_1, g722_2, g722_5, g722_8, g722_9, g722_10, g722_11, g722_12, g722_13, g722_15, g722_17, g722_20, g722_21, g722_24, g722_25, g722_28, g722_31, g722_32, g722_35, g722_36, g722_37, g722_40, g722_41, g722_44, g722_47, g722_48, g722_49, g722_50, g722_51, g722_52, g722_53, g722_56, g722_59, g722_60, show (10 : Int32) < nI 11 by decide, lp_0]
  | m + 1, k, h, s, e, c, N => by
    obtain ⟨h1, f1, v1, g1⟩ := c_copyT (d := d + 6) c
    have hn := c.2.2.2.2.1.2.1
    have C1 := CQ_f f1 c
    have f2 : FS (RA 15) h1 (wI (wI h1 (15 + 4) t (nI k)) (15 + 6) t 0) := FS_t (FS_I _ (by unfold RA; omega)) (FS_I _ (by unfold RA; omega))
    have v2 : Rv (wI (wI h1 (15 + 4) t (nI k)) (15 + 6) t 0) 15 n (va_up (va_up w (10 * t + 3) (nI k)) (10 * t + 4) 0) (-1) sv := Rv_c (Rv_c v1 hn (by omega) 4 3 (by omega)) hn (by omega) 6 4 (by omega)
    obtain ⟨h3, f3, g3⟩ := c_true (d := d + 1) (CQ_f f2 C1) (NQ_f f2 (NQ_f f1 N)) v2 (sOK_b (sOK_c c.2.2.2.2.1 3 (by omega) (by omega)) (by omega) (Or.inl rfl)) (by have := c.2.2.2.2.2.1; omega)
    have F3 := FS_t (FS_t f1 f2) f3
    obtain ⟨h4, f4, g4⟩ := c_places_lp ht m (k + 1) h3 (if sP1 py ex n w c1 t k then s ||| iShl 1 (nI k) else s) (by omega) (CQ_f F3 c) (NQ_f F3 N)
    refine ⟨h4, FS_t F3 f4, fun Q => ?_⟩
    rw [lp_s, ← g4 Q]
    have cp : ∀ Q, zCall (d + 7) 204 [.ref 15, .int (nI t), .int (nI k)] h1 Q = Q none (wI (wI h1 (15 + 4) t (nI k)) (15 + 6) t 0) := fun Q => c_put C1.2.2.1 (by omega) Q
    obtain ⟨k0, j0, j1, j2, j3, j4, j6, j8, j9⟩ := id c.1
    obtain ⟨q0, q1, q2, q3, q4, q5, q6, q7, r0, r1, r2, r3, r4, r5, r6, r7⟩ := id C1.2.2.1
    have i1 : zR h1 0 1 = .ref 15 := C1.1.2.2.1
    have k1 : zT h1 0 = (7, 10) := C1.1.1
    have p0 := c.2.1.1
    have p1 := c.2.2.1.1
    have z1 : ¬ 10 < nI k := nI_nlt (a := 10) (by omega) (by omega)
    have eF : sSee py ex n w c1 13 0 (va_up (va_up w (10 * t + 3) (nI k)) (10 * t + 4) 0) = sP1 py ex n w c1 t k := rfl
    rw [eF] at g3
    rw [g722_14]
    cases q : sP1 py ex n w c1 t k <;> rw [q] at g3 <;> simp +decide only [Nat.reduceEqDiff, Nat.add_eq_left, Nat.left_eq_add, Nat.reduceAdd, Nat.reduceLeDiff, Nat.reduceMul, Nat.reduceSub, Nat.reduceLT, zlt8, zlt8_, zlt8n, zlt8n_, List.length_cons, List.length_nil, true_or, or_true, false_or, or_false, and_self, and_true, true_and, and_false, false_and, not_false_eq_true, not_true_eq_false, ite_true, ite_false, if_true, if_false, ite_not, zin, zpush_s, zpush_n, kl_int, kl_ref, kl_none, kl_kl, kl_long, kl_null, zT_wI, zT_wJ, zT_wR, zT_wIr, zT_wJr, zT_wRr, zI_wJ, zI_wR, zI_wJr, zI_wRr, zJ_wI, zJ_wR, zJ_wIr, zJ_wRr, zR_wI, zR_wJ, zR_wIr, zR_wJr, zN_wI, zN_wJ, zN_wR, zN_wIr, zN_wJr, zN_wRr, zZ_wI, zZ_wJ, zZ_wR, zZ_wIr, zZ_wJr, zZ_wRr, zI_wI, zJ_wJ, zR_wR, zI_wIr, zJ_wJr, zR_wRr, g722_0, g722_1, g722_2, g722_5, g722_8, g722_9, g722_10, g722_11, g722_12, g722_13, g722_15, g722_17, g722_20, g722_21, g722_24, g722_25, g722_28, g722_31, g722_32, g722_35, g722_36, g722_37, g722_40, g722_41, g722_44, g722_47, g722_48, g722_49, g722_50, g722_51, g722_52, g722_53, g722_56, g722_59, g722_60, k0, j0, j1, j2, j3, j4, j6, j8, j9, q0, q1, q2, q3, q4, q5, q6, q7, r0, r1, r2, r3, r4, r5, r6, z1, show t < 6 by omega, g1, cp, g3, i1, k1, p0, p1, bB_t, bB_f, Bool.false_eq_true, nI_1] <;> rfl
theorem c_places (c : CQ h n D w py ex sv) (N : NQ h w n c1 c2 c3) (ht : t < n) : ∃ h1, FS (RA 15) h h1 ∧ ∀ Q, zCall (d + 8) 722 [.ref 0, .int (nI t)] h Q = Q (some (.int (sPl py ex n w c1 t))) h1 := by
  have ct : ∀ x Q, zCall (d + 7) 743 [.ref 0, .int x] h Q = Q (some (.int (bI (sIs n x)))) h := fun x Q => c_there c Q
  have y4 : sIs n (nI t) := ⟨t, ht, rfl⟩
  obtain ⟨h1, f1, g1⟩ := c_places_lp (d := d) ht 11 0 h 0 (by omega) c N
  refine ⟨h1, f1, fun Q => ?_⟩
  obtain ⟨k0, j0, j1, j2, j3, j4, j6, j8, j9⟩ := id c.1
  simp +decide only [Nat.reduceEqDiff, Nat.add_eq_left, Nat.left_eq_add, Nat.reduceAdd, Nat.reduceLeDiff, Nat.reduceMul, Nat.reduceSub, Nat.reduceLT, zlt8, zlt8_, zlt8n, zlt8n_, List.length_cons, List.length_nil, true_or, or_true, false_or, or_false, and_self, and_true, true_and, and_false, false_and, not_false_eq_true, not_true_eq_false, ite_true, ite_false, if_true, if_false, ite_not, zin, zpush_s, zpush_n, kl_int, kl_ref, kl_none, kl_kl, kl_long, kl_null, zT_wI, zT_wJ, zT_wR, zT_wIr, zT_wJr, zT_wRr, zI_wJ, zI_wR, zI_wJr, zI_wRr, zJ_wI, zJ_wR, zJ_wIr, zJ_wRr, zR_wI, zR_wJ, zR_wIr, zR_wJr, zN_wI, zN_wJ, zN_wR, zN_wIr, zN_wJr, zN_wRr, zZ_wI, zZ_wJ, zZ_wR, zZ_wIr, zZ_wJr, zZ_wRr, zI_wI, zJ_wJ, zR_wR, zI_wIr, zJ_wJr, zR_wRr, k722, g722_0, g722_1, g722_2, g722_5, g722_8, g722_9, g722_10, g722_11, g722_12, g722_13, g722_15, g722_17, g722_20, g722_21, g722_24, g722_25, g722_28, g722_31, g722_32, g722_35, g722_36, g722_37, g722_40, g722_41, g722_44, g722_47, g722_48, g722_49, g722_50, g722_51, g722_52, g722_53, g722_56, g722_59, g722_60, k0, j0, j1, j2, j3, j4, j6, j8, j9, ct, y4, bI_t]
  exact g1 Q
/-! odds, mean -/
theorem nI_mod0 {a g : Nat} (ha : a < 2 ^ 31) (h0 : 0 < g) (hg : g < 2 ^ 31) : (nI a - nI a / nI g * nI g = 0) = (g ∣ a) := by
  rw [pk_rem ha h0 hg]
  refine propext ⟨fun e => ?_, fun e => ?_⟩
  · have := (nI_eq (b := 0) (Nat.lt_of_le_of_lt (Nat.mod_le _ _) ha) (by omega)).mp e
    exact Nat.dvd_of_mod_eq_zero this
  · rw [Nat.mod_eq_zero_of_dvd e]; rfl
theorem c_part_lp {u v : Nat} (hu : u < 2 ^ 31) (hv : v < 1000) (hv0 : 0 < v) : ∀ (m k g : Nat), k + m = v + 1 → 2 ≤ k → 0 < g → g ∣ u → g ∣ v → (∀ e, e < k → e ∣ u → e ∣ v → e ≤ g) → ∀ Q, zG d 726 5 [some (.int (nI u)), some (.int (nI v)), some (.int x), some (.int (nI g)), some (.int (nI k))] [] h Q = Q (some (.long (lN ((if x = 0 then u else v) / Nat.gcd u v)))) h
  | 0, k, g, e, hk, hg, gu, gv, hm => by
    intro Q
    have eg : g = Nat.gcd u v := Nat.le_antisymm (Nat.le_of_dvd (Nat.gcd_pos_of_pos_right _ hv0) (Nat.dvd_gcd gu gv)) (hm _ (by have := Nat.gcd_le_right u hv0; omega) (Nat.gcd_dvd_left _ _) (Nat.gcd_dvd_right _ _))
    have hgv : g ≤ v := Nat.le_of_dvd hv0 gv
    have z1 : nI v < nI k := nI_lt (by omega) (by omega)
    have z2 : ¬ nI g = 0 := nI_ne0 hg (by omega)
    have d1 := pk_div (a := u) (d := g) hu hg (by omega)
    have d2 := pk_div (a := v) (d := g) (by omega) hg (by omega)
    have l1 := nI_l (n := u / g) (Nat.lt_of_le_of_lt (Nat.div_le_self _ _) hu)
    have l2 := nI_l (n := v / g) (Nat.lt_of_le_of_lt (Nat.div_le_self _ _) (by omega))
    rw [g726_5]
    by_cases q : x = 0 <;> simp +decide only [Nat.reduceEqDiff, Nat.add_eq_left, Nat.left_eq_add, Nat.reduceAdd, Nat.reduceLeDiff, Nat.reduceMul, Nat.reduceSub, Nat.reduceLT, zlt8, zlt8_, zlt8n, zlt8n_, List.length_cons, List.length_nil, true_or, or_true, false_or, or_false, and_self, and_true, true_and, and_false, false_and, not_false_eq_true, not_true_eq_false, ite_true, ite_false, if_true, if_false, ite_not, zin, zpush_s, zpush_n, kl_int, kl_ref, kl_none, kl_kl, kl_long, kl_null, zT_wI, zT_wJ, zT_wR, zT_wIr, zT_wJr, zT_wRr, zI_wJ, zI_wR, zI_wJr, zI_wRr, zJ_wI, zJ_wR, zJ_wIr, zJ_wRr, zR_wI, zR_wJ, zR_wIr, zR_wJr, zN_wI, zN_wJ, zN_wR, zN_wIr, zN_wJr, zN_wRr, zZ_wI, zZ_wJ, zZ_wR, zZ_wIr, zZ_wJr, zZ_wRr, zI_wI, zJ_wJ, zR_wR, zI_wIr, zJ_wJr, zR_wRr, g726_0, g726_1, g726_2, g726_3, g726_7, g726_8, g726_11, g726_12, g726_14, g726_15, g726_18, g726_19, g726_21, g726_22, g726_25, g726_27, g726_28, g726_31, g726_34, g726_35, g726_38, g726_39, g726_42, g726_43, g726_44, g726_45, g726_46, z1, z2, q, d1, d2, l1, l2, ← eg]
  | m + 1, k, g, e, hk, hg, gu, gv, hm => by
    intro Q
    have z1 : ¬ nI v < nI k := nI_nlt (by omega) (by omega)
    have z2 : ¬ nI k = 0 := nI_ne0 (by omega) (by omega)
    have m1 := nI_mod0 (a := u) (g := k) hu (by omega) (by omega)
    have m2 := nI_mod0 (a := v) (g := k) (by omega) (by omega) (by omega)
    rw [g726_5]
    by_cases q1 : k ∣ u
    · by_cases q2 : k ∣ v
      · rw [← c_part_lp hu hv hv0 m (k + 1) k (by omega) (by omega) (by omega) q1 q2 (fun e he _ _ => by omega) Q]
        simp +decide only [Nat.reduceEqDiff, Nat.add_eq_left, Nat.left_eq_add, Nat.reduceAdd, Nat.reduceLeDiff, Nat.reduceMul, Nat.reduceSub, Nat.reduceLT, zlt8, zlt8_, zlt8n, zlt8n_, List.length_cons, List.length_nil, true_or, or_true, false_or, or_false, and_self, and_true, true_and, and_false, false_and, not_false_eq_true, not_true_eq_false, ite_true, ite_false, if_true, if_false, ite_not, zin, zpush_s, zpush_n, kl_int, kl_ref, kl_none, kl_kl, kl_long, kl_null, zT_wI, zT_wJ, zT_wR, zT_wIr, zT_wJr, zT_wRr, zI_wJ, zI_wR, zI_wJr, zI_wRr, zJ_wI, zJ_wR, zJ_wIr, zJ_wRr, zR_wI, zR_wJ, zR_wIr, zR_wJr, zN_wI, zN_wJ, zN_wR, zN_wIr, zN_wJr, zN_wRr, zZ_wI, zZ_wJ, zZ_wR, zZ_wIr, zZ_wJr, zZ_wRr, zI_wI, zJ_wJ, zR_wR, zI_wIr, zJ_wJr, zR_wRr, g726_0, g726_1, g726_2, g726_3, g726_7, g726_8, g726_11, g726_12, g726_14, g726_15, g726_18, g726_19, g726_21, g726_22, g726_25, g726_27, g726_28, g726_31, g726_34, g726_35, g726_38, g726_39, g726_42, g726_43, g726_44, g726_45, g726_46, z1, z2, m1, m2, q1, q2, nI_1]
      · rw [← c_part_lp hu hv hv0 m (k + 1) g (by omega) (by omega) hg gu gv (fun e he h1 h2 => by
          by_cases ee : e = k
          · subst ee; exact absurd h2 q2
          · exact hm e (by omega) h1 h2) Q]
        simp +decide only [Nat.reduceEqDiff, Nat.add_eq_left, Nat.left_eq_add, Nat.reduceAdd, Nat.reduceLeDiff, Nat.reduceMul, Nat.reduceSub, Nat.reduceLT, zlt8, zlt8_, zlt8n, zlt8n_, List.length_cons, List.length_nil, true_or, or_true, false_or, or_false, and_self, and_true, true_and, and_false, false_and, not_false_eq_true, not_true_eq_false, ite_true, ite_false, if_true, if_false, ite_not, zin, zpush_s, zpush_n, kl_int, kl_ref, kl_none, kl_kl, kl_long, kl_null, zT_wI, zT_wJ, zT_wR, zT_wIr, zT_wJr, zT_wRr, zI_wJ, zI_wR, zI_wJr, zI_wRr, zJ_wI, zJ_wR, zJ_wIr, zJ_wRr, zR_wI, zR_wJ, zR_wIr, zR_wJr, zN_wI, zN_wJ, zN_wR, zN_wIr, zN_wJr, zN_wRr, zZ_wI, zZ_wJ, zZ_wR, zZ_wIr, zZ_wJr, zZ_wRr, zI_wI, zJ_wJ, zR_wR, zI_wIr, zJ_wJr, zR_wRr, g726_0, g726_1, g726_2, g726_3, g726_7, g726_8, g726_11, g726_12, g726_14, g726_15, g726_18, g726_19, g726_21, g726_22, g726_25, g726_27, g726_28, g726_31, g726_34, g726_35, g726_38, g726_39, g726_42, g726_43, g726_44, g726_45, g726_46, z1, z2, m1, m2, q1, q2, nI_1]
    · rw [← c_part_lp hu hv hv0 m (k + 1) g (by omega) (by omega) hg gu gv (fun e he h1 h2 => by
          by_cases ee : e = k
          · subst ee; exact absurd h1 q1
          · exact hm e (by omega) h1 h2) Q]
      simp +decide only [Nat.reduceEqDiff, Nat.add_eq_left, Nat.left_eq_add, Nat.reduceAdd, Nat.reduceLeDiff, Nat.reduceMul, Nat.reduceSub, Nat.reduceLT, zlt8, zlt8_, zlt8n, zlt8n_, List.length_cons, List.length_nil, true_or, or_true, false_or, or_false, and_self, and_true, true_and, and_false, false_and, not_false_eq_true, not_true_eq_false, ite_true, ite_false, if_true, if_false, ite_not, zin, zpush_s, zpush_n, kl_int, kl_ref, kl_none, kl_kl, kl_long, kl_null, zT_wI, zT_wJ, zT_wR, zT_wIr, zT_wJr, zT_wRr, zI_wJ, zI_wR, zI_wJr, zI_wRr, zJ_wI, zJ_wR, zJ_wIr, zJ_wRr, zR_wI, zR_wJ, zR_wIr, zR_wJr, zN_wI, zN_wJ, zN_wR, zN_wIr, zN_wJr, zN_wRr, zZ_wI, zZ_wJ, zZ_wR, zZ_wIr, zZ_wJr, zZ_wRr, zI_wI, zJ_wJ, zR_wR, zI_wIr, zJ_wJr, zR_wRr, g726_0, g726_1, g726_2, g726_3, g726_7, g726_8, g726_11, g726_12, g726_14, g726_15, g726_18, g726_19, g726_21, g726_22, g726_25, g726_27, g726_28, g726_31, g726_34, g726_35, g726_38, g726_39, g726_42, g726_43, g726_44, g726_45, g726_46, z1, z2, m1, m2, q1, nI_1]
theorem c_partOf {u v : Nat} (hu : u < 2 ^ 31) (hv : v < 1000) (hv0 : 0 < v) (Q : zQq) : zCall (d + 1) 726 [.int (nI u), .int (nI v), .int x] h Q = Q (some (.long (lN ((if x = 0 then u else v) / Nat.gcd u v)))) h := by
  have := c_part_lp (d := d) (h := h) (x := x) hu hv hv0 (v - 1) 2 1 (by omega) (by omega) (by omega) (Nat.one_dvd _) (Nat.one_dvd _) (fun e he _ _ => by omega) Q
  simp +decide only [Nat.reduceEqDiff, Nat.add_eq_left, Nat.left_eq_add, Nat.reduceAdd, Nat.reduceLeDiff, Nat.reduceMul, Nat.reduceSub, Nat.reduceLT, zlt8, zlt8_, zlt8n, zlt8n_, List.length_cons, List.length_nil, true_or, or_true, false_or, or_false, and_self, and_true, true_and, and_false, false_and, not_false_eq_true, not_true_eq_false, ite_true, ite_false, if_true, if_false, ite_not, zin, zpush_s, zpush_n, kl_int, kl_ref, kl_none, kl_kl, kl_long, kl_null, zT_wI, zT_wJ, zT_wR, zT_wIr, zT_wJr, zT_wRr, zI_wJ, zI_wR, zI_wJr, zI_wRr, zJ_wI, zJ_wR, zJ_wIr, zJ_wRr, zR_wI, zR_wJ, zR_wIr, zR_wJr, zN_wI, zN_wJ, zN_wR, zN_wIr, zN_wJr, zN_wRr, zZ_wI, zZ_wJ, zZ_wR, zZ_wIr, zZ_wJr, zZ_wRr, zI_wI, zJ_wJ, zR_wR, zI_wIr, zJ_wJr, zR_wRr, k726, g726_0, g726_1, g726_2, g726_3, g726_7, g726_8, g726_11, g726_12, g726_14, g726_15, g726_18, g726_19, g726_21, g726_22, g726_25, g726_27, g726_28, g726_31, g726_34, g726_35, g726_38, g726_39, g726_42, g726_43, g726_44, g726_45, g726_46]
  exact this
