-- needs 30.model 28.parse
/-! the reference reads a text: its parser's state -/
def PQ (h : zH) (x : zW0) (s : Nat) (nm : zW0) : Prop := MO h ∧ (∀ k, k < s → zI h 95 k = x k) ∧ zI h 88 11 = nI s ∧ s ≤ 100 ∧ ∀ k, k < 6 → zI h 96 k = nm k
def S4 (b k : Nat) : Prop := b = 88 ∧ 12 ≤ k ∧ k ≤ 14
def S6 (b k : Nat) : Prop := b = 88 ∧ 12 ≤ k ∧ k ≤ 16
theorem S4_6 (b k : Nat) : S4 b k → S6 b k := by unfold S4 S6; omega
def St (h : zH) (p : Nat) (ok : Bool) (wv : Nat) : Prop := zI h 88 12 = nI p ∧ zI h 88 13 = bB ok ∧ zI h 88 14 = nI wv
variable {d a b n t D K s p wv : Nat} {h h1 : zH} {w x nm : zW0} {c : Int32} {ok : Bool}
theorem PQ_6 (f : FS S6 h h1) (m : PQ h x s nm) : PQ h1 x s nm := by
  obtain ⟨m1, m2, m3, m4, m5⟩ := m
  refine ⟨MO_M (FS_m (fun b k z => by unfold S6 at z; unfold SM; omega) f) m1, fun k hk => ?_, ?_, m4, fun k hk => ?_⟩
  · rw [f.2.2.2.2.1 _ _ (by unfold S6; omega)]; exact m2 k hk
  · rw [f.2.2.2.2.1 _ _ (by unfold S6; omega)]; exact m3
  · rw [f.2.2.2.2.1 _ _ (by unfold S6; omega)]; exact m5 k hk
theorem PQ_4 (f : FS S4 h h1) (m : PQ h x s nm) : PQ h1 x s nm := PQ_6 (FS_m S4_6 f) m
theorem bB_1 (b : Bool) : (bB b = 1) = (b = true) := by cases b <;> simp [bB]
theorem St_at (h0 : St h p ok wv) (q : Nat) : St (wI h 88 12 (nI q)) q ok wv := by
  obtain ⟨s1, s2, s3⟩ := h0
  refine ⟨?_, ?_, ?_⟩ <;> rw [zI_wI, if_pos rfl]
  · exact up_s _ _ _
  · rw [up_n _ _ (by omega)]; exact s2
  · rw [up_n _ _ (by omega)]; exact s3
theorem St_well (h0 : St h p ok wv) (o : Bool) : St (wI h 88 13 (bB o)) p o wv := by
  obtain ⟨s1, s2, s3⟩ := h0
  refine ⟨?_, ?_, ?_⟩ <;> rw [zI_wI, if_pos rfl]
  · rw [up_n _ _ (by omega)]; exact s1
  · exact up_s _ _ _
  · rw [up_n _ _ (by omega)]; exact s3
theorem St_in (h0 : St h p ok wv) (q : Nat) : St (wI h 88 14 (nI q)) p ok q := by
  obtain ⟨s1, s2, s3⟩ := h0
  refine ⟨?_, ?_, ?_⟩ <;> rw [zI_wI, if_pos rfl]
  · rw [up_n _ _ (by omega)]; exact s1
  · rw [up_n _ _ (by omega)]; exact s2
  · exact up_s _ _ _
theorem f4 (k : Nat) (z : Int32) (hk : 12 ≤ k ∧ k ≤ 14) : FS S4 h (wI h 88 k z) := FS_I _ ⟨rfl, hk.1, hk.2⟩
theorem tk_t (h1 : p < s) (h2 : x p = c) : tk x s c p = true := by unfold tk; simp [h1, h2]
theorem tk_f1 (h1 : ¬ p < s) : tk x s c p = false := by unfold tk; simp [h1]
theorem tk_f2 (h2 : ¬ x p = c) : tk x s c p = false := by unfold tk; simp [h2]
theorem tk_i : tk x s c p = true ↔ p < s ∧ x p = c := by unfold tk; simp
theorem r_isAt (m : PQ h x s nm) (h0 : St h p ok wv) (hp : p ≤ s) (Q : zQq) : zCall (d + 1) 818 [.ref 88, .int c] h Q = Q (some (.int (bB (ok && tk x s c p)))) h := by
  obtain ⟨m1, m2, m3, m4, m5⟩ := m
  obtain ⟨s1, s2, s3⟩ := h0
  obtain ⟨m88, m89, m90, m91, m92, m93, m94, m95, m96, m97, m98, m99, m100, m101, m102, m103, m104, m105, m106, n0, n1, n2, n5, n7, n8, n10, n17, n18, n19, n20, n21, n22, n23, n25, n26, n27, n28⟩ := m1.1
  cases ok with
  | false => simp +decide only [Nat.reduceEqDiff, Nat.add_eq_left, Nat.left_eq_add, Nat.reduceAdd, Nat.reduceLeDiff, Nat.reduceMul, Nat.reduceSub, Nat.reduceLT, zlt8, zlt8_, zlt8n, zlt8n_, List.length_cons, List.length_nil, true_or, or_true, false_or, or_false, and_self, and_true, true_and, and_false, false_and, not_false_eq_true, not_true_eq_false, ite_true, ite_false, if_true, if_false, ite_not, zin, zpush_s, zpush_n, kl_int, kl_ref, kl_none, kl_kl, kl_long, kl_null, zT_wI, zT_wJ, zT_wR, zT_wIr, zT_wJr, zT_wRr, zI_wJ, zI_wR, zI_wJr, zI_wRr, zJ_wI, zJ_wR, zJ_wIr, zJ_wRr, zR_wI, zR_wJ, zR_wIr, zR_wJr, zN_wI, zN_wJ, zN_wR, zN_wIr, zN_wJr, zN_wRr, zZ_wI, zZ_wJ, zZ_wR, zZ_wIr, zZ_wJr, zZ_wRr, zI_wI, zJ_wJ, zR_wR, zI_wIr, zJ_wJr, zR_wRr, k818, g818_0, g818_1, g818_4, g818_7, g818_8, g818_11, g818_12, g818_15, g818_18, g818_19, g818_22, g818_23, g818_26, g818_27, g818_28, g818_31, g818_32, g818_35, g818_36, m88, m89, m90, m91, m92, m93, m94, m95, m96, m97, m98, m99, m100, m101, m102, m103, m104, m105, m106, n0, n1, n2, n5, n7, n8, n10, n17, n18, n19, n20, n21, n22, n23, n25, n26, n27, n28, s1, s2, bB_f, Bool.false_and]
  | true =>
    by_cases q : p < s
    · have z1 := nI_lt q (show s < 2 ^ 31 by omega)
      have z2 := nI_pos (n := p) (by omega)
      have z3 := nI_clamp (n := p) (by omega)
      have e := m2 p q
      by_cases q2 : x p = c
      · rw [tk_t q q2]
        simp +decide only [Nat.reduceEqDiff, Nat.add_eq_left, Nat.left_eq_add, Nat.reduceAdd, Nat.reduceLeDiff, Nat.reduceMul, Nat.reduceSub, Nat.reduceLT, zlt8, zlt8_, zlt8n, zlt8n_, List.length_cons, List.length_nil, true_or, or_true, false_or, or_false, and_self, and_true, true_and, and_false, false_and, not_false_eq_true, not_true_eq_false, ite_true, ite_false, if_true, if_false, ite_not, zin, zpush_s, zpush_n, kl_int, kl_ref, kl_none, kl_kl, kl_long, kl_null, zT_wI, zT_wJ, zT_wR, zT_wIr, zT_wJr, zT_wRr, zI_wJ, zI_wR, zI_wJr, zI_wRr, zJ_wI, zJ_wR, zJ_wIr, zJ_wRr, zR_wI, zR_wJ, zR_wIr, zR_wJr, zN_wI, zN_wJ, zN_wR, zN_wIr, zN_wJr, zN_wRr, zZ_wI, zZ_wJ, zZ_wR, zZ_wIr, zZ_wJr, zZ_wRr, zI_wI, zJ_wJ, zR_wR, zI_wIr, zJ_wJr, zR_wRr, k818, g818_0, g818_1, g818_4, g818_7, g818_8, g818_11, g818_12, g818_15, g818_18, g818_19, g818_22, g818_23, g818_26, g818_27, g818_28, g818_31, g818_32, g818_35, g818_36, m88, m89, m90, m91, m92, m93, m94, m95, m96, m97, m98, m99, m100, m101, m102, m103, m104, m105, m106, n0, n1, n2, n5, n7, n8, n10, n17, n18, n19, n20, n21, n22, n23, n25, n26, n27, n28, s1, s2, m3, bB_t, i_le, z1, z2, z3, e, q2, show p < 100 by omega, Bool.true_and]
      · rw [tk_f2 q2]
        simp +decide only [Nat.reduceEqDiff, Nat.add_eq_left, Nat.left_eq_add, Nat.reduceAdd, Nat.reduceLeDiff, Nat.reduceMul, Nat.reduceSub, Nat.reduceLT, zlt8, zlt8_, zlt8n, zlt8n_, List.length_cons, List.length_nil, true_or, or_true, false_or, or_false, and_self, and_true, true_and, and_false, false_and, not_false_eq_true, not_true_eq_false, ite_true, ite_false, if_true, if_false, ite_not, zin, zpush_s, zpush_n, kl_int, kl_ref, kl_none, kl_kl, kl_long, kl_null, zT_wI, zT_wJ, zT_wR, zT_wIr, zT_wJr, zT_wRr, zI_wJ, zI_wR, zI_wJr, zI_wRr, zJ_wI, zJ_wR, zJ_wIr, zJ_wRr, zR_wI, zR_wJ, zR_wIr, zR_wJr, zN_wI, zN_wJ, zN_wR, zN_wIr, zN_wJr, zN_wRr, zZ_wI, zZ_wJ, zZ_wR, zZ_wIr, zZ_wJr, zZ_wRr, zI_wI, zJ_wJ, zR_wR, zI_wIr, zJ_wJr, zR_wRr, k818, g818_0, g818_1, g818_4, g818_7, g818_8, g818_11, g818_12, g818_15, g818_18, g818_19, g818_22, g818_23, g818_26, g818_27, g818_28, g818_31, g818_32, g818_35, g818_36, m88, m89, m90, m91, m92, m93, m94, m95, m96, m97, m98, m99, m100, m101, m102, m103, m104, m105, m106, n0, n1, n2, n5, n7, n8, n10, n17, n18, n19, n20, n21, n22, n23, n25, n26, n27, n28, s1, s2, m3, bB_t, bB_f, i_le, z1, z2, z3, e, q2, show p < 100 by omega, Bool.true_and]
    · have z1 := nI_nlt (show s ≤ p by omega) (show p < 2 ^ 31 by omega)
      rw [tk_f1 q]
      simp +decide only [Nat.reduceEqDiff, Nat.add_eq_left, Nat.left_eq_add, Nat.reduceAdd, Nat.reduceLeDiff, Nat.reduceMul, Nat.reduceSub, Nat.reduceLT, zlt8, zlt8_, zlt8n, zlt8n_, List.length_cons, List.length_nil, true_or, or_true, false_or, or_false, and_self, and_true, true_and, and_false, false_and, not_false_eq_true, not_true_eq_false, ite_true, ite_false, if_true, if_false, ite_not, zin, zpush_s, zpush_n, kl_int, kl_ref, kl_none, kl_kl, kl_long, kl_null, zT_wI, zT_wJ, zT_wR, zT_wIr, zT_wJr, zT_wRr, zI_wJ, zI_wR, zI_wJr, zI_wRr, zJ_wI, zJ_wR, zJ_wIr, zJ_wRr, zR_wI, zR_wJ, zR_wIr, zR_wJr, zN_wI, zN_wJ, zN_wR, zN_wIr, zN_wJr, zN_wRr, zZ_wI, zZ_wJ, zZ_wR, zZ_wIr, zZ_wJr, zZ_wRr, zI_wI, zJ_wJ, zR_wR, zI_wIr, zJ_wJr, zR_wRr, k818, g818_0, g818_1, g818_4, g818_7, g818_8, g818_11, g818_12, g818_15, g818_18, g818_19, g818_22, g818_23, g818_26, g818_27, g818_28, g818_31, g818_32, g818_35, g818_36, m88, m89, m90, m91, m92, m93, m94, m95, m96, m97, m98, m99, m100, m101, m102, m103, m104, m105, m106, n0, n1, n2, n5, n7, n8, n10, n17, n18, n19, n20, n21, n22, n23, n25, n26, n27, n28, s1, s2, m3, bB_t, bB_f, i_le, z1, Bool.true_and]
theorem r_takes (m : PQ h x s nm) (h0 : St h p ok wv) (hp : p ≤ s) : ∃ h1, FS S4 h h1 ∧ St h1 (if (ok && tk x s c p) = true then p + 1 else p) (ok && tk x s c p) wv ∧ ∀ Q, zCall (d + 2) 819 [.ref 88, .int c] h Q = Q none h1 := by
  have ci : ∀ Q, zCall (d + 1) 818 [.ref 88, .int c] h Q = Q (some (.int (bB (ok && tk x s c p)))) h := fun Q => r_isAt m h0 hp Q
  obtain ⟨m88, m89, m90, m91, m92, m93, m94, m95, m96, m97, m98, m99, m100, m101, m102, m103, m104, m105, m106, n0, n1, n2, n5, n7, n8, n10, n17, n18, n19, n20, n21, n22, n23, n25, n26, n27, n28⟩ := m.1.1
  have s1 := h0.1
  have s2 := h0.2.1
  cases q : (ok && tk x s c p) with
  | true =>
    rw [q] at ci
    have q2 := (Bool.and_eq_true_iff.mp q).1
    subst q2
    rw [if_pos rfl]
    refine ⟨_, f4 12 (nI (p + 1)) (by omega), St_at h0 (p + 1), fun Q => ?_⟩
    simp +decide only [Nat.reduceEqDiff, Nat.add_eq_left, Nat.left_eq_add, Nat.reduceAdd, Nat.reduceLeDiff, Nat.reduceMul, Nat.reduceSub, Nat.reduceLT, zlt8, zlt8_, zlt8n, zlt8n_, List.length_cons, List.length_nil, true_or, or_true, false_or, or_false, and_self, and_true, true_and, and_false, false_and, not_false_eq_true, not_true_eq_false, ite_true, ite_false, if_true, if_false, ite_not, zin, zpush_s, zpush_n, kl_int, kl_ref, kl_none, kl_kl, kl_long, kl_null, zT_wI, zT_wJ, zT_wR, zT_wIr, zT_wJr, zT_wRr, zI_wJ, zI_wR, zI_wJr, zI_wRr, zJ_wI, zJ_wR, zJ_wIr, zJ_wRr, zR_wI, zR_wJ, zR_wIr, zR_wJr, zN_wI, zN_wJ, zN_wR, zN_wIr, zN_wJr, zN_wRr, zZ_wI, zZ_wJ, zZ_wR, zZ_wIr, zZ_wJr, zZ_wRr, zI_wI, zJ_wJ, zR_wR, zI_wIr, zJ_wJr, zR_wRr, k819, g819_0, g819_1, g819_2, g819_5, g819_8, g819_9, g819_10, g819_13, g819_14, g819_15, g819_18, g819_21, g819_22, g819_23, g819_26, m88, m89, m90, m91, m92, m93, m94, m95, m96, m97, m98, m99, m100, m101, m102, m103, m104, m105, m106, n0, n1, n2, n5, n7, n8, n10, n17, n18, n19, n20, n21, n22, n23, n25, n26, n27, n28, ci, bB_t, s1, nI_1]
  | false =>
    rw [q] at ci
    rw [if_neg (by decide)]
    refine ⟨_, f4 13 (bB false) (by omega), St_well h0 false, fun Q => ?_⟩
    simp +decide only [Nat.reduceEqDiff, Nat.add_eq_left, Nat.left_eq_add, Nat.reduceAdd, Nat.reduceLeDiff, Nat.reduceMul, Nat.reduceSub, Nat.reduceLT, zlt8, zlt8_, zlt8n, zlt8n_, List.length_cons, List.length_nil, true_or, or_true, false_or, or_false, and_self, and_true, true_and, and_false, false_and, not_false_eq_true, not_true_eq_false, ite_true, ite_false, if_true, if_false, ite_not, zin, zpush_s, zpush_n, kl_int, kl_ref, kl_none, kl_kl, kl_long, kl_null, zT_wI, zT_wJ, zT_wR, zT_wIr, zT_wJr, zT_wRr, zI_wJ, zI_wR, zI_wJr, zI_wRr, zJ_wI, zJ_wR, zJ_wIr, zJ_wRr, zR_wI, zR_wJ, zR_wIr, zR_wJr, zN_wI, zN_wJ, zN_wR, zN_wIr, zN_wJr, zN_wRr, zZ_wI, zZ_wJ, zZ_wR, zZ_wIr, zZ_wJr, zZ_wRr, zI_wI, zJ_wJ, zR_wR, zI_wIr, zJ_wJr, zR_wRr, k819, g819_0, g819_1, g819_2, g819_5, g819_8, g819_9, g819_10, g819_13, g819_14, g819_15, g819_18, g819_21, g819_22, g819_23, g819_26, m88, m89, m90, m91, m92, m93, m94, m95, m96, m97, m98, m99, m100, m101, m102, m103, m104, m105, m106, n0, n1, n2, n5, n7, n8, n10, n17, n18, n19, n20, n21, n22, n23, n25, n26, n27, n28, ci, bB_f, s1, nI_1]
theorem r_isDigit (m : PQ h x s nm) (h0 : St h p ok wv) (hp : p ≤ s) (Q : zQq) : zCall (d + 1) 820 [.ref 88] h Q = Q (some (.int (bB (ok && pDig x s p)))) h := by
  obtain ⟨m1, m2, m3, m4, m5⟩ := m
  obtain ⟨s1, s2, s3⟩ := h0
  obtain ⟨m88, m89, m90, m91, m92, m93, m94, m95, m96, m97, m98, m99, m100, m101, m102, m103, m104, m105, m106, n0, n1, n2, n5, n7, n8, n10, n17, n18, n19, n20, n21, n22, n23, n25, n26, n27, n28⟩ := m1.1
  cases ok with
  | false => simp +decide only [Nat.reduceEqDiff, Nat.add_eq_left, Nat.left_eq_add, Nat.reduceAdd, Nat.reduceLeDiff, Nat.reduceMul, Nat.reduceSub, Nat.reduceLT, zlt8, zlt8_, zlt8n, zlt8n_, List.length_cons, List.length_nil, true_or, or_true, false_or, or_false, and_self, and_true, true_and, and_false, false_and, not_false_eq_true, not_true_eq_false, ite_true, ite_false, if_true, if_false, ite_not, zin, zpush_s, zpush_n, kl_int, kl_ref, kl_none, kl_kl, kl_long, kl_null, zT_wI, zT_wJ, zT_wR, zT_wIr, zT_wJr, zT_wRr, zI_wJ, zI_wR, zI_wJr, zI_wRr, zJ_wI, zJ_wR, zJ_wIr, zJ_wRr, zR_wI, zR_wJ, zR_wIr, zR_wJr, zN_wI, zN_wJ, zN_wR, zN_wIr, zN_wJr, zN_wRr, zZ_wI, zZ_wJ, zZ_wR, zZ_wIr, zZ_wJr, zZ_wRr, zI_wI, zJ_wJ, zR_wR, zI_wIr, zJ_wJr, zR_wRr, k820, g820_0, g820_1, g820_4, g820_7, g820_8, g820_11, g820_12, g820_15, g820_18, g820_19, g820_22, g820_23, g820_26, g820_27, g820_29, g820_32, g820_33, g820_36, g820_37, g820_40, g820_41, g820_43, g820_46, g820_47, g820_50, g820_51, m88, m89, m90, m91, m92, m93, m94, m95, m96, m97, m98, m99, m100, m101, m102, m103, m104, m105, m106, n0, n1, n2, n5, n7, n8, n10, n17, n18, n19, n20, n21, n22, n23, n25, n26, n27, n28, s1, s2, bB_f, Bool.false_and]
  | true =>
    by_cases q : p < s
    · have z1 := nI_lt q (show s < 2 ^ 31 by omega)
      have z2 := nI_pos (n := p) (by omega)
      have z3 := nI_clamp (n := p) (by omega)
      have e := m2 p q
      unfold pDig
      by_cases q2 : x p < 48
      · simp +decide only [Nat.reduceEqDiff, Nat.add_eq_left, Nat.left_eq_add, Nat.reduceAdd, Nat.reduceLeDiff, Nat.reduceMul, Nat.reduceSub, Nat.reduceLT, zlt8, zlt8_, zlt8n, zlt8n_, List.length_cons, List.length_nil, true_or, or_true, false_or, or_false, and_self, and_true, true_and, and_false, false_and, not_false_eq_true, not_true_eq_false, ite_true, ite_false, if_true, if_false, ite_not, zin, zpush_s, zpush_n, kl_int, kl_ref, kl_none, kl_kl, kl_long, kl_null, zT_wI, zT_wJ, zT_wR, zT_wIr, zT_wJr, zT_wRr, zI_wJ, zI_wR, zI_wJr, zI_wRr, zJ_wI, zJ_wR, zJ_wIr, zJ_wRr, zR_wI, zR_wJ, zR_wIr, zR_wJr, zN_wI, zN_wJ, zN_wR, zN_wIr, zN_wJr, zN_wRr, zZ_wI, zZ_wJ, zZ_wR, zZ_wIr, zZ_wJr, zZ_wRr, zI_wI, zJ_wJ, zR_wR, zI_wIr, zJ_wJr, zR_wRr, k820, g820_0, g820_1, g820_4, g820_7, g820_8, g820_11, g820_12, g820_15, g820_18, g820_19, g820_22, g820_23, g820_26, g820_27, g820_29, g820_32, g820_33, g820_36, g820_37, g820_40, g820_41, g820_43, g820_46, g820_47, g820_50, g820_51, m88, m89, m90, m91, m92, m93, m94, m95, m96, m97, m98, m99, m100, m101, m102, m103, m104, m105, m106, n0, n1, n2, n5, n7, n8, n10, n17, n18, n19, n20, n21, n22, n23, n25, n26, n27, n28, s1, s2, m3, bB_t, bB_f, i_le, z1, z2, z3, e, q, q2, show p < 100 by omega, Bool.true_and, Bool.false_and, Bool.and_false, decide_true, decide_false, not_true, not_false_iff, Bool.true_and]
      · by_cases q3 : 57 < x p <;> simp +decide only [Nat.reduceEqDiff, Nat.add_eq_left, Nat.left_eq_add, Nat.reduceAdd, Nat.reduceLeDiff, Nat.reduceMul, Nat.reduceSub, Nat.reduceLT, zlt8, zlt8_, zlt8n, zlt8n_, List.length_cons, List.length_nil, true_or, or_true, false_or, or_false, and_self, and_true, true_and, and_false, false_and, not_false_eq_true, not_true_eq_false, ite_true, ite_false, if_true, if_false, ite_not, zin, zpush_s, zpush_n, kl_int, kl_ref, kl_none, kl_kl, kl_long, kl_null, zT_wI, zT_wJ, zT_wR, zT_wIr, zT_wJr, zT_wRr, zI_wJ, zI_wR, zI_wJr, zI_wRr, zJ_wI, zJ_wR, zJ_wIr, zJ_wRr, zR_wI, zR_wJ, zR_wIr, zR_wJr, zN_wI, zN_wJ, zN_wR, zN_wIr, zN_wJr, zN_wRr, zZ_wI, zZ_wJ, zZ_wR, zZ_wIr, zZ_wJr, zZ_wRr, zI_wI, zJ_wJ, zR_wR, zI_wIr, zJ_wJr, zR_wRr, k820, g820_0, g820_1, g820_4, g820_7, g820_8, g820_11, g820_12, g820_15, g820_18, g820_19, g820_22, g820_23, g820_26, g820_27, g820_29, g820_32, g820_33, g820_36, g820_37, g820_40, g820_41, g820_43, g820_46, g820_47, g820_50, g820_51, m88, m89, m90, m91, m92, m93, m94, m95, m96, m97, m98, m99, m100, m101, m102, m103, m104, m105, m106, n0, n1, n2, n5, n7, n8, n10, n17, n18, n19, n20, n21, n22, n23, n25, n26, n27, n28, s1, s2, m3, bB_t, bB_f, i_le, z1, z2, z3, e, q, q2, q3, show p < 100 by omega, Bool.true_and, Bool.and_false, decide_true, decide_false, not_true, not_false_iff]
    · have z1 := nI_nlt (show s ≤ p by omega) (show p < 2 ^ 31 by omega)
      unfold pDig
      simp +decide only [Nat.reduceEqDiff, Nat.add_eq_left, Nat.left_eq_add, Nat.reduceAdd, Nat.reduceLeDiff, Nat.reduceMul, Nat.reduceSub, Nat.reduceLT, zlt8, zlt8_, zlt8n, zlt8n_, List.length_cons, List.length_nil, true_or, or_true, false_or, or_false, and_self, and_true, true_and, and_false, false_and, not_false_eq_true, not_true_eq_false, ite_true, ite_false, if_true, if_false, ite_not, zin, zpush_s, zpush_n, kl_int, kl_ref, kl_none, kl_kl, kl_long, kl_null, zT_wI, zT_wJ, zT_wR, zT_wIr, zT_wJr, zT_wRr, zI_wJ, zI_wR, zI_wJr, zI_wRr, zJ_wI, zJ_wR, zJ_wIr, zJ_wRr, zR_wI, zR_wJ, zR_wIr, zR_wJr, zN_wI, zN_wJ, zN_wR, zN_wIr, zN_wJr, zN_wRr, zZ_wI, zZ_wJ, zZ_wR, zZ_wIr, zZ_wJr, zZ_wRr, zI_wI, zJ_wJ, zR_wR, zI_wIr, zJ_wJr, zR_wRr, k820, g820_0, g820_1, g820_4, g820_7, g820_8, g820_11, g820_12, g820_15, g820_18, g820_19, g820_22, g820_23, g820_26, g820_27, g820_29, g820_32, g820_33, g820_36, g820_37, g820_40, g820_41, g820_43, g820_46, g820_47, g820_50, g820_51, m88, m89, m90, m91, m92, m93, m94, m95, m96, m97, m98, m99, m100, m101, m102, m103, m104, m105, m106, n0, n1, n2, n5, n7, n8, n10, n17, n18, n19, n20, n21, n22, n23, n25, n26, n27, n28, s1, s2, m3, bB_t, bB_f, i_le, z1, q, Bool.true_and, decide_false, Bool.false_and]
/-- what is read, if all was well so far -/
def onOk {α : Type} (ok : Bool) (F : Nat → Nat × Option α) (p : Nat) : Nat × Option α := if ok then F p else (p, none)
theorem pDig_lt (h : pDig x s p = true) : p < s := by unfold pDig at h; simp at h; exact h.1.1
theorem pNum_le (hp : p ≤ s) : p ≤ (pNum x s p).1 ∧ (pNum x s p).1 ≤ s := by
  unfold pNum
  split
  · next c =>
    have := pDig_lt c
    split
    · next c2 => have := pDig_lt c2; constructor <;> simp only <;> omega
    · constructor <;> simp only <;> omega
  · exact ⟨Nat.le_refl _, hp⟩
theorem r_number (m : PQ h x s nm) (h0 : St h p ok wv) (hp : p ≤ s) : ∃ h1 v, FS S4 h h1 ∧ St h1 (onOk ok (pNum x s) p).1 (onOk ok (pNum x s) p).2.isSome wv ∧ (∀ u, (onOk ok (pNum x s) p).2 = some u → v = u) ∧ ∀ Q, zCall (d + 2) 821 [.ref 88] h Q = Q (some (.int v)) h1 := by
  have ci : ∀ Q, zCall (d + 1) 820 [.ref 88] h Q = Q (some (.int (bB (ok && pDig x s p)))) h := fun Q => r_isDigit m h0 hp Q
  have m1 := m.1
  obtain ⟨m88, m89, m90, m91, m92, m93, m94, m95, m96, m97, m98, m99, m100, m101, m102, m103, m104, m105, m106, n0, n1, n2, n5, n7, n8, n10, n17, n18, n19, n20, n21, n22, n23, n25, n26, n27, n28⟩ := m1.1
  have s1 := h0.1
  unfold onOk
  cases ok with
  | false =>
    rw [Bool.false_and] at ci
    refine ⟨_, 0, f4 13 (bB false) (by omega), St_well h0 false, fun u hu => by simp at hu, fun Q => ?_⟩
    simp +decide only [Nat.reduceEqDiff, Nat.add_eq_left, Nat.left_eq_add, Nat.reduceAdd, Nat.reduceLeDiff, Nat.reduceMul, Nat.reduceSub, Nat.reduceLT, zlt8, zlt8_, zlt8n, zlt8n_, List.length_cons, List.length_nil, true_or, or_true, false_or, or_false, and_self, and_true, true_and, and_false, false_and, not_false_eq_true, not_true_eq_false, ite_true, ite_false, if_true, if_false, ite_not, zin, zpush_s, zpush_n, kl_int, kl_ref, kl_none, kl_kl, kl_long, kl_null, zT_wI, zT_wJ, zT_wR, zT_wIr, zT_wJr, zT_wRr, zI_wJ, zI_wR, zI_wJr, zI_wRr, zJ_wI, zJ_wR, zJ_wIr, zJ_wRr, zR_wI, zR_wJ, zR_wIr, zR_wJr, zN_wI, zN_wJ, zN_wR, zN_wIr, zN_wJr, zN_wRr, zZ_wI, zZ_wJ, zZ_wR, zZ_wIr, zZ_wJr, zZ_wRr, zI_wI, zJ_wJ, zR_wR, zI_wIr, zJ_wJr, zR_wRr, k821, g821_0, g821_1, g821_4, g821_7, g821_8, g821_9, g821_12, g821_13, g821_14, g821_15, g821_18, g821_19, g821_22, g821_23, g821_25, g821_26, g821_27, g821_28, g821_29, g821_32, g821_33, g821_34, g821_37, g821_38, g821_41, g821_44, g821_46, g821_47, g821_48, g821_49, g821_52, g821_53, g821_56, g821_57, g821_58, g821_60, g821_61, g821_62, g821_63, g821_64, g821_67, g821_68, g821_69, g821_72, g821_73, m88, m89, m90, m91, m92, m93, m94, m95, m96, m97, m98, m99, m100, m101, m102, m103, m104, m105, m106, n0, n1, n2, n5, n7, n8, n10, n17, n18, n19, n20, n21, n22, n23, n25, n26, n27, n28, ci, bB_f]
  | true =>
    rw [Bool.true_and] at ci
    rw [if_pos rfl]
    unfold pNum
    cases q : pDig x s p with
    | false =>
      rw [q] at ci
      simp only [Bool.false_eq_true, if_false]
      refine ⟨_, 0, f4 13 (bB false) (by omega), St_well h0 false, fun u hu => by simp at hu, fun Q => ?_⟩
      simp +decide only [Nat.reduceEqDiff, Nat.add_eq_left, Nat.left_eq_add, Nat.reduceAdd, Nat.reduceLeDiff, Nat.reduceMul, Nat.reduceSub, Nat.reduceLT, zlt8, zlt8_, zlt8n, zlt8n_, List.length_cons, List.length_nil, true_or, or_true, false_or, or_false, and_self, and_true, true_and, and_false, false_and, not_false_eq_true, not_true_eq_false, ite_true, ite_false, if_true, if_false, ite_not, zin, zpush_s, zpush_n, kl_int, kl_ref, kl_none, kl_kl, kl_long, kl_null, zT_wI, zT_wJ, zT_wR, zT_wIr, zT_wJr, zT_wRr, zI_wJ, zI_wR, zI_wJr, zI_wRr, zJ_wI, zJ_wR, zJ_wIr, zJ_wRr, zR_wI, zR_wJ, zR_wIr, zR_wJr, zN_wI, zN_wJ, zN_wR, zN_wIr, zN_wJr, zN_wRr, zZ_wI, zZ_wJ, zZ_wR, zZ_wIr, zZ_wJr, zZ_wRr, zI_wI, zJ_wJ, zR_wR, zI_wIr, zJ_wJr, zR_wRr, k821, g821_0, g821_1, g821_4, g821_7, g821_8, g821_9, g821_12, g821_13, g821_14, g821_15, g821_18, g821_19, g821_22, g821_23, g821_25, g821_26, g821_27, g821_28, g821_29, g821_32, g821_33, g821_34, g821_37, g821_38, g821_41, g821_44, g821_46, g821_47, g821_48, g821_49, g821_52, g821_53, g821_56, g821_57, g821_58, g821_60, g821_61, g821_62, g821_63, g821_64, g821_67, g821_68, g821_69, g821_72, g821_73, m88, m89, m90, m91, m92, m93, m94, m95, m96, m97, m98, m99, m100, m101, m102, m103, m104, m105, m106, n0, n1, n2, n5, n7, n8, n10, n17, n18, n19, n20, n21, n22, n23, n25, n26, n27, n28, ci, bB_f]
    | true =>
      rw [q] at ci
      have ps := pDig_lt q
      have m3 := m.2.2.1
      have m4 := m.2.2.2.1
      have z2 := nI_pos (n := p) (by omega)
      have z3 := nI_clamp (n := p) (by omega)
      have e := m.2.1 p ps
      have h2 := St_at h0 (p + 1)
      have f2 : FS S4 h (wI h 88 12 (nI (p + 1))) := f4 12 (nI (p + 1)) (by omega)
      have m2 := PQ_4 f2 m
      have c2 : ∀ Q, zCall (d + 1) 820 [.ref 88] (wI h 88 12 (nI (p + 1))) Q = Q (some (.int (bB (true && pDig x s (p + 1))))) _ := fun Q => r_isDigit m2 h2 (by omega) Q
      rw [Bool.true_and] at c2
      simp only [if_true]
      have t1 := h2.1
      cases q2 : pDig x s (p + 1) with
      | false =>
        rw [q2] at c2
        simp only [Bool.false_eq_true, if_false]
        refine ⟨_, x p - 48, f2, h2, fun u hu => by simpa using hu, fun Q => ?_⟩
        simp +decide only [Nat.reduceEqDiff, Nat.add_eq_left, Nat.left_eq_add, Nat.reduceAdd, Nat.reduceLeDiff, Nat.reduceMul, Nat.reduceSub, Nat.reduceLT, zlt8, zlt8_, zlt8n, zlt8n_, List.length_cons, List.length_nil, true_or, or_true, false_or, or_false, and_self, and_true, true_and, and_false, false_and, not_false_eq_true, not_true_eq_false, ite_true, ite_false, if_true, if_false, ite_not, zin, zpush_s, zpush_n, kl_int, kl_ref, kl_none, kl_kl, kl_long, kl_null, zT_wI, zT_wJ, zT_wR, zT_wIr, zT_wJr, zT_wRr, zI_wJ, zI_wR, zI_wJr, zI_wRr, zJ_wI, zJ_wR, zJ_wIr, zJ_wRr, zR_wI, zR_wJ, zR_wIr, zR_wJr, zN_wI, zN_wJ, zN_wR, zN_wIr, zN_wJr, zN_wRr, zZ_wI, zZ_wJ, zZ_wR, zZ_wIr, zZ_wJr, zZ_wRr, zI_wI, zJ_wJ, zR_wR, zI_wIr, zJ_wJr, zR_wRr, k821, g821_0, g821_1, g821_4, g821_7, g821_8, g821_9, g821_12, g821_13, g821_14, g821_15, g821_18, g821_19, g821_22, g821_23, g821_25, g821_26, g821_27, g821_28, g821_29, g821_32, g821_33, g821_34, g821_37, g821_38, g821_41, g821_44, g821_46, g821_47, g821_48, g821_49, g821_52, g821_53, g821_56, g821_57, g821_58, g821_60, g821_61, g821_62, g821_63, g821_64, g821_67, g821_68, g821_69, g821_72, g821_73, m88, m89, m90, m91, m92, m93, m94, m95, m96, m97, m98, m99, m100, m101, m102, m103, m104, m105, m106, n0, n1, n2, n5, n7, n8, n10, n17, n18, n19, n20, n21, n22, n23, n25, n26, n27, n28, ci, c2, bB_t, bB_f, s1, nI_1, z2, z3, e, show p < 100 by omega]
      | true =>
        rw [q2] at c2
        have ps2 := pDig_lt q2
        simp only [if_true]
        have y2 := nI_pos (n := p + 1) (by omega)
        have y3 := nI_clamp (n := p + 1) (by omega)
        have e2 := m.2.1 (p + 1) ps2
        have f3 : FS S4 (wI h 88 12 (nI (p + 1))) (wI (wI h 88 12 (nI (p + 1))) 88 12 (nI (p + 1 + 1))) := f4 12 _ (by omega)
        refine ⟨_, 10 * (x p - 48) + x (p + 1) - 48, FS_t f2 f3, St_at h2 (p + 2), fun u hu => by simpa using hu, fun Q => ?_⟩
        simp +decide only [Nat.reduceEqDiff, Nat.add_eq_left, Nat.left_eq_add, Nat.reduceAdd, Nat.reduceLeDiff, Nat.reduceMul, Nat.reduceSub, Nat.reduceLT, zlt8, zlt8_, zlt8n, zlt8n_, List.length_cons, List.length_nil, true_or, or_true, false_or, or_false, and_self, and_true, true_and, and_false, false_and, not_false_eq_true, not_true_eq_false, ite_true, ite_false, if_true, if_false, ite_not, zin, zpush_s, zpush_n, kl_int, kl_ref, kl_none, kl_kl, kl_long, kl_null, zT_wI, zT_wJ, zT_wR, zT_wIr, zT_wJr, zT_wRr, zI_wJ, zI_wR, zI_wJr, zI_wRr, zJ_wI, zJ_wR, zJ_wIr, zJ_wRr, zR_wI, zR_wJ, zR_wIr, zR_wJr, zN_wI, zN_wJ, zN_wR, zN_wIr, zN_wJr, zN_wRr, zZ_wI, zZ_wJ, zZ_wR, zZ_wIr, zZ_wJr, zZ_wRr, zI_wI, zJ_wJ, zR_wR, zI_wIr, zJ_wJr, zR_wRr, k821, g821_0, g821_1, g821_4, g821_7, g821_8, g821_9, g821_12, g821_13, g821_14, g821_15, g821_18, g821_19, g821_22, g821_23, g821_25, g821_26, g821_27, g821_28, g821_29, g821_32, g821_33, g821_34, g821_37, g821_38, g821_41, g821_44, g821_46, g821_47, g821_48, g821_49, g821_52, g821_53, g821_56, g821_57, g821_58, g821_60, g821_61, g821_62, g821_63, g821_64, g821_67, g821_68, g821_69, g821_72, g821_73, m88, m89, m90, m91, m92, m93, m94, m95, m96, m97, m98, m99, m100, m101, m102, m103, m104, m105, m106, n0, n1, n2, n5, n7, n8, n10, n17, n18, n19, n20, n21, n22, n23, n25, n26, n27, n28, ci, c2, bB_t, bB_f, s1, nI_1, z2, z3, y2, y3, e, e2, show p < 100 by omega, show p + 1 < 100 by omega, up_a]
