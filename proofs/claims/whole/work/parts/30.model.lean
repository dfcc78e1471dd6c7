-- needs 27.copy
/-! the reference: shape; its small methods -/
def MS (h : zH) : Prop := zT h 88 = (8, 29) ∧ zT h 89 = (20, 118) ∧ zT h 90 = (20, 118) ∧ zT h 91 = (20, 118) ∧ zT h 92 = (20, 100) ∧ zT h 93 = (20, 600) ∧ zT h 94 = (20, 6) ∧ zT h 95 = (20, 100) ∧ zT h 96 = (20, 6) ∧ zT h 97 = (22, 6) ∧ zT h 98 = (22, 3) ∧ zT h 99 = (22, 15) ∧ zT h 100 = (20, 7) ∧ zT h 101 = (20, 21) ∧ zT h 102 = (20, 20) ∧ zT h 103 = (20, 6) ∧ zT h 104 = (20, 6) ∧ zT h 105 = (24, 360) ∧ zT h 106 = (24, 60)
  ∧ zR h 88 0 = .ref 89 ∧ zR h 88 1 = .ref 90 ∧ zR h 88 2 = .ref 91 ∧ zR h 88 5 = .ref 92 ∧ zR h 88 7 = .ref 93 ∧ zR h 88 8 = .ref 94 ∧ zR h 88 10 = .ref 95 ∧ zR h 88 17 = .ref 96 ∧ zR h 88 18 = .ref 97 ∧ zR h 88 19 = .ref 98 ∧ zR h 88 20 = .ref 99 ∧ zR h 88 21 = .ref 100 ∧ zR h 88 22 = .ref 101 ∧ zR h 88 23 = .ref 102 ∧ zR h 88 25 = .ref 103 ∧ zR h 88 26 = .ref 104 ∧ zR h 88 27 = .ref 105 ∧ zR h 88 28 = .ref 106
/-- scratch of the reference; with its row -/
def SC (b k : Nat) : Prop := (b = 88 ∧ 11 ≤ k ∧ k ≤ 16) ∨ b = 95 ∨ b = 96
def SN (b k : Nat) : Prop := (b = 88 ∧ 11 ≤ k ∧ k ≤ 16) ∨ b = 95 ∨ b = 96 ∨ b = 89
/-- all of the reference's -/
def SM (b k : Nat) : Prop := 88 ≤ b ∧ b ≤ 106 ∧ (b = 88 → k = 3 ∨ k = 4 ∨ k = 6 ∨ k = 9 ∨ (11 ≤ k ∧ k ≤ 16) ∨ k = 24) ∧ ¬ (97 ≤ b ∧ b ≤ 101)
theorem SC_N (b k : Nat) : SC b k → SN b k := by unfold SC SN; omega
theorem SN_M (b k : Nat) : SN b k → SM b k := by unfold SN SM; omega
theorem MS_f {S : Nat → Nat → Prop} {h h1 : zH} (hS : ∀ b k, S b k → SM b k ∨ b < 88) (f : FS S h h1) (m : MS h) : MS h1 := by
  have e : ∀ k, (k = 0 ∨ k = 1 ∨ k = 2 ∨ k = 5 ∨ k = 7 ∨ k = 8 ∨ k = 10 ∨ (17 ≤ k ∧ k ≤ 23) ∨ (25 ≤ k ∧ k ≤ 28)) → zR h1 88 k = zR h 88 k := fun k hk => f.2.2.2.2.2 _ _ (fun z => by have := hS _ _ z; unfold SM at this; omega)
  unfold MS at m ⊢
  rw [f.1, e 0 (by omega), e 1 (by omega), e 2 (by omega), e 5 (by omega), e 7 (by omega), e 8 (by omega), e 10 (by omega), e 17 (by omega), e 18 (by omega), e 19 (by omega), e 20 (by omega), e 21 (by omega), e 22 (by omega), e 23 (by omega), e 25 (by omega), e 26 (by omega), e 27 (by omega), e 28 (by omega)]
  exact m
theorem MS_M {h h1 : zH} (f : FS SM h h1) (m : MS h) : MS h1 := MS_f (fun b k z => Or.inl z) f m
theorem MS_N {h h1 : zH} (f : FS SN h h1) (m : MS h) : MS h1 := MS_M (FS_m SN_M f) m
/-- the reference's constant rows -/
def mcK (a : Nat) : List Int32 := if a = 97 then [112, 107, 118, 119, 116, 100] else if a = 98 then [109, 108, 112] else if a = 99 then [109, 111, 114, 101, 0, 108, 101, 115, 115, 0, 112, 97, 121, 0, 0] else if a = 100 then [-1, 0, 0, 0, 1, 2, 3] else [10, 11, 12, 0, 20, 0, 30, 0, 0, 0, 0, 40, 50, 51, 0, 0, 0, 60, 71, 70, 0]
def MC (h : zH) : Prop := ∀ a, 97 ≤ a → a ≤ 101 → ∀ k, k < (mcK a).length → zI h a k = (mcK a).getD k 0
def MO (h : zH) : Prop := MS h ∧ MC h
theorem MO_f {S : Nat → Nat → Prop} {h h1 : zH} (hS : ∀ b k, S b k → SM b k ∨ b < 88) (f : FS S h h1) (m : MO h) : MO h1 := ⟨MS_f hS f m.1, fun a h1 h2 k hk => by rw [f.2.2.2.2.1 a k (fun z => by have := hS _ _ z; unfold SM at this; omega)]; exact m.2 a h1 h2 k hk⟩
theorem MO_M {h h1 : zH} (f : FS SM h h1) (m : MO h) : MO h1 := MO_f (fun b k z => Or.inl z) f m
theorem MO_N {h h1 : zH} (f : FS SN h h1) (m : MO h) : MO h1 := MO_M (FS_m SN_M f) m
variable {d a b n t D K : Nat} {h : zH} {w : zW0} {fp x y z py p : Int32} {sv : Value} {ex : zW0 → Int32}
theorem c_isIn (Q : zQq) : zCall (d + 1) 802 [.int x, .int y, .int z] h Q = Q (some (.int (bI (¬ x < y ∧ ¬ z < x)))) h := by
  by_cases h1 : x < y <;> by_cases h2 : z < x <;> simp +decide only [Nat.reduceEqDiff, Nat.add_eq_left, Nat.left_eq_add, Nat.reduceAdd, Nat.reduceLeDiff, Nat.reduceMul, Nat.reduceSub, Nat.reduceLT, zlt8, zlt8_, zlt8n, zlt8n_, List.length_cons, List.length_nil, true_or, or_true, false_or, or_false, and_self, and_true, true_and, and_false, false_and, not_false_eq_true, not_true_eq_false, ite_true, ite_false, if_true, if_false, ite_not, zin, zpush_s, zpush_n, kl_int, kl_ref, kl_none, kl_kl, kl_long, kl_null, zT_wI, zT_wJ, zT_wR, zT_wIr, zT_wJr, zT_wRr, zI_wJ, zI_wR, zI_wJr, zI_wRr, zJ_wI, zJ_wR, zJ_wIr, zJ_wRr, zR_wI, zR_wJ, zR_wIr, zR_wJr, zN_wI, zN_wJ, zN_wR, zN_wIr, zN_wJr, zN_wRr, zZ_wI, zZ_wJ, zZ_wR, zZ_wIr, zZ_wJr, zZ_wRr, zI_wI, zJ_wJ, zR_wR, zI_wIr, zJ_wJr, zR_wRr, k802, g802_0, g802_1, g802_2, g802_5, g802_6, g802_7, g802_10, g802_11, g802_14, g802_15, h1, h2, bI]
/-- a valid traveller's number -/
abbrev sIs (n : Nat) (x : Int32) : Prop := ∃ t, t < n ∧ x = nI t
theorem sIs_in (hn : n ≤ 6) : sIs n x ↔ (¬ x < 0 ∧ ¬ nI n - 1 < x) := by
  constructor
  · rintro ⟨t, ht, rfl⟩
    refine ⟨nI_pos (by omega), ?_⟩
    obtain ⟨k, rfl⟩ : ∃ k, n = k + 1 := ⟨n - 1, by omega⟩
    rw [nI_pred]; exact nI_nlt (by omega) (by omega)
  · rintro ⟨h1, h2⟩
    obtain ⟨j, hj, rfl⟩ := nI_of h1
    refine ⟨j, ?_, rfl⟩
    cases n with
    | zero => exact absurd (Int32.lt_of_lt_of_le (by decide : nI 0 - 1 < 0) (nI_pos' hj)) h2
    | succ k =>
      rw [nI_pred, ← i_le] at h2
      have := (nI_leI hj (by omega)).mp h2
      omega
theorem c_isOne (hM : MS h) (hw : sOK (zI h 89) n D) (Q : zQq) : zCall (d + 2) 807 [.ref 88, .int x] h Q = Q (some (.int (bI (sIs n x)))) h := by
  obtain ⟨m88, m89, m90, m91, m92, m93, m94, m95, m96, m97, m98, m99, m100, m101, m102, m103, m104, m105, m106, n0, n1, n2, n5, n7, n8, n10, n17, n18, n19, n20, n21, n22, n23, n25, n26, n27, n28⟩ := hM
  have e := bI_c (sIs_in (x := x) hw.2.1)
  have w1 := hw.1
  simp +decide only [Nat.reduceEqDiff, Nat.add_eq_left, Nat.left_eq_add, Nat.reduceAdd, Nat.reduceLeDiff, Nat.reduceMul, Nat.reduceSub, Nat.reduceLT, zlt8, zlt8_, zlt8n, zlt8n_, List.length_cons, List.length_nil, true_or, or_true, false_or, or_false, and_self, and_true, true_and, and_false, false_and, not_false_eq_true, not_true_eq_false, ite_true, ite_false, if_true, if_false, ite_not, zin, zpush_s, zpush_n, kl_int, kl_ref, kl_none, kl_kl, kl_long, kl_null, zT_wI, zT_wJ, zT_wR, zT_wIr, zT_wJr, zT_wRr, zI_wJ, zI_wR, zI_wJr, zI_wRr, zJ_wI, zJ_wR, zJ_wIr, zJ_wRr, zR_wI, zR_wJ, zR_wIr, zR_wJr, zN_wI, zN_wJ, zN_wR, zN_wIr, zN_wJr, zN_wRr, zZ_wI, zZ_wJ, zZ_wR, zZ_wIr, zZ_wJr, zZ_wRr, zI_wI, zJ_wJ, zR_wR, zI_wIr, zJ_wJr, zR_wRr, k807, g807_0, g807_1, g807_2, g807_3, g807_6, g807_8, g807_9, g807_10, g807_11, g807_14, c_isIn, m88, m89, m90, m91, m92, m93, m94, m95, m96, m97, m98, m99, m100, m101, m102, m103, m104, m105, m106, n0, n1, n2, n5, n7, n8, n10, n17, n18, n19, n20, n21, n22, n23, n25, n26, n27, n28, w1, show Int32.toNatClampNeg 60 = 60 by decide, show ¬ (60 : Int32) < 0 by decide, bI_z]
  rw [e]
theorem c_isThere (h0 : zT h 0 = (7, 10)) (h1 : zR h 0 0 = .ref 1) (hS : RS h 1) (hv : Rv h 1 n w fp sv) (hn : n ≤ 6) (Q : zQq) : zCall (d + 2) 743 [.ref 0, .int x] h Q = Q (some (.int (bI (sIs n x)))) h := by
  have q0 := hS.1
  have v1 := hv.1
  have e := bI_c (sIs_in (x := x) hn)
  simp +decide only [Nat.reduceEqDiff, Nat.add_eq_left, Nat.left_eq_add, Nat.reduceAdd, Nat.reduceLeDiff, Nat.reduceMul, Nat.reduceSub, Nat.reduceLT, zlt8, zlt8_, zlt8n, zlt8n_, List.length_cons, List.length_nil, true_or, or_true, false_or, or_false, and_self, and_true, true_and, and_false, false_and, not_false_eq_true, not_true_eq_false, ite_true, ite_false, if_true, if_false, ite_not, zin, zpush_s, zpush_n, kl_int, kl_ref, kl_none, kl_kl, kl_long, kl_null, zT_wI, zT_wJ, zT_wR, zT_wIr, zT_wJr, zT_wRr, zI_wJ, zI_wR, zI_wJr, zI_wRr, zJ_wI, zJ_wR, zJ_wIr, zJ_wRr, zR_wI, zR_wJ, zR_wIr, zR_wJr, zN_wI, zN_wJ, zN_wR, zN_wIr, zN_wJr, zN_wRr, zZ_wI, zZ_wJ, zZ_wR, zZ_wIr, zZ_wJr, zZ_wRr, zI_wI, zJ_wJ, zR_wR, zI_wIr, zJ_wJr, zR_wRr, k743, g743_0, g743_1, g743_2, g743_5, g743_8, g743_9, g743_10, g743_13, c_within, h0, h1, q0, v1, bI_z, i_le]
  rw [e]
theorem ix10 {t j : Nat} (ht : t < 6) (hj : j < 10) : ¬ (10 * nI t + nI j) < 0 ∧ (10 * nI t + nI j).toNatClampNeg = 10 * t + j := by
  have e : 10 * nI t + nI j = nI (10 * t + j) := by rw [show (10 : Int32) = nI 10 from rfl, pk_mul, nI_add]
  rw [e]
  exact ⟨nI_pos (by omega), nI_clamp (by omega)⟩
theorem c_oneg (hM : MS h) (j : Nat) (hj : j < 10) (ht : t < 6) (Q : zQq) : zCall (d + 1) 808 [.ref 88, .int (nI t), .int (nI j)] h Q = Q (some (.int (zI h 89 (10 * t + j)))) h := by
  obtain ⟨m88, m89, m90, m91, m92, m93, m94, m95, m96, m97, m98, m99, m100, m101, m102, m103, m104, m105, m106, n0, n1, n2, n5, n7, n8, n10, n17, n18, n19, n20, n21, n22, n23, n25, n26, n27, n28⟩ := hM
  obtain ⟨i1, i2⟩ := ix10 ht hj
  simp +decide only [Nat.reduceEqDiff, Nat.add_eq_left, Nat.left_eq_add, Nat.reduceAdd, Nat.reduceLeDiff, Nat.reduceMul, Nat.reduceSub, Nat.reduceLT, zlt8, zlt8_, zlt8n, zlt8n_, List.length_cons, List.length_nil, true_or, or_true, false_or, or_false, and_self, and_true, true_and, and_false, false_and, not_false_eq_true, not_true_eq_false, ite_true, ite_false, if_true, if_false, ite_not, zin, zpush_s, zpush_n, kl_int, kl_ref, kl_none, kl_kl, kl_long, kl_null, zT_wI, zT_wJ, zT_wR, zT_wIr, zT_wJr, zT_wRr, zI_wJ, zI_wR, zI_wJr, zI_wRr, zJ_wI, zJ_wR, zJ_wIr, zJ_wRr, zR_wI, zR_wJ, zR_wIr, zR_wJr, zN_wI, zN_wJ, zN_wR, zN_wIr, zN_wJr, zN_wRr, zZ_wI, zZ_wJ, zZ_wR, zZ_wIr, zZ_wJr, zZ_wRr, zI_wI, zJ_wJ, zR_wR, zI_wIr, zJ_wJr, zR_wRr, k808, g808_0, g808_1, g808_4, g808_6, g808_7, g808_8, g808_9, g808_10, g808_11, m88, m89, m90, m91, m92, m93, m94, m95, m96, m97, m98, m99, m100, m101, m102, m103, m104, m105, m106, n0, n1, n2, n5, n7, n8, n10, n17, n18, n19, n20, n21, n22, n23, n25, n26, n27, n28, i1, i2, show 10 * t + j < 118 by omega]
theorem c_chg (hM : MS h) (j : Nat) (hj : j < 10) (ht : t < 6) (Q : zQq) : zCall (d + 2) 809 [.ref 88, .int (nI t), .int (nI j), .int x] h Q = Q (some (.int (zI h 89 (10 * t + j)))) (wI h 89 (10 * t + j) x) := by
  have co : ∀ Q, zCall (d + 1) 808 [.ref 88, .int (nI t), .int (nI j)] h Q = Q (some (.int (zI h 89 (10 * t + j)))) h := fun Q => c_oneg hM j hj ht Q
  obtain ⟨m88, m89, m90, m91, m92, m93, m94, m95, m96, m97, m98, m99, m100, m101, m102, m103, m104, m105, m106, n0, n1, n2, n5, n7, n8, n10, n17, n18, n19, n20, n21, n22, n23, n25, n26, n27, n28⟩ := hM
  obtain ⟨i1, i2⟩ := ix10 ht hj
  simp +decide only [Nat.reduceEqDiff, Nat.add_eq_left, Nat.left_eq_add, Nat.reduceAdd, Nat.reduceLeDiff, Nat.reduceMul, Nat.reduceSub, Nat.reduceLT, zlt8, zlt8_, zlt8n, zlt8n_, List.length_cons, List.length_nil, true_or, or_true, false_or, or_false, and_self, and_true, true_and, and_false, false_and, not_false_eq_true, not_true_eq_false, ite_true, ite_false, if_true, if_false, ite_not, zin, zpush_s, zpush_n, kl_int, kl_ref, kl_none, kl_kl, kl_long, kl_null, zT_wI, zT_wJ, zT_wR, zT_wIr, zT_wJr, zT_wRr, zI_wJ, zI_wR, zI_wJr, zI_wRr, zJ_wI, zJ_wR, zJ_wIr, zJ_wRr, zR_wI, zR_wJ, zR_wIr, zR_wJr, zN_wI, zN_wJ, zN_wR, zN_wIr, zN_wJr, zN_wRr, zZ_wI, zZ_wJ, zZ_wR, zZ_wIr, zZ_wJr, zZ_wRr, zI_wI, zJ_wJ, zR_wR, zI_wIr, zJ_wJr, zR_wRr, k809, g809_0, g809_1, g809_2, g809_3, g809_6, g809_8, g809_9, g809_12, g809_14, g809_15, g809_16, g809_17, g809_18, g809_19, g809_20, g809_22, m88, m89, m90, m91, m92, m93, m94, m95, m96, m97, m98, m99, m100, m101, m102, m103, m104, m105, m106, n0, n1, n2, n5, n7, n8, n10, n17, n18, n19, n20, n21, n22, n23, n25, n26, n27, n28, i1, i2, show 10 * t + j < 118 by omega, co]
theorem c_one0 (hM : MS h) (ht : t < 6) (Q : zQq) : zCall (d + 1) 808 [.ref 88, .int (nI t), .int 0] h Q = Q (some (.int (zI h 89 (10 * t)))) h := c_oneg hM 0 (by omega) ht Q
theorem c_chg0 (hM : MS h) (ht : t < 6) (Q : zQq) : zCall (d + 2) 809 [.ref 88, .int (nI t), .int 0, .int x] h Q = Q (some (.int (zI h 89 (10 * t)))) (wI h 89 (10 * t) x) := c_chg hM 0 (by omega) ht Q

theorem c_one1 (hM : MS h) (ht : t < 6) (Q : zQq) : zCall (d + 1) 808 [.ref 88, .int (nI t), .int 1] h Q = Q (some (.int (zI h 89 (10 * t + 1)))) h := c_oneg hM 1 (by omega) ht Q
theorem c_chg1 (hM : MS h) (ht : t < 6) (Q : zQq) : zCall (d + 2) 809 [.ref 88, .int (nI t), .int 1, .int x] h Q = Q (some (.int (zI h 89 (10 * t + 1)))) (wI h 89 (10 * t + 1) x) := c_chg hM 1 (by omega) ht Q

theorem c_one2 (hM : MS h) (ht : t < 6) (Q : zQq) : zCall (d + 1) 808 [.ref 88, .int (nI t), .int 2] h Q = Q (some (.int (zI h 89 (10 * t + 2)))) h := c_oneg hM 2 (by omega) ht Q
theorem c_chg2 (hM : MS h) (ht : t < 6) (Q : zQq) : zCall (d + 2) 809 [.ref 88, .int (nI t), .int 2, .int x] h Q = Q (some (.int (zI h 89 (10 * t + 2)))) (wI h 89 (10 * t + 2) x) := c_chg hM 2 (by omega) ht Q

theorem c_one3 (hM : MS h) (ht : t < 6) (Q : zQq) : zCall (d + 1) 808 [.ref 88, .int (nI t), .int 3] h Q = Q (some (.int (zI h 89 (10 * t + 3)))) h := c_oneg hM 3 (by omega) ht Q
theorem c_chg3 (hM : MS h) (ht : t < 6) (Q : zQq) : zCall (d + 2) 809 [.ref 88, .int (nI t), .int 3, .int x] h Q = Q (some (.int (zI h 89 (10 * t + 3)))) (wI h 89 (10 * t + 3) x) := c_chg hM 3 (by omega) ht Q

theorem c_one4 (hM : MS h) (ht : t < 6) (Q : zQq) : zCall (d + 1) 808 [.ref 88, .int (nI t), .int 4] h Q = Q (some (.int (zI h 89 (10 * t + 4)))) h := c_oneg hM 4 (by omega) ht Q
theorem c_chg4 (hM : MS h) (ht : t < 6) (Q : zQq) : zCall (d + 2) 809 [.ref 88, .int (nI t), .int 4, .int x] h Q = Q (some (.int (zI h 89 (10 * t + 4)))) (wI h 89 (10 * t + 4) x) := c_chg hM 4 (by omega) ht Q

theorem c_one5 (hM : MS h) (ht : t < 6) (Q : zQq) : zCall (d + 1) 808 [.ref 88, .int (nI t), .int 5] h Q = Q (some (.int (zI h 89 (10 * t + 5)))) h := c_oneg hM 5 (by omega) ht Q
theorem c_chg5 (hM : MS h) (ht : t < 6) (Q : zQq) : zCall (d + 2) 809 [.ref 88, .int (nI t), .int 5, .int x] h Q = Q (some (.int (zI h 89 (10 * t + 5)))) (wI h 89 (10 * t + 5) x) := c_chg hM 5 (by omega) ht Q

theorem c_one6 (hM : MS h) (ht : t < 6) (Q : zQq) : zCall (d + 1) 808 [.ref 88, .int (nI t), .int 6] h Q = Q (some (.int (zI h 89 (10 * t + 6)))) h := c_oneg hM 6 (by omega) ht Q
theorem c_chg6 (hM : MS h) (ht : t < 6) (Q : zQq) : zCall (d + 2) 809 [.ref 88, .int (nI t), .int 6, .int x] h Q = Q (some (.int (zI h 89 (10 * t + 6)))) (wI h 89 (10 * t + 6) x) := c_chg hM 6 (by omega) ht Q

theorem c_one7 (hM : MS h) (ht : t < 6) (Q : zQq) : zCall (d + 1) 808 [.ref 88, .int (nI t), .int 7] h Q = Q (some (.int (zI h 89 (10 * t + 7)))) h := c_oneg hM 7 (by omega) ht Q
theorem c_chg7 (hM : MS h) (ht : t < 6) (Q : zQq) : zCall (d + 2) 809 [.ref 88, .int (nI t), .int 7, .int x] h Q = Q (some (.int (zI h 89 (10 * t + 7)))) (wI h 89 (10 * t + 7) x) := c_chg hM 7 (by omega) ht Q

theorem c_one8 (hM : MS h) (ht : t < 6) (Q : zQq) : zCall (d + 1) 808 [.ref 88, .int (nI t), .int 8] h Q = Q (some (.int (zI h 89 (10 * t + 8)))) h := c_oneg hM 8 (by omega) ht Q
theorem c_chg8 (hM : MS h) (ht : t < 6) (Q : zQq) : zCall (d + 2) 809 [.ref 88, .int (nI t), .int 8, .int x] h Q = Q (some (.int (zI h 89 (10 * t + 8)))) (wI h 89 (10 * t + 8) x) := c_chg hM 8 (by omega) ht Q

theorem c_one9 (hM : MS h) (ht : t < 6) (Q : zQq) : zCall (d + 1) 808 [.ref 88, .int (nI t), .int 9] h Q = Q (some (.int (zI h 89 (10 * t + 9)))) h := c_oneg hM 9 (by omega) ht Q
theorem c_chg9 (hM : MS h) (ht : t < 6) (Q : zQq) : zCall (d + 2) 809 [.ref 88, .int (nI t), .int 9, .int x] h Q = Q (some (.int (zI h 89 (10 * t + 9)))) (wI h 89 (10 * t + 9) x) := c_chg hM 9 (by omega) ht Q

theorem c_isOnTheWay (hM : MS h) (ht : t < 6) (Q : zQq) : zCall (d + 2) 813 [.ref 88, .int (nI t)] h Q = Q (some (.int (bI (¬ zI h 89 (10 * t + 3) < 1 ∧ ¬ 9 < zI h 89 (10 * t + 3))))) h := by
  have co : ∀ Q, zCall (d + 1) 808 [.ref 88, .int (nI t), .int 3] h Q = Q (some (.int (zI h 89 (10 * t + 3)))) h := fun Q => c_one3 hM ht Q
  obtain ⟨m88, m89, m90, m91, m92, m93, m94, m95, m96, m97, m98, m99, m100, m101, m102, m103, m104, m105, m106, n0, n1, n2, n5, n7, n8, n10, n17, n18, n19, n20, n21, n22, n23, n25, n26, n27, n28⟩ := hM
  simp +decide only [Nat.reduceEqDiff, Nat.add_eq_left, Nat.left_eq_add, Nat.reduceAdd, Nat.reduceLeDiff, Nat.reduceMul, Nat.reduceSub, Nat.reduceLT, zlt8, zlt8_, zlt8n, zlt8n_, List.length_cons, List.length_nil, true_or, or_true, false_or, or_false, and_self, and_true, true_and, and_false, false_and, not_false_eq_true, not_true_eq_false, ite_true, ite_false, if_true, if_false, ite_not, zin, zpush_s, zpush_n, kl_int, kl_ref, kl_none, kl_kl, kl_long, kl_null, zT_wI, zT_wJ, zT_wR, zT_wIr, zT_wJr, zT_wRr, zI_wJ, zI_wR, zI_wJr, zI_wRr, zJ_wI, zJ_wR, zJ_wIr, zJ_wRr, zR_wI, zR_wJ, zR_wIr, zR_wJr, zN_wI, zN_wJ, zN_wR, zN_wIr, zN_wJr, zN_wRr, zZ_wI, zZ_wJ, zZ_wR, zZ_wIr, zZ_wJr, zZ_wRr, zI_wI, zJ_wJ, zR_wR, zI_wIr, zJ_wJr, zR_wRr, k813, g813_0, g813_1, g813_2, g813_3, g813_6, g813_7, g813_9, g813_12, m88, m89, m90, m91, m92, m93, m94, m95, m96, m97, m98, m99, m100, m101, m102, m103, m104, m105, m106, n0, n1, n2, n5, n7, n8, n10, n17, n18, n19, n20, n21, n22, n23, n25, n26, n27, n28, co, c_isIn, bI_z]
theorem c_standing_lp (hM : MS h) (hw : sOK (zI h 89) n D) (Q : zQq) : ∀ (m t : Nat) (s : Int32), t + m = n → zG (d + 1) 835 4 [some (.ref 88), some (.int x), some (.int s), some (.int (nI t))] [] h Q = Q (some (.int (lp (fun t s => if zI h 89 (10 * t + 3) = x then s ||| iShl 1 (nI t) else s) m t s))) h
  | 0, t, s, e => by
    obtain ⟨m88, m89, m90, m91, m92, m93, m94, m95, m96, m97, m98, m99, m100, m101, m102, m103, m104, m105, m106, n0, n1, n2, n5, n7, n8, n10, n17, n18, n19, n20, n21, n22, n23, n25, n26, n27, n28⟩ := hM
    have e : n = t := by omega
    subst e
    have w1 := hw.1
    simp +decide only [Nat.reduceEqDiff, Nat.add_eq_left, Nat.left_eq_add, Nat.reduceAdd, Nat.reduceLeDiff, Nat.reduceMul, Nat.reduceSub, Nat.reduceLT, zlt8, zlt8_, zlt8n, zlt8n_, List.length_cons, List.length_nil, true_or, or_true, false_or, or_false, and_self, and_true, true_and, and_false, false_and, not_false_eq_true, not_true_eq_false, ite_true, ite_false, if_true, if_false, ite_not, zin, zpush_s, zpush_n, kl_int, kl_ref, kl_none, kl_kl, kl_long, kl_null, zT_wI, zT_wJ, zT_wR, zT_wIr, zT_wJr, zT_wRr, zI_wJ, zI_wR, zI_wJr, zI_wRr, zJ_wI, zJ_wR, zJ_wIr, zJ_wRr, zR_wI, zR_wJ, zR_wIr, zR_wJr, zN_wI, zN_wJ, zN_wR, zN_wIr, zN_wJr, zN_wRr, zZ_wI, zZ_wJ, zZ_wR, zZ_wIr, zZ_wJr, zZ_wRr, zI_wI, zJ_wJ, zR_wR, zI_wIr, zJ_wJr, zR_wRr, g835_0, g835_1, g835_2, g835_3, g835_4, g835_5, g835_6, g835_9, g835_11, g835_12, g835_15, g835_16, g835_17, g835_18, g835_19, g835_22, g835_23, g835_26, g835_27, g835_28, g835_29, g835_32, g835_33, g835_34, g835_35, g835_38, g835_41, g835_42, m88, m89, m90, m91, m92, m93, m94, m95, m96, m97, m98, m99, m100, m101, m102, m103, m104, m105, m106, n0, n1, n2, n5, n7, n8, n10, n17, n18, n19, n20, n21, n22, n23, n25, n26, n27, n28, w1, i_le, Int32.lt_irrefl, lp_0, show Int32.toNatClampNeg 60 = 60 by decide, show ¬ (60 : Int32) < 0 by decide]
  | m + 1, t, s, e => by
    have ih := c_standing_lp hM hw Q m (t + 1)
    have hn := hw.2.1
    have co : ∀ Q, zCall (d + 1) 808 [.ref 88, .int (nI t), .int 3] h Q = Q (some (.int (zI h 89 (10 * t + 3)))) h := fun Q => c_one3 hM (by omega) Q
    obtain ⟨m88, m89, m90, m91, m92, m93, m94, m95, m96, m97, m98, m99, m100, m101, m102, m103, m104, m105, m106, n0, n1, n2, n5, n7, n8, n10, n17, n18, n19, n20, n21, n22, n23, n25, n26, n27, n28⟩ := hM
    have w1 := hw.1
    have z3 := nI_lt (a := t) (b := n) (by omega) (by omega)
    rw [g835_4]
    by_cases c : zI h 89 (10 * t + 3) = x <;> simp +decide only [Nat.reduceEqDiff, Nat.add_eq_left, Nat.left_eq_add, Nat.reduceAdd, Nat.reduceLeDiff, Nat.reduceMul, Nat.reduceSub, Nat.reduceLT, zlt8, zlt8_, zlt8n, zlt8n_, List.length_cons, List.length_nil, true_or, or_true, false_or, or_false, and_self, and_true, true_and, and_false, false_and, not_false_eq_true, not_true_eq_false, ite_true, ite_false, if_true, if_false, ite_not, zin, zpush_s, zpush_n, kl_int, kl_ref, kl_none, kl_kl, kl_long, kl_null, zT_wI, zT_wJ, zT_wR, zT_wIr, zT_wJr, zT_wRr, zI_wJ, zI_wR, zI_wJr, zI_wRr, zJ_wI, zJ_wR, zJ_wIr, zJ_wRr, zR_wI, zR_wJ, zR_wIr, zR_wJr, zN_wI, zN_wJ, zN_wR, zN_wIr, zN_wJr, zN_wRr, zZ_wI, zZ_wJ, zZ_wR, zZ_wIr, zZ_wJr, zZ_wRr, zI_wI, zJ_wJ, zR_wR, zI_wIr, zJ_wJr, zR_wRr, g835_0, g835_1, g835_2, g835_3, g835_5, g835_6, g835_9, g835_11, g835_12, g835_15, g835_16, g835_17, g835_18, g835_19, g835_22, g835_23, g835_26, g835_27, g835_28, g835_29, g835_32, g835_33, g835_34, g835_35, g835_38, g835_41, g835_42, m88, m89, m90, m91, m92, m93, m94, m95, m96, m97, m98, m99, m100, m101, m102, m103, m104, m105, m106, n0, n1, n2, n5, n7, n8, n10, n17, n18, n19, n20, n21, n22, n23, n25, n26, n27, n28, w1, co, z3, i_le, c, nI_1, lp_s, show Int32.toNatClampNeg 60 = 60 by decide, show ¬ (60 : Int32) < 0 by decide, Int32.or_zero] <;> exact ih _ (by omega)
theorem c_standing (hM : MS h) (hw : sOK (zI h 89) n D) (Q : zQq) : zCall (d + 2) 835 [.ref 88, .int x] h Q = Q (some (.int (sAt (zI h 89) n x))) h := by
  have := c_standing_lp (d := d) (x := x) hM hw Q n 0 0 (by omega)
  simp +decide only [Nat.reduceEqDiff, Nat.add_eq_left, Nat.left_eq_add, Nat.reduceAdd, Nat.reduceLeDiff, Nat.reduceMul, Nat.reduceSub, Nat.reduceLT, zlt8, zlt8_, zlt8n, zlt8n_, List.length_cons, List.length_nil, true_or, or_true, false_or, or_false, and_self, and_true, true_and, and_false, false_and, not_false_eq_true, not_true_eq_false, ite_true, ite_false, if_true, if_false, ite_not, zin, zpush_s, zpush_n, kl_int, kl_ref, kl_none, kl_kl, kl_long, kl_null, zT_wI, zT_wJ, zT_wR, zT_wIr, zT_wJr, zT_wRr, zI_wJ, zI_wR, zI_wJr, zI_wRr, zJ_wI, zJ_wR, zJ_wIr, zJ_wRr, zR_wI, zR_wJ, zR_wIr, zR_wJr, zN_wI, zN_wJ, zN_wR, zN_wIr, zN_wJr, zN_wRr, zZ_wI, zZ_wJ, zZ_wR, zZ_wIr, zZ_wJr, zZ_wRr, zI_wI, zJ_wJ, zR_wR, zI_wIr, zJ_wJr, zR_wRr, k835, g835_0, g835_1, g835_2, g835_3, g835_5, g835_6, g835_9, g835_11, g835_12, g835_15, g835_16, g835_17, g835_18, g835_19, g835_22, g835_23, g835_26, g835_27, g835_28, g835_29, g835_32, g835_33, g835_34, g835_35, g835_38, g835_41, g835_42]
  exact this
theorem c_backs_lp (hM : MS h) (hw : sOK (zI h 89) n D) (Q : zQq) : ∀ (m t : Nat) (s : Int32), t + m = n → zG (d + 1) 836 4 [some (.ref 88), some (.int s), some (.int (nI t))] [] h Q = Q (some (.int (lp (fun t s => if zI h 89 (10 * t + 4) = 1 then s ||| iShl 1 (nI t) else s) m t s))) h
  | 0, t, s, e => by
    obtain ⟨m88, m89, m90, m91, m92, m93, m94, m95, m96, m97, m98, m99, m100, m101, m102, m103, m104, m105, m106, n0, n1, n2, n5, n7, n8, n10, n17, n18, n19, n20, n21, n22, n23, n25, n26, n27, n28⟩ := hM
    have e : n = t := by omega
    subst e
    have w1 := hw.1
    simp +decide only [Nat.reduceEqDiff, Nat.add_eq_left, Nat.left_eq_add, Nat.reduceAdd, Nat.reduceLeDiff, Nat.reduceMul, Nat.reduceSub, Nat.reduceLT, zlt8, zlt8_, zlt8n, zlt8n_, List.length_cons, List.length_nil, true_or, or_true, false_or, or_false, and_self, and_true, true_and, and_false, false_and, not_false_eq_true, not_true_eq_false, ite_true, ite_false, if_true, if_false, ite_not, zin, zpush_s, zpush_n, kl_int, kl_ref, kl_none, kl_kl, kl_long, kl_null, zT_wI, zT_wJ, zT_wR, zT_wIr, zT_wJr, zT_wRr, zI_wJ, zI_wR, zI_wJr, zI_wRr, zJ_wI, zJ_wR, zJ_wIr, zJ_wRr, zR_wI, zR_wJ, zR_wIr, zR_wJr, zN_wI, zN_wJ, zN_wR, zN_wIr, zN_wJr, zN_wRr, zZ_wI, zZ_wJ, zZ_wR, zZ_wIr, zZ_wJr, zZ_wRr, zI_wI, zJ_wJ, zR_wR, zI_wIr, zJ_wJr, zR_wRr, g836_0, g836_1, g836_2, g836_3, g836_4, g836_5, g836_6, g836_9, g836_11, g836_12, g836_15, g836_16, g836_17, g836_18, g836_19, g836_22, g836_23, g836_24, g836_25, g836_26, g836_29, g836_32, g836_33, m88, m89, m90, m91, m92, m93, m94, m95, m96, m97, m98, m99, m100, m101, m102, m103, m104, m105, m106, n0, n1, n2, n5, n7, n8, n10, n17, n18, n19, n20, n21, n22, n23, n25, n26, n27, n28, w1, i_le, Int32.lt_irrefl, lp_0, show Int32.toNatClampNeg 60 = 60 by decide, show ¬ (60 : Int32) < 0 by decide]
  | m + 1, t, s, e => by
    have ih := c_backs_lp hM hw Q m (t + 1)
    have hn := hw.2.1
    have co : ∀ Q, zCall (d + 1) 808 [.ref 88, .int (nI t), .int 4] h Q = Q (some (.int (zI h 89 (10 * t + 4)))) h := fun Q => c_one4 hM (by omega) Q
    obtain ⟨m88, m89, m90, m91, m92, m93, m94, m95, m96, m97, m98, m99, m100, m101, m102, m103, m104, m105, m106, n0, n1, n2, n5, n7, n8, n10, n17, n18, n19, n20, n21, n22, n23, n25, n26, n27, n28⟩ := hM
    obtain ⟨w1, w2, w3, w4⟩ := hw
    have z3 := nI_lt (a := t) (b := n) (by omega) (by omega)
    have z0 : ∀ x : Int32, (0 : Int32) <<< x = 0 := fun x => by simp
    rw [g836_4]
    rcases w4 t (by omega) with c | c <;> simp +decide only [Nat.reduceEqDiff, Nat.add_eq_left, Nat.left_eq_add, Nat.reduceAdd, Nat.reduceLeDiff, Nat.reduceMul, Nat.reduceSub, Nat.reduceLT, zlt8, zlt8_, zlt8n, zlt8n_, List.length_cons, List.length_nil, true_or, or_true, false_or, or_false, and_self, and_true, true_and, and_false, false_and, not_false_eq_true, not_true_eq_false, ite_true, ite_false, if_true, if_false, ite_not, zin, zpush_s, zpush_n, kl_int, kl_ref, kl_none, kl_kl, kl_long, kl_null, zT_wI, zT_wJ, zT_wR, zT_wIr, zT_wJr, zT_wRr, zI_wJ, zI_wR, zI_wJr, zI_wRr, zJ_wI, zJ_wR, zJ_wIr, zJ_wRr, zR_wI, zR_wJ, zR_wIr, zR_wJr, zN_wI, zN_wJ, zN_wR, zN_wIr, zN_wJr, zN_wRr, zZ_wI, zZ_wJ, zZ_wR, zZ_wIr, zZ_wJr, zZ_wRr, zI_wI, zJ_wJ, zR_wR, zI_wIr, zJ_wJr, zR_wRr, g836_0, g836_1, g836_2, g836_3, g836_5, g836_6, g836_9, g836_11, g836_12, g836_15, g836_16, g836_17, g836_18, g836_19, g836_22, g836_23, g836_24, g836_25, g836_26, g836_29, g836_32, g836_33, m88, m89, m90, m91, m92, m93, m94, m95, m96, m97, m98, m99, m100, m101, m102, m103, m104, m105, m106, n0, n1, n2, n5, n7, n8, n10, n17, n18, n19, n20, n21, n22, n23, n25, n26, n27, n28, w1, co, z3, i_le, c, nI_1, lp_s, show Int32.toNatClampNeg 60 = 60 by decide, show ¬ (60 : Int32) < 0 by decide, z0, Int32.or_zero] <;> exact ih _ (by omega)
theorem c_backs (hM : MS h) (hw : sOK (zI h 89) n D) (Q : zQq) : zCall (d + 2) 836 [.ref 88] h Q = Q (some (.int (sBk (zI h 89) n))) h := by
  have := c_backs_lp (d := d) hM hw Q n 0 0 (by omega)
  simp +decide only [Nat.reduceEqDiff, Nat.add_eq_left, Nat.left_eq_add, Nat.reduceAdd, Nat.reduceLeDiff, Nat.reduceMul, Nat.reduceSub, Nat.reduceLT, zlt8, zlt8_, zlt8n, zlt8n_, List.length_cons, List.length_nil, true_or, or_true, false_or, or_false, and_self, and_true, true_and, and_false, false_and, not_false_eq_true, not_true_eq_false, ite_true, ite_false, if_true, if_false, ite_not, zin, zpush_s, zpush_n, kl_int, kl_ref, kl_none, kl_kl, kl_long, kl_null, zT_wI, zT_wJ, zT_wR, zT_wIr, zT_wJr, zT_wRr, zI_wJ, zI_wR, zI_wJr, zI_wRr, zJ_wI, zJ_wR, zJ_wIr, zJ_wRr, zR_wI, zR_wJ, zR_wIr, zR_wJr, zN_wI, zN_wJ, zN_wR, zN_wIr, zN_wJr, zN_wRr, zZ_wI, zZ_wJ, zZ_wR, zZ_wIr, zZ_wJr, zZ_wRr, zI_wI, zJ_wJ, zR_wR, zI_wIr, zJ_wJr, zR_wRr, k836, g836_0, g836_1, g836_2, g836_3, g836_5, g836_6, g836_9, g836_11, g836_12, g836_15, g836_16, g836_17, g836_18, g836_19, g836_22, g836_23, g836_24, g836_25, g836_26, g836_29, g836_32, g836_33]
  exact this
theorem c_isAnother_lp (hM : MS h) (hw : sOK (zI h 89) n D) (ht : t < n) (Q : zQq) : ∀ (m k : Nat) (s : Bool), k + m = n → zG (d + 1) 830 4 [some (.ref 88), some (.int (nI t)), some (.int (bB s)), some (.int (nI k))] [] h Q = Q (some (.int (bB (lp (fun k s => s || (k != t && zI h 89 (10 * k + 3) == 5)) m k s)))) h
  | 0, k, s, e => by
    obtain ⟨m88, m89, m90, m91, m92, m93, m94, m95, m96, m97, m98, m99, m100, m101, m102, m103, m104, m105, m106, n0, n1, n2, n5, n7, n8, n10, n17, n18, n19, n20, n21, n22, n23, n25, n26, n27, n28⟩ := hM
    have e : n = k := by omega
    subst e
    have w1 := hw.1
    have z := bB_z s
    rw [lp_0, g830_4]
    simp +decide only [Nat.reduceEqDiff, Nat.add_eq_left, Nat.left_eq_add, Nat.reduceAdd, Nat.reduceLeDiff, Nat.reduceMul, Nat.reduceSub, Nat.reduceLT, zlt8, zlt8_, zlt8n, zlt8n_, List.length_cons, List.length_nil, true_or, or_true, false_or, or_false, and_self, and_true, true_and, and_false, false_and, not_false_eq_true, not_true_eq_false, ite_true, ite_false, if_true, if_false, ite_not, zin, zpush_s, zpush_n, kl_int, kl_ref, kl_none, kl_kl, kl_long, kl_null, zT_wI, zT_wJ, zT_wR, zT_wIr, zT_wJr, zT_wRr, zI_wJ, zI_wR, zI_wJr, zI_wRr, zJ_wI, zJ_wR, zJ_wIr, zJ_wRr, zR_wI, zR_wJ, zR_wIr, zR_wJr, zN_wI, zN_wJ, zN_wR, zN_wIr, zN_wJr, zN_wRr, zZ_wI, zZ_wJ, zZ_wR, zZ_wIr, zZ_wJr, zZ_wRr, zI_wI, zJ_wJ, zR_wR, zI_wIr, zJ_wJr, zR_wRr, g830_0, g830_1, g830_2, g830_3, g830_5, g830_6, g830_9, g830_11, g830_12, g830_15, g830_16, g830_19, g830_20, g830_21, g830_24, g830_25, g830_26, g830_27, g830_30, g830_31, g830_34, g830_35, g830_38, g830_39, g830_40, g830_43, g830_46, g830_47, m88, m89, m90, m91, m92, m93, m94, m95, m96, m97, m98, m99, m100, m101, m102, m103, m104, m105, m106, n0, n1, n2, n5, n7, n8, n10, n17, n18, n19, n20, n21, n22, n23, n25, n26, n27, n28, w1, i_le, Int32.lt_irrefl, show Int32.toNatClampNeg 60 = 60 by decide, show ¬ (60 : Int32) < 0 by decide, z]
  | m + 1, k, s, e => by
    have ih := c_isAnother_lp hM hw ht Q m (k + 1)
    have hn := hw.2.1
    have co : ∀ Q, zCall (d + 1) 808 [.ref 88, .int (nI k), .int 3] h Q = Q (some (.int (zI h 89 (10 * k + 3)))) h := fun Q => c_one3 hM (by omega) Q
    obtain ⟨m88, m89, m90, m91, m92, m93, m94, m95, m96, m97, m98, m99, m100, m101, m102, m103, m104, m105, m106, n0, n1, n2, n5, n7, n8, n10, n17, n18, n19, n20, n21, n22, n23, n25, n26, n27, n28⟩ := hM
    have w1 := hw.1
    have z3 := nI_lt (a := k) (b := n) (by omega) (by omega)
    have z4 : (nI k = nI t) = (k = t) := propext (nI_eq (by omega) (by omega))
    rw [g830_4, lp_s, ← ih _ (by omega)]
    cases s with
    | true =>
      simp +decide only [Nat.reduceEqDiff, Nat.add_eq_left, Nat.left_eq_add, Nat.reduceAdd, Nat.reduceLeDiff, Nat.reduceMul, Nat.reduceSub, Nat.reduceLT, zlt8, zlt8_, zlt8n, zlt8n_, List.length_cons, List.length_nil, true_or, or_true, false_or, or_false, and_self, and_true, true_and, and_false, false_and, not_false_eq_true, not_true_eq_false, ite_true, ite_false, if_true, if_false, ite_not, zin, zpush_s, zpush_n, kl_int, kl_ref, kl_none, kl_kl, kl_long, kl_null, zT_wI, zT_wJ, zT_wR, zT_wIr, zT_wJr, zT_wRr, zI_wJ, zI_wR, zI_wJr, zI_wRr, zJ_wI, zJ_wR, zJ_wIr, zJ_wRr, zR_wI, zR_wJ, zR_wIr, zR_wJr, zN_wI, zN_wJ, zN_wR, zN_wIr, zN_wJr, zN_wRr, zZ_wI, zZ_wJ, zZ_wR, zZ_wIr, zZ_wJr, zZ_wRr, zI_wI, zJ_wJ, zR_wR, zI_wIr, zJ_wJr, zR_wRr, g830_0, g830_1, g830_2, g830_3, g830_5, g830_6, g830_9, g830_11, g830_12, g830_15, g830_16, g830_19, g830_20, g830_21, g830_24, g830_25, g830_26, g830_27, g830_30, g830_31, g830_34, g830_35, g830_38, g830_39, g830_40, g830_43, g830_46, g830_47, m88, m89, m90, m91, m92, m93, m94, m95, m96, m97, m98, m99, m100, m101, m102, m103, m104, m105, m106, n0, n1, n2, n5, n7, n8, n10, n17, n18, n19, n20, n21, n22, n23, n25, n26, n27, n28, w1, co, z3, z4, i_le, nI_1, show Int32.toNatClampNeg 60 = 60 by decide, show ¬ (60 : Int32) < 0 by decide, bB_t, Bool.true_or]
    | false =>
      by_cases c : k = t
      · have e1 : (k != t) = false := by simp [c]
        simp +decide only [Nat.reduceEqDiff, Nat.add_eq_left, Nat.left_eq_add, Nat.reduceAdd, Nat.reduceLeDiff, Nat.reduceMul, Nat.reduceSub, Nat.reduceLT, zlt8, zlt8_, zlt8n, zlt8n_, List.length_cons, List.length_nil, true_or, or_true, false_or, or_false, and_self, and_true, true_and, and_false, false_and, not_false_eq_true, not_true_eq_false, ite_true, ite_false, if_true, if_false, ite_not, zin, zpush_s, zpush_n, kl_int, kl_ref, kl_none, kl_kl, kl_long, kl_null, zT_wI, zT_wJ, zT_wR, zT_wIr, zT_wJr, zT_wRr, zI_wJ, zI_wR, zI_wJr, zI_wRr, zJ_wI, zJ_wR, zJ_wIr, zJ_wRr, zR_wI, zR_wJ, zR_wIr, zR_wJr, zN_wI, zN_wJ, zN_wR, zN_wIr, zN_wJr, zN_wRr, zZ_wI, zZ_wJ, zZ_wR, zZ_wIr, zZ_wJr, zZ_wRr, zI_wI, zJ_wJ, zR_wR, zI_wIr, zJ_wJr, zR_wRr, g830_0, g830_1, g830_2, g830_3, g830_5, g830_6, g830_9, g830_11, g830_12, g830_15, g830_16, g830_19, g830_20, g830_21, g830_24, g830_25, g830_26, g830_27, g830_30, g830_31, g830_34, g830_35, g830_38, g830_39, g830_40, g830_43, g830_46, g830_47, m88, m89, m90, m91, m92, m93, m94, m95, m96, m97, m98, m99, m100, m101, m102, m103, m104, m105, m106, n0, n1, n2, n5, n7, n8, n10, n17, n18, n19, n20, n21, n22, n23, n25, n26, n27, n28, w1, co, z3, z4, i_le, nI_1, show Int32.toNatClampNeg 60 = 60 by decide, show ¬ (60 : Int32) < 0 by decide, bB_f, e1, Bool.false_and, Bool.or_false]
        simp +decide only [Nat.reduceEqDiff, Nat.add_eq_left, Nat.left_eq_add, Nat.reduceAdd, Nat.reduceLeDiff, Nat.reduceMul, Nat.reduceSub, Nat.reduceLT, zlt8, zlt8_, zlt8n, zlt8n_, List.length_cons, List.length_nil, true_or, or_true, false_or, or_false, and_self, and_true, true_and, and_false, false_and, not_false_eq_true, not_true_eq_false, ite_true, ite_false, if_true, if_false, ite_not, zin, zpush_s, zpush_n, kl_int, kl_ref, kl_none, kl_kl, kl_long, kl_null, zT_wI, zT_wJ, zT_wR, zT_wIr, zT_wJr, zT_wRr, zI_wJ, zI_wR, zI_wJr, zI_wRr, zJ_wI, zJ_wR, zJ_wIr, zJ_wRr, zR_wI, zR_wJ, zR_wIr, zR_wJr, zN_wI, zN_wJ, zN_wR, zN_wIr, zN_wJr, zN_wRr, zZ_wI, zZ_wJ, zZ_wR, zZ_wIr, zZ_wJr, zZ_wRr, zI_wI, zJ_wJ, zR_wR, zI_wIr, zJ_wJr, zR_wRr, c]
      · by_cases c2 : zI h 89 (10 * k + 3) = 5
        · have e1 : (k != t) = true := by simp [c]
          have e2 : (zI h 89 (10 * k + 3) == 5) = true := by simp [c2]
          rw [e1, e2]
          simp +decide only [Nat.reduceEqDiff, Nat.add_eq_left, Nat.left_eq_add, Nat.reduceAdd, Nat.reduceLeDiff, Nat.reduceMul, Nat.reduceSub, Nat.reduceLT, zlt8, zlt8_, zlt8n, zlt8n_, List.length_cons, List.length_nil, true_or, or_true, false_or, or_false, and_self, and_true, true_and, and_false, false_and, not_false_eq_true, not_true_eq_false, ite_true, ite_false, if_true, if_false, ite_not, zin, zpush_s, zpush_n, kl_int, kl_ref, kl_none, kl_kl, kl_long, kl_null, zT_wI, zT_wJ, zT_wR, zT_wIr, zT_wJr, zT_wRr, zI_wJ, zI_wR, zI_wJr, zI_wRr, zJ_wI, zJ_wR, zJ_wIr, zJ_wRr, zR_wI, zR_wJ, zR_wIr, zR_wJr, zN_wI, zN_wJ, zN_wR, zN_wIr, zN_wJr, zN_wRr, zZ_wI, zZ_wJ, zZ_wR, zZ_wIr, zZ_wJr, zZ_wRr, zI_wI, zJ_wJ, zR_wR, zI_wIr, zJ_wJr, zR_wRr, g830_0, g830_1, g830_2, g830_3, g830_5, g830_6, g830_9, g830_11, g830_12, g830_15, g830_16, g830_19, g830_20, g830_21, g830_24, g830_25, g830_26, g830_27, g830_30, g830_31, g830_34, g830_35, g830_38, g830_39, g830_40, g830_43, g830_46, g830_47, m88, m89, m90, m91, m92, m93, m94, m95, m96, m97, m98, m99, m100, m101, m102, m103, m104, m105, m106, n0, n1, n2, n5, n7, n8, n10, n17, n18, n19, n20, n21, n22, n23, n25, n26, n27, n28, w1, co, z3, z4, c, c2, i_le, nI_1, show Int32.toNatClampNeg 60 = 60 by decide, show ¬ (60 : Int32) < 0 by decide, bB_f, bB_t, Bool.true_and, Bool.false_or]
        · have e2 : (zI h 89 (10 * k + 3) == 5) = false := by simp [c2]
          rw [e2]
          simp +decide only [Nat.reduceEqDiff, Nat.add_eq_left, Nat.left_eq_add, Nat.reduceAdd, Nat.reduceLeDiff, Nat.reduceMul, Nat.reduceSub, Nat.reduceLT, zlt8, zlt8_, zlt8n, zlt8n_, List.length_cons, List.length_nil, true_or, or_true, false_or, or_false, and_self, and_true, true_and, and_false, false_and, not_false_eq_true, not_true_eq_false, ite_true, ite_false, if_true, if_false, ite_not, zin, zpush_s, zpush_n, kl_int, kl_ref, kl_none, kl_kl, kl_long, kl_null, zT_wI, zT_wJ, zT_wR, zT_wIr, zT_wJr, zT_wRr, zI_wJ, zI_wR, zI_wJr, zI_wRr, zJ_wI, zJ_wR, zJ_wIr, zJ_wRr, zR_wI, zR_wJ, zR_wIr, zR_wJr, zN_wI, zN_wJ, zN_wR, zN_wIr, zN_wJr, zN_wRr, zZ_wI, zZ_wJ, zZ_wR, zZ_wIr, zZ_wJr, zZ_wRr, zI_wI, zJ_wJ, zR_wR, zI_wIr, zJ_wJr, zR_wRr, g830_0, g830_1, g830_2, g830_3, g830_5, g830_6, g830_9, g830_11, g830_12, g830_15, g830_16, g830_19, g830_20, g830_21, g830_24, g830_25, g830_26, g830_27, g830_30, g830_31, g830_34, g830_35, g830_38, g830_39, g830_40, g830_43, g830_46, g830_47, m88, m89, m90, m91, m92, m93, m94, m95, m96, m97, m98, m99, m100, m101, m102, m103, m104, m105, m106, n0, n1, n2, n5, n7, n8, n10, n17, n18, n19, n20, n21, n22, n23, n25, n26, n27, n28, w1, co, z3, z4, c, c2, i_le, nI_1, show Int32.toNatClampNeg 60 = 60 by decide, show ¬ (60 : Int32) < 0 by decide, bB_f, Bool.and_false, Bool.false_or]
theorem c_isAnother (hM : MS h) (hw : sOK (zI h 89) n D) (ht : t < n) (Q : zQq) : zCall (d + 2) 830 [.ref 88, .int (nI t)] h Q = Q (some (.int (bB (sAn (zI h 89) n t)))) h := by
  have := c_isAnother_lp (d := d) hM hw ht Q n 0 false (by omega)
  simp +decide only [Nat.reduceEqDiff, Nat.add_eq_left, Nat.left_eq_add, Nat.reduceAdd, Nat.reduceLeDiff, Nat.reduceMul, Nat.reduceSub, Nat.reduceLT, zlt8, zlt8_, zlt8n, zlt8n_, List.length_cons, List.length_nil, true_or, or_true, false_or, or_false, and_self, and_true, true_and, and_false, false_and, not_false_eq_true, not_true_eq_false, ite_true, ite_false, if_true, if_false, ite_not, zin, zpush_s, zpush_n, kl_int, kl_ref, kl_none, kl_kl, kl_long, kl_null, zT_wI, zT_wJ, zT_wR, zT_wIr, zT_wJr, zT_wRr, zI_wJ, zI_wR, zI_wJr, zI_wRr, zJ_wI, zJ_wR, zJ_wIr, zJ_wRr, zR_wI, zR_wJ, zR_wIr, zR_wJr, zN_wI, zN_wJ, zN_wR, zN_wIr, zN_wJr, zN_wRr, zZ_wI, zZ_wJ, zZ_wR, zZ_wIr, zZ_wJr, zZ_wRr, zI_wI, zJ_wJ, zR_wR, zI_wIr, zJ_wJr, zR_wRr, k830, g830_0, g830_1, g830_2, g830_3, g830_5, g830_6, g830_9, g830_11, g830_12, g830_15, g830_16, g830_19, g830_20, g830_21, g830_24, g830_25, g830_26, g830_27, g830_30, g830_31, g830_34, g830_35, g830_38, g830_39, g830_40, g830_43, g830_46, g830_47]
  exact this
/-- one row to another, as far as the reference's rows go -/
def sMv (f g : zW0) (k : Nat) : Int32 := if k < 118 then f k else g k
theorem c_move_lp (hab : ¬ a = b) (h1 : zT h a = (20, 118)) (h2 : zT h b = (20, 118)) (Q : zQq) : ∀ (m k : Nat) (g : zW0), k + m = 118 → zG d 804 2 [some (.ref a), some (.ref b), some (.int (nI k))] [] (wIr h b g) Q = Q none (wIr h b (lp (fun k g => va_up g k (zI h a k)) m k g))
  | 0, k, g, e => by
    have e : k = 118 := by omega
    subst e
    simp +decide only [Nat.reduceEqDiff, Nat.add_eq_left, Nat.left_eq_add, Nat.reduceAdd, Nat.reduceLeDiff, Nat.reduceMul, Nat.reduceSub, Nat.reduceLT, zlt8, zlt8_, zlt8n, zlt8n_, List.length_cons, List.length_nil, true_or, or_true, false_or, or_false, and_self, and_true, true_and, and_false, false_and, not_false_eq_true, not_true_eq_false, ite_true, ite_false, if_true, if_false, ite_not, zin, zpush_s, zpush_n, kl_int, kl_ref, kl_none, kl_kl, kl_long, kl_null, zT_wI, zT_wJ, zT_wR, zT_wIr, zT_wJr, zT_wRr, zI_wJ, zI_wR, zI_wJr, zI_wRr, zJ_wI, zJ_wR, zJ_wIr, zJ_wRr, zR_wI, zR_wJ, zR_wIr, zR_wJr, zN_wI, zN_wJ, zN_wR, zN_wIr, zN_wJr, zN_wRr, zZ_wI, zZ_wJ, zZ_wR, zZ_wIr, zZ_wJr, zZ_wRr, zI_wI, zJ_wJ, zR_wR, zI_wIr, zJ_wJr, zR_wRr, g804_0, g804_1, g804_2, g804_3, g804_5, g804_8, g804_9, g804_10, g804_11, g804_12, g804_13, g804_14, g804_17, g804_20, i_le, show ¬ nI 118 < 118 by decide, lp_0]
  | m + 1, k, g, e => by
    have ih := c_move_lp hab h1 h2 Q m (k + 1)
    have y1 := nI_pos (n := k) (by omega)
    have y2 := nI_clamp (n := k) (by omega)
    have z3 : nI k < 118 := nI_lt (a := k) (b := 118) (by omega) (by omega)
    have er : ∀ k x, wI (wIr h b g) b k x = wIr h b (va_up g k x) := fun k x => by
      have e : zI (wIr h b g) b = g := by rw [zI_wIr, if_pos rfl]
      unfold wI
      rw [e]
      unfold wIr
      congr 1
      congr 1
      funext c
      unfold z2
      show (if c = b then _ else if c = b then g else h.2.1 c) = _
      split <;> rfl
    rw [g804_2]
    simp +decide only [Nat.reduceEqDiff, Nat.add_eq_left, Nat.left_eq_add, Nat.reduceAdd, Nat.reduceLeDiff, Nat.reduceMul, Nat.reduceSub, Nat.reduceLT, zlt8, zlt8_, zlt8n, zlt8n_, List.length_cons, List.length_nil, true_or, or_true, false_or, or_false, and_self, and_true, true_and, and_false, false_and, not_false_eq_true, not_true_eq_false, ite_true, ite_false, if_true, if_false, ite_not, zin, zpush_s, zpush_n, kl_int, kl_ref, kl_none, kl_kl, kl_long, kl_null, zT_wI, zT_wJ, zT_wR, zT_wIr, zT_wJr, zT_wRr, zI_wJ, zI_wR, zI_wJr, zI_wRr, zJ_wI, zJ_wR, zJ_wIr, zJ_wRr, zR_wI, zR_wJ, zR_wIr, zR_wJr, zN_wI, zN_wJ, zN_wR, zN_wIr, zN_wJr, zN_wRr, zZ_wI, zZ_wJ, zZ_wR, zZ_wIr, zZ_wJr, zZ_wRr, zI_wI, zJ_wJ, zR_wR, zI_wIr, zJ_wJr, zR_wRr, g804_0, g804_1, g804_3, g804_5, g804_8, g804_9, g804_10, g804_11, g804_12, g804_13, g804_14, g804_17, g804_20, h1, h2, y1, y2, z3, i_le, show k < 118 by omega, er, nI_1, lp_s, hab]
    exact ih _ (by omega)
theorem c_move (hab : ¬ a = b) (h1 : zT h a = (20, 118)) (h2 : zT h b = (20, 118)) (Q : zQq) : zCall (d + 1) 804 [.ref a, .ref b] h Q = Q none (wIr h b (sMv (zI h a) (zI h b))) := by
  have e0 : wIr h b (zI h b) = h := by
    unfold wIr
    have : z2 h.2.1 b (zI h b) = h.2.1 := by
      funext c
      unfold z2
      split
      · next e => subst e; rfl
      · rfl
    rw [this]
  have := c_move_lp (d := d) hab h1 h2 Q 118 0 (zI h b) (by omega)
  rw [e0] at this
  have e1 : lp (fun k g => va_up g k (zI h a k)) 118 0 (zI h b) = sMv (zI h a) (zI h b) := by
    have key := lp_i (f := fun k g => va_up g k (zI h a k)) (fun k g => ∀ j, g j = if j < k then zI h a j else zI h b j) 118 0 (zI h b) (fun j => by simp) (fun k h1 h2 g hg j => by
      show va_up g k (zI h a k) j = _
      rw [up_a]
      split
      · next e => subst e; rw [if_pos (by omega)]
      · rw [hg]
        split
        · rw [if_pos (by omega)]
        · rw [if_neg (by omega)])
    funext j
    exact key j
  rw [e1] at this
  simp +decide only [Nat.reduceEqDiff, Nat.add_eq_left, Nat.left_eq_add, Nat.reduceAdd, Nat.reduceLeDiff, Nat.reduceMul, Nat.reduceSub, Nat.reduceLT, zlt8, zlt8_, zlt8n, zlt8n_, List.length_cons, List.length_nil, true_or, or_true, false_or, or_false, and_self, and_true, true_and, and_false, false_and, not_false_eq_true, not_true_eq_false, ite_true, ite_false, if_true, if_false, ite_not, zin, zpush_s, zpush_n, kl_int, kl_ref, kl_none, kl_kl, kl_long, kl_null, zT_wI, zT_wJ, zT_wR, zT_wIr, zT_wJr, zT_wRr, zI_wJ, zI_wR, zI_wJr, zI_wRr, zJ_wI, zJ_wR, zJ_wIr, zJ_wRr, zR_wI, zR_wJ, zR_wIr, zR_wJr, zN_wI, zN_wJ, zN_wR, zN_wIr, zN_wJr, zN_wRr, zZ_wI, zZ_wJ, zZ_wR, zZ_wIr, zZ_wJr, zZ_wRr, zI_wI, zJ_wJ, zR_wR, zI_wIr, zJ_wJr, zR_wRr, k804, g804_0, g804_1, g804_3, g804_5, g804_8, g804_9, g804_10, g804_11, g804_12, g804_13, g804_14, g804_17, g804_20]
  exact this
