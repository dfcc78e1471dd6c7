-- needs 32.mdays2
variable {d a b n t D K : Nat} {h : zH} {w : zW0} {fo x y z py p : Int32} {sv : Value} {ex : zW0 → Int32}
/-! what days leave as it was -/
theorem sGw_out (w : zW0) {t : Nat} (ht : t < 6) {k : Nat} (hk : 62 ≤ k) : sGw p ex n t w k = w k := by
  have e1 : ∀ v : zW0, sG1 v t k = v k := fun v => up_n _ _ (by omega)
  have e2 : ∀ v : zW0, sG2 v t k = v k := fun v => by unfold sG2; split <;> first | rfl | exact up_n _ _ (by omega)
  have e3 : ∀ (v : zW0) o, sG3 v t o k = v k := fun v o => by unfold sG3; rw [up_n _ _ (by omega), up_n _ _ (by omega), up_n _ _ (by omega), up_n _ _ (by omega)]
  have e4 : ∀ (v : zW0) o, sG4 v t o k = v k := fun v o => by unfold sG4; split <;> first | rfl | exact e3 v o
  unfold sGw
  split
  · rfl
  · unfold sGo
    split
    · rw [e4, e2, e1]
    · rw [e2, e1]
theorem sDay_out (w : zW0) (hn : n ≤ 6) {k : Nat} (hk : 63 ≤ k) : sDay p ex n w k = w k := by
  unfold sDay
  rw [up_n _ _ (by omega)]
  exact lp_i (f := sGw p ex n) (fun _ v => v k = w k) n 0 w rfl (fun j h1 h2 s hs => by rw [sGw_out s (by omega) (by omega)]; exact hs)
theorem sDays_out (w : zW0) (hn : n ≤ 6) (K : Nat) {k : Nat} (hk : 63 ≤ k) : sDays p ex n K w k = w k :=
  lp_i (f := fun _ w => sDay p ex n w) (fun _ v => v k = w k) K 0 w rfl (fun j h1 h2 s hs => by rw [sDay_out s hn hk]; exact hs)
theorem c_day_in (hn : n ≤ 6) (hD : D < 2 ^ 31) (hp : (if fo < 0 then py else fo) = p) : ∀ (m t : Nat) (h : zH), t + m = n → MO h → sOK (zI h 89) n D → Tx h (zI h 89) py ex → zI h 88 4 = fo → ∃ h1, FS SN h h1 ∧ zI h1 89 = lp (sGw p ex n) m t (zI h 89) ∧ ∀ Q, zG (d + 23) 833 2 [some (.ref 88), some (.int (nI t))] [] h Q = zG (d + 23) 833 35 [some (.ref 88), some (.int (nI n))] [] h1 Q
  | 0, t, h, e, hM, hw, hT, hf => by
    have e : n = t := by omega
    subst e
    refine ⟨h, FS_r _ _, rfl, fun Q => ?_⟩
    have w1 := hw.1
    obtain ⟨m88, m89, m90, m91, m92, m93, m94, m95, m96, m97, m98, m99, m100, m101, m102, m103, m104, m105, m106, n0, n1, n2, n5, n7, n8, n10, n17, n18, n19, n20, n21, n22, n23, n25, n26, n27, n28⟩ := hM.1
    rw [g833_2]
    simp +decide only [Nat.reduceEqDiff, Nat.add_eq_left, Nat.left_eq_add, Nat.reduceAdd, Nat.reduceLeDiff, Nat.reduceMul, Nat.reduceSub, Nat.reduceLT, zlt8, zlt8_, zlt8n, zlt8n_, List.length_cons, List.length_nil, true_or, or_true, false_or, or_false, and_self, and_true, true_and, and_false, false_and, not_false_eq_true, not_true_eq_false, ite_true, ite_false, if_true, if_false, ite_not, zin, zpush_s, zpush_n, kl_int, kl_ref, kl_none, kl_kl, kl_long, kl_null, zT_wI, zT_wJ, zT_wR, zT_wIr, zT_wJr, zT_wRr, zI_wJ, zI_wR, zI_wJr, zI_wRr, zJ_wI, zJ_wR, zJ_wIr, zJ_wRr, zR_wI, zR_wJ, zR_wIr, zR_wJr, zN_wI, zN_wJ, zN_wR, zN_wIr, zN_wJr, zN_wRr, zZ_wI, zZ_wJ, zZ_wR, zZ_wIr, zZ_wJr, zZ_wRr, zI_wI, zJ_wJ, zR_wR, zI_wIr, zJ_wJr, zR_wRr, g833_0, g833_1, g833_3, g833_4, g833_7, g833_9, g833_10, g833_13, g833_14, g833_15, g833_16, g833_19, g833_21, g833_24, g833_25, g833_26, g833_29, g833_32, g833_35, g833_36, g833_39, g833_41, g833_42, g833_43, g833_44, g833_45, g833_46, m88, m89, m90, m91, m92, m93, m94, m95, m96, m97, m98, m99, m100, m101, m102, m103, m104, m105, m106, n0, n1, n2, n5, n7, n8, n10, n17, n18, n19, n20, n21, n22, n23, n25, n26, n27, n28, w1, i_le, Int32.lt_irrefl, show Int32.toNatClampNeg 60 = 60 by decide, show ¬ (60 : Int32) < 0 by decide]
  | m + 1, t, h, e, hM, hw, hT, hf => by
    have ht : t < n := by omega
    have w1 := hw.1
    have M1 := hM.1
    have z3 := nI_lt (a := t) (b := n) (by omega) (by omega)
    by_cases c0 : zI h 89 (10 * t + 3) = 10
    · obtain ⟨h2, f2, e2, c2⟩ := c_day_in hn hD hp m (t + 1) h (by omega) hM hw hT hf
      refine ⟨h2, f2, by rw [lp_s, e2]; unfold sGw; rw [if_pos c0], fun Q => ?_⟩
      obtain ⟨m88, m89, m90, m91, m92, m93, m94, m95, m96, m97, m98, m99, m100, m101, m102, m103, m104, m105, m106, n0, n1, n2, n5, n7, n8, n10, n17, n18, n19, n20, n21, n22, n23, n25, n26, n27, n28⟩ := hM.1
      rw [g833_2]
      simp +decide only [Nat.reduceEqDiff, Nat.add_eq_left, Nat.left_eq_add, Nat.reduceAdd, Nat.reduceLeDiff, Nat.reduceMul, Nat.reduceSub, Nat.reduceLT, zlt8, zlt8_, zlt8n, zlt8n_, List.length_cons, List.length_nil, true_or, or_true, false_or, or_false, and_self, and_true, true_and, and_false, false_and, not_false_eq_true, not_true_eq_false, ite_true, ite_false, if_true, if_false, ite_not, zin, zpush_s, zpush_n, kl_int, kl_ref, kl_none, kl_kl, kl_long, kl_null, zT_wI, zT_wJ, zT_wR, zT_wIr, zT_wJr, zT_wRr, zI_wJ, zI_wR, zI_wJr, zI_wRr, zJ_wI, zJ_wR, zJ_wIr, zJ_wRr, zR_wI, zR_wJ, zR_wIr, zR_wJr, zN_wI, zN_wJ, zN_wR, zN_wIr, zN_wJr, zN_wRr, zZ_wI, zZ_wJ, zZ_wR, zZ_wIr, zZ_wJr, zZ_wRr, zI_wI, zJ_wJ, zR_wR, zI_wIr, zJ_wJr, zR_wRr, g833_0, g833_1, g833_3, g833_4, g833_7, g833_9, g833_10, g833_13, g833_14, g833_15, g833_16, g833_19, g833_21, g833_24, g833_25, g833_26, g833_29, g833_32, g833_35, g833_36, g833_39, g833_41, g833_42, g833_43, g833_44, g833_45, g833_46, m88, m89, m90, m91, m92, m93, m94, m95, m96, m97, m98, m99, m100, m101, m102, m103, m104, m105, m106, n0, n1, n2, n5, n7, n8, n10, n17, n18, n19, n20, n21, n22, n23, n25, n26, n27, n28, w1, i_le, z3, c_one3, M1, show t < 6 by omega, c0, nI_1, c2, show Int32.toNatClampNeg 60 = 60 by decide, show ¬ (60 : Int32) < 0 by decide]
    · obtain ⟨h1, f1, e1, c1⟩ := c_goes (d := d) (t := t) hM hw hD ht hT hf hp
      have e1' : zI h1 89 = sGw p ex n t (zI h 89) := by rw [e1]; unfold sGw; rw [if_neg c0]
      obtain ⟨h2, f2, e2, c2⟩ := c_day_in hn hD hp m (t + 1) h1 (by omega) (MO_N f1 hM) (by rw [e1']; exact sGw_ok hw ht) (Tx_f SN_T f1 (by rw [e1']; exact sGw_out _ (by omega) (by omega)) hT) (by rw [f1.2.2.2.2.1 _ _ (by unfold SN; omega)]; exact hf)
      refine ⟨h2, FS_t f1 f2, by rw [lp_s, e2, e1'], fun Q => ?_⟩
      obtain ⟨m88, m89, m90, m91, m92, m93, m94, m95, m96, m97, m98, m99, m100, m101, m102, m103, m104, m105, m106, n0, n1, n2, n5, n7, n8, n10, n17, n18, n19, n20, n21, n22, n23, n25, n26, n27, n28⟩ := hM.1
      rw [g833_2]
      simp +decide only [Nat.reduceEqDiff, Nat.add_eq_left, Nat.left_eq_add, Nat.reduceAdd, Nat.reduceLeDiff, Nat.reduceMul, Nat.reduceSub, Nat.reduceLT, zlt8, zlt8_, zlt8n, zlt8n_, List.length_cons, List.length_nil, true_or, or_true, false_or, or_false, and_self, and_true, true_and, and_false, false_and, not_false_eq_true, not_true_eq_false, ite_true, ite_false, if_true, if_false, ite_not, zin, zpush_s, zpush_n, kl_int, kl_ref, kl_none, kl_kl, kl_long, kl_null, zT_wI, zT_wJ, zT_wR, zT_wIr, zT_wJr, zT_wRr, zI_wJ, zI_wR, zI_wJr, zI_wRr, zJ_wI, zJ_wR, zJ_wIr, zJ_wRr, zR_wI, zR_wJ, zR_wIr, zR_wJr, zN_wI, zN_wJ, zN_wR, zN_wIr, zN_wJr, zN_wRr, zZ_wI, zZ_wJ, zZ_wR, zZ_wIr, zZ_wJr, zZ_wRr, zI_wI, zJ_wJ, zR_wR, zI_wIr, zJ_wJr, zR_wRr, g833_0, g833_1, g833_3, g833_4, g833_7, g833_9, g833_10, g833_13, g833_14, g833_15, g833_16, g833_19, g833_21, g833_24, g833_25, g833_26, g833_29, g833_32, g833_35, g833_36, g833_39, g833_41, g833_42, g833_43, g833_44, g833_45, g833_46, m88, m89, m90, m91, m92, m93, m94, m95, m96, m97, m98, m99, m100, m101, m102, m103, m104, m105, m106, n0, n1, n2, n5, n7, n8, n10, n17, n18, n19, n20, n21, n22, n23, n25, n26, n27, n28, w1, i_le, z3, c_one3, M1, show t < 6 by omega, c0, nI_1, c1, c2, show Int32.toNatClampNeg 60 = 60 by decide, show ¬ (60 : Int32) < 0 by decide]
theorem c_day (hD : D < 2 ^ 31) (hp : (if fo < 0 then py else fo) = p) (hM : MO h) (hw : sOK (zI h 89) n D) (hT : Tx h (zI h 89) py ex) (hf : zI h 88 4 = fo) : ∃ h1, FS SN h h1 ∧ zI h1 89 = sDay p ex n (zI h 89) ∧ ∀ Q, zCall (d + 24) 833 [.ref 88] h Q = Q none h1 := by
  obtain ⟨h1, f1, e1, c1⟩ := c_day_in (d := d) hw.2.1 hD hp n 0 h (by omega) hM hw hT hf
  refine ⟨wI h1 89 62 (zI h1 89 62 + 1), FS_t f1 (FS_I _ (by unfold SN; omega)), ?_, fun Q => ?_⟩
  · rw [zI_wI, if_pos rfl, e1]; rfl
  · obtain ⟨m88, m89, m90, m91, m92, m93, m94, m95, m96, m97, m98, m99, m100, m101, m102, m103, m104, m105, m106, n0, n1, n2, n5, n7, n8, n10, n17, n18, n19, n20, n21, n22, n23, n25, n26, n27, n28⟩ := (MO_N f1 hM).1
    simp +decide only [Nat.reduceEqDiff, Nat.add_eq_left, Nat.left_eq_add, Nat.reduceAdd, Nat.reduceLeDiff, Nat.reduceMul, Nat.reduceSub, Nat.reduceLT, zlt8, zlt8_, zlt8n, zlt8n_, List.length_cons, List.length_nil, true_or, or_true, false_or, or_false, and_self, and_true, true_and, and_false, false_and, not_false_eq_true, not_true_eq_false, ite_true, ite_false, if_true, if_false, ite_not, zin, zpush_s, zpush_n, kl_int, kl_ref, kl_none, kl_kl, kl_long, kl_null, zT_wI, zT_wJ, zT_wR, zT_wIr, zT_wJr, zT_wRr, zI_wJ, zI_wR, zI_wJr, zI_wRr, zJ_wI, zJ_wR, zJ_wIr, zJ_wRr, zR_wI, zR_wJ, zR_wIr, zR_wJr, zN_wI, zN_wJ, zN_wR, zN_wIr, zN_wJr, zN_wRr, zZ_wI, zZ_wJ, zZ_wR, zZ_wIr, zZ_wJr, zZ_wRr, zI_wI, zJ_wJ, zR_wR, zI_wIr, zJ_wJr, zR_wRr, k833, g833_0, g833_1]
    rw [show (0 : Int32) = nI 0 from rfl, c1]
    simp +decide only [Nat.reduceEqDiff, Nat.add_eq_left, Nat.left_eq_add, Nat.reduceAdd, Nat.reduceLeDiff, Nat.reduceMul, Nat.reduceSub, Nat.reduceLT, zlt8, zlt8_, zlt8n, zlt8n_, List.length_cons, List.length_nil, true_or, or_true, false_or, or_false, and_self, and_true, true_and, and_false, false_and, not_false_eq_true, not_true_eq_false, ite_true, ite_false, if_true, if_false, ite_not, zin, zpush_s, zpush_n, kl_int, kl_ref, kl_none, kl_kl, kl_long, kl_null, zT_wI, zT_wJ, zT_wR, zT_wIr, zT_wJr, zT_wRr, zI_wJ, zI_wR, zI_wJr, zI_wRr, zJ_wI, zJ_wR, zJ_wIr, zJ_wRr, zR_wI, zR_wJ, zR_wIr, zR_wJr, zN_wI, zN_wJ, zN_wR, zN_wIr, zN_wJr, zN_wRr, zZ_wI, zZ_wJ, zZ_wR, zZ_wIr, zZ_wJr, zZ_wRr, zI_wI, zJ_wJ, zR_wR, zI_wIr, zJ_wJr, zR_wRr, g833_35, g833_36, g833_39, g833_41, g833_42, g833_43, g833_44, g833_45, g833_46, m88, m89, m90, m91, m92, m93, m94, m95, m96, m97, m98, m99, m100, m101, m102, m103, m104, m105, m106, n0, n1, n2, n5, n7, n8, n10, n17, n18, n19, n20, n21, n22, n23, n25, n26, n27, n28, show Int32.toNatClampNeg 62 = 62 by decide, show ¬ (62 : Int32) < 0 by decide]
theorem c_days_lp (hn : n ≤ 6) (hK : K < 2 ^ 31) (hp : (if fo < 0 then py else fo) = p) : ∀ (m k D : Nat) (h : zH), k + m = K → D + m < 2 ^ 31 → MO h → sOK (zI h 89) n D → Tx h (zI h 89) py ex → zI h 88 4 = fo → ∃ h1, FS SN h h1 ∧ zI h1 89 = lp (fun _ w => sDay p ex n w) m k (zI h 89) ∧ ∀ Q, zG (d + 24) 834 2 [some (.ref 88), some (.int (nI K)), some (.int (nI k))] [] h Q = Q none h1
  | 0, k, D, h, e, hD, hM, hw, hT, hf => by
    have e : K = k := by omega
    subst e
    refine ⟨h, FS_r _ _, rfl, fun Q => ?_⟩
    rw [g834_2]
    simp +decide only [Nat.reduceEqDiff, Nat.add_eq_left, Nat.left_eq_add, Nat.reduceAdd, Nat.reduceLeDiff, Nat.reduceMul, Nat.reduceSub, Nat.reduceLT, zlt8, zlt8_, zlt8n, zlt8n_, List.length_cons, List.length_nil, true_or, or_true, false_or, or_false, and_self, and_true, true_and, and_false, false_and, not_false_eq_true, not_true_eq_false, ite_true, ite_false, if_true, if_false, ite_not, zin, zpush_s, zpush_n, kl_int, kl_ref, kl_none, kl_kl, kl_long, kl_null, zT_wI, zT_wJ, zT_wR, zT_wIr, zT_wJr, zT_wRr, zI_wJ, zI_wR, zI_wJr, zI_wRr, zJ_wI, zJ_wR, zJ_wIr, zJ_wRr, zR_wI, zR_wJ, zR_wIr, zR_wJr, zN_wI, zN_wJ, zN_wR, zN_wIr, zN_wJr, zN_wRr, zZ_wI, zZ_wJ, zZ_wR, zZ_wIr, zZ_wJr, zZ_wRr, zI_wI, zJ_wJ, zR_wR, zI_wIr, zJ_wJr, zR_wRr, g834_0, g834_1, g834_3, g834_4, g834_7, g834_8, g834_11, g834_14, g834_17, i_le, Int32.lt_irrefl]
  | m + 1, k, D, h, e, hD, hM, hw, hT, hf => by
    obtain ⟨h1, f1, e1, c1⟩ := c_day (d := d) (D := D) (by omega) hp hM hw hT hf
    obtain ⟨h2, f2, e2, c2⟩ := c_days_lp hn hK hp m (k + 1) (D + 1) h1 (by omega) (by omega) (MO_N f1 hM) (by rw [e1]; exact sDay_ok hw) (Tx_f SN_T f1 (by rw [e1]; exact sDay_out _ hn (by omega)) hT) (by rw [f1.2.2.2.2.1 _ _ (by unfold SN; omega)]; exact hf)
    refine ⟨h2, FS_t f1 f2, by rw [lp_s, e2, e1], fun Q => ?_⟩
    have z3 := nI_lt (a := k) (b := K) (by omega) (by omega)
    obtain ⟨m88, m89, m90, m91, m92, m93, m94, m95, m96, m97, m98, m99, m100, m101, m102, m103, m104, m105, m106, n0, n1, n2, n5, n7, n8, n10, n17, n18, n19, n20, n21, n22, n23, n25, n26, n27, n28⟩ := hM.1
    rw [g834_2]
    simp +decide only [Nat.reduceEqDiff, Nat.add_eq_left, Nat.left_eq_add, Nat.reduceAdd, Nat.reduceLeDiff, Nat.reduceMul, Nat.reduceSub, Nat.reduceLT, zlt8, zlt8_, zlt8n, zlt8n_, List.length_cons, List.length_nil, true_or, or_true, false_or, or_false, and_self, and_true, true_and, and_false, false_and, not_false_eq_true, not_true_eq_false, ite_true, ite_false, if_true, if_false, ite_not, zin, zpush_s, zpush_n, kl_int, kl_ref, kl_none, kl_kl, kl_long, kl_null, zT_wI, zT_wJ, zT_wR, zT_wIr, zT_wJr, zT_wRr, zI_wJ, zI_wR, zI_wJr, zI_wRr, zJ_wI, zJ_wR, zJ_wIr, zJ_wRr, zR_wI, zR_wJ, zR_wIr, zR_wJr, zN_wI, zN_wJ, zN_wR, zN_wIr, zN_wJr, zN_wRr, zZ_wI, zZ_wJ, zZ_wR, zZ_wIr, zZ_wJr, zZ_wRr, zI_wI, zJ_wJ, zR_wR, zI_wIr, zJ_wJr, zR_wRr, g834_0, g834_1, g834_3, g834_4, g834_7, g834_8, g834_11, g834_14, g834_17, m88, m89, m90, m91, m92, m93, m94, m95, m96, m97, m98, m99, m100, m101, m102, m103, m104, m105, m106, n0, n1, n2, n5, n7, n8, n10, n17, n18, n19, n20, n21, n22, n23, n25, n26, n27, n28, z3, i_le, c1, nI_1, c2]
theorem c_days (hK : K < 2 ^ 31) (hD : D + K < 2 ^ 31) (hp : (if fo < 0 then py else fo) = p) (hM : MO h) (hw : sOK (zI h 89) n D) (hT : Tx h (zI h 89) py ex) (hf : zI h 88 4 = fo) : ∃ h1, FS SN h h1 ∧ zI h1 89 = sDays p ex n K (zI h 89) ∧ ∀ Q, zCall (d + 25) 834 [.ref 88, .int (nI K)] h Q = Q none h1 := by
  obtain ⟨h1, f1, e1, c1⟩ := c_days_lp (d := d) hw.2.1 hK hp K 0 D h (by omega) hD hM hw hT hf
  refine ⟨h1, f1, e1, fun Q => ?_⟩
  simp +decide only [Nat.reduceEqDiff, Nat.add_eq_left, Nat.left_eq_add, Nat.reduceAdd, Nat.reduceLeDiff, Nat.reduceMul, Nat.reduceSub, Nat.reduceLT, zlt8, zlt8_, zlt8n, zlt8n_, List.length_cons, List.length_nil, true_or, or_true, false_or, or_false, and_self, and_true, true_and, and_false, false_and, not_false_eq_true, not_true_eq_false, ite_true, ite_false, if_true, if_false, ite_not, zin, zpush_s, zpush_n, kl_int, kl_ref, kl_none, kl_kl, kl_long, kl_null, zT_wI, zT_wJ, zT_wR, zT_wIr, zT_wJr, zT_wRr, zI_wJ, zI_wR, zI_wJr, zI_wRr, zJ_wI, zJ_wR, zJ_wIr, zJ_wRr, zR_wI, zR_wJ, zR_wIr, zR_wJr, zN_wI, zN_wJ, zN_wR, zN_wIr, zN_wJr, zN_wRr, zZ_wI, zZ_wJ, zZ_wR, zZ_wIr, zZ_wJr, zZ_wRr, zI_wI, zJ_wJ, zR_wR, zI_wIr, zJ_wJr, zR_wRr, k834, g834_0, g834_1]
  exact c1 Q
