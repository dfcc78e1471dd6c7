-- needs 34.cq
variable {d a b n t D D2 K : Nat} {h : zH} {w w2 : zW0} {fo fp x y z py p : Int32} {sv : Value} {ex : zW0 → Int32}
def sMany (x : Int32) : Int32 := lp (fun k s => s + (iShr x (nI k) &&& 1)) 6 0 0
theorem c_bitCount {m : Nat} (hm : m < 64) (Q : zQq) : zCall (d + 1) 901 [.int (nI m)] h Q = Q (some (.int (sMany (nI m)))) h := by
  simp +decide only [Nat.reduceEqDiff, Nat.add_eq_left, Nat.left_eq_add, Nat.reduceAdd, Nat.reduceLeDiff, Nat.reduceMul, Nat.reduceSub, Nat.reduceLT, zlt8, zlt8_, zlt8n, zlt8n_, List.length_cons, List.length_nil, true_or, or_true, false_or, or_false, and_self, and_true, true_and, and_false, false_and, not_false_eq_true, not_true_eq_false, ite_true, ite_false, if_true, if_false, ite_not, zin, zpush_s, zpush_n, kl_int, kl_ref, kl_none, kl_kl, kl_long, kl_null, zT_wI, zT_wJ, zT_wR, zT_wIr, zT_wJr, zT_wRr, zI_wJ, zI_wR, zI_wJr, zI_wRr, zJ_wI, zJ_wR, zJ_wIr, zJ_wRr, zR_wI, zR_wJ, zR_wIr, zR_wJr, zN_wI, zN_wJ, zN_wR, zN_wIr, zN_wJr, zN_wRr, zZ_wI, zZ_wJ, zZ_wR, zZ_wIr, zZ_wJr, zZ_wRr, zI_wI, zJ_wJ, zR_wR, zI_wIr, zJ_wJr, zR_wRr, k901, g901_0, g901_1, g901_2, g901_3, g901_4, g901_7, g901_8, g901_9, g901_10, g901_11, g901_14, g901_15, g901_16, g901_17, g901_18, g901_21, g901_22, g901_23, g901_24, g901_25, g901_26, g901_27, g901_28, g901_29, g901_32, g901_33, g901_34, g901_35, g901_36, g901_38, g901_39, g901_40, g901_41, g901_42, g901_43, g901_45, g901_46, g901_47, g901_48, g901_49, g901_51, g901_52]
  congr 3
  revert m
  decide +kernel
/-- how many are in the city after K days at a pay -/
def sC (p : Int32) (ex : zW0 → Int32) (n K : Nat) (w : zW0) : Int32 := sMany (sAt (sDays p ex n K w) n 10)
theorem sAt_lt (w : zW0) (hn : n ≤ 6) (x : Int32) : ∃ m, m < 64 ∧ sAt w n x = nI m := by
  obtain ⟨m, h1, h2, -⟩ := sAt_m w n hn x
  exact ⟨m, Nat.lt_of_lt_of_le h1 (Nat.pow_le_pow_right (by decide) hn), h2⟩
theorem c_inCityBy {j : Nat} (c : CQ h n D w py ex sv) (hj : j < 2 ^ 31) (hK : K ≤ 60) : ∃ h1, FS (RA 15) h h1 ∧ ∀ Q, zCall (d + 6) 716 [.ref 0, .int (nI j), .int (nI K)] h Q = Q (some (.int (sC (nI j) ex n K w))) h1 := by
  obtain ⟨h1, f1, v1, c1⟩ := c_copyT (d := d + 4) c
  have f2 : FS (RA 15) h (wI h1 15 11 (nI j)) := FS_t f1 (FS_I _ (by unfold RA; omega))
  have hn := c.2.2.2.2.1.2.1
  have C2 := CQ_f f2 c
  obtain ⟨h2, f3, v3, c3⟩ := c_goT (d := d) (K := K) (p := nI j) C2 (Rv_fp (x := nI j) v1 hn) c.2.2.2.2.1 hK (by have := c.2.2.2.2.2.1; omega) (if_neg (nI_pos hj))
  have C3 := CQ_f f3 C2
  have cb : ∀ x Q, zCall (d + 5) 208 [.ref 15, .int x] h2 Q = Q (some (.int (sAt (sDays (nI j) ex n K w) n x))) h2 := fun x Q => c_bitsAt C3.2.2.1 v3 hn Q
  obtain ⟨m, hm, em⟩ := sAt_lt (sDays (nI j) ex n K w) hn 10
  have cc : ∀ Q, zCall (d + 5) 901 [.int (nI m)] h2 Q = Q (some (.int (sMany (nI m)))) h2 := fun Q => c_bitCount hm Q
  refine ⟨h2, FS_t f2 f3, fun Q => ?_⟩
  obtain ⟨k0, j0, j1, j2, j3, j4, j6, j8, j9⟩ := c.1
  have i1 : zR h1 0 1 = .ref 15 := C2.1.2.2.1
  have k1 : zT h1 0 = (7, 10) := C2.1.1
  have l1 : zR h2 0 1 = .ref 15 := C3.1.2.2.1
  have l0 : zT h2 0 = (7, 10) := C3.1.1
  have p0 := c.2.1.1
  have p1 := c.2.2.1.1
  have p2 : zT h1 15 = (2, 12) := C2.2.2.1.1
  have p3 := C3.2.2.1.1
  unfold sC
  simp +decide only [Nat.reduceEqDiff, Nat.add_eq_left, Nat.left_eq_add, Nat.reduceAdd, Nat.reduceLeDiff, Nat.reduceMul, Nat.reduceSub, Nat.reduceLT, zlt8, zlt8_, zlt8n, zlt8n_, List.length_cons, List.length_nil, true_or, or_true, false_or, or_false, and_self, and_true, true_and, and_false, false_and, not_false_eq_true, not_true_eq_false, ite_true, ite_false, if_true, if_false, ite_not, zin, zpush_s, zpush_n, kl_int, kl_ref, kl_none, kl_kl, kl_long, kl_null, zT_wI, zT_wJ, zT_wR, zT_wIr, zT_wJr, zT_wRr, zI_wJ, zI_wR, zI_wJr, zI_wRr, zJ_wI, zJ_wR, zJ_wIr, zJ_wRr, zR_wI, zR_wJ, zR_wIr, zR_wJr, zN_wI, zN_wJ, zN_wR, zN_wIr, zN_wJr, zN_wRr, zZ_wI, zZ_wJ, zZ_wR, zZ_wIr, zZ_wJr, zZ_wRr, zI_wI, zJ_wJ, zR_wR, zI_wIr, zJ_wJr, zR_wRr, k716, g716_0, g716_1, g716_4, g716_5, g716_8, g716_11, g716_12, g716_15, g716_16, g716_19, g716_20, g716_23, g716_24, g716_27, g716_28, g716_31, g716_33, g716_36, g716_39, k0, j0, j1, j2, j3, j4, j6, j8, j9, c1, c3, i1, k1, l0, l1, p0, p1, p2, p3, cb, em, cc]
/-- the cheapest pay: how many come at it, the pay -/
def sCh (ex : zW0 → Int32) (n K : Nat) (w : zW0) (m : Nat) : Int32 × Int32 := lp (fun k (s : Int32 × Int32) => if sC (nI k) ex n K w < s.1 then (sC (nI k) ex n K w, nI k) else s) m 0 (7, 0)
theorem c_cheap_lp (hK : K ≤ 60) : ∀ (m k : Nat) (h : zH) (s : Int32 × Int32) (l5 : Option Value), k + m = 50 → CQ h n D w py ex sv → ∃ h1, FS (RA 15) h h1 ∧ ∀ Q, zG (d + 6) 715 8 [some (.ref 0), some (.int (nI K)), some (.int s.2), some (.int s.1), some (.int (nI k)), l5] [] h Q = Q (some (.int (lp (fun k (s : Int32 × Int32) => if sC (nI k) ex n K w < s.1 then (sC (nI k) ex n K w, nI k) else s) m k s).2)) h1
  | 0, k, h, s, l5, e, c => by
    have e : k = 50 := by omega
    subst e
    refine ⟨h, FS_r _ _, fun Q => ?_⟩
    rw [g715_8]
    simp +decide only [Nat.reduceEqDiff, Nat.add_eq_left, Nat.left_eq_add, Nat.reduceAdd, Nat.reduceLeDiff, Nat.reduceMul, Nat.reduceSub, Nat.reduceLT, zlt8, zlt8_, zlt8n, zlt8n_, List.length_cons, List.length_nil, true_or, or_true, false_or, or_false, and_self, and_true, true_and, and_false, false_and, not_false_eq_true, not_true_eq_false, ite_true, ite_false, if_true, if_false, ite_not, zin, zpush_s, zpush_n, kl_int, kl_ref, kl_none, kl_kl, kl_long, kl_null, zT_wI, zT_wJ, zT_wR, zT_wIr, zT_wJr, zT_wRr, zI_wJ, zI_wR, zI_wJr, zI_wRr, zJ_wI, zJ_wR, zJ_wIr, zJ_wRr, zR_wI, zR_wJ, zR_wIr, zR_wJr, zN_wI, zN_wJ, zN_wR, zN_wIr, zN_wJr, zN_wRr, zZ_wI, zZ_wJ, zZ_wR, zZ_wIr, zZ_wJr, zZ_wRr, zI_wI, zJ_wJ, zR_wR, zI_wIr, zJ_wJr, zR_wRr, g715_0, g715_1, g715_2, g715_4, g715_5, g715_6, g715_10, g715_12, g715_15, g715_16, g715_18, g715_19, g715_22, g715_24, g715_26, g715_27, g715_30, g715_32, g715_33, g715_35, g715_36, g715_39, g715_42, g715_43, show (49 : Int32) < nI 50 by decide, lp_0]
  | m + 1, k, h, s, l5, e, c => by
    obtain ⟨h1, f1, c1⟩ := c_inCityBy (d := d) (j := k) c (by omega) hK
    obtain ⟨h2, f2, c2⟩ := c_cheap_lp hK m (k + 1) h1 (if sC (nI k) ex n K w < s.1 then (sC (nI k) ex n K w, nI k) else s) (some (.int (sC (nI k) ex n K w))) (by omega) (CQ_f f1 c)
    refine ⟨h2, FS_t f1 f2, fun Q => ?_⟩
    have z1 : ¬ 49 < nI k := nI_nlt (a := 49) (by omega) (by omega)
    obtain ⟨k0, j0, j1, j2, j3, j4, j6, j8, j9⟩ := c.1
    rw [g715_8, lp_s, ← c2 Q]
    by_cases q : sC (nI k) ex n K w < s.1 <;> simp +decide only [Nat.reduceEqDiff, Nat.add_eq_left, Nat.left_eq_add, Nat.reduceAdd, Nat.reduceLeDiff, Nat.reduceMul, Nat.reduceSub, Nat.reduceLT, zlt8, zlt8_, zlt8n, zlt8n_, List.length_cons, List.length_nil, true_or, or_true, false_or, or_false, and_self, and_true, true_and, and_false, false_and, not_false_eq_true, not_true_eq_false, ite_true, ite_false, if_true, if_false, ite_not, zin, zpush_s, zpush_n, kl_int, kl_ref, kl_none, kl_kl, kl_long, kl_null, zT_wI, zT_wJ, zT_wR, zT_wIr, zT_wJr, zT_wRr, zI_wJ, zI_wR, zI_wJr, zI_wRr, zJ_wI, zJ_wR, zJ_wIr, zJ_wRr, zR_wI, zR_wJ, zR_wIr, zR_wJr, zN_wI, zN_wJ, zN_wR, zN_wIr, zN_wJr, zN_wRr, zZ_wI, zZ_wJ, zZ_wR, zZ_wIr, zZ_wJr, zZ_wRr, zI_wI, zJ_wJ, zR_wR, zI_wIr, zJ_wJr, zR_wRr, g715_0, g715_1, g715_2, g715_4, g715_5, g715_6, g715_10, g715_12, g715_15, g715_16, g715_18, g715_19, g715_22, g715_24, g715_26, g715_27, g715_30, g715_32, g715_33, g715_35, g715_36, g715_39, g715_42, g715_43, k0, j0, j1, j2, j3, j4, j6, j8, j9, z1, c1, q, i_le, nI_1]
theorem c_cheap (c : CQ h n D w py ex sv) (hK : K ≤ 60) : ∃ h1, FS (RA 15) h h1 ∧ ∀ Q, zCall (d + 7) 715 [.ref 0, .int (nI K)] h Q = Q (some (.int (sCh ex n K w 50).2)) h1 := by
  obtain ⟨h1, f1, c1⟩ := c_cheap_lp (d := d) hK 50 0 h (7, 0) none (by omega) c
  refine ⟨h1, f1, fun Q => ?_⟩
  simp +decide only [Nat.reduceEqDiff, Nat.add_eq_left, Nat.left_eq_add, Nat.reduceAdd, Nat.reduceLeDiff, Nat.reduceMul, Nat.reduceSub, Nat.reduceLT, zlt8, zlt8_, zlt8n, zlt8n_, List.length_cons, List.length_nil, true_or, or_true, false_or, or_false, and_self, and_true, true_and, and_false, false_and, not_false_eq_true, not_true_eq_false, ite_true, ite_false, if_true, if_false, ite_not, zin, zpush_s, zpush_n, kl_int, kl_ref, kl_none, kl_kl, kl_long, kl_null, zT_wI, zT_wJ, zT_wR, zT_wIr, zT_wJr, zT_wRr, zI_wJ, zI_wR, zI_wJr, zI_wRr, zJ_wI, zJ_wR, zJ_wIr, zJ_wRr, zR_wI, zR_wJ, zR_wIr, zR_wJr, zN_wI, zN_wJ, zN_wR, zN_wIr, zN_wJr, zN_wRr, zZ_wI, zZ_wJ, zZ_wR, zZ_wIr, zZ_wJr, zZ_wRr, zI_wI, zJ_wJ, zR_wR, zI_wIr, zJ_wJr, zR_wRr, k715, g715_0, g715_1, g715_2, g715_4, g715_5, g715_6, g715_10, g715_12, g715_15, g715_16, g715_18, g715_19, g715_22, g715_24, g715_26, g715_27, g715_30, g715_32, g715_33, g715_35, g715_36, g715_39, g715_42, g715_43]
  exact c1 Q
/-- the richest pay: the last one of the first m that leaves something -/
def sRi (ex : zW0 → Int32) (n K : Nat) (w : zW0) (m : Nat) : Int32 := lp (fun k s => if 0 < sDays (nI k) ex n K w 61 then nI k else s) m 0 (-5)
theorem pos_1 (x : Int32) : (1 ≤ x) = (0 < x) := by
  rw [Int32.le_iff_toInt_le, Int32.lt_iff_toInt_lt]
  refine propext ?_
  have e1 : (1 : Int32).toInt = 1 := rfl
  have e0 : (0 : Int32).toInt = 0 := rfl
  omega
theorem c_rich_lp (hK : K ≤ 60) : ∀ (k : Nat) (h : zH), k ≤ 50 → CQ h n D w py ex sv → ∃ h1, FS (RA 15) h h1 ∧ ∀ Q, zG (d + 6) 717 3 [some (.ref 0), some (.int (nI K)), some (.int (nI k - 1))] [] h Q = Q (some (.int (sRi ex n K w k))) h1
  | 0, h, e, c => by
    refine ⟨h, FS_r _ _, fun Q => ?_⟩
    rw [g717_3]
    simp +decide only [Nat.reduceEqDiff, Nat.add_eq_left, Nat.left_eq_add, Nat.reduceAdd, Nat.reduceLeDiff, Nat.reduceMul, Nat.reduceSub, Nat.reduceLT, zlt8, zlt8_, zlt8n, zlt8n_, List.length_cons, List.length_nil, true_or, or_true, false_or, or_false, and_self, and_true, true_and, and_false, false_and, not_false_eq_true, not_true_eq_false, ite_true, ite_false, if_true, if_false, ite_not, zin, zpush_s, zpush_n, kl_int, kl_ref, kl_none, kl_kl, kl_long, kl_null, zT_wI, zT_wJ, zT_wR, zT_wIr, zT_wJr, zT_wRr, zI_wJ, zI_wR, zI_wJr, zI_wRr, zJ_wI, zJ_wR, zJ_wIr, zJ_wRr, zR_wI, zR_wJ, zR_wIr, zR_wJr, zN_wI, zN_wJ, zN_wR, zN_wIr, zN_wJr, zN_wRr, zZ_wI, zZ_wJ, zZ_wR, zZ_wIr, zZ_wJr, zZ_wRr, zI_wI, zJ_wJ, zR_wR, zI_wIr, zJ_wJr, zR_wRr, g717_0, g717_2, g717_4, g717_7, g717_8, g717_11, g717_12, g717_15, g717_18, g717_19, g717_22, g717_23, g717_26, g717_27, g717_30, g717_31, g717_34, g717_35, g717_38, g717_41, g717_42, g717_45, g717_46, g717_47, g717_50, g717_53, g717_55, show (nI 0 - 1) < 0 by decide]
    rfl
  | k + 1, h, e, c => by
    have hn := c.2.2.2.2.1.2.1
    obtain ⟨h1, f1, v1, c1⟩ := c_copyT (d := d + 5) c
    have f2 : FS (RA 15) h (wI h1 15 11 (nI k)) := FS_t f1 (FS_I _ (by unfold RA; omega))
    have C2 := CQ_f f2 c
    obtain ⟨h2, f3, v3, c3⟩ := c_goT (d := d + 1) (K := K) (p := nI k) C2 (Rv_fp (x := nI k) v1 hn) c.2.2.2.2.1 hK (by have := c.2.2.2.2.2.1; omega) (if_neg (nI_pos (by omega)))
    have C3 := CQ_f f3 C2
    have z0 : nI (k + 1) - 1 = nI k := nI_pred k
    have z1 := nI_pos (n := k) (by omega)
    obtain ⟨k0, j0, j1, j2, j3, j4, j6, j8, j9⟩ := c.1
    have i1 : zR h1 0 1 = .ref 15 := C2.1.2.2.1
    have k1 : zT h1 0 = (7, 10) := C2.1.1
    have l1 : zR h2 0 1 = .ref 15 := C3.1.2.2.1
    have l0 : zT h2 0 = (7, 10) := C3.1.1
    have p0 := c.2.1.1
    have p1 := c.2.2.1.1
    have p2 : zT h1 15 = (2, 12) := C2.2.2.1.1
    have p3 := C3.2.2.1.1
    have v2 := v3.2.1
    unfold sRi
    rw [lp_e, Nat.zero_add]
    by_cases q : 0 < sDays (nI k) ex n K w 61
    · refine ⟨h2, FS_t f2 f3, fun Q => ?_⟩
      have q' : ¬ sDays (nI k) ex n K w 61 < 1 := by rw [← i_le, pos_1]; exact q
      rw [g717_3]
      simp +decide only [Nat.reduceEqDiff, Nat.add_eq_left, Nat.left_eq_add, Nat.reduceAdd, Nat.reduceLeDiff, Nat.reduceMul, Nat.reduceSub, Nat.reduceLT, zlt8, zlt8_, zlt8n, zlt8n_, List.length_cons, List.length_nil, true_or, or_true, false_or, or_false, and_self, and_true, true_and, and_false, false_and, not_false_eq_true, not_true_eq_false, ite_true, ite_false, if_true, if_false, ite_not, zin, zpush_s, zpush_n, kl_int, kl_ref, kl_none, kl_kl, kl_long, kl_null, zT_wI, zT_wJ, zT_wR, zT_wIr, zT_wJr, zT_wRr, zI_wJ, zI_wR, zI_wJr, zI_wRr, zJ_wI, zJ_wR, zJ_wIr, zJ_wRr, zR_wI, zR_wJ, zR_wIr, zR_wJr, zN_wI, zN_wJ, zN_wR, zN_wIr, zN_wJr, zN_wRr, zZ_wI, zZ_wJ, zZ_wR, zZ_wIr, zZ_wJr, zZ_wRr, zI_wI, zJ_wJ, zR_wR, zI_wIr, zJ_wJr, zR_wRr, g717_0, g717_2, g717_4, g717_7, g717_8, g717_11, g717_12, g717_15, g717_18, g717_19, g717_22, g717_23, g717_26, g717_27, g717_30, g717_31, g717_34, g717_35, g717_38, g717_41, g717_42, g717_45, g717_46, g717_47, g717_50, g717_53, g717_55, k0, j0, j1, j2, j3, j4, j6, j8, j9, z0, z1, c1, c3, i1, k1, l0, l1, p0, p1, p2, p3, v2, q, q', i_le]
    · obtain ⟨h4, f4, c4⟩ := c_rich_lp hK k h2 (by omega) C3
      refine ⟨h4, FS_t (FS_t f2 f3) f4, fun Q => ?_⟩
      have q' : sDays (nI k) ex n K w 61 < 1 := Classical.byContradiction fun z => q (by rw [← pos_1, i_le]; exact z)
      have z2 : nI k + -1 = nI k - 1 := by rw [Int32.sub_eq_add_neg]
      rw [if_neg q]
      have c4' := c4 Q
      unfold sRi at c4'
      rw [g717_3, ← c4']
      simp +decide only [Nat.reduceEqDiff, Nat.add_eq_left, Nat.left_eq_add, Nat.reduceAdd, Nat.reduceLeDiff, Nat.reduceMul, Nat.reduceSub, Nat.reduceLT, zlt8, zlt8_, zlt8n, zlt8n_, List.length_cons, List.length_nil, true_or, or_true, false_or, or_false, and_self, and_true, true_and, and_false, false_and, not_false_eq_true, not_true_eq_false, ite_true, ite_false, if_true, if_false, ite_not, zin, zpush_s, zpush_n, kl_int, kl_ref, kl_none, kl_kl, kl_long, kl_null, zT_wI, zT_wJ, zT_wR, zT_wIr, zT_wJr, zT_wRr, zI_wJ, zI_wR, zI_wJr, zI_wRr, zJ_wI, zJ_wR, zJ_wIr, zJ_wRr, zR_wI, zR_wJ, zR_wIr, zR_wJr, zN_wI, zN_wJ, zN_wR, zN_wIr, zN_wJr, zN_wRr, zZ_wI, zZ_wJ, zZ_wR, zZ_wIr, zZ_wJr, zZ_wRr, zI_wI, zJ_wJ, zR_wR, zI_wIr, zJ_wJr, zR_wRr, g717_0, g717_2, g717_4, g717_7, g717_8, g717_11, g717_12, g717_15, g717_18, g717_19, g717_22, g717_23, g717_26, g717_27, g717_30, g717_31, g717_34, g717_35, g717_38, g717_41, g717_42, g717_45, g717_46, g717_47, g717_50, g717_53, g717_55, k0, j0, j1, j2, j3, j4, j6, j8, j9, z0, z1, c1, c3, i1, k1, l0, l1, p0, p1, p2, p3, v2, q', i_le, z2]
theorem c_rich (c : CQ h n D w py ex sv) (hK : K ≤ 60) : ∃ h1, FS (RA 15) h h1 ∧ ∀ Q, zCall (d + 7) 717 [.ref 0, .int (nI K)] h Q = Q (some (.int (sRi ex n K w 50))) h1 := by
  obtain ⟨h1, f1, c1⟩ := c_rich_lp (d := d) hK 50 h (by omega) c
  refine ⟨h1, f1, fun Q => ?_⟩
  simp +decide only [Nat.reduceEqDiff, Nat.add_eq_left, Nat.left_eq_add, Nat.reduceAdd, Nat.reduceLeDiff, Nat.reduceMul, Nat.reduceSub, Nat.reduceLT, zlt8, zlt8_, zlt8n, zlt8n_, List.length_cons, List.length_nil, true_or, or_true, false_or, or_false, and_self, and_true, true_and, and_false, false_and, not_false_eq_true, not_true_eq_false, ite_true, ite_false, if_true, if_false, ite_not, zin, zpush_s, zpush_n, kl_int, kl_ref, kl_none, kl_kl, kl_long, kl_null, zT_wI, zT_wJ, zT_wR, zT_wIr, zT_wJr, zT_wRr, zI_wJ, zI_wR, zI_wJr, zI_wRr, zJ_wI, zJ_wR, zJ_wIr, zJ_wRr, zR_wI, zR_wJ, zR_wIr, zR_wJr, zN_wI, zN_wJ, zN_wR, zN_wIr, zN_wJr, zN_wRr, zZ_wI, zZ_wJ, zZ_wR, zZ_wIr, zZ_wJr, zZ_wRr, zI_wI, zJ_wJ, zR_wR, zI_wIr, zJ_wJr, zR_wRr, k717, g717_0, g717_2, g717_4, g717_7, g717_8, g717_11, g717_12, g717_15, g717_18, g717_19, g717_22, g717_23, g717_26, g717_27, g717_30, g717_31, g717_34, g717_35, g717_38, g717_41, g717_42, g717_45, g717_46, g717_47, g717_50, g717_53, g717_55]
  exact c1 Q
