-- needs 41.mq2
variable {d a b n t D D2 K c1 c2 c3 : Nat} {h h1 h2 : zH} {w w0 w2 v : zW0} {fo fo2 fp x y z py p : Int32} {sv : Value} {ex : zW0 → Int32}
theorem m_seen_in (mm : mQ h n D2 v py ex fo) (hv : ∀ k, 63 ≤ k → v k = w0 k) (hP : PN w0 n c1 c2 c3) {k : Nat} (hk : k < 2 ^ 31) : ∀ (m i : Nat) (s : Bool) (l4 : Option Value), i + m = c1 → ∃ l5, ∀ Q, zG (d + 1) 848 27 [some (.ref 88), some (.int (bB s)), some (.int (nI k)), some (.int (nI i)), l4] [] h Q = zG (d + 1) 848 99 [some (.ref 88), some (.int (bB (lp (fun i s => s && sS1 w0 k v i) m i s))), some (.int (nI k)), some (.int (nI c1)), l5] [] h Q
  | 0, i, s, l4, e => by
    have e : c1 = i := by omega
    subst e
    refine ⟨l4, fun Q => ?_⟩
    have e2 := mm.2.1
    have e64 : v 64 = nI c1 := by rw [hv 64 (by omega)]; exact hP.2.2.2.1
    obtain ⟨m88, m89, m90, m91, m92, m93, m94, m95, m96, m97, m98, m99, m100, m101, m102, m103, m104, m105, m106, n0, n1, n2, n5, n7, n8, n10, n17, n18, n19, n20, n21, n22, n23, n25, n26, n27, n28⟩ := mm.1.1
    rw [g848_27]
    simp +decide only [Nat.reduceEqDiff, Nat.add_eq_left, Nat.left_eq_add, Nat.reduceAdd, Nat.reduceLeDiff, Nat.reduceMul, Nat.reduceSub, Nat.reduceLT, zlt8, zlt8_, zlt8n, zlt8n_, List.length_cons, List.length_nil, true_or, or_true, false_or, or_false, and_self, and_true, true_and, and_false, false_and, not_false_eq_true, not_true_eq_false, ite_true, ite_false, if_true, if_false, ite_not, zin, zpush_s, zpush_n, kl_int, kl_ref, kl_none, kl_kl, kl_long, kl_null, zT_wI, zT_wJ, zT_wR, zT_wIr, zT_wJr, zT_wRr, zI_wJ, zI_wR, zI_wJr, zI_wRr, zJ_wI, zJ_wR, zJ_wIr, zJ_wRr, zR_wI, zR_wJ, zR_wIr, zR_wJr, zN_wI, zN_wJ, zN_wR, zN_wIr, zN_wJr, zN_wRr, zZ_wI, zZ_wJ, zZ_wR, zZ_wIr, zZ_wJr, zZ_wRr, zI_wI, zJ_wJ, zR_wR, zI_wIr, zJ_wJr, zR_wRr, g848_28, g848_29, g848_32, g848_34, g848_35, m88, m89, m90, m91, m92, m93, m94, m95, m96, m97, m98, m99, m100, m101, m102, m103, m104, m105, m106, n0, n1, n2, n5, n7, n8, n10, n17, n18, n19, n20, n21, n22, n23, n25, n26, n27, n28, e2, e64, i_le, Int32.lt_irrefl, lp_0, show Int32.toNatClampNeg 64 = 64 by decide, show ¬ (64 : Int32) < 0 by decide]
  | m + 1, i, s, l4, e => by
    obtain ⟨l5, g⟩ := m_seen_in mm hv hP hk m (i + 1) (s && sS1 w0 k v i) (some (.int (nI (65 + 3 * i)))) (by omega)
    refine ⟨l5, fun Q => ?_⟩
    have e2 := mm.2.1
    have hn := mm.2.2.1.2.1
    obtain ⟨p1, p2, p3, p4, p5, p6, p7, -⟩ := hP
    have e64 : v 64 = nI c1 := by rw [hv 64 (by omega)]; exact p4
    obtain ⟨⟨t, ht, et⟩, ⟨j, hj, ej⟩⟩ := p7 i (by omega)
    have y1 : v (65 + 3 * i) = nI t := by rw [hv _ (by omega)]; exact et
    have y2 : v (66 + 3 * i) = nI j := by rw [hv _ (by omega)]; exact ej
    have y3 : v (67 + 3 * i) = w0 (67 + 3 * i) := hv _ (by omega)
    have o3 : ∀ Q, zCall (d + 1) 808 [.ref 88, .int (nI t), .int 3] h Q = Q (some (.int (v (10 * t + 3)))) h := fun Q => m_one3 mm (by omega) Q
    have z3 := nI_lt (a := i) (b := c1) (by omega) (by omega)
    have z4 : (nI j = nI k) = (j = k) := propext (nI_eq (by omega) hk)
    have z5 := nI_clamp (n := t) (by omega)
    have k0 : (65 : Int32) + 3 * nI i = nI (65 + 3 * i) := by rw [show (3 : Int32) = nI 3 from rfl, pk_mul, show (65 : Int32) = nI 65 from rfl, nI_add]
    have k1 : nI (65 + 3 * i) + 1 = nI (66 + 3 * i) := by rw [nI_1, show 65 + 3 * i + 1 = 66 + 3 * i by omega]
    have k2 : nI (65 + 3 * i) + 2 = nI (67 + 3 * i) := by rw [show (2 : Int32) = nI 2 from rfl, nI_add, show 65 + 3 * i + 2 = 67 + 3 * i by omega]
    have ki : nI i + 1 = nI (i + 1) := nI_1 i
    have b0 := nI_pos (n := 65 + 3 * i) (by omega)
    have b1 := nI_pos (n := 66 + 3 * i) (by omega)
    have b2 := nI_pos (n := 67 + 3 * i) (by omega)
    have d0 := nI_clamp (n := 65 + 3 * i) (by omega)
    have d1 := nI_clamp (n := 66 + 3 * i) (by omega)
    have d2 := nI_clamp (n := 67 + 3 * i) (by omega)
    have e1 : sS1 w0 k v i = ((nI j != nI k) || (v (10 * t + 3) == w0 (67 + 3 * i))) := by unfold sS1; rw [et, ej, z5]
    obtain ⟨m88, m89, m90, m91, m92, m93, m94, m95, m96, m97, m98, m99, m100, m101, m102, m103, m104, m105, m106, n0, n1, n2, n5, n7, n8, n10, n17, n18, n19, n20, n21, n22, n23, n25, n26, n27, n28⟩ := mm.1.1
    rw [lp_s, ← g Q, g848_27, e1]
    cases s with
    | false =>
      rw [Bool.false_and]
      simp +decide only [Nat.reduceEqDiff, Nat.add_eq_left, Nat.left_eq_add, Nat.reduceAdd, Nat.reduceLeDiff, Nat.reduceMul, Nat.reduceSub, Nat.reduceLT, zlt8, zlt8_, zlt8n, zlt8n_, List.length_cons, List.length_nil, true_or, or_true, false_or, or_false, and_self, and_true, true_and, and_false, false_and, not_false_eq_true, not_true_eq_false, ite_true, ite_false, if_true, if_false, ite_not, zin, zpush_s, zpush_n, kl_int, kl_ref, kl_none, kl_kl, kl_long, kl_null, zT_wI, zT_wJ, zT_wR, zT_wIr, zT_wJr, zT_wRr, zI_wJ, zI_wR, zI_wJr, zI_wRr, zJ_wI, zJ_wR, zJ_wIr, zJ_wRr, zR_wI, zR_wJ, zR_wIr, zR_wJr, zN_wI, zN_wJ, zN_wR, zN_wIr, zN_wJr, zN_wRr, zZ_wI, zZ_wJ, zZ_wR, zZ_wIr, zZ_wJr, zZ_wRr, zI_wI, zJ_wJ, zR_wR, zI_wIr, zJ_wJr, zR_wRr, g848_0, g848_1, g848_4, g848_5, g848_8, g848_11, g848_12, g848_13, g848_14, g848_16, g848_18, g848_21, g848_22, g848_25, g848_26, g848_28, g848_29, g848_32, g848_34, g848_35, g848_38, g848_40, g848_41, g848_42, g848_43, g848_44, g848_46, g848_47, g848_50, g848_51, g848_54, g848_56, g848_57, g848_58, g848_59, g848_60, g848_63, g848_64, g848_65, g848_68, g848_70, g848_71, g848_72, g848_75, g848_76, g848_79, g848_81, g848_82, g848_83, g848_84, g848_87, g848_88, g848_91, g848_92, g848_93, g848_96, g848_99, g848_100, g848_103, g848_106, g848_109, g848_110, g848_113, g848_114, g848_117, g848_120, g848_121, m88, m89, m90, m91, m92, m93, m94, m95, m96, m97, m98, m99, m100, m101, m102, m103, m104, m105, m106, n0, n1, n2, n5, n7, n8, n10, n17, n18, n19, n20, n21, n22, n23, n25, n26, n27, n28, e2, e64, i_le, z3, k0, ki, bB_f, show Int32.toNatClampNeg 64 = 64 by decide, show ¬ (64 : Int32) < 0 by decide]
    | true =>
      rw [Bool.true_and]
      by_cases q1 : j = k
      · have x2 : (nI j != nI k) = false := by subst q1; simp
        by_cases q2 : v (10 * t + 3) = w0 (67 + 3 * i)
        · have x3 : (v (10 * t + 3) == w0 (67 + 3 * i)) = true := by simp [q2]
          rw [x2, x3]
          simp +decide only [Nat.reduceEqDiff, Nat.add_eq_left, Nat.left_eq_add, Nat.reduceAdd, Nat.reduceLeDiff, Nat.reduceMul, Nat.reduceSub, Nat.reduceLT, zlt8, zlt8_, zlt8n, zlt8n_, List.length_cons, List.length_nil, true_or, or_true, false_or, or_false, and_self, and_true, true_and, and_false, false_and, not_false_eq_true, not_true_eq_false, ite_true, ite_false, if_true, if_false, ite_not, zin, zpush_s, zpush_n, kl_int, kl_ref, kl_none, kl_kl, kl_long, kl_null, zT_wI, zT_wJ, zT_wR, zT_wIr, zT_wJr, zT_wRr, zI_wJ, zI_wR, zI_wJr, zI_wRr, zJ_wI, zJ_wR, zJ_wIr, zJ_wRr, zR_wI, zR_wJ, zR_wIr, zR_wJr, zN_wI, zN_wJ, zN_wR, zN_wIr, zN_wJr, zN_wRr, zZ_wI, zZ_wJ, zZ_wR, zZ_wIr, zZ_wJr, zZ_wRr, zI_wI, zJ_wJ, zR_wR, zI_wIr, zJ_wJr, zR_wRr, g848_0, g848_1, g848_4, g848_5, g848_8, g848_11, g848_12, g848_13, g848_14, g848_16, g848_18, g848_21, g848_22, g848_25, g848_26, g848_28, g848_29, g848_32, g848_34, g848_35, g848_38, g848_40, g848_41, g848_42, g848_43, g848_44, g848_46, g848_47, g848_50, g848_51, g848_54, g848_56, g848_57, g848_58, g848_59, g848_60, g848_63, g848_64, g848_65, g848_68, g848_70, g848_71, g848_72, g848_75, g848_76, g848_79, g848_81, g848_82, g848_83, g848_84, g848_87, g848_88, g848_91, g848_92, g848_93, g848_96, g848_99, g848_100, g848_103, g848_106, g848_109, g848_110, g848_113, g848_114, g848_117, g848_120, g848_121, m88, m89, m90, m91, m92, m93, m94, m95, m96, m97, m98, m99, m100, m101, m102, m103, m104, m105, m106, n0, n1, n2, n5, n7, n8, n10, n17, n18, n19, n20, n21, n22, n23, n25, n26, n27, n28, e2, e64, i_le, z3, z4, k0, k1, k2, ki, b0, b1, b2, d0, d1, d2, y1, y2, y3, o3, q1, q2, bB_t, show 65 + 3 * i < 118 by omega, show 66 + 3 * i < 118 by omega, show 67 + 3 * i < 118 by omega, show Int32.toNatClampNeg 64 = 64 by decide, show ¬ (64 : Int32) < 0 by decide, Bool.false_or]
        · have x3 : (v (10 * t + 3) == w0 (67 + 3 * i)) = false := by simp [q2]
          rw [x2, x3]
          simp +decide only [Nat.reduceEqDiff, Nat.add_eq_left, Nat.left_eq_add, Nat.reduceAdd, Nat.reduceLeDiff, Nat.reduceMul, Nat.reduceSub, Nat.reduceLT, zlt8, zlt8_, zlt8n, zlt8n_, List.length_cons, List.length_nil, true_or, or_true, false_or, or_false, and_self, and_true, true_and, and_false, false_and, not_false_eq_true, not_true_eq_false, ite_true, ite_false, if_true, if_false, ite_not, zin, zpush_s, zpush_n, kl_int, kl_ref, kl_none, kl_kl, kl_long, kl_null, zT_wI, zT_wJ, zT_wR, zT_wIr, zT_wJr, zT_wRr, zI_wJ, zI_wR, zI_wJr, zI_wRr, zJ_wI, zJ_wR, zJ_wIr, zJ_wRr, zR_wI, zR_wJ, zR_wIr, zR_wJr, zN_wI, zN_wJ, zN_wR, zN_wIr, zN_wJr, zN_wRr, zZ_wI, zZ_wJ, zZ_wR, zZ_wIr, zZ_wJr, zZ_wRr, zI_wI, zJ_wJ, zR_wR, zI_wIr, zJ_wJr, zR_wRr, g848_0, g848_1, g848_4, g848_5, g848_8, g848_11, g848_12, g848_13, g848_14, g848_16, g848_18, g848_21, g848_22, g848_25, g848_26, g848_28, g848_29, g848_32, g848_34, g848_35, g848_38, g848_40, g848_41, g848_42, g848_43, g848_44, g848_46, g848_47, g848_50, g848_51, g848_54, g848_56, g848_57, g848_58, g848_59, g848_60, g848_63, g848_64, g848_65, g848_68, g848_70, g848_71, g848_72, g848_75, g848_76, g848_79, g848_81, g848_82, g848_83, g848_84, g848_87, g848_88, g848_91, g848_92, g848_93, g848_96, g848_99, g848_100, g848_103, g848_106, g848_109, g848_110, g848_113, g848_114, g848_117, g848_120, g848_121, m88, m89, m90, m91, m92, m93, m94, m95, m96, m97, m98, m99, m100, m101, m102, m103, m104, m105, m106, n0, n1, n2, n5, n7, n8, n10, n17, n18, n19, n20, n21, n22, n23, n25, n26, n27, n28, e2, e64, i_le, z3, z4, k0, k1, k2, ki, b0, b1, b2, d0, d1, d2, y1, y2, y3, o3, q1, q2, bB_t, bB_f, show 65 + 3 * i < 118 by omega, show 66 + 3 * i < 118 by omega, show 67 + 3 * i < 118 by omega, show Int32.toNatClampNeg 64 = 64 by decide, show ¬ (64 : Int32) < 0 by decide, Bool.false_or]
      · have x2 : (nI j != nI k) = true := by simp [z4, q1]
        rw [x2, Bool.true_or]
        simp +decide only [Nat.reduceEqDiff, Nat.add_eq_left, Nat.left_eq_add, Nat.reduceAdd, Nat.reduceLeDiff, Nat.reduceMul, Nat.reduceSub, Nat.reduceLT, zlt8, zlt8_, zlt8n, zlt8n_, List.length_cons, List.length_nil, true_or, or_true, false_or, or_false, and_self, and_true, true_and, and_false, false_and, not_false_eq_true, not_true_eq_false, ite_true, ite_false, if_true, if_false, ite_not, zin, zpush_s, zpush_n, kl_int, kl_ref, kl_none, kl_kl, kl_long, kl_null, zT_wI, zT_wJ, zT_wR, zT_wIr, zT_wJr, zT_wRr, zI_wJ, zI_wR, zI_wJr, zI_wRr, zJ_wI, zJ_wR, zJ_wIr, zJ_wRr, zR_wI, zR_wJ, zR_wIr, zR_wJr, zN_wI, zN_wJ, zN_wR, zN_wIr, zN_wJr, zN_wRr, zZ_wI, zZ_wJ, zZ_wR, zZ_wIr, zZ_wJr, zZ_wRr, zI_wI, zJ_wJ, zR_wR, zI_wIr, zJ_wJr, zR_wRr, g848_0, g848_1, g848_4, g848_5, g848_8, g848_11, g848_12, g848_13, g848_14, g848_16, g848_18, g848_21, g848_22, g848_25, g848_26, g848_28, g848_29, g848_32, g848_34, g848_35, g848_38, g848_40, g848_41, g848_42, g848_43, g848_44, g848_46, g848_47, g848_50, g848_51, g848_54, g848_56, g848_57, g848_58, g848_59, g848_60, g848_63, g848_64, g848_65, g848_68, g848_70, g848_71, g848_72, g848_75, g848_76, g848_79, g848_81, g848_82, g848_83, g848_84, g848_87, g848_88, g848_91, g848_92, g848_93, g848_96, g848_99, g848_100, g848_103, g848_106, g848_109, g848_110, g848_113, g848_114, g848_117, g848_120, g848_121, m88, m89, m90, m91, m92, m93, m94, m95, m96, m97, m98, m99, m100, m101, m102, m103, m104, m105, m106, n0, n1, n2, n5, n7, n8, n10, n17, n18, n19, n20, n21, n22, n23, n25, n26, n27, n28, e2, e64, i_le, z3, z4, k0, k1, k2, ki, b0, b1, b2, d0, d1, d2, y1, y2, y3, o3, q1, bB_t, show 65 + 3 * i < 118 by omega, show 66 + 3 * i < 118 by omega, show 67 + 3 * i < 118 by omega, show Int32.toNatClampNeg 64 = 64 by decide, show ¬ (64 : Int32) < 0 by decide]
theorem m_seen_lp (hp : (if fo < 0 then py else fo) = p) (hP : PN w0 n c1 c2 c3) : ∀ (m k D2 : Nat) (h : zH) (v : zW0) (l3 l4 : Option Value), k + m = 13 → D2 ≤ 20000 + k → mQ h n D2 v py ex fo → (∀ k, 63 ≤ k → v k = w0 k) → ∃ h2 v2 D3 l2 l3' l4', FS SN h h2 ∧ mQ h2 n D3 v2 py ex fo ∧ (∀ j, 63 ≤ j → v2 j = v j) ∧ ∀ Q, zG (d + 24) 848 15 [some (.ref 88), some (.int 1), some (.int (nI k)), l3, l4] [] h Q = zG (d + 24) 848 109 [some (.ref 88), some (.int (bB (sSee p ex n w0 c1 m k v))), l2, l3', l4'] [] h2 Q
  | 0, k, D2, h, v, l3, l4, e, e2, m, hv => by
    have e : k = 13 := by omega
    subst e
    refine ⟨h, v, D2, some (.int (nI 13)), l3, l4, FS_r _ _, m, fun _ _ => rfl, fun Q => ?_⟩
    rw [g848_15]
    simp +decide only [Nat.reduceEqDiff, Nat.add_eq_left, Nat.left_eq_add, Nat.reduceAdd, Nat.reduceLeDiff, Nat.reduceMul, Nat.reduceSub, Nat.reduceLT, zlt8, zlt8_, zlt8n, zlt8n_, List.length_cons, List.length_nil, true_or, or_true, false_or, or_false, and_self, and_true, true_and, and_false, false_and, not_false_eq_true, not_true_eq_false, ite_true, ite_false, if_true, if_false, ite_not, zin, zpush_s, zpush_n, kl_int, kl_ref, kl_none, kl_kl, kl_long, kl_null, zT_wI, zT_wJ, zT_wR, zT_wIr, zT_wJr, zT_wRr, zI_wJ, zI_wR, zI_wJr, zI_wRr, zJ_wI, zJ_wR, zJ_wIr, zJ_wRr, zR_wI, zR_wJ, zR_wIr, zR_wJr, zN_wI, zN_wJ, zN_wR, zN_wIr, zN_wJr, zN_wRr, zZ_wI, zZ_wJ, zZ_wR, zZ_wIr, zZ_wJr, zZ_wRr, zI_wI, zJ_wJ, zR_wR, zI_wIr, zJ_wJr, zR_wRr, g848_16, g848_18, show (12 : Int32) < nI 13 by decide]
    rfl
  | m + 1, k, D2, h, v, l3, l4, e, e2, mm, hv => by
    obtain ⟨h1, f1, m1, g1⟩ := m_day (d := d) mm (by omega) hp
    have hn := mm.2.2.1.2.1
    obtain ⟨l5, gi⟩ := m_seen_in (d := d + 23) mm hv hP (k := k) (by omega) c1 0 true l4 (by omega)
    have gi' : ∀ Q, zG (d + 24) 848 27 [some (.ref 88), some (.int 1), some (.int (nI k)), some (.int 0), l4] [] h Q = zG (d + 24) 848 99 [some (.ref 88), some (.int (bB (sSk w0 c1 k v))), some (.int (nI k)), some (.int (nI c1)), l5] [] h Q := gi
    have z1 : ¬ 12 < nI k := nI_nlt (a := 12) (by omega) (by omega)
    have e3 : sSee p ex n w0 c1 (m + 1) k v = (sSk w0 c1 k v && sSee p ex n w0 c1 m (k + 1) (sDay p ex n v)) := rfl
    rw [e3]
    have kk : ∀ l3 : Option Value, zG (d + 24) 848 15 [some (.ref 88), some (.int 1), some (.int (nI k)), l3, l4] [] h = zG (d + 24) 848 27 [some (.ref 88), some (.int 1), some (.int (nI k)), some (.int 0), l4] [] h := fun l3 => by
      funext Q
      rw [g848_15]
      simp +decide only [Nat.reduceEqDiff, Nat.add_eq_left, Nat.left_eq_add, Nat.reduceAdd, Nat.reduceLeDiff, Nat.reduceMul, Nat.reduceSub, Nat.reduceLT, zlt8, zlt8_, zlt8n, zlt8n_, List.length_cons, List.length_nil, true_or, or_true, false_or, or_false, and_self, and_true, true_and, and_false, false_and, not_false_eq_true, not_true_eq_false, ite_true, ite_false, if_true, if_false, ite_not, zin, zpush_s, zpush_n, kl_int, kl_ref, kl_none, kl_kl, kl_long, kl_null, zT_wI, zT_wJ, zT_wR, zT_wIr, zT_wJr, zT_wRr, zI_wJ, zI_wR, zI_wJr, zI_wRr, zJ_wI, zJ_wR, zJ_wIr, zJ_wRr, zR_wI, zR_wJ, zR_wIr, zR_wJr, zN_wI, zN_wJ, zN_wR, zN_wIr, zN_wJr, zN_wRr, zZ_wI, zZ_wJ, zZ_wR, zZ_wIr, zZ_wJr, zZ_wRr, zI_wI, zJ_wJ, zR_wR, zI_wIr, zJ_wJr, zR_wRr, g848_16, g848_18, g848_21, g848_22, g848_25, g848_26, z1]
    obtain ⟨m88, m89, m90, m91, m92, m93, m94, m95, m96, m97, m98, m99, m100, m101, m102, m103, m104, m105, m106, n0, n1, n2, n5, n7, n8, n10, n17, n18, n19, n20, n21, n22, n23, n25, n26, n27, n28⟩ := mm.1.1
    cases q : sSk w0 c1 k v with
    | true =>
      obtain ⟨h2, v2, D3, l2, l3', l4', f2, m2, o2, g2⟩ := m_seen_lp hp hP m (k + 1) (D2 + 1) h1 _ (some (.int (nI c1))) l5 (by omega) (by omega) m1 (fun j hj => by rw [sDay_out _ hn hj]; exact hv j hj)
      refine ⟨h2, v2, D3, l2, l3', l4', FS_t f1 f2, m2, fun j hj => by rw [o2 j hj, sDay_out _ hn hj], fun Q => ?_⟩
      rw [Bool.true_and, kk, gi', ← g2 Q, q, bB_t]
      simp +decide only [Nat.reduceEqDiff, Nat.add_eq_left, Nat.left_eq_add, Nat.reduceAdd, Nat.reduceLeDiff, Nat.reduceMul, Nat.reduceSub, Nat.reduceLT, zlt8, zlt8_, zlt8n, zlt8n_, List.length_cons, List.length_nil, true_or, or_true, false_or, or_false, and_self, and_true, true_and, and_false, false_and, not_false_eq_true, not_true_eq_false, ite_true, ite_false, if_true, if_false, ite_not, zin, zpush_s, zpush_n, kl_int, kl_ref, kl_none, kl_kl, kl_long, kl_null, zT_wI, zT_wJ, zT_wR, zT_wIr, zT_wJr, zT_wRr, zI_wJ, zI_wR, zI_wJr, zI_wRr, zJ_wI, zJ_wR, zJ_wIr, zJ_wRr, zR_wI, zR_wJ, zR_wIr, zR_wJr, zN_wI, zN_wJ, zN_wR, zN_wIr, zN_wJr, zN_wRr, zZ_wI, zZ_wJ, zZ_wR, zZ_wIr, zZ_wJr, zZ_wRr, zI_wI, zJ_wJ, zR_wR, zI_wIr, zJ_wJr, zR_wRr, g848_99, g848_100, g848_103, g848_106, m88, g1, nI_1]
    | false =>
      refine ⟨h1, sDay p ex n v, D2 + 1, some (.int (nI (k + 1))), some (.int (nI c1)), l5, f1, m1, fun j hj => sDay_out _ hn hj, fun Q => ?_⟩
      rw [Bool.false_and, kk, gi', q, bB_f]
      simp +decide only [Nat.reduceEqDiff, Nat.add_eq_left, Nat.left_eq_add, Nat.reduceAdd, Nat.reduceLeDiff, Nat.reduceMul, Nat.reduceSub, Nat.reduceLT, zlt8, zlt8_, zlt8n, zlt8n_, List.length_cons, List.length_nil, true_or, or_true, false_or, or_false, and_self, and_true, true_and, and_false, false_and, not_false_eq_true, not_true_eq_false, ite_true, ite_false, if_true, if_false, ite_not, zin, zpush_s, zpush_n, kl_int, kl_ref, kl_none, kl_kl, kl_long, kl_null, zT_wI, zT_wJ, zT_wR, zT_wIr, zT_wJr, zT_wRr, zI_wJ, zI_wR, zI_wJr, zI_wRr, zJ_wI, zJ_wR, zJ_wIr, zJ_wRr, zR_wI, zR_wJ, zR_wIr, zR_wJr, zN_wI, zN_wJ, zN_wR, zN_wIr, zN_wJr, zN_wRr, zZ_wI, zZ_wJ, zZ_wR, zZ_wIr, zZ_wJr, zZ_wRr, zI_wI, zJ_wJ, zR_wR, zI_wIr, zJ_wJr, zR_wRr, g848_99, g848_100, g848_103, g848_106, m88, g1, nI_1]
      rw [g848_15]
      simp +decide only [Nat.reduceEqDiff, Nat.add_eq_left, Nat.left_eq_add, Nat.reduceAdd, Nat.reduceLeDiff, Nat.reduceMul, Nat.reduceSub, Nat.reduceLT, zlt8, zlt8_, zlt8n, zlt8n_, List.length_cons, List.length_nil, true_or, or_true, false_or, or_false, and_self, and_true, true_and, and_false, false_and, not_false_eq_true, not_true_eq_false, ite_true, ite_false, if_true, if_false, ite_not, zin, zpush_s, zpush_n, kl_int, kl_ref, kl_none, kl_kl, kl_long, kl_null, zT_wI, zT_wJ, zT_wR, zT_wIr, zT_wJr, zT_wRr, zI_wJ, zI_wR, zI_wJr, zI_wRr, zJ_wI, zJ_wR, zJ_wIr, zJ_wRr, zR_wI, zR_wJ, zR_wIr, zR_wJr, zN_wI, zN_wJ, zN_wR, zN_wIr, zN_wJr, zN_wRr, zZ_wI, zZ_wJ, zZ_wR, zZ_wIr, zZ_wJr, zZ_wRr, zI_wI, zJ_wJ, zR_wR, zI_wIr, zJ_wJr, zR_wRr, g848_16, g848_18, g848_21, g848_22, ite_self]
theorem m_seen (m : mQ h n D v py ex fo) (hP : PN w0 n c1 c2 c3) (hv : ∀ k, 63 ≤ k → v k = w0 k) (hD : D ≤ 20000) (hp : (if fo < 0 then py else fo) = p) : ∃ h1, FS SY h h1 ∧ mQ h1 n D v py ex fo ∧ ∀ Q, zCall (d + 25) 848 [.ref 88] h Q = Q (some (.int (bB (sSee p ex n w0 c1 13 0 v)))) h1 := by
  have m1 := M_save m
  obtain ⟨h2, v2, D3, l2, l3, l4, f2, m2, o2, g2⟩ := m_seen_lp (d := d) hp hP 13 0 D (wS h) v none none (by omega) (by omega) m1 hv
  obtain ⟨F, m3⟩ := M_back m f2 (fun k hk => by rw [m2.2.1]; exact o2 k (by omega))
  refine ⟨wB h2, F, m3, fun Q => ?_⟩
  have gs := fun Q => m_save (d := d + 23) m Q
  have gb := fun Q => m_back (d := d + 23) m2 Q
  have a0 := m1.1.1.1
  obtain ⟨b0, b1, b2, b3, b4, b5, b6, b7, b8, b9, b10, b11, b12, b13, b14, b15, b16, b17, b18, c0, c1, -⟩ := m2.1.1
  obtain ⟨m88, m89, m90, m91, m92, m93, m94, m95, m96, m97, m98, m99, m100, m101, m102, m103, m104, m105, m106, n0, n1, n2, n5, n7, n8, n10, n17, n18, n19, n20, n21, n22, n23, n25, n26, n27, n28⟩ := m.1.1
  revert g2
  generalize sSee p ex n w0 _ 13 0 v = r
  intro g2
  have hz := bB_z r
  have g2' : ∀ Q, zG (d + 24) 848 15 [some (.ref 88), some (.int 1), some (.int 0), none, none] [] (wS h) Q = zG (d + 24) 848 109 [some (.ref 88), some (.int (bB r)), l2, l3, l4] [] h2 Q := g2
  simp +decide only [Nat.reduceEqDiff, Nat.add_eq_left, Nat.left_eq_add, Nat.reduceAdd, Nat.reduceLeDiff, Nat.reduceMul, Nat.reduceSub, Nat.reduceLT, zlt8, zlt8_, zlt8n, zlt8n_, List.length_cons, List.length_nil, true_or, or_true, false_or, or_false, and_self, and_true, true_and, and_false, false_and, not_false_eq_true, not_true_eq_false, ite_true, ite_false, if_true, if_false, ite_not, zin, zpush_s, zpush_n, kl_int, kl_ref, kl_none, kl_kl, kl_long, kl_null, zT_wI, zT_wJ, zT_wR, zT_wIr, zT_wJr, zT_wRr, zI_wJ, zI_wR, zI_wJr, zI_wRr, zJ_wI, zJ_wR, zJ_wIr, zJ_wRr, zR_wI, zR_wJ, zR_wIr, zR_wJr, zN_wI, zN_wJ, zN_wR, zN_wIr, zN_wJr, zN_wRr, zZ_wI, zZ_wJ, zZ_wR, zZ_wIr, zZ_wJr, zZ_wRr, zI_wI, zJ_wJ, zR_wR, zI_wIr, zJ_wJr, zR_wRr, k848, g848_0, g848_1, g848_4, g848_5, g848_8, g848_11, g848_12, g848_13, g848_14, g848_16, g848_18, g848_21, g848_22, g848_25, g848_26, g848_28, g848_29, g848_32, g848_34, g848_35, g848_38, g848_40, g848_41, g848_42, g848_43, g848_44, g848_46, g848_47, g848_50, g848_51, g848_54, g848_56, g848_57, g848_58, g848_59, g848_60, g848_63, g848_64, g848_65, g848_68, g848_70, g848_71, g848_72, g848_75, g848_76, g848_79, g848_81, g848_82, g848_83, g848_84, g848_87, g848_88, g848_91, g848_92, g848_93, g848_96, g848_99, g848_100, g848_103, g848_106, g848_109, g848_110, g848_113, g848_114, g848_117, g848_120, g848_121, m88, m89, m90, m91, m92, m93, m94, m95, m96, m97, m98, m99, m100, m101, m102, m103, m104, m105, m106, n0, n1, n2, n5, n7, n8, n10, n17, n18, n19, n20, n21, n22, n23, n25, n26, n27, n28, gs, g2', gb, b0, c0, c1, hz]
/-- one number other -/
theorem M_chg (m : mQ h n D w py ex fo) (ht : t < 6) (j : Nat) (hj : j < 10) (hw : sOK (va_up w (10 * t + j) x) n D) : FS SY h (wI h 89 (10 * t + j) x) ∧ mQ (wI h 89 (10 * t + j) x) n D (va_up w (10 * t + j) x) py ex fo := by
  have f : FS SY h (wI h 89 (10 * t + j) x) := FS_I _ (by unfold SY; omega)
  refine ⟨f, MQ_f (fun b k z => ⟨SY_M b k z, SY_T b k z⟩) f m (by rw [zI_wI, if_pos rfl, m.2.1]) hw (up_n _ _ (by omega)) (by rw [zI_wI, if_neg (by omega)]; exact m.2.2.2.2)⟩
theorem m_chg (m : mQ h n D w py ex fo) (ht : t < 6) (j : Nat) (hj : j < 10) (Q : zQq) : zCall (d + 2) 809 [.ref 88, .int (nI t), .int (nI j), .int x] h Q = Q (some (.int (w (10 * t + j)))) (wI h 89 (10 * t + j) x) := by
  rw [← m.2.1]; exact c_chg m.1.1 j hj ht Q
theorem m_one (m : mQ h n D w py ex fo) (ht : t < 6) (j : Nat) (hj : j < 10) (Q : zQq) : zCall (d + 1) 808 [.ref 88, .int (nI t), .int (nI j)] h Q = Q (some (.int (w (10 * t + j)))) h := by
  rw [← m.2.1]; exact c_oneg m.1.1 j hj ht Q
theorem m_fits_lp (hp : (if fo < 0 then py else fo) = p) (hD : D ≤ 20000) (hP : PN w n c1 c2 c3) (hw : sOK w n D) (ht : t < n) (j : Nat) (hj : j < 4) : ∀ (m : Nat) (h : zH) (u : Int32) (s : Int32 × Int32) (l9 : Option Value), m ≤ 100 → mQ h n D (va_up w (10 * t + j) u) py ex fo → ∃ h1 u2 l10, FS SY h h1 ∧ mQ h1 n D (va_up w (10 * t + j) u2) py ex fo ∧ ∀ Q, zG (d + 25) 849 18 [some (.ref 88), some (.int (nI t)), some (.int (nI j)), some (.int x), some (.int y), some (.int z), some (.int s.1), some (.int s.2), some (.int (nI m - 1)), l9] [] h Q = zG (d + 25) 849 73 [some (.ref 88), some (.int (nI t)), some (.int (nI j)), some (.int x), some (.int y), some (.int z), some (.int (sDn (sF p ex n w c1 t j) m s).1), some (.int (sDn (sF p ex n w c1 t j) m s).2), some (.int (nI 0 - 1)), l10] [] h1 Q
  | 0, h, u, s, l9, e, m => by
    refine ⟨h, u, l9, FS_r _ _, m, fun Q => ?_⟩
    rw [g849_18]
    simp +decide only [Nat.reduceEqDiff, Nat.add_eq_left, Nat.left_eq_add, Nat.reduceAdd, Nat.reduceLeDiff, Nat.reduceMul, Nat.reduceSub, Nat.reduceLT, zlt8, zlt8_, zlt8n, zlt8n_, List.length_cons, List.length_nil, true_or, or_true, false_or, or_false, and_self, and_true, true_and, and_false, false_and, not_false_eq_true, not_true_eq_false, ite_true, ite_false, if_true, if_false, ite_not, zin, zpush_s, zpush_n, kl_int, kl_ref, kl_none, kl_kl, kl_long, kl_null, zT_wI, zT_wJ, zT_wR, zT_wIr, zT_wJr, zT_wRr, zI_wJ, zI_wR, zI_wJr, zI_wRr, zJ_wI, zJ_wR, zJ_wIr, zJ_wRr, zR_wI, zR_wJ, zR_wIr, zR_wJr, zN_wI, zN_wJ, zN_wR, zN_wIr, zN_wJr, zN_wRr, zZ_wI, zZ_wJ, zZ_wR, zZ_wIr, zZ_wJr, zZ_wRr, zI_wI, zJ_wJ, zR_wR, zI_wIr, zJ_wJr, zR_wRr, g849_20, show (nI 0 - 1) < 0 by decide]
    rfl
  | m + 1, h, u, s, l9, e, mm => by
    have hn := hw.2.1
    obtain ⟨f1, m1⟩ := M_chg (x := nI m) mm (show t < 6 by omega) j (by omega) (by rw [up_up]; exact sOK_c hw j (by omega) (by omega))
    rw [up_up] at m1
    obtain ⟨h2, f2, m2, g2⟩ := m_seen (d := d) m1 hP (fun k hk => up_n _ _ (by omega)) hD hp
    have eF : sSee p ex n w c1 13 0 (va_up w (10 * t + j) (nI m)) = sF p ex n w c1 t j m := rfl
    rw [eF] at g2
    obtain ⟨h3, u3, l10, f3, m3, g3⟩ := m_fits_lp hp hD hP hw ht j hj m h2 _ (if sF p ex n w c1 t j m then (s.1 + 1, nI m) else s) (some (.int (bB (sF p ex n w c1 t j m)))) (by omega) m2
    refine ⟨h3, u3, l10, FS_t (FS_t f1 f2) f3, m3, fun Q => ?_⟩
    have e1 : sDn (sF p ex n w c1 t j) (m + 1) s = sDn (sF p ex n w c1 t j) m (if sF p ex n w c1 t j m then (s.1 + 1, nI m) else s) := rfl
    have oc : ∀ x Q, zCall (d + 25) 809 [.ref 88, .int (nI t), .int (nI j), .int x] h Q = Q (some (.int ((va_up w (10 * t + j) u) (10 * t + j)))) (wI h 89 (10 * t + j) x) := fun x Q => m_chg mm (by omega) j (by omega) Q
    have z0 := nI_pred m
    have z1 := nI_pos (n := m) (by omega)
    have z4 : nI m + -1 = nI m - 1 := (Int32.sub_eq_add_neg ..).symm
    have b0 := m1.1.1.1
    obtain ⟨m88, m89, m90, m91, m92, m93, m94, m95, m96, m97, m98, m99, m100, m101, m102, m103, m104, m105, m106, n0, n1, n2, n5, n7, n8, n10, n17, n18, n19, n20, n21, n22, n23, n25, n26, n27, n28⟩ := mm.1.1
    rw [e1, ← g3 Q, g849_18]
    cases q : sF p ex n w c1 t j m <;> rw [q] at g2 <;> simp +decide only [Nat.reduceEqDiff, Nat.add_eq_left, Nat.left_eq_add, Nat.reduceAdd, Nat.reduceLeDiff, Nat.reduceMul, Nat.reduceSub, Nat.reduceLT, zlt8, zlt8_, zlt8n, zlt8n_, List.length_cons, List.length_nil, true_or, or_true, false_or, or_false, and_self, and_true, true_and, and_false, false_and, not_false_eq_true, not_true_eq_false, ite_true, ite_false, if_true, if_false, ite_not, zin, zpush_s, zpush_n, kl_int, kl_ref, kl_none, kl_kl, kl_long, kl_null, zT_wI, zT_wJ, zT_wR, zT_wIr, zT_wJr, zT_wRr, zI_wJ, zI_wR, zI_wJr, zI_wRr, zJ_wI, zJ_wR, zJ_wIr, zJ_wRr, zR_wI, zR_wJ, zR_wIr, zR_wJr, zN_wI, zN_wJ, zN_wR, zN_wIr, zN_wJr, zN_wRr, zZ_wI, zZ_wJ, zZ_wR, zZ_wIr, zZ_wJr, zZ_wRr, zI_wI, zJ_wJ, zR_wR, zI_wIr, zJ_wJr, zR_wRr, g849_0, g849_1, g849_2, g849_3, g849_6, g849_8, g849_9, g849_11, g849_13, g849_15, g849_16, g849_20, g849_23, g849_24, g849_25, g849_26, g849_28, g849_31, g849_32, g849_33, g849_36, g849_38, g849_40, g849_42, g849_45, g849_46, g849_49, g849_50, g849_51, g849_53, g849_55, g849_58, g849_60, g849_63, g849_65, g849_67, g849_70, g849_73, g849_74, g849_75, g849_76, g849_78, g849_81, g849_82, g849_84, g849_87, g849_89, g849_92, g849_94, m88, b0, z0, z1, z4, oc, g2, bB_t, bB_f, Bool.false_eq_true, Int32.add_zero]
theorem m_fits (hp : (if fo < 0 then py else fo) = p) (hD : D ≤ 20000) (hP : PN w n c1 c2 c3) (m : mQ h n D w py ex fo) (ht : t < n) (j : Nat) (hj : j < 4) {M : Nat} (hM : M ≤ 100) (hy : y = 0 ∨ y = 1) : ∃ h1, FS SY h h1 ∧ mQ h1 n D w py ex fo ∧ ∀ Q, zCall (d + 26) 849 [.ref 88, .int (nI t), .int (nI j), .int (nI M - 1), .int y] h Q = Q (some (.int (sPick y (sDn (sF p ex n w c1 t j) M (0, -5))))) h1 := by
  have hn := m.2.2.1.2.1
  obtain ⟨h1, u, l10, f1, m1, g1⟩ := m_fits_lp (d := d) (x := nI M - 1) (y := y) (z := w (10 * t + j)) hp hD hP m.2.2.1 ht j hj M h (w (10 * t + j)) (0, -5) none hM (by rw [up_id]; exact m)
  obtain ⟨f2, m2⟩ := M_chg (x := w (10 * t + j)) m1 (show t < 6 by omega) j (by omega) (by rw [up_up, up_id]; exact m.2.2.1)
  rw [up_up, up_id] at m2
  refine ⟨_, FS_t f1 f2, m2, ?_⟩
  have oc : ∀ x Q, zCall (d + 25) 809 [.ref 88, .int (nI t), .int (nI j), .int x] h1 Q = Q (some (.int ((va_up w (10 * t + j) u) (10 * t + j)))) (wI h1 89 (10 * t + j) x) := fun x Q => m_chg m1 (by omega) j (by omega) Q
  have oo : ∀ Q, zCall (d + 25) 808 [.ref 88, .int (nI t), .int (nI j)] h Q = Q (some (.int (w (10 * t + j)))) h := fun Q => m_one m (by omega) j (by omega) Q
  revert g1
  generalize sDn (sF p ex n w c1 t j) M (0, -5) = r
  intro g1 Q
  have g1' : ∀ Q, zG (d + 25) 849 18 [some (.ref 88), some (.int (nI t)), some (.int (nI j)), some (.int (nI M - 1)), some (.int y), some (.int (w (10 * t + j))), some (.int 0), some (.int (-5)), some (.int (nI M - 1)), none] [] h Q = _ := g1
  have b0 := m1.1.1.1
  obtain ⟨m88, m89, m90, m91, m92, m93, m94, m95, m96, m97, m98, m99, m100, m101, m102, m103, m104, m105, m106, n0, n1, n2, n5, n7, n8, n10, n17, n18, n19, n20, n21, n22, n23, n25, n26, n27, n28⟩ := m.1.1
  unfold sPick
  rcases hy with rfl | rfl <;> simp +decide only [Nat.reduceEqDiff, Nat.add_eq_left, Nat.left_eq_add, Nat.reduceAdd, Nat.reduceLeDiff, Nat.reduceMul, Nat.reduceSub, Nat.reduceLT, zlt8, zlt8_, zlt8n, zlt8n_, List.length_cons, List.length_nil, true_or, or_true, false_or, or_false, and_self, and_true, true_and, and_false, false_and, not_false_eq_true, not_true_eq_false, ite_true, ite_false, if_true, if_false, ite_not, zin, zpush_s, zpush_n, kl_int, kl_ref, kl_none, kl_kl, kl_long, kl_null, zT_wI, zT_wJ, zT_wR, zT_wIr, zT_wJr, zT_wRr, zI_wJ, zI_wR, zI_wJr, zI_wRr, zJ_wI, zJ_wR, zJ_wIr, zJ_wRr, zR_wI, zR_wJ, zR_wIr, zR_wJr, zN_wI, zN_wJ, zN_wR, zN_wIr, zN_wJr, zN_wRr, zZ_wI, zZ_wJ, zZ_wR, zZ_wIr, zZ_wJr, zZ_wRr, zI_wI, zJ_wJ, zR_wR, zI_wIr, zJ_wJr, zR_wRr, k849, g849_0, g849_1, g849_2, g849_3, g849_6, g849_8, g849_9, g849_11, g849_13, g849_15, g849_16, g849_20, g849_23, g849_24, g849_25, g849_26, g849_28, g849_31, g849_32, g849_33, g849_36, g849_38, g849_40, g849_42, g849_45, g849_46, g849_49, g849_50, g849_51, g849_53, g849_55, g849_58, g849_60, g849_63, g849_65, g849_67, g849_70, g849_73, g849_74, g849_75, g849_76, g849_78, g849_81, g849_82, g849_84, g849_87, g849_89, g849_92, g849_94, m88, b0, oo, oc, g1']
theorem m_can (hp : (if fo < 0 then py else fo) = p) (hD : D ≤ 20000) (hP : PN w n c1 c2 c3) (m : mQ h n D w py ex fo) (ht : t < n) (hx : x = 0 ∨ x = 1) (hy : y = 0 ∨ y = 1) : ∃ h1, FS SY h h1 ∧ mQ h1 n D w py ex fo ∧ ∀ Q, zCall (d + 27) 850 [.ref 88, .int (nI t), .int x, .int y] h Q = Q (some (.int (aCan p ex n w c1 t x y))) h1 := by
  have co : ∀ x Q, zCall (d + 26) 807 [.ref 88, .int x] h Q = Q (some (.int (bI (sIs n x)))) h := fun x Q => m_isOne m Q
  have y4 : sIs n (nI t) := ⟨t, ht, rfl⟩
  have m88 := m.1.1.1
  rcases hx with rfl | rfl
  · obtain ⟨h1, f1, m1, g1⟩ := m_fits (d := d) hp hD hP m ht 2 (by omega) (M := 100) (by omega) hy
    refine ⟨h1, f1, m1, ?_⟩
    have ea : aCan p ex n w c1 t 0 y = sPick y (sDn (sF p ex n w c1 t 2) 100 (0, -5)) := by unfold aCan; rw [if_pos rfl]
    rw [ea]
    revert g1
    generalize sPick y (sDn (sF p ex n w c1 t 2) 100 (0, -5)) = r
    intro g1 Q
    have e9 : nI 100 - 1 = 99 := by decide
    have g1' : ∀ Q, zCall (d + 26) 849 [.ref 88, .int (nI t), .int 2, .int (nI 100 - 1), .int y] h Q = _ := g1
    rw [e9] at g1'
    rcases hy with rfl | rfl <;> simp +decide only [Nat.reduceEqDiff, Nat.add_eq_left, Nat.left_eq_add, Nat.reduceAdd, Nat.reduceLeDiff, Nat.reduceMul, Nat.reduceSub, Nat.reduceLT, zlt8, zlt8_, zlt8n, zlt8n_, List.length_cons, List.length_nil, true_or, or_true, false_or, or_false, and_self, and_true, true_and, and_false, false_and, not_false_eq_true, not_true_eq_false, ite_true, ite_false, if_true, if_false, ite_not, zin, zpush_s, zpush_n, kl_int, kl_ref, kl_none, kl_kl, kl_long, kl_null, zT_wI, zT_wJ, zT_wR, zT_wIr, zT_wJr, zT_wRr, zI_wJ, zI_wR, zI_wJr, zI_wRr, zJ_wI, zJ_wR, zJ_wIr, zJ_wRr, zR_wI, zR_wJ, zR_wIr, zR_wJr, zN_wI, zN_wJ, zN_wR, zN_wIr, zN_wJr, zN_wRr, zZ_wI, zZ_wJ, zZ_wR, zZ_wIr, zZ_wJr, zZ_wRr, zI_wI, zJ_wJ, zR_wR, zI_wIr, zJ_wJr, zR_wRr, k850, g850_0, g850_1, g850_2, g850_5, g850_8, g850_9, g850_10, g850_11, g850_14, g850_17, g850_18, g850_19, g850_20, g850_23, g850_26, g850_27, g850_28, g850_29, g850_32, g850_33, g850_34, g850_35, g850_37, g850_38, g850_41, g850_44, g850_45, g850_46, g850_47, g850_49, g850_50, g850_53, m88, co, y4, bI_t, c_isIn, g1']
  · obtain ⟨h1, f1, m1, g1⟩ := m_fits (d := d) hp hD hP m ht 1 (by omega) (M := 10) (by omega) hy
    refine ⟨h1, f1, m1, ?_⟩
    have ea : aCan p ex n w c1 t 1 y = sPick y (sDn (sF p ex n w c1 t 1) 10 (0, -5)) := by unfold aCan; rw [if_neg (by decide)]
    rw [ea]
    revert g1
    generalize sPick y (sDn (sF p ex n w c1 t 1) 10 (0, -5)) = r
    intro g1 Q
    have e9 : nI 10 - 1 = 9 := by decide
    have g1' : ∀ Q, zCall (d + 26) 849 [.ref 88, .int (nI t), .int 1, .int (nI 10 - 1), .int y] h Q = _ := g1
    rw [e9] at g1'
    rcases hy with rfl | rfl <;> simp +decide only [Nat.reduceEqDiff, Nat.add_eq_left, Nat.left_eq_add, Nat.reduceAdd, Nat.reduceLeDiff, Nat.reduceMul, Nat.reduceSub, Nat.reduceLT, zlt8, zlt8_, zlt8n, zlt8n_, List.length_cons, List.length_nil, true_or, or_true, false_or, or_false, and_self, and_true, true_and, and_false, false_and, not_false_eq_true, not_true_eq_false, ite_true, ite_false, if_true, if_false, ite_not, zin, zpush_s, zpush_n, kl_int, kl_ref, kl_none, kl_kl, kl_long, kl_null, zT_wI, zT_wJ, zT_wR, zT_wIr, zT_wJr, zT_wRr, zI_wJ, zI_wR, zI_wJr, zI_wRr, zJ_wI, zJ_wR, zJ_wIr, zJ_wRr, zR_wI, zR_wJ, zR_wIr, zR_wJr, zN_wI, zN_wJ, zN_wR, zN_wIr, zN_wJr, zN_wRr, zZ_wI, zZ_wJ, zZ_wR, zZ_wIr, zZ_wJr, zZ_wRr, zI_wI, zJ_wJ, zR_wR, zI_wIr, zJ_wJr, zR_wRr, k850, g850_0, g850_1, g850_2, g850_5, g850_8, g850_9, g850_10, g850_11, g850_14, g850_17, g850_18, g850_19, g850_20, g850_23, g850_26, g850_27, g850_28, g850_29, g850_32, g850_33, g850_34, g850_35, g850_37, g850_38, g850_41, g850_44, g850_45, g850_46, g850_47, g850_49, g850_50, g850_53, m88, co, y4, bI_t, c_isIn, g1']
/-! places -/
theorem up_c {f : Nat → Int32} {i j : Nat} {x y : Int32} (h : ¬ i = j) : va_up (va_up f i x) j y = va_up (va_up f j y) i x := by
  funext k
  rw [up_a, up_a, up_a, up_a]
  by_cases e1 : k = i
  · have e2 : ¬ k = j := fun z => h (e1 ▸ z)
    rw [if_pos e1, if_neg e2, if_pos e1]
  · rw [if_neg e1, if_neg e1]
theorem m_places_lp (hp : (if fo < 0 then py else fo) = p) (hD : D ≤ 20000) (hP : PN w n c1 c2 c3) (hw : sOK w n D) (ht : t < n) : ∀ (m k : Nat) (h : zH) (u s : Int32), k + m = 11 → mQ h n D (va_up (va_up w (10 * t + 4) 0) (10 * t + 3) u) py ex fo → ∃ h1 u2, FS SY h h1 ∧ mQ h1 n D (va_up (va_up w (10 * t + 4) 0) (10 * t + 3) u2) py ex fo ∧ ∀ Q, zG (d + 25) 851 31 [some (.ref 88), some (.int (nI t)), some (.int x), some (.int y), some (.int s), some (.int (nI k))] [] h Q = zG (d + 25) 851 73 [some (.ref 88), some (.int (nI t)), some (.int x), some (.int y), some (.int (lp (fun k s => if sP1 p ex n w c1 t k then s ||| iShl 1 (nI k) else s) m k s)), some (.int (nI 11))] [] h1 Q
  | 0, k, h, u, s, e, m => by
    have e : k = 11 := by omega
    subst e
    refine ⟨h, u, FS_r _ _, m, fun Q => ?_⟩
    rw [g851_31]
    simp +decide only [Nat.reduceEqDiff, Nat.add_eq_left, Nat.left_eq_add, Nat.reduceAdd, Nat.reduceLeDiff, Nat.reduceMul, Nat.reduceSub, Nat.reduceLT, zlt8, zlt8_, zlt8n, zlt8n_, List.length_cons, List.length_nil, true_or, or_true, false_or, or_false, and_self, and_true, true_and, and_false, false_and, not_false_eq_true, not_true_eq_false, ite_true, ite_false, if_true, if_false, ite_not, zin, zpush_s, zpush_n, kl_int, kl_ref, kl_none, kl_kl, kl_long, kl_null, zT_wI, zT_wJ, zT_wR, zT_wIr, zT_wJr, zT_wRr, zI_wJ, zI_wR, zI_wJr, zI_wRr, zJ_wI, zJ_wR, zJ_wIr, zJ_wRr, zR_wI, zR_wJ, zR_wIr, zR_wJr, zN_wI, zN_wJ, zN_wR, zN_wIr, zN_wJr, zN_wRr, zZ_wI, zZ_wJ, zZ_wR, zZ_wIr, zZ_wJr, zZ_wRr, zI_wI, zJ_wJ, zR_wR, zI_wIr, zJ_wJr, zR_wRr, g851_33, g851_35, show (10 : Int32) < nI 11 by decide, lp_0]
  | m + 1, k, h, u, s, e, mm => by
    have hn := hw.2.1
    have hw2 : ∀ u, sOK (va_up (va_up w (10 * t + 4) 0) (10 * t + 3) u) n D := fun u => sOK_c (sOK_b hw (by omega) (Or.inl rfl)) 3 (by omega) (by omega)
    obtain ⟨f1, m1⟩ := M_chg (x := nI k) mm (show t < 6 by omega) 3 (by omega) (by rw [up_up]; exact hw2 _)
    rw [up_up] at m1
    obtain ⟨h2, f2, m2, g2⟩ := m_seen (d := d) m1 hP (fun k hk => by rw [up_n _ _ (by omega), up_n _ _ (by omega)]) hD hp
    have eF : sSee p ex n w c1 13 0 (va_up (va_up w (10 * t + 4) 0) (10 * t + 3) (nI k)) = sP1 p ex n w c1 t k := by
      rw [up_c (show ¬ 10 * t + 4 = 10 * t + 3 by omega)]; rfl
    rw [eF] at g2
    obtain ⟨h3, u3, f3, m3, g3⟩ := m_places_lp hp hD hP hw ht m (k + 1) h2 _ (if sP1 p ex n w c1 t k then s ||| iShl 1 (nI k) else s) (by omega) m2
    refine ⟨h3, u3, FS_t (FS_t f1 f2) f3, m3, fun Q => ?_⟩
    have oc : ∀ x Q, zCall (d + 25) 809 [.ref 88, .int (nI t), .int 3, .int x] h Q = Q (some (.int ((va_up (va_up w (10 * t + 4) 0) (10 * t + 3) u) (10 * t + 3)))) (wI h 89 (10 * t + 3) x) := fun x Q => m_chg mm (by omega) 3 (by omega) Q
    have z1 : ¬ 10 < nI k := nI_nlt (a := 10) (by omega) (by omega)
    have b0 := m1.1.1.1
    obtain ⟨m88, m89, m90, m91, m92, m93, m94, m95, m96, m97, m98, m99, m100, m101, m102, m103, m104, m105, m106, n0, n1, n2, n5, n7, n8, n10, n17, n18, n19, n20, n21, n22, n23, n25, n26, n27, n28⟩ := mm.1.1
    unfold iShl at g3 ⊢
    rw [lp_s, ← g3 Q, g851_31]
    cases q : sP1 p ex n w c1 t k <;> rw [q] at g2 <;> simp +decide only [Nat.reduceEqDiff, Nat.add_eq_left, Nat.left_eq_add, Nat.reduceAdd, Nat.reduceLeDiff, Nat.reduceMul, Nat.reduceSub, Nat.reduceLT, zlt8, zlt8_, zlt8n, zlt8n_, List.length_cons, List.length_nil, true_or, or_true, false_or, or_false, and_self, and_true, true_and, and_false, false_and, not_false_eq_true, not_true_eq_false, ite_true, ite_false, if_true, if_false, ite_not, zin, zpush_s, zpush_n, kl_int, kl_ref, kl_none, kl_kl, kl_long, kl_null, zT_wI, zT_wJ, zT_wR, zT_wIr, zT_wJr, zT_wRr, zI_wJ, zI_wR, zI_wJr, zI_wRr, zJ_wI, zJ_wR, zJ_wIr, zJ_wRr, zR_wI, zR_wJ, zR_wIr, zR_wJr, zN_wI, zN_wJ, zN_wR, zN_wIr, zN_wJr, zN_wRr, zZ_wI, zZ_wJ, zZ_wR, zZ_wIr, zZ_wJr, zZ_wRr, zI_wI, zJ_wJ, zR_wR, zI_wIr, zJ_wJr, zR_wRr, g851_0, g851_1, g851_2, g851_5, g851_8, g851_9, g851_10, g851_11, g851_12, g851_13, g851_16, g851_17, g851_18, g851_19, g851_20, g851_21, g851_24, g851_25, g851_26, g851_28, g851_29, g851_33, g851_35, g851_38, g851_39, g851_40, g851_41, g851_43, g851_46, g851_47, g851_49, g851_50, g851_53, g851_56, g851_57, g851_59, g851_60, g851_63, g851_64, g851_65, g851_67, g851_70, g851_73, g851_74, g851_75, g851_76, g851_77, g851_80, g851_81, g851_82, g851_83, g851_84, g851_85, g851_88, g851_89, g851_91, m88, b0, z1, oc, g2, bB_t, bB_f, Bool.false_eq_true, Int32.or_zero, nI_1]
theorem m_places (hp : (if fo < 0 then py else fo) = p) (hD : D ≤ 20000) (hP : PN w n c1 c2 c3) (m : mQ h n D w py ex fo) (ht : t < n) : ∃ h1, FS SY h h1 ∧ mQ h1 n D w py ex fo ∧ ∀ Q, zCall (d + 26) 851 [.ref 88, .int (nI t)] h Q = Q (some (.int (sPl p ex n w c1 t))) h1 := by
  have hn := m.2.2.1.2.1
  have ht6 : t < 6 := by omega
  have co : ∀ x Q, zCall (d + 25) 807 [.ref 88, .int x] h Q = Q (some (.int (bI (sIs n x)))) h := fun x Q => m_isOne m Q
  have y4 : sIs n (nI t) := ⟨t, ht, rfl⟩
  have m88 := m.1.1.1
  have e1 : w (10 * t + 3) = (va_up w (10 * t + 4) 0) (10 * t + 3) := (up_n _ _ (by omega)).symm
  obtain ⟨f0, m0⟩ := M_chg (x := 0) m ht6 4 (by omega) (sOK_b m.2.2.1 ht6 (Or.inl rfl))
  obtain ⟨h1, u, f1, m1, g1⟩ := m_places_lp (d := d) (x := w (10 * t + 3)) (y := w (10 * t + 4)) hp hD hP m.2.2.1 ht 11 0 _ (w (10 * t + 3)) 0 (by omega) (by rw [e1, up_id]; exact m0)
  obtain ⟨f2, m2⟩ := M_chg (x := w (10 * t + 3)) m1 ht6 3 (by omega) (by rw [up_up, e1, up_id]; exact sOK_b m.2.2.1 ht6 (Or.inl rfl))
  rw [up_up, e1, up_id, ← e1] at m2
  obtain ⟨f3, m3⟩ := M_chg (x := w (10 * t + 4)) m2 ht6 4 (by omega) (by rw [up_up, up_id]; exact m.2.2.1)
  rw [up_up, up_id] at m3
  refine ⟨_, FS_t (FS_t (FS_t f0 f1) f2) f3, m3, ?_⟩
  have eL : lp (fun k s => if sP1 p ex n w c1 t k then s ||| iShl 1 (nI k) else s) 11 0 0 = sPl p ex n w c1 t := rfl
  rw [eL] at g1
  revert g1
  generalize sPl p ex n w c1 t = r
  intro g1 Q
  have g1' : ∀ Q, zG (d + 25) 851 31 [some (.ref 88), some (.int (nI t)), some (.int (w (10 * t + 3))), some (.int (w (10 * t + 4))), some (.int 0), some (.int 0)] [] (wI h 89 (10 * t + 4) 0) Q = _ := g1
  have o3 : ∀ Q, zCall (d + 25) 808 [.ref 88, .int (nI t), .int 3] h Q = Q (some (.int (w (10 * t + 3)))) h := fun Q => m_one m ht6 3 (by omega) Q
  have oc : ∀ x Q, zCall (d + 25) 809 [.ref 88, .int (nI t), .int 4, .int x] h Q = Q (some (.int (w (10 * t + 4)))) (wI h 89 (10 * t + 4) x) := fun x Q => m_chg m ht6 4 (by omega) Q
  have oc3 : ∀ x Q, zCall (d + 25) 809 [.ref 88, .int (nI t), .int 3, .int x] h1 Q = Q _ (wI h1 89 (10 * t + 3) x) := fun x Q => m_chg m1 ht6 3 (by omega) Q
  have oc4 : ∀ x Q, zCall (d + 25) 809 [.ref 88, .int (nI t), .int 4, .int x] (wI h1 89 (10 * t + 3) (w (10 * t + 3))) Q = Q _ (wI (wI h1 89 (10 * t + 3) (w (10 * t + 3))) 89 (10 * t + 4) x) := fun x Q => m_chg m2 ht6 4 (by omega) Q
  have b0 := m1.1.1.1
  simp +decide only [Nat.reduceEqDiff, Nat.add_eq_left, Nat.left_eq_add, Nat.reduceAdd, Nat.reduceLeDiff, Nat.reduceMul, Nat.reduceSub, Nat.reduceLT, zlt8, zlt8_, zlt8n, zlt8n_, List.length_cons, List.length_nil, true_or, or_true, false_or, or_false, and_self, and_true, true_and, and_false, false_and, not_false_eq_true, not_true_eq_false, ite_true, ite_false, if_true, if_false, ite_not, zin, zpush_s, zpush_n, kl_int, kl_ref, kl_none, kl_kl, kl_long, kl_null, zT_wI, zT_wJ, zT_wR, zT_wIr, zT_wJr, zT_wRr, zI_wJ, zI_wR, zI_wJr, zI_wRr, zJ_wI, zJ_wR, zJ_wIr, zJ_wRr, zR_wI, zR_wJ, zR_wIr, zR_wJr, zN_wI, zN_wJ, zN_wR, zN_wIr, zN_wJr, zN_wRr, zZ_wI, zZ_wJ, zZ_wR, zZ_wIr, zZ_wJr, zZ_wRr, zI_wI, zJ_wJ, zR_wR, zI_wIr, zJ_wJr, zR_wRr, k851, g851_0, g851_1, g851_2, g851_5, g851_8, g851_9, g851_10, g851_11, g851_12, g851_13, g851_16, g851_17, g851_18, g851_19, g851_20, g851_21, g851_24, g851_25, g851_26, g851_28, g851_29, g851_33, g851_35, g851_38, g851_39, g851_40, g851_41, g851_43, g851_46, g851_47, g851_49, g851_50, g851_53, g851_56, g851_57, g851_59, g851_60, g851_63, g851_64, g851_65, g851_67, g851_70, g851_73, g851_74, g851_75, g851_76, g851_77, g851_80, g851_81, g851_82, g851_83, g851_84, g851_85, g851_88, g851_89, g851_91, m88, b0, co, y4, bI_t, o3, oc, oc3, oc4, g1']
