-- needs 68.shift
variable {n D D2 q L c1 c2 c3 a b t s r d K k kd i j ln c m M N p p2 : Nat} {h h1 h2 g0 : zH} {w w1 x nm : zW0} {sv : Value} {xs : zW0} {py fp fo y z u v : Int32} {ex : zW0 → Int32}
/-- with sorts, longs and ends of another heap -/
def xT (h g : zH) : zH := (g.1, h.2.1, g.2.2.1, h.2.2.2.1, g.2.2.2.2.1, g.2.2.2.2.2)
theorem RS_T (e : ∀ b, b < 107 → zT h b = zT g0 b) (ha : a ≤ 40) (r : RS (xT h g0) a) : RS h a := by
  obtain ⟨q0, q1, q2, q3, q4, q5, q6, q7, r0, r1, r2, r3, r4, r5, r6, r7⟩ := r
  exact ⟨by rw [e _ (by omega)]; exact q0, by rw [e _ (by omega)]; exact q1, by rw [e _ (by omega)]; exact q2, by rw [e _ (by omega)]; exact q3, by rw [e _ (by omega)]; exact q4, by rw [e _ (by omega)]; exact q5, by rw [e _ (by omega)]; exact q6, by rw [e _ (by omega)]; exact q7, r0, r1, r2, r3, r4, r5, r6, fun t ht => ⟨(r7 t ht).1, by rw [e _ (by omega)]; exact (r7 t ht).2⟩⟩
theorem WS_T (e : ∀ b, b < 107 → zT h b = zT g0 b) (ha : c ≤ 70) (r : WS (xT h g0) c m) : WS h c m := by
  obtain ⟨a1, a2, a3, a4, a5, a6, a7⟩ := r
  exact ⟨by rw [e _ (by omega)]; exact a1, a2, a3, a4, by rw [e _ (by omega)]; exact a5, by rw [e _ (by omega)]; exact a6, by rw [e _ (by omega)]; exact a7⟩
theorem NS_T (e : ∀ b, b < 107 → zT h b = zT g0 b) (ha : b ≤ 60) (r : NS (xT h g0) b) : NS h b := by
  obtain ⟨a1, a2, a3, a4, a5, a6, a7⟩ := r
  exact ⟨by rw [e _ (by omega)]; exact a1, a2, a3, a4, WS_T e (by omega) a5, WS_T e (by omega) a6, WS_T e (by omega) a7⟩
theorem GZ_T (e : ∀ b, b < 107 ∨ 1000000 ≤ b → zT h b = zT g0 b) (g : GZ (xT h g0) xs L) : GZ h xs L := by
  obtain ⟨g1, g2, g3, g4, g5, g6, g7, g8, g9, g10⟩ := g
  have e' : ∀ b, b < 107 → zT h b = zT g0 b := fun b hb => e b (Or.inl hb)
  refine ⟨⟨(e' 0 (by omega)).trans g1.1, g1.2⟩, RS_T e' (by omega) g2, RS_T e' (by omega) g3, RS_T e' (by omega) g4, NS_T e' (by omega) g5, NS_T e' (by omega) g6, ⟨?_, g7.2⟩, ?_, ?_, ?_⟩
  · have m := g7.1
    obtain ⟨m88, m89, m90, m91, m92, m93, m94, m95, m96, m97, m98, m99, m100, m101, m102, m103, m104, m105, m106, n0, n1, n2, n5, n7, n8, n10, n17, n18, n19, n20, n21, n22, n23, n25, n26, n27, n28⟩ := m
    exact ⟨(e' _ (by omega)).trans m88, (e' _ (by omega)).trans m89, (e' _ (by omega)).trans m90, (e' _ (by omega)).trans m91, (e' _ (by omega)).trans m92, (e' _ (by omega)).trans m93, (e' _ (by omega)).trans m94, (e' _ (by omega)).trans m95, (e' _ (by omega)).trans m96, (e' _ (by omega)).trans m97, (e' _ (by omega)).trans m98, (e' _ (by omega)).trans m99, (e' _ (by omega)).trans m100, (e' _ (by omega)).trans m101, (e' _ (by omega)).trans m102, (e' _ (by omega)).trans m103, (e' _ (by omega)).trans m104, (e' _ (by omega)).trans m105, (e' _ (by omega)).trans m106, n0, n1, n2, n5, n7, n8, n10, n17, n18, n19, n20, n21, n22, n23, n25, n26, n27, n28⟩
  · obtain ⟨k1, k2, k3, k4, k5, k6⟩ := g8
    exact ⟨(e _ (by omega)).trans k1, k2, (e _ (by omega)).trans k3, k4, fun k hk => ⟨(e _ (by omega)).trans (k5 k hk).1, (k5 k hk).2⟩, fun k hk => ⟨(e _ (by omega)).trans (k6 k hk).1, (k6 k hk).2⟩⟩
  · obtain ⟨p1, p2⟩ := g9
    refine ⟨(e _ (by omega)).trans p1, fun i hi => ?_⟩
    obtain ⟨p3, p4, p5, p6⟩ := p2 i hi
    exact ⟨p3, (e _ (by omega)).trans p4, p5, (e _ (by omega)).trans p6⟩
  · obtain ⟨p1, p2, p3, p4, p5, p6, p7, p8⟩ := g10
    exact ⟨(e _ (by omega)).trans p1, p2, (e _ (by omega)).trans p3, (e _ (by omega)).trans p4, (e _ (by omega)).trans p5, p6, (e _ (by omega)).trans p7, p8⟩
theorem Sn_T (e1 : zT h (sA r) = zT g0 (sA r)) (e2 : zT h (sA r + 1) = zT g0 (sA r + 1)) (g : Sn (xT h g0) r) : Sn h r := by
  obtain ⟨s, p, cs, py, ex, g1, g2, g3, hc, g4⟩ := g
  refine ⟨s, p, cs, py, ex, g1, g2, g3, hc, ?_⟩
  rcases g4 with ⟨e, -⟩ | ⟨s', c, L, u1, u2, u3, u4, u5, u6, u7, u8, u9, u10⟩
  · exact absurd e (by simp)
  · have u1' := Value.ref.inj u1
    subst u1'
    have hc' : c = sA r + 1 := Value.ref.inj (u8.symm.trans hc)
    subst hc'
    exact Or.inr ⟨sA r, sA r + 1, L, rfl, u2, u3, e1.trans u4, u5, u6, u7, u8, e2.trans u9, u10⟩
theorem sA_ne (hr : r < q) : sA r + 1 < sA q := by unfold sA; split <;> split <;> omega
theorem SVp_m (hq : q ≤ a) (v : SVp q w sv) : SVp a w sv := by
  rcases v with v | ⟨r, v1, v2, v3⟩
  · exact Or.inl v
  · exact Or.inr ⟨r, by omega, v2, v3⟩
theorem GImg_m (hq : q ≤ a) (g : GImg h q) : GImg h a := by
  rcases g with g | ⟨g1, g2, n, D, w, c1, c2, c3, sv, g3, g4, g5, g6, g7⟩
  · exact Or.inl g
  · exact Or.inr ⟨g1, g2, n, D, w, c1, c2, c3, sv, g3, g4, g5, g6, SVp_m hq g7⟩
/-! the reference's two copies -/
theorem m_cp1 (hs : s ≤ 100) : ∀ (e k : Nat) (h1 : zH), k + e = s → MS h1 → zI h1 88 11 = nI s → ∃ h2, FS (fun b _ => b = 95) h1 h2 ∧ (∀ k', zI h2 95 k' = if k ≤ k' ∧ k' < s then zI h1 92 k' else zI h1 95 k') ∧ ∀ Q, zG d 829 22 [some (.ref 88), some (.int (nI k))] [] h1 Q = zG d 829 48 [some (.ref 88), some (.int (nI s))] [] h2 Q
  | 0, k, h1, e, hM, e11 => by
    have e : k = s := by omega
    subst e
    refine ⟨h1, FS_r _ _, fun k' => by rw [if_neg (fun z => by omega)], fun Q => ?_⟩
    have k88 := hM.1
    rw [g829_22]
    simp +decide only [Nat.reduceEqDiff, Nat.add_eq_left, Nat.left_eq_add, Nat.reduceAdd, Nat.reduceLeDiff, Nat.reduceMul, Nat.reduceSub, Nat.reduceLT, zlt8, zlt8_, zlt8n, zlt8n_, List.length_cons, List.length_nil, true_or, or_true, false_or, or_false, and_self, and_true, true_and, and_false, false_and, not_false_eq_true, not_true_eq_false, ite_true, ite_false, if_true, if_false, ite_not, zin, zpush_s, zpush_n, kl_int, kl_ref, kl_none, kl_kl, kl_long, kl_null, VR_i, VR_l, zT_wI, zT_wJ, zT_wR, zT_wIr, zT_wJr, zT_wRr, zI_wJ, zI_wR, zI_wJr, zI_wRr, zJ_wI, zJ_wR, zJ_wIr, zJ_wRr, zR_wI, zR_wJ, zR_wIr, zR_wJr, zN_wI, zN_wJ, zN_wR, zN_wIr, zN_wJr, zN_wRr, zZ_wI, zZ_wJ, zZ_wR, zZ_wIr, zZ_wJr, zZ_wRr, zI_wI, zJ_wJ, zR_wR, zI_wIr, zJ_wJr, zR_wRr, g829_23, g829_24, g829_27, k88, e11, i_le, Int32.lt_irrefl]
  | e + 1, k, h1, he, hM, e11 => by
    obtain ⟨h2, f2, j2, q2⟩ := m_cp1 hs e (k + 1) (wI h1 95 k (zI h1 92 k)) (by omega) hM (by rw [zI_wI, if_neg (by omega)]; exact e11)
    refine ⟨h2, FS_t (FS_I _ rfl) f2, fun k' => ?_, fun Q => ?_⟩
    · rw [j2, zI_wI, if_neg (show ¬ 92 = 95 by omega), zI_wI, if_pos rfl, up_a]
      by_cases a1 : k' = k
      · subst a1; rw [if_neg (fun z => by omega), if_pos rfl, if_pos (by omega)]
      · by_cases a2 : k + 1 ≤ k' ∧ k' < s
        · rw [if_pos a2, if_pos (by omega)]
        · rw [if_neg a2, if_neg a1, if_neg (fun z => by omega)]
    · have z3 : nI k < nI s := nI_lt (a := k) (b := s) (by omega) (by omega)
      have ki : nI k + 1 = nI (k + 1) := nI_1 k
      have y1 := nI_pos (n := k) (by omega)
      have y2 := nI_clamp (n := k) (by omega)
      obtain ⟨m88, m89, m90, m91, m92, m93, m94, m95, m96, m97, m98, m99, m100, m101, m102, m103, m104, m105, m106, n0, n1, n2, n5, n7, n8, n10, n17, n18, n19, n20, n21, n22, n23, n25, n26, n27, n28⟩ := hM
      rw [g829_22, ← q2 Q]
      simp +decide only [Nat.reduceEqDiff, Nat.add_eq_left, Nat.left_eq_add, Nat.reduceAdd, Nat.reduceLeDiff, Nat.reduceMul, Nat.reduceSub, Nat.reduceLT, zlt8, zlt8_, zlt8n, zlt8n_, List.length_cons, List.length_nil, true_or, or_true, false_or, or_false, and_self, and_true, true_and, and_false, false_and, not_false_eq_true, not_true_eq_false, ite_true, ite_false, if_true, if_false, ite_not, zin, zpush_s, zpush_n, kl_int, kl_ref, kl_none, kl_kl, kl_long, kl_null, VR_i, VR_l, zT_wI, zT_wJ, zT_wR, zT_wIr, zT_wJr, zT_wRr, zI_wJ, zI_wR, zI_wJr, zI_wRr, zJ_wI, zJ_wR, zJ_wIr, zJ_wRr, zR_wI, zR_wJ, zR_wIr, zR_wJr, zN_wI, zN_wJ, zN_wR, zN_wIr, zN_wJr, zN_wRr, zZ_wI, zZ_wJ, zZ_wR, zZ_wIr, zZ_wJr, zZ_wRr, zI_wI, zJ_wJ, zR_wR, zI_wIr, zJ_wJr, zR_wRr, g829_0, g829_1, g829_4, g829_6, g829_9, g829_11, g829_12, g829_13, g829_14, g829_17, g829_20, g829_21, g829_23, g829_24, g829_27, g829_30, g829_31, g829_34, g829_35, g829_36, g829_39, g829_40, g829_41, g829_42, g829_45, g829_48, g829_49, g829_50, g829_53, g829_54, g829_57, g829_60, g829_62, g829_63, g829_66, g829_67, g829_68, g829_69, g829_71, g829_72, g829_75, g829_78, g829_79, g829_82, g829_84, g829_85, g829_88, g829_89, g829_90, g829_91, g829_92, g829_95, g829_96, g829_97, g829_98, g829_101, g829_104, g829_105, g829_108, g829_109, g829_112, g829_113, g829_116, g829_117, g829_118, g829_119, g829_122, g829_123, g829_124, g829_127, g829_128, g829_131, g829_133, g829_134, g829_137, g829_138, g829_139, g829_142, g829_143, g829_144, m88, m89, m90, m91, m92, m93, m94, m95, m96, m97, m98, m99, m100, m101, m102, m103, m104, m105, m106, n0, n1, n2, n5, n7, n8, n10, n17, n18, n19, n20, n21, n22, n23, n25, n26, n27, n28, i_le, z3, ki, y1, y2, e11, show k < 100 by omega]
theorem ix100 (hq : q < 6) (hj : k < 100) : ¬ (100 * nI q + nI k) < 0 ∧ (100 * nI q + nI k).toNatClampNeg = 100 * q + k := by
  have e : 100 * nI q + nI k = nI (100 * q + k) := by rw [show (100 : Int32) = nI 100 from rfl, pk_mul, nI_add]
  rw [e]
  exact ⟨nI_pos (by omega), nI_clamp (by omega)⟩
theorem m_cp2 (hs : s ≤ 100) (hq : q < 6) : ∀ (e k : Nat) (h1 : zH), k + e = s → MS h1 → zI h1 88 11 = nI s → zI h1 88 9 = nI q → ∃ h2, FS (fun b _ => b = 93) h1 h2 ∧ (∀ k', zI h2 93 k' = if 100 * q + k ≤ k' ∧ k' < 100 * q + s then zI h1 95 (k' - 100 * q) else zI h1 93 k') ∧ ∀ Q, zG d 829 70 [some (.ref 88), some (.int (nI k))] [] h1 Q = zG d 829 104 [some (.ref 88), some (.int (nI s))] [] h2 Q
  | 0, k, h1, e, hM, e11, e9 => by
    have e : k = s := by omega
    subst e
    refine ⟨h1, FS_r _ _, fun k' => by rw [if_neg (fun z => by omega)], fun Q => ?_⟩
    have k88 := hM.1
    rw [g829_70]
    simp +decide only [Nat.reduceEqDiff, Nat.add_eq_left, Nat.left_eq_add, Nat.reduceAdd, Nat.reduceLeDiff, Nat.reduceMul, Nat.reduceSub, Nat.reduceLT, zlt8, zlt8_, zlt8n, zlt8n_, List.length_cons, List.length_nil, true_or, or_true, false_or, or_false, and_self, and_true, true_and, and_false, false_and, not_false_eq_true, not_true_eq_false, ite_true, ite_false, if_true, if_false, ite_not, zin, zpush_s, zpush_n, kl_int, kl_ref, kl_none, kl_kl, kl_long, kl_null, VR_i, VR_l, zT_wI, zT_wJ, zT_wR, zT_wIr, zT_wJr, zT_wRr, zI_wJ, zI_wR, zI_wJr, zI_wRr, zJ_wI, zJ_wR, zJ_wIr, zJ_wRr, zR_wI, zR_wJ, zR_wIr, zR_wJr, zN_wI, zN_wJ, zN_wR, zN_wIr, zN_wJr, zN_wRr, zZ_wI, zZ_wJ, zZ_wR, zZ_wIr, zZ_wJr, zZ_wRr, zI_wI, zJ_wJ, zR_wR, zI_wIr, zJ_wJr, zR_wRr, g829_71, g829_72, g829_75, k88, e11, i_le, Int32.lt_irrefl]
  | e + 1, k, h1, he, hM, e11, e9 => by
    obtain ⟨h2, f2, j2, q2⟩ := m_cp2 hs hq e (k + 1) (wI h1 93 (100 * q + k) (zI h1 95 k)) (by omega) hM (by rw [zI_wI, if_neg (by omega)]; exact e11) (by rw [zI_wI, if_neg (by omega)]; exact e9)
    refine ⟨h2, FS_t (FS_I _ rfl) f2, fun k' => ?_, fun Q => ?_⟩
    · rw [j2, zI_wI, if_neg (show ¬ 95 = 93 by omega), zI_wI, if_pos rfl, up_a]
      by_cases a1 : k' = 100 * q + k
      · subst a1; rw [if_neg (fun z => by omega), if_pos rfl, if_pos (by omega), show 100 * q + k - 100 * q = k by omega]
      · by_cases a2 : 100 * q + (k + 1) ≤ k' ∧ k' < 100 * q + s
        · rw [if_pos a2, if_pos (by omega)]
        · rw [if_neg a2, if_neg a1, if_neg (fun z => by omega)]
    · have z3 : nI k < nI s := nI_lt (a := k) (b := s) (by omega) (by omega)
      have ki : nI k + 1 = nI (k + 1) := nI_1 k
      have y1 := nI_pos (n := k) (by omega)
      have y2 := nI_clamp (n := k) (by omega)
      obtain ⟨i1, i2⟩ := ix100 (q := q) (k := k) hq (by omega)
      obtain ⟨m88, m89, m90, m91, m92, m93, m94, m95, m96, m97, m98, m99, m100, m101, m102, m103, m104, m105, m106, n0, n1, n2, n5, n7, n8, n10, n17, n18, n19, n20, n21, n22, n23, n25, n26, n27, n28⟩ := hM
      rw [g829_70, ← q2 Q]
      simp +decide only [Nat.reduceEqDiff, Nat.add_eq_left, Nat.left_eq_add, Nat.reduceAdd, Nat.reduceLeDiff, Nat.reduceMul, Nat.reduceSub, Nat.reduceLT, zlt8, zlt8_, zlt8n, zlt8n_, List.length_cons, List.length_nil, true_or, or_true, false_or, or_false, and_self, and_true, true_and, and_false, false_and, not_false_eq_true, not_true_eq_false, ite_true, ite_false, if_true, if_false, ite_not, zin, zpush_s, zpush_n, kl_int, kl_ref, kl_none, kl_kl, kl_long, kl_null, VR_i, VR_l, zT_wI, zT_wJ, zT_wR, zT_wIr, zT_wJr, zT_wRr, zI_wJ, zI_wR, zI_wJr, zI_wRr, zJ_wI, zJ_wR, zJ_wIr, zJ_wRr, zR_wI, zR_wJ, zR_wIr, zR_wJr, zN_wI, zN_wJ, zN_wR, zN_wIr, zN_wJr, zN_wRr, zZ_wI, zZ_wJ, zZ_wR, zZ_wIr, zZ_wJr, zZ_wRr, zI_wI, zJ_wJ, zR_wR, zI_wIr, zJ_wJr, zR_wRr, g829_0, g829_1, g829_4, g829_6, g829_9, g829_11, g829_12, g829_13, g829_14, g829_17, g829_20, g829_21, g829_23, g829_24, g829_27, g829_30, g829_31, g829_34, g829_35, g829_36, g829_39, g829_40, g829_41, g829_42, g829_45, g829_48, g829_49, g829_50, g829_53, g829_54, g829_57, g829_60, g829_62, g829_63, g829_66, g829_67, g829_68, g829_69, g829_71, g829_72, g829_75, g829_78, g829_79, g829_82, g829_84, g829_85, g829_88, g829_89, g829_90, g829_91, g829_92, g829_95, g829_96, g829_97, g829_98, g829_101, g829_104, g829_105, g829_108, g829_109, g829_112, g829_113, g829_116, g829_117, g829_118, g829_119, g829_122, g829_123, g829_124, g829_127, g829_128, g829_131, g829_133, g829_134, g829_137, g829_138, g829_139, g829_142, g829_143, g829_144, m88, m89, m90, m91, m92, m93, m94, m95, m96, m97, m98, m99, m100, m101, m102, m103, m104, m105, m106, n0, n1, n2, n5, n7, n8, n10, n17, n18, n19, n20, n21, n22, n23, n25, n26, n27, n28, i_le, z3, ki, y1, y2, i1, i2, e11, e9, show k < 100 by omega, show 100 * q + k < 600 by omega]
