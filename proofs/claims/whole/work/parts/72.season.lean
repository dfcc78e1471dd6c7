-- needs 71.sea3
variable {n D D2 q L c1 c2 c3 a b t s r d K k kd i j ln c m M N p p2 : Nat} {h h1 h2 h3 h4 g0 : zH} {w w1 x nm : zW0} {sv : Value} {xs : zW0} {py fp fo y z u v : Int32} {ex : zW0 → Int32}
theorem sea_CP (go : GO h xs L q) (s1 : s ≤ 100) (s2 : zI h 69 3 = nI s) (s4 : ∀ k, k < s → zI h 70 k = zI h 92 k ∧ ∃ j, j ≤ 127 ∧ zI h 92 k = nI j) : CP h (zI h 92) s (sA q) (sA q + 1) := by
  obtain ⟨o1, o2, o3, -⟩ := go.1.2.2.2.2.2.2.2.2.2
  obtain ⟨d1, d2, d3, d4⟩ := go.2.2.1
  have := sA_n go.2.1.1
  exact ⟨go.1.2.2.2.2.2.2.2.1, o1, o2, o3, d1, d2, d3, d4, s2, s1, s4, by omega, by omega, by omega, by omega, by omega⟩
def S2 (q b k : Nat) : Prop := SRf b k ∨ b = 93 ∨ (b = 94 ∧ k = q) ∨ (b = 88 ∧ k = 9) ∨ (b = 89 ∧ k = 63)
theorem S2_O (b k : Nat) (z : S2 q b k) : SO q b k := by
  rcases z with (z | ⟨z1, z | z⟩) | z | z | z | z
  · exact Or.inr (Or.inr (Or.inr (Or.inr (Or.inr (Or.inl z)))))
  · exact Or.inr (Or.inr (Or.inr (Or.inr (Or.inr (Or.inr (Or.inl ⟨z1, Or.inl z⟩))))))
  · exact Or.inr (Or.inr (Or.inr (Or.inr (Or.inr (Or.inr (Or.inl ⟨z1, Or.inr (Or.inr z)⟩))))))
  · exact Or.inr (Or.inr (Or.inr (Or.inr (Or.inr (Or.inr (Or.inr (Or.inr (Or.inr (Or.inl z)))))))))
  · exact Or.inr (Or.inr (Or.inr (Or.inr (Or.inr (Or.inr (Or.inr (Or.inr (Or.inr (Or.inr (Or.inl z))))))))))
  · exact Or.inr (Or.inr (Or.inr (Or.inr (Or.inr (Or.inr (Or.inl ⟨z.1, Or.inr (Or.inl z.2)⟩))))))
  · exact Or.inr (Or.inr (Or.inr (Or.inr (Or.inr (Or.inr (Or.inr (Or.inr (Or.inr (Or.inr (Or.inr z))))))))))
theorem SD_O (b k : Nat) (z : SD (sA q) (sA q + 1) b k) : SO q b k := by
  rcases z with ⟨z, z2⟩ | z | z
  · exact Or.inl ⟨z, by omega⟩
  · exact Or.inr (Or.inl z)
  · exact Or.inr (Or.inr (Or.inl z))
theorem P_season (g : GI h xs L) : Pr h xs L 709 829 [] := by
  have g0 := g
  obtain ⟨q, n, D, w, c1, c2, c3, sv, go, gm⟩ := g
  have q6 := go.2.1.1
  have qI := go.2.1.2.2.2.1
  have qM := go.2.1.2.2.2.2
  have hN := go.2.1.2.1
  have M1 := go.1.2.2.2.2.2.2.1
  obtain ⟨k0, j0, j1, j2, j3, j4, j6, j8, j9⟩ := id go.1.1
  obtain ⟨o1, o2, o3, -⟩ := go.1.2.2.2.2.2.2.2.2.2
  obtain ⟨s, s1, s2, s3, s4⟩ := go.2.2.2.2.2.1
  by_cases hq : q < 6
  · have sq := sA_n q6
    have ss : sA q < 107 + 2 * q ∧ sA q + 1 < 107 + 2 * q := by unfold sA; split <;> omega
    have lq : nI q < 6 := nI_lt (a := q) (b := 6) (by omega) (by omega)
    have cp := sea_CP go s1 s2 s4
    obtain ⟨h1, f1, e3, hv, qd⟩ := c_draft (d := 41) cp
    have SDe : ∀ b k, SD (sA q) (sA q + 1) b k → (b = 69 ∧ (k = 2 ∨ k = 3)) ∨ (b = sA q ∧ 1 ≤ k) ∨ b = sA q + 1 := fun b k z => z
    have kp := nI_pos (n := (pAll (zI h 92) s 10 pA0 0).1)
    rcases hP : pAll (zI h 92) s 10 pA0 0 with ⟨p, _ | ⟨cs, py, ex⟩⟩
    · -- not well
      have MO1 : MO h1 := MO_g (fun b k z => by have := SDe b k z; omega) f1 M1
      obtain ⟨h3, w2, f3, a6, -, -, q3, -⟩ := m_sea (x := zI h 92) MO1 (by rw [f1.2.2.2.2.1 _ _ (fun z => by have := SDe _ _ z; omega)]; exact s3) (by rw [f1.2.2.2.2.1 _ _ (fun z => by have := SDe _ _ z; omega)]; exact qM) hq s1 (fun k hk => by rw [f1.2.2.2.2.1 _ _ (fun z => by have := SDe _ _ z; omega)])
      have q3' := q3 (by rw [hP])
      rw [hP] at qd q3'
      have qd' : ∀ Q, zCall 59 503 [.ref 69] h Q = Q (some (.int (nI p))) h1 := qd
      have np : ¬ nI p < 0 := nI_pos (by rw [hP] at w2; omega)
      refine ⟨.int (-10 - nI p), h1, h3, Fr_f (fun k z => by have := SDe _ _ z; omega) f1, fun Q => ?_, q3', sea_fail go gm (FS_t (FS_m (fun b k z => by have := SDe b k z; unfold SF; omega) f1) (FS_m (fun b k z => by unfold SF; exact Or.inr (Or.inr (Or.inr z))) f3)) ?_ a6⟩
      · simp +decide only [Nat.reduceEqDiff, Nat.add_eq_left, Nat.left_eq_add, Nat.reduceAdd, Nat.reduceLeDiff, Nat.reduceMul, Nat.reduceSub, Nat.reduceLT, zlt8, zlt8_, zlt8n, zlt8n_, List.length_cons, List.length_nil, true_or, or_true, false_or, or_false, and_self, and_true, true_and, and_false, false_and, not_false_eq_true, not_true_eq_false, ite_true, ite_false, if_true, if_false, ite_not, zin, zpush_s, zpush_n, kl_int, kl_ref, kl_none, kl_kl, kl_long, kl_null, VR_i, VR_l, zT_wI, zT_wJ, zT_wR, zT_wIr, zT_wJr, zT_wRr, zI_wJ, zI_wR, zI_wJr, zI_wRr, zJ_wI, zJ_wR, zJ_wIr, zJ_wRr, zR_wI, zR_wJ, zR_wIr, zR_wJr, zN_wI, zN_wJ, zN_wR, zN_wIr, zN_wJr, zN_wRr, zZ_wI, zZ_wJ, zZ_wR, zZ_wIr, zZ_wJr, zZ_wRr, zI_wI, zJ_wJ, zR_wR, zI_wIr, zJ_wJr, zR_wRr, k709, g709_0, g709_1, g709_4, g709_6, g709_9, g709_11, g709_12, g709_13, g709_16, g709_19, g709_20, g709_21, g709_24, g709_26, g709_27, g709_28, g709_29, g709_30, g709_33, g709_34, g709_37, g709_40, g709_40_n, g709_43, g709_44, g709_45, g709_48, g709_49, g709_50, g709_53, g709_54, g709_57, g709_58, g709_59, k0, j0, j1, j2, j3, j4, j6, j8, j9, qI, lq, o1, qd', np]
      · rw [f3.2.2.2.2.1 _ _ (by unfold SRf; omega)]; exact e3
    · -- well
      rw [hP] at qd
      have qd' : ∀ Q, zCall 59 503 [.ref 69] h Q = Q (some (.int (-1))) h1 := qd
      obtain ⟨D1, b1, L1⟩ := hv _ (by rw [hP])
      have n1 : zN h1 = 107 + 2 * q := by rw [f1.2.2.1]; exact hN
      have hb : ∀ b, ¬ b = 107 + 2 * q → ¬ b = 108 + 2 * q → ¬ b = zN h1 ∧ ¬ b = zN h1 + 1 := fun b x1 x2 => by omega
      obtain ⟨h2, eh⟩ : ∃ h2, h2 = wI (wR (hO h1) 1 10 (.ref (sA q))) 0 7 (nI (q + 1)) := ⟨_, rfl⟩
      have fT : ∀ b, ¬ b = 107 + 2 * q → ¬ b = 108 + 2 * q → zT h2 b = zT h b := fun b x1 x2 => by
        rw [eh, zT_wI, zT_wR, hO_T (hb b x1 x2), f1.1]
      have fJ : ∀ b, ¬ b = 107 + 2 * q → ¬ b = 108 + 2 * q → zJ h2 b = zJ h b := fun b x1 x2 => by
        rw [eh, zJ_wI, zJ_wR, hO_J (hb b x1 x2), f1.2.1]
      have fI0 : ∀ b k, ¬ b = 107 + 2 * q → ¬ b = 108 + 2 * q → ¬ (b = 0 ∧ k = 7) → zI h2 b k = zI h1 b k := fun b k x1 x2 x3 => by
        rw [eh, zI_wI]
        by_cases e : b = 0
        · subst e; rw [if_pos rfl, up_n _ _ (fun z => x3 ⟨rfl, z⟩), zI_wR, hO_I (hb _ x1 x2)]
        · rw [if_neg e, zI_wR, hO_I (hb _ x1 x2)]
      have fR0 : ∀ b k, ¬ b = 107 + 2 * q → ¬ b = 108 + 2 * q → ¬ (b = 1 ∧ k = 10) → ¬ (b = 69 ∧ k = 1) → zR h2 b k = zR h1 b k := fun b k x1 x2 x3 x4 => by
        rw [eh, zR_wI, zR_wR]
        by_cases e : b = 1
        · subst e; rw [if_pos rfl, up_n _ _ (fun z => x3 ⟨rfl, z⟩), hO_R (hb _ x1 x2) x4]
        · rw [if_neg e, hO_R (hb _ x1 x2) x4]
      have fI : ∀ b k, ¬ SO q b k → zI h2 b k = zI h b k := fun b k z => by
        rw [fI0 b k (fun e => z (Or.inr (Or.inr (Or.inr (Or.inl e))))) (fun e => z (Or.inr (Or.inr (Or.inr (Or.inr (Or.inl e)))))) (fun e => z (Or.inr (Or.inr (Or.inr (Or.inr (Or.inr (Or.inr (Or.inr (Or.inr (Or.inl e))))))))))]
        exact f1.2.2.2.2.1 _ _ (fun z' => z (SD_O _ _ z'))
      have fR : ∀ b k, ¬ SO q b k → zR h2 b k = zR h b k := fun b k z => by
        rw [fR0 b k (fun e => z (Or.inr (Or.inr (Or.inr (Or.inl e))))) (fun e => z (Or.inr (Or.inr (Or.inr (Or.inr (Or.inl e)))))) (fun e => z (Or.inr (Or.inr (Or.inr (Or.inr (Or.inr (Or.inr (Or.inr (Or.inl e))))))))) (fun e => z (Or.inl ⟨e.1, Nat.le_of_eq e.2.symm⟩))]
        exact f1.2.2.2.2.2 _ _ (fun z' => z (SD_O _ _ z'))
      have cls : ∀ Q, zCall 60 709 [.ref 0] h Q = Q (some (.int (nI q))) h2 := fun Q => by
        have tt1 : zT h1 69 = (5, 4) := by rw [f1.1]; exact o1
        have r1 : ∀ k, zR h1 0 k = zR h 0 k := fun k => f1.2.2.2.2.2 _ _ (fun z' => by have := SDe _ _ z'; omega)
        have r69 : zR h1 69 1 = .ref (sA q) := by
          rw [f1.2.2.2.2.2 _ _ (fun z' => by have := SDe _ _ z'; omega)]; exact go.2.2.1.1
        have t0 : zT h1 0 = (7, 10) := by rw [f1.1]; exact k0
        have ch : ∀ Q, zCall 59 504 [.ref 69] h1 Q = Q (some (.ref (sA q))) (hO h1) := fun Q => c_hand (d := 57) tt1 r69 (by omega) Q
        have u0 : zT (hO h1) 0 = (7, 10) := by rw [hO_T (hb _ (by omega) (by omega))]; exact t0
        have u1 : zT (hO h1) 1 = (2, 12) := by rw [hO_T (hb _ (by omega) (by omega)), f1.1]; exact go.1.2.1.1
        have u7 : zI (hO h1) 0 7 = nI q := by rw [hO_I (hb _ (by omega) (by omega)), f1.2.2.2.2.1 _ _ (fun z' => by have := SDe _ _ z'; omega)]; exact qI
        have kn : nI q + 1 = nI (q + 1) := nI_1 q
        have km : nI (q + 1) - 1 = nI q := nI_pred q
        rw [eh]
        simp +decide only [Nat.reduceEqDiff, Nat.add_eq_left, Nat.left_eq_add, Nat.reduceAdd, Nat.reduceLeDiff, Nat.reduceMul, Nat.reduceSub, Nat.reduceLT, zlt8, zlt8_, zlt8n, zlt8n_, List.length_cons, List.length_nil, true_or, or_true, false_or, or_false, and_self, and_true, true_and, and_false, false_and, not_false_eq_true, not_true_eq_false, ite_true, ite_false, if_true, if_false, ite_not, zin, zpush_s, zpush_n, kl_int, kl_ref, kl_none, kl_kl, kl_long, kl_null, VR_i, VR_l, zT_wI, zT_wJ, zT_wR, zT_wIr, zT_wJr, zT_wRr, zI_wJ, zI_wR, zI_wJr, zI_wRr, zJ_wI, zJ_wR, zJ_wIr, zJ_wRr, zR_wI, zR_wJ, zR_wIr, zR_wJr, zN_wI, zN_wJ, zN_wR, zN_wIr, zN_wJr, zN_wRr, zZ_wI, zZ_wJ, zZ_wR, zZ_wIr, zZ_wJr, zZ_wRr, zI_wI, zJ_wJ, zR_wR, zI_wIr, zJ_wJr, zR_wRr, k709, g709_0, g709_1, g709_4, g709_6, g709_9, g709_11, g709_12, g709_13, g709_16, g709_19, g709_20, g709_21, g709_24, g709_26, g709_27, g709_28, g709_29, g709_30, g709_33, g709_34, g709_37, g709_40, g709_40_n, g709_43, g709_44, g709_45, g709_48, g709_49, g709_50, g709_53, g709_54, g709_57, g709_58, g709_59, k0, j0, j1, j2, j3, j4, j6, j8, j9, qI, lq, o1, qd', t0, r1, tt1, ch, u0, u1, u7, kn, km, up_s]
      have GZ2 : GZ h2 xs L := GZ_T (g0 := h) (fun b hb => fT b (by omega) (by omega)) (GZ_f (S := SO q) (h := h) (h1 := xT h2 h) (SO_NZ hq) ⟨rfl, rfl, rfl, rfl, fI, fR⟩ go.1)
      have MO2 : MO h2 := GZ2.2.2.2.2.2.2.1
      have e1I : ∀ b k, 88 ≤ b → b < 107 → zI h2 b k = zI h b k := fun b k x1 x2 => by
        rw [fI0 b k (by omega) (by omega) (by omega)]
        exact f1.2.2.2.2.1 _ _ (fun z' => by have := SDe _ _ z'; omega)
      obtain ⟨h3, w2, f3, a6, a11, a95, -, q3⟩ := m_sea (x := zI h 92) MO2 (by rw [e1I _ _ (by omega) (by omega)]; exact s3) (by rw [e1I _ _ (by omega) (by omega)]; exact qM) hq s1 (fun k hk => e1I _ _ (by omega) (by omega))
      have q3' := q3 (by rw [hP]; rfl)
      have MO3 : MO h3 := MO_M (FS_m (fun b k z => by unfold SRf at z; unfold SM; omega) f3) MO2
      have a9 : zI h3 88 9 = nI q := by rw [f3.2.2.2.2.1 _ _ (by unfold SRf; omega), e1I _ _ (by omega) (by omega)]; exact qM
      obtain ⟨h4, f4, j4, q4⟩ := m_cp2 (d := 59) s1 hq s 0 h3 (by omega) MO3.1 a11 a9
      have MO4 : MO h4 := MO_M (FS_m (fun b k z => by unfold SM; omega) f4) MO3
      have F5 : FS (S2 q) h2 (wI (wI (wI h4 94 q (nI s)) 88 9 (nI (q + 1))) 89 63 (nI (q + 1))) := FS_t (FS_m (fun b k z => Or.inl z) f3) (FS_t (FS_m (fun b k z => Or.inr (Or.inl z)) f4) (FS_t (FS_t (FS_I _ (by unfold S2; omega)) (FS_I _ (by unfold S2; omega))) (FS_I _ (by unfold S2; omega))))
      have b6 : zI h4 88 6 = 0 := by rw [f4.2.2.2.2.1 _ _ (by omega)]; exact a6
      have b9 : zI h4 88 9 = nI q := by rw [f4.2.2.2.2.1 _ _ (by omega)]; exact a9
      have b11 : zI h4 88 11 = nI s := by rw [f4.2.2.2.2.1 _ _ (by omega)]; exact a11
      have b89 : zI h4 89 = w := by
        rw [← gm.1]
        exact funext fun k => by rw [f4.2.2.2.2.1 _ _ (by omega), f3.2.2.2.2.1 _ _ (by unfold SRf; omega), e1I _ _ (by omega) (by omega)]
      have mdl : ∀ Q, zCall 60 829 [.ref 88] h2 Q = Q (some (.int (nI q))) (wI (wI (wI h4 94 q (nI s)) 88 9 (nI (q + 1))) 89 63 (nI (q + 1))) := fun Q => by
        rw [q3' Q, q4 Q]
        have y1 := nI_pos (n := q) (by omega)
        have y2 := nI_clamp (n := q) (by omega)
        have kn : nI q + 1 = nI (q + 1) := nI_1 q
        have km : nI (q + 1) - 1 = nI q := nI_pred q
        obtain ⟨m88, m89, m90, m91, m92, m93, m94, m95, m96, m97, m98, m99, m100, m101, m102, m103, m104, m105, m106, n0, n1, n2, n5, n7, n8, n10, n17, n18, n19, n20, n21, n22, n23, n25, n26, n27, n28⟩ := MO4.1
        simp +decide only [Nat.reduceEqDiff, Nat.add_eq_left, Nat.left_eq_add, Nat.reduceAdd, Nat.reduceLeDiff, Nat.reduceMul, Nat.reduceSub, Nat.reduceLT, zlt8, zlt8_, zlt8n, zlt8n_, List.length_cons, List.length_nil, true_or, or_true, false_or, or_false, and_self, and_true, true_and, and_false, false_and, not_false_eq_true, not_true_eq_false, ite_true, ite_false, if_true, if_false, ite_not, zin, zpush_s, zpush_n, kl_int, kl_ref, kl_none, kl_kl, kl_long, kl_null, VR_i, VR_l, zT_wI, zT_wJ, zT_wR, zT_wIr, zT_wJr, zT_wRr, zI_wJ, zI_wR, zI_wJr, zI_wRr, zJ_wI, zJ_wR, zJ_wIr, zJ_wRr, zR_wI, zR_wJ, zR_wIr, zR_wJr, zN_wI, zN_wJ, zN_wR, zN_wIr, zN_wJr, zN_wRr, zZ_wI, zZ_wJ, zZ_wR, zZ_wIr, zZ_wJr, zZ_wRr, zI_wI, zJ_wJ, zR_wR, zI_wIr, zJ_wJr, zR_wRr, g829_0, g829_1, g829_4, g829_6, g829_9, g829_11, g829_12, g829_13, g829_14, g829_17, g829_20, g829_21, g829_23, g829_24, g829_27, g829_30, g829_31, g829_34, g829_35, g829_36, g829_39, g829_40, g829_41, g829_42, g829_45, g829_48, g829_49, g829_50, g829_53, g829_54, g829_57, g829_60, g829_62, g829_63, g829_66, g829_67, g829_68, g829_69, g829_71, g829_72, g829_75, g829_78, g829_79, g829_82, g829_84, g829_85, g829_88, g829_89, g829_90, g829_91, g829_92, g829_95, g829_96, g829_97, g829_98, g829_101, g829_104, g829_105, g829_108, g829_109, g829_112, g829_113, g829_116, g829_117, g829_118, g829_119, g829_122, g829_123, g829_124, g829_127, g829_128, g829_131, g829_133, g829_134, g829_137, g829_138, g829_139, g829_142, g829_143, g829_144, m88, m89, m90, m91, m92, m93, m94, m95, m96, m97, m98, m99, m100, m101, m102, m103, m104, m105, m106, n0, n1, n2, n5, n7, n8, n10, n17, n18, n19, n20, n21, n22, n23, n25, n26, n27, n28, b9, b11, y1, y2, kn, km, hq, up_s, show Int32.toNatClampNeg 63 = 63 by decide, show ¬ (63 : Int32) < 0 by decide]
      refine ⟨.int (nI q), h2, _, ⟨fT _ (by omega) (by omega), fT _ (by omega) (by omega), funext fun k => fI _ _ (fun z => by unfold SO at z; omega)⟩, cls, mdl, sea_ok (s := s) (p := p) (cs := cs) (py := py) (ex := ex) go gm hq s1 (fun b x1 x2 => by rw [F5.1]; exact fT b x1 x2) (fun b x1 x2 => by rw [F5.2.1]; exact fJ b x1 x2) ?_ ?_ (fun b k z => ?_) (fun b k z => ?_) ?_ ?_ ?_ ?_ ?_ ?_ ?_ ?_ ?_ ?_ ?_ (fun k hk => ?_) (fun k hk => ?_) ?_ L1 ?_ ?_ (fun i hi => ?_) ?_⟩
      · rw [F5.2.2.1, eh]; show zN h1 + 2 = _; rw [f1.2.2.1]
      · rw [F5.2.2.2.1, eh]; show zZ h1 + 3 + 100 = _; rw [f1.2.2.2.1]
      · rw [F5.2.2.2.2.1 _ _ (fun z' => z (S2_O _ _ z'))]; exact fI b k z
      · rw [F5.2.2.2.2.2 _ _ (fun z' => z (S2_O _ _ z'))]; exact fR b k z
      · rw [F5.1, eh, ← n1]; exact hO_TN
      · rw [F5.1, eh, show 108 + 2 * q = zN h1 + 1 by omega]; exact hO_TM
      · rw [F5.2.2.2.2.2 _ _ (by unfold S2 SRf; omega), eh, zR_wI, zR_wR, if_neg (by omega), ← n1, show 108 + 2 * q = zN h1 + 1 by omega]; exact hO_RN (by omega)
      · rw [F5.2.2.2.2.2 _ _ (by unfold S2 SRf; omega), eh, zR_wI, zR_wR, if_neg (by omega), ← n1]; exact hO_R1
      · rw [F5.2.2.2.2.2 _ _ (by unfold S2 SRf; omega), eh, zR_wI, zR_wR, if_pos rfl, up_s]
      · rw [F5.2.2.2.2.1 _ _ (by unfold S2 SRf; omega), fI0 _ _ (by omega) (by omega) (by omega)]; exact e3
      · rw [zI_wI, if_neg (by omega), zI_wI, if_pos rfl, up_n _ _ (by omega), zI_wI, if_neg (by omega)]; exact b6
      · rw [F5.2.2.2.2.1 _ _ (by unfold S2 SRf; omega), eh, zI_wI, if_pos rfl, up_s]
      · rw [zI_wI, if_neg (by omega), zI_wI, if_pos rfl, up_s]
      · rw [zI_wI, if_neg (by omega), zI_wI, if_neg (by omega), zI_wI, if_pos rfl, up_s]
      · rw [zI_wI, if_pos rfl, zI_wI, if_neg (by omega), zI_wI, if_neg (by omega), b89]
      · rw [zI_wI, if_neg (by omega), zI_wI, if_neg (by omega), zI_wI, if_neg (by omega), j4, if_neg (by omega), f3.2.2.2.2.1 _ _ (by unfold SRf; omega), e1I _ _ (by omega) (by omega)]
      · rw [zI_wI, if_neg (by omega), zI_wI, if_neg (by omega), zI_wI, if_pos rfl, up_n _ _ hk, f4.2.2.2.2.1 _ _ (by omega), f3.2.2.2.2.1 _ _ (by unfold SRf; omega), e1I _ _ (by omega) (by omega)]
      · rw [pAll_cg (x := zI h 92) (fun k hk => ?_)]
        · exact hP
        · rw [zI_wI, if_neg (by omega), zI_wI, if_neg (by omega), zI_wI, if_neg (by omega), j4, if_pos (by omega), show 100 * q + k - 100 * q = k by omega]
          exact a95 k hk
      · rw [F5.2.2.2.2.1 _ _ (by unfold S2 SRf; omega), fI0 _ _ (by omega) (by omega) (by omega)]; exact b1
      · rw [F5.2.2.2.2.1 _ _ (by unfold S2 SRf; omega), fI0 _ _ (by omega) (by omega) (by omega)]; exact D1.1
      · rw [F5.2.2.2.2.1 _ _ (by unfold S2 SRf; omega), fI0 _ _ (by omega) (by omega) (by omega)]; exact D1.2 i hi
      · exact pAll_ga (fun k hk => (s4 k hk).2) 10 pA0 0 p (cs, py, ex) GA0 hP
  · have e : q = 6 := by omega
    subst e
    refine Pr_same (r := .int (-4)) g0 (fun Q => ?_) (fun Q => ?_)
    · simp +decide only [Nat.reduceEqDiff, Nat.add_eq_left, Nat.left_eq_add, Nat.reduceAdd, Nat.reduceLeDiff, Nat.reduceMul, Nat.reduceSub, Nat.reduceLT, zlt8, zlt8_, zlt8n, zlt8n_, List.length_cons, List.length_nil, true_or, or_true, false_or, or_false, and_self, and_true, true_and, and_false, false_and, not_false_eq_true, not_true_eq_false, ite_true, ite_false, if_true, if_false, ite_not, zin, zpush_s, zpush_n, kl_int, kl_ref, kl_none, kl_kl, kl_long, kl_null, VR_i, VR_l, zT_wI, zT_wJ, zT_wR, zT_wIr, zT_wJr, zT_wRr, zI_wJ, zI_wR, zI_wJr, zI_wRr, zJ_wI, zJ_wR, zJ_wIr, zJ_wRr, zR_wI, zR_wJ, zR_wIr, zR_wJr, zN_wI, zN_wJ, zN_wR, zN_wIr, zN_wJr, zN_wRr, zZ_wI, zZ_wJ, zZ_wR, zZ_wIr, zZ_wJr, zZ_wRr, zI_wI, zJ_wJ, zR_wR, zI_wIr, zJ_wJr, zR_wRr, k709, g709_0, g709_1, g709_4, g709_6, g709_9, g709_11, g709_12, g709_13, g709_16, g709_19, g709_20, g709_21, g709_24, g709_26, g709_27, g709_28, g709_29, g709_30, g709_33, g709_34, g709_37, g709_40, g709_40_n, g709_43, g709_44, g709_45, g709_48, g709_49, g709_50, g709_53, g709_54, g709_57, g709_58, g709_59, k0, j0, j1, j2, j3, j4, j6, j8, j9, qI, show ¬ nI 6 < 6 by decide]
    · obtain ⟨m88, m89, m90, m91, m92, m93, m94, m95, m96, m97, m98, m99, m100, m101, m102, m103, m104, m105, m106, n0, n1, n2, n5, n7, n8, n10, n17, n18, n19, n20, n21, n22, n23, n25, n26, n27, n28⟩ := M1.1
      simp +decide only [Nat.reduceEqDiff, Nat.add_eq_left, Nat.left_eq_add, Nat.reduceAdd, Nat.reduceLeDiff, Nat.reduceMul, Nat.reduceSub, Nat.reduceLT, zlt8, zlt8_, zlt8n, zlt8n_, List.length_cons, List.length_nil, true_or, or_true, false_or, or_false, and_self, and_true, true_and, and_false, false_and, not_false_eq_true, not_true_eq_false, ite_true, ite_false, if_true, if_false, ite_not, zin, zpush_s, zpush_n, kl_int, kl_ref, kl_none, kl_kl, kl_long, kl_null, VR_i, VR_l, zT_wI, zT_wJ, zT_wR, zT_wIr, zT_wJr, zT_wRr, zI_wJ, zI_wR, zI_wJr, zI_wRr, zJ_wI, zJ_wR, zJ_wIr, zJ_wRr, zR_wI, zR_wJ, zR_wIr, zR_wJr, zN_wI, zN_wJ, zN_wR, zN_wIr, zN_wJr, zN_wRr, zZ_wI, zZ_wJ, zZ_wR, zZ_wIr, zZ_wJr, zZ_wRr, zI_wI, zJ_wJ, zR_wR, zI_wIr, zJ_wJr, zR_wRr, k829, g829_0, g829_1, g829_4, g829_6, g829_9, g829_11, m88, qM, show nI 6 = 6 by decide]
