-- needs 26.goon
variable {d a b n t D K : Nat} {h : zH} {w : zW0} {fp x y z py p : Int32} {sv : Value} {ex : zW0 → Int32}
/-- all that a copy may change -/
def RA (a b k : Nat) : Prop := (b = a ∧ 7 ≤ k) ∨ (a < b ∧ b < a + 14 ∧ ¬ b = a + 7)
theorem RS_A {h h1 : zH} {a b : Nat} (f : FS (RA a) h h1) (r : RS h b) (hb : b = a ∨ b + 14 ≤ a ∨ a + 14 ≤ b) : RS h1 b := RS_f (fun c h1 h2 k z => by unfold RA at z; omega) f r
theorem Rt_f {S : Nat → Nat → Prop} {h h1 : zH} (hS : ∀ c k, S c k → c < b ∨ b + 14 ≤ c) (f : FS S h h1) (ht : t < 6) (r : Rt h b w t) : Rt h1 b w t := by
  obtain ⟨-, -, -, -, f5, f6⟩ := f
  have e : ∀ c k, b ≤ c → c < b + 14 → zI h1 c k = zI h c k := fun c k h1 h2 => f5 _ _ (fun z => by have := hS _ _ z; omega)
  obtain ⟨u1, u2, u3, u4, u5, u6, u7⟩ := r
  refine ⟨?_, ?_, ?_, ?_, ?_, ?_, fun i hi => ?_⟩ <;> rw [e _ _ (by omega) (by omega)] <;> first | assumption | exact u7 i hi
theorem Rv_f {S : Nat → Nat → Prop} {h h1 : zH} (hS : ∀ c k, S c k → c < b ∨ b + 14 ≤ c) (f : FS S h h1) (hn : n ≤ 6) (r : Rv h b n w fp sv) : Rv h1 b n w fp sv := by
  obtain ⟨v1, v2, v3, v4, v5, v6⟩ := r
  have e : ∀ k, zI h1 b k = zI h b k := fun k => f.2.2.2.2.1 _ _ (fun z => by have := hS _ _ z; omega)
  have e2 : ∀ k, zR h1 b k = zR h b k := fun k => f.2.2.2.2.2 _ _ (fun z => by have := hS _ _ z; omega)
  exact ⟨by rw [e]; exact v1, by rw [e]; exact v2, by rw [e]; exact v3, by rw [e]; exact v4, by rw [e2]; exact v5, fun s hs => Rt_f hS f (by omega) (v6 s hs)⟩
theorem c_copy_in (hab : a + 14 ≤ b ∨ b + 14 ≤ a) (ht : t < 6) : ∀ (m j : Nat) (h : zH), j + m = 4 → RS h a → RS h b → (∀ i, i < 4 → zI h (b + 8 + t) i = w (10 * t + 6 + i)) → (∀ i, i < j → zI h (a + 8 + t) i = w (10 * t + 6 + i)) → ∃ h1, FS (fun c _ => c = a + 8 + t) h h1 ∧ (∀ i, i < 4 → zI h1 (a + 8 + t) i = w (10 * t + 6 + i)) ∧ ∀ Q, zG d 202 124 [some (.ref a), some (.ref b), some (.int (nI t)), some (.int (nI j))] [] h Q = zG d 202 151 [some (.ref a), some (.ref b), some (.int (nI t)), some (.int (nI 4))] [] h1 Q
  | 0, j, h, e, hS, hB, hb, ha => by
    have e : j = 4 := by omega
    subst e
    refine ⟨h, FS_r _ _, ha, fun Q => ?_⟩
    simp +decide only [Nat.reduceEqDiff, Nat.add_eq_left, Nat.left_eq_add, Nat.reduceAdd, Nat.reduceLeDiff, Nat.reduceMul, Nat.reduceSub, Nat.reduceLT, zlt8, zlt8_, zlt8n, zlt8n_, List.length_cons, List.length_nil, true_or, or_true, false_or, or_false, and_self, and_true, true_and, and_false, false_and, not_false_eq_true, not_true_eq_false, ite_true, ite_false, if_true, if_false, ite_not, zin, zpush_s, zpush_n, kl_int, kl_ref, kl_none, kl_kl, kl_long, kl_null, zT_wI, zT_wJ, zT_wR, zT_wIr, zT_wJr, zT_wRr, zI_wJ, zI_wR, zI_wJr, zI_wRr, zJ_wI, zJ_wR, zJ_wIr, zJ_wRr, zR_wI, zR_wJ, zR_wIr, zR_wJr, zN_wI, zN_wJ, zN_wR, zN_wIr, zN_wJr, zN_wRr, zZ_wI, zZ_wJ, zZ_wR, zZ_wIr, zZ_wJr, zZ_wRr, zI_wI, zJ_wJ, zR_wR, zI_wIr, zJ_wJr, zR_wRr, g202_124, g202_125, g202_126, i_le, show ¬ nI 4 < 4 by decide]
  | m + 1, j, h, e, hS, hB, hb, ha => by
    have f : FS (fun c _ => c = a + 8 + t) h (wI h (a + 8 + t) j (w (10 * t + 6 + j))) := FS_I _ rfl
    obtain ⟨h1, f1, g1, c1⟩ := c_copy_in hab ht m (j + 1) (wI h (a + 8 + t) j (w (10 * t + 6 + j))) (by omega) hS hB
      (fun i hi => by rw [zI_wI, if_neg (by omega)]; exact hb i hi)
      (fun i hi => by
        rw [zI_wI, if_pos rfl]
        by_cases e : i = j
        · subst e; exact up_s _ _ _
        · rw [up_n _ _ e]; exact ha i (by omega))
    refine ⟨h1, FS_t f f1, g1, fun Q => ?_⟩
    have z1 := nI_pos (n := t) (by omega)
    have z2 := nI_clamp (n := t) (by omega)
    have y1 := nI_pos (n := j) (by omega)
    have y2 := nI_clamp (n := j) (by omega)
    have z3 : nI j < 4 := nI_lt (a := j) (b := 4) (by omega) (by omega)
    obtain ⟨q0, q1, q2, q3, q4, q5, q6, q7, r0, r1, r2, r3, r4, r5, r6, r7⟩ := id hS
    obtain ⟨b0, b1, b2, b3, b4, b5, b6, b7, s0, s1, s2, s3, s4, s5, s6, s7⟩ := id hB
    obtain ⟨x1, x2⟩ := r7 t ht
    obtain ⟨x3, x4⟩ := s7 t ht
    have hbj := hb j (by omega)
    rw [g202_124]
    simp +decide only [Nat.reduceEqDiff, Nat.add_eq_left, Nat.left_eq_add, Nat.reduceAdd, Nat.reduceLeDiff, Nat.reduceMul, Nat.reduceSub, Nat.reduceLT, zlt8, zlt8_, zlt8n, zlt8n_, List.length_cons, List.length_nil, true_or, or_true, false_or, or_false, and_self, and_true, true_and, and_false, false_and, not_false_eq_true, not_true_eq_false, ite_true, ite_false, if_true, if_false, ite_not, zin, zpush_s, zpush_n, kl_int, kl_ref, kl_none, kl_kl, kl_long, kl_null, zT_wI, zT_wJ, zT_wR, zT_wIr, zT_wJr, zT_wRr, zI_wJ, zI_wR, zI_wJr, zI_wRr, zJ_wI, zJ_wR, zJ_wIr, zJ_wRr, zR_wI, zR_wJ, zR_wIr, zR_wJr, zN_wI, zN_wJ, zN_wR, zN_wIr, zN_wJr, zN_wRr, zZ_wI, zZ_wJ, zZ_wR, zZ_wIr, zZ_wJr, zZ_wRr, zI_wI, zJ_wJ, zR_wR, zI_wIr, zJ_wJr, zR_wRr, g202_0, g202_1, g202_2, g202_5, g202_8, g202_9, g202_10, g202_13, g202_16, g202_17, g202_18, g202_21, g202_24, g202_25, g202_26, g202_29, g202_29_n, g202_32, g202_33, g202_34, g202_37, g202_40, g202_41, g202_43, g202_44, g202_47, g202_50, g202_51, g202_54, g202_55, g202_56, g202_59, g202_60, g202_61, g202_62, g202_63, g202_66, g202_67, g202_68, g202_71, g202_72, g202_73, g202_74, g202_75, g202_78, g202_79, g202_80, g202_83, g202_84, g202_85, g202_86, g202_87, g202_90, g202_91, g202_92, g202_95, g202_96, g202_97, g202_98, g202_99, g202_102, g202_103, g202_104, g202_107, g202_108, g202_109, g202_110, g202_111, g202_114, g202_115, g202_116, g202_119, g202_120, g202_121, g202_122, g202_123, g202_125, g202_126, g202_129, g202_130, g202_133, g202_134, g202_135, g202_136, g202_137, g202_140, g202_141, g202_142, g202_143, g202_144, g202_145, g202_148, g202_151, g202_154, g202_157, i_le, z1, z2, z3, y1, y2, q0, q7, r6, b0, b7, s6, x1, x2, x3, x4, ht, show j < 4 by omega, hbj, nI_1, c1]
theorem c_copy_out (hab : a + 14 ≤ b ∨ b + 14 ≤ a) (hn : n ≤ 6) (hw : ∀ t, t < n → w (10 * t + 4) = 0 ∨ w (10 * t + 4) = 1) : ∀ (m t : Nat) (h : zH) (l3 : Option Value), t + m = n → RS h a → RS h b → Rv h b n w fp sv → zI h a 7 = nI n → (∀ s, s < t → Rt h a w s) → ∃ h1, FS (fun c _ => a < c ∧ c < a + 14 ∧ ¬ c = a + 7) h h1 ∧ (∀ s, s < n → Rt h1 a w s) ∧ ∀ Q, zG d 202 42 [some (.ref a), some (.ref b), some (.int (nI t)), l3] [] h Q = Q none h1
  | 0, t, h, l3, e, hS, hB, hb, h7, ha => by
    have e : n = t := by omega
    subst e
    refine ⟨h, FS_r _ _, ha, fun Q => ?_⟩
    have q0 := hS.1
    simp +decide only [Nat.reduceEqDiff, Nat.add_eq_left, Nat.left_eq_add, Nat.reduceAdd, Nat.reduceLeDiff, Nat.reduceMul, Nat.reduceSub, Nat.reduceLT, zlt8, zlt8_, zlt8n, zlt8n_, List.length_cons, List.length_nil, true_or, or_true, false_or, or_false, and_self, and_true, true_and, and_false, false_and, not_false_eq_true, not_true_eq_false, ite_true, ite_false, if_true, if_false, ite_not, zin, zpush_s, zpush_n, kl_int, kl_ref, kl_none, kl_kl, kl_long, kl_null, zT_wI, zT_wJ, zT_wR, zT_wIr, zT_wJr, zT_wRr, zI_wJ, zI_wR, zI_wJr, zI_wRr, zJ_wI, zJ_wR, zJ_wIr, zJ_wRr, zR_wI, zR_wJ, zR_wIr, zR_wJr, zN_wI, zN_wJ, zN_wR, zN_wIr, zN_wJr, zN_wRr, zZ_wI, zZ_wJ, zZ_wR, zZ_wIr, zZ_wJr, zZ_wRr, zI_wI, zJ_wJ, zR_wR, zI_wIr, zJ_wJr, zR_wRr, g202_42, g202_0, g202_1, g202_2, g202_5, g202_8, g202_9, g202_10, g202_13, g202_16, g202_17, g202_18, g202_21, g202_24, g202_25, g202_26, g202_29, g202_29_n, g202_32, g202_33, g202_34, g202_37, g202_40, g202_41, g202_43, g202_44, g202_47, g202_50, g202_51, g202_54, g202_55, g202_56, g202_59, g202_60, g202_61, g202_62, g202_63, g202_66, g202_67, g202_68, g202_71, g202_72, g202_73, g202_74, g202_75, g202_78, g202_79, g202_80, g202_83, g202_84, g202_85, g202_86, g202_87, g202_90, g202_91, g202_92, g202_95, g202_96, g202_97, g202_98, g202_99, g202_102, g202_103, g202_104, g202_107, g202_108, g202_109, g202_110, g202_111, g202_114, g202_115, g202_116, g202_119, g202_120, g202_121, g202_122, g202_123, g202_125, g202_126, g202_129, g202_130, g202_133, g202_134, g202_135, g202_136, g202_137, g202_140, g202_141, g202_142, g202_143, g202_144, g202_145, g202_148, g202_151, g202_154, g202_157, i_le, Int32.lt_irrefl, q0, h7]
  | m + 1, t, h, l3, e, hS, hB, hb, h7, ha => by
    have ht : t < 6 := by omega
    obtain ⟨v1, v2, v3, v4, v5, v6⟩ := id hb
    obtain ⟨u1, u2, u3, u4, u5, u6, u7⟩ := id (v6 t (by omega))
    have f : FS (fun c _ => a < c ∧ c < a + 14 ∧ ¬ c = a + 7) h (wI (wI (wI (wI (wI (wI h (a + 1) t (w (10 * t))) (a + 2) t (w (10 * t + 1))) (a + 3) t (w (10 * t + 2))) (a + 4) t (w (10 * t + 3))) (a + 5) t (w (10 * t + 5))) (a + 6) t (w (10 * t + 4))) :=
      FS_t (FS_t (FS_t (FS_t (FS_t (FS_I _ (by omega)) (FS_I _ (by omega))) (FS_I _ (by omega))) (FS_I _ (by omega))) (FS_I _ (by omega))) (FS_I _ (by omega))
    have eI : ∀ c k, ¬ (a < c ∧ c < a + 14 ∧ ¬ c = a + 7) → zI (wI (wI (wI (wI (wI (wI h (a + 1) t (w (10 * t))) (a + 2) t (w (10 * t + 1))) (a + 3) t (w (10 * t + 2))) (a + 4) t (w (10 * t + 3))) (a + 5) t (w (10 * t + 5))) (a + 6) t (w (10 * t + 4))) c k = zI h c k := f.2.2.2.2.1
    have eR : ∀ c k, a + 8 ≤ c → zI (wI (wI (wI (wI (wI (wI h (a + 1) t (w (10 * t))) (a + 2) t (w (10 * t + 1))) (a + 3) t (w (10 * t + 2))) (a + 4) t (w (10 * t + 3))) (a + 5) t (w (10 * t + 5))) (a + 6) t (w (10 * t + 4))) c k = zI h c k := fun c k hc => by
      simp only [zI_wI]
      rw [if_neg (by omega), if_neg (by omega), if_neg (by omega), if_neg (by omega), if_neg (by omega), if_neg (by omega)]
    obtain ⟨h1, f1, g1, c1⟩ := c_copy_in (d := d) (w := w) hab ht 4 0 (wI (wI (wI (wI (wI (wI h (a + 1) t (w (10 * t))) (a + 2) t (w (10 * t + 1))) (a + 3) t (w (10 * t + 2))) (a + 4) t (w (10 * t + 3))) (a + 5) t (w (10 * t + 5))) (a + 6) t (w (10 * t + 4))) (by omega) hS hB (fun i hi => by rw [eI _ _ (by omega)]; exact u7 i hi) (fun i hi => by omega)
    have f1' : FS (fun c _ => a < c ∧ c < a + 14 ∧ ¬ c = a + 7) h h1 := FS_t f (FS_m (fun c k z => by omega) f1)
    have RAA : ∀ c k, (a < c ∧ c < a + 14 ∧ ¬ c = a + 7) → RA a c k := fun c k z => by unfold RA; omega
    have hs1 : ∀ s, s < t + 1 → Rt h1 a w s := by
      intro s hs
      have e1 : ∀ c, c < 7 → zI h1 (a + c) s = zI (wI (wI (wI (wI (wI (wI h (a + 1) t (w (10 * t))) (a + 2) t (w (10 * t + 1))) (a + 3) t (w (10 * t + 2))) (a + 4) t (w (10 * t + 3))) (a + 5) t (w (10 * t + 5))) (a + 6) t (w (10 * t + 4))) (a + c) s := fun c hc => f1.2.2.2.2.1 _ _ (by omega)
      by_cases e : s = t
      · subst e
        refine ⟨?_, ?_, ?_, ?_, ?_, ?_, g1⟩ <;> rw [e1 _ (by omega)] <;> simp +decide only [zI_wI, Nat.reduceEqDiff, Nat.add_left_cancel_iff, if_true, if_false, up_s]
      · obtain ⟨o1, o2, o3, o4, o5, o6, o7⟩ := ha s (by omega)
        refine ⟨?_, ?_, ?_, ?_, ?_, ?_, fun i hi => ?_⟩
        iterate 6 (rw [e1 _ (by omega)]; simp +decide only [zI_wI, Nat.reduceEqDiff, Nat.add_left_cancel_iff, if_true, if_false, up_a, e]; assumption)
        rw [f1.2.2.2.2.1 _ _ (by omega), eR _ _ (by omega)]
        exact o7 i hi
    obtain ⟨h2, f2, g2, c2⟩ := c_copy_out hab hn hw m (t + 1) h1 (some (.int (nI 4))) (by omega) (RS_A (FS_m RAA f1') hS (by omega)) (RS_A (FS_m RAA f1') hB (by omega)) (Rv_f (fun c k z => by omega) f1' hn hb) (by rw [f1'.2.2.2.2.1 _ _ (by omega)]; exact h7) hs1
    refine ⟨h2, FS_t f1' f2, g2, fun Q => ?_⟩
    have z1 := nI_pos (n := t) (by omega)
    have z2 := nI_clamp (n := t) (by omega)
    have z3 := nI_lt (a := t) (b := n) (by omega) (by omega)
    obtain ⟨q0, q1, q2, q3, q4, q5, q6, q7, r0, r1, r2, r3, r4, r5, r6, r7⟩ := id hS
    obtain ⟨b0, b1, b2, b3, b4, b5, b6, b7, s0, s1, s2, s3, s4, s5, s6, s7⟩ := id hB
    have ez : nI 0 = 0 := rfl
    have ab : ∀ i j, i < 8 → j < 8 → (b + i = a + j) = False := fun i j _ _ => by simp; omega
    rw [ez] at c1
    rw [g202_42]
    have kb := bool_nar (hw t (by omega))
    simp +decide only [Nat.reduceEqDiff, Nat.add_eq_left, Nat.left_eq_add, Nat.reduceAdd, Nat.reduceLeDiff, Nat.reduceMul, Nat.reduceSub, Nat.reduceLT, zlt8, zlt8_, zlt8n, zlt8n_, List.length_cons, List.length_nil, true_or, or_true, false_or, or_false, and_self, and_true, true_and, and_false, false_and, not_false_eq_true, not_true_eq_false, ite_true, ite_false, if_true, if_false, ite_not, zin, zpush_s, zpush_n, kl_int, kl_ref, kl_none, kl_kl, kl_long, kl_null, zT_wI, zT_wJ, zT_wR, zT_wIr, zT_wJr, zT_wRr, zI_wJ, zI_wR, zI_wJr, zI_wRr, zJ_wI, zJ_wR, zJ_wIr, zJ_wRr, zR_wI, zR_wJ, zR_wIr, zR_wJr, zN_wI, zN_wJ, zN_wR, zN_wIr, zN_wJr, zN_wRr, zZ_wI, zZ_wJ, zZ_wR, zZ_wIr, zZ_wJr, zZ_wRr, zI_wI, zJ_wJ, zR_wR, zI_wIr, zJ_wJr, zR_wRr, g202_0, g202_1, g202_2, g202_5, g202_8, g202_9, g202_10, g202_13, g202_16, g202_17, g202_18, g202_21, g202_24, g202_25, g202_26, g202_29, g202_29_n, g202_32, g202_33, g202_34, g202_37, g202_40, g202_41, g202_43, g202_44, g202_47, g202_50, g202_51, g202_54, g202_55, g202_56, g202_59, g202_60, g202_61, g202_62, g202_63, g202_66, g202_67, g202_68, g202_71, g202_72, g202_73, g202_74, g202_75, g202_78, g202_79, g202_80, g202_83, g202_84, g202_85, g202_86, g202_87, g202_90, g202_91, g202_92, g202_95, g202_96, g202_97, g202_98, g202_99, g202_102, g202_103, g202_104, g202_107, g202_108, g202_109, g202_110, g202_111, g202_114, g202_115, g202_116, g202_119, g202_120, g202_121, g202_122, g202_123, g202_125, g202_126, g202_129, g202_130, g202_133, g202_134, g202_135, g202_136, g202_137, g202_140, g202_141, g202_142, g202_143, g202_144, g202_145, g202_148, g202_151, g202_154, g202_157, i_le, z1, z2, z3, q0, q1, q2, q3, q4, q5, q6, r0, r1, r2, r3, r4, r5, b0, b1, b2, b3, b4, b5, b6, s0, s1, s2, s3, s4, s5, ht, ab, u1, u2, u3, u4, u5, u6, kb, h7, c1, nI_1, c2]
theorem c_copy (hab : a + 14 ≤ b ∨ b + 14 ≤ a) (hS : RS h a) (hB : RS h b) (hv : Rv h b n w fp sv) (hw : sOK w n D) (hs : sv = .null ∨ ∃ s, sv = .ref s) : ∃ h1, FS (RA a) h h1 ∧ Rv h1 a n w fp sv ∧ ∀ Q, zCall (d + 1) 202 [.ref a, .ref b] h Q = Q none h1 := by
  have hn := hw.2.1
  obtain ⟨v1, v2, v3, v4, v5, v6⟩ := id hv
  have f : FS (RA a) h (wI (wR (wI (wI (wI h a 7 (nI n)) a 8 (w 61)) a 9 (w 62)) a 10 sv) a 11 fp) :=
    FS_t (FS_t (FS_t (FS_t (FS_I _ (by unfold RA; omega)) (FS_I _ (by unfold RA; omega))) (FS_I _ (by unfold RA; omega))) (FS_R _ (by unfold RA; omega))) (FS_I _ (by unfold RA; omega))
  have fb : FS (fun c _ => c = a) h (wI (wR (wI (wI (wI h a 7 (nI n)) a 8 (w 61)) a 9 (w 62)) a 10 sv) a 11 fp) :=
    FS_t (FS_t (FS_t (FS_t (FS_I _ (by omega)) (FS_I _ (by omega))) (FS_I _ (by omega))) (FS_R _ (by omega))) (FS_I _ (by omega))
  have e1 : zI (wI (wR (wI (wI (wI h a 7 (nI n)) a 8 (w 61)) a 9 (w 62)) a 10 sv) a 11 fp) a 7 = nI n := by simp +decide only [zT_wI, zT_wJ, zT_wR, zT_wIr, zT_wJr, zT_wRr, zI_wJ, zI_wR, zI_wJr, zI_wRr, zJ_wI, zJ_wR, zJ_wIr, zJ_wRr, zR_wI, zR_wJ, zR_wIr, zR_wJr, zN_wI, zN_wJ, zN_wR, zN_wIr, zN_wJr, zN_wRr, zZ_wI, zZ_wJ, zZ_wR, zZ_wIr, zZ_wJr, zZ_wRr, zI_wI, zJ_wJ, zR_wR, zI_wIr, zJ_wJr, zR_wRr, if_true, up_a, if_false]
  have e2 : zI (wI (wR (wI (wI (wI h a 7 (nI n)) a 8 (w 61)) a 9 (w 62)) a 10 sv) a 11 fp) a 8 = w 61 := by simp +decide only [zT_wI, zT_wJ, zT_wR, zT_wIr, zT_wJr, zT_wRr, zI_wJ, zI_wR, zI_wJr, zI_wRr, zJ_wI, zJ_wR, zJ_wIr, zJ_wRr, zR_wI, zR_wJ, zR_wIr, zR_wJr, zN_wI, zN_wJ, zN_wR, zN_wIr, zN_wJr, zN_wRr, zZ_wI, zZ_wJ, zZ_wR, zZ_wIr, zZ_wJr, zZ_wRr, zI_wI, zJ_wJ, zR_wR, zI_wIr, zJ_wJr, zR_wRr, if_true, up_a, if_false]
  have e3 : zI (wI (wR (wI (wI (wI h a 7 (nI n)) a 8 (w 61)) a 9 (w 62)) a 10 sv) a 11 fp) a 9 = w 62 := by simp +decide only [zT_wI, zT_wJ, zT_wR, zT_wIr, zT_wJr, zT_wRr, zI_wJ, zI_wR, zI_wJr, zI_wRr, zJ_wI, zJ_wR, zJ_wIr, zJ_wRr, zR_wI, zR_wJ, zR_wIr, zR_wJr, zN_wI, zN_wJ, zN_wR, zN_wIr, zN_wJr, zN_wRr, zZ_wI, zZ_wJ, zZ_wR, zZ_wIr, zZ_wJr, zZ_wRr, zI_wI, zJ_wJ, zR_wR, zI_wIr, zJ_wJr, zR_wRr, if_true, up_a, if_false]
  have e4 : zI (wI (wR (wI (wI (wI h a 7 (nI n)) a 8 (w 61)) a 9 (w 62)) a 10 sv) a 11 fp) a 11 = fp := by simp +decide only [zT_wI, zT_wJ, zT_wR, zT_wIr, zT_wJr, zT_wRr, zI_wJ, zI_wR, zI_wJr, zI_wRr, zJ_wI, zJ_wR, zJ_wIr, zJ_wRr, zR_wI, zR_wJ, zR_wIr, zR_wJr, zN_wI, zN_wJ, zN_wR, zN_wIr, zN_wJr, zN_wRr, zZ_wI, zZ_wJ, zZ_wR, zZ_wIr, zZ_wJr, zZ_wRr, zI_wI, zJ_wJ, zR_wR, zI_wIr, zJ_wJr, zR_wRr, if_true, up_a, if_false]
  have e5 : zR (wI (wR (wI (wI (wI h a 7 (nI n)) a 8 (w 61)) a 9 (w 62)) a 10 sv) a 11 fp) a 10 = sv := by simp +decide only [zT_wI, zT_wJ, zT_wR, zT_wIr, zT_wJr, zT_wRr, zI_wJ, zI_wR, zI_wJr, zI_wRr, zJ_wI, zJ_wR, zJ_wIr, zJ_wRr, zR_wI, zR_wJ, zR_wIr, zR_wJr, zN_wI, zN_wJ, zN_wR, zN_wIr, zN_wJr, zN_wRr, zZ_wI, zZ_wJ, zZ_wR, zZ_wIr, zZ_wJr, zZ_wRr, zI_wI, zJ_wJ, zR_wR, zI_wIr, zJ_wJr, zR_wRr, if_true, up_a, if_false]
  obtain ⟨h1, f1, g1, c1⟩ := c_copy_out (d := d) (w := w) (fp := fp) (sv := sv) hab hn hw.2.2.2 n 0 _ none (by omega) (RS_A f hS (by omega)) (RS_A f hB (by omega)) (Rv_f (fun c k z => by omega) fb hn hv) e1 (fun s hs => by omega)
  refine ⟨h1, FS_t f (FS_m (fun c k z => by unfold RA; omega) f1), ⟨?_, ?_, ?_, ?_, ?_, g1⟩, fun Q => ?_⟩
  · rw [f1.2.2.2.2.1 _ _ (by omega)]; exact e1
  · rw [f1.2.2.2.2.1 _ _ (by omega)]; exact e2
  · rw [f1.2.2.2.2.1 _ _ (by omega)]; exact e3
  · rw [f1.2.2.2.2.1 _ _ (by omega)]; exact e4
  · rw [f1.2.2.2.2.2 _ _ (by omega)]; exact e5
  · have q0 := hS.1
    have b0 := hB.1
    have ab : (b = a) = False := by simp; omega
    have ez : nI 0 = 0 := rfl
    rw [ez] at c1
    rcases hs with rfl | ⟨s, rfl⟩ <;> simp +decide only [Nat.reduceEqDiff, Nat.add_eq_left, Nat.left_eq_add, Nat.reduceAdd, Nat.reduceLeDiff, Nat.reduceMul, Nat.reduceSub, Nat.reduceLT, zlt8, zlt8_, zlt8n, zlt8n_, List.length_cons, List.length_nil, true_or, or_true, false_or, or_false, and_self, and_true, true_and, and_false, false_and, not_false_eq_true, not_true_eq_false, ite_true, ite_false, if_true, if_false, ite_not, zin, zpush_s, zpush_n, kl_int, kl_ref, kl_none, kl_kl, kl_long, kl_null, zT_wI, zT_wJ, zT_wR, zT_wIr, zT_wJr, zT_wRr, zI_wJ, zI_wR, zI_wJr, zI_wRr, zJ_wI, zJ_wR, zJ_wIr, zJ_wRr, zR_wI, zR_wJ, zR_wIr, zR_wJr, zN_wI, zN_wJ, zN_wR, zN_wIr, zN_wJr, zN_wRr, zZ_wI, zZ_wJ, zZ_wR, zZ_wIr, zZ_wJr, zZ_wRr, zI_wI, zJ_wJ, zR_wR, zI_wIr, zJ_wJr, zR_wRr, k202, g202_0, g202_1, g202_2, g202_5, g202_8, g202_9, g202_10, g202_13, g202_16, g202_17, g202_18, g202_21, g202_24, g202_25, g202_26, g202_29, g202_29_n, g202_32, g202_33, g202_34, g202_37, g202_40, g202_41, g202_43, g202_44, g202_47, g202_50, g202_51, g202_54, g202_55, g202_56, g202_59, g202_60, g202_61, g202_62, g202_63, g202_66, g202_67, g202_68, g202_71, g202_72, g202_73, g202_74, g202_75, g202_78, g202_79, g202_80, g202_83, g202_84, g202_85, g202_86, g202_87, g202_90, g202_91, g202_92, g202_95, g202_96, g202_97, g202_98, g202_99, g202_102, g202_103, g202_104, g202_107, g202_108, g202_109, g202_110, g202_111, g202_114, g202_115, g202_116, g202_119, g202_120, g202_121, g202_122, g202_123, g202_125, g202_126, g202_129, g202_130, g202_133, g202_134, g202_135, g202_136, g202_137, g202_140, g202_141, g202_142, g202_143, g202_144, g202_145, g202_148, g202_151, g202_154, g202_157, q0, b0, ab, v1, v2, v3, v4, v5, c1]
