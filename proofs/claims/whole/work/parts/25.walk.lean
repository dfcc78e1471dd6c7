-- needs 24.bits
variable {d a n t D : Nat} {h : zH} {w : zW0} {fp x y z py p : Int32} {sv : Value} {ex : zW0 → Int32}
/-! a road's numbers after a write -/
theorem Rv_c (hv : Rv h a n w fp sv) (hn : n ≤ 6) (ht : t < 6) (c j : Nat) (hcj : (c = 1 ∧ j = 0) ∨ (c = 2 ∧ j = 1) ∨ (c = 3 ∧ j = 2) ∨ (c = 4 ∧ j = 3) ∨ (c = 6 ∧ j = 4) ∨ (c = 5 ∧ j = 5)) : Rv (wI h (a + c) t x) a n (va_up w (10 * t + j) x) fp sv := by
  obtain ⟨v1, v2, v3, v4, v5, v6⟩ := hv
  have hc : ¬ a = a + c := by omega
  have e : ∀ k, zI (wI h (a + c) t x) a k = zI h a k := fun k => by rw [zI_wI, if_neg hc]
  refine ⟨by rw [e]; exact v1, by rw [e, up_n _ _ (by omega)]; exact v2, by rw [e, up_n _ _ (by omega)]; exact v3, by rw [e]; exact v4, v5, fun s hs => ?_⟩
  obtain ⟨u1, u2, u3, u4, u5, u6, u7⟩ := v6 s hs
  have er : ∀ i, zI (wI h (a + c) t x) (a + 8 + s) i = zI h (a + 8 + s) i := fun i => by rw [zI_wI, if_neg (by omega)]
  have key : ∀ c' j' : Nat, (c' = c ↔ j' = j) → j' < 10 → zI h (a + c') s = w (10 * s + j') → zI (wI h (a + c) t x) (a + c') s = va_up w (10 * t + j) x (10 * s + j') := by
    intro c' j' h1 h2 h3
    rw [zI_wI]
    by_cases e : c' = c
    · subst e
      have e2 := h1.mp rfl
      subst e2
      rw [if_pos rfl]
      by_cases e3 : s = t
      · subst e3; rw [up_s, up_s]
      · rw [up_n _ _ e3, up_n _ _ (by omega)]; exact h3
    · rw [if_neg (by omega), up_n _ _ (by omega)]; exact h3
  refine ⟨key 1 0 (by omega) (by omega) u1, key 2 1 (by omega) (by omega) u2, key 3 2 (by omega) (by omega) u3, key 4 3 (by omega) (by omega) u4, key 6 4 (by omega) (by omega) u5, key 5 5 (by omega) (by omega) u6, fun i hi => ?_⟩
  rw [er, up_n _ _ (by omega)]
  exact u7 i hi
theorem Rt_other {b k : Nat} (hb : b = a) (u : Rt h a w t) {v : zW0} (hw : ∀ i, i < 60 → v i = w i) (ht : t < 6) : Rt (wI h b k x) a v t := by
  subst hb
  obtain ⟨u1, u2, u3, u4, u5, u6, u7⟩ := u
  have e : ∀ c s, 0 < c → zI (wI h b k x) (b + c) s = zI h (b + c) s := fun c s hc => by rw [zI_wI, if_neg (by omega)]
  refine ⟨?_, ?_, ?_, ?_, ?_, ?_, fun i hi => ?_⟩
  · rw [e _ _ (by omega), hw _ (by omega)]; exact u1
  · rw [e _ _ (by omega), hw _ (by omega)]; exact u2
  · rw [e _ _ (by omega), hw _ (by omega)]; exact u3
  · rw [e _ _ (by omega), hw _ (by omega)]; exact u4
  · rw [e _ _ (by omega), hw _ (by omega)]; exact u5
  · rw [e _ _ (by omega), hw _ (by omega)]; exact u6
  · rw [show b + 8 + t = b + (8 + t) by omega, e _ _ (by omega), hw _ (by omega), ← show b + 8 + t = b + (8 + t) by omega]; exact u7 i hi
theorem Rv_purse (hv : Rv h a n w fp sv) (hn : n ≤ 6) : Rv (wI h a 8 x) a n (va_up w 61 x) fp sv := by
  obtain ⟨v1, v2, v3, v4, v5, v6⟩ := hv
  have e : ∀ k, ¬ k = 8 → zI (wI h a 8 x) a k = zI h a k := fun k hk => by rw [zI_wI, if_pos rfl, up_n _ _ hk]
  refine ⟨by rw [e _ (by omega)]; exact v1, by rw [zI_wI, if_pos rfl, up_s, up_s], by rw [e _ (by omega), up_n _ _ (by omega)]; exact v3, by rw [e _ (by omega)]; exact v4, v5, fun s hs => Rt_other rfl (v6 s hs) (fun i hi => up_n _ _ (by omega)) (by omega)⟩
theorem Rv_day (hv : Rv h a n w fp sv) (hn : n ≤ 6) : Rv (wI h a 9 x) a n (va_up w 62 x) fp sv := by
  obtain ⟨v1, v2, v3, v4, v5, v6⟩ := hv
  have e : ∀ k, ¬ k = 9 → zI (wI h a 9 x) a k = zI h a k := fun k hk => by rw [zI_wI, if_pos rfl, up_n _ _ hk]
  refine ⟨by rw [e _ (by omega)]; exact v1, by rw [e _ (by omega), up_n _ _ (by omega)]; exact v2, by rw [zI_wI, if_pos rfl, up_s, up_s], by rw [e _ (by omega)]; exact v4, v5, fun s hs => Rt_other rfl (v6 s hs) (fun i hi => up_n _ _ (by omega)) (by omega)⟩
theorem SR_s (a b k : Nat) (ha : a ≤ 60) : SR a b k → b < 71 := by unfold SR; omega
theorem c_walk2 (hS : RS h a) (ha : a ≤ 60) (hv : Rv h a n w fp sv) (hw : sOK w n D) (hD : D < 2 ^ 31) (ht : t < n) (hs : Se h sv py ex) (hp : (if fp < 0 then py else fp) = p) (l2 : Option Value) : ∃ h1, FS (SR a) h h1 ∧ Rv h1 a n (if w (10 * t + 3) = 5 ∧ w (10 * t + 4) = 0 then sG4 w t (sOf p ex n w t) else w) fp sv ∧ ∀ Q, zG (d + 3) 211 51 [some (.ref a), some (.int (nI t)), none] [] h Q = Q none h1 := by
  have hn := hw.2.1
  have co : ∀ Q, zCall (d + 3) 212 [.ref a, .int (nI t)] h Q = Q (some (.int (sOf p ex n w t))) h := fun Q => by rw [← hp]; exact c_offerTo hS hv hw hD ht hs Q
  have z1 := nI_pos (n := t) (by omega)
  have z2 := nI_clamp (n := t) (by omega)
  obtain ⟨q0, q1, q2, q3, q4, q5, q6, q7, r0, r1, r2, r3, r4, r5, r6, r7⟩ := id hS
  obtain ⟨v1, v2, v3, v4, v5, v6⟩ := id hv
  obtain ⟨u1, u2, u3, u4, u5, u6, u7⟩ := v6 t (by omega)
  by_cases c1 : w (10 * t + 3) = 5
  · by_cases c2 : w (10 * t + 4) = 0
    · rw [if_pos ⟨c1, c2⟩]
      generalize sOf p ex n w t = o at *
      by_cases c3 : sTk w t o
      · unfold sG4
        rw [if_pos c3]
        obtain ⟨k1, k2, k3⟩ := c3
        have hA : RS (wI (wI (wI h a 8 (w 61 - o)) (a + 6) t 1) (a + 5) t (w (10 * t + 5) + 1)) a := hS
        refine ⟨wI (wI (wI (wI h a 8 (w 61 - o)) (a + 6) t 1) (a + 5) t (w (10 * t + 5) + 1)) (a + 3) t (zmin (w (10 * t + 2) + 3) 99), ?_, ?_, fun Q => ?_⟩
        · exact FS_t (FS_t (FS_t (FS_I _ (Or.inl ⟨rfl, Or.inl rfl⟩)) (FS_I _ (by unfold SR; omega))) (FS_I _ (by unfold SR; omega))) (FS_I _ (by unfold SR; omega))
        · unfold sG3
          rw [zmin_c 99]
          exact Rv_c (Rv_c (Rv_c (Rv_purse hv hn) hn (by omega) 6 4 (by omega)) hn (by omega) 5 5 (by omega)) hn (by omega) 3 2 (by omega)
        · have ce := fun Q => c_esteem (d := d + 2) (x := 3) (t := t) hA (by omega) Q
          simp +decide only [Nat.reduceEqDiff, Nat.add_eq_left, Nat.left_eq_add, Nat.reduceAdd, Nat.reduceLeDiff, Nat.reduceMul, Nat.reduceSub, Nat.reduceLT, zlt8, zlt8_, zlt8n, zlt8n_, List.length_cons, List.length_nil, true_or, or_true, false_or, or_false, and_self, and_true, true_and, and_false, false_and, not_false_eq_true, not_true_eq_false, ite_true, ite_false, if_true, if_false, ite_not, zin, zpush_s, zpush_n, kl_int, kl_ref, kl_none, kl_kl, kl_long, kl_null, zT_wI, zT_wJ, zT_wR, zT_wIr, zT_wJr, zT_wRr, zI_wJ, zI_wR, zI_wJr, zI_wRr, zJ_wI, zJ_wR, zJ_wIr, zJ_wRr, zR_wI, zR_wJ, zR_wIr, zR_wJr, zN_wI, zN_wJ, zN_wR, zN_wIr, zN_wJr, zN_wRr, zZ_wI, zZ_wJ, zZ_wR, zZ_wIr, zZ_wJr, zZ_wRr, zI_wI, zJ_wJ, zR_wR, zI_wIr, zJ_wJr, zR_wRr, g211_0, g211_1, g211_4, g211_5, g211_6, g211_8, g211_11, g211_12, g211_13, g211_16, g211_17, g211_18, g211_19, g211_20, g211_23, g211_24, g211_25, g211_28, g211_29, g211_32, g211_33, g211_34, g211_35, g211_36, g211_39, g211_40, g211_41, g211_44, g211_45, g211_48, g211_49, g211_50, g211_51, g211_52, g211_55, g211_56, g211_57, g211_58, g211_61, g211_62, g211_65, g211_66, g211_67, g211_70, g211_71, g211_72, g211_73, g211_76, g211_77, g211_78, g211_81, g211_82, g211_83, g211_86, g211_89, g211_90, g211_91, g211_94, g211_95, g211_96, g211_99, g211_100, g211_101, g211_104, g211_105, g211_106, g211_109, g211_110, g211_113, g211_114, g211_115, g211_116, g211_117, g211_120, g211_121, g211_122, g211_123, g211_124, g211_125, g211_126, g211_127, g211_128, g211_129, g211_132, q0, q1, q2, q3, q4, q5, q6, q7, r0, r1, r2, r3, r4, r5, r6, z1, z2, show t < 6 by omega, u1, u2, u3, u4, u5, u6, c1, c2, co, v2, i_le, k1, k2, k3, ce, show vp_nar .boolean 1 = 1 by decide]
      · refine ⟨h, FS_r _ _, by unfold sG4; rw [if_neg c3]; exact hv, fun Q => ?_⟩
        unfold sTk at c3
        by_cases k1 : 0 < o
        · by_cases k2 : w 61 < o
          · simp +decide only [Nat.reduceEqDiff, Nat.add_eq_left, Nat.left_eq_add, Nat.reduceAdd, Nat.reduceLeDiff, Nat.reduceMul, Nat.reduceSub, Nat.reduceLT, zlt8, zlt8_, zlt8n, zlt8n_, List.length_cons, List.length_nil, true_or, or_true, false_or, or_false, and_self, and_true, true_and, and_false, false_and, not_false_eq_true, not_true_eq_false, ite_true, ite_false, if_true, if_false, ite_not, zin, zpush_s, zpush_n, kl_int, kl_ref, kl_none, kl_kl, kl_long, kl_null, zT_wI, zT_wJ, zT_wR, zT_wIr, zT_wJr, zT_wRr, zI_wJ, zI_wR, zI_wJr, zI_wRr, zJ_wI, zJ_wR, zJ_wIr, zJ_wRr, zR_wI, zR_wJ, zR_wIr, zR_wJr, zN_wI, zN_wJ, zN_wR, zN_wIr, zN_wJr, zN_wRr, zZ_wI, zZ_wJ, zZ_wR, zZ_wIr, zZ_wJr, zZ_wRr, zI_wI, zJ_wJ, zR_wR, zI_wIr, zJ_wJr, zR_wRr, g211_0, g211_1, g211_4, g211_5, g211_6, g211_8, g211_11, g211_12, g211_13, g211_16, g211_17, g211_18, g211_19, g211_20, g211_23, g211_24, g211_25, g211_28, g211_29, g211_32, g211_33, g211_34, g211_35, g211_36, g211_39, g211_40, g211_41, g211_44, g211_45, g211_48, g211_49, g211_50, g211_51, g211_52, g211_55, g211_56, g211_57, g211_58, g211_61, g211_62, g211_65, g211_66, g211_67, g211_70, g211_71, g211_72, g211_73, g211_76, g211_77, g211_78, g211_81, g211_82, g211_83, g211_86, g211_89, g211_90, g211_91, g211_94, g211_95, g211_96, g211_99, g211_100, g211_101, g211_104, g211_105, g211_106, g211_109, g211_110, g211_113, g211_114, g211_115, g211_116, g211_117, g211_120, g211_121, g211_122, g211_123, g211_124, g211_125, g211_126, g211_127, g211_128, g211_129, g211_132, q0, q1, q2, q3, q4, q5, q6, q7, r0, r1, r2, r3, r4, r5, r6, z1, z2, show t < 6 by omega, u1, u2, u3, u4, u5, u6, c1, c2, co, v2, i_le, k1, k2]
          · have k3 : o < w (10 * t + 2) := Classical.byContradiction fun z => c3 ⟨k1, k2, z⟩
            simp +decide only [Nat.reduceEqDiff, Nat.add_eq_left, Nat.left_eq_add, Nat.reduceAdd, Nat.reduceLeDiff, Nat.reduceMul, Nat.reduceSub, Nat.reduceLT, zlt8, zlt8_, zlt8n, zlt8n_, List.length_cons, List.length_nil, true_or, or_true, false_or, or_false, and_self, and_true, true_and, and_false, false_and, not_false_eq_true, not_true_eq_false, ite_true, ite_false, if_true, if_false, ite_not, zin, zpush_s, zpush_n, kl_int, kl_ref, kl_none, kl_kl, kl_long, kl_null, zT_wI, zT_wJ, zT_wR, zT_wIr, zT_wJr, zT_wRr, zI_wJ, zI_wR, zI_wJr, zI_wRr, zJ_wI, zJ_wR, zJ_wIr, zJ_wRr, zR_wI, zR_wJ, zR_wIr, zR_wJr, zN_wI, zN_wJ, zN_wR, zN_wIr, zN_wJr, zN_wRr, zZ_wI, zZ_wJ, zZ_wR, zZ_wIr, zZ_wJr, zZ_wRr, zI_wI, zJ_wJ, zR_wR, zI_wIr, zJ_wJr, zR_wRr, g211_0, g211_1, g211_4, g211_5, g211_6, g211_8, g211_11, g211_12, g211_13, g211_16, g211_17, g211_18, g211_19, g211_20, g211_23, g211_24, g211_25, g211_28, g211_29, g211_32, g211_33, g211_34, g211_35, g211_36, g211_39, g211_40, g211_41, g211_44, g211_45, g211_48, g211_49, g211_50, g211_51, g211_52, g211_55, g211_56, g211_57, g211_58, g211_61, g211_62, g211_65, g211_66, g211_67, g211_70, g211_71, g211_72, g211_73, g211_76, g211_77, g211_78, g211_81, g211_82, g211_83, g211_86, g211_89, g211_90, g211_91, g211_94, g211_95, g211_96, g211_99, g211_100, g211_101, g211_104, g211_105, g211_106, g211_109, g211_110, g211_113, g211_114, g211_115, g211_116, g211_117, g211_120, g211_121, g211_122, g211_123, g211_124, g211_125, g211_126, g211_127, g211_128, g211_129, g211_132, q0, q1, q2, q3, q4, q5, q6, q7, r0, r1, r2, r3, r4, r5, r6, z1, z2, show t < 6 by omega, u1, u2, u3, u4, u5, u6, c1, c2, co, v2, i_le, k1, k2, k3]
        · simp +decide only [Nat.reduceEqDiff, Nat.add_eq_left, Nat.left_eq_add, Nat.reduceAdd, Nat.reduceLeDiff, Nat.reduceMul, Nat.reduceSub, Nat.reduceLT, zlt8, zlt8_, zlt8n, zlt8n_, List.length_cons, List.length_nil, true_or, or_true, false_or, or_false, and_self, and_true, true_and, and_false, false_and, not_false_eq_true, not_true_eq_false, ite_true, ite_false, if_true, if_false, ite_not, zin, zpush_s, zpush_n, kl_int, kl_ref, kl_none, kl_kl, kl_long, kl_null, zT_wI, zT_wJ, zT_wR, zT_wIr, zT_wJr, zT_wRr, zI_wJ, zI_wR, zI_wJr, zI_wRr, zJ_wI, zJ_wR, zJ_wIr, zJ_wRr, zR_wI, zR_wJ, zR_wIr, zR_wJr, zN_wI, zN_wJ, zN_wR, zN_wIr, zN_wJr, zN_wRr, zZ_wI, zZ_wJ, zZ_wR, zZ_wIr, zZ_wJr, zZ_wRr, zI_wI, zJ_wJ, zR_wR, zI_wIr, zJ_wJr, zR_wRr, g211_0, g211_1, g211_4, g211_5, g211_6, g211_8, g211_11, g211_12, g211_13, g211_16, g211_17, g211_18, g211_19, g211_20, g211_23, g211_24, g211_25, g211_28, g211_29, g211_32, g211_33, g211_34, g211_35, g211_36, g211_39, g211_40, g211_41, g211_44, g211_45, g211_48, g211_49, g211_50, g211_51, g211_52, g211_55, g211_56, g211_57, g211_58, g211_61, g211_62, g211_65, g211_66, g211_67, g211_70, g211_71, g211_72, g211_73, g211_76, g211_77, g211_78, g211_81, g211_82, g211_83, g211_86, g211_89, g211_90, g211_91, g211_94, g211_95, g211_96, g211_99, g211_100, g211_101, g211_104, g211_105, g211_106, g211_109, g211_110, g211_113, g211_114, g211_115, g211_116, g211_117, g211_120, g211_121, g211_122, g211_123, g211_124, g211_125, g211_126, g211_127, g211_128, g211_129, g211_132, q0, q1, q2, q3, q4, q5, q6, q7, r0, r1, r2, r3, r4, r5, r6, z1, z2, show t < 6 by omega, u1, u2, u3, u4, u5, u6, c1, c2, co, v2, i_le, k1]
    · refine ⟨h, FS_r _ _, by rw [if_neg (fun z => c2 z.2)]; exact hv, fun Q => ?_⟩
      simp +decide only [Nat.reduceEqDiff, Nat.add_eq_left, Nat.left_eq_add, Nat.reduceAdd, Nat.reduceLeDiff, Nat.reduceMul, Nat.reduceSub, Nat.reduceLT, zlt8, zlt8_, zlt8n, zlt8n_, List.length_cons, List.length_nil, true_or, or_true, false_or, or_false, and_self, and_true, true_and, and_false, false_and, not_false_eq_true, not_true_eq_false, ite_true, ite_false, if_true, if_false, ite_not, zin, zpush_s, zpush_n, kl_int, kl_ref, kl_none, kl_kl, kl_long, kl_null, zT_wI, zT_wJ, zT_wR, zT_wIr, zT_wJr, zT_wRr, zI_wJ, zI_wR, zI_wJr, zI_wRr, zJ_wI, zJ_wR, zJ_wIr, zJ_wRr, zR_wI, zR_wJ, zR_wIr, zR_wJr, zN_wI, zN_wJ, zN_wR, zN_wIr, zN_wJr, zN_wRr, zZ_wI, zZ_wJ, zZ_wR, zZ_wIr, zZ_wJr, zZ_wRr, zI_wI, zJ_wJ, zR_wR, zI_wIr, zJ_wJr, zR_wRr, g211_0, g211_1, g211_4, g211_5, g211_6, g211_8, g211_11, g211_12, g211_13, g211_16, g211_17, g211_18, g211_19, g211_20, g211_23, g211_24, g211_25, g211_28, g211_29, g211_32, g211_33, g211_34, g211_35, g211_36, g211_39, g211_40, g211_41, g211_44, g211_45, g211_48, g211_49, g211_50, g211_51, g211_52, g211_55, g211_56, g211_57, g211_58, g211_61, g211_62, g211_65, g211_66, g211_67, g211_70, g211_71, g211_72, g211_73, g211_76, g211_77, g211_78, g211_81, g211_82, g211_83, g211_86, g211_89, g211_90, g211_91, g211_94, g211_95, g211_96, g211_99, g211_100, g211_101, g211_104, g211_105, g211_106, g211_109, g211_110, g211_113, g211_114, g211_115, g211_116, g211_117, g211_120, g211_121, g211_122, g211_123, g211_124, g211_125, g211_126, g211_127, g211_128, g211_129, g211_132, q0, q1, q2, q3, q4, q5, q6, q7, r0, r1, r2, r3, r4, r5, r6, z1, z2, show t < 6 by omega, u1, u2, u3, u4, u5, u6, c1, c2]
  · refine ⟨h, FS_r _ _, by rw [if_neg (fun z => c1 z.1)]; exact hv, fun Q => ?_⟩
    simp +decide only [Nat.reduceEqDiff, Nat.add_eq_left, Nat.left_eq_add, Nat.reduceAdd, Nat.reduceLeDiff, Nat.reduceMul, Nat.reduceSub, Nat.reduceLT, zlt8, zlt8_, zlt8n, zlt8n_, List.length_cons, List.length_nil, true_or, or_true, false_or, or_false, and_self, and_true, true_and, and_false, false_and, not_false_eq_true, not_true_eq_false, ite_true, ite_false, if_true, if_false, ite_not, zin, zpush_s, zpush_n, kl_int, kl_ref, kl_none, kl_kl, kl_long, kl_null, zT_wI, zT_wJ, zT_wR, zT_wIr, zT_wJr, zT_wRr, zI_wJ, zI_wR, zI_wJr, zI_wRr, zJ_wI, zJ_wR, zJ_wIr, zJ_wRr, zR_wI, zR_wJ, zR_wIr, zR_wJr, zN_wI, zN_wJ, zN_wR, zN_wIr, zN_wJr, zN_wRr, zZ_wI, zZ_wJ, zZ_wR, zZ_wIr, zZ_wJr, zZ_wRr, zI_wI, zJ_wJ, zR_wR, zI_wIr, zJ_wJr, zR_wRr, g211_0, g211_1, g211_4, g211_5, g211_6, g211_8, g211_11, g211_12, g211_13, g211_16, g211_17, g211_18, g211_19, g211_20, g211_23, g211_24, g211_25, g211_28, g211_29, g211_32, g211_33, g211_34, g211_35, g211_36, g211_39, g211_40, g211_41, g211_44, g211_45, g211_48, g211_49, g211_50, g211_51, g211_52, g211_55, g211_56, g211_57, g211_58, g211_61, g211_62, g211_65, g211_66, g211_67, g211_70, g211_71, g211_72, g211_73, g211_76, g211_77, g211_78, g211_81, g211_82, g211_83, g211_86, g211_89, g211_90, g211_91, g211_94, g211_95, g211_96, g211_99, g211_100, g211_101, g211_104, g211_105, g211_106, g211_109, g211_110, g211_113, g211_114, g211_115, g211_116, g211_117, g211_120, g211_121, g211_122, g211_123, g211_124, g211_125, g211_126, g211_127, g211_128, g211_129, g211_132, q0, q1, q2, q3, q4, q5, q6, q7, r0, r1, r2, r3, r4, r5, r6, z1, z2, show t < 6 by omega, u1, u2, u3, u4, u5, u6, c1]
theorem c_walkOn (hS : RS h a) (ha : a ≤ 60) (hv : Rv h a n w fp sv) (hw : sOK w n D) (hD : D < 2 ^ 31) (ht : t < n) (hs : Se h sv py ex) (hp : (if fp < 0 then py else fp) = p) : ∃ h1, FS (SR a) h h1 ∧ Rv h1 a n (sGw p ex n t w) fp sv ∧ ∀ Q, zCall (d + 4) 211 [.ref a, .int (nI t)] h Q = Q none h1 := by
  have hn := hw.2.1
  have z1 := nI_pos (n := t) (by omega)
  have z2 := nI_clamp (n := t) (by omega)
  obtain ⟨q0, q1, q2, q3, q4, q5, q6, q7, r0, r1, r2, r3, r4, r5, r6, r7⟩ := id hS
  obtain ⟨v1, v2, v3, v4, v5, v6⟩ := id hv
  obtain ⟨u1, u2, u3, u4, u5, u6, u7⟩ := v6 t (by omega)
  unfold sGw
  by_cases c0 : w (10 * t + 3) = 10
  · rw [if_pos c0]
    refine ⟨h, FS_r _ _, hv, fun Q => ?_⟩
    simp +decide only [Nat.reduceEqDiff, Nat.add_eq_left, Nat.left_eq_add, Nat.reduceAdd, Nat.reduceLeDiff, Nat.reduceMul, Nat.reduceSub, Nat.reduceLT, zlt8, zlt8_, zlt8n, zlt8n_, List.length_cons, List.length_nil, true_or, or_true, false_or, or_false, and_self, and_true, true_and, and_false, false_and, not_false_eq_true, not_true_eq_false, ite_true, ite_false, if_true, if_false, ite_not, zin, zpush_s, zpush_n, kl_int, kl_ref, kl_none, kl_kl, kl_long, kl_null, zT_wI, zT_wJ, zT_wR, zT_wIr, zT_wJr, zT_wRr, zI_wJ, zI_wR, zI_wJr, zI_wRr, zJ_wI, zJ_wR, zJ_wIr, zJ_wRr, zR_wI, zR_wJ, zR_wIr, zR_wJr, zN_wI, zN_wJ, zN_wR, zN_wIr, zN_wJr, zN_wRr, zZ_wI, zZ_wJ, zZ_wR, zZ_wIr, zZ_wJr, zZ_wRr, zI_wI, zJ_wJ, zR_wR, zI_wIr, zJ_wJr, zR_wRr, k211, g211_0, g211_1, g211_4, g211_5, g211_6, g211_8, g211_11, g211_12, g211_13, g211_16, g211_17, g211_18, g211_19, g211_20, g211_23, g211_24, g211_25, g211_28, g211_29, g211_32, g211_33, g211_34, g211_35, g211_36, g211_39, g211_40, g211_41, g211_44, g211_45, g211_48, g211_49, g211_50, g211_51, g211_52, g211_55, g211_56, g211_57, g211_58, g211_61, g211_62, g211_65, g211_66, g211_67, g211_70, g211_71, g211_72, g211_73, g211_76, g211_77, g211_78, g211_81, g211_82, g211_83, g211_86, g211_89, g211_90, g211_91, g211_94, g211_95, g211_96, g211_99, g211_100, g211_101, g211_104, g211_105, g211_106, g211_109, g211_110, g211_113, g211_114, g211_115, g211_116, g211_117, g211_120, g211_121, g211_122, g211_123, g211_124, g211_125, g211_126, g211_127, g211_128, g211_129, g211_132, q0, q1, q2, q3, q4, q5, q6, q7, r0, r1, r2, r3, r4, r5, r6, z1, z2, show t < 6 by omega, u1, u2, u3, u4, u5, u6, c0]
  · rw [if_neg c0]
    have f1 : FS (SR a) h (wI h (a + 4) t (w (10 * t + 3) + (if w (10 * t + 4) = 1 then -1 else 1))) := FS_I _ (by unfold SR; omega)
    have w1 : Rv (wI h (a + 4) t (w (10 * t + 3) + (if w (10 * t + 4) = 1 then -1 else 1))) a n (sG1 w t) fp sv := Rv_c hv hn (by omega) 4 3 (by omega)
    have k1 : sOK (sG1 w t) n D := sG1_ok hw ht
    have k2 : sOK (sG2 (sG1 w t) t) n D := sG2_ok k1 ht
    have e0 : sG1 w t (10 * t + 3) = w (10 * t + 3) + (if w (10 * t + 4) = 1 then -1 else 1) := up_s _ _ _
    by_cases c1 : sG1 w t (10 * t + 3) = 0
    · have f2 : FS (SR a) h (wI (wI h (a + 4) t (w (10 * t + 3) + (if w (10 * t + 4) = 1 then -1 else 1))) (a + 6) t 0) := FS_t f1 (FS_I _ (by unfold SR; omega))
      have w2 : Rv (wI (wI h (a + 4) t (w (10 * t + 3) + (if w (10 * t + 4) = 1 then -1 else 1))) (a + 6) t 0) a n (sG2 (sG1 w t) t) fp sv := by
        unfold sG2
        rw [if_pos c1]
        exact Rv_c w1 hn (by omega) 6 4 (by omega)
      obtain ⟨h1, g1, g2, g3⟩ := c_walk2 (d := d) (t := t) (RS_R f2 hS (by omega)) ha w2 k2 hD ht (Se_f (fun b k z => SR_s a b k ha z) f2 hs) hp none
      refine ⟨h1, FS_t f2 g1, g2, fun Q => ?_⟩
      rw [e0] at c1
      rcases hw.2.2.2 t ht with c2 | c2 <;> simp +decide only [c2, ite_true, ite_false] at c1 g3 <;> simp +decide only [Nat.reduceEqDiff, Nat.add_eq_left, Nat.left_eq_add, Nat.reduceAdd, Nat.reduceLeDiff, Nat.reduceMul, Nat.reduceSub, Nat.reduceLT, zlt8, zlt8_, zlt8n, zlt8n_, List.length_cons, List.length_nil, true_or, or_true, false_or, or_false, and_self, and_true, true_and, and_false, false_and, not_false_eq_true, not_true_eq_false, ite_true, ite_false, if_true, if_false, ite_not, zin, zpush_s, zpush_n, kl_int, kl_ref, kl_none, kl_kl, kl_long, kl_null, zT_wI, zT_wJ, zT_wR, zT_wIr, zT_wJr, zT_wRr, zI_wJ, zI_wR, zI_wJr, zI_wRr, zJ_wI, zJ_wR, zJ_wIr, zJ_wRr, zR_wI, zR_wJ, zR_wIr, zR_wJr, zN_wI, zN_wJ, zN_wR, zN_wIr, zN_wJr, zN_wRr, zZ_wI, zZ_wJ, zZ_wR, zZ_wIr, zZ_wJr, zZ_wRr, zI_wI, zJ_wJ, zR_wR, zI_wIr, zJ_wJr, zR_wRr, k211, g211_0, g211_1, g211_4, g211_5, g211_6, g211_8, g211_12, g211_13, g211_16, g211_17, g211_18, g211_19, g211_20, g211_23, g211_24, g211_25, g211_28, g211_29, g211_32, g211_33, g211_34, g211_35, g211_36, g211_39, g211_40, g211_41, g211_44, g211_45, g211_48, g211_49, g211_50, q0, q1, q2, q3, q4, q5, q6, q7, r0, r1, r2, r3, r4, r5, r6, z1, z2, show t < 6 by omega, u1, u2, u3, u4, u5, u6, c0, c1, c2, up_s, show vp_nar .boolean 0 = 0 by decide] <;> (simp only [c1] at g3) <;> exact g3 Q
    · have w2 : Rv (wI h (a + 4) t (w (10 * t + 3) + (if w (10 * t + 4) = 1 then -1 else 1))) a n (sG2 (sG1 w t) t) fp sv := by
        unfold sG2
        rw [if_neg c1]
        exact w1
      obtain ⟨h1, g1, g2, g3⟩ := c_walk2 (d := d) (t := t) (RS_R f1 hS (by omega)) ha w2 k2 hD ht (Se_f (fun b k z => SR_s a b k ha z) f1 hs) hp none
      refine ⟨h1, FS_t f1 g1, g2, fun Q => ?_⟩
      rw [e0] at c1
      rcases hw.2.2.2 t ht with c2 | c2 <;> simp +decide only [c2, ite_true, ite_false] at c1 g3 <;> simp +decide only [Nat.reduceEqDiff, Nat.add_eq_left, Nat.left_eq_add, Nat.reduceAdd, Nat.reduceLeDiff, Nat.reduceMul, Nat.reduceSub, Nat.reduceLT, zlt8, zlt8_, zlt8n, zlt8n_, List.length_cons, List.length_nil, true_or, or_true, false_or, or_false, and_self, and_true, true_and, and_false, false_and, not_false_eq_true, not_true_eq_false, ite_true, ite_false, if_true, if_false, ite_not, zin, zpush_s, zpush_n, kl_int, kl_ref, kl_none, kl_kl, kl_long, kl_null, zT_wI, zT_wJ, zT_wR, zT_wIr, zT_wJr, zT_wRr, zI_wJ, zI_wR, zI_wJr, zI_wRr, zJ_wI, zJ_wR, zJ_wIr, zJ_wRr, zR_wI, zR_wJ, zR_wIr, zR_wJr, zN_wI, zN_wJ, zN_wR, zN_wIr, zN_wJr, zN_wRr, zZ_wI, zZ_wJ, zZ_wR, zZ_wIr, zZ_wJr, zZ_wRr, zI_wI, zJ_wJ, zR_wR, zI_wIr, zJ_wJr, zR_wRr, k211, g211_0, g211_1, g211_4, g211_5, g211_6, g211_8, g211_12, g211_13, g211_16, g211_17, g211_18, g211_19, g211_20, g211_23, g211_24, g211_25, g211_28, g211_29, g211_32, g211_33, g211_34, g211_35, g211_36, g211_39, g211_40, g211_41, g211_44, g211_45, g211_48, g211_49, g211_50, q0, q1, q2, q3, q4, q5, q6, q7, r0, r1, r2, r3, r4, r5, r6, z1, z2, show t < 6 by omega, u1, u2, u3, u4, u5, u6, c0, c1, c2, up_s] <;> exact g3 Q
