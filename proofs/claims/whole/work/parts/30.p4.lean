-- needs 30.p3
variable {d a b n t D K s p wv : Nat} {h h1 : zH} {w x nm : zW0} {c : Int32} {ok : Bool} {F : Nat → Nat × Option pE}
theorem r_fac_t (hT : ∀ Q, zG (d + 3) 823 0 [some (.ref 88), none] [] h Q = zG (d + 3) 823 124 [some (.ref 88), none] [] h Q) (m : PQ h x s nm) (h0 : St h p ok wv) (hp : p ≤ s) : ∃ h1 b, FS S4 h h1 ∧ St h1 (onOk ok (pTest x s) p).1 (onOk ok (pTest x s) p).2.isSome wv ∧ p ≤ (onOk ok (pTest x s) p).1 ∧ (onOk ok (pTest x s) p).1 ≤ s ∧ (∀ e, (onOk ok (pTest x s) p).2 = some e → b = e.2 nm) ∧ ∀ Q, zG (d + 3) 823 0 [some (.ref 88), none] [] h Q = Q (some (.int (bB b))) h1 := by
  obtain ⟨h1, b, f1, t1, u1, u2, v1, g1⟩ := r_test d h p ok m h0 hp
  refine ⟨h1, b, f1, t1, u1, u2, v1, fun Q => ?_⟩
  have m88 := m.1.1.1
  have hz := bB_z b
  rw [hT]
  simp +decide only [Nat.reduceEqDiff, Nat.add_eq_left, Nat.left_eq_add, Nat.reduceAdd, Nat.reduceLeDiff, Nat.reduceMul, Nat.reduceSub, Nat.reduceLT, zlt8, zlt8_, zlt8n, zlt8n_, List.length_cons, List.length_nil, true_or, or_true, false_or, or_false, and_self, and_true, true_and, and_false, false_and, not_false_eq_true, not_true_eq_false, ite_true, ite_false, if_true, if_false, ite_not, zin, zpush_s, zpush_n, kl_int, kl_ref, kl_none, kl_kl, kl_long, kl_null, zT_wI, zT_wJ, zT_wR, zT_wIr, zT_wJr, zT_wRr, zI_wJ, zI_wR, zI_wJr, zI_wRr, zJ_wI, zJ_wR, zJ_wIr, zJ_wRr, zR_wI, zR_wJ, zR_wIr, zR_wJr, zN_wI, zN_wJ, zN_wR, zN_wIr, zN_wJr, zN_wRr, zZ_wI, zZ_wJ, zZ_wR, zZ_wIr, zZ_wJr, zZ_wRr, zI_wI, zJ_wJ, zR_wR, zI_wIr, zJ_wJr, zR_wRr, g823_124, g823_125, g823_128, g823_129, g823_130, m88, g1, hz]
theorem r_factor : ∀ (k wv : Nat), wv + k = 4 → Imp x nm s 823 (4 + 3 * k) wv (pFac x s k)
  | 0, wv, e => by
    intro d h p ok m h0 hp
    have m88 := m.1.1.1
    have s3 := h0.2.2
    have e4 : wv = 4 := by omega
    subst e4
    obtain ⟨h1, b, f1, t1, u1, u2, v1, g1⟩ := r_fac_t (d := d) (fun Q => by
      simp +decide only [Nat.reduceEqDiff, Nat.add_eq_left, Nat.left_eq_add, Nat.reduceAdd, Nat.reduceLeDiff, Nat.reduceMul, Nat.reduceSub, Nat.reduceLT, zlt8, zlt8_, zlt8n, zlt8n_, List.length_cons, List.length_nil, true_or, or_true, false_or, or_false, and_self, and_true, true_and, and_false, false_and, not_false_eq_true, not_true_eq_false, ite_true, ite_false, if_true, if_false, ite_not, zin, zpush_s, zpush_n, kl_int, kl_ref, kl_none, kl_kl, kl_long, kl_null, zT_wI, zT_wJ, zT_wR, zT_wIr, zT_wJr, zT_wRr, zI_wJ, zI_wR, zI_wJr, zI_wRr, zJ_wI, zJ_wR, zJ_wIr, zJ_wRr, zR_wI, zR_wJ, zR_wIr, zR_wJr, zN_wI, zN_wJ, zN_wR, zN_wIr, zN_wJr, zN_wRr, zZ_wI, zZ_wJ, zZ_wR, zZ_wIr, zZ_wJr, zZ_wRr, zI_wI, zJ_wJ, zR_wR, zI_wIr, zJ_wJr, zR_wRr, g823_0, g823_1, g823_4, g823_5, g823_63, g823_64, g823_67, g823_68, m88, s3, show (4 : Int32) ≤ nI 4 by decide]) m h0 hp
    exact ⟨h1, b, f1, t1, u1, u2, v1, fun Q => by
      rw [← g1 Q, show d + (4 + 3 * 0) = d + 3 + 1 from rfl]
      simp +decide only [Nat.reduceEqDiff, Nat.add_eq_left, Nat.left_eq_add, Nat.reduceAdd, Nat.reduceLeDiff, Nat.reduceMul, Nat.reduceSub, Nat.reduceLT, zlt8, zlt8_, zlt8n, zlt8n_, List.length_cons, List.length_nil, true_or, or_true, false_or, or_false, and_self, and_true, true_and, and_false, false_and, not_false_eq_true, not_true_eq_false, ite_true, ite_false, if_true, if_false, ite_not, zin, zpush_s, zpush_n, kl_int, kl_ref, kl_none, kl_kl, kl_long, kl_null, zT_wI, zT_wJ, zT_wR, zT_wIr, zT_wJr, zT_wRr, zI_wJ, zI_wR, zI_wJr, zI_wRr, zJ_wI, zJ_wR, zJ_wIr, zJ_wRr, zR_wI, zR_wJ, zR_wIr, zR_wJr, zN_wI, zN_wJ, zN_wR, zN_wIr, zN_wJr, zN_wRr, zZ_wI, zZ_wJ, zZ_wR, zZ_wIr, zZ_wJr, zZ_wRr, zI_wI, zJ_wJ, zR_wR, zI_wIr, zJ_wJr, zR_wRr, k823]⟩
  | k + 1, wv, e => by
    intro d h p ok m h0 hp
    have ih := r_factor k (wv + 1) (by omega)
    have m88 := m.1.1.1
    have s1 := h0.1
    have s3 := h0.2.2
    have hs := m.2.2.2.1
    have ci : ∀ c Q, zCall (d + 3 * k + 6) 818 [.ref 88, .int c] h Q = Q (some (.int (bB (ok && tk x s c p)))) h := fun c Q => r_isAt (d := d + 3 * k + 5) m h0 hp Q
    have z4 : ¬ (4 : Int32) ≤ nI wv := by rw [i_le]; exact Classical.not_not.mpr (nI_lt (b := 4) (by omega) (by omega))
    have zm : nI (wv + 1) - 1 = nI wv := nI_pred wv
    have ed : d + (4 + 3 * (k + 1)) = d + 3 * k + 6 + 1 := by omega
    rw [ed]
    cases q : (ok && tk x s 33 p) with
    | true =>
      have ci33 := ci 33
      rw [q] at ci33
      obtain ⟨rfl, q2⟩ := Bool.and_eq_true_iff.mp q
      have ps := (tk_i.mp q2).1
      have f1 : FS S4 h (wI (wI h 88 12 (nI (p + 1))) 88 14 (nI (wv + 1))) := FS_t (f4 12 (nI (p + 1)) (by omega)) (f4 14 _ (by omega))
      have t1 := St_in (St_at h0 (p + 1)) (wv + 1)
      have m1 := PQ_4 f1 m
      obtain ⟨h2, b2, f2, t2, u1, u2, v2, g2⟩ := ih (d + 2) _ (p + 1) true m1 t1 (by omega)
      have eD : d + 2 + (4 + 3 * k) = d + 3 * k + 6 := by omega
      rw [eD] at g2
      rw [onOk_t] at t2 u1 u2 v2
      have k88 := (PQ_4 f2 m1).1.1.1
      have s32 := t2.2.2
      have f3 : FS S4 h2 (wI h2 88 14 (nI wv)) := f4 14 _ (by omega)
      have t3 := St_in t2 wv
      have ek : onOk true (pFac x s (k + 1)) p = (match pFac x s k (p + 1) with
          | (q, some e) => (q, some (e.1 ++ [pCode 33 0 0], fun nm => !e.2 nm))
          | (q, none) => (q, none)) := by rw [onOk_t, pFac, q2]; rfl
      have gz : ∀ Q, zCall (d + 3 * k + 6 + 1) 823 [.ref 88] h Q = Q (some (.int (bB (!b2)))) (wI h2 88 14 (nI wv)) := fun Q => by
        rw [k823]
        cases b2 <;> simp +decide only [Nat.reduceEqDiff, Nat.add_eq_left, Nat.left_eq_add, Nat.reduceAdd, Nat.reduceLeDiff, Nat.reduceMul, Nat.reduceSub, Nat.reduceLT, zlt8, zlt8_, zlt8n, zlt8n_, List.length_cons, List.length_nil, true_or, or_true, false_or, or_false, and_self, and_true, true_and, and_false, false_and, not_false_eq_true, not_true_eq_false, ite_true, ite_false, if_true, if_false, ite_not, zin, zpush_s, zpush_n, kl_int, kl_ref, kl_none, kl_kl, kl_long, kl_null, zT_wI, zT_wJ, zT_wR, zT_wIr, zT_wJr, zT_wRr, zI_wJ, zI_wR, zI_wJr, zI_wRr, zJ_wI, zJ_wR, zJ_wIr, zJ_wRr, zR_wI, zR_wJ, zR_wIr, zR_wJr, zN_wI, zN_wJ, zN_wR, zN_wIr, zN_wJr, zN_wRr, zZ_wI, zZ_wJ, zZ_wR, zZ_wIr, zZ_wJr, zZ_wRr, zI_wI, zJ_wJ, zR_wR, zI_wIr, zJ_wJr, zR_wRr, g823_0, g823_1, g823_4, g823_5, g823_8, g823_9, g823_11, g823_14, g823_17, g823_18, g823_19, g823_22, g823_23, g823_24, g823_27, g823_28, g823_29, g823_32, g823_33, g823_34, g823_37, g823_38, g823_41, g823_44, g823_45, g823_48, g823_49, g823_50, g823_51, g823_52, g823_55, g823_56, g823_57, g823_60, g823_63, g823_64, g823_67, g823_68, g823_71, g823_72, g823_74, g823_77, g823_80, g823_81, g823_82, g823_85, g823_86, g823_87, g823_90, g823_91, g823_92, g823_95, g823_96, g823_97, g823_100, g823_101, g823_104, g823_105, g823_106, g823_107, g823_110, g823_111, g823_112, g823_115, g823_116, g823_118, g823_121, g823_124, g823_125, g823_128, g823_129, g823_130, m88, k88, s1, s3, s32, z4, zm, nI_1, up_a, ci33, g2, bB_t, bB_f, Bool.not_true, Bool.not_false]
      rw [ek]
      revert t3 u1 u2 v2
      rcases pFac x s k (p + 1) with ⟨q', _ | e⟩
      · intro u1 u2 v2 t3
        exact ⟨_, _, FS_t f1 (FS_t f2 f3), t3, by simp only at u1 ⊢; omega, u2, fun e he => by simp at he, gz⟩
      · intro u1 u2 v2 t3
        exact ⟨_, _, FS_t f1 (FS_t f2 f3), t3, by simp only at u1 ⊢; omega, u2, fun e' he => by simp at he; rw [← he, v2 e rfl], gz⟩
    | false =>
      have ci33 := ci 33
      rw [q] at ci33
      cases q3 : (ok && tk x s 40 p) with
      | true =>
        have ci40 := ci 40
        rw [q3] at ci40
        obtain ⟨rfl, q2⟩ := Bool.and_eq_true_iff.mp q3
        rw [Bool.true_and] at q
        have ps := (tk_i.mp q2).1
        have f1 : FS S4 h (wI (wI h 88 12 (nI (p + 1))) 88 14 (nI (wv + 1))) := FS_t (f4 12 (nI (p + 1)) (by omega)) (f4 14 _ (by omega))
        have t1 := St_in (St_at h0 (p + 1)) (wv + 1)
        have m1 := PQ_4 f1 m
        have ih2 : Imp x nm s 825 (3 + 3 * k + 1 + 1 + 1) (wv + 1) (pAny x s (pFac x s k)) := r_or (D := 3 + 3 * k + 1) (r_and (D := 3 + 3 * k) (by rw [show 3 + 3 * k + 1 = 4 + 3 * k by omega]; exact ih))
        obtain ⟨h2, b2, f2, t2, u1, u2, v2, g2⟩ := ih2 d _ (p + 1) true m1 t1 (by omega)
        have eD : d + (3 + 3 * k + 1 + 1 + 1) = d + 3 * k + 6 := by omega
        rw [eD] at g2
        rw [onOk_t] at t2 u1 u2 v2
        have m2 := PQ_4 f2 m1
        have k88 := m2.1.1.1
        have s32 := t2.2.2
        have f3 : FS S4 h2 (wI h2 88 14 (nI wv)) := f4 14 _ (by omega)
        have t3 := St_in t2 wv
        have m3 := PQ_4 f3 m2
        obtain ⟨h4, f4', t4, g4⟩ := r_takes (d := d + 3 * k + 4) (c := 41) m3 t3 u2
        have ek : onOk true (pFac x s (k + 1)) p = (match pAny x s (pFac x s k) (p + 1) with
            | (q, some e) => if tk x s 41 q then (q + 1, some e) else (q, none)
            | (q, none) => (q, none)) := by rw [onOk_t, pFac, q, q2]; rfl
        have hz := bB_z b2
        have gz : ∀ Q, zCall (d + 3 * k + 6 + 1) 823 [.ref 88] h Q = Q (some (.int (bB b2))) h4 := fun Q => by
          rw [k823]
          simp +decide only [Nat.reduceEqDiff, Nat.add_eq_left, Nat.left_eq_add, Nat.reduceAdd, Nat.reduceLeDiff, Nat.reduceMul, Nat.reduceSub, Nat.reduceLT, zlt8, zlt8_, zlt8n, zlt8n_, List.length_cons, List.length_nil, true_or, or_true, false_or, or_false, and_self, and_true, true_and, and_false, false_and, not_false_eq_true, not_true_eq_false, ite_true, ite_false, if_true, if_false, ite_not, zin, zpush_s, zpush_n, kl_int, kl_ref, kl_none, kl_kl, kl_long, kl_null, zT_wI, zT_wJ, zT_wR, zT_wIr, zT_wJr, zT_wRr, zI_wJ, zI_wR, zI_wJr, zI_wRr, zJ_wI, zJ_wR, zJ_wIr, zJ_wRr, zR_wI, zR_wJ, zR_wIr, zR_wJr, zN_wI, zN_wJ, zN_wR, zN_wIr, zN_wJr, zN_wRr, zZ_wI, zZ_wJ, zZ_wR, zZ_wIr, zZ_wJr, zZ_wRr, zI_wI, zJ_wJ, zR_wR, zI_wIr, zJ_wJr, zR_wRr, g823_0, g823_1, g823_4, g823_5, g823_8, g823_9, g823_11, g823_14, g823_17, g823_18, g823_19, g823_22, g823_23, g823_24, g823_27, g823_28, g823_29, g823_32, g823_33, g823_34, g823_37, g823_38, g823_41, g823_44, g823_45, g823_48, g823_49, g823_50, g823_51, g823_52, g823_55, g823_56, g823_57, g823_60, g823_63, g823_64, g823_67, g823_68, g823_71, g823_72, g823_74, g823_77, g823_80, g823_81, g823_82, g823_85, g823_86, g823_87, g823_90, g823_91, g823_92, g823_95, g823_96, g823_97, g823_100, g823_101, g823_104, g823_105, g823_106, g823_107, g823_110, g823_111, g823_112, g823_115, g823_116, g823_118, g823_121, g823_124, g823_125, g823_128, g823_129, g823_130, m88, k88, s1, s3, s32, z4, zm, nI_1, up_a, ci33, ci40, g2, g4, bB_t, bB_f, hz]
        rw [ek]
        revert t4 u1 u2 v2
        rcases pAny x s (pFac x s k) (p + 1) with ⟨q', _ | e⟩
        · intro u1 u2 v2 t4
          rw [show (none : Option pE).isSome = false from rfl, Bool.false_and, if_neg (by decide)] at t4
          exact ⟨_, _, FS_t f1 (FS_t f2 (FS_t f3 f4')), t4, by simp only at u1 ⊢; omega, u2, fun e he => by simp at he, gz⟩
        · intro u1 u2 v2 t4
          rw [show (some e).isSome = true from rfl, Bool.true_and] at t4
          cases q5 : tk x s 41 q' with
          | true =>
            rw [q5] at t4
            have := (tk_i.mp q5).1
            exact ⟨_, _, FS_t f1 (FS_t f2 (FS_t f3 f4')), by simp only [q5, if_true] at t4 ⊢; exact t4, by simp only [q5, if_true] at u1 ⊢; omega, by simp only [q5, if_true]; omega, fun e' he => by simp [q5] at he; rw [← he]; exact v2 e rfl, gz⟩
          | false =>
            rw [q5] at t4
            exact ⟨_, _, FS_t f1 (FS_t f2 (FS_t f3 f4')), by simp only [q5, Bool.false_eq_true, if_false] at t4 ⊢; exact t4, by simp only [q5, Bool.false_eq_true, if_false] at u1 ⊢; omega, by simp only [q5, Bool.false_eq_true, if_false]; exact u2, fun e' he => by simp [q5] at he, gz⟩
      | false =>
        have ci40 := ci 40
        rw [q3] at ci40
        obtain ⟨h1, b, f1, t1, u1, u2, v1, g1⟩ := r_fac_t (d := d + 3 * k + 3) (fun Q => by
          simp +decide only [Nat.reduceEqDiff, Nat.add_eq_left, Nat.left_eq_add, Nat.reduceAdd, Nat.reduceLeDiff, Nat.reduceMul, Nat.reduceSub, Nat.reduceLT, zlt8, zlt8_, zlt8n, zlt8n_, List.length_cons, List.length_nil, true_or, or_true, false_or, or_false, and_self, and_true, true_and, and_false, false_and, not_false_eq_true, not_true_eq_false, ite_true, ite_false, if_true, if_false, ite_not, zin, zpush_s, zpush_n, kl_int, kl_ref, kl_none, kl_kl, kl_long, kl_null, zT_wI, zT_wJ, zT_wR, zT_wIr, zT_wJr, zT_wRr, zI_wJ, zI_wR, zI_wJr, zI_wRr, zJ_wI, zJ_wR, zJ_wIr, zJ_wRr, zR_wI, zR_wJ, zR_wIr, zR_wJr, zN_wI, zN_wJ, zN_wR, zN_wIr, zN_wJr, zN_wRr, zZ_wI, zZ_wJ, zZ_wR, zZ_wIr, zZ_wJr, zZ_wRr, zI_wI, zJ_wJ, zR_wR, zI_wIr, zJ_wJr, zR_wRr, g823_0, g823_1, g823_4, g823_5, g823_8, g823_9, g823_11, g823_14, g823_63, g823_64, g823_67, g823_68, g823_71, g823_72, g823_74, g823_77, m88, s3, z4, ci33, ci40, bB_f]) m h0 hp
        have ek : onOk ok (pFac x s (k + 1)) p = onOk ok (pTest x s) p := by
          cases ok with
          | false => rfl
          | true =>
            rw [Bool.true_and] at q q3
            rw [onOk_t, onOk_t, pFac, q, q3]; rfl
        rw [ek]
        exact ⟨h1, b, f1, t1, u1, u2, v1, fun Q => by
          rw [← g1 Q]
          simp +decide only [Nat.reduceEqDiff, Nat.add_eq_left, Nat.left_eq_add, Nat.reduceAdd, Nat.reduceLeDiff, Nat.reduceMul, Nat.reduceSub, Nat.reduceLT, zlt8, zlt8_, zlt8n, zlt8n_, List.length_cons, List.length_nil, true_or, or_true, false_or, or_false, and_self, and_true, true_and, and_false, false_and, not_false_eq_true, not_true_eq_false, ite_true, ite_false, if_true, if_false, ite_not, zin, zpush_s, zpush_n, kl_int, kl_ref, kl_none, kl_kl, kl_long, kl_null, zT_wI, zT_wJ, zT_wR, zT_wIr, zT_wJr, zT_wRr, zI_wJ, zI_wR, zI_wJr, zI_wRr, zJ_wI, zJ_wR, zJ_wIr, zJ_wRr, zR_wI, zR_wJ, zR_wIr, zR_wJr, zN_wI, zN_wJ, zN_wR, zN_wIr, zN_wJr, zN_wRr, zZ_wI, zZ_wJ, zZ_wR, zZ_wIr, zZ_wJr, zZ_wRr, zI_wI, zJ_wJ, zR_wR, zI_wIr, zJ_wJr, zR_wRr, k823]⟩
