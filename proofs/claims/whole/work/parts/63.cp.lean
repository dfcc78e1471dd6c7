-- needs 62.feed
variable {n D D2 q L c1 c2 c3 a b t s r d K k kd i j ln c m M : Nat} {h h1 h2 : zH} {w w1 : zW0} {sv : Value} {xs : zW0} {py fp fo x y z u v : Int32} {ex : zW0 → Int32}
/-- rows made as other rows -/
def RwA (c b k : Nat) : Prop := (b = c ∧ k = 3) ∨ (c < b ∧ b < c + 4)
theorem c_rcp_lp (hab : c + 4 ≤ b ∨ b + 4 ≤ c) (hm : m ≤ M) (hM : M < 1000) : ∀ (e i : Nat) (h1 : zH), i + e = m → WS h1 c M → WS h1 b M → zI h1 c 3 = nI m → FS (RwA c) h h1 → (∀ k, k < i → zI h1 (c + 1) k = zI h (b + 1) k ∧ zI h1 (c + 2) k = zI h (b + 2) k ∧ zI h1 (c + 3) k = zI h (b + 3) k) → ∃ h2, FS (RwA c) h h2 ∧ zI h2 c 3 = nI m ∧ (∀ k, k < m → zI h2 (c + 1) k = zI h (b + 1) k ∧ zI h2 (c + 2) k = zI h (b + 2) k ∧ zI h2 (c + 3) k = zI h (b + 3) k) ∧ ∀ Q, zG d 304 18 [some (.ref c), some (.ref b), some (.int (nI i))] [] h1 Q = Q none h2
  | 0, i, h1, e, hc, hb, h3, f, hv => by
    have e : i = m := by omega
    subst e
    refine ⟨h1, f, h3, hv, fun Q => ?_⟩
    have p0 := hc.1
    rw [g304_18]
    simp +decide only [Nat.reduceEqDiff, Nat.add_eq_left, Nat.left_eq_add, Nat.reduceAdd, Nat.reduceLeDiff, Nat.reduceMul, Nat.reduceSub, Nat.reduceLT, zlt8, zlt8_, zlt8n, zlt8n_, List.length_cons, List.length_nil, true_or, or_true, false_or, or_false, and_self, and_true, true_and, and_false, false_and, not_false_eq_true, not_true_eq_false, ite_true, ite_false, if_true, if_false, ite_not, zin, zpush_s, zpush_n, kl_int, kl_ref, kl_none, kl_kl, kl_long, kl_null, VR_i, VR_l, zT_wI, zT_wJ, zT_wR, zT_wIr, zT_wJr, zT_wRr, zI_wJ, zI_wR, zI_wJr, zI_wRr, zJ_wI, zJ_wR, zJ_wIr, zJ_wRr, zR_wI, zR_wJ, zR_wIr, zR_wJr, zN_wI, zN_wJ, zN_wR, zN_wIr, zN_wJr, zN_wRr, zZ_wI, zZ_wJ, zZ_wR, zZ_wIr, zZ_wJr, zZ_wRr, zI_wI, zJ_wJ, zR_wR, zI_wIr, zJ_wJr, zR_wRr, g304_0, g304_1, g304_2, g304_5, g304_6, g304_9, g304_10, g304_13, g304_16, g304_17, g304_19, g304_20, g304_23, g304_26, g304_27, g304_30, g304_31, g304_32, g304_35, g304_36, g304_37, g304_38, g304_39, g304_42, g304_43, g304_44, g304_47, g304_48, g304_49, g304_50, g304_51, g304_54, g304_55, g304_56, g304_59, g304_60, g304_61, g304_62, g304_65, g304_68, p0, h3, i_le, Int32.lt_irrefl]
  | e + 1, i, h1, he, hc, hb, h3, f, hv => by
    obtain ⟨p0, p1, p2, p3, p4, p5, p6⟩ := id hc
    obtain ⟨s0, s1, s2, s3, s4, s5, s6⟩ := id hb
    have f1 : FS (RwA c) h1 (wI (wI (wI h1 (c + 1) i (zI h1 (b + 1) i)) (c + 2) i (zI h1 (b + 2) i)) (c + 3) i (zI h1 (b + 3) i)) := FS_t (FS_t (FS_I _ (by unfold RwA; omega)) (FS_I _ (by unfold RwA; omega))) (FS_I _ (by unfold RwA; omega))
    have eb : ∀ j k, 1 ≤ j → j ≤ 3 → zI h1 (b + j) k = zI h (b + j) k := fun j k j1 j2 => f.2.2.2.2.1 _ _ (by unfold RwA; omega)
    obtain ⟨h2, f2, q3, qv, q⟩ := c_rcp_lp hab hm hM e (i + 1) (wI (wI (wI h1 (c + 1) i (zI h1 (b + 1) i)) (c + 2) i (zI h1 (b + 2) i)) (c + 3) i (zI h1 (b + 3) i)) (by omega) hc hb (by rw [zI_wI, if_neg (by omega), zI_wI, if_neg (by omega), zI_wI, if_neg (by omega)]; exact h3) (FS_t f f1) (fun k hk => by
      have a1 : zI (wI (wI (wI h1 (c + 1) i (zI h1 (b + 1) i)) (c + 2) i (zI h1 (b + 2) i)) (c + 3) i (zI h1 (b + 3) i)) (c + 1) k = if k = i then zI h1 (b + 1) i else zI h1 (c + 1) k := by
        rw [zI_wI, if_neg (by omega), zI_wI, if_neg (by omega), zI_wI, if_pos rfl, up_a]
      have a2 : zI (wI (wI (wI h1 (c + 1) i (zI h1 (b + 1) i)) (c + 2) i (zI h1 (b + 2) i)) (c + 3) i (zI h1 (b + 3) i)) (c + 2) k = if k = i then zI h1 (b + 2) i else zI h1 (c + 2) k := by
        simp [zI_wI, up_a]
      have a3 : zI (wI (wI (wI h1 (c + 1) i (zI h1 (b + 1) i)) (c + 2) i (zI h1 (b + 2) i)) (c + 3) i (zI h1 (b + 3) i)) (c + 3) k = if k = i then zI h1 (b + 3) i else zI h1 (c + 3) k := by
        simp [zI_wI, up_a]
      rw [a1, a2, a3]
      by_cases ek : k = i
      · subst ek
        rw [if_pos rfl, if_pos rfl, if_pos rfl]
        exact ⟨eb 1 k (by omega) (by omega), eb 2 k (by omega) (by omega), eb 3 k (by omega) (by omega)⟩
      · rw [if_neg ek, if_neg ek, if_neg ek]
        exact hv k (by omega))
    refine ⟨h2, f2, q3, qv, fun Q => ?_⟩
    have z1 := nI_pos (n := i) (by omega)
    have z2 := nI_clamp (n := i) (by omega)
    have z3 := nI_lt (a := i) (b := m) (by omega) (by omega)
    have ki : nI i + 1 = nI (i + 1) := nI_1 i
    have x1 : (b + 2 = c + 1) = False := by simp; omega
    have x2 : (b + 3 = c + 1) = False := by simp; omega
    have x3 : (b + 3 = c + 2) = False := by simp; omega
    have x4 : (b = c) = False := by simp; omega
    rw [g304_18, ← q Q]
    simp +decide only [Nat.reduceEqDiff, Nat.add_eq_left, Nat.left_eq_add, Nat.reduceAdd, Nat.reduceLeDiff, Nat.reduceMul, Nat.reduceSub, Nat.reduceLT, zlt8, zlt8_, zlt8n, zlt8n_, List.length_cons, List.length_nil, true_or, or_true, false_or, or_false, and_self, and_true, true_and, and_false, false_and, not_false_eq_true, not_true_eq_false, ite_true, ite_false, if_true, if_false, ite_not, zin, zpush_s, zpush_n, kl_int, kl_ref, kl_none, kl_kl, kl_long, kl_null, VR_i, VR_l, zT_wI, zT_wJ, zT_wR, zT_wIr, zT_wJr, zT_wRr, zI_wJ, zI_wR, zI_wJr, zI_wRr, zJ_wI, zJ_wR, zJ_wIr, zJ_wRr, zR_wI, zR_wJ, zR_wIr, zR_wJr, zN_wI, zN_wJ, zN_wR, zN_wIr, zN_wJr, zN_wRr, zZ_wI, zZ_wJ, zZ_wR, zZ_wIr, zZ_wJr, zZ_wRr, zI_wI, zJ_wJ, zR_wR, zI_wIr, zJ_wJr, zR_wRr, g304_0, g304_1, g304_2, g304_5, g304_6, g304_9, g304_10, g304_13, g304_16, g304_17, g304_19, g304_20, g304_23, g304_26, g304_27, g304_30, g304_31, g304_32, g304_35, g304_36, g304_37, g304_38, g304_39, g304_42, g304_43, g304_44, g304_47, g304_48, g304_49, g304_50, g304_51, g304_54, g304_55, g304_56, g304_59, g304_60, g304_61, g304_62, g304_65, g304_68, p0, p1, p2, p3, p4, p5, p6, s0, s1, s2, s3, s4, s5, s6, h3, i_le, z1, z2, z3, ki, x1, x2, x3, x4, show i < M by omega]
theorem c_rcopy (hab : c + 4 ≤ b ∨ b + 4 ≤ c) (hm : m ≤ M) (hM : M < 1000) (hc : WS h c M) (hb : WS h b M) (e3 : zI h b 3 = nI m) : ∃ h2, FS (RwA c) h h2 ∧ zI h2 c 3 = nI m ∧ (∀ k, k < m → zI h2 (c + 1) k = zI h (b + 1) k ∧ zI h2 (c + 2) k = zI h (b + 2) k ∧ zI h2 (c + 3) k = zI h (b + 3) k) ∧ ∀ Q, zCall (d + 1) 304 [.ref c, .ref b] h Q = Q none h2 := by
  have f : FS (RwA c) h (wI h c 3 (nI m)) := FS_I _ (by unfold RwA; omega)
  obtain ⟨h2, f2, q3, qv, q⟩ := c_rcp_lp (h := h) (d := d) hab hm hM m 0 (wI h c 3 (nI m)) (by omega) hc hb (by rw [zI_wI, if_pos rfl, up_s]) f (fun k hk => by omega)
  refine ⟨h2, f2, q3, qv, fun Q => ?_⟩
  obtain ⟨p0, p1, p2, p3, p4, p5, p6⟩ := id hc
  obtain ⟨s0, s1, s2, s3, s4, s5, s6⟩ := id hb
  have zm : zmin (nI m) (Int32.ofNat M) = nI m := by
    show zmin (nI m) (nI M) = nI m
    unfold zmin
    by_cases e : m = M
    · subst e; simp
    · have := nI_lt (a := m) (b := M) (by omega) (by omega)
      rw [if_neg (Int32.not_lt.mpr (Int32.le_of_lt this))]
  have q' : ∀ Q, zG d 304 18 [some (.ref c), some (.ref b), some (.int 0)] [] (wI h c 3 (nI m)) Q = Q none h2 := q
  simp +decide only [Nat.reduceEqDiff, Nat.add_eq_left, Nat.left_eq_add, Nat.reduceAdd, Nat.reduceLeDiff, Nat.reduceMul, Nat.reduceSub, Nat.reduceLT, zlt8, zlt8_, zlt8n, zlt8n_, List.length_cons, List.length_nil, true_or, or_true, false_or, or_false, and_self, and_true, true_and, and_false, false_and, not_false_eq_true, not_true_eq_false, ite_true, ite_false, if_true, if_false, ite_not, zin, zpush_s, zpush_n, kl_int, kl_ref, kl_none, kl_kl, kl_long, kl_null, VR_i, VR_l, zT_wI, zT_wJ, zT_wR, zT_wIr, zT_wJr, zT_wRr, zI_wJ, zI_wR, zI_wJr, zI_wRr, zJ_wI, zJ_wR, zJ_wIr, zJ_wRr, zR_wI, zR_wJ, zR_wIr, zR_wJr, zN_wI, zN_wJ, zN_wR, zN_wIr, zN_wJr, zN_wRr, zZ_wI, zZ_wJ, zZ_wR, zZ_wIr, zZ_wJr, zZ_wRr, zI_wI, zJ_wJ, zR_wR, zI_wIr, zJ_wJr, zR_wRr, k304, g304_0, g304_1, g304_2, g304_5, g304_6, g304_9, g304_10, g304_13, g304_16, g304_17, g304_19, g304_20, g304_23, g304_26, g304_27, g304_30, g304_31, g304_32, g304_35, g304_36, g304_37, g304_38, g304_39, g304_42, g304_43, g304_44, g304_47, g304_48, g304_49, g304_50, g304_51, g304_54, g304_55, g304_56, g304_59, g304_60, g304_61, g304_62, g304_65, g304_68, p0, p1, p4, s0, e3, zm, q']
def NA (a b k : Nat) : Prop := ((b = a + 1 ∨ b = a + 5 ∨ b = a + 9) ∧ k = 3) ∨ (a + 1 < b ∧ b < a + 13 ∧ ¬ b = a + 5 ∧ ¬ b = a + 9)
theorem RwA_NA (c b k : Nat) (hc : c = a + 1 ∨ c = a + 5 ∨ c = a + 9) (z : RwA c b k) : NA a b k := by unfold RwA at z; unfold NA; omega
theorem c_ncopy (hab : a + 13 ≤ b ∨ b + 13 ≤ a) (hA : NS h a) (hB : NS h b) (r : NR h b w c1 c2 c3) (p1 : c1 ≤ 5) (p2 : c2 ≤ 10) (p3 : c3 ≤ 8) : ∃ h2, FS (NA a) h h2 ∧ NR h2 a w c1 c2 c3 ∧ ∀ Q, zCall (d + 2) 102 [.ref a, .ref b] h Q = Q none h2 := by
  obtain ⟨r1, r2, r3, r4, r5, r6⟩ := r
  obtain ⟨a1, a2, a3, a4, a5, a6, a7⟩ := id hA
  obtain ⟨b1, b2, b3, b4, b5, b6, b7⟩ := id hB
  obtain ⟨h3, f3, s3, v3, q3⟩ := c_rcopy (d := d) (c := a + 1) (b := b + 1) (by omega) p1 (by omega) a5 b5 r1
  have g3 := FS_m (fun b k z => RwA_NA (a := a) _ b k (by omega) z) f3
  have hA3 := NS_f g3 (fun c k hc hk => by unfold NA; omega) hA
  have hB3 := NS_f g3 (fun c k hc hk => by unfold NA; omega) hB
  obtain ⟨h4, f4, s4, v4, q4⟩ := c_rcopy (d := d) (c := a + 5) (b := b + 5) (by omega) p2 (by omega) hA3.2.2.2.2.2.1 hB3.2.2.2.2.2.1 ((f3.2.2.2.2.1 _ _ (by unfold RwA; omega)).trans r3)
  have g4 := FS_m (fun b k z => RwA_NA (a := a) _ b k (by omega) z) f4
  have hA4 := NS_f g4 (fun c k hc hk => by unfold NA; omega) hA3
  have hB4 := NS_f g4 (fun c k hc hk => by unfold NA; omega) hB3
  obtain ⟨h5, f5, s5, v5, q5⟩ := c_rcopy (d := d) (c := a + 9) (b := b + 9) (by omega) p3 (by omega) hA4.2.2.2.2.2.2 hB4.2.2.2.2.2.2 ((f4.2.2.2.2.1 _ _ (by unfold RwA; omega)).trans ((f3.2.2.2.2.1 _ _ (by unfold RwA; omega)).trans r5))
  have g5 := FS_m (fun b k z => RwA_NA (a := a) _ b k (by omega) z) f5
  refine ⟨h5, FS_t g3 (FS_t g4 g5), ⟨?_, fun i hi => ?_, ?_, fun i hi => ?_, s5, fun i hi => ?_⟩, fun Q => ?_⟩
  · rw [f5.2.2.2.2.1 _ _ (by unfold RwA; omega), f4.2.2.2.2.1 _ _ (by unfold RwA; omega)]; exact s3
  · obtain ⟨x1, x2, x3⟩ := v3 i hi
    obtain ⟨y1, y2, y3⟩ := r2 i hi
    refine ⟨?_, ?_, ?_⟩ <;> rw [f5.2.2.2.2.1 _ _ (by unfold RwA; omega), f4.2.2.2.2.1 _ _ (by unfold RwA; omega)]
    · exact x1.trans y1
    · exact x2.trans y2
    · exact x3.trans y3
  · rw [f5.2.2.2.2.1 _ _ (by unfold RwA; omega)]; exact s4
  · obtain ⟨x1, x2, x3⟩ := v4 i hi
    obtain ⟨y1, y2⟩ := r4 i hi
    refine ⟨?_, ?_⟩ <;> rw [f5.2.2.2.2.1 _ _ (by unfold RwA; omega)]
    · exact x1.trans ((f3.2.2.2.2.1 _ _ (by unfold RwA; omega)).trans y1)
    · exact x2.trans ((f3.2.2.2.2.1 _ _ (by unfold RwA; omega)).trans y2)
  · obtain ⟨x1, x2, x3⟩ := v5 i hi
    obtain ⟨y1, y2⟩ := r6 i hi
    refine ⟨x1.trans ?_, x2.trans ?_⟩
    · exact (f4.2.2.2.2.1 _ _ (by unfold RwA; omega)).trans ((f3.2.2.2.2.1 _ _ (by unfold RwA; omega)).trans y1)
    · exact (f4.2.2.2.2.1 _ _ (by unfold RwA; omega)).trans ((f3.2.2.2.2.1 _ _ (by unfold RwA; omega)).trans y2)
  · have t1 := a5.1
    have t2 := a6.1
    have t3 := a7.1
    have tt3 := f3.1
    have tt4 := f4.1
    obtain ⟨i1, i2, i3, i4, i5, i6, i7⟩ := id hA3
    obtain ⟨u1, u2, u3, u4, u5, u6, u7⟩ := id hB3
    obtain ⟨o1, o2, o3, o4, o5, o6, o7⟩ := id hA4
    obtain ⟨l1, l2, l3, l4, l5, l6, l7⟩ := id hB4
    have y1 := i6.1
    have y2 := o7.1
    simp +decide only [Nat.reduceEqDiff, Nat.add_eq_left, Nat.left_eq_add, Nat.reduceAdd, Nat.reduceLeDiff, Nat.reduceMul, Nat.reduceSub, Nat.reduceLT, zlt8, zlt8_, zlt8n, zlt8n_, List.length_cons, List.length_nil, true_or, or_true, false_or, or_false, and_self, and_true, true_and, and_false, false_and, not_false_eq_true, not_true_eq_false, ite_true, ite_false, if_true, if_false, ite_not, zin, zpush_s, zpush_n, kl_int, kl_ref, kl_none, kl_kl, kl_long, kl_null, VR_i, VR_l, zT_wI, zT_wJ, zT_wR, zT_wIr, zT_wJr, zT_wRr, zI_wJ, zI_wR, zI_wJr, zI_wRr, zJ_wI, zJ_wR, zJ_wIr, zJ_wRr, zR_wI, zR_wJ, zR_wIr, zR_wJr, zN_wI, zN_wJ, zN_wR, zN_wIr, zN_wJr, zN_wRr, zZ_wI, zZ_wJ, zZ_wR, zZ_wIr, zZ_wJr, zZ_wRr, zI_wI, zJ_wJ, zR_wR, zI_wIr, zJ_wJr, zR_wRr, k102, g102_0, g102_1, g102_4, g102_5, g102_8, g102_11, g102_12, g102_15, g102_16, g102_19, g102_22, g102_23, g102_26, g102_27, g102_30, g102_33, a1, a2, b1, b2, t1, q3, i1, i3, u1, u3, y1, q4, o1, o4, l1, l4, y2, q5]
