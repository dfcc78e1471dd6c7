-- needs 33.mdays3
/-! what is only asked, on the class's side: it happens on the trial (15) -/
def TS (h : zH) : Prop := zT h 0 = (7, 10) ∧ zR h 0 0 = .ref 1 ∧ zR h 0 1 = .ref 15 ∧ zR h 0 2 = .ref 29 ∧ zR h 0 3 = .ref 43 ∧ zR h 0 4 = .ref 56 ∧ zR h 0 6 = .ref 69 ∧ zR h 0 8 = .ref 73 ∧ zR h 0 9 = .ref 75
theorem TS_f {S : Nat → Nat → Prop} {h h1 : zH} (hS : ∀ k, ¬ S 0 k) (f : FS S h h1) (m : TS h) : TS h1 := by
  have e : ∀ k, zR h1 0 k = zR h 0 k := fun k => f.2.2.2.2.2 _ _ (hS k)
  unfold TS at m ⊢
  simp only [f.1, e]
  exact m
theorem SR_A (a b k : Nat) : SR a b k → RA a b k := by unfold SR RA; omega
def CQ (h : zH) (n D : Nat) (w : zW0) (py : Int32) (ex : zW0 → Int32) (sv : Value) : Prop := TS h ∧ RS h 1 ∧ RS h 15 ∧ Rv h 1 n w (-1) sv ∧ sOK w n D ∧ D ≤ 9999 ∧ Se h sv py ex
variable {d a b n t D D2 K : Nat} {h : zH} {w w2 : zW0} {fo fp x y z py p : Int32} {sv : Value} {ex : zW0 → Int32}
theorem CQ_f {h1 : zH} (f : FS (RA 15) h h1) (c : CQ h n D w py ex sv) : CQ h1 n D w py ex sv := by
  obtain ⟨c1, c2, c3, c4, c5, c6, c7⟩ := c
  exact ⟨TS_f (fun k => by unfold RA; omega) f c1, RS_A f c2 (by omega), RS_A f c3 (by omega), Rv_f (fun c k z => by unfold RA at z; omega) f c5.2.1 c4, c5, c6, Se_f (fun b k z => by unfold RA at z; omega) f c7⟩
theorem Se_v (s : Se h sv py ex) : sv = .null ∨ ∃ s, sv = .ref s := by
  rcases s with ⟨e, -⟩ | ⟨s, c, L, e, -⟩
  · exact Or.inl e
  · exact Or.inr ⟨s, e⟩
theorem Rv_fp (hv : Rv h a n w fp sv) (hn : n ≤ 6) : Rv (wI h a 11 x) a n w x sv := by
  obtain ⟨v1, v2, v3, v4, v5, v6⟩ := hv
  have e : ∀ k, ¬ k = 11 → zI (wI h a 11 x) a k = zI h a k := fun k hk => by rw [zI_wI, if_pos rfl, up_n _ _ hk]
  refine ⟨by rw [e _ (by omega)]; exact v1, by rw [e _ (by omega)]; exact v2, by rw [e _ (by omega)]; exact v3, by rw [zI_wI, if_pos rfl, up_s], v5, fun s hs => Rt_other rfl (v6 s hs) (fun i hi => rfl) (by omega)⟩
/-- the trial is made as the road -/
theorem c_copyT (c : CQ h n D w py ex sv) : ∃ h1, FS (RA 15) h h1 ∧ Rv h1 15 n w (-1) sv ∧ ∀ Q, zCall (d + 1) 202 [.ref 15, .ref 1] h Q = Q none h1 := by
  obtain ⟨c1, c2, c3, c4, c5, c6, c7⟩ := c
  exact c_copy (d := d) (a := 15) (b := 1) (by omega) c3 c2 c4 c5 (Se_v c7)
/-- and goes on -/
theorem c_goT {h1 : zH} (c : CQ h1 n D w py ex sv) (hv : Rv h1 15 n w2 fp sv) (hw : sOK w2 n D2) (hK : K ≤ 60) (hD : D2 ≤ 20000) (hp : (if fp < 0 then py else fp) = p) : ∃ h2, FS (RA 15) h1 h2 ∧ Rv h2 15 n (sDays p ex n K w2) fp sv ∧ ∀ Q, zCall (d + 5) 210 [.ref 15, .int (nI K)] h1 Q = Q none h2 := by
  obtain ⟨c1, c2, c3, c4, c5, c6, c7⟩ := c
  obtain ⟨h2, f, v, g⟩ := c_goOn (d := d) (a := 15) (D := D2) (K := K) (by omega) (by omega) (by omega) c3 hv hw c7 hp
  exact ⟨h2, FS_m (SR_A 15) f, v, g⟩
theorem c_there (c : CQ h n D w py ex sv) (Q : zQq) : zCall (d + 2) 743 [.ref 0, .int x] h Q = Q (some (.int (bI (sIs n x)))) h := by
  obtain ⟨c1, c2, c3, c4, c5, c6, c7⟩ := c
  exact c_isThere c1.1 c1.2.1 c2 c4 c5.2.1 Q
/-! on -/
def vOn (n : Nat) (y : Int32) : Prop := (¬ y < 0 ∧ ¬ 1 < y) ∨ sIs n (y - 10) ∨ sIs n (y - 20)
def aOn (v : zW0) (n : Nat) (y : Int32) : Int32 := if y = 0 then v 61 else if y = 1 then sAt v n 10 else if y < 20 then v (10 * (y - 10).toNatClampNeg + 3) else v (10 * (y - 20).toNatClampNeg + 5)
theorem i01 {y : Int32} (h : ¬ y < 0) (h1 : ¬ 1 < y) : y = 0 ∨ y = 1 := by
  obtain ⟨j, hj, rfl⟩ := nI_of h
  rw [← i_le] at h1
  have := (nI_leI hj (b := 1) (by omega)).mp h1
  rcases (by omega : j = 0 ∨ j = 1) with rfl | rfl
  · exact Or.inl rfl
  · exact Or.inr rfl
theorem sub_c {y : Int32} {t c : Nat} (h : y - nI c = nI t) : y = nI (c + t) := by
  have : y = y - nI c + nI c := by simp
  rw [this, h, nI_add, Nat.add_comm]
theorem on_cases {y : Int32} (h : vOn n y) : y = 0 ∨ y = 1 ∨ (∃ t, t < n ∧ y = nI (10 + t)) ∨ ∃ t, t < n ∧ y = nI (20 + t) := by
  rcases h with ⟨h1, h2⟩ | ⟨t, ht, e⟩ | ⟨t, ht, e⟩
  · rcases i01 h1 h2 with h | h
    · exact Or.inl h
    · exact Or.inr (Or.inl h)
  · exact Or.inr (Or.inr (Or.inl ⟨t, ht, sub_c (c := 10) e⟩))
  · exact Or.inr (Or.inr (Or.inr ⟨t, ht, sub_c (c := 20) e⟩))
theorem sIs_nI {j : Nat} (hn : n ≤ 6) (hj : j < 2 ^ 31) : sIs n (nI j) = (j < n) := by
  refine propext ⟨fun ⟨t, ht, e⟩ => ?_, fun h => ⟨j, h, rfl⟩⟩
  rw [nI_eq hj (by omega)] at e
  omega
theorem nI_subc (c t : Nat) : nI (c + t) - nI c = nI t := by rw [pk_sub (by omega), Nat.add_sub_cancel_left]
theorem c_on (c : CQ h n D w py ex sv) (hy : vOn n y) (hK : K ≤ 60) : ∃ h1, FS (RA 15) h h1 ∧ ∀ Q, zCall (d + 6) 712 [.ref 0, .int (nI K), .int y] h Q = Q (some (.int (aOn (sDays py ex n K w) n y))) h1 := by
  obtain ⟨h1, f1, v1, c1⟩ := c_copyT (d := d + 4) c
  have C1 := CQ_f f1 c
  obtain ⟨h2, f2, v2, c2⟩ := c_goT (d := d) (K := K) (p := py) C1 v1 c.2.2.2.2.1 hK (by have := c.2.2.2.2.2.1; omega) rfl
  have C2 := CQ_f f2 C1
  have ct : ∀ x Q, zCall (d + 5) 743 [.ref 0, .int x] h Q = Q (some (.int (bI (sIs n x)))) h := fun x Q => c_there c Q
  have cb : ∀ x Q, zCall (d + 5) 208 [.ref 15, .int x] h2 Q = Q (some (.int (sAt (sDays py ex n K w) n x))) h2 := fun x Q => c_bitsAt C2.2.2.1 v2 c.2.2.2.2.1.2.1 Q
  refine ⟨h2, FS_t f1 f2, fun Q => ?_⟩
  have hn := c.2.2.2.2.1.2.1
  obtain ⟨k0, j0, j1, j2, j3, j4, j6, j8, j9⟩ := c.1
  obtain ⟨-, i0, i1, -⟩ := C1.1
  obtain ⟨l0, -, l1, -⟩ := C2.1
  have k1 := C1.1.1
  have p0 := c.2.1.1
  have p1 := c.2.2.1.1
  have p2 := C1.2.2.1.1
  have i1 : zR h1 0 1 = .ref 15 := C1.1.2.2.1
  have z1 : ¬ nI K < 0 := nI_pos (by omega)
  have z2 : ¬ 60 < nI K := nI_nlt (a := 60) (by omega) (by omega)
  have z2' : nI K ≤ 60 := nI_le (b := 60) (by omega) (by omega)
  obtain ⟨q0, q1, q2, q3, q4, q5, q6, q7, r0, r1, r2, r3, r4, r5, r6, r7⟩ := C2.2.2.1
  obtain ⟨v1, v2, v3, v4, v5, v6⟩ := v2
  rcases on_cases hy with rfl | rfl | ⟨t, ht, rfl⟩ | ⟨t, ht, rfl⟩
  · simp +decide only [Nat.reduceEqDiff, Nat.add_eq_left, Nat.left_eq_add, Nat.reduceAdd, Nat.reduceLeDiff, Nat.reduceMul, Nat.reduceSub, Nat.reduceLT, zlt8, zlt8_, zlt8n, zlt8n_, List.length_cons, List.length_nil, true_or, or_true, false_or, or_false, and_self, and_true, true_and, and_false, false_and, not_false_eq_true, not_true_eq_false, ite_true, ite_false, if_true, if_false, ite_not, zin, zpush_s, zpush_n, kl_int, kl_ref, kl_none, kl_kl, kl_long, kl_null, zT_wI, zT_wJ, zT_wR, zT_wIr, zT_wJr, zT_wRr, zI_wJ, zI_wR, zI_wJr, zI_wRr, zJ_wI, zJ_wR, zJ_wIr, zJ_wRr, zR_wI, zR_wJ, zR_wIr, zR_wJr, zN_wI, zN_wJ, zN_wR, zN_wIr, zN_wJr, zN_wRr, zZ_wI, zZ_wJ, zZ_wR, zZ_wIr, zZ_wJr, zZ_wRr, zI_wI, zJ_wJ, zR_wR, zI_wIr, zJ_wJr, zR_wRr, k712, g712_0, g712_1, g712_3, g712_6, g712_7, g712_8, g712_10, g712_11, g712_14, g712_17, g712_18, g712_21, g712_22, g712_23, g712_24, g712_26, g712_29, g712_30, g712_31, g712_33, g712_34, g712_37, g712_40, g712_41, g712_44, g712_45, g712_47, g712_48, g712_49, g712_52, g712_55, g712_56, g712_59, g712_61, g712_64, g712_65, g712_66, g712_67, g712_69, g712_72, g712_75, g712_77, g712_78, g712_79, g712_82, g712_83, g712_86, g712_89, g712_90, g712_93, g712_94, g712_97, g712_98, g712_101, g712_102, g712_105, g712_108, g712_109, g712_111, g712_112, g712_113, g712_114, g712_116, g712_119, g712_120, g712_123, g712_126, g712_127, g712_129, g712_130, g712_131, g712_132, g712_133, g712_136, g712_137, g712_140, g712_143, g712_146, g712_147, g712_150, g712_152, g712_155, k0, j0, j1, j2, j3, j4, j6, j8, j9, c_within, c1, c2, i1, k1, l0, l1, p0, p1, p2, z1, z2', i_le, bI, z2, ct, q0, q1, q2, q3, q4, q5, q6, q7, r0, r1, r2, r3, r4, r5, r6, v2, aOn]
  · simp +decide only [Nat.reduceEqDiff, Nat.add_eq_left, Nat.left_eq_add, Nat.reduceAdd, Nat.reduceLeDiff, Nat.reduceMul, Nat.reduceSub, Nat.reduceLT, zlt8, zlt8_, zlt8n, zlt8n_, List.length_cons, List.length_nil, true_or, or_true, false_or, or_false, and_self, and_true, true_and, and_false, false_and, not_false_eq_true, not_true_eq_false, ite_true, ite_false, if_true, if_false, ite_not, zin, zpush_s, zpush_n, kl_int, kl_ref, kl_none, kl_kl, kl_long, kl_null, zT_wI, zT_wJ, zT_wR, zT_wIr, zT_wJr, zT_wRr, zI_wJ, zI_wR, zI_wJr, zI_wRr, zJ_wI, zJ_wR, zJ_wIr, zJ_wRr, zR_wI, zR_wJ, zR_wIr, zR_wJr, zN_wI, zN_wJ, zN_wR, zN_wIr, zN_wJr, zN_wRr, zZ_wI, zZ_wJ, zZ_wR, zZ_wIr, zZ_wJr, zZ_wRr, zI_wI, zJ_wJ, zR_wR, zI_wIr, zJ_wJr, zR_wRr, k712, g712_0, g712_1, g712_3, g712_6, g712_7, g712_8, g712_10, g712_11, g712_14, g712_17, g712_18, g712_21, g712_22, g712_23, g712_24, g712_26, g712_29, g712_30, g712_31, g712_33, g712_34, g712_37, g712_40, g712_41, g712_44, g712_45, g712_47, g712_48, g712_49, g712_52, g712_55, g712_56, g712_59, g712_61, g712_64, g712_65, g712_66, g712_67, g712_69, g712_72, g712_75, g712_77, g712_78, g712_79, g712_82, g712_83, g712_86, g712_89, g712_90, g712_93, g712_94, g712_97, g712_98, g712_101, g712_102, g712_105, g712_108, g712_109, g712_111, g712_112, g712_113, g712_114, g712_116, g712_119, g712_120, g712_123, g712_126, g712_127, g712_129, g712_130, g712_131, g712_132, g712_133, g712_136, g712_137, g712_140, g712_143, g712_146, g712_147, g712_150, g712_152, g712_155, k0, j0, j1, j2, j3, j4, j6, j8, j9, c_within, c1, c2, i1, k1, l0, l1, p0, p1, p2, z1, z2', i_le, bI, z2, ct, q0, q1, q2, q3, q4, q5, q6, q7, r0, r1, r2, r3, r4, r5, r6, v2, aOn, cb]
  · obtain ⟨u1, u2, u3, u4, u5, u6, u7⟩ := v6 t ht
    have y1 : ¬ nI (10 + t) < 10 := nI_nlt (b := 10) (by omega) (by omega)
    have y2 : nI (10 + t) < 20 := nI_lt (b := 20) (by omega) (by omega)
    have y3 : nI (10 + t) - 10 = nI t := nI_subc 10 t
    have y4 := sIs_nI (n := n) (j := t) hn (by omega)
    have y5 := nI_pos (n := t) (by omega)
    have y6 := nI_clamp (n := t) (by omega)
    have y7 := nI_pos (n := 10 + t) (by omega)
    have y8 : ¬ nI (10 + t) = 0 := nI_ne0 (by omega) (by omega)
    have y9 : ¬ nI (10 + t) = 1 := fun e => by have := (nI_eq (b := 1) (by omega) (by omega)).mp e; omega
    have ya : 1 < nI (10 + t) := nI_lt (a := 1) (by omega) (by omega)
    simp +decide only [Nat.reduceEqDiff, Nat.add_eq_left, Nat.left_eq_add, Nat.reduceAdd, Nat.reduceLeDiff, Nat.reduceMul, Nat.reduceSub, Nat.reduceLT, zlt8, zlt8_, zlt8n, zlt8n_, List.length_cons, List.length_nil, true_or, or_true, false_or, or_false, and_self, and_true, true_and, and_false, false_and, not_false_eq_true, not_true_eq_false, ite_true, ite_false, if_true, if_false, ite_not, zin, zpush_s, zpush_n, kl_int, kl_ref, kl_none, kl_kl, kl_long, kl_null, zT_wI, zT_wJ, zT_wR, zT_wIr, zT_wJr, zT_wRr, zI_wJ, zI_wR, zI_wJr, zI_wRr, zJ_wI, zJ_wR, zJ_wIr, zJ_wRr, zR_wI, zR_wJ, zR_wIr, zR_wJr, zN_wI, zN_wJ, zN_wR, zN_wIr, zN_wJr, zN_wRr, zZ_wI, zZ_wJ, zZ_wR, zZ_wIr, zZ_wJr, zZ_wRr, zI_wI, zJ_wJ, zR_wR, zI_wIr, zJ_wJr, zR_wRr, k712, g712_0, g712_1, g712_3, g712_6, g712_7, g712_8, g712_10, g712_11, g712_14, g712_17, g712_18, g712_21, g712_22, g712_23, g712_24, g712_26, g712_29, g712_30, g712_31, g712_33, g712_34, g712_37, g712_40, g712_41, g712_44, g712_45, g712_47, g712_48, g712_49, g712_52, g712_55, g712_56, g712_59, g712_61, g712_64, g712_65, g712_66, g712_67, g712_69, g712_72, g712_75, g712_77, g712_78, g712_79, g712_82, g712_83, g712_86, g712_89, g712_90, g712_93, g712_94, g712_97, g712_98, g712_101, g712_102, g712_105, g712_108, g712_109, g712_111, g712_112, g712_113, g712_114, g712_116, g712_119, g712_120, g712_123, g712_126, g712_127, g712_129, g712_130, g712_131, g712_132, g712_133, g712_136, g712_137, g712_140, g712_143, g712_146, g712_147, g712_150, g712_152, g712_155, k0, j0, j1, j2, j3, j4, j6, j8, j9, c_within, c1, c2, i1, k1, l0, l1, p0, p1, p2, z1, z2', i_le, bI, z2, ct, q0, q1, q2, q3, q4, q5, q6, q7, r0, r1, r2, r3, r4, r5, r6, aOn, y1, y2, y3, y4, ht, y5, y6, y7, y8, y9, ya, u4, show t < 6 by omega]
  · obtain ⟨u1, u2, u3, u4, u5, u6, u7⟩ := v6 t ht
    have y1 : ¬ nI (20 + t) < 10 := nI_nlt (b := 10) (by omega) (by omega)
    have y2 : ¬ nI (20 + t) < 20 := nI_nlt (b := 20) (by omega) (by omega)
    have y3 : nI (20 + t) - 20 = nI t := nI_subc 20 t
    have y3' : nI (20 + t) - 10 = nI (10 + t) := by rw [show 20 + t = 10 + (10 + t) by omega]; exact nI_subc 10 (10 + t)
    have y4 := sIs_nI (n := n) (j := t) hn (by omega)
    have y4' := sIs_nI (n := n) (j := 10 + t) hn (by omega)
    have y5 := nI_pos (n := t) (by omega)
    have y6 := nI_clamp (n := t) (by omega)
    have y7 := nI_pos (n := 20 + t) (by omega)
    have y8 : ¬ nI (20 + t) = 0 := nI_ne0 (by omega) (by omega)
    have y9 : ¬ nI (20 + t) = 1 := fun e => by have := (nI_eq (b := 1) (by omega) (by omega)).mp e; omega
    have ya : 1 < nI (20 + t) := nI_lt (a := 1) (by omega) (by omega)
    simp +decide only [Nat.reduceEqDiff, Nat.add_eq_left, Nat.left_eq_add, Nat.reduceAdd, Nat.reduceLeDiff, Nat.reduceMul, Nat.reduceSub, Nat.reduceLT, zlt8, zlt8_, zlt8n, zlt8n_, List.length_cons, List.length_nil, true_or, or_true, false_or, or_false, and_self, and_true, true_and, and_false, false_and, not_false_eq_true, not_true_eq_false, ite_true, ite_false, if_true, if_false, ite_not, zin, zpush_s, zpush_n, kl_int, kl_ref, kl_none, kl_kl, kl_long, kl_null, zT_wI, zT_wJ, zT_wR, zT_wIr, zT_wJr, zT_wRr, zI_wJ, zI_wR, zI_wJr, zI_wRr, zJ_wI, zJ_wR, zJ_wIr, zJ_wRr, zR_wI, zR_wJ, zR_wIr, zR_wJr, zN_wI, zN_wJ, zN_wR, zN_wIr, zN_wJr, zN_wRr, zZ_wI, zZ_wJ, zZ_wR, zZ_wIr, zZ_wJr, zZ_wRr, zI_wI, zJ_wJ, zR_wR, zI_wIr, zJ_wJr, zR_wRr, k712, g712_0, g712_1, g712_3, g712_6, g712_7, g712_8, g712_10, g712_11, g712_14, g712_17, g712_18, g712_21, g712_22, g712_23, g712_24, g712_26, g712_29, g712_30, g712_31, g712_33, g712_34, g712_37, g712_40, g712_41, g712_44, g712_45, g712_47, g712_48, g712_49, g712_52, g712_55, g712_56, g712_59, g712_61, g712_64, g712_65, g712_66, g712_67, g712_69, g712_72, g712_75, g712_77, g712_78, g712_79, g712_82, g712_83, g712_86, g712_89, g712_90, g712_93, g712_94, g712_97, g712_98, g712_101, g712_102, g712_105, g712_108, g712_109, g712_111, g712_112, g712_113, g712_114, g712_116, g712_119, g712_120, g712_123, g712_126, g712_127, g712_129, g712_130, g712_131, g712_132, g712_133, g712_136, g712_137, g712_140, g712_143, g712_146, g712_147, g712_150, g712_152, g712_155, k0, j0, j1, j2, j3, j4, j6, j8, j9, c_within, c1, c2, i1, k1, l0, l1, p0, p1, p2, z1, z2', i_le, bI, z2, ct, q0, q1, q2, q3, q4, q5, q6, q7, r0, r1, r2, r3, r4, r5, r6, aOn, y1, y2, y3, y3', y4, y4', ht, y5, y6, y7, y8, y9, ya, u6, show t < 6 by omega, show ¬ 10 + t < n by omega]
