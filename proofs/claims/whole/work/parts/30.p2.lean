-- needs 30.p1
variable {d a b n t D K s p wv : Nat} {h h1 : zH} {w x nm : zW0} {c : Int32} {ok : Bool}
/-- a method of the parser reads as F does -/
def Imp (x nm : zW0) (s : Nat) (y D wv : Nat) (F : Nat → Nat × Option pE) : Prop := ∀ (d : Nat) (h : zH) (p : Nat) (ok : Bool), PQ h x s nm → St h p ok wv → p ≤ s → ∃ h1 b, FS S4 h h1 ∧ St h1 (onOk ok F p).1 (onOk ok F p).2.isSome wv ∧ p ≤ (onOk ok F p).1 ∧ (onOk ok F p).1 ≤ s ∧ (∀ e, (onOk ok F p).2 = some e → b = e.2 nm) ∧ ∀ Q, zCall (d + D) y [.ref 88] h Q = Q (some (.int (bB b))) h1
def lix (c : Int32) : Nat := if c = 112 then 0 else if c = 107 then 1 else if c = 118 then 2 else if c = 119 then 3 else if c = 116 then 4 else 5
/-- the last of a row's letters that stands there -/
def fnd (x : zW0) (s p : Nat) (ok : Bool) (a : Nat) (k : Nat) (v : Int32) : Int32 := if (ok && tk x s ((mcK a).getD k 0) p) = true then nI k else v
theorem r_test_lp (m : PQ h x s nm) (h0 : St h p ok wv) (hp : p ≤ s) (Q : zQq) : ∀ (k j : Nat) (v : Int32), j + k = 6 → zG (d + 1) 822 4 [some (.ref 88), some (.int v), some (.int (nI j)), none] [] h Q = zG (d + 1) 822 35 [some (.ref 88), some (.int (lp (fnd x s p ok 97) k j v)), some (.int 6), none] [] h Q
  | 0, j, v, e => by
    have e : j = 6 := by omega
    subst e
    rw [g822_4]
    simp +decide only [Nat.reduceEqDiff, Nat.add_eq_left, Nat.left_eq_add, Nat.reduceAdd, Nat.reduceLeDiff, Nat.reduceMul, Nat.reduceSub, Nat.reduceLT, zlt8, zlt8_, zlt8n, zlt8n_, List.length_cons, List.length_nil, true_or, or_true, false_or, or_false, and_self, and_true, true_and, and_false, false_and, not_false_eq_true, not_true_eq_false, ite_true, ite_false, if_true, if_false, ite_not, zin, zpush_s, zpush_n, kl_int, kl_ref, kl_none, kl_kl, kl_long, kl_null, zT_wI, zT_wJ, zT_wR, zT_wIr, zT_wJr, zT_wRr, zI_wJ, zI_wR, zI_wJr, zI_wRr, zJ_wI, zJ_wR, zJ_wIr, zJ_wRr, zR_wI, zR_wJ, zR_wIr, zR_wJr, zN_wI, zN_wJ, zN_wR, zN_wIr, zN_wJr, zN_wRr, zZ_wI, zZ_wJ, zZ_wR, zZ_wIr, zZ_wJr, zZ_wRr, zI_wI, zJ_wJ, zR_wR, zI_wIr, zJ_wJr, zR_wRr, g822_5, g822_7, show (6 : Int32) ≤ nI 6 by decide, lp_0]
    rfl
  | k + 1, j, v, e => by
    have ih := r_test_lp m h0 hp Q k (j + 1) (fnd x s p ok 97 j v) (by omega)
    have ci : ∀ c Q, zCall (d + 1) 818 [.ref 88, .int c] h Q = Q (some (.int (bB (ok && tk x s c p)))) h := fun c Q => r_isAt m h0 hp Q
    have el : zI h 97 j = (mcK 97).getD j 0 := m.1.2 97 (by omega) (by omega) j (by show j < 6; omega)
    have z : ¬ (6 : Int32) ≤ nI j := by rw [i_le]; exact Classical.not_not.mpr (nI_lt (b := 6) (by omega) (by omega))
    have z2 := nI_pos (n := j) (by omega)
    have z3 := nI_clamp (n := j) (by omega)
    obtain ⟨m88, m89, m90, m91, m92, m93, m94, m95, m96, m97, m98, m99, m100, m101, m102, m103, m104, m105, m106, n0, n1, n2, n5, n7, n8, n10, n17, n18, n19, n20, n21, n22, n23, n25, n26, n27, n28⟩ := m.1.1
    rw [lp_s, ← ih, g822_4]
    unfold fnd
    cases q : (ok && tk x s ((mcK 97).getD j 0) p) <;> simp +decide only [Nat.reduceEqDiff, Nat.add_eq_left, Nat.left_eq_add, Nat.reduceAdd, Nat.reduceLeDiff, Nat.reduceMul, Nat.reduceSub, Nat.reduceLT, zlt8, zlt8_, zlt8n, zlt8n_, List.length_cons, List.length_nil, true_or, or_true, false_or, or_false, and_self, and_true, true_and, and_false, false_and, not_false_eq_true, not_true_eq_false, ite_true, ite_false, if_true, if_false, ite_not, zin, zpush_s, zpush_n, kl_int, kl_ref, kl_none, kl_kl, kl_long, kl_null, zT_wI, zT_wJ, zT_wR, zT_wIr, zT_wJr, zT_wRr, zI_wJ, zI_wR, zI_wJr, zI_wRr, zJ_wI, zJ_wR, zJ_wIr, zJ_wRr, zR_wI, zR_wJ, zR_wIr, zR_wJr, zN_wI, zN_wJ, zN_wR, zN_wIr, zN_wJr, zN_wRr, zZ_wI, zZ_wJ, zZ_wR, zZ_wIr, zZ_wJr, zZ_wRr, zI_wI, zJ_wJ, zR_wR, zI_wIr, zJ_wJr, zR_wRr, g822_0, g822_1, g822_2, g822_3, g822_5, g822_7, g822_10, g822_11, g822_12, g822_15, g822_16, g822_17, g822_20, g822_23, g822_24, g822_27, g822_28, g822_29, g822_32, g822_35, g822_36, g822_37, g822_40, g822_41, g822_42, g822_45, g822_46, g822_47, g822_48, g822_49, g822_52, g822_53, g822_54, g822_57, g822_58, g822_60, g822_63, g822_66, g822_67, g822_70, g822_71, g822_73, g822_76, g822_79, g822_80, g822_83, g822_84, g822_85, g822_86, g822_87, g822_90, g822_92, g822_95, g822_96, g822_99, g822_101, g822_104, g822_106, g822_109, g822_110, g822_113, g822_114, g822_115, g822_118, g822_119, g822_122, g822_123, g822_124, g822_125, g822_128, g822_129, g822_132, g822_133, g822_136, g822_137, g822_140, g822_141, g822_144, g822_145, g822_146, g822_147, g822_150, g822_151, g822_154, g822_155, g822_158, g822_159, g822_162, g822_163, g822_164, g822_165, g822_168, g822_169, g822_172, g822_173, m88, m89, m90, m91, m92, m93, m94, m95, m96, m97, m98, m99, m100, m101, m102, m103, m104, m105, m106, n0, n1, n2, n5, n7, n8, n10, n17, n18, n19, n20, n21, n22, n23, n25, n26, n27, n28, ci, el, q, z, z2, z3, show j < 6 by omega, bB_t, bB_f, nI_1, Bool.false_eq_true]
theorem fnd_0 (h : ¬ (ok = true ∧ p < s)) (a k : Nat) (v : Int32) : fnd x s p ok a k v = v := by
  unfold fnd
  rw [if_neg]
  intro z
  have := Bool.and_eq_true_iff.mp z
  exact h ⟨this.1, (tk_i.mp this.2).1⟩
theorem fnd_1 (h1 : ok = true) (h2 : p < s) (a k : Nat) (v : Int32) : fnd x s p ok a k v = if x p = (mcK a).getD k 0 then nI k else v := by
  unfold fnd tk
  subst h1
  simp [h2]
theorem r_test_h (m : PQ h x s nm) (h0 : St h p ok wv) (hp : p ≤ s) (Q : zQq) : zG (d + 1) 822 0 [some (.ref 88), none, none, none] [] h Q = zG (d + 1) 822 35 [some (.ref 88), some (.int (if ok = true ∧ p < s ∧ pLet (x p) = true then nI (lix (x p)) else -1)), some (.int 6), none] [] h Q := by
  have key : lp (fnd x s p ok 97) 6 0 (-1) = if ok = true ∧ p < s ∧ pLet (x p) = true then nI (lix (x p)) else -1 := by
    simp only [lp]
    by_cases q : ok = true ∧ p < s
    · simp only [fnd_1 q.1 q.2]
      by_cases q2 : pLet (x p) = true
      · have er : (if ok = true ∧ p < s ∧ pLet (x p) = true then nI (lix (x p)) else -1) = nI (lix (x p)) := if_pos ⟨q.1, q.2, q2⟩
        rw [er]
        have q3 : x p = 112 ∨ x p = 107 ∨ x p = 118 ∨ x p = 119 ∨ x p = 116 ∨ x p = 100 := by unfold pLet at q2; exact of_decide_eq_true q2
        rcases q3 with q3 | q3 | q3 | q3 | q3 | q3 <;> rw [q3] <;> decide
      · have q3 : ¬ (x p = 112 ∨ x p = 107 ∨ x p = 118 ∨ x p = 119 ∨ x p = 116 ∨ x p = 100) := by unfold pLet at q2; exact fun z => q2 (decide_eq_true z)
        have n0 : ¬ x p = (mcK 97).getD 0 0 := fun z => q3 (Or.inl z)
        have n1 : ¬ x p = (mcK 97).getD 1 0 := fun z => q3 (Or.inr (Or.inl z))
        have n2 : ¬ x p = (mcK 97).getD 2 0 := fun z => q3 (Or.inr (Or.inr (Or.inl z)))
        have n3 : ¬ x p = (mcK 97).getD 3 0 := fun z => q3 (Or.inr (Or.inr (Or.inr (Or.inl z))))
        have n4 : ¬ x p = (mcK 97).getD 4 0 := fun z => q3 (Or.inr (Or.inr (Or.inr (Or.inr (Or.inl z)))))
        have n5 : ¬ x p = (mcK 97).getD 5 0 := fun z => q3 (Or.inr (Or.inr (Or.inr (Or.inr (Or.inr z)))))
        have er : (if ok = true ∧ p < s ∧ pLet (x p) = true then nI (lix (x p)) else -1) = -1 := if_neg (fun z => q2 z.2.2)
        rw [er, if_neg n5, if_neg n4, if_neg n3, if_neg n2, if_neg n1, if_neg n0]
    · rw [if_neg (fun z => q ⟨z.1, z.2.1⟩)]
      simp only [fnd_0 q]
  have := r_test_lp (d := d) m h0 hp Q 6 0 (-1) (by omega)
  rw [← key, ← this]
  simp +decide only [Nat.reduceEqDiff, Nat.add_eq_left, Nat.left_eq_add, Nat.reduceAdd, Nat.reduceLeDiff, Nat.reduceMul, Nat.reduceSub, Nat.reduceLT, zlt8, zlt8_, zlt8n, zlt8n_, List.length_cons, List.length_nil, true_or, or_true, false_or, or_false, and_self, and_true, true_and, and_false, false_and, not_false_eq_true, not_true_eq_false, ite_true, ite_false, if_true, if_false, ite_not, zin, zpush_s, zpush_n, kl_int, kl_ref, kl_none, kl_kl, kl_long, kl_null, zT_wI, zT_wJ, zT_wR, zT_wIr, zT_wJr, zT_wRr, zI_wJ, zI_wR, zI_wJr, zI_wRr, zJ_wI, zJ_wR, zJ_wIr, zJ_wRr, zR_wI, zR_wJ, zR_wIr, zR_wJr, zN_wI, zN_wJ, zN_wR, zN_wIr, zN_wJr, zN_wRr, zZ_wI, zZ_wJ, zZ_wR, zZ_wIr, zZ_wJr, zZ_wRr, zI_wI, zJ_wJ, zR_wR, zI_wIr, zJ_wJr, zR_wRr, g822_0, g822_1, g822_2, g822_3]
  rfl
theorem lix_lt (c : Int32) : lix c < 6 := by unfold lix; repeat' split <;> try omega
theorem sLet_lix (c : Int32) (nm : zW0) : sLet c nm = nm (lix c) := by
  unfold sLet lix
  repeat' split <;> try rfl
theorem sCmp_d (v r m : Int32) : (decide (sCmp v r m = 1)) = (if r = 60 then decide (v < m) else if r = 61 then decide (v = m) else decide (m < v)) := by
  unfold sCmp
  split
  · simp only [bI_1]
  · split <;> simp only [bI_1]
theorem r_test_key (m : PQ h x s nm) (h0 : St h p true wv) (hp : p ≤ s) (qp : p < s) (q2 : pLet (x p) = true) (c z : Int32) (hc : (c = 60 ∧ z = -1) ∨ (c = 61 ∧ z = 0) ∨ (c = 62 ∧ z = 1)) (k1 : tk x s 60 (p + 1) = true → c = 60) (k2 : tk x s 60 (p + 1) = false → tk x s 62 (p + 1) = true → c = 62) (k3 : tk x s 60 (p + 1) = false → tk x s 62 (p + 1) = false → c = 61) :
    ∃ h1 b, FS S4 h h1 ∧ St h1 (onOk true (pTest x s) p).1 (onOk true (pTest x s) p).2.isSome wv ∧ p ≤ (onOk true (pTest x s) p).1 ∧ (onOk true (pTest x s) p).1 ≤ s ∧ (∀ e, (onOk true (pTest x s) p).2 = some e → b = e.2 nm) ∧ ∀ Q, zG (d + 2) 822 85 [some (.ref 88), some (.int (nI (lix (x p)))), some (.int z), none] [] (wI h 88 12 (nI (p + 1))) Q = Q (some (.int (bB b))) h1 := by
  have s1 := h0.1
  have hs100 := m.2.2.2.1
  have hl := lix_lt (x p)
  have f1 : FS S4 h (wI h 88 12 (nI (p + 1))) := f4 12 (nI (p + 1)) (by omega)
  have t1 := St_at h0 (p + 1)
  have m1 := PQ_4 f1 m
  obtain ⟨h2, f2, t2, g2⟩ := r_takes (d := d) (c := c) m1 t1 (by omega)
  have m2 := PQ_4 f2 m1
  -- whether the relation stands there
  have hrel : (tk x s c (p + 1) = true ∧ p + 1 < s ∧ pRel (x (p + 1)) = true ∧ x (p + 1) = c) ∨ (tk x s c (p + 1) = false ∧ ¬ (p + 1 < s ∧ pRel (x (p + 1)) = true)) := by
    cases q3 : tk x s c (p + 1) with
    | true =>
      left
      have := tk_i.mp q3
      refine ⟨rfl, this.1, ?_, this.2⟩
      rw [this.2]
      rcases hc with ⟨rfl, -⟩ | ⟨rfl, -⟩ | ⟨rfl, -⟩ <;> decide
    | false =>
      right
      refine ⟨rfl, fun z => ?_⟩
      have zr : x (p + 1) = 60 ∨ x (p + 1) = 61 ∨ x (p + 1) = 62 := by have := z.2; unfold pRel at this; exact of_decide_eq_true this
      rcases zr with zr | zr | zr
      · have := k1 (tk_t z.1 zr); subst this; rw [tk_t z.1 zr] at q3; exact absurd q3 (by decide)
      · have a1 : tk x s 60 (p + 1) = false := tk_f2 (by rw [zr]; decide)
        have a2 : tk x s 62 (p + 1) = false := tk_f2 (by rw [zr]; decide)
        have := k3 a1 a2; subst this; rw [tk_t z.1 zr] at q3; exact absurd q3 (by decide)
      · have a1 : tk x s 60 (p + 1) = false := tk_f2 (by rw [zr]; decide)
        have := k2 a1 (tk_t z.1 zr); subst this; rw [tk_t z.1 zr] at q3; exact absurd q3 (by decide)
  have m88 := m1.1.1.1
  have n88 := m2.1.1.1
  have h88 := m.1.1.1
  have hlx := sLet_lix (x p) nm
  rcases hrel with ⟨r1, r2, r3, r4⟩ | ⟨r1, r2⟩
  · rw [r1] at t2
    simp only [Bool.true_and, if_true] at t2
    obtain ⟨h3, v, f3, t3, v3, g3⟩ := r_number (d := d) m2 t2 (by omega)
    have m3 := PQ_4 f3 m2
    have eT : onOk true (pTest x s) p = (match pNum x s (p + 2) with
        | (q, some n) => (q, some ([pCode (x p) c n], fun nm => decide (sCmp (sLet (x p) nm) c n = 1)))
        | (q, none) => (q, none)) := by
      unfold onOk pTest
      rw [if_pos rfl, if_pos (by simp [qp, q2]), if_pos (by simp [r2, r3]), r4]
      rcases pNum x s (p + 2) with ⟨q, _ | n⟩ <;> rfl
    have el : onOk true (pNum x s) (p + 1 + 1) = pNum x s (p + 2) := by unfold onOk; rw [if_pos rfl, show p + 1 + 1 = p + 2 by omega]
    rw [el] at t3 v3
    have le := pNum_le (x := x) (s := s) (p := p + 2) (by omega)
    have nmx : zI h3 96 (lix (x p)) = nm (lix (x p)) := m3.2.2.2.2 _ hl
    obtain ⟨m88, m89, m90, m91, m92, m93, m94, m95, m96, m97, m98, m99, m100, m101, m102, m103, m104, m105, m106, n0, n1, n2, n5, n7, n8, n10, n17, n18, n19, n20, n21, n22, n23, n25, n26, n27, n28⟩ := m3.1.1
    have z1 := nI_pos (n := lix (x p)) (by omega)
    have z2 := nI_clamp (n := lix (x p)) (by omega)
    refine ⟨h3, decide (sCmp (sLet (x p) nm) c v = 1), FS_t f1 (FS_t f2 f3), ?_, ?_, ?_, ?_, fun Q => ?_⟩
    · rw [eT]; revert t3; rcases pNum x s (p + 2) with ⟨q, _ | n⟩ <;> exact id
    · rw [eT]; revert le; rcases pNum x s (p + 2) with ⟨q, _ | n⟩ <;> exact fun le => by simp only at le ⊢; omega
    · rw [eT]; revert le; rcases pNum x s (p + 2) with ⟨q, _ | n⟩ <;> exact fun le => le.2
    · rw [eT]
      revert v3
      rcases pNum x s (p + 2) with ⟨q, _ | n⟩
      · intro _ e he; simp at he
      · intro v3 e he
        rw [v3 n rfl]
        simp at he
        rw [← he]
    · rw [sCmp_d, hlx]
      rcases hc with ⟨rfl, rfl⟩ | ⟨rfl, rfl⟩ | ⟨rfl, rfl⟩
      · by_cases q5 : nm (lix (x p)) < v <;> simp +decide only [Nat.reduceEqDiff, Nat.add_eq_left, Nat.left_eq_add, Nat.reduceAdd, Nat.reduceLeDiff, Nat.reduceMul, Nat.reduceSub, Nat.reduceLT, zlt8, zlt8_, zlt8n, zlt8n_, List.length_cons, List.length_nil, true_or, or_true, false_or, or_false, and_self, and_true, true_and, and_false, false_and, not_false_eq_true, not_true_eq_false, ite_true, ite_false, if_true, if_false, ite_not, zin, zpush_s, zpush_n, kl_int, kl_ref, kl_none, kl_kl, kl_long, kl_null, zT_wI, zT_wJ, zT_wR, zT_wIr, zT_wJr, zT_wRr, zI_wJ, zI_wR, zI_wJr, zI_wRr, zJ_wI, zJ_wR, zJ_wIr, zJ_wRr, zR_wI, zR_wJ, zR_wIr, zR_wJr, zN_wI, zN_wJ, zN_wR, zN_wIr, zN_wJr, zN_wRr, zZ_wI, zZ_wJ, zZ_wR, zZ_wIr, zZ_wJr, zZ_wRr, zI_wI, zJ_wJ, zR_wR, zI_wIr, zJ_wJr, zR_wRr, g822_0, g822_1, g822_2, g822_3, g822_5, g822_7, g822_10, g822_11, g822_12, g822_15, g822_16, g822_17, g822_20, g822_23, g822_24, g822_27, g822_28, g822_29, g822_32, g822_35, g822_36, g822_37, g822_40, g822_41, g822_42, g822_45, g822_46, g822_47, g822_48, g822_49, g822_52, g822_53, g822_54, g822_57, g822_58, g822_60, g822_63, g822_66, g822_67, g822_70, g822_71, g822_73, g822_76, g822_79, g822_80, g822_83, g822_84, g822_85, g822_86, g822_87, g822_90, g822_92, g822_95, g822_96, g822_99, g822_101, g822_104, g822_106, g822_109, g822_110, g822_113, g822_114, g822_115, g822_118, g822_119, g822_122, g822_123, g822_124, g822_125, g822_128, g822_129, g822_132, g822_133, g822_136, g822_137, g822_140, g822_141, g822_144, g822_145, g822_146, g822_147, g822_150, g822_151, g822_154, g822_155, g822_158, g822_159, g822_162, g822_163, g822_164, g822_165, g822_168, g822_169, g822_172, g822_173, m88, m89, m90, m91, m92, m93, m94, m95, m96, m97, m98, m99, m100, m101, m102, m103, m104, m105, m106, n0, n1, n2, n5, n7, n8, n10, n17, n18, n19, n20, n21, n22, n23, n25, n26, n27, n28, h88, n88, g2, g3, nmx, z1, z2, hl, q5, i_le, bB_t, bB_f, decide_true, decide_false]
      · by_cases q5 : nm (lix (x p)) = v <;> simp +decide only [Nat.reduceEqDiff, Nat.add_eq_left, Nat.left_eq_add, Nat.reduceAdd, Nat.reduceLeDiff, Nat.reduceMul, Nat.reduceSub, Nat.reduceLT, zlt8, zlt8_, zlt8n, zlt8n_, List.length_cons, List.length_nil, true_or, or_true, false_or, or_false, and_self, and_true, true_and, and_false, false_and, not_false_eq_true, not_true_eq_false, ite_true, ite_false, if_true, if_false, ite_not, zin, zpush_s, zpush_n, kl_int, kl_ref, kl_none, kl_kl, kl_long, kl_null, zT_wI, zT_wJ, zT_wR, zT_wIr, zT_wJr, zT_wRr, zI_wJ, zI_wR, zI_wJr, zI_wRr, zJ_wI, zJ_wR, zJ_wIr, zJ_wRr, zR_wI, zR_wJ, zR_wIr, zR_wJr, zN_wI, zN_wJ, zN_wR, zN_wIr, zN_wJr, zN_wRr, zZ_wI, zZ_wJ, zZ_wR, zZ_wIr, zZ_wJr, zZ_wRr, zI_wI, zJ_wJ, zR_wR, zI_wIr, zJ_wJr, zR_wRr, g822_0, g822_1, g822_2, g822_3, g822_5, g822_7, g822_10, g822_11, g822_12, g822_15, g822_16, g822_17, g822_20, g822_23, g822_24, g822_27, g822_28, g822_29, g822_32, g822_35, g822_36, g822_37, g822_40, g822_41, g822_42, g822_45, g822_46, g822_47, g822_48, g822_49, g822_52, g822_53, g822_54, g822_57, g822_58, g822_60, g822_63, g822_66, g822_67, g822_70, g822_71, g822_73, g822_76, g822_79, g822_80, g822_83, g822_84, g822_85, g822_86, g822_87, g822_90, g822_92, g822_95, g822_96, g822_99, g822_101, g822_104, g822_106, g822_109, g822_110, g822_113, g822_114, g822_115, g822_118, g822_119, g822_122, g822_123, g822_124, g822_125, g822_128, g822_129, g822_132, g822_133, g822_136, g822_137, g822_140, g822_141, g822_144, g822_145, g822_146, g822_147, g822_150, g822_151, g822_154, g822_155, g822_158, g822_159, g822_162, g822_163, g822_164, g822_165, g822_168, g822_169, g822_172, g822_173, m88, m89, m90, m91, m92, m93, m94, m95, m96, m97, m98, m99, m100, m101, m102, m103, m104, m105, m106, n0, n1, n2, n5, n7, n8, n10, n17, n18, n19, n20, n21, n22, n23, n25, n26, n27, n28, h88, n88, g2, g3, nmx, z1, z2, hl, q5, i_le, bB_t, bB_f, decide_true, decide_false]
      · by_cases q5 : v < nm (lix (x p)) <;> simp +decide only [Nat.reduceEqDiff, Nat.add_eq_left, Nat.left_eq_add, Nat.reduceAdd, Nat.reduceLeDiff, Nat.reduceMul, Nat.reduceSub, Nat.reduceLT, zlt8, zlt8_, zlt8n, zlt8n_, List.length_cons, List.length_nil, true_or, or_true, false_or, or_false, and_self, and_true, true_and, and_false, false_and, not_false_eq_true, not_true_eq_false, ite_true, ite_false, if_true, if_false, ite_not, zin, zpush_s, zpush_n, kl_int, kl_ref, kl_none, kl_kl, kl_long, kl_null, zT_wI, zT_wJ, zT_wR, zT_wIr, zT_wJr, zT_wRr, zI_wJ, zI_wR, zI_wJr, zI_wRr, zJ_wI, zJ_wR, zJ_wIr, zJ_wRr, zR_wI, zR_wJ, zR_wIr, zR_wJr, zN_wI, zN_wJ, zN_wR, zN_wIr, zN_wJr, zN_wRr, zZ_wI, zZ_wJ, zZ_wR, zZ_wIr, zZ_wJr, zZ_wRr, zI_wI, zJ_wJ, zR_wR, zI_wIr, zJ_wJr, zR_wRr, g822_0, g822_1, g822_2, g822_3, g822_5, g822_7, g822_10, g822_11, g822_12, g822_15, g822_16, g822_17, g822_20, g822_23, g822_24, g822_27, g822_28, g822_29, g822_32, g822_35, g822_36, g822_37, g822_40, g822_41, g822_42, g822_45, g822_46, g822_47, g822_48, g822_49, g822_52, g822_53, g822_54, g822_57, g822_58, g822_60, g822_63, g822_66, g822_67, g822_70, g822_71, g822_73, g822_76, g822_79, g822_80, g822_83, g822_84, g822_85, g822_86, g822_87, g822_90, g822_92, g822_95, g822_96, g822_99, g822_101, g822_104, g822_106, g822_109, g822_110, g822_113, g822_114, g822_115, g822_118, g822_119, g822_122, g822_123, g822_124, g822_125, g822_128, g822_129, g822_132, g822_133, g822_136, g822_137, g822_140, g822_141, g822_144, g822_145, g822_146, g822_147, g822_150, g822_151, g822_154, g822_155, g822_158, g822_159, g822_162, g822_163, g822_164, g822_165, g822_168, g822_169, g822_172, g822_173, m88, m89, m90, m91, m92, m93, m94, m95, m96, m97, m98, m99, m100, m101, m102, m103, m104, m105, m106, n0, n1, n2, n5, n7, n8, n10, n17, n18, n19, n20, n21, n22, n23, n25, n26, n27, n28, h88, n88, g2, g3, nmx, z1, z2, hl, q5, i_le, bB_t, bB_f, decide_true, decide_false]
  · rw [r1] at t2
    simp only [Bool.true_and, Bool.false_eq_true, if_false] at t2
    obtain ⟨h3, v, f3, t3, v3, g3⟩ := r_number (d := d) m2 t2 (by omega)
    have m3 := PQ_4 f3 m2
    have eT : onOk true (pTest x s) p = (p + 1, none) := by
      unfold onOk pTest
      rw [if_pos rfl, if_pos (by simp [qp, q2]), if_neg (by simpa using r2)]
    rw [eT]
    have nmx : zI h3 96 (lix (x p)) = nm (lix (x p)) := m3.2.2.2.2 _ hl
    obtain ⟨m88, m89, m90, m91, m92, m93, m94, m95, m96, m97, m98, m99, m100, m101, m102, m103, m104, m105, m106, n0, n1, n2, n5, n7, n8, n10, n17, n18, n19, n20, n21, n22, n23, n25, n26, n27, n28⟩ := m3.1.1
    have z1 := nI_pos (n := lix (x p)) (by omega)
    have z2 := nI_clamp (n := lix (x p)) (by omega)
    refine ⟨h3, (if c = 60 then decide (nm (lix (x p)) < v) else if c = 61 then decide (nm (lix (x p)) = v) else decide (v < nm (lix (x p)))), FS_t f1 (FS_t f2 f3), t3, by simp only; omega, by simp only; omega, fun e he => by simp at he, fun Q => ?_⟩
    rcases hc with ⟨rfl, rfl⟩ | ⟨rfl, rfl⟩ | ⟨rfl, rfl⟩
    · by_cases q5 : nm (lix (x p)) < v <;> simp +decide only [Nat.reduceEqDiff, Nat.add_eq_left, Nat.left_eq_add, Nat.reduceAdd, Nat.reduceLeDiff, Nat.reduceMul, Nat.reduceSub, Nat.reduceLT, zlt8, zlt8_, zlt8n, zlt8n_, List.length_cons, List.length_nil, true_or, or_true, false_or, or_false, and_self, and_true, true_and, and_false, false_and, not_false_eq_true, not_true_eq_false, ite_true, ite_false, if_true, if_false, ite_not, zin, zpush_s, zpush_n, kl_int, kl_ref, kl_none, kl_kl, kl_long, kl_null, zT_wI, zT_wJ, zT_wR, zT_wIr, zT_wJr, zT_wRr, zI_wJ, zI_wR, zI_wJr, zI_wRr, zJ_wI, zJ_wR, zJ_wIr, zJ_wRr, zR_wI, zR_wJ, zR_wIr, zR_wJr, zN_wI, zN_wJ, zN_wR, zN_wIr, zN_wJr, zN_wRr, zZ_wI, zZ_wJ, zZ_wR, zZ_wIr, zZ_wJr, zZ_wRr, zI_wI, zJ_wJ, zR_wR, zI_wIr, zJ_wJr, zR_wRr, g822_0, g822_1, g822_2, g822_3, g822_5, g822_7, g822_10, g822_11, g822_12, g822_15, g822_16, g822_17, g822_20, g822_23, g822_24, g822_27, g822_28, g822_29, g822_32, g822_35, g822_36, g822_37, g822_40, g822_41, g822_42, g822_45, g822_46, g822_47, g822_48, g822_49, g822_52, g822_53, g822_54, g822_57, g822_58, g822_60, g822_63, g822_66, g822_67, g822_70, g822_71, g822_73, g822_76, g822_79, g822_80, g822_83, g822_84, g822_85, g822_86, g822_87, g822_90, g822_92, g822_95, g822_96, g822_99, g822_101, g822_104, g822_106, g822_109, g822_110, g822_113, g822_114, g822_115, g822_118, g822_119, g822_122, g822_123, g822_124, g822_125, g822_128, g822_129, g822_132, g822_133, g822_136, g822_137, g822_140, g822_141, g822_144, g822_145, g822_146, g822_147, g822_150, g822_151, g822_154, g822_155, g822_158, g822_159, g822_162, g822_163, g822_164, g822_165, g822_168, g822_169, g822_172, g822_173, m88, m89, m90, m91, m92, m93, m94, m95, m96, m97, m98, m99, m100, m101, m102, m103, m104, m105, m106, n0, n1, n2, n5, n7, n8, n10, n17, n18, n19, n20, n21, n22, n23, n25, n26, n27, n28, h88, n88, g2, g3, nmx, z1, z2, hl, q5, i_le, bB_t, bB_f, decide_true, decide_false]
    · by_cases q5 : nm (lix (x p)) = v <;> simp +decide only [Nat.reduceEqDiff, Nat.add_eq_left, Nat.left_eq_add, Nat.reduceAdd, Nat.reduceLeDiff, Nat.reduceMul, Nat.reduceSub, Nat.reduceLT, zlt8, zlt8_, zlt8n, zlt8n_, List.length_cons, List.length_nil, true_or, or_true, false_or, or_false, and_self, and_true, true_and, and_false, false_and, not_false_eq_true, not_true_eq_false, ite_true, ite_false, if_true, if_false, ite_not, zin, zpush_s, zpush_n, kl_int, kl_ref, kl_none, kl_kl, kl_long, kl_null, zT_wI, zT_wJ, zT_wR, zT_wIr, zT_wJr, zT_wRr, zI_wJ, zI_wR, zI_wJr, zI_wRr, zJ_wI, zJ_wR, zJ_wIr, zJ_wRr, zR_wI, zR_wJ, zR_wIr, zR_wJr, zN_wI, zN_wJ, zN_wR, zN_wIr, zN_wJr, zN_wRr, zZ_wI, zZ_wJ, zZ_wR, zZ_wIr, zZ_wJr, zZ_wRr, zI_wI, zJ_wJ, zR_wR, zI_wIr, zJ_wJr, zR_wRr, g822_0, g822_1, g822_2, g822_3, g822_5, g822_7, g822_10, g822_11, g822_12, g822_15, g822_16, g822_17, g822_20, g822_23, g822_24, g822_27, g822_28, g822_29, g822_32, g822_35, g822_36, g822_37, g822_40, g822_41, g822_42, g822_45, g822_46, g822_47, g822_48, g822_49, g822_52, g822_53, g822_54, g822_57, g822_58, g822_60, g822_63, g822_66, g822_67, g822_70, g822_71, g822_73, g822_76, g822_79, g822_80, g822_83, g822_84, g822_85, g822_86, g822_87, g822_90, g822_92, g822_95, g822_96, g822_99, g822_101, g822_104, g822_106, g822_109, g822_110, g822_113, g822_114, g822_115, g822_118, g822_119, g822_122, g822_123, g822_124, g822_125, g822_128, g822_129, g822_132, g822_133, g822_136, g822_137, g822_140, g822_141, g822_144, g822_145, g822_146, g822_147, g822_150, g822_151, g822_154, g822_155, g822_158, g822_159, g822_162, g822_163, g822_164, g822_165, g822_168, g822_169, g822_172, g822_173, m88, m89, m90, m91, m92, m93, m94, m95, m96, m97, m98, m99, m100, m101, m102, m103, m104, m105, m106, n0, n1, n2, n5, n7, n8, n10, n17, n18, n19, n20, n21, n22, n23, n25, n26, n27, n28, h88, n88, g2, g3, nmx, z1, z2, hl, q5, i_le, bB_t, bB_f, decide_true, decide_false]
    · by_cases q5 : v < nm (lix (x p)) <;> simp +decide only [Nat.reduceEqDiff, Nat.add_eq_left, Nat.left_eq_add, Nat.reduceAdd, Nat.reduceLeDiff, Nat.reduceMul, Nat.reduceSub, Nat.reduceLT, zlt8, zlt8_, zlt8n, zlt8n_, List.length_cons, List.length_nil, true_or, or_true, false_or, or_false, and_self, and_true, true_and, and_false, false_and, not_false_eq_true, not_true_eq_false, ite_true, ite_false, if_true, if_false, ite_not, zin, zpush_s, zpush_n, kl_int, kl_ref, kl_none, kl_kl, kl_long, kl_null, zT_wI, zT_wJ, zT_wR, zT_wIr, zT_wJr, zT_wRr, zI_wJ, zI_wR, zI_wJr, zI_wRr, zJ_wI, zJ_wR, zJ_wIr, zJ_wRr, zR_wI, zR_wJ, zR_wIr, zR_wJr, zN_wI, zN_wJ, zN_wR, zN_wIr, zN_wJr, zN_wRr, zZ_wI, zZ_wJ, zZ_wR, zZ_wIr, zZ_wJr, zZ_wRr, zI_wI, zJ_wJ, zR_wR, zI_wIr, zJ_wJr, zR_wRr, g822_0, g822_1, g822_2, g822_3, g822_5, g822_7, g822_10, g822_11, g822_12, g822_15, g822_16, g822_17, g822_20, g822_23, g822_24, g822_27, g822_28, g822_29, g822_32, g822_35, g822_36, g822_37, g822_40, g822_41, g822_42, g822_45, g822_46, g822_47, g822_48, g822_49, g822_52, g822_53, g822_54, g822_57, g822_58, g822_60, g822_63, g822_66, g822_67, g822_70, g822_71, g822_73, g822_76, g822_79, g822_80, g822_83, g822_84, g822_85, g822_86, g822_87, g822_90, g822_92, g822_95, g822_96, g822_99, g822_101, g822_104, g822_106, g822_109, g822_110, g822_113, g822_114, g822_115, g822_118, g822_119, g822_122, g822_123, g822_124, g822_125, g822_128, g822_129, g822_132, g822_133, g822_136, g822_137, g822_140, g822_141, g822_144, g822_145, g822_146, g822_147, g822_150, g822_151, g822_154, g822_155, g822_158, g822_159, g822_162, g822_163, g822_164, g822_165, g822_168, g822_169, g822_172, g822_173, m88, m89, m90, m91, m92, m93, m94, m95, m96, m97, m98, m99, m100, m101, m102, m103, m104, m105, m106, n0, n1, n2, n5, n7, n8, n10, n17, n18, n19, n20, n21, n22, n23, n25, n26, n27, n28, h88, n88, g2, g3, nmx, z1, z2, hl, q5, i_le, bB_t, bB_f, decide_true, decide_false]
theorem r_test : Imp x nm s 822 3 wv (pTest x s) := by
  intro d h p ok m h0 hp
  have hd := r_test_h (d := d + 1) m h0 hp
  by_cases q : ok = true ∧ p < s ∧ pLet (x p) = true
  · obtain ⟨rfl, qp, q2⟩ := q
    have e : ∀ Q, zG (d + 2) 822 0 [some (.ref 88), none, none, none] [] h Q = zG (d + 2) 822 35 [some (.ref 88), some (.int (nI (lix (x p)))), some (.int 6), none] [] h Q := fun Q => by rw [hd Q, if_pos ⟨rfl, qp, q2⟩]
    have s1 := h0.1
    have hs100 := m.2.2.2.1
    have hl := lix_lt (x p)
    have f1 : FS S4 h (wI h 88 12 (nI (p + 1))) := f4 12 (nI (p + 1)) (by omega)
    have t1 := St_at h0 (p + 1)
    have m1 := PQ_4 f1 m
    have c1 : ∀ c Q, zCall (d + 2) 818 [.ref 88, .int c] (wI h 88 12 (nI (p + 1))) Q = Q (some (.int (bB (true && tk x s c (p + 1))))) _ := fun c Q => r_isAt m1 t1 (by omega) Q
    have key := fun c z hc k1 k2 k3 => r_test_key (d := d) (c := c) m h0 hp qp q2 z hc k1 k2 k3
    have zn : ¬ nI (lix (x p)) = -1 := fun z => by have := nI_pos (n := lix (x p)) (by omega); rw [z] at this; exact this (by decide)
    have m88 := m.1.1.1
    cases k1 : tk x s 60 (p + 1) with
    | true =>
      obtain ⟨h1, b, g1, g2, g3, g4, g5, g6⟩ := key 60 (-1) (Or.inl ⟨rfl, rfl⟩) (fun _ => rfl) (fun z => by rw [k1] at z; exact absurd z (by decide)) (fun z => by rw [k1] at z; exact absurd z (by decide))
      refine ⟨h1, b, g1, g2, g3, g4, g5, fun Q => ?_⟩
      have c60 := c1 60
      rw [k1] at c60
      rw [← g6 Q]
      simp +decide only [Nat.reduceEqDiff, Nat.add_eq_left, Nat.left_eq_add, Nat.reduceAdd, Nat.reduceLeDiff, Nat.reduceMul, Nat.reduceSub, Nat.reduceLT, zlt8, zlt8_, zlt8n, zlt8n_, List.length_cons, List.length_nil, true_or, or_true, false_or, or_false, and_self, and_true, true_and, and_false, false_and, not_false_eq_true, not_true_eq_false, ite_true, ite_false, if_true, if_false, ite_not, zin, zpush_s, zpush_n, kl_int, kl_ref, kl_none, kl_kl, kl_long, kl_null, zT_wI, zT_wJ, zT_wR, zT_wIr, zT_wJr, zT_wRr, zI_wJ, zI_wR, zI_wJr, zI_wRr, zJ_wI, zJ_wR, zJ_wIr, zJ_wRr, zR_wI, zR_wJ, zR_wIr, zR_wJr, zN_wI, zN_wJ, zN_wR, zN_wIr, zN_wJr, zN_wRr, zZ_wI, zZ_wJ, zZ_wR, zZ_wIr, zZ_wJr, zZ_wRr, zI_wI, zJ_wJ, zR_wR, zI_wIr, zJ_wJr, zR_wRr, k822]
      rw [e Q]
      simp +decide only [Nat.reduceEqDiff, Nat.add_eq_left, Nat.left_eq_add, Nat.reduceAdd, Nat.reduceLeDiff, Nat.reduceMul, Nat.reduceSub, Nat.reduceLT, zlt8, zlt8_, zlt8n, zlt8n_, List.length_cons, List.length_nil, true_or, or_true, false_or, or_false, and_self, and_true, true_and, and_false, false_and, not_false_eq_true, not_true_eq_false, ite_true, ite_false, if_true, if_false, ite_not, zin, zpush_s, zpush_n, kl_int, kl_ref, kl_none, kl_kl, kl_long, kl_null, zT_wI, zT_wJ, zT_wR, zT_wIr, zT_wJr, zT_wRr, zI_wJ, zI_wR, zI_wJr, zI_wRr, zJ_wI, zJ_wR, zJ_wIr, zJ_wRr, zR_wI, zR_wJ, zR_wIr, zR_wJr, zN_wI, zN_wJ, zN_wR, zN_wIr, zN_wJr, zN_wRr, zZ_wI, zZ_wJ, zZ_wR, zZ_wIr, zZ_wJr, zZ_wRr, zI_wI, zJ_wJ, zR_wR, zI_wIr, zJ_wJr, zR_wRr, g822_35, g822_36, g822_37, g822_47, g822_48, g822_49, g822_52, g822_53, g822_54, g822_57, g822_58, g822_60, g822_63, g822_66, g822_67, g822_70, g822_71, g822_73, g822_76, g822_79, g822_80, g822_83, g822_84, zn, m88, s1, nI_1, c60, bB_t, Bool.and_true]
    | false =>
      have c60 := c1 60
      rw [k1] at c60
      have c62 := c1 62
      cases k2 : tk x s 62 (p + 1) with
      | true =>
        obtain ⟨h1, b, g1, g2, g3, g4, g5, g6⟩ := key 62 1 (Or.inr (Or.inr ⟨rfl, rfl⟩)) (fun z => by rw [k1] at z; exact absurd z (by decide)) (fun _ _ => rfl) (fun _ z => by rw [k2] at z; exact absurd z (by decide))
        refine ⟨h1, b, g1, g2, g3, g4, g5, fun Q => ?_⟩
        rw [k2] at c62
        rw [← g6 Q]
        simp +decide only [Nat.reduceEqDiff, Nat.add_eq_left, Nat.left_eq_add, Nat.reduceAdd, Nat.reduceLeDiff, Nat.reduceMul, Nat.reduceSub, Nat.reduceLT, zlt8, zlt8_, zlt8n, zlt8n_, List.length_cons, List.length_nil, true_or, or_true, false_or, or_false, and_self, and_true, true_and, and_false, false_and, not_false_eq_true, not_true_eq_false, ite_true, ite_false, if_true, if_false, ite_not, zin, zpush_s, zpush_n, kl_int, kl_ref, kl_none, kl_kl, kl_long, kl_null, zT_wI, zT_wJ, zT_wR, zT_wIr, zT_wJr, zT_wRr, zI_wJ, zI_wR, zI_wJr, zI_wRr, zJ_wI, zJ_wR, zJ_wIr, zJ_wRr, zR_wI, zR_wJ, zR_wIr, zR_wJr, zN_wI, zN_wJ, zN_wR, zN_wIr, zN_wJr, zN_wRr, zZ_wI, zZ_wJ, zZ_wR, zZ_wIr, zZ_wJr, zZ_wRr, zI_wI, zJ_wJ, zR_wR, zI_wIr, zJ_wJr, zR_wRr, k822]
        rw [e Q]
        simp +decide only [Nat.reduceEqDiff, Nat.add_eq_left, Nat.left_eq_add, Nat.reduceAdd, Nat.reduceLeDiff, Nat.reduceMul, Nat.reduceSub, Nat.reduceLT, zlt8, zlt8_, zlt8n, zlt8n_, List.length_cons, List.length_nil, true_or, or_true, false_or, or_false, and_self, and_true, true_and, and_false, false_and, not_false_eq_true, not_true_eq_false, ite_true, ite_false, if_true, if_false, ite_not, zin, zpush_s, zpush_n, kl_int, kl_ref, kl_none, kl_kl, kl_long, kl_null, zT_wI, zT_wJ, zT_wR, zT_wIr, zT_wJr, zT_wRr, zI_wJ, zI_wR, zI_wJr, zI_wRr, zJ_wI, zJ_wR, zJ_wIr, zJ_wRr, zR_wI, zR_wJ, zR_wIr, zR_wJr, zN_wI, zN_wJ, zN_wR, zN_wIr, zN_wJr, zN_wRr, zZ_wI, zZ_wJ, zZ_wR, zZ_wIr, zZ_wJr, zZ_wRr, zI_wI, zJ_wJ, zR_wR, zI_wIr, zJ_wJr, zR_wRr, g822_35, g822_36, g822_37, g822_47, g822_48, g822_49, g822_52, g822_53, g822_54, g822_57, g822_58, g822_60, g822_63, g822_66, g822_67, g822_70, g822_71, g822_73, g822_76, g822_79, g822_80, g822_83, g822_84, zn, m88, s1, nI_1, c60, c62, bB_t, bB_f, Bool.and_true, Bool.and_false]
      | false =>
        obtain ⟨h1, b, g1, g2, g3, g4, g5, g6⟩ := key 61 0 (Or.inr (Or.inl ⟨rfl, rfl⟩)) (fun z => by rw [k1] at z; exact absurd z (by decide)) (fun _ z => by rw [k2] at z; exact absurd z (by decide)) (fun _ _ => rfl)
        refine ⟨h1, b, g1, g2, g3, g4, g5, fun Q => ?_⟩
        rw [k2] at c62
        rw [← g6 Q]
        simp +decide only [Nat.reduceEqDiff, Nat.add_eq_left, Nat.left_eq_add, Nat.reduceAdd, Nat.reduceLeDiff, Nat.reduceMul, Nat.reduceSub, Nat.reduceLT, zlt8, zlt8_, zlt8n, zlt8n_, List.length_cons, List.length_nil, true_or, or_true, false_or, or_false, and_self, and_true, true_and, and_false, false_and, not_false_eq_true, not_true_eq_false, ite_true, ite_false, if_true, if_false, ite_not, zin, zpush_s, zpush_n, kl_int, kl_ref, kl_none, kl_kl, kl_long, kl_null, zT_wI, zT_wJ, zT_wR, zT_wIr, zT_wJr, zT_wRr, zI_wJ, zI_wR, zI_wJr, zI_wRr, zJ_wI, zJ_wR, zJ_wIr, zJ_wRr, zR_wI, zR_wJ, zR_wIr, zR_wJr, zN_wI, zN_wJ, zN_wR, zN_wIr, zN_wJr, zN_wRr, zZ_wI, zZ_wJ, zZ_wR, zZ_wIr, zZ_wJr, zZ_wRr, zI_wI, zJ_wJ, zR_wR, zI_wIr, zJ_wJr, zR_wRr, k822]
        rw [e Q]
        simp +decide only [Nat.reduceEqDiff, Nat.add_eq_left, Nat.left_eq_add, Nat.reduceAdd, Nat.reduceLeDiff, Nat.reduceMul, Nat.reduceSub, Nat.reduceLT, zlt8, zlt8_, zlt8n, zlt8n_, List.length_cons, List.length_nil, true_or, or_true, false_or, or_false, and_self, and_true, true_and, and_false, false_and, not_false_eq_true, not_true_eq_false, ite_true, ite_false, if_true, if_false, ite_not, zin, zpush_s, zpush_n, kl_int, kl_ref, kl_none, kl_kl, kl_long, kl_null, zT_wI, zT_wJ, zT_wR, zT_wIr, zT_wJr, zT_wRr, zI_wJ, zI_wR, zI_wJr, zI_wRr, zJ_wI, zJ_wR, zJ_wIr, zJ_wRr, zR_wI, zR_wJ, zR_wIr, zR_wJr, zN_wI, zN_wJ, zN_wR, zN_wIr, zN_wJr, zN_wRr, zZ_wI, zZ_wJ, zZ_wR, zZ_wIr, zZ_wJr, zZ_wRr, zI_wI, zJ_wJ, zR_wR, zI_wIr, zJ_wJr, zR_wRr, g822_35, g822_36, g822_37, g822_47, g822_48, g822_49, g822_52, g822_53, g822_54, g822_57, g822_58, g822_60, g822_63, g822_66, g822_67, g822_70, g822_71, g822_73, g822_76, g822_79, g822_80, g822_83, g822_84, zn, m88, s1, nI_1, c60, c62, bB_t, bB_f, Bool.and_true, Bool.and_false]
  · have eT : onOk ok (pTest x s) p = (p, none) := by
      unfold onOk pTest
      cases ok with
      | false => rfl
      | true =>
        rw [if_pos rfl, if_neg]
        intro z
        simp at z
        exact q ⟨rfl, z.1, z.2⟩
    rw [eT]
    have m88 := m.1.1.1
    refine ⟨_, false, f4 13 (bB false) (by omega), St_well h0 false, Nat.le_refl _, hp, fun e he => by simp at he, fun Q => ?_⟩
    simp +decide only [Nat.reduceEqDiff, Nat.add_eq_left, Nat.left_eq_add, Nat.reduceAdd, Nat.reduceLeDiff, Nat.reduceMul, Nat.reduceSub, Nat.reduceLT, zlt8, zlt8_, zlt8n, zlt8n_, List.length_cons, List.length_nil, true_or, or_true, false_or, or_false, and_self, and_true, true_and, and_false, false_and, not_false_eq_true, not_true_eq_false, ite_true, ite_false, if_true, if_false, ite_not, zin, zpush_s, zpush_n, kl_int, kl_ref, kl_none, kl_kl, kl_long, kl_null, zT_wI, zT_wJ, zT_wR, zT_wIr, zT_wJr, zT_wRr, zI_wJ, zI_wR, zI_wJr, zI_wRr, zJ_wI, zJ_wR, zJ_wIr, zJ_wRr, zR_wI, zR_wJ, zR_wIr, zR_wJr, zN_wI, zN_wJ, zN_wR, zN_wIr, zN_wJr, zN_wRr, zZ_wI, zZ_wJ, zZ_wR, zZ_wIr, zZ_wJr, zZ_wRr, zI_wI, zJ_wJ, zR_wR, zI_wIr, zJ_wJr, zR_wRr, k822]
    rw [hd Q, if_neg q]
    simp +decide only [Nat.reduceEqDiff, Nat.add_eq_left, Nat.left_eq_add, Nat.reduceAdd, Nat.reduceLeDiff, Nat.reduceMul, Nat.reduceSub, Nat.reduceLT, zlt8, zlt8_, zlt8n, zlt8n_, List.length_cons, List.length_nil, true_or, or_true, false_or, or_false, and_self, and_true, true_and, and_false, false_and, not_false_eq_true, not_true_eq_false, ite_true, ite_false, if_true, if_false, ite_not, zin, zpush_s, zpush_n, kl_int, kl_ref, kl_none, kl_kl, kl_long, kl_null, zT_wI, zT_wJ, zT_wR, zT_wIr, zT_wJr, zT_wRr, zI_wJ, zI_wR, zI_wJr, zI_wRr, zJ_wI, zJ_wR, zJ_wIr, zJ_wRr, zR_wI, zR_wJ, zR_wIr, zR_wJr, zN_wI, zN_wJ, zN_wR, zN_wIr, zN_wJr, zN_wRr, zZ_wI, zZ_wJ, zZ_wR, zZ_wIr, zZ_wJr, zZ_wRr, zI_wI, zJ_wJ, zR_wR, zI_wIr, zJ_wJr, zR_wRr, g822_35, g822_36, g822_37, g822_40, g822_41, g822_42, g822_45, g822_46, m88, bB_f]
