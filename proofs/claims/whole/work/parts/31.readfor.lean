-- needs 30.p7
variable {d a b n t D K s : Nat} {h h1 : zH} {w x nm : zW0} {fo y z py p : Int32} {sv : Value} {ex : zW0 → Int32}
theorem MS_wI (h : zH) (a k : Nat) (x : Int32) : MS (wI h a k x) = MS h := propext ⟨fun z => z, fun z => z⟩
theorem MS_wIr (h : zH) (a : Nat) (g : Nat → Int32) : MS (wIr h a g) = MS h := propext ⟨fun z => z, fun z => z⟩
def S95 (b k : Nat) : Prop := b = 95
theorem r_copy_lp {r : Nat} (hr : r < 6) (hs : s ≤ 100) (hx : ∀ k, k < s → zI h 93 (100 * r + k) = x k) : ∀ (m k : Nat) (h0 : zH), k + m = s → MS h0 → (∀ j, zI h0 93 j = zI h 93 j) → zI h0 88 11 = nI s → (∀ j, j < k → zI h0 95 j = x j) → ∃ h1, FS S95 h0 h1 ∧ (∀ j, j < s → zI h1 95 j = x j) ∧ ∀ Q, zG d 828 123 [some (.ref 88), some (.int y), some (.int (nI r)), some (.int (nI k))] [] h0 Q = zG d 828 154 [some (.ref 88), some (.int y), some (.int (nI r)), some (.int (nI s))] [] h1 Q
  | 0, k, h0, e, hM, h93, h11, hj => by
    have e : k = s := by omega
    subst e
    refine ⟨h0, FS_r _ _, hj, fun Q => ?_⟩
    obtain ⟨m88, m89, m90, m91, m92, m93, m94, m95, m96, m97, m98, m99, m100, m101, m102, m103, m104, m105, m106, n0, n1, n2, n5, n7, n8, n10, n17, n18, n19, n20, n21, n22, n23, n25, n26, n27, n28⟩ := hM
    rw [g828_123]
    simp +decide only [Nat.reduceEqDiff, Nat.add_eq_left, Nat.left_eq_add, Nat.reduceAdd, Nat.reduceLeDiff, Nat.reduceMul, Nat.reduceSub, Nat.reduceLT, zlt8, zlt8_, zlt8n, zlt8n_, List.length_cons, List.length_nil, true_or, or_true, false_or, or_false, and_self, and_true, true_and, and_false, false_and, not_false_eq_true, not_true_eq_false, ite_true, ite_false, if_true, if_false, ite_not, zin, zpush_s, zpush_n, kl_int, kl_ref, kl_none, kl_kl, kl_long, kl_null, zT_wI, zT_wJ, zT_wR, zT_wIr, zT_wJr, zT_wRr, zI_wJ, zI_wR, zI_wJr, zI_wRr, zJ_wI, zJ_wR, zJ_wIr, zJ_wRr, zR_wI, zR_wJ, zR_wIr, zR_wJr, zN_wI, zN_wJ, zN_wR, zN_wIr, zN_wJr, zN_wRr, zZ_wI, zZ_wJ, zZ_wR, zZ_wIr, zZ_wJr, zZ_wRr, zI_wI, zJ_wJ, zR_wR, zI_wIr, zJ_wJr, zR_wRr, g828_124, g828_125, g828_128, m88, m89, m90, m91, m92, m93, m94, m95, m96, m97, m98, m99, m100, m101, m102, m103, m104, m105, m106, n0, n1, n2, n5, n7, n8, n10, n17, n18, n19, n20, n21, n22, n23, n25, n26, n27, n28, h11, i_le, Int32.lt_irrefl]
  | m + 1, k, h0, e, hM, h93, h11, hj => by
    have f : FS S95 h0 (wI h0 95 k (x k)) := FS_I _ rfl
    obtain ⟨h1, f1, g1, c1⟩ := r_copy_lp hr hs hx m (k + 1) (wI h0 95 k (x k)) (by omega) hM (fun j => by rw [zI_wI, if_neg (by omega)]; exact h93 j) (by rw [zI_wI, if_neg (by omega)]; exact h11) (fun j hjk => by
      rw [zI_wI, if_pos rfl]
      by_cases e : j = k
      · subst e; exact up_s _ _ _
      · rw [up_n _ _ e]; exact hj j (by omega))
    refine ⟨h1, FS_t f f1, g1, fun Q => ?_⟩
    have z3 := nI_lt (a := k) (b := s) (by omega) (by omega)
    have y1 := nI_pos (n := k) (by omega)
    have y2 := nI_clamp (n := k) (by omega)
    have e1 : (100 : Int32) * nI r = nI (100 * r) := by rw [show (100 : Int32) = nI 100 from rfl, pk_mul]
    have e2 := nI_add (100 * r) k
    have b1 := nI_pos (n := 100 * r + k) (by omega)
    have d1 := nI_clamp (n := 100 * r + k) (by omega)
    have ex : zI h0 93 (100 * r + k) = x k := by rw [h93]; exact hx k (by omega)
    have ki : nI k + 1 = nI (k + 1) := nI_1 k
    obtain ⟨m88, m89, m90, m91, m92, m93, m94, m95, m96, m97, m98, m99, m100, m101, m102, m103, m104, m105, m106, n0, n1, n2, n5, n7, n8, n10, n17, n18, n19, n20, n21, n22, n23, n25, n26, n27, n28⟩ := hM
    rw [← c1 Q, g828_123]
    simp +decide only [Nat.reduceEqDiff, Nat.add_eq_left, Nat.left_eq_add, Nat.reduceAdd, Nat.reduceLeDiff, Nat.reduceMul, Nat.reduceSub, Nat.reduceLT, zlt8, zlt8_, zlt8n, zlt8n_, List.length_cons, List.length_nil, true_or, or_true, false_or, or_false, and_self, and_true, true_and, and_false, false_and, not_false_eq_true, not_true_eq_false, ite_true, ite_false, if_true, if_false, ite_not, zin, zpush_s, zpush_n, kl_int, kl_ref, kl_none, kl_kl, kl_long, kl_null, zT_wI, zT_wJ, zT_wR, zT_wIr, zT_wJr, zT_wRr, zI_wJ, zI_wR, zI_wJr, zI_wRr, zJ_wI, zJ_wR, zJ_wIr, zJ_wRr, zR_wI, zR_wJ, zR_wIr, zR_wJr, zN_wI, zN_wJ, zN_wR, zN_wIr, zN_wJr, zN_wRr, zZ_wI, zZ_wJ, zZ_wR, zZ_wIr, zZ_wJr, zZ_wRr, zI_wI, zJ_wJ, zR_wR, zI_wIr, zJ_wJr, zR_wRr, g828_124, g828_125, g828_128, g828_131, g828_132, g828_135, g828_136, g828_137, g828_140, g828_142, g828_143, g828_144, g828_145, g828_146, g828_147, g828_148, g828_151, m88, m89, m90, m91, m92, m93, m94, m95, m96, m97, m98, m99, m100, m101, m102, m103, m104, m105, m106, n0, n1, n2, n5, n7, n8, n10, n17, n18, n19, n20, n21, n22, n23, n25, n26, n27, n28, h11, i_le, z3, y1, y2, e1, e2, b1, d1, ex, ki, show k < 100 by omega, show 100 * r + k < 600 by omega]
/-- names, as they are told before a text is read -/
def wNm (h : zH) (nm : zW0) : zH := wI (wI (wI (wI (wI (wI h 96 0 (nm 0)) 96 1 (nm 1)) 96 2 (nm 2)) 96 3 (nm 3)) 96 4 (nm 4)) 96 5 (nm 5)
theorem wNm_SC (nm : zW0) : FS SC h (wNm h nm) := FS_t (FS_t (FS_t (FS_t (FS_t (FS_I _ (by unfold SC; omega)) (FS_I _ (by unfold SC; omega))) (FS_I _ (by unfold SC; omega))) (FS_I _ (by unfold SC; omega))) (FS_I _ (by unfold SC; omega))) (FS_I _ (by unfold SC; omega))
theorem wNm_v (nm : zW0) : ∀ k, k < 6 → zI (wNm h nm) 96 k = nm k := by
  intro k hk
  unfold wNm
  rcases (by omega : k = 0 ∨ k = 1 ∨ k = 2 ∨ k = 3 ∨ k = 4 ∨ k = 5) with rfl | rfl | rfl | rfl | rfl | rfl <;> simp +decide only [zI_wI, if_true, if_false, up_a]
theorem r_names (hM : MO h) (ht : t < 6) (Q : zQq) : zG (d + 1) 828 0 [some (.ref 88), some (.int (nI t)), none, none] [] h Q = zG (d + 1) 828 77 [some (.ref 88), some (.int (nI t)), none, none] [] (wNm h (sNm (zI h 89) t)) Q := by
  have M1 := hM.1
  generalize hw0 : zI h 89 = w at *
  have n0 : sNm w t 0 = nI t := rfl
  have n1 : sNm w t 1 = w (10 * t) := rfl
  have n2 : sNm w t 2 = w (10 * t + 1) := rfl
  have n3 : sNm w t 3 = w (10 * t + 2) / 10 := rfl
  have n4 : sNm w t 4 = w (10 * t + 5) - w (10 * t + 5) / 10 * 10 := rfl
  have n5 : sNm w t 5 = w 62 - w 62 / 10 * 10 := rfl
  unfold wNm
  rw [n0, n1, n2, n3, n4, n5]
  obtain ⟨m88, m89, m90, m91, m92, m93, m94, m95, m96, m97, m98, m99, m100, m101, m102, m103, m104, m105, m106, n0, n1, n2, n5, n7, n8, n10, n17, n18, n19, n20, n21, n22, n23, n25, n26, n27, n28⟩ := id M1
  simp +decide only [Nat.reduceEqDiff, Nat.add_eq_left, Nat.left_eq_add, Nat.reduceAdd, Nat.reduceLeDiff, Nat.reduceMul, Nat.reduceSub, Nat.reduceLT, zlt8, zlt8_, zlt8n, zlt8n_, List.length_cons, List.length_nil, true_or, or_true, false_or, or_false, and_self, and_true, true_and, and_false, false_and, not_false_eq_true, not_true_eq_false, ite_true, ite_false, if_true, if_false, ite_not, zin, zpush_s, zpush_n, kl_int, kl_ref, kl_none, kl_kl, kl_long, kl_null, zT_wI, zT_wJ, zT_wR, zT_wIr, zT_wJr, zT_wRr, zI_wJ, zI_wR, zI_wJr, zI_wRr, zJ_wI, zJ_wR, zJ_wIr, zJ_wRr, zR_wI, zR_wJ, zR_wIr, zR_wJr, zN_wI, zN_wJ, zN_wR, zN_wIr, zN_wJr, zN_wRr, zZ_wI, zZ_wJ, zZ_wR, zZ_wIr, zZ_wJr, zZ_wRr, zI_wI, zJ_wJ, zR_wR, zI_wIr, zJ_wJr, zR_wRr, g828_0, g828_1, g828_4, g828_5, g828_6, g828_7, g828_8, g828_11, g828_12, g828_13, g828_14, g828_15, g828_18, g828_19, g828_20, g828_23, g828_24, g828_25, g828_26, g828_27, g828_30, g828_31, g828_32, g828_35, g828_36, g828_37, g828_38, g828_39, g828_42, g828_44, g828_45, g828_46, g828_47, g828_50, g828_51, g828_52, g828_53, g828_54, g828_57, g828_59, g828_60, g828_61, g828_62, g828_65, g828_66, g828_67, g828_70, g828_72, g828_73, g828_75, g828_76, m88, m89, m90, m91, m92, m93, m94, m95, m96, m97, m98, m99, m100, m101, m102, m103, m104, m105, m106, n0, n1, n2, n5, n7, n8, n10, n17, n18, n19, n20, n21, n22, n23, n25, n26, n27, n28, c_one0, c_one1, c_one2, c_one5, MS_wI, M1, ht, hw0, show Int32.toNatClampNeg 62 = 62 by decide, show ¬ (62 : Int32) < 0 by decide, show Int32.toNatClampNeg 0 = 0 by decide, show Int32.toNatClampNeg 1 = 1 by decide, show Int32.toNatClampNeg 2 = 2 by decide, show Int32.toNatClampNeg 3 = 3 by decide, show Int32.toNatClampNeg 4 = 4 by decide, show Int32.toNatClampNeg 5 = 5 by decide]
theorem r_pay_end (m88 : zT h 88 = (8, 29)) (hf : zI h 88 4 = fo) (l1 l2 l3 : Option Value) : ∃ h1, FS SC h h1 ∧ zI h1 88 16 = (if fo < 0 then zI h 88 16 else fo) ∧ zI h1 88 15 = zI h 88 15 + (if fo < 0 then zI h 88 16 else fo) ∧ ∀ Q, zG d 828 159 [some (.ref 88), l1, l2, l3] [] h Q = Q none h1 := by
  refine ⟨wI (wI h 88 16 (if fo < 0 then zI h 88 16 else fo)) 88 15 (zI h 88 15 + (if fo < 0 then zI h 88 16 else fo)), FS_t (FS_I _ (by unfold SC; omega)) (FS_I _ (by unfold SC; omega)), by simp +decide only [zI_wI, if_true, if_false, up_a], by simp +decide only [zI_wI, if_true, if_false, up_a], fun Q => ?_⟩
  by_cases q : fo < 0 <;> simp +decide only [Nat.reduceEqDiff, Nat.add_eq_left, Nat.left_eq_add, Nat.reduceAdd, Nat.reduceLeDiff, Nat.reduceMul, Nat.reduceSub, Nat.reduceLT, zlt8, zlt8_, zlt8n, zlt8n_, List.length_cons, List.length_nil, true_or, or_true, false_or, or_false, and_self, and_true, true_and, and_false, false_and, not_false_eq_true, not_true_eq_false, ite_true, ite_false, if_true, if_false, ite_not, zin, zpush_s, zpush_n, kl_int, kl_ref, kl_none, kl_kl, kl_long, kl_null, zT_wI, zT_wJ, zT_wR, zT_wIr, zT_wJr, zT_wRr, zI_wJ, zI_wR, zI_wJr, zI_wRr, zJ_wI, zJ_wR, zJ_wIr, zJ_wRr, zR_wI, zR_wJ, zR_wIr, zR_wJr, zN_wI, zN_wJ, zN_wR, zN_wIr, zN_wJr, zN_wRr, zZ_wI, zZ_wJ, zZ_wR, zZ_wIr, zZ_wJr, zZ_wRr, zI_wI, zJ_wJ, zR_wR, zI_wIr, zJ_wJr, zR_wRr, g828_159, g828_160, g828_161, g828_164, g828_167, g828_168, g828_171, g828_174, g828_175, g828_178, g828_181, g828_182, g828_183, g828_186, g828_187, g828_190, g828_191, g828_194, m88, hf, q, up_a]
theorem SC_MO (f : FS SC h h1) (m : MO h) : MO h1 := MO_N (FS_m SC_N f) m
theorem c_readFor (hM : MO h) (hw : sOK (zI h 89) n D) (ht : t < 6) (hT : Tx h (zI h 89) py ex) (hf : zI h 88 4 = fo) : ∃ h1, FS SC h h1 ∧ zI h1 88 15 = sSum (if fo < 0 then py else fo) ex (zI h 89) t ∧ zI h1 88 16 = (if fo < 0 then py else fo) ∧ ∀ Q, zCall (d + 21) 828 [.ref 88, .int (nI t)] h Q = Q none h1 := by
  have hn := fun Q => r_names (d := d + 19) hM ht Q
  have f0 : FS SC h (wNm h (sNm (zI h 89) t)) := wNm_SC _
  have M0 := SC_MO f0 hM
  have v0 := wNm_v (h := h) (sNm (zI h 89) t)
  generalize wNm h (sNm (zI h 89) t) = h2 at *
  have e89 : zI h2 89 = zI h 89 := funext fun k => f0.2.2.2.2.1 _ _ (by unfold SC; omega)
  have e93 : zI h2 93 = zI h 93 := funext fun k => f0.2.2.2.2.1 _ _ (by unfold SC; omega)
  have e94 : zI h2 94 = zI h 94 := funext fun k => f0.2.2.2.2.1 _ _ (by unfold SC; omega)
  have e4 : zI h2 88 4 = fo := by rw [f0.2.2.2.2.1 _ _ (by unfold SC; omega)]; exact hf
  rcases hT with ⟨t1, t2, t3⟩ | ⟨r, s, p, cs, r1, r2, r3, r4, r5⟩
  · have fa : FS SC h2 (wI (wI h2 88 15 0) 88 16 10) := FS_t (FS_I _ (by unfold SC; omega)) (FS_I _ (by unfold SC; omega))
    have a15 : zI (wI (wI h2 88 15 0) 88 16 10) 88 15 = 0 := by simp +decide only [zI_wI, if_true, if_false, up_a]
    have a16 : zI (wI (wI h2 88 15 0) 88 16 10) 88 16 = 10 := by simp +decide only [zI_wI, if_true, if_false, up_a]
    have Ma := SC_MO fa M0
    obtain ⟨h3, f3, g1, g2, g3⟩ := r_pay_end (d := d + 20) Ma.1.1 (fo := fo) (by rw [fa.2.2.2.2.1 _ _ (by unfold SC; omega)]; exact e4) (some (.int (nI t))) none none
    rw [a16] at g1 g2
    rw [a15] at g2
    refine ⟨h3, FS_t f0 (FS_t fa f3), by rw [g2, t2, t3]; rfl, by rw [g1, t2], fun Q => ?_⟩
    have m88 := M0.1.1
    obtain ⟨m88, m89, m90, m91, m92, m93, m94, m95, m96, m97, m98, m99, m100, m101, m102, m103, m104, m105, m106, n0, n1, n2, n5, n7, n8, n10, n17, n18, n19, n20, n21, n22, n23, n25, n26, n27, n28⟩ := id M0.1
    simp +decide only [Nat.reduceEqDiff, Nat.add_eq_left, Nat.left_eq_add, Nat.reduceAdd, Nat.reduceLeDiff, Nat.reduceMul, Nat.reduceSub, Nat.reduceLT, zlt8, zlt8_, zlt8n, zlt8n_, List.length_cons, List.length_nil, true_or, or_true, false_or, or_false, and_self, and_true, true_and, and_false, false_and, not_false_eq_true, not_true_eq_false, ite_true, ite_false, if_true, if_false, ite_not, zin, zpush_s, zpush_n, kl_int, kl_ref, kl_none, kl_kl, kl_long, kl_null, zT_wI, zT_wJ, zT_wR, zT_wIr, zT_wJr, zT_wRr, zI_wJ, zI_wR, zI_wJr, zI_wRr, zJ_wI, zJ_wR, zJ_wIr, zJ_wRr, zR_wI, zR_wJ, zR_wIr, zR_wJr, zN_wI, zN_wJ, zN_wR, zN_wIr, zN_wJr, zN_wRr, zZ_wI, zZ_wJ, zZ_wR, zZ_wIr, zZ_wJr, zZ_wRr, zI_wI, zJ_wJ, zR_wR, zI_wIr, zJ_wJr, zR_wRr, k828]
    rw [hn]
    simp +decide only [Nat.reduceEqDiff, Nat.add_eq_left, Nat.left_eq_add, Nat.reduceAdd, Nat.reduceLeDiff, Nat.reduceMul, Nat.reduceSub, Nat.reduceLT, zlt8, zlt8_, zlt8n, zlt8n_, List.length_cons, List.length_nil, true_or, or_true, false_or, or_false, and_self, and_true, true_and, and_false, false_and, not_false_eq_true, not_true_eq_false, ite_true, ite_false, if_true, if_false, ite_not, zin, zpush_s, zpush_n, kl_int, kl_ref, kl_none, kl_kl, kl_long, kl_null, zT_wI, zT_wJ, zT_wR, zT_wIr, zT_wJr, zT_wRr, zI_wJ, zI_wR, zI_wJr, zI_wRr, zJ_wI, zJ_wR, zJ_wIr, zJ_wRr, zR_wI, zR_wJ, zR_wIr, zR_wJr, zN_wI, zN_wJ, zN_wR, zN_wIr, zN_wJr, zN_wRr, zZ_wI, zZ_wJ, zZ_wR, zZ_wIr, zZ_wJr, zZ_wRr, zI_wI, zJ_wJ, zR_wR, zI_wIr, zJ_wJr, zR_wRr, g828_77, g828_78, g828_81, g828_83, g828_84, g828_87, g828_88, g828_89, g828_92, g828_93, g828_95, g828_98, m88, m89, m90, m91, m92, m93, m94, m95, m96, m97, m98, m99, m100, m101, m102, m103, m104, m105, m106, n0, n1, n2, n5, n7, n8, n10, n17, n18, n19, n20, n21, n22, n23, n25, n26, n27, n28, e89, t1, show Int32.toNatClampNeg 63 = 63 by decide, show ¬ (63 : Int32) < 0 by decide]
    exact g3 Q
  · have fa : FS SC h2 (wI h2 88 11 (nI s)) := FS_I _ (by unfold SC; omega)
    have Ma := SC_MO fa M0
    obtain ⟨h3, f3, g3, c3⟩ := r_copy_lp (d := d + 20) (y := nI t) (h := h) (x := fun k => zI h 93 (100 * r + k)) (s := s) r1 r4 (fun k hk => rfl) s 0 (wI h2 88 11 (nI s)) (by omega) Ma.1 (fun j => by rw [zI_wI, if_neg (by omega), e93]) (by rw [zI_wI, if_pos rfl, up_s]) (fun j hj => by omega)
    have f3' : FS SC (wI h2 88 11 (nI s)) h3 := FS_m (fun b k z => by unfold S95 at z; unfold SC; omega) f3
    have M3 := SC_MO f3' Ma
    have q : PQ h3 (fun k => zI h 93 (100 * r + k)) s (sNm (zI h 89) t) := ⟨M3, g3, by rw [f3.2.2.2.2.1 _ _ (by unfold S95; omega), zI_wI, if_pos rfl, up_s], r4, fun k hk => by rw [f3.2.2.2.2.1 _ _ (by unfold S95; omega), zI_wI, if_neg (by omega)]; exact v0 k hk⟩
    obtain ⟨h4, f4, u1, u2, u3, u4⟩ := r_readAll (d := d) q
    obtain ⟨u5, u6⟩ := u3 _ (by rw [r5])
    have f4' : FS SC h3 h4 := FS_m (fun b k z => by unfold S6 at z; unfold SC; omega) f4
    have M4 := SC_MO f4' M3
    have F4 := FS_t f0 (FS_t fa (FS_t f3' f4'))
    obtain ⟨h5, f5, w1, w2, w3⟩ := r_pay_end (d := d + 20) M4.1.1 (fo := fo) (by rw [F4.2.2.2.2.1 _ _ (by unfold SC; omega)]; exact hf) (some (.int (nI t))) (some (.int (nI r))) (some (.int (nI s)))
    rw [u5] at w1 w2
    rw [u6] at w2
    refine ⟨h5, FS_t F4 f5, by rw [w2]; rfl, w1, fun Q => ?_⟩
    have k3 := M3.1.1
    have c3' : ∀ Q, zG (d + 20) 828 123 [some (.ref 88), some (.int (nI t)), some (.int (nI r)), some (.int 0)] [] (wI h2 88 11 (nI s)) Q = _ := c3
    have nz : ¬ nI (r + 1) = 0 := nI_ne0 (by omega) (by omega)
    have zp : nI (r + 1) - 1 = nI r := nI_pred r
    have b1 := nI_pos (n := r) (by omega)
    have d1 := nI_clamp (n := r) (by omega)
    obtain ⟨m88, m89, m90, m91, m92, m93, m94, m95, m96, m97, m98, m99, m100, m101, m102, m103, m104, m105, m106, n0, n1, n2, n5, n7, n8, n10, n17, n18, n19, n20, n21, n22, n23, n25, n26, n27, n28⟩ := id M0.1
    simp +decide only [Nat.reduceEqDiff, Nat.add_eq_left, Nat.left_eq_add, Nat.reduceAdd, Nat.reduceLeDiff, Nat.reduceMul, Nat.reduceSub, Nat.reduceLT, zlt8, zlt8_, zlt8n, zlt8n_, List.length_cons, List.length_nil, true_or, or_true, false_or, or_false, and_self, and_true, true_and, and_false, false_and, not_false_eq_true, not_true_eq_false, ite_true, ite_false, if_true, if_false, ite_not, zin, zpush_s, zpush_n, kl_int, kl_ref, kl_none, kl_kl, kl_long, kl_null, zT_wI, zT_wJ, zT_wR, zT_wIr, zT_wJr, zT_wRr, zI_wJ, zI_wR, zI_wJr, zI_wRr, zJ_wI, zJ_wR, zJ_wIr, zJ_wRr, zR_wI, zR_wJ, zR_wIr, zR_wJr, zN_wI, zN_wJ, zN_wR, zN_wIr, zN_wJr, zN_wRr, zZ_wI, zZ_wJ, zZ_wR, zZ_wIr, zZ_wJr, zZ_wRr, zI_wI, zJ_wJ, zR_wR, zI_wIr, zJ_wJr, zR_wRr, k828]
    rw [hn]
    simp +decide only [Nat.reduceEqDiff, Nat.add_eq_left, Nat.left_eq_add, Nat.reduceAdd, Nat.reduceLeDiff, Nat.reduceMul, Nat.reduceSub, Nat.reduceLT, zlt8, zlt8_, zlt8n, zlt8n_, List.length_cons, List.length_nil, true_or, or_true, false_or, or_false, and_self, and_true, true_and, and_false, false_and, not_false_eq_true, not_true_eq_false, ite_true, ite_false, if_true, if_false, ite_not, zin, zpush_s, zpush_n, kl_int, kl_ref, kl_none, kl_kl, kl_long, kl_null, zT_wI, zT_wJ, zT_wR, zT_wIr, zT_wJr, zT_wRr, zI_wJ, zI_wR, zI_wJr, zI_wRr, zJ_wI, zJ_wR, zJ_wIr, zJ_wRr, zR_wI, zR_wJ, zR_wIr, zR_wJr, zN_wI, zN_wJ, zN_wR, zN_wIr, zN_wJr, zN_wRr, zZ_wI, zZ_wJ, zZ_wR, zZ_wIr, zZ_wJr, zZ_wRr, zI_wI, zJ_wJ, zR_wR, zI_wIr, zJ_wJr, zR_wRr, g828_77, g828_78, g828_81, g828_83, g828_84, g828_101, g828_102, g828_105, g828_107, g828_108, g828_109, g828_110, g828_111, g828_112, g828_113, g828_116, g828_117, g828_118, g828_121, g828_122, m88, m89, m90, m91, m92, m93, m94, m95, m96, m97, m98, m99, m100, m101, m102, m103, m104, m105, m106, n0, n1, n2, n5, n7, n8, n10, n17, n18, n19, n20, n21, n22, n23, n25, n26, n27, n28, e89, e94, r2, r3, nz, zp, b1, d1, r1, show Int32.toNatClampNeg 63 = 63 by decide, show ¬ (63 : Int32) < 0 by decide]
    rw [c3']
    simp +decide only [Nat.reduceEqDiff, Nat.add_eq_left, Nat.left_eq_add, Nat.reduceAdd, Nat.reduceLeDiff, Nat.reduceMul, Nat.reduceSub, Nat.reduceLT, zlt8, zlt8_, zlt8n, zlt8n_, List.length_cons, List.length_nil, true_or, or_true, false_or, or_false, and_self, and_true, true_and, and_false, false_and, not_false_eq_true, not_true_eq_false, ite_true, ite_false, if_true, if_false, ite_not, zin, zpush_s, zpush_n, kl_int, kl_ref, kl_none, kl_kl, kl_long, kl_null, zT_wI, zT_wJ, zT_wR, zT_wIr, zT_wJr, zT_wRr, zI_wJ, zI_wR, zI_wJr, zI_wRr, zJ_wI, zJ_wR, zJ_wIr, zJ_wRr, zR_wI, zR_wJ, zR_wIr, zR_wJr, zN_wI, zN_wJ, zN_wR, zN_wIr, zN_wJr, zN_wRr, zZ_wI, zZ_wJ, zZ_wR, zZ_wIr, zZ_wJr, zZ_wRr, zI_wI, zJ_wJ, zR_wR, zI_wIr, zJ_wJr, zR_wRr, g828_154, g828_155, g828_158, k3, u4]
    exact w3 Q
