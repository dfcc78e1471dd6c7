-- needs 79.start
variable {n D D2 q L c1 c2 c3 a b t s r d K k kd i j ln c m M N p p2 z : Nat} {h h0 h1 h2 h3 h4 g0 : zH} {w w1 x nm : zW0} {sv : Value} {xs : zW0} {ex : zW0 → Int32} {ty : Nat × Nat}
/-- the law's cells -/
def LC (h : zH) (xs : zW0) (L : Nat) : Prop := zT h 88 = (8, 29) ∧ zT h 1000000 = (30, L) ∧ ∀ j, j < L → zI h 1000000 j = xs j
theorem LC_G (g : GI h xs L) : zT h 0 = (7, 10) ∧ LC h xs L := by
  obtain ⟨q, n, D, w, c1, c2, c3, sv, go, gm⟩ := g
  obtain ⟨o1, o2, o3, o4, o5, o6, o7, o8⟩ := go.1.2.2.2.2.2.2.2.2.2
  exact ⟨go.1.1.1, go.1.2.2.2.2.2.2.1.1.1, o7, o8⟩
theorem LC_F (f : Fr h h1) (g : LC h xs L) : LC h1 xs L := ⟨by rw [f.1]; exact g.1, by rw [f.2.1]; exact g.2.1, fun j hj => by rw [f.2.2]; exact g.2.2 j hj⟩
theorem zcmp_r (u : Int64) : zcmp u u = 0 := by unfold zcmp; rw [if_neg Int64.lt_irrefl, if_pos rfl]
theorem ixs (hi : i + 6 ≤ L) (hL : L ≤ 3072) (j : Nat) (hj : j < 6) : ¬ nI (i + j) < 0 ∧ (nI (i + j)).toNatClampNeg = i + j := ⟨nI_pos (by omega), nI_clamp (by omega)⟩
theorem lw_702 (g : GI h xs L) (hi : i + 6 ≤ L) (hL : L ≤ 3072) : ∃ h2, GI h2 xs L ∧ ∀ Q, zG 60 1301 176 [some (.ref 1000000), some (.ref 0), some (.ref 88), some (.int (nI i))] [] h Q = zG 60 1301 1251 [some (.ref 1000000), some (.ref 0), some (.ref 88), some (.int (nI i))] [] h2 Q := by
  obtain ⟨t0, lc⟩ := LC_G g
  obtain ⟨r, h1, h2, fr, q1, q2, g2⟩ := P_traveller g (xs (i + 1)) (xs (i + 2)) (xs (i + 3)) (xs (i + 4))
  obtain ⟨a1, a2, a3⟩ := id lc
  obtain ⟨b1, b2, b3⟩ := LC_F fr lc
  obtain ⟨u1, v1⟩ := ixs hi hL 1 (by omega)
  have e1 := a3 (i + 1) (by omega)
  have f1 := b3 (i + 1) (by omega)
  have k1 : nI i + 1 = nI (i + 1) := nI_add i 1
  have l1 : i + 1 < L := by omega
  obtain ⟨u2, v2⟩ := ixs hi hL 2 (by omega)
  have e2 := a3 (i + 2) (by omega)
  have f2 := b3 (i + 2) (by omega)
  have k2 : nI i + 2 = nI (i + 2) := nI_add i 2
  have l2 : i + 2 < L := by omega
  obtain ⟨u3, v3⟩ := ixs hi hL 3 (by omega)
  have e3 := a3 (i + 3) (by omega)
  have f3 := b3 (i + 3) (by omega)
  have k3 : nI i + 3 = nI (i + 3) := nI_add i 3
  have l3 : i + 3 < L := by omega
  obtain ⟨u4, v4⟩ := ixs hi hL 4 (by omega)
  have e4 := a3 (i + 4) (by omega)
  have f4 := b3 (i + 4) (by omega)
  have k4 : nI i + 4 = nI (i + 4) := nI_add i 4
  have l4 : i + 4 < L := by omega
  have Q1 : ∀ Q, zCall 60 702 _ h Q = Q (some (.int r.1)) h1 := q1
  have Q2 : ∀ Q, zCall 60 810 _ h1 Q = Q (some (.int r.1)) h2 := q2
  clear q1 q2
  refine ⟨h2, g2, fun Q => ?_⟩
  simp +decide only [Nat.reduceEqDiff, Nat.add_eq_left, Nat.left_eq_add, Nat.reduceAdd, Nat.reduceLeDiff, Nat.reduceMul, Nat.reduceSub, Nat.reduceLT, zlt8, zlt8_, zlt8n, zlt8n_, List.length_cons, List.length_nil, true_or, or_true, false_or, or_false, and_self, and_true, true_and, and_false, false_and, not_false_eq_true, not_true_eq_false, ite_true, ite_false, if_true, if_false, ite_not, zin, zpush_s, zpush_n, kl_int, kl_ref, kl_none, kl_kl, kl_long, kl_null, VR_i, VR_l, zT_wI, zT_wJ, zT_wR, zT_wIr, zT_wJr, zT_wRr, zI_wJ, zI_wR, zI_wJr, zI_wRr, zJ_wI, zJ_wR, zJ_wIr, zJ_wRr, zR_wI, zR_wJ, zR_wIr, zR_wJr, zN_wI, zN_wJ, zN_wR, zN_wIr, zN_wJr, zN_wRr, zZ_wI, zZ_wJ, zZ_wR, zZ_wIr, zZ_wJr, zZ_wRr, zI_wI, zJ_wJ, zR_wR, zI_wIr, zJ_wJr, zR_wRr, g1301_176, g1301_177, g1301_178, g1301_179, g1301_180, g1301_181, g1301_182, g1301_183, g1301_184, g1301_185, g1301_186, g1301_187, g1301_188, g1301_189, g1301_190, g1301_191, g1301_192, g1301_193, g1301_194, g1301_195, g1301_196, g1301_197, g1301_200, g1301_201, g1301_202, g1301_203, g1301_204, g1301_205, g1301_206, g1301_207, g1301_208, g1301_209, g1301_210, g1301_211, g1301_212, g1301_213, g1301_214, g1301_215, g1301_216, g1301_217, g1301_218, g1301_219, g1301_220, g1301_221, g1301_224, g1301_227, g1301_228, t0, a1, a2, b1, b2, u1, v1, e1, f1, k1, l1, u2, v2, e2, f2, k2, l2, u3, v3, e3, f3, k3, l3, u4, v4, e4, f4, k4, l4,  Q1, Q2]
theorem lw_703 (g : GI h xs L) (hi : i + 6 ≤ L) (hL : L ≤ 3072) : ∃ h2, GI h2 xs L ∧ ∀ Q, zG 60 1301 229 [some (.ref 1000000), some (.ref 0), some (.ref 88), some (.int (nI i))] [] h Q = zG 60 1301 1251 [some (.ref 1000000), some (.ref 0), some (.ref 88), some (.int (nI i))] [] h2 Q := by
  obtain ⟨t0, lc⟩ := LC_G g
  obtain ⟨r, h1, h2, fr, q1, q2, g2⟩ := P_of g (xs (i + 1)) (xs (i + 2))
  obtain ⟨a1, a2, a3⟩ := id lc
  obtain ⟨b1, b2, b3⟩ := LC_F fr lc
  obtain ⟨u1, v1⟩ := ixs hi hL 1 (by omega)
  have e1 := a3 (i + 1) (by omega)
  have f1 := b3 (i + 1) (by omega)
  have k1 : nI i + 1 = nI (i + 1) := nI_add i 1
  have l1 : i + 1 < L := by omega
  obtain ⟨u2, v2⟩ := ixs hi hL 2 (by omega)
  have e2 := a3 (i + 2) (by omega)
  have f2 := b3 (i + 2) (by omega)
  have k2 : nI i + 2 = nI (i + 2) := nI_add i 2
  have l2 : i + 2 < L := by omega
  have Q1 : ∀ Q, zCall 60 703 _ h Q = Q (some (.int r.1)) h1 := q1
  have Q2 : ∀ Q, zCall 60 811 _ h1 Q = Q (some (.int r.1)) h2 := q2
  clear q1 q2
  refine ⟨h2, g2, fun Q => ?_⟩
  simp +decide only [Nat.reduceEqDiff, Nat.add_eq_left, Nat.left_eq_add, Nat.reduceAdd, Nat.reduceLeDiff, Nat.reduceMul, Nat.reduceSub, Nat.reduceLT, zlt8, zlt8_, zlt8n, zlt8n_, List.length_cons, List.length_nil, true_or, or_true, false_or, or_false, and_self, and_true, true_and, and_false, false_and, not_false_eq_true, not_true_eq_false, ite_true, ite_false, if_true, if_false, ite_not, zin, zpush_s, zpush_n, kl_int, kl_ref, kl_none, kl_kl, kl_long, kl_null, VR_i, VR_l, zT_wI, zT_wJ, zT_wR, zT_wIr, zT_wJr, zT_wRr, zI_wJ, zI_wR, zI_wJr, zI_wRr, zJ_wI, zJ_wR, zJ_wIr, zJ_wRr, zR_wI, zR_wJ, zR_wIr, zR_wJr, zN_wI, zN_wJ, zN_wR, zN_wIr, zN_wJr, zN_wRr, zZ_wI, zZ_wJ, zZ_wR, zZ_wIr, zZ_wJr, zZ_wRr, zI_wI, zJ_wJ, zR_wR, zI_wIr, zJ_wJr, zR_wRr, g1301_229, g1301_230, g1301_231, g1301_232, g1301_233, g1301_234, g1301_235, g1301_236, g1301_237, g1301_238, g1301_239, g1301_240, g1301_243, g1301_244, g1301_245, g1301_246, g1301_247, g1301_248, g1301_249, g1301_250, g1301_251, g1301_252, g1301_253, g1301_254, g1301_257, g1301_260, g1301_261, t0, a1, a2, b1, b2, u1, v1, e1, f1, k1, l1, u2, v2, e2, f2, k2, l2,  Q1, Q2]
theorem lw_704 (g : GI h xs L) (hi : i + 6 ≤ L) (hL : L ≤ 3072) : ∃ h2, GI h2 xs L ∧ ∀ Q, zG 60 1301 262 [some (.ref 1000000), some (.ref 0), some (.ref 88), some (.int (nI i))] [] h Q = zG 60 1301 1251 [some (.ref 1000000), some (.ref 0), some (.ref 88), some (.int (nI i))] [] h2 Q := by
  obtain ⟨t0, lc⟩ := LC_G g
  obtain ⟨r, h1, h2, fr, q1, q2, g2⟩ := P_set g (xs (i + 1)) (xs (i + 2)) (xs (i + 3))
  obtain ⟨a1, a2, a3⟩ := id lc
  obtain ⟨b1, b2, b3⟩ := LC_F fr lc
  obtain ⟨u1, v1⟩ := ixs hi hL 1 (by omega)
  have e1 := a3 (i + 1) (by omega)
  have f1 := b3 (i + 1) (by omega)
  have k1 : nI i + 1 = nI (i + 1) := nI_add i 1
  have l1 : i + 1 < L := by omega
  obtain ⟨u2, v2⟩ := ixs hi hL 2 (by omega)
  have e2 := a3 (i + 2) (by omega)
  have f2 := b3 (i + 2) (by omega)
  have k2 : nI i + 2 = nI (i + 2) := nI_add i 2
  have l2 : i + 2 < L := by omega
  obtain ⟨u3, v3⟩ := ixs hi hL 3 (by omega)
  have e3 := a3 (i + 3) (by omega)
  have f3 := b3 (i + 3) (by omega)
  have k3 : nI i + 3 = nI (i + 3) := nI_add i 3
  have l3 : i + 3 < L := by omega
  have Q1 : ∀ Q, zCall 60 704 _ h Q = Q (some (.int r.1)) h1 := q1
  have Q2 : ∀ Q, zCall 60 812 _ h1 Q = Q (some (.int r.1)) h2 := q2
  clear q1 q2
  refine ⟨h2, g2, fun Q => ?_⟩
  simp +decide only [Nat.reduceEqDiff, Nat.add_eq_left, Nat.left_eq_add, Nat.reduceAdd, Nat.reduceLeDiff, Nat.reduceMul, Nat.reduceSub, Nat.reduceLT, zlt8, zlt8_, zlt8n, zlt8n_, List.length_cons, List.length_nil, true_or, or_true, false_or, or_false, and_self, and_true, true_and, and_false, false_and, not_false_eq_true, not_true_eq_false, ite_true, ite_false, if_true, if_false, ite_not, zin, zpush_s, zpush_n, kl_int, kl_ref, kl_none, kl_kl, kl_long, kl_null, VR_i, VR_l, zT_wI, zT_wJ, zT_wR, zT_wIr, zT_wJr, zT_wRr, zI_wJ, zI_wR, zI_wJr, zI_wRr, zJ_wI, zJ_wR, zJ_wIr, zJ_wRr, zR_wI, zR_wJ, zR_wIr, zR_wJr, zN_wI, zN_wJ, zN_wR, zN_wIr, zN_wJr, zN_wRr, zZ_wI, zZ_wJ, zZ_wR, zZ_wIr, zZ_wJr, zZ_wRr, zI_wI, zJ_wJ, zR_wR, zI_wIr, zJ_wJr, zR_wRr, g1301_262, g1301_263, g1301_264, g1301_265, g1301_266, g1301_267, g1301_268, g1301_269, g1301_270, g1301_271, g1301_272, g1301_273, g1301_274, g1301_275, g1301_276, g1301_277, g1301_278, g1301_281, g1301_282, g1301_283, g1301_284, g1301_285, g1301_286, g1301_287, g1301_288, g1301_289, g1301_290, g1301_291, g1301_292, g1301_293, g1301_294, g1301_295, g1301_296, g1301_297, g1301_300, g1301_303, g1301_304, t0, a1, a2, b1, b2, u1, v1, e1, f1, k1, l1, u2, v2, e2, f2, k2, l2, u3, v3, e3, f3, k3, l3,  Q1, Q2]
theorem lw_705 (g : GI h xs L) (hi : i + 6 ≤ L) (hL : L ≤ 3072) : ∃ h2, GI h2 xs L ∧ ∀ Q, zG 60 1301 305 [some (.ref 1000000), some (.ref 0), some (.ref 88), some (.int (nI i))] [] h Q = zG 60 1301 1251 [some (.ref 1000000), some (.ref 0), some (.ref 88), some (.int (nI i))] [] h2 Q := by
  obtain ⟨t0, lc⟩ := LC_G g
  obtain ⟨r, h1, h2, fr, q1, q2, g2⟩ := P_back g (xs (i + 1)) (if xs (i + 2) = 0 then 0 else 1) (by split <;> simp)
  obtain ⟨a1, a2, a3⟩ := id lc
  obtain ⟨b1, b2, b3⟩ := LC_F fr lc
  obtain ⟨u1, v1⟩ := ixs hi hL 1 (by omega)
  have e1 := a3 (i + 1) (by omega)
  have f1 := b3 (i + 1) (by omega)
  have k1 : nI i + 1 = nI (i + 1) := nI_add i 1
  have l1 : i + 1 < L := by omega
  obtain ⟨u2, v2⟩ := ixs hi hL 2 (by omega)
  have e2 := a3 (i + 2) (by omega)
  have f2 := b3 (i + 2) (by omega)
  have k2 : nI i + 2 = nI (i + 2) := nI_add i 2
  have l2 : i + 2 < L := by omega
  have Q1 : ∀ Q, zCall 60 705 _ h Q = Q (some (.int r.1)) h1 := q1
  have Q2 : ∀ Q, zCall 60 814 _ h1 Q = Q (some (.int r.1)) h2 := q2
  clear q1 q2
  refine ⟨h2, g2, fun Q => ?_⟩
  by_cases hz : xs (i + 2) = 0
  · rw [if_pos hz] at Q1 Q2
    simp +decide only [Nat.reduceEqDiff, Nat.add_eq_left, Nat.left_eq_add, Nat.reduceAdd, Nat.reduceLeDiff, Nat.reduceMul, Nat.reduceSub, Nat.reduceLT, zlt8, zlt8_, zlt8n, zlt8n_, List.length_cons, List.length_nil, true_or, or_true, false_or, or_false, and_self, and_true, true_and, and_false, false_and, not_false_eq_true, not_true_eq_false, ite_true, ite_false, if_true, if_false, ite_not, zin, zpush_s, zpush_n, kl_int, kl_ref, kl_none, kl_kl, kl_long, kl_null, VR_i, VR_l, zT_wI, zT_wJ, zT_wR, zT_wIr, zT_wJr, zT_wRr, zI_wJ, zI_wR, zI_wJr, zI_wRr, zJ_wI, zJ_wR, zJ_wIr, zJ_wRr, zR_wI, zR_wJ, zR_wIr, zR_wJr, zN_wI, zN_wJ, zN_wR, zN_wIr, zN_wJr, zN_wRr, zZ_wI, zZ_wJ, zZ_wR, zZ_wIr, zZ_wJr, zZ_wRr, zI_wI, zJ_wJ, zR_wR, zI_wIr, zJ_wJr, zR_wRr, g1301_305, g1301_306, g1301_307, g1301_308, g1301_309, g1301_310, g1301_311, g1301_312, g1301_313, g1301_314, g1301_315, g1301_316, g1301_319, g1301_320, g1301_323, g1301_324, g1301_327, g1301_328, g1301_329, g1301_330, g1301_331, g1301_332, g1301_333, g1301_334, g1301_335, g1301_336, g1301_337, g1301_338, g1301_341, g1301_342, g1301_345, g1301_346, g1301_349, g1301_352, g1301_353, t0, a1, a2, b1, b2, u1, v1, e1, f1, k1, l1, u2, v2, e2, f2, k2, l2, Q1, Q2, hz]
  · rw [if_neg hz] at Q1 Q2
    simp +decide only [Nat.reduceEqDiff, Nat.add_eq_left, Nat.left_eq_add, Nat.reduceAdd, Nat.reduceLeDiff, Nat.reduceMul, Nat.reduceSub, Nat.reduceLT, zlt8, zlt8_, zlt8n, zlt8n_, List.length_cons, List.length_nil, true_or, or_true, false_or, or_false, and_self, and_true, true_and, and_false, false_and, not_false_eq_true, not_true_eq_false, ite_true, ite_false, if_true, if_false, ite_not, zin, zpush_s, zpush_n, kl_int, kl_ref, kl_none, kl_kl, kl_long, kl_null, VR_i, VR_l, zT_wI, zT_wJ, zT_wR, zT_wIr, zT_wJr, zT_wRr, zI_wJ, zI_wR, zI_wJr, zI_wRr, zJ_wI, zJ_wR, zJ_wIr, zJ_wRr, zR_wI, zR_wJ, zR_wIr, zR_wJr, zN_wI, zN_wJ, zN_wR, zN_wIr, zN_wJr, zN_wRr, zZ_wI, zZ_wJ, zZ_wR, zZ_wIr, zZ_wJr, zZ_wRr, zI_wI, zJ_wJ, zR_wR, zI_wIr, zJ_wJr, zR_wRr, g1301_305, g1301_306, g1301_307, g1301_308, g1301_309, g1301_310, g1301_311, g1301_312, g1301_313, g1301_314, g1301_315, g1301_316, g1301_319, g1301_320, g1301_323, g1301_324, g1301_327, g1301_328, g1301_329, g1301_330, g1301_331, g1301_332, g1301_333, g1301_334, g1301_335, g1301_336, g1301_337, g1301_338, g1301_341, g1301_342, g1301_345, g1301_346, g1301_349, g1301_352, g1301_353, t0, a1, a2, b1, b2, u1, v1, e1, f1, k1, l1, u2, v2, e2, f2, k2, l2, Q1, Q2, hz]
theorem lw_706 (g : GI h xs L) (hi : i + 6 ≤ L) (hL : L ≤ 3072) : ∃ h2, GI h2 xs L ∧ ∀ Q, zG 60 1301 354 [some (.ref 1000000), some (.ref 0), some (.ref 88), some (.int (nI i))] [] h Q = zG 60 1301 1251 [some (.ref 1000000), some (.ref 0), some (.ref 88), some (.int (nI i))] [] h2 Q := by
  obtain ⟨t0, lc⟩ := LC_G g
  obtain ⟨r, h1, h2, fr, q1, q2, g2⟩ := P_purse g (xs (i + 1))
  obtain ⟨a1, a2, a3⟩ := id lc
  obtain ⟨b1, b2, b3⟩ := LC_F fr lc
  obtain ⟨u1, v1⟩ := ixs hi hL 1 (by omega)
  have e1 := a3 (i + 1) (by omega)
  have f1 := b3 (i + 1) (by omega)
  have k1 : nI i + 1 = nI (i + 1) := nI_add i 1
  have l1 : i + 1 < L := by omega
  have Q1 : ∀ Q, zCall 60 706 _ h Q = Q (some (.int r.1)) h1 := q1
  have Q2 : ∀ Q, zCall 60 815 _ h1 Q = Q (some (.int r.1)) h2 := q2
  clear q1 q2
  refine ⟨h2, g2, fun Q => ?_⟩
  simp +decide only [Nat.reduceEqDiff, Nat.add_eq_left, Nat.left_eq_add, Nat.reduceAdd, Nat.reduceLeDiff, Nat.reduceMul, Nat.reduceSub, Nat.reduceLT, zlt8, zlt8_, zlt8n, zlt8n_, List.length_cons, List.length_nil, true_or, or_true, false_or, or_false, and_self, and_true, true_and, and_false, false_and, not_false_eq_true, not_true_eq_false, ite_true, ite_false, if_true, if_false, ite_not, zin, zpush_s, zpush_n, kl_int, kl_ref, kl_none, kl_kl, kl_long, kl_null, VR_i, VR_l, zT_wI, zT_wJ, zT_wR, zT_wIr, zT_wJr, zT_wRr, zI_wJ, zI_wR, zI_wJr, zI_wRr, zJ_wI, zJ_wR, zJ_wIr, zJ_wRr, zR_wI, zR_wJ, zR_wIr, zR_wJr, zN_wI, zN_wJ, zN_wR, zN_wIr, zN_wJr, zN_wRr, zZ_wI, zZ_wJ, zZ_wR, zZ_wIr, zZ_wJr, zZ_wRr, zI_wI, zJ_wJ, zR_wR, zI_wIr, zJ_wJr, zR_wRr, g1301_354, g1301_355, g1301_356, g1301_357, g1301_358, g1301_359, g1301_360, g1301_363, g1301_364, g1301_365, g1301_366, g1301_367, g1301_368, g1301_369, g1301_372, g1301_375, g1301_376, t0, a1, a2, b1, b2, u1, v1, e1, f1, k1, l1,  Q1, Q2]
theorem lw_707 (g : GI h xs L) (hi : i + 6 ≤ L) (hL : L ≤ 3072) : ∃ h2, GI h2 xs L ∧ ∀ Q, zG 60 1301 377 [some (.ref 1000000), some (.ref 0), some (.ref 88), some (.int (nI i))] [] h Q = zG 60 1301 1251 [some (.ref 1000000), some (.ref 0), some (.ref 88), some (.int (nI i))] [] h2 Q := by
  obtain ⟨t0, lc⟩ := LC_G g
  obtain ⟨r, h1, h2, fr, q1, q2, g2⟩ := P_row g (xs (i + 1)) (xs (i + 2)) (xs (i + 3))
  obtain ⟨a1, a2, a3⟩ := id lc
  obtain ⟨b1, b2, b3⟩ := LC_F fr lc
  obtain ⟨u1, v1⟩ := ixs hi hL 1 (by omega)
  have e1 := a3 (i + 1) (by omega)
  have f1 := b3 (i + 1) (by omega)
  have k1 : nI i + 1 = nI (i + 1) := nI_add i 1
  have l1 : i + 1 < L := by omega
  obtain ⟨u2, v2⟩ := ixs hi hL 2 (by omega)
  have e2 := a3 (i + 2) (by omega)
  have f2 := b3 (i + 2) (by omega)
  have k2 : nI i + 2 = nI (i + 2) := nI_add i 2
  have l2 : i + 2 < L := by omega
  obtain ⟨u3, v3⟩ := ixs hi hL 3 (by omega)
  have e3 := a3 (i + 3) (by omega)
  have f3 := b3 (i + 3) (by omega)
  have k3 : nI i + 3 = nI (i + 3) := nI_add i 3
  have l3 : i + 3 < L := by omega
  have Q1 : ∀ Q, zCall 60 707 _ h Q = Q (some (.int r.1)) h1 := q1
  have Q2 : ∀ Q, zCall 60 816 _ h1 Q = Q (some (.int r.1)) h2 := q2
  clear q1 q2
  refine ⟨h2, g2, fun Q => ?_⟩
  simp +decide only [Nat.reduceEqDiff, Nat.add_eq_left, Nat.left_eq_add, Nat.reduceAdd, Nat.reduceLeDiff, Nat.reduceMul, Nat.reduceSub, Nat.reduceLT, zlt8, zlt8_, zlt8n, zlt8n_, List.length_cons, List.length_nil, true_or, or_true, false_or, or_false, and_self, and_true, true_and, and_false, false_and, not_false_eq_true, not_true_eq_false, ite_true, ite_false, if_true, if_false, ite_not, zin, zpush_s, zpush_n, kl_int, kl_ref, kl_none, kl_kl, kl_long, kl_null, VR_i, VR_l, zT_wI, zT_wJ, zT_wR, zT_wIr, zT_wJr, zT_wRr, zI_wJ, zI_wR, zI_wJr, zI_wRr, zJ_wI, zJ_wR, zJ_wIr, zJ_wRr, zR_wI, zR_wJ, zR_wIr, zR_wJr, zN_wI, zN_wJ, zN_wR, zN_wIr, zN_wJr, zN_wRr, zZ_wI, zZ_wJ, zZ_wR, zZ_wIr, zZ_wJr, zZ_wRr, zI_wI, zJ_wJ, zR_wR, zI_wIr, zJ_wJr, zR_wRr, g1301_377, g1301_378, g1301_379, g1301_380, g1301_381, g1301_382, g1301_383, g1301_384, g1301_385, g1301_386, g1301_387, g1301_388, g1301_389, g1301_390, g1301_391, g1301_392, g1301_393, g1301_396, g1301_397, g1301_398, g1301_399, g1301_400, g1301_401, g1301_402, g1301_403, g1301_404, g1301_405, g1301_406, g1301_407, g1301_408, g1301_409, g1301_410, g1301_411, g1301_412, g1301_415, g1301_418, g1301_419, t0, a1, a2, b1, b2, u1, v1, e1, f1, k1, l1, u2, v2, e2, f2, k2, l2, u3, v3, e3, f3, k3, l3,  Q1, Q2]
theorem lw_708 (g : GI h xs L) (hi : i + 6 ≤ L) (hL : L ≤ 3072) : ∃ h2, GI h2 xs L ∧ ∀ Q, zG 60 1301 420 [some (.ref 1000000), some (.ref 0), some (.ref 88), some (.int (nI i))] [] h Q = zG 60 1301 1251 [some (.ref 1000000), some (.ref 0), some (.ref 88), some (.int (nI i))] [] h2 Q := by
  obtain ⟨t0, lc⟩ := LC_G g
  obtain ⟨r, h1, h2, fr, q1, q2, g2⟩ := P_feed g (xs (i + 1))
  obtain ⟨a1, a2, a3⟩ := id lc
  obtain ⟨b1, b2, b3⟩ := LC_F fr lc
  obtain ⟨u1, v1⟩ := ixs hi hL 1 (by omega)
  have e1 := a3 (i + 1) (by omega)
  have f1 := b3 (i + 1) (by omega)
  have k1 : nI i + 1 = nI (i + 1) := nI_add i 1
  have l1 : i + 1 < L := by omega
  have Q1 : ∀ Q, zCall 60 708 _ h Q = Q (some (.int r.1)) h1 := q1
  have Q2 : ∀ Q, zCall 60 817 _ h1 Q = Q (some (.int r.1)) h2 := q2
  clear q1 q2
  refine ⟨h2, g2, fun Q => ?_⟩
  simp +decide only [Nat.reduceEqDiff, Nat.add_eq_left, Nat.left_eq_add, Nat.reduceAdd, Nat.reduceLeDiff, Nat.reduceMul, Nat.reduceSub, Nat.reduceLT, zlt8, zlt8_, zlt8n, zlt8n_, List.length_cons, List.length_nil, true_or, or_true, false_or, or_false, and_self, and_true, true_and, and_false, false_and, not_false_eq_true, not_true_eq_false, ite_true, ite_false, if_true, if_false, ite_not, zin, zpush_s, zpush_n, kl_int, kl_ref, kl_none, kl_kl, kl_long, kl_null, VR_i, VR_l, zT_wI, zT_wJ, zT_wR, zT_wIr, zT_wJr, zT_wRr, zI_wJ, zI_wR, zI_wJr, zI_wRr, zJ_wI, zJ_wR, zJ_wIr, zJ_wRr, zR_wI, zR_wJ, zR_wIr, zR_wJr, zN_wI, zN_wJ, zN_wR, zN_wIr, zN_wJr, zN_wRr, zZ_wI, zZ_wJ, zZ_wR, zZ_wIr, zZ_wJr, zZ_wRr, zI_wI, zJ_wJ, zR_wR, zI_wIr, zJ_wJr, zR_wRr, g1301_420, g1301_421, g1301_422, g1301_423, g1301_424, g1301_425, g1301_426, g1301_429, g1301_430, g1301_431, g1301_432, g1301_433, g1301_434, g1301_435, g1301_438, g1301_441, g1301_442, t0, a1, a2, b1, b2, u1, v1, e1, f1, k1, l1,  Q1, Q2]
theorem lw_709 (g : GI h xs L) (hi : i + 6 ≤ L) (hL : L ≤ 3072) : ∃ h2, GI h2 xs L ∧ ∀ Q, zG 60 1301 443 [some (.ref 1000000), some (.ref 0), some (.ref 88), some (.int (nI i))] [] h Q = zG 60 1301 1251 [some (.ref 1000000), some (.ref 0), some (.ref 88), some (.int (nI i))] [] h2 Q := by
  obtain ⟨t0, lc⟩ := LC_G g
  obtain ⟨r, h1, h2, fr, q1, q2, g2⟩ := P_season g 
  obtain ⟨a1, a2, a3⟩ := id lc
  obtain ⟨b1, b2, b3⟩ := LC_F fr lc
  have Q1 : ∀ Q, zCall 60 709 _ h Q = Q (some (.int r.1)) h1 := q1
  have Q2 : ∀ Q, zCall 60 829 _ h1 Q = Q (some (.int r.1)) h2 := q2
  clear q1 q2
  refine ⟨h2, g2, fun Q => ?_⟩
  simp +decide only [Nat.reduceEqDiff, Nat.add_eq_left, Nat.left_eq_add, Nat.reduceAdd, Nat.reduceLeDiff, Nat.reduceMul, Nat.reduceSub, Nat.reduceLT, zlt8, zlt8_, zlt8n, zlt8n_, List.length_cons, List.length_nil, true_or, or_true, false_or, or_false, and_self, and_true, true_and, and_false, false_and, not_false_eq_true, not_true_eq_false, ite_true, ite_false, if_true, if_false, ite_not, zin, zpush_s, zpush_n, kl_int, kl_ref, kl_none, kl_kl, kl_long, kl_null, VR_i, VR_l, zT_wI, zT_wJ, zT_wR, zT_wIr, zT_wJr, zT_wRr, zI_wJ, zI_wR, zI_wJr, zI_wRr, zJ_wI, zJ_wR, zJ_wIr, zJ_wRr, zR_wI, zR_wJ, zR_wIr, zR_wJr, zN_wI, zN_wJ, zN_wR, zN_wIr, zN_wJr, zN_wRr, zZ_wI, zZ_wJ, zZ_wR, zZ_wIr, zZ_wJr, zZ_wRr, zI_wI, zJ_wJ, zR_wR, zI_wIr, zJ_wJr, zR_wRr, g1301_443, g1301_444, g1301_447, g1301_448, g1301_451, g1301_454, g1301_455, t0, a1, a2, b1, b2,  Q1, Q2]
theorem lw_710 (g : GI h xs L) (hi : i + 6 ≤ L) (hL : L ≤ 3072) : ∃ h2, GI h2 xs L ∧ ∀ Q, zG 60 1301 456 [some (.ref 1000000), some (.ref 0), some (.ref 88), some (.int (nI i))] [] h Q = zG 60 1301 1251 [some (.ref 1000000), some (.ref 0), some (.ref 88), some (.int (nI i))] [] h2 Q := by
  obtain ⟨t0, lc⟩ := LC_G g
  obtain ⟨r, h1, h2, fr, q1, q2, g2⟩ := P_told g (xs (i + 1))
  obtain ⟨a1, a2, a3⟩ := id lc
  obtain ⟨b1, b2, b3⟩ := LC_F fr lc
  obtain ⟨u1, v1⟩ := ixs hi hL 1 (by omega)
  have e1 := a3 (i + 1) (by omega)
  have f1 := b3 (i + 1) (by omega)
  have k1 : nI i + 1 = nI (i + 1) := nI_add i 1
  have l1 : i + 1 < L := by omega
  have Q1 : ∀ Q, zCall 60 710 _ h Q = Q (some (.int r.1)) h1 := q1
  have Q2 : ∀ Q, zCall 60 839 _ h1 Q = Q (some (.int r.1)) h2 := q2
  clear q1 q2
  refine ⟨h2, g2, fun Q => ?_⟩
  simp +decide only [Nat.reduceEqDiff, Nat.add_eq_left, Nat.left_eq_add, Nat.reduceAdd, Nat.reduceLeDiff, Nat.reduceMul, Nat.reduceSub, Nat.reduceLT, zlt8, zlt8_, zlt8n, zlt8n_, List.length_cons, List.length_nil, true_or, or_true, false_or, or_false, and_self, and_true, true_and, and_false, false_and, not_false_eq_true, not_true_eq_false, ite_true, ite_false, if_true, if_false, ite_not, zin, zpush_s, zpush_n, kl_int, kl_ref, kl_none, kl_kl, kl_long, kl_null, VR_i, VR_l, zT_wI, zT_wJ, zT_wR, zT_wIr, zT_wJr, zT_wRr, zI_wJ, zI_wR, zI_wJr, zI_wRr, zJ_wI, zJ_wR, zJ_wIr, zJ_wRr, zR_wI, zR_wJ, zR_wIr, zR_wJr, zN_wI, zN_wJ, zN_wR, zN_wIr, zN_wJr, zN_wRr, zZ_wI, zZ_wJ, zZ_wR, zZ_wIr, zZ_wJr, zZ_wRr, zI_wI, zJ_wJ, zR_wR, zI_wIr, zJ_wJr, zR_wRr, g1301_456, g1301_457, g1301_458, g1301_459, g1301_460, g1301_461, g1301_462, g1301_465, g1301_466, g1301_467, g1301_468, g1301_469, g1301_470, g1301_471, g1301_474, g1301_477, g1301_478, t0, a1, a2, b1, b2, u1, v1, e1, f1, k1, l1,  Q1, Q2]
theorem lw_711 (g : GI h xs L) (hi : i + 6 ≤ L) (hL : L ≤ 3072) : ∃ h2, GI h2 xs L ∧ ∀ Q, zG 60 1301 479 [some (.ref 1000000), some (.ref 0), some (.ref 88), some (.int (nI i))] [] h Q = zG 60 1301 1251 [some (.ref 1000000), some (.ref 0), some (.ref 88), some (.int (nI i))] [] h2 Q := by
  obtain ⟨t0, lc⟩ := LC_G g
  obtain ⟨r, h1, h2, fr, q1, q2, g2⟩ := P_pass g (xs (i + 1))
  obtain ⟨a1, a2, a3⟩ := id lc
  obtain ⟨b1, b2, b3⟩ := LC_F fr lc
  obtain ⟨u1, v1⟩ := ixs hi hL 1 (by omega)
  have e1 := a3 (i + 1) (by omega)
  have f1 := b3 (i + 1) (by omega)
  have k1 : nI i + 1 = nI (i + 1) := nI_add i 1
  have l1 : i + 1 < L := by omega
  have Q1 : ∀ Q, zCall 60 711 _ h Q = Q (some (.int r.1)) h1 := q1
  have Q2 : ∀ Q, zCall 60 840 _ h1 Q = Q (some (.int r.1)) h2 := q2
  clear q1 q2
  refine ⟨h2, g2, fun Q => ?_⟩
  simp +decide only [Nat.reduceEqDiff, Nat.add_eq_left, Nat.left_eq_add, Nat.reduceAdd, Nat.reduceLeDiff, Nat.reduceMul, Nat.reduceSub, Nat.reduceLT, zlt8, zlt8_, zlt8n, zlt8n_, List.length_cons, List.length_nil, true_or, or_true, false_or, or_false, and_self, and_true, true_and, and_false, false_and, not_false_eq_true, not_true_eq_false, ite_true, ite_false, if_true, if_false, ite_not, zin, zpush_s, zpush_n, kl_int, kl_ref, kl_none, kl_kl, kl_long, kl_null, VR_i, VR_l, zT_wI, zT_wJ, zT_wR, zT_wIr, zT_wJr, zT_wRr, zI_wJ, zI_wR, zI_wJr, zI_wRr, zJ_wI, zJ_wR, zJ_wIr, zJ_wRr, zR_wI, zR_wJ, zR_wIr, zR_wJr, zN_wI, zN_wJ, zN_wR, zN_wIr, zN_wJr, zN_wRr, zZ_wI, zZ_wJ, zZ_wR, zZ_wIr, zZ_wJr, zZ_wRr, zI_wI, zJ_wJ, zR_wR, zI_wIr, zJ_wJr, zR_wRr, g1301_479, g1301_480, g1301_481, g1301_482, g1301_483, g1301_484, g1301_485, g1301_488, g1301_489, g1301_490, g1301_491, g1301_492, g1301_493, g1301_494, g1301_497, g1301_500, g1301_501, t0, a1, a2, b1, b2, u1, v1, e1, f1, k1, l1,  Q1, Q2]
theorem lw_712 (g : GI h xs L) (hi : i + 6 ≤ L) (hL : L ≤ 3072) : ∃ h2, GI h2 xs L ∧ ∀ Q, zG 60 1301 502 [some (.ref 1000000), some (.ref 0), some (.ref 88), some (.int (nI i))] [] h Q = zG 60 1301 1251 [some (.ref 1000000), some (.ref 0), some (.ref 88), some (.int (nI i))] [] h2 Q := by
  obtain ⟨t0, lc⟩ := LC_G g
  obtain ⟨r, h1, h2, fr, q1, q2, g2⟩ := P_on g (xs (i + 1)) (xs (i + 2))
  obtain ⟨a1, a2, a3⟩ := id lc
  obtain ⟨b1, b2, b3⟩ := LC_F fr lc
  obtain ⟨u1, v1⟩ := ixs hi hL 1 (by omega)
  have e1 := a3 (i + 1) (by omega)
  have f1 := b3 (i + 1) (by omega)
  have k1 : nI i + 1 = nI (i + 1) := nI_add i 1
  have l1 : i + 1 < L := by omega
  obtain ⟨u2, v2⟩ := ixs hi hL 2 (by omega)
  have e2 := a3 (i + 2) (by omega)
  have f2 := b3 (i + 2) (by omega)
  have k2 : nI i + 2 = nI (i + 2) := nI_add i 2
  have l2 : i + 2 < L := by omega
  have Q1 : ∀ Q, zCall 60 712 _ h Q = Q (some (.int r.1)) h1 := q1
  have Q2 : ∀ Q, zCall 60 841 _ h1 Q = Q (some (.int r.1)) h2 := q2
  clear q1 q2
  refine ⟨h2, g2, fun Q => ?_⟩
  simp +decide only [Nat.reduceEqDiff, Nat.add_eq_left, Nat.left_eq_add, Nat.reduceAdd, Nat.reduceLeDiff, Nat.reduceMul, Nat.reduceSub, Nat.reduceLT, zlt8, zlt8_, zlt8n, zlt8n_, List.length_cons, List.length_nil, true_or, or_true, false_or, or_false, and_self, and_true, true_and, and_false, false_and, not_false_eq_true, not_true_eq_false, ite_true, ite_false, if_true, if_false, ite_not, zin, zpush_s, zpush_n, kl_int, kl_ref, kl_none, kl_kl, kl_long, kl_null, VR_i, VR_l, zT_wI, zT_wJ, zT_wR, zT_wIr, zT_wJr, zT_wRr, zI_wJ, zI_wR, zI_wJr, zI_wRr, zJ_wI, zJ_wR, zJ_wIr, zJ_wRr, zR_wI, zR_wJ, zR_wIr, zR_wJr, zN_wI, zN_wJ, zN_wR, zN_wIr, zN_wJr, zN_wRr, zZ_wI, zZ_wJ, zZ_wR, zZ_wIr, zZ_wJr, zZ_wRr, zI_wI, zJ_wJ, zR_wR, zI_wIr, zJ_wJr, zR_wRr, g1301_502, g1301_503, g1301_504, g1301_505, g1301_506, g1301_507, g1301_508, g1301_509, g1301_510, g1301_511, g1301_512, g1301_513, g1301_516, g1301_517, g1301_518, g1301_519, g1301_520, g1301_521, g1301_522, g1301_523, g1301_524, g1301_525, g1301_526, g1301_527, g1301_530, g1301_533, g1301_534, t0, a1, a2, b1, b2, u1, v1, e1, f1, k1, l1, u2, v2, e2, f2, k2, l2,  Q1, Q2]
theorem lw_714 (g : GI h xs L) (hi : i + 6 ≤ L) (hL : L ≤ 3072) : ∃ h2, GI h2 xs L ∧ ∀ Q, zG 60 1301 535 [some (.ref 1000000), some (.ref 0), some (.ref 88), some (.int (nI i))] [] h Q = zG 60 1301 1251 [some (.ref 1000000), some (.ref 0), some (.ref 88), some (.int (nI i))] [] h2 Q := by
  obtain ⟨t0, lc⟩ := LC_G g
  obtain ⟨r, h1, h2, fr, q1, q2, g2⟩ := P_pays g (xs (i + 1)) (xs (i + 2))
  obtain ⟨a1, a2, a3⟩ := id lc
  obtain ⟨b1, b2, b3⟩ := LC_F fr lc
  obtain ⟨u1, v1⟩ := ixs hi hL 1 (by omega)
  have e1 := a3 (i + 1) (by omega)
  have f1 := b3 (i + 1) (by omega)
  have k1 : nI i + 1 = nI (i + 1) := nI_add i 1
  have l1 : i + 1 < L := by omega
  obtain ⟨u2, v2⟩ := ixs hi hL 2 (by omega)
  have e2 := a3 (i + 2) (by omega)
  have f2 := b3 (i + 2) (by omega)
  have k2 : nI i + 2 = nI (i + 2) := nI_add i 2
  have l2 : i + 2 < L := by omega
  have Q1 : ∀ Q, zCall 60 714 _ h Q = Q (some (.int r.1)) h1 := q1
  have Q2 : ∀ Q, zCall 60 846 _ h1 Q = Q (some (.int r.1)) h2 := q2
  clear q1 q2
  refine ⟨h2, g2, fun Q => ?_⟩
  simp +decide only [Nat.reduceEqDiff, Nat.add_eq_left, Nat.left_eq_add, Nat.reduceAdd, Nat.reduceLeDiff, Nat.reduceMul, Nat.reduceSub, Nat.reduceLT, zlt8, zlt8_, zlt8n, zlt8n_, List.length_cons, List.length_nil, true_or, or_true, false_or, or_false, and_self, and_true, true_and, and_false, false_and, not_false_eq_true, not_true_eq_false, ite_true, ite_false, if_true, if_false, ite_not, zin, zpush_s, zpush_n, kl_int, kl_ref, kl_none, kl_kl, kl_long, kl_null, VR_i, VR_l, zT_wI, zT_wJ, zT_wR, zT_wIr, zT_wJr, zT_wRr, zI_wJ, zI_wR, zI_wJr, zI_wRr, zJ_wI, zJ_wR, zJ_wIr, zJ_wRr, zR_wI, zR_wJ, zR_wIr, zR_wJr, zN_wI, zN_wJ, zN_wR, zN_wIr, zN_wJr, zN_wRr, zZ_wI, zZ_wJ, zZ_wR, zZ_wIr, zZ_wJr, zZ_wRr, zI_wI, zJ_wJ, zR_wR, zI_wIr, zJ_wJr, zR_wRr, g1301_535, g1301_536, g1301_537, g1301_538, g1301_539, g1301_540, g1301_541, g1301_542, g1301_543, g1301_544, g1301_545, g1301_546, g1301_549, g1301_550, g1301_551, g1301_552, g1301_553, g1301_554, g1301_555, g1301_556, g1301_557, g1301_558, g1301_559, g1301_560, g1301_563, g1301_566, g1301_567, t0, a1, a2, b1, b2, u1, v1, e1, f1, k1, l1, u2, v2, e2, f2, k2, l2,  Q1, Q2]
theorem lw_720 (g : GI h xs L) (hi : i + 6 ≤ L) (hL : L ≤ 3072) : ∃ h2, GI h2 xs L ∧ ∀ Q, zG 60 1301 568 [some (.ref 1000000), some (.ref 0), some (.ref 88), some (.int (nI i))] [] h Q = zG 60 1301 1251 [some (.ref 1000000), some (.ref 0), some (.ref 88), some (.int (nI i))] [] h2 Q := by
  obtain ⟨t0, lc⟩ := LC_G g
  obtain ⟨r, h1, h2, fr, q1, q2, g2⟩ := P_see g (xs (i + 1)) (xs (i + 2)) (xs (i + 3))
  obtain ⟨a1, a2, a3⟩ := id lc
  obtain ⟨b1, b2, b3⟩ := LC_F fr lc
  obtain ⟨u1, v1⟩ := ixs hi hL 1 (by omega)
  have e1 := a3 (i + 1) (by omega)
  have f1 := b3 (i + 1) (by omega)
  have k1 : nI i + 1 = nI (i + 1) := nI_add i 1
  have l1 : i + 1 < L := by omega
  obtain ⟨u2, v2⟩ := ixs hi hL 2 (by omega)
  have e2 := a3 (i + 2) (by omega)
  have f2 := b3 (i + 2) (by omega)
  have k2 : nI i + 2 = nI (i + 2) := nI_add i 2
  have l2 : i + 2 < L := by omega
  obtain ⟨u3, v3⟩ := ixs hi hL 3 (by omega)
  have e3 := a3 (i + 3) (by omega)
  have f3 := b3 (i + 3) (by omega)
  have k3 : nI i + 3 = nI (i + 3) := nI_add i 3
  have l3 : i + 3 < L := by omega
  have Q1 : ∀ Q, zCall 60 720 _ h Q = Q (some (.int r.1)) h1 := q1
  have Q2 : ∀ Q, zCall 60 847 _ h1 Q = Q (some (.int r.1)) h2 := q2
  clear q1 q2
  refine ⟨h2, g2, fun Q => ?_⟩
  simp +decide only [Nat.reduceEqDiff, Nat.add_eq_left, Nat.left_eq_add, Nat.reduceAdd, Nat.reduceLeDiff, Nat.reduceMul, Nat.reduceSub, Nat.reduceLT, zlt8, zlt8_, zlt8n, zlt8n_, List.length_cons, List.length_nil, true_or, or_true, false_or, or_false, and_self, and_true, true_and, and_false, false_and, not_false_eq_true, not_true_eq_false, ite_true, ite_false, if_true, if_false, ite_not, zin, zpush_s, zpush_n, kl_int, kl_ref, kl_none, kl_kl, kl_long, kl_null, VR_i, VR_l, zT_wI, zT_wJ, zT_wR, zT_wIr, zT_wJr, zT_wRr, zI_wJ, zI_wR, zI_wJr, zI_wRr, zJ_wI, zJ_wR, zJ_wIr, zJ_wRr, zR_wI, zR_wJ, zR_wIr, zR_wJr, zN_wI, zN_wJ, zN_wR, zN_wIr, zN_wJr, zN_wRr, zZ_wI, zZ_wJ, zZ_wR, zZ_wIr, zZ_wJr, zZ_wRr, zI_wI, zJ_wJ, zR_wR, zI_wIr, zJ_wJr, zR_wRr, g1301_568, g1301_569, g1301_570, g1301_571, g1301_572, g1301_573, g1301_574, g1301_575, g1301_576, g1301_577, g1301_578, g1301_579, g1301_580, g1301_581, g1301_582, g1301_583, g1301_584, g1301_587, g1301_588, g1301_589, g1301_590, g1301_591, g1301_592, g1301_593, g1301_594, g1301_595, g1301_596, g1301_597, g1301_598, g1301_599, g1301_600, g1301_601, g1301_602, g1301_603, g1301_606, g1301_609, g1301_610, t0, a1, a2, b1, b2, u1, v1, e1, f1, k1, l1, u2, v2, e2, f2, k2, l2, u3, v3, e3, f3, k3, l3,  Q1, Q2]
theorem lw_721 (g : GI h xs L) (hi : i + 6 ≤ L) (hL : L ≤ 3072) : ∃ h2, GI h2 xs L ∧ ∀ Q, zG 60 1301 611 [some (.ref 1000000), some (.ref 0), some (.ref 88), some (.int (nI i))] [] h Q = zG 60 1301 1251 [some (.ref 1000000), some (.ref 0), some (.ref 88), some (.int (nI i))] [] h2 Q := by
  obtain ⟨t0, lc⟩ := LC_G g
  obtain ⟨r, h1, h2, fr, q1, q2, g2⟩ := P_can g (xs (i + 1)) (xs (i + 2)) (xs (i + 3))
  obtain ⟨a1, a2, a3⟩ := id lc
  obtain ⟨b1, b2, b3⟩ := LC_F fr lc
  obtain ⟨u1, v1⟩ := ixs hi hL 1 (by omega)
  have e1 := a3 (i + 1) (by omega)
  have f1 := b3 (i + 1) (by omega)
  have k1 : nI i + 1 = nI (i + 1) := nI_add i 1
  have l1 : i + 1 < L := by omega
  obtain ⟨u2, v2⟩ := ixs hi hL 2 (by omega)
  have e2 := a3 (i + 2) (by omega)
  have f2 := b3 (i + 2) (by omega)
  have k2 : nI i + 2 = nI (i + 2) := nI_add i 2
  have l2 : i + 2 < L := by omega
  obtain ⟨u3, v3⟩ := ixs hi hL 3 (by omega)
  have e3 := a3 (i + 3) (by omega)
  have f3 := b3 (i + 3) (by omega)
  have k3 : nI i + 3 = nI (i + 3) := nI_add i 3
  have l3 : i + 3 < L := by omega
  have Q1 : ∀ Q, zCall 60 721 _ h Q = Q (some (.int r.1)) h1 := q1
  have Q2 : ∀ Q, zCall 60 850 _ h1 Q = Q (some (.int r.1)) h2 := q2
  clear q1 q2
  refine ⟨h2, g2, fun Q => ?_⟩
  simp +decide only [Nat.reduceEqDiff, Nat.add_eq_left, Nat.left_eq_add, Nat.reduceAdd, Nat.reduceLeDiff, Nat.reduceMul, Nat.reduceSub, Nat.reduceLT, zlt8, zlt8_, zlt8n, zlt8n_, List.length_cons, List.length_nil, true_or, or_true, false_or, or_false, and_self, and_true, true_and, and_false, false_and, not_false_eq_true, not_true_eq_false, ite_true, ite_false, if_true, if_false, ite_not, zin, zpush_s, zpush_n, kl_int, kl_ref, kl_none, kl_kl, kl_long, kl_null, VR_i, VR_l, zT_wI, zT_wJ, zT_wR, zT_wIr, zT_wJr, zT_wRr, zI_wJ, zI_wR, zI_wJr, zI_wRr, zJ_wI, zJ_wR, zJ_wIr, zJ_wRr, zR_wI, zR_wJ, zR_wIr, zR_wJr, zN_wI, zN_wJ, zN_wR, zN_wIr, zN_wJr, zN_wRr, zZ_wI, zZ_wJ, zZ_wR, zZ_wIr, zZ_wJr, zZ_wRr, zI_wI, zJ_wJ, zR_wR, zI_wIr, zJ_wJr, zR_wRr, g1301_611, g1301_612, g1301_613, g1301_614, g1301_615, g1301_616, g1301_617, g1301_618, g1301_619, g1301_620, g1301_621, g1301_622, g1301_623, g1301_624, g1301_625, g1301_626, g1301_627, g1301_630, g1301_631, g1301_632, g1301_633, g1301_634, g1301_635, g1301_636, g1301_637, g1301_638, g1301_639, g1301_640, g1301_641, g1301_642, g1301_643, g1301_644, g1301_645, g1301_646, g1301_649, g1301_652, g1301_653, t0, a1, a2, b1, b2, u1, v1, e1, f1, k1, l1, u2, v2, e2, f2, k2, l2, u3, v3, e3, f3, k3, l3,  Q1, Q2]
theorem lw_722 (g : GI h xs L) (hi : i + 6 ≤ L) (hL : L ≤ 3072) : ∃ h2, GI h2 xs L ∧ ∀ Q, zG 60 1301 654 [some (.ref 1000000), some (.ref 0), some (.ref 88), some (.int (nI i))] [] h Q = zG 60 1301 1251 [some (.ref 1000000), some (.ref 0), some (.ref 88), some (.int (nI i))] [] h2 Q := by
  obtain ⟨t0, lc⟩ := LC_G g
  obtain ⟨r, h1, h2, fr, q1, q2, g2⟩ := P_places g (xs (i + 1))
  obtain ⟨a1, a2, a3⟩ := id lc
  obtain ⟨b1, b2, b3⟩ := LC_F fr lc
  obtain ⟨u1, v1⟩ := ixs hi hL 1 (by omega)
  have e1 := a3 (i + 1) (by omega)
  have f1 := b3 (i + 1) (by omega)
  have k1 : nI i + 1 = nI (i + 1) := nI_add i 1
  have l1 : i + 1 < L := by omega
  have Q1 : ∀ Q, zCall 60 722 _ h Q = Q (some (.int r.1)) h1 := q1
  have Q2 : ∀ Q, zCall 60 851 _ h1 Q = Q (some (.int r.1)) h2 := q2
  clear q1 q2
  refine ⟨h2, g2, fun Q => ?_⟩
  simp +decide only [Nat.reduceEqDiff, Nat.add_eq_left, Nat.left_eq_add, Nat.reduceAdd, Nat.reduceLeDiff, Nat.reduceMul, Nat.reduceSub, Nat.reduceLT, zlt8, zlt8_, zlt8n, zlt8n_, List.length_cons, List.length_nil, true_or, or_true, false_or, or_false, and_self, and_true, true_and, and_false, false_and, not_false_eq_true, not_true_eq_false, ite_true, ite_false, if_true, if_false, ite_not, zin, zpush_s, zpush_n, kl_int, kl_ref, kl_none, kl_kl, kl_long, kl_null, VR_i, VR_l, zT_wI, zT_wJ, zT_wR, zT_wIr, zT_wJr, zT_wRr, zI_wJ, zI_wR, zI_wJr, zI_wRr, zJ_wI, zJ_wR, zJ_wIr, zJ_wRr, zR_wI, zR_wJ, zR_wIr, zR_wJr, zN_wI, zN_wJ, zN_wR, zN_wIr, zN_wJr, zN_wRr, zZ_wI, zZ_wJ, zZ_wR, zZ_wIr, zZ_wJr, zZ_wRr, zI_wI, zJ_wJ, zR_wR, zI_wIr, zJ_wJr, zR_wRr, g1301_654, g1301_655, g1301_656, g1301_657, g1301_658, g1301_659, g1301_660, g1301_663, g1301_664, g1301_665, g1301_666, g1301_667, g1301_668, g1301_669, g1301_672, g1301_675, g1301_676, t0, a1, a2, b1, b2, u1, v1, e1, f1, k1, l1,  Q1, Q2]
theorem lw_724 (g : GI h xs L) (hi : i + 6 ≤ L) (hL : L ≤ 3072) : ∃ h2, GI h2 xs L ∧ ∀ Q, zG 60 1301 677 [some (.ref 1000000), some (.ref 0), some (.ref 88), some (.int (nI i))] [] h Q = zG 60 1301 1251 [some (.ref 1000000), some (.ref 0), some (.ref 88), some (.int (nI i))] [] h2 Q := by
  obtain ⟨t0, lc⟩ := LC_G g
  obtain ⟨r, h1, h2, fr, q1, q2, g2⟩ := P_odds g (xs (i + 1)) (xs (i + 2)) (xs (i + 3))
  obtain ⟨a1, a2, a3⟩ := id lc
  obtain ⟨b1, b2, b3⟩ := LC_F fr lc
  obtain ⟨u1, v1⟩ := ixs hi hL 1 (by omega)
  have e1 := a3 (i + 1) (by omega)
  have f1 := b3 (i + 1) (by omega)
  have k1 : nI i + 1 = nI (i + 1) := nI_add i 1
  have l1 : i + 1 < L := by omega
  obtain ⟨u2, v2⟩ := ixs hi hL 2 (by omega)
  have e2 := a3 (i + 2) (by omega)
  have f2 := b3 (i + 2) (by omega)
  have k2 : nI i + 2 = nI (i + 2) := nI_add i 2
  have l2 : i + 2 < L := by omega
  obtain ⟨u3, v3⟩ := ixs hi hL 3 (by omega)
  have e3 := a3 (i + 3) (by omega)
  have f3 := b3 (i + 3) (by omega)
  have k3 : nI i + 3 = nI (i + 3) := nI_add i 3
  have l3 : i + 3 < L := by omega
  have Q1 : ∀ Q, zCall 60 724 _ h Q = Q (some (.long r.2)) h1 := q1
  have Q2 : ∀ Q, zCall 60 853 _ h1 Q = Q (some (.long r.2)) h2 := q2
  clear q1 q2
  refine ⟨h2, g2, fun Q => ?_⟩
  simp +decide only [Nat.reduceEqDiff, Nat.add_eq_left, Nat.left_eq_add, Nat.reduceAdd, Nat.reduceLeDiff, Nat.reduceMul, Nat.reduceSub, Nat.reduceLT, zlt8, zlt8_, zlt8n, zlt8n_, List.length_cons, List.length_nil, true_or, or_true, false_or, or_false, and_self, and_true, true_and, and_false, false_and, not_false_eq_true, not_true_eq_false, ite_true, ite_false, if_true, if_false, ite_not, zin, zpush_s, zpush_n, kl_int, kl_ref, kl_none, kl_kl, kl_long, kl_null, VR_i, VR_l, zT_wI, zT_wJ, zT_wR, zT_wIr, zT_wJr, zT_wRr, zI_wJ, zI_wR, zI_wJr, zI_wRr, zJ_wI, zJ_wR, zJ_wIr, zJ_wRr, zR_wI, zR_wJ, zR_wIr, zR_wJr, zN_wI, zN_wJ, zN_wR, zN_wIr, zN_wJr, zN_wRr, zZ_wI, zZ_wJ, zZ_wR, zZ_wIr, zZ_wJr, zZ_wRr, zI_wI, zJ_wJ, zR_wR, zI_wIr, zJ_wJr, zR_wRr, g1301_677, g1301_678, g1301_679, g1301_680, g1301_681, g1301_682, g1301_683, g1301_684, g1301_685, g1301_686, g1301_687, g1301_688, g1301_689, g1301_690, g1301_691, g1301_692, g1301_693, g1301_696, g1301_697, g1301_698, g1301_699, g1301_700, g1301_701, g1301_702, g1301_703, g1301_704, g1301_705, g1301_706, g1301_707, g1301_708, g1301_709, g1301_710, g1301_711, g1301_712, g1301_715, g1301_716, g1301_719, g1301_720, t0, a1, a2, b1, b2, u1, v1, e1, f1, k1, l1, u2, v2, e2, f2, k2, l2, u3, v3, e3, f3, k3, l3,  Q1, Q2, zcmp_r]
theorem lw_725 (g : GI h xs L) (hi : i + 6 ≤ L) (hL : L ≤ 3072) : ∃ h2, GI h2 xs L ∧ ∀ Q, zG 60 1301 721 [some (.ref 1000000), some (.ref 0), some (.ref 88), some (.int (nI i))] [] h Q = zG 60 1301 1251 [some (.ref 1000000), some (.ref 0), some (.ref 88), some (.int (nI i))] [] h2 Q := by
  obtain ⟨t0, lc⟩ := LC_G g
  obtain ⟨r, h1, h2, fr, q1, q2, g2⟩ := P_mean g (xs (i + 1)) (xs (i + 2))
  obtain ⟨a1, a2, a3⟩ := id lc
  obtain ⟨b1, b2, b3⟩ := LC_F fr lc
  obtain ⟨u1, v1⟩ := ixs hi hL 1 (by omega)
  have e1 := a3 (i + 1) (by omega)
  have f1 := b3 (i + 1) (by omega)
  have k1 : nI i + 1 = nI (i + 1) := nI_add i 1
  have l1 : i + 1 < L := by omega
  obtain ⟨u2, v2⟩ := ixs hi hL 2 (by omega)
  have e2 := a3 (i + 2) (by omega)
  have f2 := b3 (i + 2) (by omega)
  have k2 : nI i + 2 = nI (i + 2) := nI_add i 2
  have l2 : i + 2 < L := by omega
  have Q1 : ∀ Q, zCall 60 725 _ h Q = Q (some (.long r.2)) h1 := q1
  have Q2 : ∀ Q, zCall 60 854 _ h1 Q = Q (some (.long r.2)) h2 := q2
  clear q1 q2
  refine ⟨h2, g2, fun Q => ?_⟩
  simp +decide only [Nat.reduceEqDiff, Nat.add_eq_left, Nat.left_eq_add, Nat.reduceAdd, Nat.reduceLeDiff, Nat.reduceMul, Nat.reduceSub, Nat.reduceLT, zlt8, zlt8_, zlt8n, zlt8n_, List.length_cons, List.length_nil, true_or, or_true, false_or, or_false, and_self, and_true, true_and, and_false, false_and, not_false_eq_true, not_true_eq_false, ite_true, ite_false, if_true, if_false, ite_not, zin, zpush_s, zpush_n, kl_int, kl_ref, kl_none, kl_kl, kl_long, kl_null, VR_i, VR_l, zT_wI, zT_wJ, zT_wR, zT_wIr, zT_wJr, zT_wRr, zI_wJ, zI_wR, zI_wJr, zI_wRr, zJ_wI, zJ_wR, zJ_wIr, zJ_wRr, zR_wI, zR_wJ, zR_wIr, zR_wJr, zN_wI, zN_wJ, zN_wR, zN_wIr, zN_wJr, zN_wRr, zZ_wI, zZ_wJ, zZ_wR, zZ_wIr, zZ_wJr, zZ_wRr, zI_wI, zJ_wJ, zR_wR, zI_wIr, zJ_wJr, zR_wRr, g1301_721, g1301_722, g1301_723, g1301_724, g1301_725, g1301_726, g1301_727, g1301_728, g1301_729, g1301_730, g1301_731, g1301_732, g1301_735, g1301_736, g1301_737, g1301_738, g1301_739, g1301_740, g1301_741, g1301_742, g1301_743, g1301_744, g1301_745, g1301_746, g1301_749, g1301_750, g1301_753, g1301_754, t0, a1, a2, b1, b2, u1, v1, e1, f1, k1, l1, u2, v2, e2, f2, k2, l2,  Q1, Q2, zcmp_r]
theorem lw_727 (g : GI h xs L) (hi : i + 6 ≤ L) (hL : L ≤ 3072) : ∃ h2, GI h2 xs L ∧ ∀ Q, zG 60 1301 755 [some (.ref 1000000), some (.ref 0), some (.ref 88), some (.int (nI i))] [] h Q = zG 60 1301 1251 [some (.ref 1000000), some (.ref 0), some (.ref 88), some (.int (nI i))] [] h2 Q := by
  obtain ⟨t0, lc⟩ := LC_G g
  obtain ⟨r, h1, h2, fr, q1, q2, g2⟩ := P_plan g (xs (i + 1)) (xs (i + 2))
  obtain ⟨a1, a2, a3⟩ := id lc
  obtain ⟨b1, b2, b3⟩ := LC_F fr lc
  obtain ⟨u1, v1⟩ := ixs hi hL 1 (by omega)
  have e1 := a3 (i + 1) (by omega)
  have f1 := b3 (i + 1) (by omega)
  have k1 : nI i + 1 = nI (i + 1) := nI_add i 1
  have l1 : i + 1 < L := by omega
  obtain ⟨u2, v2⟩ := ixs hi hL 2 (by omega)
  have e2 := a3 (i + 2) (by omega)
  have f2 := b3 (i + 2) (by omega)
  have k2 : nI i + 2 = nI (i + 2) := nI_add i 2
  have l2 : i + 2 < L := by omega
  have Q1 : ∀ Q, zCall 60 727 _ h Q = Q (some (.int r.1)) h1 := q1
  have Q2 : ∀ Q, zCall 60 855 _ h1 Q = Q (some (.int r.1)) h2 := q2
  clear q1 q2
  refine ⟨h2, g2, fun Q => ?_⟩
  simp +decide only [Nat.reduceEqDiff, Nat.add_eq_left, Nat.left_eq_add, Nat.reduceAdd, Nat.reduceLeDiff, Nat.reduceMul, Nat.reduceSub, Nat.reduceLT, zlt8, zlt8_, zlt8n, zlt8n_, List.length_cons, List.length_nil, true_or, or_true, false_or, or_false, and_self, and_true, true_and, and_false, false_and, not_false_eq_true, not_true_eq_false, ite_true, ite_false, if_true, if_false, ite_not, zin, zpush_s, zpush_n, kl_int, kl_ref, kl_none, kl_kl, kl_long, kl_null, VR_i, VR_l, zT_wI, zT_wJ, zT_wR, zT_wIr, zT_wJr, zT_wRr, zI_wJ, zI_wR, zI_wJr, zI_wRr, zJ_wI, zJ_wR, zJ_wIr, zJ_wRr, zR_wI, zR_wJ, zR_wIr, zR_wJr, zN_wI, zN_wJ, zN_wR, zN_wIr, zN_wJr, zN_wRr, zZ_wI, zZ_wJ, zZ_wR, zZ_wIr, zZ_wJr, zZ_wRr, zI_wI, zJ_wJ, zR_wR, zI_wIr, zJ_wJr, zR_wRr, g1301_755, g1301_756, g1301_757, g1301_758, g1301_759, g1301_760, g1301_761, g1301_762, g1301_763, g1301_764, g1301_765, g1301_766, g1301_769, g1301_770, g1301_771, g1301_772, g1301_773, g1301_774, g1301_775, g1301_776, g1301_777, g1301_778, g1301_779, g1301_780, g1301_783, g1301_786, g1301_787, t0, a1, a2, b1, b2, u1, v1, e1, f1, k1, l1, u2, v2, e2, f2, k2, l2,  Q1, Q2]
theorem lw_728 (g : GI h xs L) (hi : i + 6 ≤ L) (hL : L ≤ 3072) : ∃ h2, GI h2 xs L ∧ ∀ Q, zG 60 1301 788 [some (.ref 1000000), some (.ref 0), some (.ref 88), some (.int (nI i))] [] h Q = zG 60 1301 1251 [some (.ref 1000000), some (.ref 0), some (.ref 88), some (.int (nI i))] [] h2 Q := by
  obtain ⟨t0, lc⟩ := LC_G g
  obtain ⟨r, h1, h2, fr, q1, q2, g2⟩ := P_ends g (xs (i + 1))
  obtain ⟨a1, a2, a3⟩ := id lc
  obtain ⟨b1, b2, b3⟩ := LC_F fr lc
  obtain ⟨u1, v1⟩ := ixs hi hL 1 (by omega)
  have e1 := a3 (i + 1) (by omega)
  have f1 := b3 (i + 1) (by omega)
  have k1 : nI i + 1 = nI (i + 1) := nI_add i 1
  have l1 : i + 1 < L := by omega
  have Q1 : ∀ Q, zCall 60 728 _ h Q = Q (some (.int r.1)) h1 := q1
  have Q2 : ∀ Q, zCall 60 857 _ h1 Q = Q (some (.int r.1)) h2 := q2
  clear q1 q2
  refine ⟨h2, g2, fun Q => ?_⟩
  simp +decide only [Nat.reduceEqDiff, Nat.add_eq_left, Nat.left_eq_add, Nat.reduceAdd, Nat.reduceLeDiff, Nat.reduceMul, Nat.reduceSub, Nat.reduceLT, zlt8, zlt8_, zlt8n, zlt8n_, List.length_cons, List.length_nil, true_or, or_true, false_or, or_false, and_self, and_true, true_and, and_false, false_and, not_false_eq_true, not_true_eq_false, ite_true, ite_false, if_true, if_false, ite_not, zin, zpush_s, zpush_n, kl_int, kl_ref, kl_none, kl_kl, kl_long, kl_null, VR_i, VR_l, zT_wI, zT_wJ, zT_wR, zT_wIr, zT_wJr, zT_wRr, zI_wJ, zI_wR, zI_wJr, zI_wRr, zJ_wI, zJ_wR, zJ_wIr, zJ_wRr, zR_wI, zR_wJ, zR_wIr, zR_wJr, zN_wI, zN_wJ, zN_wR, zN_wIr, zN_wJr, zN_wRr, zZ_wI, zZ_wJ, zZ_wR, zZ_wIr, zZ_wJr, zZ_wRr, zI_wI, zJ_wJ, zR_wR, zI_wIr, zJ_wJr, zR_wRr, g1301_788, g1301_789, g1301_790, g1301_791, g1301_792, g1301_793, g1301_794, g1301_797, g1301_798, g1301_799, g1301_800, g1301_801, g1301_802, g1301_803, g1301_806, g1301_809, g1301_810, t0, a1, a2, b1, b2, u1, v1, e1, f1, k1, l1,  Q1, Q2]
theorem lw_730 (g : GI h xs L) (hi : i + 6 ≤ L) (hL : L ≤ 3072) : ∃ h2, GI h2 xs L ∧ ∀ Q, zG 60 1301 811 [some (.ref 1000000), some (.ref 0), some (.ref 88), some (.int (nI i))] [] h Q = zG 60 1301 1251 [some (.ref 1000000), some (.ref 0), some (.ref 88), some (.int (nI i))] [] h2 Q := by
  obtain ⟨t0, lc⟩ := LC_G g
  obtain ⟨r, h1, h2, fr, q1, q2, g2⟩ := P_book g (xs (i + 1)) (xs (i + 2))
  obtain ⟨a1, a2, a3⟩ := id lc
  obtain ⟨b1, b2, b3⟩ := LC_F fr lc
  obtain ⟨u1, v1⟩ := ixs hi hL 1 (by omega)
  have e1 := a3 (i + 1) (by omega)
  have f1 := b3 (i + 1) (by omega)
  have k1 : nI i + 1 = nI (i + 1) := nI_add i 1
  have l1 : i + 1 < L := by omega
  obtain ⟨u2, v2⟩ := ixs hi hL 2 (by omega)
  have e2 := a3 (i + 2) (by omega)
  have f2 := b3 (i + 2) (by omega)
  have k2 : nI i + 2 = nI (i + 2) := nI_add i 2
  have l2 : i + 2 < L := by omega
  have Q1 : ∀ Q, zCall 60 730 _ h Q = Q (some (.int r.1)) h1 := q1
  have Q2 : ∀ Q, zCall 60 858 _ h1 Q = Q (some (.int r.1)) h2 := q2
  clear q1 q2
  refine ⟨h2, g2, fun Q => ?_⟩
  simp +decide only [Nat.reduceEqDiff, Nat.add_eq_left, Nat.left_eq_add, Nat.reduceAdd, Nat.reduceLeDiff, Nat.reduceMul, Nat.reduceSub, Nat.reduceLT, zlt8, zlt8_, zlt8n, zlt8n_, List.length_cons, List.length_nil, true_or, or_true, false_or, or_false, and_self, and_true, true_and, and_false, false_and, not_false_eq_true, not_true_eq_false, ite_true, ite_false, if_true, if_false, ite_not, zin, zpush_s, zpush_n, kl_int, kl_ref, kl_none, kl_kl, kl_long, kl_null, VR_i, VR_l, zT_wI, zT_wJ, zT_wR, zT_wIr, zT_wJr, zT_wRr, zI_wJ, zI_wR, zI_wJr, zI_wRr, zJ_wI, zJ_wR, zJ_wIr, zJ_wRr, zR_wI, zR_wJ, zR_wIr, zR_wJr, zN_wI, zN_wJ, zN_wR, zN_wIr, zN_wJr, zN_wRr, zZ_wI, zZ_wJ, zZ_wR, zZ_wIr, zZ_wJr, zZ_wRr, zI_wI, zJ_wJ, zR_wR, zI_wIr, zJ_wJr, zR_wRr, g1301_811, g1301_812, g1301_813, g1301_814, g1301_815, g1301_816, g1301_817, g1301_818, g1301_819, g1301_820, g1301_821, g1301_822, g1301_825, g1301_826, g1301_827, g1301_828, g1301_829, g1301_830, g1301_831, g1301_832, g1301_833, g1301_834, g1301_835, g1301_836, g1301_839, g1301_842, g1301_843, t0, a1, a2, b1, b2, u1, v1, e1, f1, k1, l1, u2, v2, e2, f2, k2, l2,  Q1, Q2]
theorem lw_731 (g : GI h xs L) (hi : i + 6 ≤ L) (hL : L ≤ 3072) : ∃ h2, GI h2 xs L ∧ ∀ Q, zG 60 1301 844 [some (.ref 1000000), some (.ref 0), some (.ref 88), some (.int (nI i))] [] h Q = zG 60 1301 1251 [some (.ref 1000000), some (.ref 0), some (.ref 88), some (.int (nI i))] [] h2 Q := by
  obtain ⟨t0, lc⟩ := LC_G g
  obtain ⟨r, h1, h2, fr, q1, q2, g2⟩ := P_looked g 
  obtain ⟨a1, a2, a3⟩ := id lc
  obtain ⟨b1, b2, b3⟩ := LC_F fr lc
  have Q1 : ∀ Q, zCall 60 731 _ h Q = Q (some (.int r.1)) h1 := q1
  have Q2 : ∀ Q, zCall 60 859 _ h1 Q = Q (some (.int r.1)) h2 := q2
  clear q1 q2
  refine ⟨h2, g2, fun Q => ?_⟩
  simp +decide only [Nat.reduceEqDiff, Nat.add_eq_left, Nat.left_eq_add, Nat.reduceAdd, Nat.reduceLeDiff, Nat.reduceMul, Nat.reduceSub, Nat.reduceLT, zlt8, zlt8_, zlt8n, zlt8n_, List.length_cons, List.length_nil, true_or, or_true, false_or, or_false, and_self, and_true, true_and, and_false, false_and, not_false_eq_true, not_true_eq_false, ite_true, ite_false, if_true, if_false, ite_not, zin, zpush_s, zpush_n, kl_int, kl_ref, kl_none, kl_kl, kl_long, kl_null, VR_i, VR_l, zT_wI, zT_wJ, zT_wR, zT_wIr, zT_wJr, zT_wRr, zI_wJ, zI_wR, zI_wJr, zI_wRr, zJ_wI, zJ_wR, zJ_wIr, zJ_wRr, zR_wI, zR_wJ, zR_wIr, zR_wJr, zN_wI, zN_wJ, zN_wR, zN_wIr, zN_wJr, zN_wRr, zZ_wI, zZ_wJ, zZ_wR, zZ_wIr, zZ_wJr, zZ_wRr, zI_wI, zJ_wJ, zR_wR, zI_wIr, zJ_wJr, zR_wRr, g1301_844, g1301_845, g1301_848, g1301_849, g1301_852, g1301_855, g1301_856, t0, a1, a2, b1, b2,  Q1, Q2]
theorem lw_732 (g : GI h xs L) (hi : i + 6 ≤ L) (hL : L ≤ 3072) : ∃ h2, GI h2 xs L ∧ ∀ Q, zG 60 1301 857 [some (.ref 1000000), some (.ref 0), some (.ref 88), some (.int (nI i))] [] h Q = zG 60 1301 1251 [some (.ref 1000000), some (.ref 0), some (.ref 88), some (.int (nI i))] [] h2 Q := by
  obtain ⟨t0, lc⟩ := LC_G g
  obtain ⟨r, h1, h2, fr, q1, q2, g2⟩ := P_judge g (xs (i + 1)) (xs (i + 2))
  obtain ⟨a1, a2, a3⟩ := id lc
  obtain ⟨b1, b2, b3⟩ := LC_F fr lc
  obtain ⟨u1, v1⟩ := ixs hi hL 1 (by omega)
  have e1 := a3 (i + 1) (by omega)
  have f1 := b3 (i + 1) (by omega)
  have k1 : nI i + 1 = nI (i + 1) := nI_add i 1
  have l1 : i + 1 < L := by omega
  obtain ⟨u2, v2⟩ := ixs hi hL 2 (by omega)
  have e2 := a3 (i + 2) (by omega)
  have f2 := b3 (i + 2) (by omega)
  have k2 : nI i + 2 = nI (i + 2) := nI_add i 2
  have l2 : i + 2 < L := by omega
  have Q1 : ∀ Q, zCall 60 732 _ h Q = Q (some (.int r.1)) h1 := q1
  have Q2 : ∀ Q, zCall 60 872 _ h1 Q = Q (some (.int r.1)) h2 := q2
  clear q1 q2
  refine ⟨h2, g2, fun Q => ?_⟩
  simp +decide only [Nat.reduceEqDiff, Nat.add_eq_left, Nat.left_eq_add, Nat.reduceAdd, Nat.reduceLeDiff, Nat.reduceMul, Nat.reduceSub, Nat.reduceLT, zlt8, zlt8_, zlt8n, zlt8n_, List.length_cons, List.length_nil, true_or, or_true, false_or, or_false, and_self, and_true, true_and, and_false, false_and, not_false_eq_true, not_true_eq_false, ite_true, ite_false, if_true, if_false, ite_not, zin, zpush_s, zpush_n, kl_int, kl_ref, kl_none, kl_kl, kl_long, kl_null, VR_i, VR_l, zT_wI, zT_wJ, zT_wR, zT_wIr, zT_wJr, zT_wRr, zI_wJ, zI_wR, zI_wJr, zI_wRr, zJ_wI, zJ_wR, zJ_wIr, zJ_wRr, zR_wI, zR_wJ, zR_wIr, zR_wJr, zN_wI, zN_wJ, zN_wR, zN_wIr, zN_wJr, zN_wRr, zZ_wI, zZ_wJ, zZ_wR, zZ_wIr, zZ_wJr, zZ_wRr, zI_wI, zJ_wJ, zR_wR, zI_wIr, zJ_wJr, zR_wRr, g1301_857, g1301_858, g1301_859, g1301_860, g1301_861, g1301_862, g1301_863, g1301_864, g1301_865, g1301_866, g1301_867, g1301_868, g1301_871, g1301_872, g1301_873, g1301_874, g1301_875, g1301_876, g1301_877, g1301_878, g1301_879, g1301_880, g1301_881, g1301_882, g1301_885, g1301_888, g1301_889, t0, a1, a2, b1, b2, u1, v1, e1, f1, k1, l1, u2, v2, e2, f2, k2, l2,  Q1, Q2]
theorem lw_733 (g : GI h xs L) (hi : i + 6 ≤ L) (hL : L ≤ 3072) : ∃ h2, GI h2 xs L ∧ ∀ Q, zG 60 1301 890 [some (.ref 1000000), some (.ref 0), some (.ref 88), some (.int (nI i))] [] h Q = zG 60 1301 1251 [some (.ref 1000000), some (.ref 0), some (.ref 88), some (.int (nI i))] [] h2 Q := by
  obtain ⟨t0, lc⟩ := LC_G g
  obtain ⟨r, h1, h2, fr, q1, q2, g2⟩ := P_image g 
  obtain ⟨a1, a2, a3⟩ := id lc
  obtain ⟨b1, b2, b3⟩ := LC_F fr lc
  have Q1 : ∀ Q, zCall 60 733 _ h Q = Q (some (.int r.1)) h1 := q1
  have Q2 : ∀ Q, zCall 60 805 _ h1 Q = Q (some (.int r.1)) h2 := q2
  clear q1 q2
  refine ⟨h2, g2, fun Q => ?_⟩
  simp +decide only [Nat.reduceEqDiff, Nat.add_eq_left, Nat.left_eq_add, Nat.reduceAdd, Nat.reduceLeDiff, Nat.reduceMul, Nat.reduceSub, Nat.reduceLT, zlt8, zlt8_, zlt8n, zlt8n_, List.length_cons, List.length_nil, true_or, or_true, false_or, or_false, and_self, and_true, true_and, and_false, false_and, not_false_eq_true, not_true_eq_false, ite_true, ite_false, if_true, if_false, ite_not, zin, zpush_s, zpush_n, kl_int, kl_ref, kl_none, kl_kl, kl_long, kl_null, VR_i, VR_l, zT_wI, zT_wJ, zT_wR, zT_wIr, zT_wJr, zT_wRr, zI_wJ, zI_wR, zI_wJr, zI_wRr, zJ_wI, zJ_wR, zJ_wIr, zJ_wRr, zR_wI, zR_wJ, zR_wIr, zR_wJr, zN_wI, zN_wJ, zN_wR, zN_wIr, zN_wJr, zN_wRr, zZ_wI, zZ_wJ, zZ_wR, zZ_wIr, zZ_wJr, zZ_wRr, zI_wI, zJ_wJ, zR_wR, zI_wIr, zJ_wJr, zR_wRr, g1301_890, g1301_891, g1301_894, g1301_895, g1301_898, g1301_901, g1301_902, t0, a1, a2, b1, b2,  Q1, Q2]
theorem lw_734 (g : GI h xs L) (hi : i + 6 ≤ L) (hL : L ≤ 3072) : ∃ h2, GI h2 xs L ∧ ∀ Q, zG 60 1301 903 [some (.ref 1000000), some (.ref 0), some (.ref 88), some (.int (nI i))] [] h Q = zG 60 1301 1251 [some (.ref 1000000), some (.ref 0), some (.ref 88), some (.int (nI i))] [] h2 Q := by
  obtain ⟨t0, lc⟩ := LC_G g
  obtain ⟨r, h1, h2, fr, q1, q2, g2⟩ := P_undo g 
  obtain ⟨a1, a2, a3⟩ := id lc
  obtain ⟨b1, b2, b3⟩ := LC_F fr lc
  have Q1 : ∀ Q, zCall 60 734 _ h Q = Q (some (.int r.1)) h1 := q1
  have Q2 : ∀ Q, zCall 60 806 _ h1 Q = Q (some (.int r.1)) h2 := q2
  clear q1 q2
  refine ⟨h2, g2, fun Q => ?_⟩
  simp +decide only [Nat.reduceEqDiff, Nat.add_eq_left, Nat.left_eq_add, Nat.reduceAdd, Nat.reduceLeDiff, Nat.reduceMul, Nat.reduceSub, Nat.reduceLT, zlt8, zlt8_, zlt8n, zlt8n_, List.length_cons, List.length_nil, true_or, or_true, false_or, or_false, and_self, and_true, true_and, and_false, false_and, not_false_eq_true, not_true_eq_false, ite_true, ite_false, if_true, if_false, ite_not, zin, zpush_s, zpush_n, kl_int, kl_ref, kl_none, kl_kl, kl_long, kl_null, VR_i, VR_l, zT_wI, zT_wJ, zT_wR, zT_wIr, zT_wJr, zT_wRr, zI_wJ, zI_wR, zI_wJr, zI_wRr, zJ_wI, zJ_wR, zJ_wIr, zJ_wRr, zR_wI, zR_wJ, zR_wIr, zR_wJr, zN_wI, zN_wJ, zN_wR, zN_wIr, zN_wJr, zN_wRr, zZ_wI, zZ_wJ, zZ_wR, zZ_wIr, zZ_wJr, zZ_wRr, zI_wI, zJ_wJ, zR_wR, zI_wIr, zJ_wJr, zR_wRr, g1301_903, g1301_904, g1301_907, g1301_908, g1301_911, g1301_914, g1301_915, t0, a1, a2, b1, b2,  Q1, Q2]
theorem lw_735 (g : GI h xs L) (hi : i + 6 ≤ L) (hL : L ≤ 3072) : ∃ h2, GI h2 xs L ∧ ∀ Q, zG 60 1301 916 [some (.ref 1000000), some (.ref 0), some (.ref 88), some (.int (nI i))] [] h Q = zG 60 1301 1251 [some (.ref 1000000), some (.ref 0), some (.ref 88), some (.int (nI i))] [] h2 Q := by
  obtain ⟨t0, lc⟩ := LC_G g
  obtain ⟨r, h1, h2, fr, q1, q2, g2⟩ := P_act g (xs (i + 1)) (xs (i + 2)) (xs (i + 3))
  obtain ⟨a1, a2, a3⟩ := id lc
  obtain ⟨b1, b2, b3⟩ := LC_F fr lc
  obtain ⟨u1, v1⟩ := ixs hi hL 1 (by omega)
  have e1 := a3 (i + 1) (by omega)
  have f1 := b3 (i + 1) (by omega)
  have k1 : nI i + 1 = nI (i + 1) := nI_add i 1
  have l1 : i + 1 < L := by omega
  obtain ⟨u2, v2⟩ := ixs hi hL 2 (by omega)
  have e2 := a3 (i + 2) (by omega)
  have f2 := b3 (i + 2) (by omega)
  have k2 : nI i + 2 = nI (i + 2) := nI_add i 2
  have l2 : i + 2 < L := by omega
  obtain ⟨u3, v3⟩ := ixs hi hL 3 (by omega)
  have e3 := a3 (i + 3) (by omega)
  have f3 := b3 (i + 3) (by omega)
  have k3 : nI i + 3 = nI (i + 3) := nI_add i 3
  have l3 : i + 3 < L := by omega
  have Q1 : ∀ Q, zCall 60 735 _ h Q = Q (some (.int r.1)) h1 := q1
  have Q2 : ∀ Q, zCall 60 863 _ h1 Q = Q (some (.int r.1)) h2 := q2
  clear q1 q2
  refine ⟨h2, g2, fun Q => ?_⟩
  simp +decide only [Nat.reduceEqDiff, Nat.add_eq_left, Nat.left_eq_add, Nat.reduceAdd, Nat.reduceLeDiff, Nat.reduceMul, Nat.reduceSub, Nat.reduceLT, zlt8, zlt8_, zlt8n, zlt8n_, List.length_cons, List.length_nil, true_or, or_true, false_or, or_false, and_self, and_true, true_and, and_false, false_and, not_false_eq_true, not_true_eq_false, ite_true, ite_false, if_true, if_false, ite_not, zin, zpush_s, zpush_n, kl_int, kl_ref, kl_none, kl_kl, kl_long, kl_null, VR_i, VR_l, zT_wI, zT_wJ, zT_wR, zT_wIr, zT_wJr, zT_wRr, zI_wJ, zI_wR, zI_wJr, zI_wRr, zJ_wI, zJ_wR, zJ_wIr, zJ_wRr, zR_wI, zR_wJ, zR_wIr, zR_wJr, zN_wI, zN_wJ, zN_wR, zN_wIr, zN_wJr, zN_wRr, zZ_wI, zZ_wJ, zZ_wR, zZ_wIr, zZ_wJr, zZ_wRr, zI_wI, zJ_wJ, zR_wR, zI_wIr, zJ_wJr, zR_wRr, g1301_916, g1301_917, g1301_918, g1301_919, g1301_920, g1301_921, g1301_922, g1301_923, g1301_924, g1301_925, g1301_926, g1301_927, g1301_928, g1301_929, g1301_930, g1301_931, g1301_932, g1301_935, g1301_936, g1301_937, g1301_938, g1301_939, g1301_940, g1301_941, g1301_942, g1301_943, g1301_944, g1301_945, g1301_946, g1301_947, g1301_948, g1301_949, g1301_950, g1301_951, g1301_954, g1301_957, g1301_958, t0, a1, a2, b1, b2, u1, v1, e1, f1, k1, l1, u2, v2, e2, f2, k2, l2, u3, v3, e3, f3, k3, l3,  Q1, Q2]
theorem lw_736 (g : GI h xs L) (hi : i + 6 ≤ L) (hL : L ≤ 3072) : ∃ h2, GI h2 xs L ∧ ∀ Q, zG 60 1301 959 [some (.ref 1000000), some (.ref 0), some (.ref 88), some (.int (nI i))] [] h Q = zG 60 1301 1251 [some (.ref 1000000), some (.ref 0), some (.ref 88), some (.int (nI i))] [] h2 Q := by
  obtain ⟨t0, lc⟩ := LC_G g
  obtain ⟨r, h1, h2, fr, q1, q2, g2⟩ := P_trace g (xs (i + 1))
  obtain ⟨a1, a2, a3⟩ := id lc
  obtain ⟨b1, b2, b3⟩ := LC_F fr lc
  obtain ⟨u1, v1⟩ := ixs hi hL 1 (by omega)
  have e1 := a3 (i + 1) (by omega)
  have f1 := b3 (i + 1) (by omega)
  have k1 : nI i + 1 = nI (i + 1) := nI_add i 1
  have l1 : i + 1 < L := by omega
  have Q1 : ∀ Q, zCall 60 736 _ h Q = Q (some (.int r.1)) h1 := q1
  have Q2 : ∀ Q, zCall 60 864 _ h1 Q = Q (some (.int r.1)) h2 := q2
  clear q1 q2
  refine ⟨h2, g2, fun Q => ?_⟩
  simp +decide only [Nat.reduceEqDiff, Nat.add_eq_left, Nat.left_eq_add, Nat.reduceAdd, Nat.reduceLeDiff, Nat.reduceMul, Nat.reduceSub, Nat.reduceLT, zlt8, zlt8_, zlt8n, zlt8n_, List.length_cons, List.length_nil, true_or, or_true, false_or, or_false, and_self, and_true, true_and, and_false, false_and, not_false_eq_true, not_true_eq_false, ite_true, ite_false, if_true, if_false, ite_not, zin, zpush_s, zpush_n, kl_int, kl_ref, kl_none, kl_kl, kl_long, kl_null, VR_i, VR_l, zT_wI, zT_wJ, zT_wR, zT_wIr, zT_wJr, zT_wRr, zI_wJ, zI_wR, zI_wJr, zI_wRr, zJ_wI, zJ_wR, zJ_wIr, zJ_wRr, zR_wI, zR_wJ, zR_wIr, zR_wJr, zN_wI, zN_wJ, zN_wR, zN_wIr, zN_wJr, zN_wRr, zZ_wI, zZ_wJ, zZ_wR, zZ_wIr, zZ_wJr, zZ_wRr, zI_wI, zJ_wJ, zR_wR, zI_wIr, zJ_wJr, zR_wRr, g1301_959, g1301_960, g1301_961, g1301_962, g1301_963, g1301_964, g1301_965, g1301_968, g1301_969, g1301_970, g1301_971, g1301_972, g1301_973, g1301_974, g1301_977, g1301_980, g1301_981, t0, a1, a2, b1, b2, u1, v1, e1, f1, k1, l1,  Q1, Q2]
theorem lw_737 (g : GI h xs L) (hi : i + 6 ≤ L) (hL : L ≤ 3072) : ∃ h2, GI h2 xs L ∧ ∀ Q, zG 60 1301 982 [some (.ref 1000000), some (.ref 0), some (.ref 88), some (.int (nI i))] [] h Q = zG 60 1301 1251 [some (.ref 1000000), some (.ref 0), some (.ref 88), some (.int (nI i))] [] h2 Q := by
  obtain ⟨t0, lc⟩ := LC_G g
  obtain ⟨r, h1, h2, fr, q1, q2, g2⟩ := P_taken g (xs (i + 1)) (xs (i + 2))
  obtain ⟨a1, a2, a3⟩ := id lc
  obtain ⟨b1, b2, b3⟩ := LC_F fr lc
  obtain ⟨u1, v1⟩ := ixs hi hL 1 (by omega)
  have e1 := a3 (i + 1) (by omega)
  have f1 := b3 (i + 1) (by omega)
  have k1 : nI i + 1 = nI (i + 1) := nI_add i 1
  have l1 : i + 1 < L := by omega
  obtain ⟨u2, v2⟩ := ixs hi hL 2 (by omega)
  have e2 := a3 (i + 2) (by omega)
  have f2 := b3 (i + 2) (by omega)
  have k2 : nI i + 2 = nI (i + 2) := nI_add i 2
  have l2 : i + 2 < L := by omega
  have Q1 : ∀ Q, zCall 60 737 _ h Q = Q (some (.int r.1)) h1 := q1
  have Q2 : ∀ Q, zCall 60 865 _ h1 Q = Q (some (.int r.1)) h2 := q2
  clear q1 q2
  refine ⟨h2, g2, fun Q => ?_⟩
  simp +decide only [Nat.reduceEqDiff, Nat.add_eq_left, Nat.left_eq_add, Nat.reduceAdd, Nat.reduceLeDiff, Nat.reduceMul, Nat.reduceSub, Nat.reduceLT, zlt8, zlt8_, zlt8n, zlt8n_, List.length_cons, List.length_nil, true_or, or_true, false_or, or_false, and_self, and_true, true_and, and_false, false_and, not_false_eq_true, not_true_eq_false, ite_true, ite_false, if_true, if_false, ite_not, zin, zpush_s, zpush_n, kl_int, kl_ref, kl_none, kl_kl, kl_long, kl_null, VR_i, VR_l, zT_wI, zT_wJ, zT_wR, zT_wIr, zT_wJr, zT_wRr, zI_wJ, zI_wR, zI_wJr, zI_wRr, zJ_wI, zJ_wR, zJ_wIr, zJ_wRr, zR_wI, zR_wJ, zR_wIr, zR_wJr, zN_wI, zN_wJ, zN_wR, zN_wIr, zN_wJr, zN_wRr, zZ_wI, zZ_wJ, zZ_wR, zZ_wIr, zZ_wJr, zZ_wRr, zI_wI, zJ_wJ, zR_wR, zI_wIr, zJ_wJr, zR_wRr, g1301_982, g1301_983, g1301_984, g1301_985, g1301_986, g1301_987, g1301_988, g1301_989, g1301_990, g1301_991, g1301_992, g1301_993, g1301_996, g1301_997, g1301_998, g1301_999, g1301_1000, g1301_1001, g1301_1002, g1301_1003, g1301_1004, g1301_1005, g1301_1006, g1301_1007, g1301_1010, g1301_1013, g1301_1014, t0, a1, a2, b1, b2, u1, v1, e1, f1, k1, l1, u2, v2, e2, f2, k2, l2,  Q1, Q2]
theorem lw_738 (g : GI h xs L) (hi : i + 6 ≤ L) (hL : L ≤ 3072) : ∃ h2, GI h2 xs L ∧ ∀ Q, zG 60 1301 1015 [some (.ref 1000000), some (.ref 0), some (.ref 88), some (.int (nI i))] [] h Q = zG 60 1301 1251 [some (.ref 1000000), some (.ref 0), some (.ref 88), some (.int (nI i))] [] h2 Q := by
  obtain ⟨t0, lc⟩ := LC_G g
  obtain ⟨r, h1, h2, fr, q1, q2, g2⟩ := P_count g (xs (i + 1))
  obtain ⟨a1, a2, a3⟩ := id lc
  obtain ⟨b1, b2, b3⟩ := LC_F fr lc
  obtain ⟨u1, v1⟩ := ixs hi hL 1 (by omega)
  have e1 := a3 (i + 1) (by omega)
  have f1 := b3 (i + 1) (by omega)
  have k1 : nI i + 1 = nI (i + 1) := nI_add i 1
  have l1 : i + 1 < L := by omega
  have Q1 : ∀ Q, zCall 60 738 _ h Q = Q (some (.int r.1)) h1 := q1
  have Q2 : ∀ Q, zCall 60 866 _ h1 Q = Q (some (.int r.1)) h2 := q2
  clear q1 q2
  refine ⟨h2, g2, fun Q => ?_⟩
  simp +decide only [Nat.reduceEqDiff, Nat.add_eq_left, Nat.left_eq_add, Nat.reduceAdd, Nat.reduceLeDiff, Nat.reduceMul, Nat.reduceSub, Nat.reduceLT, zlt8, zlt8_, zlt8n, zlt8n_, List.length_cons, List.length_nil, true_or, or_true, false_or, or_false, and_self, and_true, true_and, and_false, false_and, not_false_eq_true, not_true_eq_false, ite_true, ite_false, if_true, if_false, ite_not, zin, zpush_s, zpush_n, kl_int, kl_ref, kl_none, kl_kl, kl_long, kl_null, VR_i, VR_l, zT_wI, zT_wJ, zT_wR, zT_wIr, zT_wJr, zT_wRr, zI_wJ, zI_wR, zI_wJr, zI_wRr, zJ_wI, zJ_wR, zJ_wIr, zJ_wRr, zR_wI, zR_wJ, zR_wIr, zR_wJr, zN_wI, zN_wJ, zN_wR, zN_wIr, zN_wJr, zN_wRr, zZ_wI, zZ_wJ, zZ_wR, zZ_wIr, zZ_wJr, zZ_wRr, zI_wI, zJ_wJ, zR_wR, zI_wIr, zJ_wJr, zR_wRr, g1301_1015, g1301_1016, g1301_1017, g1301_1018, g1301_1019, g1301_1020, g1301_1021, g1301_1024, g1301_1025, g1301_1026, g1301_1027, g1301_1028, g1301_1029, g1301_1030, g1301_1033, g1301_1036, g1301_1037, t0, a1, a2, b1, b2, u1, v1, e1, f1, k1, l1,  Q1, Q2]
theorem lw_739 (g : GI h xs L) (hi : i + 6 ≤ L) (hL : L ≤ 3072) : ∃ h2, GI h2 xs L ∧ ∀ Q, zG 60 1301 1038 [some (.ref 1000000), some (.ref 0), some (.ref 88), some (.int (nI i))] [] h Q = zG 60 1301 1251 [some (.ref 1000000), some (.ref 0), some (.ref 88), some (.int (nI i))] [] h2 Q := by
  obtain ⟨t0, lc⟩ := LC_G g
  obtain ⟨r, h1, h2, fr, q1, q2, g2⟩ := P_tape g (xs (i + 1)) (xs (i + 2)) (xs (i + 3))
  obtain ⟨a1, a2, a3⟩ := id lc
  obtain ⟨b1, b2, b3⟩ := LC_F fr lc
  obtain ⟨u1, v1⟩ := ixs hi hL 1 (by omega)
  have e1 := a3 (i + 1) (by omega)
  have f1 := b3 (i + 1) (by omega)
  have k1 : nI i + 1 = nI (i + 1) := nI_add i 1
  have l1 : i + 1 < L := by omega
  obtain ⟨u2, v2⟩ := ixs hi hL 2 (by omega)
  have e2 := a3 (i + 2) (by omega)
  have f2 := b3 (i + 2) (by omega)
  have k2 : nI i + 2 = nI (i + 2) := nI_add i 2
  have l2 : i + 2 < L := by omega
  obtain ⟨u3, v3⟩ := ixs hi hL 3 (by omega)
  have e3 := a3 (i + 3) (by omega)
  have f3 := b3 (i + 3) (by omega)
  have k3 : nI i + 3 = nI (i + 3) := nI_add i 3
  have l3 : i + 3 < L := by omega
  have Q1 : ∀ Q, zCall 60 739 _ h Q = Q (some (.int r.1)) h1 := q1
  have Q2 : ∀ Q, zCall 60 868 _ h1 Q = Q (some (.int r.1)) h2 := q2
  clear q1 q2
  refine ⟨h2, g2, fun Q => ?_⟩
  simp +decide only [Nat.reduceEqDiff, Nat.add_eq_left, Nat.left_eq_add, Nat.reduceAdd, Nat.reduceLeDiff, Nat.reduceMul, Nat.reduceSub, Nat.reduceLT, zlt8, zlt8_, zlt8n, zlt8n_, List.length_cons, List.length_nil, true_or, or_true, false_or, or_false, and_self, and_true, true_and, and_false, false_and, not_false_eq_true, not_true_eq_false, ite_true, ite_false, if_true, if_false, ite_not, zin, zpush_s, zpush_n, kl_int, kl_ref, kl_none, kl_kl, kl_long, kl_null, VR_i, VR_l, zT_wI, zT_wJ, zT_wR, zT_wIr, zT_wJr, zT_wRr, zI_wJ, zI_wR, zI_wJr, zI_wRr, zJ_wI, zJ_wR, zJ_wIr, zJ_wRr, zR_wI, zR_wJ, zR_wIr, zR_wJr, zN_wI, zN_wJ, zN_wR, zN_wIr, zN_wJr, zN_wRr, zZ_wI, zZ_wJ, zZ_wR, zZ_wIr, zZ_wJr, zZ_wRr, zI_wI, zJ_wJ, zR_wR, zI_wIr, zJ_wJr, zR_wRr, g1301_1038, g1301_1039, g1301_1040, g1301_1041, g1301_1042, g1301_1043, g1301_1044, g1301_1045, g1301_1046, g1301_1047, g1301_1048, g1301_1049, g1301_1050, g1301_1051, g1301_1052, g1301_1053, g1301_1054, g1301_1057, g1301_1058, g1301_1059, g1301_1060, g1301_1061, g1301_1062, g1301_1063, g1301_1064, g1301_1065, g1301_1066, g1301_1067, g1301_1068, g1301_1069, g1301_1070, g1301_1071, g1301_1072, g1301_1073, g1301_1076, g1301_1079, g1301_1080, t0, a1, a2, b1, b2, u1, v1, e1, f1, k1, l1, u2, v2, e2, f2, k2, l2, u3, v3, e3, f3, k3, l3,  Q1, Q2]
theorem lw_740 (g : GI h xs L) (hi : i + 6 ≤ L) (hL : L ≤ 3072) : ∃ h2, GI h2 xs L ∧ ∀ Q, zG 60 1301 1081 [some (.ref 1000000), some (.ref 0), some (.ref 88), some (.int (nI i))] [] h Q = zG 60 1301 1251 [some (.ref 1000000), some (.ref 0), some (.ref 88), some (.int (nI i))] [] h2 Q := by
  obtain ⟨t0, lc⟩ := LC_G g
  obtain ⟨r, h1, h2, fr, q1, q2, g2⟩ := P_item g (xs (i + 1)) (xs (i + 2)) (((xs (i + 3)).toInt64 <<< ((32 : Int32).toInt64 &&& 63)) ||| ((xs (i + 4)).toInt64 &&& 4294967295))
  obtain ⟨a1, a2, a3⟩ := id lc
  obtain ⟨b1, b2, b3⟩ := LC_F fr lc
  obtain ⟨u1, v1⟩ := ixs hi hL 1 (by omega)
  have e1 := a3 (i + 1) (by omega)
  have f1 := b3 (i + 1) (by omega)
  have k1 : nI i + 1 = nI (i + 1) := nI_add i 1
  have l1 : i + 1 < L := by omega
  obtain ⟨u2, v2⟩ := ixs hi hL 2 (by omega)
  have e2 := a3 (i + 2) (by omega)
  have f2 := b3 (i + 2) (by omega)
  have k2 : nI i + 2 = nI (i + 2) := nI_add i 2
  have l2 : i + 2 < L := by omega
  obtain ⟨u3, v3⟩ := ixs hi hL 3 (by omega)
  have e3 := a3 (i + 3) (by omega)
  have f3 := b3 (i + 3) (by omega)
  have k3 : nI i + 3 = nI (i + 3) := nI_add i 3
  have l3 : i + 3 < L := by omega
  obtain ⟨u4, v4⟩ := ixs hi hL 4 (by omega)
  have e4 := a3 (i + 4) (by omega)
  have f4 := b3 (i + 4) (by omega)
  have k4 : nI i + 4 = nI (i + 4) := nI_add i 4
  have l4 : i + 4 < L := by omega
  have Q1 : ∀ Q, zCall 60 740 _ h Q = Q (some (.int r.1)) h1 := q1
  have Q2 : ∀ Q, zCall 60 869 _ h1 Q = Q (some (.int r.1)) h2 := q2
  clear q1 q2
  refine ⟨h2, g2, fun Q => ?_⟩
  simp +decide only [Nat.reduceEqDiff, Nat.add_eq_left, Nat.left_eq_add, Nat.reduceAdd, Nat.reduceLeDiff, Nat.reduceMul, Nat.reduceSub, Nat.reduceLT, zlt8, zlt8_, zlt8n, zlt8n_, List.length_cons, List.length_nil, true_or, or_true, false_or, or_false, and_self, and_true, true_and, and_false, false_and, not_false_eq_true, not_true_eq_false, ite_true, ite_false, if_true, if_false, ite_not, zin, zpush_s, zpush_n, kl_int, kl_ref, kl_none, kl_kl, kl_long, kl_null, VR_i, VR_l, zT_wI, zT_wJ, zT_wR, zT_wIr, zT_wJr, zT_wRr, zI_wJ, zI_wR, zI_wJr, zI_wRr, zJ_wI, zJ_wR, zJ_wIr, zJ_wRr, zR_wI, zR_wJ, zR_wIr, zR_wJr, zN_wI, zN_wJ, zN_wR, zN_wIr, zN_wJr, zN_wRr, zZ_wI, zZ_wJ, zZ_wR, zZ_wIr, zZ_wJr, zZ_wRr, zI_wI, zJ_wJ, zR_wR, zI_wIr, zJ_wJr, zR_wRr, g1301_1081, g1301_1082, g1301_1083, g1301_1084, g1301_1085, g1301_1086, g1301_1087, g1301_1088, g1301_1089, g1301_1090, g1301_1091, g1301_1092, g1301_1093, g1301_1094, g1301_1095, g1301_1096, g1301_1097, g1301_1098, g1301_1100, g1301_1101, g1301_1102, g1301_1103, g1301_1104, g1301_1105, g1301_1106, g1301_1107, g1301_1110, g1301_1111, g1301_1112, g1301_1115, g1301_1116, g1301_1117, g1301_1118, g1301_1119, g1301_1120, g1301_1121, g1301_1122, g1301_1123, g1301_1124, g1301_1125, g1301_1126, g1301_1127, g1301_1128, g1301_1129, g1301_1130, g1301_1131, g1301_1132, g1301_1134, g1301_1135, g1301_1136, g1301_1137, g1301_1138, g1301_1139, g1301_1140, g1301_1141, g1301_1144, g1301_1145, g1301_1146, g1301_1149, g1301_1152, g1301_1153, t0, a1, a2, b1, b2, u1, v1, e1, f1, k1, l1, u2, v2, e2, f2, k2, l2, u3, v3, e3, f3, k3, l3, u4, v4, e4, f4, k4, l4,  Q1, Q2]
theorem lw_741 (g : GI h xs L) (hi : i + 6 ≤ L) (hL : L ≤ 3072) : ∃ h2, GI h2 xs L ∧ ∀ Q, zG 60 1301 1154 [some (.ref 1000000), some (.ref 0), some (.ref 88), some (.int (nI i))] [] h Q = zG 60 1301 1251 [some (.ref 1000000), some (.ref 0), some (.ref 88), some (.int (nI i))] [] h2 Q := by
  obtain ⟨t0, lc⟩ := LC_G g
  obtain ⟨r, h1, h2, fr, q1, q2, g2⟩ := P_read g (xs (i + 1)) (xs (i + 2))
  obtain ⟨a1, a2, a3⟩ := id lc
  obtain ⟨b1, b2, b3⟩ := LC_F fr lc
  obtain ⟨u1, v1⟩ := ixs hi hL 1 (by omega)
  have e1 := a3 (i + 1) (by omega)
  have f1 := b3 (i + 1) (by omega)
  have k1 : nI i + 1 = nI (i + 1) := nI_add i 1
  have l1 : i + 1 < L := by omega
  obtain ⟨u2, v2⟩ := ixs hi hL 2 (by omega)
  have e2 := a3 (i + 2) (by omega)
  have f2 := b3 (i + 2) (by omega)
  have k2 : nI i + 2 = nI (i + 2) := nI_add i 2
  have l2 : i + 2 < L := by omega
  have Q1 : ∀ Q, zCall 60 741 _ h Q = Q (some (.long r.2)) h1 := q1
  have Q2 : ∀ Q, zCall 60 870 _ h1 Q = Q (some (.long r.2)) h2 := q2
  clear q1 q2
  refine ⟨h2, g2, fun Q => ?_⟩
  simp +decide only [Nat.reduceEqDiff, Nat.add_eq_left, Nat.left_eq_add, Nat.reduceAdd, Nat.reduceLeDiff, Nat.reduceMul, Nat.reduceSub, Nat.reduceLT, zlt8, zlt8_, zlt8n, zlt8n_, List.length_cons, List.length_nil, true_or, or_true, false_or, or_false, and_self, and_true, true_and, and_false, false_and, not_false_eq_true, not_true_eq_false, ite_true, ite_false, if_true, if_false, ite_not, zin, zpush_s, zpush_n, kl_int, kl_ref, kl_none, kl_kl, kl_long, kl_null, VR_i, VR_l, zT_wI, zT_wJ, zT_wR, zT_wIr, zT_wJr, zT_wRr, zI_wJ, zI_wR, zI_wJr, zI_wRr, zJ_wI, zJ_wR, zJ_wIr, zJ_wRr, zR_wI, zR_wJ, zR_wIr, zR_wJr, zN_wI, zN_wJ, zN_wR, zN_wIr, zN_wJr, zN_wRr, zZ_wI, zZ_wJ, zZ_wR, zZ_wIr, zZ_wJr, zZ_wRr, zI_wI, zJ_wJ, zR_wR, zI_wIr, zJ_wJr, zR_wRr, g1301_1154, g1301_1155, g1301_1156, g1301_1157, g1301_1158, g1301_1159, g1301_1160, g1301_1161, g1301_1162, g1301_1163, g1301_1164, g1301_1165, g1301_1168, g1301_1169, g1301_1170, g1301_1171, g1301_1172, g1301_1173, g1301_1174, g1301_1175, g1301_1176, g1301_1177, g1301_1178, g1301_1179, g1301_1182, g1301_1183, g1301_1186, g1301_1187, t0, a1, a2, b1, b2, u1, v1, e1, f1, k1, l1, u2, v2, e2, f2, k2, l2,  Q1, Q2, zcmp_r]
theorem lw_742 (g : GI h xs L) (hi : i + 6 ≤ L) (hL : L ≤ 3072) : ∃ h2, GI h2 xs L ∧ ∀ Q, zG 60 1301 1188 [some (.ref 1000000), some (.ref 0), some (.ref 88), some (.int (nI i))] [] h Q = zG 60 1301 1251 [some (.ref 1000000), some (.ref 0), some (.ref 88), some (.int (nI i))] [] h2 Q := by
  obtain ⟨t0, lc⟩ := LC_G g
  obtain ⟨r, h1, h2, fr, q1, q2, g2⟩ := P_shift g (xs (i + 1)) (xs (i + 2)) (xs (i + 3)) (xs (i + 4)) (xs (i + 5))
  obtain ⟨a1, a2, a3⟩ := id lc
  obtain ⟨b1, b2, b3⟩ := LC_F fr lc
  obtain ⟨u1, v1⟩ := ixs hi hL 1 (by omega)
  have e1 := a3 (i + 1) (by omega)
  have f1 := b3 (i + 1) (by omega)
  have k1 : nI i + 1 = nI (i + 1) := nI_add i 1
  have l1 : i + 1 < L := by omega
  obtain ⟨u2, v2⟩ := ixs hi hL 2 (by omega)
  have e2 := a3 (i + 2) (by omega)
  have f2 := b3 (i + 2) (by omega)
  have k2 : nI i + 2 = nI (i + 2) := nI_add i 2
  have l2 : i + 2 < L := by omega
  obtain ⟨u3, v3⟩ := ixs hi hL 3 (by omega)
  have e3 := a3 (i + 3) (by omega)
  have f3 := b3 (i + 3) (by omega)
  have k3 : nI i + 3 = nI (i + 3) := nI_add i 3
  have l3 : i + 3 < L := by omega
  obtain ⟨u4, v4⟩ := ixs hi hL 4 (by omega)
  have e4 := a3 (i + 4) (by omega)
  have f4 := b3 (i + 4) (by omega)
  have k4 : nI i + 4 = nI (i + 4) := nI_add i 4
  have l4 : i + 4 < L := by omega
  obtain ⟨u5, v5⟩ := ixs hi hL 5 (by omega)
  have e5 := a3 (i + 5) (by omega)
  have f5 := b3 (i + 5) (by omega)
  have k5 : nI i + 5 = nI (i + 5) := nI_add i 5
  have l5 : i + 5 < L := by omega
  have Q1 : ∀ Q, zCall 60 742 _ h Q = Q (some (.int r.1)) h1 := q1
  have Q2 : ∀ Q, zCall 60 871 _ h1 Q = Q (some (.int r.1)) h2 := q2
  clear q1 q2
  refine ⟨h2, g2, fun Q => ?_⟩
  simp +decide only [Nat.reduceEqDiff, Nat.add_eq_left, Nat.left_eq_add, Nat.reduceAdd, Nat.reduceLeDiff, Nat.reduceMul, Nat.reduceSub, Nat.reduceLT, zlt8, zlt8_, zlt8n, zlt8n_, List.length_cons, List.length_nil, true_or, or_true, false_or, or_false, and_self, and_true, true_and, and_false, false_and, not_false_eq_true, not_true_eq_false, ite_true, ite_false, if_true, if_false, ite_not, zin, zpush_s, zpush_n, kl_int, kl_ref, kl_none, kl_kl, kl_long, kl_null, VR_i, VR_l, zT_wI, zT_wJ, zT_wR, zT_wIr, zT_wJr, zT_wRr, zI_wJ, zI_wR, zI_wJr, zI_wRr, zJ_wI, zJ_wR, zJ_wIr, zJ_wRr, zR_wI, zR_wJ, zR_wIr, zR_wJr, zN_wI, zN_wJ, zN_wR, zN_wIr, zN_wJr, zN_wRr, zZ_wI, zZ_wJ, zZ_wR, zZ_wIr, zZ_wJr, zZ_wRr, zI_wI, zJ_wJ, zR_wR, zI_wIr, zJ_wJr, zR_wRr, g1301_1188, g1301_1189, g1301_1190, g1301_1191, g1301_1192, g1301_1193, g1301_1194, g1301_1195, g1301_1196, g1301_1197, g1301_1198, g1301_1199, g1301_1200, g1301_1201, g1301_1202, g1301_1203, g1301_1204, g1301_1205, g1301_1206, g1301_1207, g1301_1208, g1301_1209, g1301_1210, g1301_1211, g1301_1212, g1301_1213, g1301_1214, g1301_1217, g1301_1218, g1301_1219, g1301_1220, g1301_1221, g1301_1222, g1301_1223, g1301_1224, g1301_1225, g1301_1226, g1301_1227, g1301_1228, g1301_1229, g1301_1230, g1301_1231, g1301_1232, g1301_1233, g1301_1234, g1301_1235, g1301_1236, g1301_1237, g1301_1238, g1301_1239, g1301_1240, g1301_1241, g1301_1242, g1301_1243, g1301_1246, g1301_1249, g1301_1250, t0, a1, a2, b1, b2, u1, v1, e1, f1, k1, l1, u2, v2, e2, f2, k2, l2, u3, v3, e3, f3, k3, l3, u4, v4, e4, f4, k4, l4, u5, v5, e5, f5, k5, l5,  Q1, Q2]
