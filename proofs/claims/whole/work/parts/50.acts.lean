-- needs 44.c1 40.mq
variable {d t D D1 D2 n kd r k a up m : Nat} {h : zH} {w : zW0} {num v x c : Int32} {e e1 e2 : Int32 → Int32} {l l1 l2 : List Int32} {b : Int32} {py fo : Int32} {ex : zW0 → Int32}
/-! acts: the bodies that run, one behind the other, and what comes out -/
def aLog : List Int32 → Nat → zH → zH
  | [], _, h => h
  | b :: l, r, h => aLog l (r + 1) (wI (wI h 74 r b) 73 1 (nI (r + 1)))
def aLogM : List Int32 → Nat → zH → zH
  | [], _, h => h
  | b :: l, r, h => aLogM l (r + 1) (wI (wI h 102 r b) 88 24 (nI (r + 1)))
theorem aLog_app : ∀ (l1 l2 : List Int32) (r : Nat) (h : zH), aLog (l1 ++ l2) r h = aLog l2 (r + l1.length) (aLog l1 r h)
  | [], l2, r, h => rfl
  | b :: l1, l2, r, h => by
    show aLog (l1 ++ l2) (r + 1) _ = aLog l2 (r + (b :: l1).length) (aLog l1 (r + 1) _)
    rw [aLog_app l1 l2, show r + 1 + l1.length = r + (b :: l1).length by simp; omega]
theorem aLogM_app : ∀ (l1 l2 : List Int32) (r : Nat) (h : zH), aLogM (l1 ++ l2) r h = aLogM l2 (r + l1.length) (aLogM l1 r h)
  | [], l2, r, h => rfl
  | b :: l1, l2, r, h => by
    show aLogM (l1 ++ l2) (r + 1) _ = aLogM l2 (r + (b :: l1).length) (aLogM l1 (r + 1) _)
    rw [aLogM_app l1 l2, show r + 1 + l1.length = r + (b :: l1).length by simp; omega]
def AC (h : zH) (kd : Nat) (num v : Int32) (r : Nat) : Prop := KS h ∧ zT h 73 = (0, 5) ∧ zT h 74 = (20, 20) ∧ zR h 73 0 = .ref 74 ∧ zI h 73 2 = num ∧ zI h 73 3 = v ∧ zI h 73 4 = nI kd ∧ zI h 73 1 = nI r
def AM (h : zH) (t kd : Nat) (v : Int32) (r : Nat) : Prop := MO h ∧ t < 6 ∧ zI h 89 (10 * t) = nI kd ∧ zI h 89 (10 * t + 1) = v ∧ zI h 88 24 = nI r
theorem AC_log (b : Int32) (A : AC h kd num v r) : AC (wI (wI h 74 r b) 73 1 (nI (r + 1))) kd num v (r + 1) := by
  obtain ⟨m, t0, t1, r0, i2, i3, i4, i1⟩ := A
  refine ⟨KS_f (S := fun b _ => b = 73 ∨ b = 74) (FS_t (FS_I _ (Or.inr rfl)) (FS_I _ (Or.inl rfl))) (fun b k z => by omega) m, t0, t1, r0, ?_, ?_, ?_, ?_⟩ <;> simp +decide only [zI_wI, if_true, if_false, up_a] <;> assumption
theorem AM_log (b : Int32) (A : AM h t kd v r) : AM (wI (wI h 102 r b) 88 24 (nI (r + 1))) t kd v (r + 1) := by
  obtain ⟨m, t6, i1, i2, i3⟩ := A
  refine ⟨MO_M (FS_t (FS_I _ (by unfold SM; omega)) (FS_I _ (by unfold SM; omega))) m, t6, ?_, ?_, ?_⟩ <;> simp +decide only [zI_wI, if_true, if_false, up_a] <;> assumption
theorem AC_logs : ∀ (l : List Int32) {r : Nat} {h : zH}, AC h kd num v r → AC (aLog l r h) kd num v (r + l.length)
  | [], r, h, A => A
  | b :: l, r, h, A => by
    rw [show r + (b :: l).length = r + 1 + l.length by simp; omega]
    exact AC_logs l (AC_log b A)
theorem AM_logs : ∀ (l : List Int32) {r : Nat} {h : zH}, AM h t kd v r → AM (aLogM l r h) t kd v (r + l.length)
  | [], r, h, A => A
  | b :: l, r, h, A => by
    rw [show r + (b :: l).length = r + 1 + l.length by simp; omega]
    exact AM_logs l (AM_log b A)
def PC (kd : Nat) (num v : Int32) (y D : Nat) (as : Int32 → Int32 → List Value) (c : Nat) (e : Int32 → Int32) (l : List Int32) : Prop := ∀ (d : Nat) (h : zH) (r : Nat) (x : Int32) (dep : Nat) (Q : zQq), AC h kd num v r → r + l.length ≤ 20 → dep + l.length ≤ c → zCall (d + D) y (as x (nI dep)) h Q = Q (some (.int (e x))) (aLog l r h)
def PF (kd : Nat) (num v : Int32) (D k a : Nat) (e : Int32 → Int32) (l : List Int32) : Prop := PC kd num v 8 D (fun x dp => [.ref 73, .int (nI k), .int (nI a), .int x, .int dp]) 20 e l
def PR (kd : Nat) (num v : Int32) (D : Nat) (b : Int32) (e : Int32 → Int32) (l : List Int32) : Prop := PC kd num v 9 D (fun x dp => [.ref 73, .int b, .int x, .int dp]) 21 e l
def PH (kd : Nat) (num v : Int32) (D k a m : Nat) (e : Int32 → Int32) (l : List Int32) : Prop := ∀ (d : Nat) (h : zH) (r : Nat) (x : Int32) (dep up : Nat) (f l7 : Option Value) (Q : zQq), AC h kd num v r → r + l.length ≤ 20 → dep + l.length ≤ 20 → 1 ≤ l.length → up ≤ m → zG (d + D) 8 6 [some (.ref 73), f, some (.int (nI a)), some (.int x), some (.int (nI dep)), some (.int (nI k)), some (.int (nI up)), l7] [] h Q = Q (some (.int (e x))) (aLog l r h)
theorem h_hit (hb : (mcK 101).getD (k * 3 + a) 0 = b) (hb0 : ¬ b = 0) (hk : k < 7) (ha : a < 3) (hm : m ≤ 6) (hR : PR kd num v (D + 1) b e l) : PH kd num v (D + 1) k a m e l := by
  intro d h r x dep up f l7 Q A h1 h2 h3 hu
  have s := fun Q => hR d h r x (dep + 1) Q A h1 (by omega)
  have cw : ∀ Q, zCall (d + (D + 1)) 744 [.int (nI k), .int 6] h Q = Q (some (.int (bI (¬ nI k < 0 ∧ nI k ≤ 6)))) h := fun Q => c_within (d := d + D)
  obtain ⟨mK, t0, t1, r0, i2, i3, i4, i1⟩ := A
  have k2 := mK.2.2.1
  have kb := mK.2.2.2.1 (k * 3 + a) (by omega)
  rw [hb] at kb
  have z1 := nI_pos (n := k) (by omega)
  have z2 : ¬ 6 < nI k := nI_nlt (a := 6) (by omega) (by omega)
  have z3 : ¬ (7 : Int32) ≤ nI up := by rw [i_le]; exact Classical.not_not.mpr (nI_lt (b := 7) (by omega) (by omega))
  have z4 : ¬ (20 : Int32) ≤ nI dep := by rw [i_le]; exact Classical.not_not.mpr (nI_lt (b := 20) (by omega) (by omega))
  have e1 : nI k * 3 + nI a = nI (k * 3 + a) := by rw [show (3 : Int32) = nI 3 from rfl, pk_mul, nI_add]
  have z5 := nI_pos (n := k * 3 + a) (by omega)
  have z6 := nI_clamp (n := k * 3 + a) (by omega)
  have ed : nI dep + 1 = nI (dep + 1) := nI_1 dep
  rw [g8_6]
  simp +decide only [Nat.reduceEqDiff, Nat.add_eq_left, Nat.left_eq_add, Nat.reduceAdd, Nat.reduceLeDiff, Nat.reduceMul, Nat.reduceSub, Nat.reduceLT, zlt8, zlt8_, zlt8n, zlt8n_, List.length_cons, List.length_nil, true_or, or_true, false_or, or_false, and_self, and_true, true_and, and_false, false_and, not_false_eq_true, not_true_eq_false, ite_true, ite_false, if_true, if_false, ite_not, zin, zpush_s, zpush_n, kl_int, kl_ref, kl_none, kl_kl, kl_long, kl_null, zT_wI, zT_wJ, zT_wR, zT_wIr, zT_wJr, zT_wRr, zI_wJ, zI_wR, zI_wJr, zI_wRr, zJ_wI, zJ_wR, zJ_wIr, zJ_wRr, zR_wI, zR_wJ, zR_wIr, zR_wJr, zN_wI, zN_wJ, zN_wR, zN_wIr, zN_wJr, zN_wRr, zZ_wI, zZ_wJ, zZ_wR, zZ_wIr, zZ_wJr, zZ_wRr, zI_wI, zJ_wJ, zR_wR, zI_wIr, zJ_wJr, zR_wRr, g8_8, g8_10, g8_13, g8_15, g8_17, g8_20, g8_23, g8_26, g8_28, g8_29, g8_30, g8_31, g8_32, g8_33, g8_35, g8_37, g8_40, g8_42, g8_44, g8_47, g8_48, g8_50, g8_51, g8_53, g8_54, g8_55, g8_58, g8_62, cw, bI_t, i_le, t0, k2, kb, hb0, z1, z2, z3, z4, z5, z6, e1, ed, s, show k * 3 + a < 21 by omega]
theorem h_miss {k' : Nat} (hb : (mcK 101).getD (k * 3 + a) 0 = 0) (hk : k < 7) (ha : a < 3) (hm : m < 6) (hA : (mcK 100).getD k 0 = nI k') (hH : PH kd num v (D + 1) k' a (m + 1) e l) : PH kd num v (D + 1) k a m e l := by
  intro d h r x dep up f l7 Q A h1 h2 h3 hu
  have s := fun l7 Q => hH d h r x dep (up + 1) f l7 Q A h1 h2 h3 (by omega)
  have cw : ∀ Q, zCall (d + (D + 1)) 744 [.int (nI k), .int 6] h Q = Q (some (.int (bI (¬ nI k < 0 ∧ nI k ≤ 6)))) h := fun Q => c_within (d := d + D)
  obtain ⟨mK, t0, t1, r0, i2, i3, i4, i1⟩ := A
  have k2 := mK.2.2.1
  have k1 := mK.1
  have kb := mK.2.2.2.1 (k * 3 + a) (by omega)
  have ka := mK.2.1 k hk
  rw [hb] at kb
  rw [hA] at ka
  have z1 := nI_pos (n := k) (by omega)
  have z1' := nI_clamp (n := k) (by omega)
  have z2 : ¬ 6 < nI k := nI_nlt (a := 6) (by omega) (by omega)
  have z3 : ¬ (7 : Int32) ≤ nI up := by rw [i_le]; exact Classical.not_not.mpr (nI_lt (b := 7) (by omega) (by omega))
  have e1 : nI k * 3 + nI a = nI (k * 3 + a) := by rw [show (3 : Int32) = nI 3 from rfl, pk_mul, nI_add]
  have z5 := nI_pos (n := k * 3 + a) (by omega)
  have z6 := nI_clamp (n := k * 3 + a) (by omega)
  have eu : nI up + 1 = nI (up + 1) := nI_1 up
  rw [g8_6]
  simp +decide only [Nat.reduceEqDiff, Nat.add_eq_left, Nat.left_eq_add, Nat.reduceAdd, Nat.reduceLeDiff, Nat.reduceMul, Nat.reduceSub, Nat.reduceLT, zlt8, zlt8_, zlt8n, zlt8n_, List.length_cons, List.length_nil, true_or, or_true, false_or, or_false, and_self, and_true, true_and, and_false, false_and, not_false_eq_true, not_true_eq_false, ite_true, ite_false, if_true, if_false, ite_not, zin, zpush_s, zpush_n, kl_int, kl_ref, kl_none, kl_kl, kl_long, kl_null, zT_wI, zT_wJ, zT_wR, zT_wIr, zT_wJr, zT_wRr, zI_wJ, zI_wR, zI_wJr, zI_wRr, zJ_wI, zJ_wR, zJ_wIr, zJ_wRr, zR_wI, zR_wJ, zR_wIr, zR_wJr, zN_wI, zN_wJ, zN_wR, zN_wIr, zN_wJr, zN_wRr, zZ_wI, zZ_wJ, zZ_wR, zZ_wIr, zZ_wJr, zZ_wRr, zI_wI, zJ_wJ, zR_wR, zI_wIr, zJ_wJr, zR_wRr, g8_8, g8_10, g8_13, g8_15, g8_17, g8_20, g8_23, g8_26, g8_28, g8_29, g8_30, g8_31, g8_32, g8_33, g8_35, g8_37, g8_63, g8_66, g8_68, g8_69, g8_71, g8_74, cw, bI_t, i_le, t0, k1, k2, kb, ka, z1, z1', z2, z3, z5, z6, e1, eu, s, hk, show k * 3 + a < 21 by omega]
theorem h_from (hl : 1 ≤ l.length) (hH : PH kd num v D k a 0 e l) : PF kd num v (D + 1) k a e l := by
  intro d h r x dep Q A h1 h2
  have s : ∀ f Q, zG (d + D) 8 6 [some (.ref 73), f, some (.int (nI a)), some (.int x), some (.int (nI dep)), some (.int (nI k)), some (.int 0), none] [] h Q = _ := fun f Q => hH d h r x dep 0 f none Q A h1 h2 hl (Nat.le_refl 0)
  show zCall (d + D + 1) 8 [.ref 73, .int (nI k), .int (nI a), .int x, .int (nI dep)] h Q = _
  simp +decide only [Nat.reduceEqDiff, Nat.add_eq_left, Nat.left_eq_add, Nat.reduceAdd, Nat.reduceLeDiff, Nat.reduceMul, Nat.reduceSub, Nat.reduceLT, zlt8, zlt8_, zlt8n, zlt8n_, List.length_cons, List.length_nil, true_or, or_true, false_or, or_false, and_self, and_true, true_and, and_false, false_and, not_false_eq_true, not_true_eq_false, ite_true, ite_false, if_true, if_false, ite_not, zin, zpush_s, zpush_n, kl_int, kl_ref, kl_none, kl_kl, kl_long, kl_null, zT_wI, zT_wJ, zT_wR, zT_wIr, zT_wJr, zT_wRr, zI_wJ, zI_wR, zI_wJr, zI_wRr, zJ_wI, zJ_wR, zJ_wIr, zJ_wRr, zR_wI, zR_wJ, zR_wIr, zR_wJr, zN_wI, zN_wJ, zN_wR, zN_wIr, zN_wJr, zN_wRr, zZ_wI, zZ_wJ, zZ_wR, zZ_wIr, zZ_wJr, zZ_wRr, zI_wI, zJ_wJ, zR_wR, zI_wIr, zJ_wJr, zR_wRr, k8, g8_0, g8_1, g8_3, g8_4, s]

theorem rc_10  : PR kd num v (1) 10 (fun x => x + num) (10 :: []) := by
  intro d h r x dep Q A h1 h2
  simp only [List.length_cons, List.length_append] at h1 h2
  have hr : r < 20 := by omega
  have A1 := AC_log 10 A
  have t0 := A.2.1
  have t1 := A.2.2.1
  have r0 := A.2.2.2.1
  have i1 := A.2.2.2.2.2.2.2
  have j2 := A1.2.2.2.2.1
  have j3 := A1.2.2.2.2.2.1
  have j4 := A1.2.2.2.2.2.2.1
  have mK := A.1
  have k1 := mK.1
  have z1 := nI_pos (n := r) (by omega)
  have z2 := nI_clamp (n := r) (by omega)
  have z3 : ¬ (20 : Int32) ≤ nI r := by rw [i_le]; exact Classical.not_not.mpr (nI_lt (b := 20) (by omega) (by omega))
  have ei : nI r + 1 = nI (r + 1) := nI_1 r
  have i2 := A.2.2.2.2.1
  have i3 := A.2.2.2.2.2.1
  have i4 := A.2.2.2.2.2.2.1
  show _ = Q _ (wI (wI h 74 r 10) 73 1 (nI (r + 1)))
  show zCall (d + 1) 9 [.ref 73, .int 10, .int x, .int (nI dep)] h Q = _
  simp +decide only [Nat.reduceEqDiff, Nat.add_eq_left, Nat.left_eq_add, Nat.reduceAdd, Nat.reduceLeDiff, Nat.reduceMul, Nat.reduceSub, Nat.reduceLT, zlt8, zlt8_, zlt8n, zlt8n_, List.length_cons, List.length_nil, true_or, or_true, false_or, or_false, and_self, and_true, true_and, and_false, false_and, not_false_eq_true, not_true_eq_false, ite_true, ite_false, if_true, if_false, ite_not, zin, zpush_s, zpush_n, kl_int, kl_ref, kl_none, kl_kl, kl_long, kl_null, zT_wI, zT_wJ, zT_wR, zT_wIr, zT_wJr, zT_wRr, zI_wJ, zI_wR, zI_wJr, zI_wRr, zJ_wI, zJ_wR, zJ_wIr, zJ_wRr, zR_wI, zR_wJ, zR_wIr, zR_wJr, zN_wI, zN_wJ, zN_wR, zN_wIr, zN_wJr, zN_wRr, zZ_wI, zZ_wJ, zZ_wR, zZ_wIr, zZ_wJr, zZ_wRr, zI_wI, zJ_wJ, zR_wR, zI_wIr, zJ_wJr, zR_wRr, k9, g9_0, g9_1, g9_4, g9_6, g9_9, g9_10, g9_13, g9_14, g9_17, g9_18, g9_19, g9_20, g9_21, g9_24, g9_25, g9_26, g9_29, g9_30, g9_128, g9_129, g9_130, g9_133, g9_134, g9_135, g9_136, g9_137, g9_138, g9_139, g9_142, g9_143, g9_146, g9_147, g9_148, g9_149, g9_150, g9_151, g9_152, g9_155, g9_156, g9_157, g9_158, g9_159, g9_160, g9_161, g9_162, g9_163, g9_166, g9_168, g9_169, g9_170, g9_171, g9_172, g9_173, g9_174, g9_175, g9_176, g9_177, g9_180, g9_181, g9_182, g9_183, g9_184, g9_185, g9_186, g9_189, g9_190, g9_191, g9_192, g9_193, g9_196, g9_197, g9_198, g9_199, g9_200, g9_201, g9_202, g9_203, g9_206, g9_207, g9_208, g9_209, g9_210, g9_211, g9_212, g9_213, g9_214, g9_215, g9_218, g9_219, g9_220, g9_221, g9_222, g9_223, g9_224, g9_227, g9_228, g9_229, g9_232, g9_233, g9_234, g9_236, g9_237, g9_238, g9_239, g9_242, g9_243, g9_245, g9_246, g9_247, g9_248, g9_251, g9_252, g9_253, g9_254, g9_256, g9_257, g9_258, g9_259, g9_262, g9_263, g9_266, g9_267, g9_268, g9_269, k6, g6_0, g6_1, g6_2, g6_5, g6_6, g6_7, g6_8, g6_11, k7, g7_0, g7_1, g7_4, g7_5, g7_6, g7_7, g7_8, g7_10, g7_13, t0, t1, r0, i1, i2, i3, i4, k1, z1, z2, z3, ei, hr, up_a, ]

theorem rc_11 (hS : PF kd num v D kd 0 e l) : PR kd num v (D + 2) 11 (fun x => e x - v) (11 :: l) := by
  intro d h r x dep Q A h1 h2
  simp only [List.length_cons, List.length_append] at h1 h2
  have hr : r < 20 := by omega
  have A1 := AC_log 11 A
  have t0 := A.2.1
  have t1 := A.2.2.1
  have r0 := A.2.2.2.1
  have i1 := A.2.2.2.2.2.2.2
  have j2 := A1.2.2.2.2.1
  have j3 := A1.2.2.2.2.2.1
  have j4 := A1.2.2.2.2.2.2.1
  have mK := A.1
  have k1 := mK.1
  have z1 := nI_pos (n := r) (by omega)
  have z2 := nI_clamp (n := r) (by omega)
  have z3 : ¬ (20 : Int32) ≤ nI r := by rw [i_le]; exact Classical.not_not.mpr (nI_lt (b := 20) (by omega) (by omega))
  have ei : nI r + 1 = nI (r + 1) := nI_1 r
  have i2 := A.2.2.2.2.1
  have i3 := A.2.2.2.2.2.1
  have i4 := A.2.2.2.2.2.2.1
  have s0 : ∀ Q, zCall (d + D) 8 [.ref 73, .int (nI kd), .int 0, .int x, .int (nI dep)] (wI (wI h 74 r 11) 73 1 (nI (r + 1))) Q = Q (some (.int (e x))) (aLog l (r + 1) (wI (wI h 74 r 11) 73 1 (nI (r + 1)))) := fun Q => hS _ _ (r + 1) x dep Q A1 (by omega) (by omega)
  have B0 := AC_logs l (A1)
  have c00 := B0.2.1
  have c01 := B0.2.2.2.2.1
  have c02 := B0.2.2.2.2.2.1
  have c03 := B0.2.2.2.2.2.2.1
  have c04 := B0.1.1
  have c05 : zI (aLog l (r + 1) (wI (wI h 74 r 11) 73 1 (nI (r + 1)))) 1000001 3 = 0 := B0.1.2.1 3 (by decide)
  have c06 : zI (aLog l (r + 1) (wI (wI h 74 r 11) 73 1 (nI (r + 1)))) 1000001 6 = 3 := B0.1.2.1 6 (by decide)
  show _ = Q _ (aLog l (r + 1) _)
  show zCall (d + D + 1 + 1) 9 [.ref 73, .int 11, .int x, .int (nI dep)] h Q = _
  simp +decide only [Nat.reduceEqDiff, Nat.add_eq_left, Nat.left_eq_add, Nat.reduceAdd, Nat.reduceLeDiff, Nat.reduceMul, Nat.reduceSub, Nat.reduceLT, zlt8, zlt8_, zlt8n, zlt8n_, List.length_cons, List.length_nil, true_or, or_true, false_or, or_false, and_self, and_true, true_and, and_false, false_and, not_false_eq_true, not_true_eq_false, ite_true, ite_false, if_true, if_false, ite_not, zin, zpush_s, zpush_n, kl_int, kl_ref, kl_none, kl_kl, kl_long, kl_null, zT_wI, zT_wJ, zT_wR, zT_wIr, zT_wJr, zT_wRr, zI_wJ, zI_wR, zI_wJr, zI_wRr, zJ_wI, zJ_wR, zJ_wIr, zJ_wRr, zR_wI, zR_wJ, zR_wIr, zR_wJr, zN_wI, zN_wJ, zN_wR, zN_wIr, zN_wJr, zN_wRr, zZ_wI, zZ_wJ, zZ_wR, zZ_wIr, zZ_wJr, zZ_wRr, zI_wI, zJ_wJ, zR_wR, zI_wIr, zJ_wJr, zR_wRr, k9, g9_0, g9_1, g9_4, g9_6, g9_9, g9_10, g9_13, g9_14, g9_17, g9_18, g9_19, g9_20, g9_21, g9_24, g9_25, g9_26, g9_29, g9_30, g9_128, g9_129, g9_130, g9_133, g9_134, g9_135, g9_136, g9_137, g9_138, g9_139, g9_142, g9_143, g9_146, g9_147, g9_148, g9_149, g9_150, g9_151, g9_152, g9_155, g9_156, g9_157, g9_158, g9_159, g9_160, g9_161, g9_162, g9_163, g9_166, g9_168, g9_169, g9_170, g9_171, g9_172, g9_173, g9_174, g9_175, g9_176, g9_177, g9_180, g9_181, g9_182, g9_183, g9_184, g9_185, g9_186, g9_189, g9_190, g9_191, g9_192, g9_193, g9_196, g9_197, g9_198, g9_199, g9_200, g9_201, g9_202, g9_203, g9_206, g9_207, g9_208, g9_209, g9_210, g9_211, g9_212, g9_213, g9_214, g9_215, g9_218, g9_219, g9_220, g9_221, g9_222, g9_223, g9_224, g9_227, g9_228, g9_229, g9_232, g9_233, g9_234, g9_236, g9_237, g9_238, g9_239, g9_242, g9_243, g9_245, g9_246, g9_247, g9_248, g9_251, g9_252, g9_253, g9_254, g9_256, g9_257, g9_258, g9_259, g9_262, g9_263, g9_266, g9_267, g9_268, g9_269, k6, g6_0, g6_1, g6_2, g6_5, g6_6, g6_7, g6_8, g6_11, k7, g7_0, g7_1, g7_4, g7_5, g7_6, g7_7, g7_8, g7_10, g7_13, t0, t1, r0, i1, i2, i3, i4, k1, z1, z2, z3, ei, hr, up_a, s0, c00, c01, c02, c03, c04, c05, c06]

theorem rc_12 (hS : PF kd num v D kd 1 e l) : PR kd num v (D + 2) 12 (fun x => e x * 2) (12 :: l) := by
  intro d h r x dep Q A h1 h2
  simp only [List.length_cons, List.length_append] at h1 h2
  have hr : r < 20 := by omega
  have A1 := AC_log 12 A
  have t0 := A.2.1
  have t1 := A.2.2.1
  have r0 := A.2.2.2.1
  have i1 := A.2.2.2.2.2.2.2
  have j2 := A1.2.2.2.2.1
  have j3 := A1.2.2.2.2.2.1
  have j4 := A1.2.2.2.2.2.2.1
  have mK := A.1
  have k1 := mK.1
  have z1 := nI_pos (n := r) (by omega)
  have z2 := nI_clamp (n := r) (by omega)
  have z3 : ¬ (20 : Int32) ≤ nI r := by rw [i_le]; exact Classical.not_not.mpr (nI_lt (b := 20) (by omega) (by omega))
  have ei : nI r + 1 = nI (r + 1) := nI_1 r
  have i2 := A.2.2.2.2.1
  have i3 := A.2.2.2.2.2.1
  have i4 := A.2.2.2.2.2.2.1
  have s0 : ∀ Q, zCall (d + D) 8 [.ref 73, .int (nI kd), .int 1, .int x, .int (nI dep)] (wI (wI h 74 r 12) 73 1 (nI (r + 1))) Q = Q (some (.int (e x))) (aLog l (r + 1) (wI (wI h 74 r 12) 73 1 (nI (r + 1)))) := fun Q => hS _ _ (r + 1) x dep Q A1 (by omega) (by omega)
  have B0 := AC_logs l (A1)
  have c00 := B0.2.1
  have c01 := B0.2.2.2.2.1
  have c02 := B0.2.2.2.2.2.1
  have c03 := B0.2.2.2.2.2.2.1
  have c04 := B0.1.1
  have c05 : zI (aLog l (r + 1) (wI (wI h 74 r 12) 73 1 (nI (r + 1)))) 1000001 3 = 0 := B0.1.2.1 3 (by decide)
  have c06 : zI (aLog l (r + 1) (wI (wI h 74 r 12) 73 1 (nI (r + 1)))) 1000001 6 = 3 := B0.1.2.1 6 (by decide)
  show _ = Q _ (aLog l (r + 1) _)
  show zCall (d + D + 1 + 1) 9 [.ref 73, .int 12, .int x, .int (nI dep)] h Q = _
  simp +decide only [Nat.reduceEqDiff, Nat.add_eq_left, Nat.left_eq_add, Nat.reduceAdd, Nat.reduceLeDiff, Nat.reduceMul, Nat.reduceSub, Nat.reduceLT, zlt8, zlt8_, zlt8n, zlt8n_, List.length_cons, List.length_nil, true_or, or_true, false_or, or_false, and_self, and_true, true_and, and_false, false_and, not_false_eq_true, not_true_eq_false, ite_true, ite_false, if_true, if_false, ite_not, zin, zpush_s, zpush_n, kl_int, kl_ref, kl_none, kl_kl, kl_long, kl_null, zT_wI, zT_wJ, zT_wR, zT_wIr, zT_wJr, zT_wRr, zI_wJ, zI_wR, zI_wJr, zI_wRr, zJ_wI, zJ_wR, zJ_wIr, zJ_wRr, zR_wI, zR_wJ, zR_wIr, zR_wJr, zN_wI, zN_wJ, zN_wR, zN_wIr, zN_wJr, zN_wRr, zZ_wI, zZ_wJ, zZ_wR, zZ_wIr, zZ_wJr, zZ_wRr, zI_wI, zJ_wJ, zR_wR, zI_wIr, zJ_wJr, zR_wRr, k9, g9_0, g9_1, g9_4, g9_6, g9_9, g9_10, g9_13, g9_14, g9_17, g9_18, g9_19, g9_20, g9_21, g9_24, g9_25, g9_26, g9_29, g9_30, g9_128, g9_129, g9_130, g9_133, g9_134, g9_135, g9_136, g9_137, g9_138, g9_139, g9_142, g9_143, g9_146, g9_147, g9_148, g9_149, g9_150, g9_151, g9_152, g9_155, g9_156, g9_157, g9_158, g9_159, g9_160, g9_161, g9_162, g9_163, g9_166, g9_168, g9_169, g9_170, g9_171, g9_172, g9_173, g9_174, g9_175, g9_176, g9_177, g9_180, g9_181, g9_182, g9_183, g9_184, g9_185, g9_186, g9_189, g9_190, g9_191, g9_192, g9_193, g9_196, g9_197, g9_198, g9_199, g9_200, g9_201, g9_202, g9_203, g9_206, g9_207, g9_208, g9_209, g9_210, g9_211, g9_212, g9_213, g9_214, g9_215, g9_218, g9_219, g9_220, g9_221, g9_222, g9_223, g9_224, g9_227, g9_228, g9_229, g9_232, g9_233, g9_234, g9_236, g9_237, g9_238, g9_239, g9_242, g9_243, g9_245, g9_246, g9_247, g9_248, g9_251, g9_252, g9_253, g9_254, g9_256, g9_257, g9_258, g9_259, g9_262, g9_263, g9_266, g9_267, g9_268, g9_269, k6, g6_0, g6_1, g6_2, g6_5, g6_6, g6_7, g6_8, g6_11, k7, g7_0, g7_1, g7_4, g7_5, g7_6, g7_7, g7_8, g7_10, g7_13, t0, t1, r0, i1, i2, i3, i4, k1, z1, z2, z3, ei, hr, up_a, s0, c00, c01, c02, c03, c04, c05, c06]

theorem rc_20 (hS : PF kd num v D 0 1 e l) : PR kd num v (D + 2) 20 (fun x => e x ^^^ 6) (20 :: l) := by
  intro d h r x dep Q A h1 h2
  simp only [List.length_cons, List.length_append] at h1 h2
  have hr : r < 20 := by omega
  have A1 := AC_log 20 A
  have t0 := A.2.1
  have t1 := A.2.2.1
  have r0 := A.2.2.2.1
  have i1 := A.2.2.2.2.2.2.2
  have j2 := A1.2.2.2.2.1
  have j3 := A1.2.2.2.2.2.1
  have j4 := A1.2.2.2.2.2.2.1
  have mK := A.1
  have k1 := mK.1
  have z1 := nI_pos (n := r) (by omega)
  have z2 := nI_clamp (n := r) (by omega)
  have z3 : ¬ (20 : Int32) ≤ nI r := by rw [i_le]; exact Classical.not_not.mpr (nI_lt (b := 20) (by omega) (by omega))
  have ei : nI r + 1 = nI (r + 1) := nI_1 r
  have i2 := A.2.2.2.2.1
  have i3 := A.2.2.2.2.2.1
  have i4 := A.2.2.2.2.2.2.1
  have s0 : ∀ Q, zCall (d + D) 8 [.ref 73, .int 0, .int 1, .int x, .int (nI dep)] (wI (wI h 74 r 20) 73 1 (nI (r + 1))) Q = Q (some (.int (e x))) (aLog l (r + 1) (wI (wI h 74 r 20) 73 1 (nI (r + 1)))) := fun Q => hS _ _ (r + 1) x dep Q A1 (by omega) (by omega)
  have a0 : zI h 1000001 1 = 0 := mK.2.1 1 (by decide)
  have B0 := AC_logs l (A1)
  have c00 := B0.2.1
  have c01 := B0.2.2.2.2.1
  have c02 := B0.2.2.2.2.2.1
  have c03 := B0.2.2.2.2.2.2.1
  have c04 := B0.1.1
  have c05 : zI (aLog l (r + 1) (wI (wI h 74 r 20) 73 1 (nI (r + 1)))) 1000001 3 = 0 := B0.1.2.1 3 (by decide)
  have c06 : zI (aLog l (r + 1) (wI (wI h 74 r 20) 73 1 (nI (r + 1)))) 1000001 6 = 3 := B0.1.2.1 6 (by decide)
  show _ = Q _ (aLog l (r + 1) _)
  show zCall (d + D + 1 + 1) 9 [.ref 73, .int 20, .int x, .int (nI dep)] h Q = _
  simp +decide only [Nat.reduceEqDiff, Nat.add_eq_left, Nat.left_eq_add, Nat.reduceAdd, Nat.reduceLeDiff, Nat.reduceMul, Nat.reduceSub, Nat.reduceLT, zlt8, zlt8_, zlt8n, zlt8n_, List.length_cons, List.length_nil, true_or, or_true, false_or, or_false, and_self, and_true, true_and, and_false, false_and, not_false_eq_true, not_true_eq_false, ite_true, ite_false, if_true, if_false, ite_not, zin, zpush_s, zpush_n, kl_int, kl_ref, kl_none, kl_kl, kl_long, kl_null, zT_wI, zT_wJ, zT_wR, zT_wIr, zT_wJr, zT_wRr, zI_wJ, zI_wR, zI_wJr, zI_wRr, zJ_wI, zJ_wR, zJ_wIr, zJ_wRr, zR_wI, zR_wJ, zR_wIr, zR_wJr, zN_wI, zN_wJ, zN_wR, zN_wIr, zN_wJr, zN_wRr, zZ_wI, zZ_wJ, zZ_wR, zZ_wIr, zZ_wJr, zZ_wRr, zI_wI, zJ_wJ, zR_wR, zI_wIr, zJ_wJr, zR_wRr, k9, g9_0, g9_1, g9_4, g9_6, g9_9, g9_10, g9_13, g9_14, g9_17, g9_18, g9_19, g9_20, g9_21, g9_24, g9_25, g9_26, g9_29, g9_30, g9_128, g9_129, g9_130, g9_133, g9_134, g9_135, g9_136, g9_137, g9_138, g9_139, g9_142, g9_143, g9_146, g9_147, g9_148, g9_149, g9_150, g9_151, g9_152, g9_155, g9_156, g9_157, g9_158, g9_159, g9_160, g9_161, g9_162, g9_163, g9_166, g9_168, g9_169, g9_170, g9_171, g9_172, g9_173, g9_174, g9_175, g9_176, g9_177, g9_180, g9_181, g9_182, g9_183, g9_184, g9_185, g9_186, g9_189, g9_190, g9_191, g9_192, g9_193, g9_196, g9_197, g9_198, g9_199, g9_200, g9_201, g9_202, g9_203, g9_206, g9_207, g9_208, g9_209, g9_210, g9_211, g9_212, g9_213, g9_214, g9_215, g9_218, g9_219, g9_220, g9_221, g9_222, g9_223, g9_224, g9_227, g9_228, g9_229, g9_232, g9_233, g9_234, g9_236, g9_237, g9_238, g9_239, g9_242, g9_243, g9_245, g9_246, g9_247, g9_248, g9_251, g9_252, g9_253, g9_254, g9_256, g9_257, g9_258, g9_259, g9_262, g9_263, g9_266, g9_267, g9_268, g9_269, k6, g6_0, g6_1, g6_2, g6_5, g6_6, g6_7, g6_8, g6_11, k7, g7_0, g7_1, g7_4, g7_5, g7_6, g7_7, g7_8, g7_10, g7_13, t0, t1, r0, i1, i2, i3, i4, k1, z1, z2, z3, ei, hr, up_a, s0, a0, show Int32.toNatClampNeg 1 = 1 by decide, c00, c01, c02, c03, c04, c05, c06]

theorem rc_30 (hS : PF kd num v D 0 0 e l) : PR kd num v (D + 2) 30 (fun x => e (x * 3)) (30 :: l) := by
  intro d h r x dep Q A h1 h2
  simp only [List.length_cons, List.length_append] at h1 h2
  have hr : r < 20 := by omega
  have A1 := AC_log 30 A
  have t0 := A.2.1
  have t1 := A.2.2.1
  have r0 := A.2.2.2.1
  have i1 := A.2.2.2.2.2.2.2
  have j2 := A1.2.2.2.2.1
  have j3 := A1.2.2.2.2.2.1
  have j4 := A1.2.2.2.2.2.2.1
  have mK := A.1
  have k1 := mK.1
  have z1 := nI_pos (n := r) (by omega)
  have z2 := nI_clamp (n := r) (by omega)
  have z3 : ¬ (20 : Int32) ≤ nI r := by rw [i_le]; exact Classical.not_not.mpr (nI_lt (b := 20) (by omega) (by omega))
  have ei : nI r + 1 = nI (r + 1) := nI_1 r
  have i2 := A.2.2.2.2.1
  have i3 := A.2.2.2.2.2.1
  have i4 := A.2.2.2.2.2.2.1
  have s0 : ∀ Q, zCall (d + D) 8 [.ref 73, .int 0, .int 0, .int (x * 3), .int (nI dep)] (wI (wI h 74 r 30) 73 1 (nI (r + 1))) Q = Q (some (.int (e (x * 3)))) (aLog l (r + 1) (wI (wI h 74 r 30) 73 1 (nI (r + 1)))) := fun Q => hS _ _ (r + 1) (x * 3) dep Q A1 (by omega) (by omega)
  have a0 : zI h 1000001 2 = 0 := mK.2.1 2 (by decide)
  have B0 := AC_logs l (A1)
  have c00 := B0.2.1
  have c01 := B0.2.2.2.2.1
  have c02 := B0.2.2.2.2.2.1
  have c03 := B0.2.2.2.2.2.2.1
  have c04 := B0.1.1
  have c05 : zI (aLog l (r + 1) (wI (wI h 74 r 30) 73 1 (nI (r + 1)))) 1000001 3 = 0 := B0.1.2.1 3 (by decide)
  have c06 : zI (aLog l (r + 1) (wI (wI h 74 r 30) 73 1 (nI (r + 1)))) 1000001 6 = 3 := B0.1.2.1 6 (by decide)
  show _ = Q _ (aLog l (r + 1) _)
  show zCall (d + D + 1 + 1) 9 [.ref 73, .int 30, .int x, .int (nI dep)] h Q = _
  simp +decide only [Nat.reduceEqDiff, Nat.add_eq_left, Nat.left_eq_add, Nat.reduceAdd, Nat.reduceLeDiff, Nat.reduceMul, Nat.reduceSub, Nat.reduceLT, zlt8, zlt8_, zlt8n, zlt8n_, List.length_cons, List.length_nil, true_or, or_true, false_or, or_false, and_self, and_true, true_and, and_false, false_and, not_false_eq_true, not_true_eq_false, ite_true, ite_false, if_true, if_false, ite_not, zin, zpush_s, zpush_n, kl_int, kl_ref, kl_none, kl_kl, kl_long, kl_null, zT_wI, zT_wJ, zT_wR, zT_wIr, zT_wJr, zT_wRr, zI_wJ, zI_wR, zI_wJr, zI_wRr, zJ_wI, zJ_wR, zJ_wIr, zJ_wRr, zR_wI, zR_wJ, zR_wIr, zR_wJr, zN_wI, zN_wJ, zN_wR, zN_wIr, zN_wJr, zN_wRr, zZ_wI, zZ_wJ, zZ_wR, zZ_wIr, zZ_wJr, zZ_wRr, zI_wI, zJ_wJ, zR_wR, zI_wIr, zJ_wJr, zR_wRr, k9, g9_0, g9_1, g9_4, g9_6, g9_9, g9_10, g9_13, g9_14, g9_17, g9_18, g9_19, g9_20, g9_21, g9_24, g9_25, g9_26, g9_29, g9_30, g9_128, g9_129, g9_130, g9_133, g9_134, g9_135, g9_136, g9_137, g9_138, g9_139, g9_142, g9_143, g9_146, g9_147, g9_148, g9_149, g9_150, g9_151, g9_152, g9_155, g9_156, g9_157, g9_158, g9_159, g9_160, g9_161, g9_162, g9_163, g9_166, g9_168, g9_169, g9_170, g9_171, g9_172, g9_173, g9_174, g9_175, g9_176, g9_177, g9_180, g9_181, g9_182, g9_183, g9_184, g9_185, g9_186, g9_189, g9_190, g9_191, g9_192, g9_193, g9_196, g9_197, g9_198, g9_199, g9_200, g9_201, g9_202, g9_203, g9_206, g9_207, g9_208, g9_209, g9_210, g9_211, g9_212, g9_213, g9_214, g9_215, g9_218, g9_219, g9_220, g9_221, g9_222, g9_223, g9_224, g9_227, g9_228, g9_229, g9_232, g9_233, g9_234, g9_236, g9_237, g9_238, g9_239, g9_242, g9_243, g9_245, g9_246, g9_247, g9_248, g9_251, g9_252, g9_253, g9_254, g9_256, g9_257, g9_258, g9_259, g9_262, g9_263, g9_266, g9_267, g9_268, g9_269, k6, g6_0, g6_1, g6_2, g6_5, g6_6, g6_7, g6_8, g6_11, k7, g7_0, g7_1, g7_4, g7_5, g7_6, g7_7, g7_8, g7_10, g7_13, t0, t1, r0, i1, i2, i3, i4, k1, z1, z2, z3, ei, hr, up_a, s0, a0, show Int32.toNatClampNeg 2 = 2 by decide, c00, c01, c02, c03, c04, c05, c06]

theorem rc_40 (hS : PF kd num v D 0 2 e1 l1) (hT : PF kd num v D kd 1 e2 l2) : PR kd num v (D + 2) 40 (fun x => e1 x + e2 1) (40 :: (l1 ++ l2)) := by
  intro d h r x dep Q A h1 h2
  simp only [List.length_cons, List.length_append] at h1 h2
  have hr : r < 20 := by omega
  have A1 := AC_log 40 A
  have t0 := A.2.1
  have t1 := A.2.2.1
  have r0 := A.2.2.2.1
  have i1 := A.2.2.2.2.2.2.2
  have j2 := A1.2.2.2.2.1
  have j3 := A1.2.2.2.2.2.1
  have j4 := A1.2.2.2.2.2.2.1
  have mK := A.1
  have k1 := mK.1
  have z1 := nI_pos (n := r) (by omega)
  have z2 := nI_clamp (n := r) (by omega)
  have z3 : ¬ (20 : Int32) ≤ nI r := by rw [i_le]; exact Classical.not_not.mpr (nI_lt (b := 20) (by omega) (by omega))
  have ei : nI r + 1 = nI (r + 1) := nI_1 r
  have i2 := A.2.2.2.2.1
  have i3 := A.2.2.2.2.2.1
  have i4 := A.2.2.2.2.2.2.1
  have s0 : ∀ Q, zCall (d + D) 8 [.ref 73, .int 0, .int 2, .int x, .int (nI dep)] (wI (wI h 74 r 40) 73 1 (nI (r + 1))) Q = Q (some (.int (e1 x))) (aLog l1 (r + 1) (wI (wI h 74 r 40) 73 1 (nI (r + 1)))) := fun Q => hS _ _ (r + 1) x dep Q A1 (by omega) (by omega)
  have a0 : zI h 1000001 3 = 0 := mK.2.1 3 (by decide)
  have B0 := AC_logs l1 (A1)
  have c00 := B0.2.1
  have c01 := B0.2.2.2.2.1
  have c02 := B0.2.2.2.2.2.1
  have c03 := B0.2.2.2.2.2.2.1
  have c04 := B0.1.1
  have c05 : zI (aLog l1 (r + 1) (wI (wI h 74 r 40) 73 1 (nI (r + 1)))) 1000001 3 = 0 := B0.1.2.1 3 (by decide)
  have c06 : zI (aLog l1 (r + 1) (wI (wI h 74 r 40) 73 1 (nI (r + 1)))) 1000001 6 = 3 := B0.1.2.1 6 (by decide)
  have s1 : ∀ Q, zCall (d + D) 8 [.ref 73, .int (nI kd), .int 1, .int 1, .int (nI dep)] (aLog l1 (r + 1) (wI (wI h 74 r 40) 73 1 (nI (r + 1)))) Q = Q (some (.int (e2 1))) (aLog l2 ((r + 1) + l1.length) (aLog l1 (r + 1) (wI (wI h 74 r 40) 73 1 (nI (r + 1))))) := fun Q => hT _ _ ((r + 1) + l1.length) 1 dep Q B0 (by omega) (by omega)
  have B1 := AC_logs l2 (B0)
  have c10 := B1.2.1
  have c11 := B1.2.2.2.2.1
  have c12 := B1.2.2.2.2.2.1
  have c13 := B1.2.2.2.2.2.2.1
  have c14 := B1.1.1
  have c15 : zI (aLog l2 ((r + 1) + l1.length) (aLog l1 (r + 1) (wI (wI h 74 r 40) 73 1 (nI (r + 1))))) 1000001 3 = 0 := B1.1.2.1 3 (by decide)
  have c16 : zI (aLog l2 ((r + 1) + l1.length) (aLog l1 (r + 1) (wI (wI h 74 r 40) 73 1 (nI (r + 1))))) 1000001 6 = 3 := B1.1.2.1 6 (by decide)
  show _ = Q _ (aLog (l1 ++ l2) (r + 1) _)
  rw [aLog_app]
  show zCall (d + D + 1 + 1) 9 [.ref 73, .int 40, .int x, .int (nI dep)] h Q = _
  simp +decide only [Nat.reduceEqDiff, Nat.add_eq_left, Nat.left_eq_add, Nat.reduceAdd, Nat.reduceLeDiff, Nat.reduceMul, Nat.reduceSub, Nat.reduceLT, zlt8, zlt8_, zlt8n, zlt8n_, List.length_cons, List.length_nil, true_or, or_true, false_or, or_false, and_self, and_true, true_and, and_false, false_and, not_false_eq_true, not_true_eq_false, ite_true, ite_false, if_true, if_false, ite_not, zin, zpush_s, zpush_n, kl_int, kl_ref, kl_none, kl_kl, kl_long, kl_null, zT_wI, zT_wJ, zT_wR, zT_wIr, zT_wJr, zT_wRr, zI_wJ, zI_wR, zI_wJr, zI_wRr, zJ_wI, zJ_wR, zJ_wIr, zJ_wRr, zR_wI, zR_wJ, zR_wIr, zR_wJr, zN_wI, zN_wJ, zN_wR, zN_wIr, zN_wJr, zN_wRr, zZ_wI, zZ_wJ, zZ_wR, zZ_wIr, zZ_wJr, zZ_wRr, zI_wI, zJ_wJ, zR_wR, zI_wIr, zJ_wJr, zR_wRr, k9, g9_0, g9_1, g9_4, g9_6, g9_9, g9_10, g9_13, g9_14, g9_17, g9_18, g9_19, g9_20, g9_21, g9_24, g9_25, g9_26, g9_29, g9_30, g9_128, g9_129, g9_130, g9_133, g9_134, g9_135, g9_136, g9_137, g9_138, g9_139, g9_142, g9_143, g9_146, g9_147, g9_148, g9_149, g9_150, g9_151, g9_152, g9_155, g9_156, g9_157, g9_158, g9_159, g9_160, g9_161, g9_162, g9_163, g9_166, g9_168, g9_169, g9_170, g9_171, g9_172, g9_173, g9_174, g9_175, g9_176, g9_177, g9_180, g9_181, g9_182, g9_183, g9_184, g9_185, g9_186, g9_189, g9_190, g9_191, g9_192, g9_193, g9_196, g9_197, g9_198, g9_199, g9_200, g9_201, g9_202, g9_203, g9_206, g9_207, g9_208, g9_209, g9_210, g9_211, g9_212, g9_213, g9_214, g9_215, g9_218, g9_219, g9_220, g9_221, g9_222, g9_223, g9_224, g9_227, g9_228, g9_229, g9_232, g9_233, g9_234, g9_236, g9_237, g9_238, g9_239, g9_242, g9_243, g9_245, g9_246, g9_247, g9_248, g9_251, g9_252, g9_253, g9_254, g9_256, g9_257, g9_258, g9_259, g9_262, g9_263, g9_266, g9_267, g9_268, g9_269, k6, g6_0, g6_1, g6_2, g6_5, g6_6, g6_7, g6_8, g6_11, k7, g7_0, g7_1, g7_4, g7_5, g7_6, g7_7, g7_8, g7_10, g7_13, t0, t1, r0, i1, i2, i3, i4, k1, z1, z2, z3, ei, hr, up_a, s0, a0, show Int32.toNatClampNeg 3 = 3 by decide, c00, c01, c02, c03, c04, c05, c06, s1, c10, c11, c12, c13, c14, c15, c16]

theorem rc_50 (hS : PF kd num v D 1 0 e l) : PR kd num v (D + 2) 50 (fun x => -(e x)) (50 :: l) := by
  intro d h r x dep Q A h1 h2
  simp only [List.length_cons, List.length_append] at h1 h2
  have hr : r < 20 := by omega
  have A1 := AC_log 50 A
  have t0 := A.2.1
  have t1 := A.2.2.1
  have r0 := A.2.2.2.1
  have i1 := A.2.2.2.2.2.2.2
  have j2 := A1.2.2.2.2.1
  have j3 := A1.2.2.2.2.2.1
  have j4 := A1.2.2.2.2.2.2.1
  have mK := A.1
  have k1 := mK.1
  have z1 := nI_pos (n := r) (by omega)
  have z2 := nI_clamp (n := r) (by omega)
  have z3 : ¬ (20 : Int32) ≤ nI r := by rw [i_le]; exact Classical.not_not.mpr (nI_lt (b := 20) (by omega) (by omega))
  have ei : nI r + 1 = nI (r + 1) := nI_1 r
  have i2 := A.2.2.2.2.1
  have i3 := A.2.2.2.2.2.1
  have i4 := A.2.2.2.2.2.2.1
  have s0 : ∀ Q, zCall (d + D) 8 [.ref 73, .int 1, .int 0, .int x, .int (nI dep)] (wI (wI h 74 r 50) 73 1 (nI (r + 1))) Q = Q (some (.int (e x))) (aLog l (r + 1) (wI (wI h 74 r 50) 73 1 (nI (r + 1)))) := fun Q => hS _ _ (r + 1) x dep Q A1 (by omega) (by omega)
  have a0 : zI h 1000001 4 = 1 := mK.2.1 4 (by decide)
  have B0 := AC_logs l (A1)
  have c00 := B0.2.1
  have c01 := B0.2.2.2.2.1
  have c02 := B0.2.2.2.2.2.1
  have c03 := B0.2.2.2.2.2.2.1
  have c04 := B0.1.1
  have c05 : zI (aLog l (r + 1) (wI (wI h 74 r 50) 73 1 (nI (r + 1)))) 1000001 3 = 0 := B0.1.2.1 3 (by decide)
  have c06 : zI (aLog l (r + 1) (wI (wI h 74 r 50) 73 1 (nI (r + 1)))) 1000001 6 = 3 := B0.1.2.1 6 (by decide)
  show _ = Q _ (aLog l (r + 1) _)
  show zCall (d + D + 1 + 1) 9 [.ref 73, .int 50, .int x, .int (nI dep)] h Q = _
  simp +decide only [Nat.reduceEqDiff, Nat.add_eq_left, Nat.left_eq_add, Nat.reduceAdd, Nat.reduceLeDiff, Nat.reduceMul, Nat.reduceSub, Nat.reduceLT, zlt8, zlt8_, zlt8n, zlt8n_, List.length_cons, List.length_nil, true_or, or_true, false_or, or_false, and_self, and_true, true_and, and_false, false_and, not_false_eq_true, not_true_eq_false, ite_true, ite_false, if_true, if_false, ite_not, zin, zpush_s, zpush_n, kl_int, kl_ref, kl_none, kl_kl, kl_long, kl_null, zT_wI, zT_wJ, zT_wR, zT_wIr, zT_wJr, zT_wRr, zI_wJ, zI_wR, zI_wJr, zI_wRr, zJ_wI, zJ_wR, zJ_wIr, zJ_wRr, zR_wI, zR_wJ, zR_wIr, zR_wJr, zN_wI, zN_wJ, zN_wR, zN_wIr, zN_wJr, zN_wRr, zZ_wI, zZ_wJ, zZ_wR, zZ_wIr, zZ_wJr, zZ_wRr, zI_wI, zJ_wJ, zR_wR, zI_wIr, zJ_wJr, zR_wRr, k9, g9_0, g9_1, g9_4, g9_6, g9_9, g9_10, g9_13, g9_14, g9_17, g9_18, g9_19, g9_20, g9_21, g9_24, g9_25, g9_26, g9_29, g9_30, g9_128, g9_129, g9_130, g9_133, g9_134, g9_135, g9_136, g9_137, g9_138, g9_139, g9_142, g9_143, g9_146, g9_147, g9_148, g9_149, g9_150, g9_151, g9_152, g9_155, g9_156, g9_157, g9_158, g9_159, g9_160, g9_161, g9_162, g9_163, g9_166, g9_168, g9_169, g9_170, g9_171, g9_172, g9_173, g9_174, g9_175, g9_176, g9_177, g9_180, g9_181, g9_182, g9_183, g9_184, g9_185, g9_186, g9_189, g9_190, g9_191, g9_192, g9_193, g9_196, g9_197, g9_198, g9_199, g9_200, g9_201, g9_202, g9_203, g9_206, g9_207, g9_208, g9_209, g9_210, g9_211, g9_212, g9_213, g9_214, g9_215, g9_218, g9_219, g9_220, g9_221, g9_222, g9_223, g9_224, g9_227, g9_228, g9_229, g9_232, g9_233, g9_234, g9_236, g9_237, g9_238, g9_239, g9_242, g9_243, g9_245, g9_246, g9_247, g9_248, g9_251, g9_252, g9_253, g9_254, g9_256, g9_257, g9_258, g9_259, g9_262, g9_263, g9_266, g9_267, g9_268, g9_269, k6, g6_0, g6_1, g6_2, g6_5, g6_6, g6_7, g6_8, g6_11, k7, g7_0, g7_1, g7_4, g7_5, g7_6, g7_7, g7_8, g7_10, g7_13, t0, t1, r0, i1, i2, i3, i4, k1, z1, z2, z3, ei, hr, up_a, s0, a0, show Int32.toNatClampNeg 4 = 4 by decide, c00, c01, c02, c03, c04, c05, c06]

theorem rc_51 (hS : PF kd num v D 1 1 e l) : PR kd num v (D + 2) 51 (fun x => e (x + 1)) (51 :: l) := by
  intro d h r x dep Q A h1 h2
  simp only [List.length_cons, List.length_append] at h1 h2
  have hr : r < 20 := by omega
  have A1 := AC_log 51 A
  have t0 := A.2.1
  have t1 := A.2.2.1
  have r0 := A.2.2.2.1
  have i1 := A.2.2.2.2.2.2.2
  have j2 := A1.2.2.2.2.1
  have j3 := A1.2.2.2.2.2.1
  have j4 := A1.2.2.2.2.2.2.1
  have mK := A.1
  have k1 := mK.1
  have z1 := nI_pos (n := r) (by omega)
  have z2 := nI_clamp (n := r) (by omega)
  have z3 : ¬ (20 : Int32) ≤ nI r := by rw [i_le]; exact Classical.not_not.mpr (nI_lt (b := 20) (by omega) (by omega))
  have ei : nI r + 1 = nI (r + 1) := nI_1 r
  have i2 := A.2.2.2.2.1
  have i3 := A.2.2.2.2.2.1
  have i4 := A.2.2.2.2.2.2.1
  have s0 : ∀ Q, zCall (d + D) 8 [.ref 73, .int 1, .int 1, .int (x + 1), .int (nI dep)] (wI (wI h 74 r 51) 73 1 (nI (r + 1))) Q = Q (some (.int (e (x + 1)))) (aLog l (r + 1) (wI (wI h 74 r 51) 73 1 (nI (r + 1)))) := fun Q => hS _ _ (r + 1) (x + 1) dep Q A1 (by omega) (by omega)
  have a0 : zI h 1000001 4 = 1 := mK.2.1 4 (by decide)
  have B0 := AC_logs l (A1)
  have c00 := B0.2.1
  have c01 := B0.2.2.2.2.1
  have c02 := B0.2.2.2.2.2.1
  have c03 := B0.2.2.2.2.2.2.1
  have c04 := B0.1.1
  have c05 : zI (aLog l (r + 1) (wI (wI h 74 r 51) 73 1 (nI (r + 1)))) 1000001 3 = 0 := B0.1.2.1 3 (by decide)
  have c06 : zI (aLog l (r + 1) (wI (wI h 74 r 51) 73 1 (nI (r + 1)))) 1000001 6 = 3 := B0.1.2.1 6 (by decide)
  show _ = Q _ (aLog l (r + 1) _)
  show zCall (d + D + 1 + 1) 9 [.ref 73, .int 51, .int x, .int (nI dep)] h Q = _
  simp +decide only [Nat.reduceEqDiff, Nat.add_eq_left, Nat.left_eq_add, Nat.reduceAdd, Nat.reduceLeDiff, Nat.reduceMul, Nat.reduceSub, Nat.reduceLT, zlt8, zlt8_, zlt8n, zlt8n_, List.length_cons, List.length_nil, true_or, or_true, false_or, or_false, and_self, and_true, true_and, and_false, false_and, not_false_eq_true, not_true_eq_false, ite_true, ite_false, if_true, if_false, ite_not, zin, zpush_s, zpush_n, kl_int, kl_ref, kl_none, kl_kl, kl_long, kl_null, zT_wI, zT_wJ, zT_wR, zT_wIr, zT_wJr, zT_wRr, zI_wJ, zI_wR, zI_wJr, zI_wRr, zJ_wI, zJ_wR, zJ_wIr, zJ_wRr, zR_wI, zR_wJ, zR_wIr, zR_wJr, zN_wI, zN_wJ, zN_wR, zN_wIr, zN_wJr, zN_wRr, zZ_wI, zZ_wJ, zZ_wR, zZ_wIr, zZ_wJr, zZ_wRr, zI_wI, zJ_wJ, zR_wR, zI_wIr, zJ_wJr, zR_wRr, k9, g9_0, g9_1, g9_4, g9_6, g9_9, g9_10, g9_13, g9_14, g9_17, g9_18, g9_19, g9_20, g9_21, g9_24, g9_25, g9_26, g9_29, g9_30, g9_128, g9_129, g9_130, g9_133, g9_134, g9_135, g9_136, g9_137, g9_138, g9_139, g9_142, g9_143, g9_146, g9_147, g9_148, g9_149, g9_150, g9_151, g9_152, g9_155, g9_156, g9_157, g9_158, g9_159, g9_160, g9_161, g9_162, g9_163, g9_166, g9_168, g9_169, g9_170, g9_171, g9_172, g9_173, g9_174, g9_175, g9_176, g9_177, g9_180, g9_181, g9_182, g9_183, g9_184, g9_185, g9_186, g9_189, g9_190, g9_191, g9_192, g9_193, g9_196, g9_197, g9_198, g9_199, g9_200, g9_201, g9_202, g9_203, g9_206, g9_207, g9_208, g9_209, g9_210, g9_211, g9_212, g9_213, g9_214, g9_215, g9_218, g9_219, g9_220, g9_221, g9_222, g9_223, g9_224, g9_227, g9_228, g9_229, g9_232, g9_233, g9_234, g9_236, g9_237, g9_238, g9_239, g9_242, g9_243, g9_245, g9_246, g9_247, g9_248, g9_251, g9_252, g9_253, g9_254, g9_256, g9_257, g9_258, g9_259, g9_262, g9_263, g9_266, g9_267, g9_268, g9_269, k6, g6_0, g6_1, g6_2, g6_5, g6_6, g6_7, g6_8, g6_11, k7, g7_0, g7_1, g7_4, g7_5, g7_6, g7_7, g7_8, g7_10, g7_13, t0, t1, r0, i1, i2, i3, i4, k1, z1, z2, z3, ei, hr, up_a, s0, a0, show Int32.toNatClampNeg 4 = 4 by decide, c00, c01, c02, c03, c04, c05, c06]

theorem rc_60 (hS : PF kd num v D 2 2 e l) : PR kd num v (D + 2) 60 (fun x => e (x - num)) (60 :: l) := by
  intro d h r x dep Q A h1 h2
  simp only [List.length_cons, List.length_append] at h1 h2
  have hr : r < 20 := by omega
  have A1 := AC_log 60 A
  have t0 := A.2.1
  have t1 := A.2.2.1
  have r0 := A.2.2.2.1
  have i1 := A.2.2.2.2.2.2.2
  have j2 := A1.2.2.2.2.1
  have j3 := A1.2.2.2.2.2.1
  have j4 := A1.2.2.2.2.2.2.1
  have mK := A.1
  have k1 := mK.1
  have z1 := nI_pos (n := r) (by omega)
  have z2 := nI_clamp (n := r) (by omega)
  have z3 : ¬ (20 : Int32) ≤ nI r := by rw [i_le]; exact Classical.not_not.mpr (nI_lt (b := 20) (by omega) (by omega))
  have ei : nI r + 1 = nI (r + 1) := nI_1 r
  have i2 := A.2.2.2.2.1
  have i3 := A.2.2.2.2.2.1
  have i4 := A.2.2.2.2.2.2.1
  have s0 : ∀ Q, zCall (d + D) 8 [.ref 73, .int 2, .int 2, .int (x - num), .int (nI dep)] (wI (wI h 74 r 60) 73 1 (nI (r + 1))) Q = Q (some (.int (e (x - num)))) (aLog l (r + 1) (wI (wI h 74 r 60) 73 1 (nI (r + 1)))) := fun Q => hS _ _ (r + 1) (x - num) dep Q A1 (by omega) (by omega)
  have a0 : zI h 1000001 5 = 2 := mK.2.1 5 (by decide)
  have B0 := AC_logs l (A1)
  have c00 := B0.2.1
  have c01 := B0.2.2.2.2.1
  have c02 := B0.2.2.2.2.2.1
  have c03 := B0.2.2.2.2.2.2.1
  have c04 := B0.1.1
  have c05 : zI (aLog l (r + 1) (wI (wI h 74 r 60) 73 1 (nI (r + 1)))) 1000001 3 = 0 := B0.1.2.1 3 (by decide)
  have c06 : zI (aLog l (r + 1) (wI (wI h 74 r 60) 73 1 (nI (r + 1)))) 1000001 6 = 3 := B0.1.2.1 6 (by decide)
  show _ = Q _ (aLog l (r + 1) _)
  show zCall (d + D + 1 + 1) 9 [.ref 73, .int 60, .int x, .int (nI dep)] h Q = _
  simp +decide only [Nat.reduceEqDiff, Nat.add_eq_left, Nat.left_eq_add, Nat.reduceAdd, Nat.reduceLeDiff, Nat.reduceMul, Nat.reduceSub, Nat.reduceLT, zlt8, zlt8_, zlt8n, zlt8n_, List.length_cons, List.length_nil, true_or, or_true, false_or, or_false, and_self, and_true, true_and, and_false, false_and, not_false_eq_true, not_true_eq_false, ite_true, ite_false, if_true, if_false, ite_not, zin, zpush_s, zpush_n, kl_int, kl_ref, kl_none, kl_kl, kl_long, kl_null, zT_wI, zT_wJ, zT_wR, zT_wIr, zT_wJr, zT_wRr, zI_wJ, zI_wR, zI_wJr, zI_wRr, zJ_wI, zJ_wR, zJ_wIr, zJ_wRr, zR_wI, zR_wJ, zR_wIr, zR_wJr, zN_wI, zN_wJ, zN_wR, zN_wIr, zN_wJr, zN_wRr, zZ_wI, zZ_wJ, zZ_wR, zZ_wIr, zZ_wJr, zZ_wRr, zI_wI, zJ_wJ, zR_wR, zI_wIr, zJ_wJr, zR_wRr, k9, g9_0, g9_1, g9_4, g9_6, g9_9, g9_10, g9_13, g9_14, g9_17, g9_18, g9_19, g9_20, g9_21, g9_24, g9_25, g9_26, g9_29, g9_30, g9_128, g9_129, g9_130, g9_133, g9_134, g9_135, g9_136, g9_137, g9_138, g9_139, g9_142, g9_143, g9_146, g9_147, g9_148, g9_149, g9_150, g9_151, g9_152, g9_155, g9_156, g9_157, g9_158, g9_159, g9_160, g9_161, g9_162, g9_163, g9_166, g9_168, g9_169, g9_170, g9_171, g9_172, g9_173, g9_174, g9_175, g9_176, g9_177, g9_180, g9_181, g9_182, g9_183, g9_184, g9_185, g9_186, g9_189, g9_190, g9_191, g9_192, g9_193, g9_196, g9_197, g9_198, g9_199, g9_200, g9_201, g9_202, g9_203, g9_206, g9_207, g9_208, g9_209, g9_210, g9_211, g9_212, g9_213, g9_214, g9_215, g9_218, g9_219, g9_220, g9_221, g9_222, g9_223, g9_224, g9_227, g9_228, g9_229, g9_232, g9_233, g9_234, g9_236, g9_237, g9_238, g9_239, g9_242, g9_243, g9_245, g9_246, g9_247, g9_248, g9_251, g9_252, g9_253, g9_254, g9_256, g9_257, g9_258, g9_259, g9_262, g9_263, g9_266, g9_267, g9_268, g9_269, k6, g6_0, g6_1, g6_2, g6_5, g6_6, g6_7, g6_8, g6_11, k7, g7_0, g7_1, g7_4, g7_5, g7_6, g7_7, g7_8, g7_10, g7_13, t0, t1, r0, i1, i2, i3, i4, k1, z1, z2, z3, ei, hr, up_a, s0, a0, show Int32.toNatClampNeg 5 = 5 by decide, c00, c01, c02, c03, c04, c05, c06]

theorem rc_70 (hS : PF kd num v D 3 1 e1 l1) (hT : PF kd num v D 3 0 e2 l2) : PR kd num v (D + 2) 70 (fun x => e1 x + e2 2) (70 :: (l1 ++ l2)) := by
  intro d h r x dep Q A h1 h2
  simp only [List.length_cons, List.length_append] at h1 h2
  have hr : r < 20 := by omega
  have A1 := AC_log 70 A
  have t0 := A.2.1
  have t1 := A.2.2.1
  have r0 := A.2.2.2.1
  have i1 := A.2.2.2.2.2.2.2
  have j2 := A1.2.2.2.2.1
  have j3 := A1.2.2.2.2.2.1
  have j4 := A1.2.2.2.2.2.2.1
  have mK := A.1
  have k1 := mK.1
  have z1 := nI_pos (n := r) (by omega)
  have z2 := nI_clamp (n := r) (by omega)
  have z3 : ¬ (20 : Int32) ≤ nI r := by rw [i_le]; exact Classical.not_not.mpr (nI_lt (b := 20) (by omega) (by omega))
  have ei : nI r + 1 = nI (r + 1) := nI_1 r
  have i2 := A.2.2.2.2.1
  have i3 := A.2.2.2.2.2.1
  have i4 := A.2.2.2.2.2.2.1
  have s0 : ∀ Q, zCall (d + D) 8 [.ref 73, .int 3, .int 1, .int x, .int (nI dep)] (wI (wI h 74 r 70) 73 1 (nI (r + 1))) Q = Q (some (.int (e1 x))) (aLog l1 (r + 1) (wI (wI h 74 r 70) 73 1 (nI (r + 1)))) := fun Q => hS _ _ (r + 1) x dep Q A1 (by omega) (by omega)
  have a0 : zI h 1000001 6 = 3 := mK.2.1 6 (by decide)
  have B0 := AC_logs l1 (A1)
  have c00 := B0.2.1
  have c01 := B0.2.2.2.2.1
  have c02 := B0.2.2.2.2.2.1
  have c03 := B0.2.2.2.2.2.2.1
  have c04 := B0.1.1
  have c05 : zI (aLog l1 (r + 1) (wI (wI h 74 r 70) 73 1 (nI (r + 1)))) 1000001 3 = 0 := B0.1.2.1 3 (by decide)
  have c06 : zI (aLog l1 (r + 1) (wI (wI h 74 r 70) 73 1 (nI (r + 1)))) 1000001 6 = 3 := B0.1.2.1 6 (by decide)
  have s1 : ∀ Q, zCall (d + D) 8 [.ref 73, .int 3, .int 0, .int 2, .int (nI dep)] (aLog l1 (r + 1) (wI (wI h 74 r 70) 73 1 (nI (r + 1)))) Q = Q (some (.int (e2 2))) (aLog l2 ((r + 1) + l1.length) (aLog l1 (r + 1) (wI (wI h 74 r 70) 73 1 (nI (r + 1))))) := fun Q => hT _ _ ((r + 1) + l1.length) 2 dep Q B0 (by omega) (by omega)
  have a1 : zI h 1000001 6 = 3 := mK.2.1 6 (by decide)
  have B1 := AC_logs l2 (B0)
  have c10 := B1.2.1
  have c11 := B1.2.2.2.2.1
  have c12 := B1.2.2.2.2.2.1
  have c13 := B1.2.2.2.2.2.2.1
  have c14 := B1.1.1
  have c15 : zI (aLog l2 ((r + 1) + l1.length) (aLog l1 (r + 1) (wI (wI h 74 r 70) 73 1 (nI (r + 1))))) 1000001 3 = 0 := B1.1.2.1 3 (by decide)
  have c16 : zI (aLog l2 ((r + 1) + l1.length) (aLog l1 (r + 1) (wI (wI h 74 r 70) 73 1 (nI (r + 1))))) 1000001 6 = 3 := B1.1.2.1 6 (by decide)
  show _ = Q _ (aLog (l1 ++ l2) (r + 1) _)
  rw [aLog_app]
  show zCall (d + D + 1 + 1) 9 [.ref 73, .int 70, .int x, .int (nI dep)] h Q = _
  simp +decide only [Nat.reduceEqDiff, Nat.add_eq_left, Nat.left_eq_add, Nat.reduceAdd, Nat.reduceLeDiff, Nat.reduceMul, Nat.reduceSub, Nat.reduceLT, zlt8, zlt8_, zlt8n, zlt8n_, List.length_cons, List.length_nil, true_or, or_true, false_or, or_false, and_self, and_true, true_and, and_false, false_and, not_false_eq_true, not_true_eq_false, ite_true, ite_false, if_true, if_false, ite_not, zin, zpush_s, zpush_n, kl_int, kl_ref, kl_none, kl_kl, kl_long, kl_null, zT_wI, zT_wJ, zT_wR, zT_wIr, zT_wJr, zT_wRr, zI_wJ, zI_wR, zI_wJr, zI_wRr, zJ_wI, zJ_wR, zJ_wIr, zJ_wRr, zR_wI, zR_wJ, zR_wIr, zR_wJr, zN_wI, zN_wJ, zN_wR, zN_wIr, zN_wJr, zN_wRr, zZ_wI, zZ_wJ, zZ_wR, zZ_wIr, zZ_wJr, zZ_wRr, zI_wI, zJ_wJ, zR_wR, zI_wIr, zJ_wJr, zR_wRr, k9, g9_0, g9_1, g9_4, g9_6, g9_9, g9_10, g9_13, g9_14, g9_17, g9_18, g9_19, g9_20, g9_21, g9_24, g9_25, g9_26, g9_29, g9_30, g9_128, g9_129, g9_130, g9_133, g9_134, g9_135, g9_136, g9_137, g9_138, g9_139, g9_142, g9_143, g9_146, g9_147, g9_148, g9_149, g9_150, g9_151, g9_152, g9_155, g9_156, g9_157, g9_158, g9_159, g9_160, g9_161, g9_162, g9_163, g9_166, g9_168, g9_169, g9_170, g9_171, g9_172, g9_173, g9_174, g9_175, g9_176, g9_177, g9_180, g9_181, g9_182, g9_183, g9_184, g9_185, g9_186, g9_189, g9_190, g9_191, g9_192, g9_193, g9_196, g9_197, g9_198, g9_199, g9_200, g9_201, g9_202, g9_203, g9_206, g9_207, g9_208, g9_209, g9_210, g9_211, g9_212, g9_213, g9_214, g9_215, g9_218, g9_219, g9_220, g9_221, g9_222, g9_223, g9_224, g9_227, g9_228, g9_229, g9_232, g9_233, g9_234, g9_236, g9_237, g9_238, g9_239, g9_242, g9_243, g9_245, g9_246, g9_247, g9_248, g9_251, g9_252, g9_253, g9_254, g9_256, g9_257, g9_258, g9_259, g9_262, g9_263, g9_266, g9_267, g9_268, g9_269, k6, g6_0, g6_1, g6_2, g6_5, g6_6, g6_7, g6_8, g6_11, k7, g7_0, g7_1, g7_4, g7_5, g7_6, g7_7, g7_8, g7_10, g7_13, t0, t1, r0, i1, i2, i3, i4, k1, z1, z2, z3, ei, hr, up_a, s0, a0, show Int32.toNatClampNeg 6 = 6 by decide, c00, c01, c02, c03, c04, c05, c06, s1, a1, show Int32.toNatClampNeg 6 = 6 by decide, c10, c11, c12, c13, c14, c15, c16]

theorem rc_71 (hS : PF kd num v D 3 0 e l) : PR kd num v (D + 2) 71 (fun x => e x ^^^ v) (71 :: l) := by
  intro d h r x dep Q A h1 h2
  simp only [List.length_cons, List.length_append] at h1 h2
  have hr : r < 20 := by omega
  have A1 := AC_log 71 A
  have t0 := A.2.1
  have t1 := A.2.2.1
  have r0 := A.2.2.2.1
  have i1 := A.2.2.2.2.2.2.2
  have j2 := A1.2.2.2.2.1
  have j3 := A1.2.2.2.2.2.1
  have j4 := A1.2.2.2.2.2.2.1
  have mK := A.1
  have k1 := mK.1
  have z1 := nI_pos (n := r) (by omega)
  have z2 := nI_clamp (n := r) (by omega)
  have z3 : ¬ (20 : Int32) ≤ nI r := by rw [i_le]; exact Classical.not_not.mpr (nI_lt (b := 20) (by omega) (by omega))
  have ei : nI r + 1 = nI (r + 1) := nI_1 r
  have i2 := A.2.2.2.2.1
  have i3 := A.2.2.2.2.2.1
  have i4 := A.2.2.2.2.2.2.1
  have s0 : ∀ Q, zCall (d + D) 8 [.ref 73, .int 3, .int 0, .int x, .int (nI dep)] (wI (wI h 74 r 71) 73 1 (nI (r + 1))) Q = Q (some (.int (e x))) (aLog l (r + 1) (wI (wI h 74 r 71) 73 1 (nI (r + 1)))) := fun Q => hS _ _ (r + 1) x dep Q A1 (by omega) (by omega)
  have a0 : zI h 1000001 6 = 3 := mK.2.1 6 (by decide)
  have B0 := AC_logs l (A1)
  have c00 := B0.2.1
  have c01 := B0.2.2.2.2.1
  have c02 := B0.2.2.2.2.2.1
  have c03 := B0.2.2.2.2.2.2.1
  have c04 := B0.1.1
  have c05 : zI (aLog l (r + 1) (wI (wI h 74 r 71) 73 1 (nI (r + 1)))) 1000001 3 = 0 := B0.1.2.1 3 (by decide)
  have c06 : zI (aLog l (r + 1) (wI (wI h 74 r 71) 73 1 (nI (r + 1)))) 1000001 6 = 3 := B0.1.2.1 6 (by decide)
  show _ = Q _ (aLog l (r + 1) _)
  show zCall (d + D + 1 + 1) 9 [.ref 73, .int 71, .int x, .int (nI dep)] h Q = _
  simp +decide only [Nat.reduceEqDiff, Nat.add_eq_left, Nat.left_eq_add, Nat.reduceAdd, Nat.reduceLeDiff, Nat.reduceMul, Nat.reduceSub, Nat.reduceLT, zlt8, zlt8_, zlt8n, zlt8n_, List.length_cons, List.length_nil, true_or, or_true, false_or, or_false, and_self, and_true, true_and, and_false, false_and, not_false_eq_true, not_true_eq_false, ite_true, ite_false, if_true, if_false, ite_not, zin, zpush_s, zpush_n, kl_int, kl_ref, kl_none, kl_kl, kl_long, kl_null, zT_wI, zT_wJ, zT_wR, zT_wIr, zT_wJr, zT_wRr, zI_wJ, zI_wR, zI_wJr, zI_wRr, zJ_wI, zJ_wR, zJ_wIr, zJ_wRr, zR_wI, zR_wJ, zR_wIr, zR_wJr, zN_wI, zN_wJ, zN_wR, zN_wIr, zN_wJr, zN_wRr, zZ_wI, zZ_wJ, zZ_wR, zZ_wIr, zZ_wJr, zZ_wRr, zI_wI, zJ_wJ, zR_wR, zI_wIr, zJ_wJr, zR_wRr, k9, g9_0, g9_1, g9_4, g9_6, g9_9, g9_10, g9_13, g9_14, g9_17, g9_18, g9_19, g9_20, g9_21, g9_24, g9_25, g9_26, g9_29, g9_30, g9_128, g9_129, g9_130, g9_133, g9_134, g9_135, g9_136, g9_137, g9_138, g9_139, g9_142, g9_143, g9_146, g9_147, g9_148, g9_149, g9_150, g9_151, g9_152, g9_155, g9_156, g9_157, g9_158, g9_159, g9_160, g9_161, g9_162, g9_163, g9_166, g9_168, g9_169, g9_170, g9_171, g9_172, g9_173, g9_174, g9_175, g9_176, g9_177, g9_180, g9_181, g9_182, g9_183, g9_184, g9_185, g9_186, g9_189, g9_190, g9_191, g9_192, g9_193, g9_196, g9_197, g9_198, g9_199, g9_200, g9_201, g9_202, g9_203, g9_206, g9_207, g9_208, g9_209, g9_210, g9_211, g9_212, g9_213, g9_214, g9_215, g9_218, g9_219, g9_220, g9_221, g9_222, g9_223, g9_224, g9_227, g9_228, g9_229, g9_232, g9_233, g9_234, g9_236, g9_237, g9_238, g9_239, g9_242, g9_243, g9_245, g9_246, g9_247, g9_248, g9_251, g9_252, g9_253, g9_254, g9_256, g9_257, g9_258, g9_259, g9_262, g9_263, g9_266, g9_267, g9_268, g9_269, k6, g6_0, g6_1, g6_2, g6_5, g6_6, g6_7, g6_8, g6_11, k7, g7_0, g7_1, g7_4, g7_5, g7_6, g7_7, g7_8, g7_10, g7_13, t0, t1, r0, i1, i2, i3, i4, k1, z1, z2, z3, ei, hr, up_a, s0, a0, show Int32.toNatClampNeg 6 = 6 by decide, c00, c01, c02, c03, c04, c05, c06]

/-! the reference's -/
def PM (t kd : Nat) (v : Int32) (D k a : Nat) (e : Int32 → Int32) (l : List Int32) : Prop := ∀ (d : Nat) (h : zH) (r : Nat) (x : Int32) (Q : zQq), AM h t kd v r → r + l.length ≤ 20 → zCall (d + D) 862 [.ref 88, .int (nI k), .int (nI t), .int (nI a), .int x] h Q = Q (some (.int (e x))) (aLogM l r h)
def PMh (t kd : Nat) (v : Int32) (D k a : Nat) (e : Int32 → Int32) (l : List Int32) : Prop := ∀ (d : Nat) (h : zH) (r : Nat) (x : Int32) (f : Option Value) (Q : zQq), AM h t kd v r → r + l.length ≤ 20 → zG (d + D) 862 3 [some (.ref 88), f, some (.int (nI t)), some (.int (nI a)), some (.int x), some (.int (nI k)), none] [] h Q = Q (some (.int (e x))) (aLogM l r h)
def PMb (t kd : Nat) (v : Int32) (D : Nat) (b up : Int32) (e : Int32 → Int32) (l : List Int32) : Prop := ∀ (d : Nat) (h : zH) (r : Nat) (x : Int32) (f g g2 : Option Value) (Q : zQq), AM h t kd v r → r + l.length ≤ 20 → zG (d + D) 862 53 [some (.ref 88), f, some (.int (nI t)), g, some (.int x), g2, some (.int up)] [.int b] (wI (wI h 102 r b) 88 24 (nI (r + 1))) Q = Q (some (.int (e x))) (aLogM l r h)
theorem m_body (A : AM h t kd v r) (hr : r < 20) (b : Int32) (Q : zQq) : zCall (d + 1) 860 [.ref 88, .int b] h Q = Q (some (.int b)) (wI (wI h 102 r b) 88 24 (nI (r + 1))) := by
  have i1 := A.2.2.2.2
  have z1 := nI_pos (n := r) (by omega)
  have z2 := nI_clamp (n := r) (by omega)
  have z3 : ¬ (20 : Int32) ≤ nI r := by rw [i_le]; exact Classical.not_not.mpr (nI_lt (b := 20) (by omega) (by omega))
  obtain ⟨m88, m89, m90, m91, m92, m93, m94, m95, m96, m97, m98, m99, m100, m101, m102, m103, m104, m105, m106, n0, n1, n2, n5, n7, n8, n10, n17, n18, n19, n20, n21, n22, n23, n25, n26, n27, n28⟩ := A.1.1
  simp +decide only [Nat.reduceEqDiff, Nat.add_eq_left, Nat.left_eq_add, Nat.reduceAdd, Nat.reduceLeDiff, Nat.reduceMul, Nat.reduceSub, Nat.reduceLT, zlt8, zlt8_, zlt8n, zlt8n_, List.length_cons, List.length_nil, true_or, or_true, false_or, or_false, and_self, and_true, true_and, and_false, false_and, not_false_eq_true, not_true_eq_false, ite_true, ite_false, if_true, if_false, ite_not, zin, zpush_s, zpush_n, kl_int, kl_ref, kl_none, kl_kl, kl_long, kl_null, zT_wI, zT_wJ, zT_wR, zT_wIr, zT_wJr, zT_wRr, zI_wJ, zI_wR, zI_wJr, zI_wRr, zJ_wI, zJ_wR, zJ_wIr, zJ_wRr, zR_wI, zR_wJ, zR_wIr, zR_wJr, zN_wI, zN_wJ, zN_wR, zN_wIr, zN_wJr, zN_wRr, zZ_wI, zZ_wJ, zZ_wR, zZ_wIr, zZ_wJr, zZ_wRr, zI_wI, zJ_wJ, zR_wR, zI_wIr, zJ_wJr, zR_wRr, k860, g860_0, g860_1, g860_4, g860_6, g860_9, g860_10, g860_13, g860_14, g860_17, g860_18, g860_19, g860_20, g860_21, g860_24, g860_25, g860_26, g860_29, g860_30, m88, m89, m90, m91, m92, m93, m94, m95, m96, m97, m98, m99, m100, m101, m102, m103, m104, m105, m106, n0, n1, n2, n5, n7, n8, n10, n17, n18, n19, n20, n21, n22, n23, n25, n26, n27, n28, i1, z1, z2, z3, hr, nI_1]
theorem hm_hit {up : Int32} (hb : (mcK 101).getD (3 * k + a) 0 = b) (hb0 : ¬ b = 0) (hk : k < 7) (ha : a < 3) (hA : (mcK 100).getD k 0 = up) (hl : 1 ≤ l.length) (hR : PMb t kd v (D + 1) b up e l) : PMh t kd v (D + 1) k a e l := by
  intro d h r x f Q A h1
  have s := fun f g g2 Q => hR d h r x f g g2 Q A h1
  have cb : ∀ Q, zCall (d + (D + 1)) 860 [.ref 88, .int b] h Q = _ := fun Q => m_body (d := d + D) A (by omega) b Q
  have kb : zI h 101 (3 * k + a) = _ := A.1.2 101 (by omega) (by omega) (3 * k + a) (by show 3 * k + a < 21; omega)
  have ka : zI h 100 k = _ := A.1.2 100 (by omega) (by omega) k hk
  rw [hb] at kb
  rw [hA] at ka
  have z1 := nI_pos (n := k) (by omega)
  have z1' := nI_clamp (n := k) (by omega)
  have e1 : (3 : Int32) * nI k + nI a = nI (3 * k + a) := by rw [show (3 : Int32) = nI 3 from rfl, pk_mul, nI_add]
  have z5 := nI_pos (n := 3 * k + a) (by omega)
  have z6 := nI_clamp (n := 3 * k + a) (by omega)
  obtain ⟨m88, m89, m90, m91, m92, m93, m94, m95, m96, m97, m98, m99, m100, m101, m102, m103, m104, m105, m106, n0, n1, n2, n5, n7, n8, n10, n17, n18, n19, n20, n21, n22, n23, n25, n26, n27, n28⟩ := A.1.1
  rw [g862_3]
  simp +decide only [Nat.reduceEqDiff, Nat.add_eq_left, Nat.left_eq_add, Nat.reduceAdd, Nat.reduceLeDiff, Nat.reduceMul, Nat.reduceSub, Nat.reduceLT, zlt8, zlt8_, zlt8n, zlt8n_, List.length_cons, List.length_nil, true_or, or_true, false_or, or_false, and_self, and_true, true_and, and_false, false_and, not_false_eq_true, not_true_eq_false, ite_true, ite_false, if_true, if_false, ite_not, zin, zpush_s, zpush_n, kl_int, kl_ref, kl_none, kl_kl, kl_long, kl_null, zT_wI, zT_wJ, zT_wR, zT_wIr, zT_wJr, zT_wRr, zI_wJ, zI_wR, zI_wJr, zI_wRr, zJ_wI, zJ_wR, zJ_wIr, zJ_wRr, zR_wI, zR_wJ, zR_wIr, zR_wJr, zN_wI, zN_wJ, zN_wR, zN_wIr, zN_wJr, zN_wRr, zZ_wI, zZ_wJ, zZ_wR, zZ_wIr, zZ_wJr, zZ_wRr, zI_wI, zJ_wJ, zR_wR, zI_wIr, zJ_wJr, zR_wRr, g862_0, g862_1, g862_4, g862_7, g862_8, g862_10, g862_11, g862_12, g862_13, g862_14, g862_17, g862_18, g862_21, g862_23, g862_24, g862_26, g862_29, g862_30, g862_33, g862_35, g862_36, g862_38, g862_39, g862_40, g862_43, g862_44, g862_46, g862_47, g862_48, g862_49, g862_50, m88, m89, m90, m91, m92, m93, m94, m95, m96, m97, m98, m99, m100, m101, m102, m103, m104, m105, m106, n0, n1, n2, n5, n7, n8, n10, n17, n18, n19, n20, n21, n22, n23, n25, n26, n27, n28, kb, ka, hb0, z1, z1', z5, z6, e1, cb, s, hk, show 3 * k + a < 21 by omega]
theorem hm_miss {k' : Nat} (hb : (mcK 101).getD (3 * k + a) 0 = 0) (hk : k < 7) (ha : a < 3) (hA : (mcK 100).getD k 0 = nI k') (hH : PMh t kd v D k' a e l) : PMh t kd v D k a e l := by
  intro d h r x f Q A h1
  have s := fun f Q => hH d h r x f Q A h1
  have kb : zI h 101 (3 * k + a) = _ := A.1.2 101 (by omega) (by omega) (3 * k + a) (by show 3 * k + a < 21; omega)
  have ka : zI h 100 k = _ := A.1.2 100 (by omega) (by omega) k hk
  rw [hb] at kb
  rw [hA] at ka
  have z1 := nI_pos (n := k) (by omega)
  have z1' := nI_clamp (n := k) (by omega)
  have e1 : (3 : Int32) * nI k + nI a = nI (3 * k + a) := by rw [show (3 : Int32) = nI 3 from rfl, pk_mul, nI_add]
  have z5 := nI_pos (n := 3 * k + a) (by omega)
  have z6 := nI_clamp (n := 3 * k + a) (by omega)
  obtain ⟨m88, m89, m90, m91, m92, m93, m94, m95, m96, m97, m98, m99, m100, m101, m102, m103, m104, m105, m106, n0, n1, n2, n5, n7, n8, n10, n17, n18, n19, n20, n21, n22, n23, n25, n26, n27, n28⟩ := A.1.1
  rw [g862_3]
  simp +decide only [Nat.reduceEqDiff, Nat.add_eq_left, Nat.left_eq_add, Nat.reduceAdd, Nat.reduceLeDiff, Nat.reduceMul, Nat.reduceSub, Nat.reduceLT, zlt8, zlt8_, zlt8n, zlt8n_, List.length_cons, List.length_nil, true_or, or_true, false_or, or_false, and_self, and_true, true_and, and_false, false_and, not_false_eq_true, not_true_eq_false, ite_true, ite_false, if_true, if_false, ite_not, zin, zpush_s, zpush_n, kl_int, kl_ref, kl_none, kl_kl, kl_long, kl_null, zT_wI, zT_wJ, zT_wR, zT_wIr, zT_wJr, zT_wRr, zI_wJ, zI_wR, zI_wJr, zI_wRr, zJ_wI, zJ_wR, zJ_wIr, zJ_wRr, zR_wI, zR_wJ, zR_wIr, zR_wJr, zN_wI, zN_wJ, zN_wR, zN_wIr, zN_wJr, zN_wRr, zZ_wI, zZ_wJ, zZ_wR, zZ_wIr, zZ_wJr, zZ_wRr, zI_wI, zJ_wJ, zR_wR, zI_wIr, zJ_wJr, zR_wRr, g862_0, g862_1, g862_4, g862_7, g862_8, g862_10, g862_11, g862_12, g862_13, g862_14, g862_17, g862_18, g862_21, g862_23, g862_24, g862_26, g862_29, g862_30, g862_33, g862_35, g862_36, g862_38, g862_39, g862_40, g862_43, g862_44, g862_46, g862_47, g862_48, g862_49, g862_50, m88, m89, m90, m91, m92, m93, m94, m95, m96, m97, m98, m99, m100, m101, m102, m103, m104, m105, m106, n0, n1, n2, n5, n7, n8, n10, n17, n18, n19, n20, n21, n22, n23, n25, n26, n27, n28, kb, ka, z1, z1', z5, z6, e1, s, hk, show 3 * k + a < 21 by omega]
theorem hm_from (hH : PMh t kd v D k a e l) : PM t kd v (D + 1) k a e l := by
  intro d h r x Q A h1
  have s : ∀ f Q, zG (d + D) 862 3 [some (.ref 88), f, some (.int (nI t)), some (.int (nI a)), some (.int x), some (.int (nI k)), none] [] h Q = _ := fun f Q => hH d h r x f Q A h1
  show zCall (d + D + 1) 862 [.ref 88, .int (nI k), .int (nI t), .int (nI a), .int x] h Q = _
  simp +decide only [Nat.reduceEqDiff, Nat.add_eq_left, Nat.left_eq_add, Nat.reduceAdd, Nat.reduceLeDiff, Nat.reduceMul, Nat.reduceSub, Nat.reduceLT, zlt8, zlt8_, zlt8n, zlt8n_, List.length_cons, List.length_nil, true_or, or_true, false_or, or_false, and_self, and_true, true_and, and_false, false_and, not_false_eq_true, not_true_eq_false, ite_true, ite_false, if_true, if_false, ite_not, zin, zpush_s, zpush_n, kl_int, kl_ref, kl_none, kl_kl, kl_long, kl_null, zT_wI, zT_wJ, zT_wR, zT_wIr, zT_wJr, zT_wRr, zI_wJ, zI_wR, zI_wJr, zI_wRr, zJ_wI, zJ_wR, zJ_wIr, zJ_wRr, zR_wI, zR_wJ, zR_wIr, zR_wJr, zN_wI, zN_wJ, zN_wR, zN_wIr, zN_wJr, zN_wRr, zZ_wI, zZ_wJ, zZ_wR, zZ_wIr, zZ_wJr, zZ_wRr, zI_wI, zJ_wJ, zR_wR, zI_wIr, zJ_wJr, zR_wRr, k862, g862_0, g862_1, s]
theorem m_all (hS : PM t kd v D kd a e l) (d : Nat) (A : AM h t kd v r) (h1 : r + l.length ≤ 20) (c : Int32) (hc : c = nI a) (x : Int32) (Q : zQq) : zCall (d + 1 + D + 1) 861 [.ref 88, .int (nI t), .int c, .int x] h Q = Q (some (.int (e x))) (aLogM l r h) := by
  subst hc
  have s := fun Q => hS (d + 1) h r x Q A h1
  have o0 : ∀ Q, zCall (d + 1 + D) 808 [.ref 88, .int (nI t), .int 0] h Q = Q (some (.int (nI kd))) h := fun Q => by rw [show d + 1 + D = d + D + 1 by omega, ← A.2.2.1]; exact c_one0 A.1.1 A.2.1 Q
  have m88 := A.1.1.1
  simp +decide only [Nat.reduceEqDiff, Nat.add_eq_left, Nat.left_eq_add, Nat.reduceAdd, Nat.reduceLeDiff, Nat.reduceMul, Nat.reduceSub, Nat.reduceLT, zlt8, zlt8_, zlt8n, zlt8n_, List.length_cons, List.length_nil, true_or, or_true, false_or, or_false, and_self, and_true, true_and, and_false, false_and, not_false_eq_true, not_true_eq_false, ite_true, ite_false, if_true, if_false, ite_not, zin, zpush_s, zpush_n, kl_int, kl_ref, kl_none, kl_kl, kl_long, kl_null, zT_wI, zT_wJ, zT_wR, zT_wIr, zT_wJr, zT_wRr, zI_wJ, zI_wR, zI_wJr, zI_wRr, zJ_wI, zJ_wR, zJ_wIr, zJ_wRr, zR_wI, zR_wJ, zR_wIr, zR_wJr, zN_wI, zN_wJ, zN_wR, zN_wIr, zN_wJr, zN_wRr, zZ_wI, zZ_wJ, zZ_wR, zZ_wIr, zZ_wJr, zZ_wRr, zI_wI, zJ_wJ, zR_wR, zI_wIr, zJ_wJr, zR_wRr, k861, g861_0, g861_1, g861_2, g861_3, g861_4, g861_7, g861_8, g861_9, g861_10, g861_13, m88, o0, s]

theorem rm_10 {up : Int32} : PMb t kd v (D + 1) 10 (up) (fun x => x + nI t) (10 :: []) := by
  intro d h r x f g g2 Q A h1
  simp only [List.length_cons, List.length_append] at h1
  have A1 := AM_log 10 A
  have ht := A.2.1
  have m88 := A.1.1.1
  show _ = Q _ (wI (wI h 102 r 10) 88 24 (nI (r + 1)))
  simp +decide only [Nat.reduceEqDiff, Nat.add_eq_left, Nat.left_eq_add, Nat.reduceAdd, Nat.reduceLeDiff, Nat.reduceMul, Nat.reduceSub, Nat.reduceLT, zlt8, zlt8_, zlt8n, zlt8n_, List.length_cons, List.length_nil, true_or, or_true, false_or, or_false, and_self, and_true, true_and, and_false, false_and, not_false_eq_true, not_true_eq_false, ite_true, ite_false, if_true, if_false, ite_not, zin, zpush_s, zpush_n, kl_int, kl_ref, kl_none, kl_kl, kl_long, kl_null, zT_wI, zT_wJ, zT_wR, zT_wIr, zT_wJr, zT_wRr, zI_wJ, zI_wR, zI_wJr, zI_wRr, zJ_wI, zJ_wR, zJ_wIr, zJ_wRr, zR_wI, zR_wJ, zR_wIr, zR_wJr, zN_wI, zN_wJ, zN_wR, zN_wIr, zN_wJr, zN_wRr, zZ_wI, zZ_wJ, zZ_wR, zZ_wIr, zZ_wJr, zZ_wRr, zI_wI, zJ_wJ, zR_wR, zI_wIr, zJ_wJr, zR_wRr, g862_53, g862_144, g862_146, g862_147, g862_148, g862_149, g862_150, g862_151, g862_152, g862_154, g862_157, g862_158, g862_159, g862_160, g862_163, g862_164, g862_165, g862_166, g862_167, g862_168, g862_170, g862_173, g862_174, g862_175, g862_176, g862_177, g862_179, g862_180, g862_181, g862_183, g862_186, g862_188, g862_189, g862_190, g862_191, g862_193, g862_194, g862_195, g862_197, g862_198, g862_199, g862_202, g862_203, g862_204, g862_206, g862_207, g862_208, g862_210, g862_213, g862_214, g862_215, g862_216, g862_217, g862_220, g862_221, g862_222, g862_223, g862_225, g862_226, g862_227, g862_229, g862_232, g862_233, g862_234, g862_235, g862_237, g862_238, g862_239, g862_241, g862_242, g862_243, g862_246, g862_247, g862_248, g862_250, g862_251, g862_252, g862_254, g862_255, g862_256, g862_259, g862_260, g862_261, g862_263, g862_264, g862_265, g862_267, g862_270, g862_271, g862_273, g862_274, g862_275, g862_276, g862_279, g862_280, g862_281, g862_282, g862_284, g862_285, g862_286, g862_288, g862_291, g862_292, g862_293, g862_294, g862_297, g862_298, m88, ]

theorem rm_11 {up : Int32} (hS : PM t kd v D kd 0 e l) : PMb t kd v (D + 2) 11 (up) (fun x => e x - v) (11 :: l) := by
  intro d h r x f g g2 Q A h1
  simp only [List.length_cons, List.length_append] at h1
  have A1 := AM_log 11 A
  have ht := A.2.1
  have m88 := A.1.1.1
  have s0 : ∀ Q, zCall (d + (D + 2)) 861 [.ref 88, .int (nI t), .int 0, .int x] (wI (wI h 102 r 11) 88 24 (nI (r + 1))) Q = Q (some (.int (e x))) (aLogM l (r + 1) (wI (wI h 102 r 11) 88 24 (nI (r + 1)))) := fun Q => by rw [show d + (D + 2) = d + 1 + D + 1 by omega]; exact m_all hS d A1 (by omega) 0 rfl x Q
  have B0 := AM_logs l (A1)
  have o0 : ∀ Q, zCall (d + (D + 2)) 808 [.ref 88, .int (nI t), .int 1] (aLogM l (r + 1) (wI (wI h 102 r 11) 88 24 (nI (r + 1)))) Q = Q (some (.int v)) (aLogM l (r + 1) (wI (wI h 102 r 11) 88 24 (nI (r + 1)))) := fun Q => by
    have := c_one1 (d := d + (D + 1)) B0.1.1 B0.2.1 Q
    rw [B0.2.2.2.1] at this
    exact this
  have n0 := B0.1.1.1
  show _ = Q _ (aLogM l (r + 1) _)
  simp +decide only [Nat.reduceEqDiff, Nat.add_eq_left, Nat.left_eq_add, Nat.reduceAdd, Nat.reduceLeDiff, Nat.reduceMul, Nat.reduceSub, Nat.reduceLT, zlt8, zlt8_, zlt8n, zlt8n_, List.length_cons, List.length_nil, true_or, or_true, false_or, or_false, and_self, and_true, true_and, and_false, false_and, not_false_eq_true, not_true_eq_false, ite_true, ite_false, if_true, if_false, ite_not, zin, zpush_s, zpush_n, kl_int, kl_ref, kl_none, kl_kl, kl_long, kl_null, zT_wI, zT_wJ, zT_wR, zT_wIr, zT_wJr, zT_wRr, zI_wJ, zI_wR, zI_wJr, zI_wRr, zJ_wI, zJ_wR, zJ_wIr, zJ_wRr, zR_wI, zR_wJ, zR_wIr, zR_wJr, zN_wI, zN_wJ, zN_wR, zN_wIr, zN_wJr, zN_wRr, zZ_wI, zZ_wJ, zZ_wR, zZ_wIr, zZ_wJr, zZ_wRr, zI_wI, zJ_wJ, zR_wR, zI_wIr, zJ_wJr, zR_wRr, g862_53, g862_144, g862_146, g862_147, g862_148, g862_149, g862_150, g862_151, g862_152, g862_154, g862_157, g862_158, g862_159, g862_160, g862_163, g862_164, g862_165, g862_166, g862_167, g862_168, g862_170, g862_173, g862_174, g862_175, g862_176, g862_177, g862_179, g862_180, g862_181, g862_183, g862_186, g862_188, g862_189, g862_190, g862_191, g862_193, g862_194, g862_195, g862_197, g862_198, g862_199, g862_202, g862_203, g862_204, g862_206, g862_207, g862_208, g862_210, g862_213, g862_214, g862_215, g862_216, g862_217, g862_220, g862_221, g862_222, g862_223, g862_225, g862_226, g862_227, g862_229, g862_232, g862_233, g862_234, g862_235, g862_237, g862_238, g862_239, g862_241, g862_242, g862_243, g862_246, g862_247, g862_248, g862_250, g862_251, g862_252, g862_254, g862_255, g862_256, g862_259, g862_260, g862_261, g862_263, g862_264, g862_265, g862_267, g862_270, g862_271, g862_273, g862_274, g862_275, g862_276, g862_279, g862_280, g862_281, g862_282, g862_284, g862_285, g862_286, g862_288, g862_291, g862_292, g862_293, g862_294, g862_297, g862_298, m88, s0, o0, n0]

theorem rm_12 {up : Int32} (hS : PM t kd v D kd 1 e l) : PMb t kd v (D + 2) 12 (up) (fun x => e x * 2) (12 :: l) := by
  intro d h r x f g g2 Q A h1
  simp only [List.length_cons, List.length_append] at h1
  have A1 := AM_log 12 A
  have ht := A.2.1
  have m88 := A.1.1.1
  have s0 : ∀ Q, zCall (d + (D + 2)) 861 [.ref 88, .int (nI t), .int 1, .int x] (wI (wI h 102 r 12) 88 24 (nI (r + 1))) Q = Q (some (.int (e x))) (aLogM l (r + 1) (wI (wI h 102 r 12) 88 24 (nI (r + 1)))) := fun Q => by rw [show d + (D + 2) = d + 1 + D + 1 by omega]; exact m_all hS d A1 (by omega) 1 rfl x Q
  have B0 := AM_logs l (A1)
  have o0 : ∀ Q, zCall (d + (D + 2)) 808 [.ref 88, .int (nI t), .int 1] (aLogM l (r + 1) (wI (wI h 102 r 12) 88 24 (nI (r + 1)))) Q = Q (some (.int v)) (aLogM l (r + 1) (wI (wI h 102 r 12) 88 24 (nI (r + 1)))) := fun Q => by
    have := c_one1 (d := d + (D + 1)) B0.1.1 B0.2.1 Q
    rw [B0.2.2.2.1] at this
    exact this
  have n0 := B0.1.1.1
  show _ = Q _ (aLogM l (r + 1) _)
  simp +decide only [Nat.reduceEqDiff, Nat.add_eq_left, Nat.left_eq_add, Nat.reduceAdd, Nat.reduceLeDiff, Nat.reduceMul, Nat.reduceSub, Nat.reduceLT, zlt8, zlt8_, zlt8n, zlt8n_, List.length_cons, List.length_nil, true_or, or_true, false_or, or_false, and_self, and_true, true_and, and_false, false_and, not_false_eq_true, not_true_eq_false, ite_true, ite_false, if_true, if_false, ite_not, zin, zpush_s, zpush_n, kl_int, kl_ref, kl_none, kl_kl, kl_long, kl_null, zT_wI, zT_wJ, zT_wR, zT_wIr, zT_wJr, zT_wRr, zI_wJ, zI_wR, zI_wJr, zI_wRr, zJ_wI, zJ_wR, zJ_wIr, zJ_wRr, zR_wI, zR_wJ, zR_wIr, zR_wJr, zN_wI, zN_wJ, zN_wR, zN_wIr, zN_wJr, zN_wRr, zZ_wI, zZ_wJ, zZ_wR, zZ_wIr, zZ_wJr, zZ_wRr, zI_wI, zJ_wJ, zR_wR, zI_wIr, zJ_wJr, zR_wRr, g862_53, g862_144, g862_146, g862_147, g862_148, g862_149, g862_150, g862_151, g862_152, g862_154, g862_157, g862_158, g862_159, g862_160, g862_163, g862_164, g862_165, g862_166, g862_167, g862_168, g862_170, g862_173, g862_174, g862_175, g862_176, g862_177, g862_179, g862_180, g862_181, g862_183, g862_186, g862_188, g862_189, g862_190, g862_191, g862_193, g862_194, g862_195, g862_197, g862_198, g862_199, g862_202, g862_203, g862_204, g862_206, g862_207, g862_208, g862_210, g862_213, g862_214, g862_215, g862_216, g862_217, g862_220, g862_221, g862_222, g862_223, g862_225, g862_226, g862_227, g862_229, g862_232, g862_233, g862_234, g862_235, g862_237, g862_238, g862_239, g862_241, g862_242, g862_243, g862_246, g862_247, g862_248, g862_250, g862_251, g862_252, g862_254, g862_255, g862_256, g862_259, g862_260, g862_261, g862_263, g862_264, g862_265, g862_267, g862_270, g862_271, g862_273, g862_274, g862_275, g862_276, g862_279, g862_280, g862_281, g862_282, g862_284, g862_285, g862_286, g862_288, g862_291, g862_292, g862_293, g862_294, g862_297, g862_298, m88, s0, o0, n0]

theorem rm_20 (hS : PM t kd v D 0 1 e l) : PMb t kd v (D + 2) 20 (0) (fun x => e x ^^^ 6) (20 :: l) := by
  intro d h r x f g g2 Q A h1
  simp only [List.length_cons, List.length_append] at h1
  have A1 := AM_log 20 A
  have ht := A.2.1
  have m88 := A.1.1.1
  have s0 : ∀ Q, zCall (d + (D + 2)) 862 [.ref 88, .int 0, .int (nI t), .int 1, .int x] (wI (wI h 102 r 20) 88 24 (nI (r + 1))) Q = Q (some (.int (e x))) (aLogM l (r + 1) (wI (wI h 102 r 20) 88 24 (nI (r + 1)))) := fun Q => by rw [show d + (D + 2) = d + 2 + D by omega]; exact hS (d + 2) _ (r + 1) x Q A1 (by omega)
  have B0 := AM_logs l (A1)
  have o0 : ∀ Q, zCall (d + (D + 2)) 808 [.ref 88, .int (nI t), .int 1] (aLogM l (r + 1) (wI (wI h 102 r 20) 88 24 (nI (r + 1)))) Q = Q (some (.int v)) (aLogM l (r + 1) (wI (wI h 102 r 20) 88 24 (nI (r + 1)))) := fun Q => by
    have := c_one1 (d := d + (D + 1)) B0.1.1 B0.2.1 Q
    rw [B0.2.2.2.1] at this
    exact this
  have n0 := B0.1.1.1
  show _ = Q _ (aLogM l (r + 1) _)
  simp +decide only [Nat.reduceEqDiff, Nat.add_eq_left, Nat.left_eq_add, Nat.reduceAdd, Nat.reduceLeDiff, Nat.reduceMul, Nat.reduceSub, Nat.reduceLT, zlt8, zlt8_, zlt8n, zlt8n_, List.length_cons, List.length_nil, true_or, or_true, false_or, or_false, and_self, and_true, true_and, and_false, false_and, not_false_eq_true, not_true_eq_false, ite_true, ite_false, if_true, if_false, ite_not, zin, zpush_s, zpush_n, kl_int, kl_ref, kl_none, kl_kl, kl_long, kl_null, zT_wI, zT_wJ, zT_wR, zT_wIr, zT_wJr, zT_wRr, zI_wJ, zI_wR, zI_wJr, zI_wRr, zJ_wI, zJ_wR, zJ_wIr, zJ_wRr, zR_wI, zR_wJ, zR_wIr, zR_wJr, zN_wI, zN_wJ, zN_wR, zN_wIr, zN_wJr, zN_wRr, zZ_wI, zZ_wJ, zZ_wR, zZ_wIr, zZ_wJr, zZ_wRr, zI_wI, zJ_wJ, zR_wR, zI_wIr, zJ_wJr, zR_wRr, g862_53, g862_144, g862_146, g862_147, g862_148, g862_149, g862_150, g862_151, g862_152, g862_154, g862_157, g862_158, g862_159, g862_160, g862_163, g862_164, g862_165, g862_166, g862_167, g862_168, g862_170, g862_173, g862_174, g862_175, g862_176, g862_177, g862_179, g862_180, g862_181, g862_183, g862_186, g862_188, g862_189, g862_190, g862_191, g862_193, g862_194, g862_195, g862_197, g862_198, g862_199, g862_202, g862_203, g862_204, g862_206, g862_207, g862_208, g862_210, g862_213, g862_214, g862_215, g862_216, g862_217, g862_220, g862_221, g862_222, g862_223, g862_225, g862_226, g862_227, g862_229, g862_232, g862_233, g862_234, g862_235, g862_237, g862_238, g862_239, g862_241, g862_242, g862_243, g862_246, g862_247, g862_248, g862_250, g862_251, g862_252, g862_254, g862_255, g862_256, g862_259, g862_260, g862_261, g862_263, g862_264, g862_265, g862_267, g862_270, g862_271, g862_273, g862_274, g862_275, g862_276, g862_279, g862_280, g862_281, g862_282, g862_284, g862_285, g862_286, g862_288, g862_291, g862_292, g862_293, g862_294, g862_297, g862_298, m88, s0, o0, n0]

theorem rm_30 (hS : PM t kd v D 0 0 e l) : PMb t kd v (D + 2) 30 (0) (fun x => e (x * 3)) (30 :: l) := by
  intro d h r x f g g2 Q A h1
  simp only [List.length_cons, List.length_append] at h1
  have A1 := AM_log 30 A
  have ht := A.2.1
  have m88 := A.1.1.1
  have s0 : ∀ Q, zCall (d + (D + 2)) 862 [.ref 88, .int 0, .int (nI t), .int 0, .int (x * 3)] (wI (wI h 102 r 30) 88 24 (nI (r + 1))) Q = Q (some (.int (e (x * 3)))) (aLogM l (r + 1) (wI (wI h 102 r 30) 88 24 (nI (r + 1)))) := fun Q => by rw [show d + (D + 2) = d + 2 + D by omega]; exact hS (d + 2) _ (r + 1) (x * 3) Q A1 (by omega)
  have B0 := AM_logs l (A1)
  have o0 : ∀ Q, zCall (d + (D + 2)) 808 [.ref 88, .int (nI t), .int 1] (aLogM l (r + 1) (wI (wI h 102 r 30) 88 24 (nI (r + 1)))) Q = Q (some (.int v)) (aLogM l (r + 1) (wI (wI h 102 r 30) 88 24 (nI (r + 1)))) := fun Q => by
    have := c_one1 (d := d + (D + 1)) B0.1.1 B0.2.1 Q
    rw [B0.2.2.2.1] at this
    exact this
  have n0 := B0.1.1.1
  show _ = Q _ (aLogM l (r + 1) _)
  simp +decide only [Nat.reduceEqDiff, Nat.add_eq_left, Nat.left_eq_add, Nat.reduceAdd, Nat.reduceLeDiff, Nat.reduceMul, Nat.reduceSub, Nat.reduceLT, zlt8, zlt8_, zlt8n, zlt8n_, List.length_cons, List.length_nil, true_or, or_true, false_or, or_false, and_self, and_true, true_and, and_false, false_and, not_false_eq_true, not_true_eq_false, ite_true, ite_false, if_true, if_false, ite_not, zin, zpush_s, zpush_n, kl_int, kl_ref, kl_none, kl_kl, kl_long, kl_null, zT_wI, zT_wJ, zT_wR, zT_wIr, zT_wJr, zT_wRr, zI_wJ, zI_wR, zI_wJr, zI_wRr, zJ_wI, zJ_wR, zJ_wIr, zJ_wRr, zR_wI, zR_wJ, zR_wIr, zR_wJr, zN_wI, zN_wJ, zN_wR, zN_wIr, zN_wJr, zN_wRr, zZ_wI, zZ_wJ, zZ_wR, zZ_wIr, zZ_wJr, zZ_wRr, zI_wI, zJ_wJ, zR_wR, zI_wIr, zJ_wJr, zR_wRr, g862_53, g862_144, g862_146, g862_147, g862_148, g862_149, g862_150, g862_151, g862_152, g862_154, g862_157, g862_158, g862_159, g862_160, g862_163, g862_164, g862_165, g862_166, g862_167, g862_168, g862_170, g862_173, g862_174, g862_175, g862_176, g862_177, g862_179, g862_180, g862_181, g862_183, g862_186, g862_188, g862_189, g862_190, g862_191, g862_193, g862_194, g862_195, g862_197, g862_198, g862_199, g862_202, g862_203, g862_204, g862_206, g862_207, g862_208, g862_210, g862_213, g862_214, g862_215, g862_216, g862_217, g862_220, g862_221, g862_222, g862_223, g862_225, g862_226, g862_227, g862_229, g862_232, g862_233, g862_234, g862_235, g862_237, g862_238, g862_239, g862_241, g862_242, g862_243, g862_246, g862_247, g862_248, g862_250, g862_251, g862_252, g862_254, g862_255, g862_256, g862_259, g862_260, g862_261, g862_263, g862_264, g862_265, g862_267, g862_270, g862_271, g862_273, g862_274, g862_275, g862_276, g862_279, g862_280, g862_281, g862_282, g862_284, g862_285, g862_286, g862_288, g862_291, g862_292, g862_293, g862_294, g862_297, g862_298, m88, s0, o0, n0]

theorem rm_40 (hS : PM t kd v D 0 2 e1 l1) (hT : PM t kd v D kd 1 e2 l2) : PMb t kd v (D + 2) 40 (0) (fun x => e1 x + e2 1) (40 :: (l1 ++ l2)) := by
  intro d h r x f g g2 Q A h1
  simp only [List.length_cons, List.length_append] at h1
  have A1 := AM_log 40 A
  have ht := A.2.1
  have m88 := A.1.1.1
  have s0 : ∀ Q, zCall (d + (D + 2)) 862 [.ref 88, .int 0, .int (nI t), .int 2, .int x] (wI (wI h 102 r 40) 88 24 (nI (r + 1))) Q = Q (some (.int (e1 x))) (aLogM l1 (r + 1) (wI (wI h 102 r 40) 88 24 (nI (r + 1)))) := fun Q => by rw [show d + (D + 2) = d + 2 + D by omega]; exact hS (d + 2) _ (r + 1) x Q A1 (by omega)
  have B0 := AM_logs l1 (A1)
  have o0 : ∀ Q, zCall (d + (D + 2)) 808 [.ref 88, .int (nI t), .int 1] (aLogM l1 (r + 1) (wI (wI h 102 r 40) 88 24 (nI (r + 1)))) Q = Q (some (.int v)) (aLogM l1 (r + 1) (wI (wI h 102 r 40) 88 24 (nI (r + 1)))) := fun Q => by
    have := c_one1 (d := d + (D + 1)) B0.1.1 B0.2.1 Q
    rw [B0.2.2.2.1] at this
    exact this
  have n0 := B0.1.1.1
  have s1 : ∀ Q, zCall (d + (D + 2)) 861 [.ref 88, .int (nI t), .int 1, .int 1] (aLogM l1 (r + 1) (wI (wI h 102 r 40) 88 24 (nI (r + 1)))) Q = Q (some (.int (e2 1))) (aLogM l2 ((r + 1) + l1.length) (aLogM l1 (r + 1) (wI (wI h 102 r 40) 88 24 (nI (r + 1))))) := fun Q => by rw [show d + (D + 2) = d + 1 + D + 1 by omega]; exact m_all hT d B0 (by omega) 1 rfl 1 Q
  have B1 := AM_logs l2 (B0)
  have o1 : ∀ Q, zCall (d + (D + 2)) 808 [.ref 88, .int (nI t), .int 1] (aLogM l2 ((r + 1) + l1.length) (aLogM l1 (r + 1) (wI (wI h 102 r 40) 88 24 (nI (r + 1))))) Q = Q (some (.int v)) (aLogM l2 ((r + 1) + l1.length) (aLogM l1 (r + 1) (wI (wI h 102 r 40) 88 24 (nI (r + 1))))) := fun Q => by
    have := c_one1 (d := d + (D + 1)) B1.1.1 B1.2.1 Q
    rw [B1.2.2.2.1] at this
    exact this
  have n1 := B1.1.1.1
  show _ = Q _ (aLogM (l1 ++ l2) (r + 1) _)
  rw [aLogM_app]
  simp +decide only [Nat.reduceEqDiff, Nat.add_eq_left, Nat.left_eq_add, Nat.reduceAdd, Nat.reduceLeDiff, Nat.reduceMul, Nat.reduceSub, Nat.reduceLT, zlt8, zlt8_, zlt8n, zlt8n_, List.length_cons, List.length_nil, true_or, or_true, false_or, or_false, and_self, and_true, true_and, and_false, false_and, not_false_eq_true, not_true_eq_false, ite_true, ite_false, if_true, if_false, ite_not, zin, zpush_s, zpush_n, kl_int, kl_ref, kl_none, kl_kl, kl_long, kl_null, zT_wI, zT_wJ, zT_wR, zT_wIr, zT_wJr, zT_wRr, zI_wJ, zI_wR, zI_wJr, zI_wRr, zJ_wI, zJ_wR, zJ_wIr, zJ_wRr, zR_wI, zR_wJ, zR_wIr, zR_wJr, zN_wI, zN_wJ, zN_wR, zN_wIr, zN_wJr, zN_wRr, zZ_wI, zZ_wJ, zZ_wR, zZ_wIr, zZ_wJr, zZ_wRr, zI_wI, zJ_wJ, zR_wR, zI_wIr, zJ_wJr, zR_wRr, g862_53, g862_144, g862_146, g862_147, g862_148, g862_149, g862_150, g862_151, g862_152, g862_154, g862_157, g862_158, g862_159, g862_160, g862_163, g862_164, g862_165, g862_166, g862_167, g862_168, g862_170, g862_173, g862_174, g862_175, g862_176, g862_177, g862_179, g862_180, g862_181, g862_183, g862_186, g862_188, g862_189, g862_190, g862_191, g862_193, g862_194, g862_195, g862_197, g862_198, g862_199, g862_202, g862_203, g862_204, g862_206, g862_207, g862_208, g862_210, g862_213, g862_214, g862_215, g862_216, g862_217, g862_220, g862_221, g862_222, g862_223, g862_225, g862_226, g862_227, g862_229, g862_232, g862_233, g862_234, g862_235, g862_237, g862_238, g862_239, g862_241, g862_242, g862_243, g862_246, g862_247, g862_248, g862_250, g862_251, g862_252, g862_254, g862_255, g862_256, g862_259, g862_260, g862_261, g862_263, g862_264, g862_265, g862_267, g862_270, g862_271, g862_273, g862_274, g862_275, g862_276, g862_279, g862_280, g862_281, g862_282, g862_284, g862_285, g862_286, g862_288, g862_291, g862_292, g862_293, g862_294, g862_297, g862_298, m88, s0, o0, n0, s1, o1, n1]

theorem rm_50 (hS : PM t kd v D 1 0 e l) : PMb t kd v (D + 2) 50 (1) (fun x => -(e x)) (50 :: l) := by
  intro d h r x f g g2 Q A h1
  simp only [List.length_cons, List.length_append] at h1
  have A1 := AM_log 50 A
  have ht := A.2.1
  have m88 := A.1.1.1
  have s0 : ∀ Q, zCall (d + (D + 2)) 862 [.ref 88, .int 1, .int (nI t), .int 0, .int x] (wI (wI h 102 r 50) 88 24 (nI (r + 1))) Q = Q (some (.int (e x))) (aLogM l (r + 1) (wI (wI h 102 r 50) 88 24 (nI (r + 1)))) := fun Q => by rw [show d + (D + 2) = d + 2 + D by omega]; exact hS (d + 2) _ (r + 1) x Q A1 (by omega)
  have B0 := AM_logs l (A1)
  have o0 : ∀ Q, zCall (d + (D + 2)) 808 [.ref 88, .int (nI t), .int 1] (aLogM l (r + 1) (wI (wI h 102 r 50) 88 24 (nI (r + 1)))) Q = Q (some (.int v)) (aLogM l (r + 1) (wI (wI h 102 r 50) 88 24 (nI (r + 1)))) := fun Q => by
    have := c_one1 (d := d + (D + 1)) B0.1.1 B0.2.1 Q
    rw [B0.2.2.2.1] at this
    exact this
  have n0 := B0.1.1.1
  show _ = Q _ (aLogM l (r + 1) _)
  simp +decide only [Nat.reduceEqDiff, Nat.add_eq_left, Nat.left_eq_add, Nat.reduceAdd, Nat.reduceLeDiff, Nat.reduceMul, Nat.reduceSub, Nat.reduceLT, zlt8, zlt8_, zlt8n, zlt8n_, List.length_cons, List.length_nil, true_or, or_true, false_or, or_false, and_self, and_true, true_and, and_false, false_and, not_false_eq_true, not_true_eq_false, ite_true, ite_false, if_true, if_false, ite_not, zin, zpush_s, zpush_n, kl_int, kl_ref, kl_none, kl_kl, kl_long, kl_null, zT_wI, zT_wJ, zT_wR, zT_wIr, zT_wJr, zT_wRr, zI_wJ, zI_wR, zI_wJr, zI_wRr, zJ_wI, zJ_wR, zJ_wIr, zJ_wRr, zR_wI, zR_wJ, zR_wIr, zR_wJr, zN_wI, zN_wJ, zN_wR, zN_wIr, zN_wJr, zN_wRr, zZ_wI, zZ_wJ, zZ_wR, zZ_wIr, zZ_wJr, zZ_wRr, zI_wI, zJ_wJ, zR_wR, zI_wIr, zJ_wJr, zR_wRr, g862_53, g862_144, g862_146, g862_147, g862_148, g862_149, g862_150, g862_151, g862_152, g862_154, g862_157, g862_158, g862_159, g862_160, g862_163, g862_164, g862_165, g862_166, g862_167, g862_168, g862_170, g862_173, g862_174, g862_175, g862_176, g862_177, g862_179, g862_180, g862_181, g862_183, g862_186, g862_188, g862_189, g862_190, g862_191, g862_193, g862_194, g862_195, g862_197, g862_198, g862_199, g862_202, g862_203, g862_204, g862_206, g862_207, g862_208, g862_210, g862_213, g862_214, g862_215, g862_216, g862_217, g862_220, g862_221, g862_222, g862_223, g862_225, g862_226, g862_227, g862_229, g862_232, g862_233, g862_234, g862_235, g862_237, g862_238, g862_239, g862_241, g862_242, g862_243, g862_246, g862_247, g862_248, g862_250, g862_251, g862_252, g862_254, g862_255, g862_256, g862_259, g862_260, g862_261, g862_263, g862_264, g862_265, g862_267, g862_270, g862_271, g862_273, g862_274, g862_275, g862_276, g862_279, g862_280, g862_281, g862_282, g862_284, g862_285, g862_286, g862_288, g862_291, g862_292, g862_293, g862_294, g862_297, g862_298, m88, s0, o0, n0]

theorem rm_51 (hS : PM t kd v D 1 1 e l) : PMb t kd v (D + 2) 51 (1) (fun x => e (x + 1)) (51 :: l) := by
  intro d h r x f g g2 Q A h1
  simp only [List.length_cons, List.length_append] at h1
  have A1 := AM_log 51 A
  have ht := A.2.1
  have m88 := A.1.1.1
  have s0 : ∀ Q, zCall (d + (D + 2)) 862 [.ref 88, .int 1, .int (nI t), .int 1, .int (x + 1)] (wI (wI h 102 r 51) 88 24 (nI (r + 1))) Q = Q (some (.int (e (x + 1)))) (aLogM l (r + 1) (wI (wI h 102 r 51) 88 24 (nI (r + 1)))) := fun Q => by rw [show d + (D + 2) = d + 2 + D by omega]; exact hS (d + 2) _ (r + 1) (x + 1) Q A1 (by omega)
  have B0 := AM_logs l (A1)
  have o0 : ∀ Q, zCall (d + (D + 2)) 808 [.ref 88, .int (nI t), .int 1] (aLogM l (r + 1) (wI (wI h 102 r 51) 88 24 (nI (r + 1)))) Q = Q (some (.int v)) (aLogM l (r + 1) (wI (wI h 102 r 51) 88 24 (nI (r + 1)))) := fun Q => by
    have := c_one1 (d := d + (D + 1)) B0.1.1 B0.2.1 Q
    rw [B0.2.2.2.1] at this
    exact this
  have n0 := B0.1.1.1
  show _ = Q _ (aLogM l (r + 1) _)
  simp +decide only [Nat.reduceEqDiff, Nat.add_eq_left, Nat.left_eq_add, Nat.reduceAdd, Nat.reduceLeDiff, Nat.reduceMul, Nat.reduceSub, Nat.reduceLT, zlt8, zlt8_, zlt8n, zlt8n_, List.length_cons, List.length_nil, true_or, or_true, false_or, or_false, and_self, and_true, true_and, and_false, false_and, not_false_eq_true, not_true_eq_false, ite_true, ite_false, if_true, if_false, ite_not, zin, zpush_s, zpush_n, kl_int, kl_ref, kl_none, kl_kl, kl_long, kl_null, zT_wI, zT_wJ, zT_wR, zT_wIr, zT_wJr, zT_wRr, zI_wJ, zI_wR, zI_wJr, zI_wRr, zJ_wI, zJ_wR, zJ_wIr, zJ_wRr, zR_wI, zR_wJ, zR_wIr, zR_wJr, zN_wI, zN_wJ, zN_wR, zN_wIr, zN_wJr, zN_wRr, zZ_wI, zZ_wJ, zZ_wR, zZ_wIr, zZ_wJr, zZ_wRr, zI_wI, zJ_wJ, zR_wR, zI_wIr, zJ_wJr, zR_wRr, g862_53, g862_144, g862_146, g862_147, g862_148, g862_149, g862_150, g862_151, g862_152, g862_154, g862_157, g862_158, g862_159, g862_160, g862_163, g862_164, g862_165, g862_166, g862_167, g862_168, g862_170, g862_173, g862_174, g862_175, g862_176, g862_177, g862_179, g862_180, g862_181, g862_183, g862_186, g862_188, g862_189, g862_190, g862_191, g862_193, g862_194, g862_195, g862_197, g862_198, g862_199, g862_202, g862_203, g862_204, g862_206, g862_207, g862_208, g862_210, g862_213, g862_214, g862_215, g862_216, g862_217, g862_220, g862_221, g862_222, g862_223, g862_225, g862_226, g862_227, g862_229, g862_232, g862_233, g862_234, g862_235, g862_237, g862_238, g862_239, g862_241, g862_242, g862_243, g862_246, g862_247, g862_248, g862_250, g862_251, g862_252, g862_254, g862_255, g862_256, g862_259, g862_260, g862_261, g862_263, g862_264, g862_265, g862_267, g862_270, g862_271, g862_273, g862_274, g862_275, g862_276, g862_279, g862_280, g862_281, g862_282, g862_284, g862_285, g862_286, g862_288, g862_291, g862_292, g862_293, g862_294, g862_297, g862_298, m88, s0, o0, n0]

theorem rm_60 (hS : PM t kd v D 2 2 e l) : PMb t kd v (D + 2) 60 (2) (fun x => e (x - nI t)) (60 :: l) := by
  intro d h r x f g g2 Q A h1
  simp only [List.length_cons, List.length_append] at h1
  have A1 := AM_log 60 A
  have ht := A.2.1
  have m88 := A.1.1.1
  have s0 : ∀ Q, zCall (d + (D + 2)) 862 [.ref 88, .int 2, .int (nI t), .int 2, .int (x - nI t)] (wI (wI h 102 r 60) 88 24 (nI (r + 1))) Q = Q (some (.int (e (x - nI t)))) (aLogM l (r + 1) (wI (wI h 102 r 60) 88 24 (nI (r + 1)))) := fun Q => by rw [show d + (D + 2) = d + 2 + D by omega]; exact hS (d + 2) _ (r + 1) (x - nI t) Q A1 (by omega)
  have B0 := AM_logs l (A1)
  have o0 : ∀ Q, zCall (d + (D + 2)) 808 [.ref 88, .int (nI t), .int 1] (aLogM l (r + 1) (wI (wI h 102 r 60) 88 24 (nI (r + 1)))) Q = Q (some (.int v)) (aLogM l (r + 1) (wI (wI h 102 r 60) 88 24 (nI (r + 1)))) := fun Q => by
    have := c_one1 (d := d + (D + 1)) B0.1.1 B0.2.1 Q
    rw [B0.2.2.2.1] at this
    exact this
  have n0 := B0.1.1.1
  show _ = Q _ (aLogM l (r + 1) _)
  simp +decide only [Nat.reduceEqDiff, Nat.add_eq_left, Nat.left_eq_add, Nat.reduceAdd, Nat.reduceLeDiff, Nat.reduceMul, Nat.reduceSub, Nat.reduceLT, zlt8, zlt8_, zlt8n, zlt8n_, List.length_cons, List.length_nil, true_or, or_true, false_or, or_false, and_self, and_true, true_and, and_false, false_and, not_false_eq_true, not_true_eq_false, ite_true, ite_false, if_true, if_false, ite_not, zin, zpush_s, zpush_n, kl_int, kl_ref, kl_none, kl_kl, kl_long, kl_null, zT_wI, zT_wJ, zT_wR, zT_wIr, zT_wJr, zT_wRr, zI_wJ, zI_wR, zI_wJr, zI_wRr, zJ_wI, zJ_wR, zJ_wIr, zJ_wRr, zR_wI, zR_wJ, zR_wIr, zR_wJr, zN_wI, zN_wJ, zN_wR, zN_wIr, zN_wJr, zN_wRr, zZ_wI, zZ_wJ, zZ_wR, zZ_wIr, zZ_wJr, zZ_wRr, zI_wI, zJ_wJ, zR_wR, zI_wIr, zJ_wJr, zR_wRr, g862_53, g862_144, g862_146, g862_147, g862_148, g862_149, g862_150, g862_151, g862_152, g862_154, g862_157, g862_158, g862_159, g862_160, g862_163, g862_164, g862_165, g862_166, g862_167, g862_168, g862_170, g862_173, g862_174, g862_175, g862_176, g862_177, g862_179, g862_180, g862_181, g862_183, g862_186, g862_188, g862_189, g862_190, g862_191, g862_193, g862_194, g862_195, g862_197, g862_198, g862_199, g862_202, g862_203, g862_204, g862_206, g862_207, g862_208, g862_210, g862_213, g862_214, g862_215, g862_216, g862_217, g862_220, g862_221, g862_222, g862_223, g862_225, g862_226, g862_227, g862_229, g862_232, g862_233, g862_234, g862_235, g862_237, g862_238, g862_239, g862_241, g862_242, g862_243, g862_246, g862_247, g862_248, g862_250, g862_251, g862_252, g862_254, g862_255, g862_256, g862_259, g862_260, g862_261, g862_263, g862_264, g862_265, g862_267, g862_270, g862_271, g862_273, g862_274, g862_275, g862_276, g862_279, g862_280, g862_281, g862_282, g862_284, g862_285, g862_286, g862_288, g862_291, g862_292, g862_293, g862_294, g862_297, g862_298, m88, s0, o0, n0]

theorem rm_70 (hS : PM t kd v D 3 1 e1 l1) (hT : PM t kd v D 3 0 e2 l2) : PMb t kd v (D + 2) 70 (3) (fun x => e1 x + e2 2) (70 :: (l1 ++ l2)) := by
  intro d h r x f g g2 Q A h1
  simp only [List.length_cons, List.length_append] at h1
  have A1 := AM_log 70 A
  have ht := A.2.1
  have m88 := A.1.1.1
  have s0 : ∀ Q, zCall (d + (D + 2)) 862 [.ref 88, .int 3, .int (nI t), .int 1, .int x] (wI (wI h 102 r 70) 88 24 (nI (r + 1))) Q = Q (some (.int (e1 x))) (aLogM l1 (r + 1) (wI (wI h 102 r 70) 88 24 (nI (r + 1)))) := fun Q => by rw [show d + (D + 2) = d + 2 + D by omega]; exact hS (d + 2) _ (r + 1) x Q A1 (by omega)
  have B0 := AM_logs l1 (A1)
  have o0 : ∀ Q, zCall (d + (D + 2)) 808 [.ref 88, .int (nI t), .int 1] (aLogM l1 (r + 1) (wI (wI h 102 r 70) 88 24 (nI (r + 1)))) Q = Q (some (.int v)) (aLogM l1 (r + 1) (wI (wI h 102 r 70) 88 24 (nI (r + 1)))) := fun Q => by
    have := c_one1 (d := d + (D + 1)) B0.1.1 B0.2.1 Q
    rw [B0.2.2.2.1] at this
    exact this
  have n0 := B0.1.1.1
  have s1 : ∀ Q, zCall (d + (D + 2)) 862 [.ref 88, .int 3, .int (nI t), .int 0, .int 2] (aLogM l1 (r + 1) (wI (wI h 102 r 70) 88 24 (nI (r + 1)))) Q = Q (some (.int (e2 2))) (aLogM l2 ((r + 1) + l1.length) (aLogM l1 (r + 1) (wI (wI h 102 r 70) 88 24 (nI (r + 1))))) := fun Q => by rw [show d + (D + 2) = d + 2 + D by omega]; exact hT (d + 2) _ ((r + 1) + l1.length) 2 Q B0 (by omega)
  have B1 := AM_logs l2 (B0)
  have o1 : ∀ Q, zCall (d + (D + 2)) 808 [.ref 88, .int (nI t), .int 1] (aLogM l2 ((r + 1) + l1.length) (aLogM l1 (r + 1) (wI (wI h 102 r 70) 88 24 (nI (r + 1))))) Q = Q (some (.int v)) (aLogM l2 ((r + 1) + l1.length) (aLogM l1 (r + 1) (wI (wI h 102 r 70) 88 24 (nI (r + 1))))) := fun Q => by
    have := c_one1 (d := d + (D + 1)) B1.1.1 B1.2.1 Q
    rw [B1.2.2.2.1] at this
    exact this
  have n1 := B1.1.1.1
  show _ = Q _ (aLogM (l1 ++ l2) (r + 1) _)
  rw [aLogM_app]
  simp +decide only [Nat.reduceEqDiff, Nat.add_eq_left, Nat.left_eq_add, Nat.reduceAdd, Nat.reduceLeDiff, Nat.reduceMul, Nat.reduceSub, Nat.reduceLT, zlt8, zlt8_, zlt8n, zlt8n_, List.length_cons, List.length_nil, true_or, or_true, false_or, or_false, and_self, and_true, true_and, and_false, false_and, not_false_eq_true, not_true_eq_false, ite_true, ite_false, if_true, if_false, ite_not, zin, zpush_s, zpush_n, kl_int, kl_ref, kl_none, kl_kl, kl_long, kl_null, zT_wI, zT_wJ, zT_wR, zT_wIr, zT_wJr, zT_wRr, zI_wJ, zI_wR, zI_wJr, zI_wRr, zJ_wI, zJ_wR, zJ_wIr, zJ_wRr, zR_wI, zR_wJ, zR_wIr, zR_wJr, zN_wI, zN_wJ, zN_wR, zN_wIr, zN_wJr, zN_wRr, zZ_wI, zZ_wJ, zZ_wR, zZ_wIr, zZ_wJr, zZ_wRr, zI_wI, zJ_wJ, zR_wR, zI_wIr, zJ_wJr, zR_wRr, g862_53, g862_144, g862_146, g862_147, g862_148, g862_149, g862_150, g862_151, g862_152, g862_154, g862_157, g862_158, g862_159, g862_160, g862_163, g862_164, g862_165, g862_166, g862_167, g862_168, g862_170, g862_173, g862_174, g862_175, g862_176, g862_177, g862_179, g862_180, g862_181, g862_183, g862_186, g862_188, g862_189, g862_190, g862_191, g862_193, g862_194, g862_195, g862_197, g862_198, g862_199, g862_202, g862_203, g862_204, g862_206, g862_207, g862_208, g862_210, g862_213, g862_214, g862_215, g862_216, g862_217, g862_220, g862_221, g862_222, g862_223, g862_225, g862_226, g862_227, g862_229, g862_232, g862_233, g862_234, g862_235, g862_237, g862_238, g862_239, g862_241, g862_242, g862_243, g862_246, g862_247, g862_248, g862_250, g862_251, g862_252, g862_254, g862_255, g862_256, g862_259, g862_260, g862_261, g862_263, g862_264, g862_265, g862_267, g862_270, g862_271, g862_273, g862_274, g862_275, g862_276, g862_279, g862_280, g862_281, g862_282, g862_284, g862_285, g862_286, g862_288, g862_291, g862_292, g862_293, g862_294, g862_297, g862_298, m88, s0, o0, n0, s1, o1, n1]

theorem rm_71 (hS : PM t kd v D 3 0 e l) : PMb t kd v (D + 2) 71 (3) (fun x => e x ^^^ v) (71 :: l) := by
  intro d h r x f g g2 Q A h1
  simp only [List.length_cons, List.length_append] at h1
  have A1 := AM_log 71 A
  have ht := A.2.1
  have m88 := A.1.1.1
  have s0 : ∀ Q, zCall (d + (D + 2)) 862 [.ref 88, .int 3, .int (nI t), .int 0, .int x] (wI (wI h 102 r 71) 88 24 (nI (r + 1))) Q = Q (some (.int (e x))) (aLogM l (r + 1) (wI (wI h 102 r 71) 88 24 (nI (r + 1)))) := fun Q => by rw [show d + (D + 2) = d + 2 + D by omega]; exact hS (d + 2) _ (r + 1) x Q A1 (by omega)
  have B0 := AM_logs l (A1)
  have o0 : ∀ Q, zCall (d + (D + 2)) 808 [.ref 88, .int (nI t), .int 1] (aLogM l (r + 1) (wI (wI h 102 r 71) 88 24 (nI (r + 1)))) Q = Q (some (.int v)) (aLogM l (r + 1) (wI (wI h 102 r 71) 88 24 (nI (r + 1)))) := fun Q => by
    have := c_one1 (d := d + (D + 1)) B0.1.1 B0.2.1 Q
    rw [B0.2.2.2.1] at this
    exact this
  have n0 := B0.1.1.1
  show _ = Q _ (aLogM l (r + 1) _)
  simp +decide only [Nat.reduceEqDiff, Nat.add_eq_left, Nat.left_eq_add, Nat.reduceAdd, Nat.reduceLeDiff, Nat.reduceMul, Nat.reduceSub, Nat.reduceLT, zlt8, zlt8_, zlt8n, zlt8n_, List.length_cons, List.length_nil, true_or, or_true, false_or, or_false, and_self, and_true, true_and, and_false, false_and, not_false_eq_true, not_true_eq_false, ite_true, ite_false, if_true, if_false, ite_not, zin, zpush_s, zpush_n, kl_int, kl_ref, kl_none, kl_kl, kl_long, kl_null, zT_wI, zT_wJ, zT_wR, zT_wIr, zT_wJr, zT_wRr, zI_wJ, zI_wR, zI_wJr, zI_wRr, zJ_wI, zJ_wR, zJ_wIr, zJ_wRr, zR_wI, zR_wJ, zR_wIr, zR_wJr, zN_wI, zN_wJ, zN_wR, zN_wIr, zN_wJr, zN_wRr, zZ_wI, zZ_wJ, zZ_wR, zZ_wIr, zZ_wJr, zZ_wRr, zI_wI, zJ_wJ, zR_wR, zI_wIr, zJ_wJr, zR_wRr, g862_53, g862_144, g862_146, g862_147, g862_148, g862_149, g862_150, g862_151, g862_152, g862_154, g862_157, g862_158, g862_159, g862_160, g862_163, g862_164, g862_165, g862_166, g862_167, g862_168, g862_170, g862_173, g862_174, g862_175, g862_176, g862_177, g862_179, g862_180, g862_181, g862_183, g862_186, g862_188, g862_189, g862_190, g862_191, g862_193, g862_194, g862_195, g862_197, g862_198, g862_199, g862_202, g862_203, g862_204, g862_206, g862_207, g862_208, g862_210, g862_213, g862_214, g862_215, g862_216, g862_217, g862_220, g862_221, g862_222, g862_223, g862_225, g862_226, g862_227, g862_229, g862_232, g862_233, g862_234, g862_235, g862_237, g862_238, g862_239, g862_241, g862_242, g862_243, g862_246, g862_247, g862_248, g862_250, g862_251, g862_252, g862_254, g862_255, g862_256, g862_259, g862_260, g862_261, g862_263, g862_264, g862_265, g862_267, g862_270, g862_271, g862_273, g862_274, g862_275, g862_276, g862_279, g862_280, g862_281, g862_282, g862_284, g862_285, g862_286, g862_288, g862_291, g862_292, g862_293, g862_294, g862_297, g862_298, m88, s0, o0, n0]

