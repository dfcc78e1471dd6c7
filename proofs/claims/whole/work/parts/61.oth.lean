-- needs 60.mut5
variable {n D D2 q L c1 c2 c3 a b t s r d K k kd i j ln c m M : Nat} {h h1 h2 : zH} {w w1 : zW0} {sv : Value} {xs : zW0} {py fp fo x y z u v : Int32} {ex : zW0 → Int32}
theorem GM_f {S : Nat → Nat → Prop} (hS : ∀ b k, S b k → ¬ (1 ≤ b ∧ b < 15) ∧ ¬ (43 ≤ b ∧ b < 56) ∧ ¬ b = 89 ∧ ¬ (b = 88 ∧ k = 4)) (f : FS S h h1) (gm : GM h q n D w c1 c2 c3 sv) : GM h1 q n D w c1 c2 c3 sv := by
  obtain ⟨m1, m2, m3, m4, m5, m6⟩ := gm
  exact ⟨by rw [← m1]; exact funext fun k => f.2.2.2.2.1 _ _ (fun z => (hS _ _ z).2.2.1 rfl), Rv_f (S := fun b k => S b k ∧ ¬ (1 ≤ b ∧ b < 15)) (fun c k z => by omega) (FS_m (fun b k z => ⟨z, (hS b k z).1⟩) f) m4.1.2.1 m2, NR_f f (fun c k h1 h2 z => by have := hS _ _ z; omega) (fun _ _ => rfl) m3, m4, m5, by rw [f.2.2.2.2.1 _ _ (fun z => (hS _ _ z).2.2.2 ⟨rfl, rfl⟩)]; exact m6⟩
/-! acts -/
theorem aLog_f : ∀ (l : List Int32) (r : Nat) (h : zH), FS (fun b k => (b = 73 ∧ 1 ≤ k) ∨ b = 74) h (aLog l r h)
  | [], r, h => FS_r _ _
  | b :: l, r, h => FS_t (FS_t (FS_I _ (by omega)) (FS_I _ (by omega))) (aLog_f l (r + 1) _)
theorem aLogM_f : ∀ (l : List Int32) (r : Nat) (h : zH), FS (fun b k => b = 102 ∨ (b = 88 ∧ k = 24)) h (aLogM l r h)
  | [], r, h => FS_r _ _
  | b :: l, r, h => FS_t (FS_t (FS_I _ (by omega)) (FS_I _ (by omega))) (aLogM_f l (r + 1) _)
theorem aLog_o : ∀ (l : List Int32) (r : Nat) (h : zH) (j : Nat), j < r → zI (aLog l r h) 74 j = zI h 74 j
  | [], r, h, j, hj => rfl
  | b :: l, r, h, j, hj => by
    show zI (aLog l (r + 1) _) 74 j = _
    rw [aLog_o l (r + 1) _ j (by omega), zI_wI, if_neg (by omega), zI_wI, if_pos rfl, up_n _ _ (by omega)]
theorem aLogM_o : ∀ (l : List Int32) (r : Nat) (h : zH) (j : Nat), j < r → zI (aLogM l r h) 102 j = zI h 102 j
  | [], r, h, j, hj => rfl
  | b :: l, r, h, j, hj => by
    show zI (aLogM l (r + 1) _) 102 j = _
    rw [aLogM_o l (r + 1) _ j (by omega), zI_wI, if_neg (by omega), zI_wI, if_pos rfl, up_n _ _ (by omega)]
theorem aLog_v : ∀ (l : List Int32) (r : Nat) (h : zH) (k : Nat), k < l.length → zI (aLog l r h) 74 (r + k) = l.getD k 0
  | [], r, h, k, hk => by simp at hk
  | b :: l, r, h, 0, hk => by
    show zI (aLog l (r + 1) _) 74 (r + 0) = b
    rw [aLog_o l (r + 1) _ _ (by omega), zI_wI, if_neg (by omega), zI_wI, if_pos rfl, Nat.add_zero, up_s]
  | b :: l, r, h, k + 1, hk => by
    show zI (aLog l (r + 1) _) 74 (r + (k + 1)) = l.getD k 0
    rw [show r + (k + 1) = r + 1 + k by omega]
    exact aLog_v l (r + 1) _ k (by simp at hk; omega)
theorem aLogM_v : ∀ (l : List Int32) (r : Nat) (h : zH) (k : Nat), k < l.length → zI (aLogM l r h) 102 (r + k) = l.getD k 0
  | [], r, h, k, hk => by simp at hk
  | b :: l, r, h, 0, hk => by
    show zI (aLogM l (r + 1) _) 102 (r + 0) = b
    rw [aLogM_o l (r + 1) _ _ (by omega), zI_wI, if_neg (by omega), zI_wI, if_pos rfl, Nat.add_zero, up_s]
  | b :: l, r, h, k + 1, hk => by
    show zI (aLogM l (r + 1) _) 102 (r + (k + 1)) = l.getD k 0
    rw [show r + (k + 1) = r + 1 + k by omega]
    exact aLogM_v l (r + 1) _ k (by simp at hk; omega)
def SAc (b k : Nat) : Prop := (b = 73 ∧ 1 ≤ k) ∨ b = 74 ∨ b = 102 ∨ (b = 88 ∧ k = 24)
theorem G_act (go : GO h xs L q) (gm : GM h q n D w c1 c2 c3 sv) (f : FS SAc h h2) (ga : GAct h2) : GI h2 xs L := by
  obtain ⟨g1, g2, g3, g4, g5, g6, g7, g8⟩ := go
  have q6 := g2.1
  exact ⟨q, n, D, w, c1, c2, c3, sv, ⟨GZ_f (fun b k z => by unfold SAc at z; unfold NZ SM; omega) f g1, GN_f (fun b k z => by unfold SAc at z; omega) f g2, GD_f (fun b k z => by unfold SAc at z; have := sA_n q6; omega) f g3, fun r hr => Sn_f (fun b k z => by unfold SAc at z; have := sA_n (r := r) (by omega); omega) f (g4 r hr), GImg_f (fun b k z => by unfold SAc at z; omega) f g5, GX_f (fun b k z => by unfold SAc at z; omega) f g6, ga, GTp_f (fun b k z => by unfold SAc at z; omega) f g8⟩, GM_f (fun b k z => by unfold SAc at z; omega) f gm⟩
theorem P_act (g : GI h xs L) (x y z : Int32) : Pr h xs L 735 863 [.int x, .int y, .int z] := by
  have g0 := g
  obtain ⟨q, n, D, w, c1, c2, c3, sv, go, gm⟩ := g
  obtain ⟨py, ex, se, tx⟩ := SV_of go gm.2.2.2.2.1
  have hn := gm.2.2.2.1.1.2.1
  have ok := gm.2.2.2.1.1
  obtain ⟨t1, t2, t3, t4, t5, t6', t7, t8⟩ := go.1.2.2.2.2.2.2.2.2.2
  have f0 : FS SAc h (wI h 73 1 0) := FS_I _ (by unfold SAc; omega)
  have f0m : FS SAc (wI h 73 1 0) (wI (wI h 73 1 0) 88 24 0) := FS_I _ (by unfold SAc; omega)
  have hS1 : RS (wI h 73 1 0) 1 := go.1.2.1
  have hv1 : Rv (wI h 73 1 0) 1 n w (-1) sv := Rv_f (S := SAc) (fun c k z => by unfold SAc at z; omega) f0 hn gm.2.1
  have T1 : TS (wI h 73 1 0) := go.1.1
  have ct : ∀ x Q, zCall 59 743 [.ref 0, .int x] (wI h 73 1 0) Q = Q (some (.int (bI (sIs n x)))) (wI h 73 1 0) := fun x Q => c_isThere T1.1 T1.2.1 hS1 hv1 hn Q
  have mo : ∀ h', MS h' → zI h' 89 = w → ∀ x Q, zCall 59 807 [.ref 88, .int x] h' Q = Q (some (.int (bI (sIs n x)))) h' := fun h' hM he x Q => c_isOne hM (D := D) (n := n) (by rw [he]; exact ok) Q
  have M1 := go.1.2.2.2.2.2.2.1.1
  have m88 := M1.1
  obtain ⟨k0, j0, j1, j2, j3, j4, j6, j8, j9⟩ := id go.1.1
  have zero : GI (wI (wI h 73 1 0) 88 24 0) xs L := by
    refine G_act go gm (FS_t f0 f0m) ⟨0, by omega, ?_, ?_, fun k hk => by omega⟩
    · rw [zI_wI, if_neg (by omega), zI_wI, if_pos rfl, up_s]; rfl
    · rw [zI_wI, if_pos rfl, up_s]; rfl
  have eM : zI (wI (wI h 73 1 0) 88 24 0) 89 = w := e89r _ (by omega) (e89r _ (by omega) gm.1)
  have co := mo (wI (wI h 73 1 0) 88 24 0) M1 eM
  by_cases h1 : sIs n x
  · by_cases hy : ¬ y < 0 ∧ ¬ 2 < y
    · obtain ⟨t, ht, rfl⟩ := id h1
      obtain ⟨a, ha, rfl⟩ := in_of (M := 2) hy.1 hy.2 (by omega)
      obtain ⟨kd, hkd, ek⟩ := gm.2.2.2.1.2.2.2.1 t ht
      obtain ⟨l, e, l1, l2, pf, pm⟩ := acts_all kd a hkd (by omega)
      have tt6 : t < 6 := by omega
      have z1 := nI_pos (n := t) (by omega)
      have z2 := nI_clamp (n := t) (by omega)
      obtain ⟨u1, u2, u3, u4, u5, u6, u7⟩ := gm.2.1.2.2.2.2.2 t ht
      -- the class
      have A0 : AC (wI (wI (wI (wI h 73 1 0) 73 2 (nI t)) 73 3 (w (10 * t + 1))) 73 4 (nI kd)) kd (nI t) (w (10 * t + 1)) 0 := by
        refine ⟨KS_f (S := fun b _ => b = 73) (FS_t (FS_t (FS_t (FS_I _ rfl) (FS_I _ rfl)) (FS_I _ rfl)) (FS_I _ rfl)) (fun b k z => by omega) go.1.2.2.2.2.2.2.2.1, t4, t5, t6', ?_, ?_, ?_, ?_⟩ <;> simp +decide only [zI_wI, if_true, if_false, up_a] <;> rfl
      have pc := fun Q => pf (nI t) (w (10 * t + 1)) 37 _ 0 z 0 Q A0 (by omega) (by omega)
      have pc' : ∀ Q, zCall 57 8 [.ref 73, .int (nI kd), .int (nI a), .int z, .int 0] (wI (wI (wI (wI h 73 1 0) 73 2 (nI t)) 73 3 (w (10 * t + 1))) 73 4 (nI kd)) Q = _ := pc
      have fc : FS SAc h (aLog l 0 (wI (wI (wI (wI h 73 1 0) 73 2 (nI t)) 73 3 (w (10 * t + 1))) 73 4 (nI kd))) := FS_t (FS_t (FS_t (FS_t f0 (FS_I _ (by unfold SAc; omega))) (FS_I _ (by unfold SAc; omega))) (FS_I _ (by unfold SAc; omega))) (FS_m (fun b k z => by unfold SAc; omega) (aLog_f l 0 _))
      have rc := (AC_logs l A0).2.2.2.2.2.2.2
      have vc := aLog_v l 0 (wI (wI (wI (wI h 73 1 0) 73 2 (nI t)) 73 3 (w (10 * t + 1))) 73 4 (nI kd))
      have cls : ∀ Q, zCall 60 735 [.ref 0, .int (nI t), .int (nI a), .int z] h Q = Q (some (.int (e (nI t) (w (10 * t + 1)) z))) (aLog l 0 (wI (wI (wI (wI h 73 1 0) 73 2 (nI t)) 73 3 (w (10 * t + 1))) 73 4 (nI kd))) := fun Q => by
        obtain ⟨q0, q1, q2, q3, q4, q5, q6, q7, r0, r1, r2, r3, r4, r5, r6, r7⟩ := id go.1.2.1
        rw [ek] at u1
        simp +decide only [Nat.reduceEqDiff, Nat.add_eq_left, Nat.left_eq_add, Nat.reduceAdd, Nat.reduceLeDiff, Nat.reduceMul, Nat.reduceSub, Nat.reduceLT, zlt8, zlt8_, zlt8n, zlt8n_, List.length_cons, List.length_nil, true_or, or_true, false_or, or_false, and_self, and_true, true_and, and_false, false_and, not_false_eq_true, not_true_eq_false, ite_true, ite_false, if_true, if_false, ite_not, zin, zpush_s, zpush_n, kl_int, kl_ref, kl_none, kl_kl, kl_long, kl_null, VR_i, VR_l, zT_wI, zT_wJ, zT_wR, zT_wIr, zT_wJr, zT_wRr, zI_wJ, zI_wR, zI_wJr, zI_wRr, zJ_wI, zJ_wR, zJ_wIr, zJ_wRr, zR_wI, zR_wJ, zR_wIr, zR_wJr, zN_wI, zN_wJ, zN_wR, zN_wIr, zN_wJr, zN_wRr, zZ_wI, zZ_wJ, zZ_wR, zZ_wIr, zZ_wJr, zZ_wRr, zI_wI, zJ_wJ, zR_wR, zI_wIr, zJ_wJr, zR_wRr, k735, g735_0, g735_1, g735_4, g735_7, g735_8, g735_9, g735_12, g735_15, g735_16, g735_17, g735_20, g735_23, g735_24, g735_25, g735_26, g735_29, g735_30, g735_31, g735_34, g735_37, g735_38, g735_39, g735_40, g735_43, g735_46, g735_47, g735_48, g735_49, g735_50, g735_53, k0, j0, j1, j2, j3, j4, j6, j8, j9, q0, q1, q2, q3, q4, q5, q6, q7, r0, r1, r2, r3, r4, r5, r6, t4, k3, g3_0, g3_1, g3_2, g3_5, ct, bI_t h1, c_within, i_le, bI_t, hy.1, hy.2, z1, z2, tt6, u1, u2, k5, g5_0, g5_1, g5_2, g5_5, g5_6, g5_7, g5_10, g5_11, g5_12, g5_15, g5_16, g5_18, g5_20, g5_21, g5_24, k6, g6_0, g6_1, g6_2, g6_5, g6_6, g6_7, g6_8, g6_11, up_a, pc']
      generalize aLog l 0 (wI (wI (wI (wI h 73 1 0) 73 2 (nI t)) 73 3 (w (10 * t + 1))) 73 4 (nI kd)) = hc at *
      -- the reference
      have MOc : MO hc := MO_g (fun b k z => by unfold SAc at z; unfold SM; omega) fc go.1.2.2.2.2.2.2.1
      have ec : zI hc 89 = w := by rw [← gm.1]; exact funext fun k => fc.2.2.2.2.1 _ _ (by unfold SAc; omega)
      have A1 : AM (wI hc 88 24 0) t kd (w (10 * t + 1)) 0 := by
        refine ⟨MO_M (FS_I _ (by unfold SM; omega)) MOc, tt6, ?_, ?_, ?_⟩
        · rw [e89r _ (by omega) ec]; exact ek
        · rw [e89r _ (by omega) ec]
        · rw [zI_wI, if_pos rfl, up_s]; rfl
      have pr : ∀ Q, zCall 59 861 [.ref 88, .int (nI t), .int (nI a), .int z] (wI hc 88 24 0) Q = _ := fun Q => m_all (pm t (w (10 * t + 1))) 37 A1 (by omega) (nI a) rfl z Q
      have fm : FS SAc hc (aLogM l 0 (wI hc 88 24 0)) := FS_t (FS_I _ (by unfold SAc; omega)) (FS_m (fun b k z => by unfold SAc; omega) (aLogM_f l 0 _))
      have rm := (AM_logs l A1).2.2.2.2
      have vm := aLogM_v l 0 (wI hc 88 24 0)
      have co1 := mo (wI hc 88 24 0) MOc.1 (e89r _ (by omega) ec)
      have k88 := MOc.1.1
      refine ⟨.int (e (nI t) (w (10 * t + 1)) z), hc, aLogM l 0 (wI hc 88 24 0), Fr_f (fun k z => by unfold SAc at z; omega) fc, cls, fun Q => ?_, G_act go gm (FS_t fc fm) ⟨l.length, l2, ?_, ?_, fun k hk => ?_⟩⟩
      · simp +decide only [Nat.reduceEqDiff, Nat.add_eq_left, Nat.left_eq_add, Nat.reduceAdd, Nat.reduceLeDiff, Nat.reduceMul, Nat.reduceSub, Nat.reduceLT, zlt8, zlt8_, zlt8n, zlt8n_, List.length_cons, List.length_nil, true_or, or_true, false_or, or_false, and_self, and_true, true_and, and_false, false_and, not_false_eq_true, not_true_eq_false, ite_true, ite_false, if_true, if_false, ite_not, zin, zpush_s, zpush_n, kl_int, kl_ref, kl_none, kl_kl, kl_long, kl_null, VR_i, VR_l, zT_wI, zT_wJ, zT_wR, zT_wIr, zT_wJr, zT_wRr, zI_wJ, zI_wR, zI_wJr, zI_wRr, zJ_wI, zJ_wR, zJ_wIr, zJ_wRr, zR_wI, zR_wJ, zR_wIr, zR_wJr, zN_wI, zN_wJ, zN_wR, zN_wIr, zN_wJr, zN_wRr, zZ_wI, zZ_wJ, zZ_wR, zZ_wIr, zZ_wJr, zZ_wRr, zI_wI, zJ_wJ, zR_wR, zI_wIr, zJ_wJr, zR_wRr, k863, g863_0, g863_1, g863_2, g863_5, g863_6, g863_7, g863_10, g863_13, g863_14, g863_15, g863_16, g863_19, g863_22, g863_23, g863_24, g863_25, g863_26, g863_29, g863_32, g863_33, k88, co1, bI_t h1, c_isIn, bI_t, hy.1, hy.2, pr]
      · have fo : FS (fun b k => b = 102 ∨ (b = 88 ∧ k = 24)) hc (aLogM l 0 (wI hc 88 24 0)) := FS_t (FS_I _ (by omega)) (aLogM_f l 0 _)
        rw [fo.2.2.2.2.1 _ _ (by omega), rc, Nat.zero_add]
      · rw [rm, Nat.zero_add]
      · have fo : FS (fun b k => b = 102 ∨ (b = 88 ∧ k = 24)) hc (aLogM l 0 (wI hc 88 24 0)) := FS_t (FS_I _ (by omega)) (aLogM_f l 0 _)
        have e1 := vc k hk
        have e2 := vm k hk
        rw [Nat.zero_add] at e1 e2
        rw [fo.2.2.2.2.1 _ _ (by omega), e1, e2]
    · refine ⟨.int 0, wI h 73 1 0, wI (wI h 73 1 0) 88 24 0, ⟨rfl, rfl, rfl⟩, fun Q => ?_, fun Q => ?_, zero⟩
      · simp +decide only [Nat.reduceEqDiff, Nat.add_eq_left, Nat.left_eq_add, Nat.reduceAdd, Nat.reduceLeDiff, Nat.reduceMul, Nat.reduceSub, Nat.reduceLT, zlt8, zlt8_, zlt8n, zlt8n_, List.length_cons, List.length_nil, true_or, or_true, false_or, or_false, and_self, and_true, true_and, and_false, false_and, not_false_eq_true, not_true_eq_false, ite_true, ite_false, if_true, if_false, ite_not, zin, zpush_s, zpush_n, kl_int, kl_ref, kl_none, kl_kl, kl_long, kl_null, VR_i, VR_l, zT_wI, zT_wJ, zT_wR, zT_wIr, zT_wJr, zT_wRr, zI_wJ, zI_wR, zI_wJr, zI_wRr, zJ_wI, zJ_wR, zJ_wIr, zJ_wRr, zR_wI, zR_wJ, zR_wIr, zR_wJr, zN_wI, zN_wJ, zN_wR, zN_wIr, zN_wJr, zN_wRr, zZ_wI, zZ_wJ, zZ_wR, zZ_wIr, zZ_wJr, zZ_wRr, zI_wI, zJ_wJ, zR_wR, zI_wIr, zJ_wJr, zR_wRr, k735, g735_0, g735_1, g735_4, g735_7, g735_8, g735_9, g735_12, g735_15, g735_16, g735_17, g735_20, g735_23, g735_24, g735_25, g735_26, g735_29, g735_30, g735_31, g735_34, g735_37, g735_38, g735_39, g735_40, g735_43, g735_46, g735_47, g735_48, g735_49, g735_50, g735_53, k0, j0, j1, j2, j3, j4, j6, j8, j9, t4, k3, g3_0, g3_1, g3_2, g3_5, ct, bI_t h1, c_within, i_le, bI_f hy]
      · simp +decide only [Nat.reduceEqDiff, Nat.add_eq_left, Nat.left_eq_add, Nat.reduceAdd, Nat.reduceLeDiff, Nat.reduceMul, Nat.reduceSub, Nat.reduceLT, zlt8, zlt8_, zlt8n, zlt8n_, List.length_cons, List.length_nil, true_or, or_true, false_or, or_false, and_self, and_true, true_and, and_false, false_and, not_false_eq_true, not_true_eq_false, ite_true, ite_false, if_true, if_false, ite_not, zin, zpush_s, zpush_n, kl_int, kl_ref, kl_none, kl_kl, kl_long, kl_null, VR_i, VR_l, zT_wI, zT_wJ, zT_wR, zT_wIr, zT_wJr, zT_wRr, zI_wJ, zI_wR, zI_wJr, zI_wRr, zJ_wI, zJ_wR, zJ_wIr, zJ_wRr, zR_wI, zR_wJ, zR_wIr, zR_wJr, zN_wI, zN_wJ, zN_wR, zN_wIr, zN_wJr, zN_wRr, zZ_wI, zZ_wJ, zZ_wR, zZ_wIr, zZ_wJr, zZ_wRr, zI_wI, zJ_wJ, zR_wR, zI_wIr, zJ_wJr, zR_wRr, k863, g863_0, g863_1, g863_2, g863_5, g863_6, g863_7, g863_10, g863_13, g863_14, g863_15, g863_16, g863_19, g863_22, g863_23, g863_24, g863_25, g863_26, g863_29, g863_32, g863_33, m88, co, bI_t h1, c_isIn, bI_f hy]
  · refine ⟨.int 0, wI h 73 1 0, wI (wI h 73 1 0) 88 24 0, ⟨rfl, rfl, rfl⟩, fun Q => ?_, fun Q => ?_, zero⟩
    · simp +decide only [Nat.reduceEqDiff, Nat.add_eq_left, Nat.left_eq_add, Nat.reduceAdd, Nat.reduceLeDiff, Nat.reduceMul, Nat.reduceSub, Nat.reduceLT, zlt8, zlt8_, zlt8n, zlt8n_, List.length_cons, List.length_nil, true_or, or_true, false_or, or_false, and_self, and_true, true_and, and_false, false_and, not_false_eq_true, not_true_eq_false, ite_true, ite_false, if_true, if_false, ite_not, zin, zpush_s, zpush_n, kl_int, kl_ref, kl_none, kl_kl, kl_long, kl_null, VR_i, VR_l, zT_wI, zT_wJ, zT_wR, zT_wIr, zT_wJr, zT_wRr, zI_wJ, zI_wR, zI_wJr, zI_wRr, zJ_wI, zJ_wR, zJ_wIr, zJ_wRr, zR_wI, zR_wJ, zR_wIr, zR_wJr, zN_wI, zN_wJ, zN_wR, zN_wIr, zN_wJr, zN_wRr, zZ_wI, zZ_wJ, zZ_wR, zZ_wIr, zZ_wJr, zZ_wRr, zI_wI, zJ_wJ, zR_wR, zI_wIr, zJ_wJr, zR_wRr, k735, g735_0, g735_1, g735_4, g735_7, g735_8, g735_9, g735_12, g735_15, g735_16, g735_17, g735_20, g735_23, g735_24, g735_25, g735_26, g735_29, g735_30, g735_31, g735_34, g735_37, g735_38, g735_39, g735_40, g735_43, g735_46, g735_47, g735_48, g735_49, g735_50, g735_53, k0, j0, j1, j2, j3, j4, j6, j8, j9, t4, k3, g3_0, g3_1, g3_2, g3_5, ct, bI_f h1]
    · simp +decide only [Nat.reduceEqDiff, Nat.add_eq_left, Nat.left_eq_add, Nat.reduceAdd, Nat.reduceLeDiff, Nat.reduceMul, Nat.reduceSub, Nat.reduceLT, zlt8, zlt8_, zlt8n, zlt8n_, List.length_cons, List.length_nil, true_or, or_true, false_or, or_false, and_self, and_true, true_and, and_false, false_and, not_false_eq_true, not_true_eq_false, ite_true, ite_false, if_true, if_false, ite_not, zin, zpush_s, zpush_n, kl_int, kl_ref, kl_none, kl_kl, kl_long, kl_null, VR_i, VR_l, zT_wI, zT_wJ, zT_wR, zT_wIr, zT_wJr, zT_wRr, zI_wJ, zI_wR, zI_wJr, zI_wRr, zJ_wI, zJ_wR, zJ_wIr, zJ_wRr, zR_wI, zR_wJ, zR_wIr, zR_wJr, zN_wI, zN_wJ, zN_wR, zN_wIr, zN_wJr, zN_wRr, zZ_wI, zZ_wJ, zZ_wR, zZ_wIr, zZ_wJr, zZ_wRr, zI_wI, zJ_wJ, zR_wR, zI_wIr, zJ_wJr, zR_wRr, k863, g863_0, g863_1, g863_2, g863_5, g863_6, g863_7, g863_10, g863_13, g863_14, g863_15, g863_16, g863_19, g863_22, g863_23, g863_24, g863_25, g863_26, g863_29, g863_32, g863_33, m88, co, bI_f h1]
