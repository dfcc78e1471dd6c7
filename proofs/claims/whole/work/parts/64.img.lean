-- needs 63.cp
variable {n D D2 q L c1 c2 c3 a b t s r d K k kd i j ln c m M : Nat} {h h1 h2 : zH} {w w1 : zW0} {sv : Value} {xs : zW0} {py fp fo x y z u v : Int32} {ex : zW0 → Int32}
theorem NR_w (e : ∀ k, k < 118 → w1 k = w k) (p1 : c1 ≤ 5) (p2 : c2 ≤ 10) (p3 : c3 ≤ 8) (r : NR h b w c1 c2 c3) : NR h b w1 c1 c2 c3 := by
  obtain ⟨r1, r2, r3, r4, r5, r6⟩ := r
  exact ⟨r1, fun i hi => by rw [e _ (by omega), e _ (by omega), e _ (by omega)]; exact r2 i hi, r3, fun i hi => by rw [e _ (by omega), e _ (by omega)]; exact r4 i hi, r5, fun i hi => by rw [e _ (by omega), e _ (by omega)]; exact r6 i hi⟩
theorem PN_w2 (e : ∀ k, k < 118 → w1 k = w k) (p : PN w n c1 c2 c3) : PN w1 n c1 c2 c3 := by
  obtain ⟨p1, p2, p3, p4, p5, p6, p7, p8, p9⟩ := p
  refine ⟨p1, p2, p3, by rw [e _ (by omega)]; exact p4, by rw [e _ (by omega)]; exact p5, by rw [e _ (by omega)]; exact p6, fun i hi => ?_, fun i hi => ?_, fun i hi => ?_⟩
  · rw [e _ (by omega), e _ (by omega)]; exact p7 i hi
  · rw [e _ (by omega), e _ (by omega)]; exact p8 i hi
  · rw [e _ (by omega)]; exact p9 i hi
theorem SVp_w (e : ∀ k, k < 118 → w1 k = w k) (v : SVp q w sv) : SVp q w1 sv := by
  unfold SVp at v ⊢; rw [e 63 (by omega)]; exact v
def SIm (b k : Nat) : Prop := (b = 0 ∧ k = 5) ∨ RA 29 b k ∨ NA 56 b k ∨ b = 91 ∨ (b = 88 ∧ k = 3)
def SUn (b k : Nat) : Prop := RA 1 b k ∨ NA 43 b k ∨ b = 89
theorem SIm_e (b k : Nat) (z : SIm b k) : (b = 0 ∧ k = 5) ∨ (29 ≤ b ∧ b < 43 ∧ (b = 29 → 7 ≤ k) ∧ ¬ b = 36) ∨ (57 ≤ b ∧ b < 69 ∧ (b = 57 ∨ b = 61 ∨ b = 65 → k = 3)) ∨ b = 91 ∨ (b = 88 ∧ k = 3) := by unfold SIm RA NA at z; omega
theorem SUn_e (b k : Nat) (z : SUn b k) : (1 ≤ b ∧ b < 15 ∧ (b = 1 → 7 ≤ k) ∧ ¬ b = 8) ∨ (44 ≤ b ∧ b < 56 ∧ (b = 44 ∨ b = 48 ∨ b = 52 → k = 3)) ∨ b = 89 := by unfold SUn RA NA at z; omega
theorem RS_g {S : Nat → Nat → Prop} (hS : ∀ b k, S b k → ¬ (b = a ∧ k < 7) ∧ ¬ b = a + 7) (f : FS S h h1) (r : RS h a) : RS h1 a := RS_f (fun b h1 h2 k z => by have := hS b k z; omega) f r
theorem FS_Ir {S : Nat → Nat → Prop} (g : zW0) (hS : ∀ k, S a k) : FS S h (wIr h a g) := ⟨rfl, rfl, rfl, rfl, fun b k q => by
  rw [zI_wIr]
  split
  · next e => subst e; exact absurd (hS k) q
  · rfl, fun b k q => rfl⟩
theorem P_image (g : GI h xs L) : Pr h xs L 733 805 [] := by
  obtain ⟨q, n, D, w, c1, c2, c3, sv, go, gm⟩ := g
  obtain ⟨gz, gn, gd, gs, gi, gx, ga, gt⟩ := id go
  obtain ⟨m1, m2, m3, m4, m5, m6⟩ := id gm
  obtain ⟨pe, ex, se, tx⟩ := SV_of go m5
  have hn := m4.1.2.1
  have p := m4.2.2.2.2
  have q6 := gn.1
  obtain ⟨z1, z2, z3, z4, z5, z6, z7, z8, z9, z10⟩ := id gz
  obtain ⟨h1, f1, v1, k1⟩ := c_copy (d := 58) (a := 29) (b := 1) (by omega) z4 z2 m2 m4.1 (Se_v se)
  have f1' : FS SIm h h1 := FS_m (fun b k z => Or.inr (Or.inl z)) f1
  have z5' : NS h1 43 := NS_f f1 (fun c k hc hk => by unfold RA; omega) z5
  have z6' : NS h1 56 := NS_f f1 (fun c k hc hk => by unfold RA; omega) z6
  have r1 : NR h1 43 w c1 c2 c3 := NR_f f1 (fun c k hc hk => by unfold RA; omega) (fun _ _ => rfl) m3
  obtain ⟨h2, f2, v2, k2⟩ := c_ncopy (d := 57) (a := 56) (b := 43) (by omega) z6' z5' r1 p.1 p.2.1 p.2.2.1
  have f2' : FS SIm h h2 := FS_t f1' (FS_m (fun b k z => Or.inr (Or.inr (Or.inl z))) f2)
  have f3 : FS SIm h (wI h2 0 5 1) := FS_t f2' (FS_I _ (Or.inl ⟨rfl, rfl⟩))
  have F : FS SIm h (wIr (wI (wI h2 0 5 1) 88 3 1) 91 (sMv (zI (wI (wI h2 0 5 1) 88 3 1) 89) (zI (wI (wI h2 0 5 1) 88 3 1) 91))) := FS_t f3 (FS_t (FS_I _ (Or.inr (Or.inr (Or.inr (Or.inr ⟨rfl, rfl⟩))))) (FS_Ir _ (fun k => Or.inr (Or.inr (Or.inr (Or.inl rfl))))))
  have e89 : ∀ h', FS SIm h h' → zI h' 89 = w := fun h' f => by rw [← m1]; exact funext fun k => f.2.2.2.2.1 _ _ (fun z => by have := SIm_e _ _ z; omega)
  have hMO : MO (wI h2 0 5 1) := MO_g (fun b k z => by have := SIm_e _ _ z; unfold SM; omega) f3 z7
  have w60 : w 60 = nI n := m4.1.1
  refine ⟨.int (nI n), wI h2 0 5 1, _, Fr_f (fun k z => by have := SIm_e _ _ z; omega) f3, fun Q => ?_, fun Q => ?_, q, n, D, w, c1, c2, c3, sv, ⟨GZ_f (fun b k z => by have := SIm_e _ _ z; unfold NZ SM; omega) F gz, GN_f (fun b k z => by have := SIm_e _ _ z; omega) F gn, GD_f (fun b k z => by have := SIm_e _ _ z; have := sA_n q6; omega) F gd, fun r hr => Sn_f (fun b k z => by have := SIm_e _ _ z; have := sA_n (r := r) (by omega); omega) F (gs r hr), Or.inr ⟨?_, ?_, n, D, w, c1, c2, c3, sv, fun k hk => ?_, ?_, ?_, m4, m5⟩, GX_f (fun b k z => by have := SIm_e _ _ z; omega) F gx, GAct_f (fun b k z => by have := SIm_e _ _ z; omega) F ga, GTp_f (fun b k z => by have := SIm_e _ _ z; omega) F gt⟩, GM_f (fun b k z => by have := SIm_e _ _ z; omega) F gm⟩
  · obtain ⟨k0, j0, j1, j2, j3, j4, j6, j8, j9⟩ := id z1
    have b0 := z4.1
    have b1 := z2.1
    have b2 := z6.1
    have tt1 := f1.1
    have tt2 := f2.1
    have rr1 : ∀ k, zR h1 0 k = zR h 0 k := fun k => f1.2.2.2.2.2 _ _ (by unfold RA; omega)
    have rr2 : ∀ k, zR h2 0 k = zR h1 0 k := fun k => f2.2.2.2.2.2 _ _ (by unfold NA; omega)
    have k1' : ∀ Q, zCall 59 202 [.ref 29, .ref 1] h Q = Q none h1 := k1
    have k2' : ∀ Q, zCall 59 102 [.ref 56, .ref 43] h1 Q = Q none h2 := k2
    have i1 : zI h2 1 7 = nI n := by rw [f2'.2.2.2.2.1 _ _ (fun z => by have := SIm_e _ _ z; omega)]; exact m2.1
    simp +decide only [Nat.reduceEqDiff, Nat.add_eq_left, Nat.left_eq_add, Nat.reduceAdd, Nat.reduceLeDiff, Nat.reduceMul, Nat.reduceSub, Nat.reduceLT, zlt8, zlt8_, zlt8n, zlt8n_, List.length_cons, List.length_nil, true_or, or_true, false_or, or_false, and_self, and_true, true_and, and_false, false_and, not_false_eq_true, not_true_eq_false, ite_true, ite_false, if_true, if_false, ite_not, zin, zpush_s, zpush_n, kl_int, kl_ref, kl_none, kl_kl, kl_long, kl_null, VR_i, VR_l, zT_wI, zT_wJ, zT_wR, zT_wIr, zT_wJr, zT_wRr, zI_wJ, zI_wR, zI_wJr, zI_wRr, zJ_wI, zJ_wR, zJ_wIr, zJ_wRr, zR_wI, zR_wJ, zR_wIr, zR_wJr, zN_wI, zN_wJ, zN_wR, zN_wIr, zN_wJr, zN_wRr, zZ_wI, zZ_wJ, zZ_wR, zZ_wIr, zZ_wJr, zZ_wRr, zI_wI, zJ_wJ, zR_wR, zI_wIr, zJ_wJr, zR_wRr, k733, g733_0, g733_1, g733_4, g733_5, g733_8, g733_11, g733_12, g733_15, g733_16, g733_19, g733_22, g733_23, g733_24, g733_27, g733_28, g733_31, g733_34, k0, j0, j1, j2, j3, j4, j6, j8, j9, b0, b1, b2, tt1, tt2, rr1, rr2, k1', k2', i1]
  · obtain ⟨m88, m89, m90, m91, m92, m93, m94, m95, m96, m97, m98, m99, m100, m101, m102, m103, m104, m105, m106, n0, n1, n2, n5, n7, n8, n10, n17, n18, n19, n20, n21, n22, n23, n25, n26, n27, n28⟩ := id hMO.1
    have cm := fun Q => c_move (d := 58) (a := 89) (b := 91) (h := wI (wI h2 0 5 1) 88 3 1) (by omega) m89 m91 Q
    have cm' : ∀ Q, zCall 59 804 [.ref 89, .ref 91] (wI (wI h2 0 5 1) 88 3 1) Q = Q none _ := cm
    have e9 := e89 _ f2'
    simp +decide only [Nat.reduceEqDiff, Nat.add_eq_left, Nat.left_eq_add, Nat.reduceAdd, Nat.reduceLeDiff, Nat.reduceMul, Nat.reduceSub, Nat.reduceLT, zlt8, zlt8_, zlt8n, zlt8n_, List.length_cons, List.length_nil, true_or, or_true, false_or, or_false, and_self, and_true, true_and, and_false, false_and, not_false_eq_true, not_true_eq_false, ite_true, ite_false, if_true, if_false, ite_not, zin, zpush_s, zpush_n, kl_int, kl_ref, kl_none, kl_kl, kl_long, kl_null, VR_i, VR_l, zT_wI, zT_wJ, zT_wR, zT_wIr, zT_wJr, zT_wRr, zI_wJ, zI_wR, zI_wJr, zI_wRr, zJ_wI, zJ_wR, zJ_wIr, zJ_wRr, zR_wI, zR_wJ, zR_wIr, zR_wJr, zN_wI, zN_wJ, zN_wR, zN_wIr, zN_wJr, zN_wRr, zZ_wI, zZ_wJ, zZ_wR, zZ_wIr, zZ_wJr, zZ_wRr, zI_wI, zJ_wJ, zR_wR, zI_wIr, zJ_wJr, zR_wRr, k805, g805_0, g805_1, g805_2, g805_5, g805_6, g805_9, g805_10, g805_13, g805_16, g805_17, g805_20, g805_22, g805_23, m88, m89, m90, m91, m92, m93, m94, m95, m96, m97, m98, m99, m100, m101, m102, m103, m104, m105, m106, n0, n1, n2, n5, n7, n8, n10, n17, n18, n19, n20, n21, n22, n23, n25, n26, n27, n28, cm', zT_wIr, e9, w60, show Int32.toNatClampNeg 60 = 60 by decide, show ¬ (60 : Int32) < 0 by decide]
  · simp +decide only [zI_wIr, zI_wI, if_true, if_false, up_a]
  · simp +decide only [zI_wIr, zI_wI, if_true, if_false, up_a]
  · rw [zI_wIr, if_pos rfl]
    unfold sMv
    rw [if_pos hk]
    have e : zI (wI (wI h2 0 5 1) 88 3 1) 89 = w := by rw [← e89 _ f3]; rfl
    rw [e]
  · have f4 : FS (fun b _ => ¬ (29 ≤ b ∧ b < 43)) h1 (wIr (wI (wI h2 0 5 1) 88 3 1) 91 (sMv (zI (wI (wI h2 0 5 1) 88 3 1) 89) (zI (wI (wI h2 0 5 1) 88 3 1) 91))) := FS_t (FS_t (FS_m (fun b k z => by unfold NA at z; omega) f2) (FS_I _ (by omega))) (FS_t (FS_I _ (by omega)) (FS_Ir _ (fun k => by omega)))
    exact Rv_f (fun c k z => by omega) f4 hn v1
  · have f4 : FS (fun b _ => ¬ (56 ≤ b ∧ b < 69)) h2 (wIr (wI (wI h2 0 5 1) 88 3 1) 91 (sMv (zI (wI (wI h2 0 5 1) 88 3 1) 89) (zI (wI (wI h2 0 5 1) 88 3 1) 91))) := FS_t (FS_I _ (by omega)) (FS_t (FS_I _ (by omega)) (FS_Ir _ (fun k => by omega)))
    exact NR_f f4 (fun c k h1 h2 z => by omega) (fun _ _ => rfl) v2
theorem P_undo (g : GI h xs L) : Pr h xs L 734 806 [] := by
  have g0 := g
  obtain ⟨q, n0', D0, w0, a1, a2, a3, sv0, go, gm⟩ := g
  obtain ⟨gz, gn, gd, gs, gi, gx, ga, gt⟩ := id go
  obtain ⟨z1, z2, z3, z4, z5, z6, z7, z8, z9, z10⟩ := id gz
  have q6 := gn.1
  obtain ⟨k0, j0, j1, j2, j3, j4, j6, j8, j9⟩ := id z1
  rcases id gi with ⟨i1, i2⟩ | ⟨i1, i2, n, D, w, c1, c2, c3, sv, i3, i4, i5, m4, m5⟩
  · refine Pr_same (r := .int (-3)) g0 (fun Q => ?_) (fun Q => ?_)
    · simp +decide only [Nat.reduceEqDiff, Nat.add_eq_left, Nat.left_eq_add, Nat.reduceAdd, Nat.reduceLeDiff, Nat.reduceMul, Nat.reduceSub, Nat.reduceLT, zlt8, zlt8_, zlt8n, zlt8n_, List.length_cons, List.length_nil, true_or, or_true, false_or, or_false, and_self, and_true, true_and, and_false, false_and, not_false_eq_true, not_true_eq_false, ite_true, ite_false, if_true, if_false, ite_not, zin, zpush_s, zpush_n, kl_int, kl_ref, kl_none, kl_kl, kl_long, kl_null, VR_i, VR_l, zT_wI, zT_wJ, zT_wR, zT_wIr, zT_wJr, zT_wRr, zI_wJ, zI_wR, zI_wJr, zI_wRr, zJ_wI, zJ_wR, zJ_wIr, zJ_wRr, zR_wI, zR_wJ, zR_wIr, zR_wJr, zN_wI, zN_wJ, zN_wR, zN_wIr, zN_wJr, zN_wRr, zZ_wI, zZ_wJ, zZ_wR, zZ_wIr, zZ_wJr, zZ_wRr, zI_wI, zJ_wJ, zR_wR, zI_wIr, zJ_wJr, zR_wRr, k734, g734_0, g734_1, g734_4, g734_7, g734_9, g734_10, g734_11, g734_14, g734_15, g734_18, g734_21, g734_22, g734_25, g734_26, g734_29, g734_32, g734_33, g734_36, g734_39, k0, j0, j1, j2, j3, j4, j6, j8, j9, i1]
    · obtain ⟨m88, m89, m90, m91, m92, m93, m94, m95, m96, m97, m98, m99, m100, m101, m102, m103, m104, m105, m106, n0, n1, n2, n5, n7, n8, n10, n17, n18, n19, n20, n21, n22, n23, n25, n26, n27, n28⟩ := id z7.1
      simp +decide only [Nat.reduceEqDiff, Nat.add_eq_left, Nat.left_eq_add, Nat.reduceAdd, Nat.reduceLeDiff, Nat.reduceMul, Nat.reduceSub, Nat.reduceLT, zlt8, zlt8_, zlt8n, zlt8n_, List.length_cons, List.length_nil, true_or, or_true, false_or, or_false, and_self, and_true, true_and, and_false, false_and, not_false_eq_true, not_true_eq_false, ite_true, ite_false, if_true, if_false, ite_not, zin, zpush_s, zpush_n, kl_int, kl_ref, kl_none, kl_kl, kl_long, kl_null, VR_i, VR_l, zT_wI, zT_wJ, zT_wR, zT_wIr, zT_wJr, zT_wRr, zI_wJ, zI_wR, zI_wJr, zI_wRr, zJ_wI, zJ_wR, zJ_wIr, zJ_wRr, zR_wI, zR_wJ, zR_wIr, zR_wJr, zN_wI, zN_wJ, zN_wR, zN_wIr, zN_wJr, zN_wRr, zZ_wI, zZ_wJ, zZ_wR, zZ_wIr, zZ_wJr, zZ_wRr, zI_wI, zJ_wJ, zR_wR, zI_wIr, zJ_wJr, zR_wRr, k806, g806_0, g806_1, g806_4, g806_7, g806_9, g806_10, g806_11, g806_14, g806_15, g806_18, g806_21, g806_22, g806_25, g806_27, g806_28, m88, m89, m90, m91, m92, m93, m94, m95, m96, m97, m98, m99, m100, m101, m102, m103, m104, m105, m106, n0, n1, n2, n5, n7, n8, n10, n17, n18, n19, n20, n21, n22, n23, n25, n26, n27, n28, i2]
  have hn := m4.1.2.1
  have p := m4.2.2.2.2
  obtain ⟨pe, ex, se, tx⟩ := SV_of go m5
  obtain ⟨h1, f1, v1, k1⟩ := c_copy (d := 58) (a := 1) (b := 29) (by omega) z2 z4 i4 m4.1 (Se_v se)
  have f1' : FS SUn h h1 := FS_m (fun b k z => Or.inl z) f1
  have z5' : NS h1 43 := NS_f f1 (fun c k hc hk => by unfold RA; omega) z5
  have z6' : NS h1 56 := NS_f f1 (fun c k hc hk => by unfold RA; omega) z6
  have r1 : NR h1 56 w c1 c2 c3 := NR_f f1 (fun c k hc hk => by unfold RA; omega) (fun _ _ => rfl) i5
  obtain ⟨h2, f2, v2, k2⟩ := c_ncopy (d := 57) (a := 43) (b := 56) (by omega) z5' z6' r1 p.1 p.2.1 p.2.2.1
  have f2' : FS SUn h h2 := FS_t f1' (FS_m (fun b k z => Or.inr (Or.inl z)) f2)
  have F : FS SUn h (wIr h2 89 (sMv (zI h2 91) (zI h2 89))) := FS_t f2' (FS_Ir _ (fun k => Or.inr (Or.inr rfl)))
  have e91 : ∀ k, k < 118 → zI h2 91 k = w k := fun k hk => by rw [f2'.2.2.2.2.1 _ _ (fun z => by have := SUn_e _ _ z; omega)]; exact i3 k hk
  have ew : ∀ k, k < 118 → sMv (zI h2 91) (zI h2 89) k = w k := fun k hk => by unfold sMv; rw [if_pos hk]; exact e91 k hk
  have hMO : MO h2 := MO_g (fun b k z => by have := SUn_e _ _ z; unfold SM; omega) f2' z7
  have w60 : w 60 = nI n := m4.1.1
  refine ⟨.int (nI n), h2, _, Fr_f (fun k z => by have := SUn_e _ _ z; omega) f2', fun Q => ?_, fun Q => ?_, q, n, D, sMv (zI h2 91) (zI h2 89), c1, c2, c3, sv, ⟨GZ_f (fun b k z => by have := SUn_e _ _ z; unfold NZ SM; omega) F gz, GN_f (fun b k z => by have := SUn_e _ _ z; omega) F gn, GD_f (fun b k z => by have := SUn_e _ _ z; have := sA_n q6; omega) F gd, fun r hr => Sn_f (fun b k z => by have := SUn_e _ _ z; have := sA_n (r := r) (by omega); omega) F (gs r hr), GImg_f (fun b k z => by have := SUn_e _ _ z; omega) F gi, GX_f (fun b k z => by have := SUn_e _ _ z; omega) F gx, GAct_f (fun b k z => by have := SUn_e _ _ z; omega) F ga, GTp_f (fun b k z => by have := SUn_e _ _ z; omega) F gt⟩, ?_, ?_, ?_, ?_, SVp_w ew m5, ?_⟩
  · have b0 := z4.1
    have b1 := z2.1
    have b2 := z5.1
    have tt1 := f1.1
    have tt2 := f2.1
    have rr1 : ∀ k, zR h1 0 k = zR h 0 k := fun k => f1.2.2.2.2.2 _ _ (by unfold RA; omega)
    have rr2 : ∀ k, zR h2 0 k = zR h1 0 k := fun k => f2.2.2.2.2.2 _ _ (by unfold NA; omega)
    have k1' : ∀ Q, zCall 59 202 [.ref 1, .ref 29] h Q = Q none h1 := k1
    have k2' : ∀ Q, zCall 59 102 [.ref 43, .ref 56] h1 Q = Q none h2 := k2
    have i6 : zI h2 1 7 = nI n := by rw [f2.2.2.2.2.1 _ _ (by unfold NA; omega)]; exact v1.1
    simp +decide only [Nat.reduceEqDiff, Nat.add_eq_left, Nat.left_eq_add, Nat.reduceAdd, Nat.reduceLeDiff, Nat.reduceMul, Nat.reduceSub, Nat.reduceLT, zlt8, zlt8_, zlt8n, zlt8n_, List.length_cons, List.length_nil, true_or, or_true, false_or, or_false, and_self, and_true, true_and, and_false, false_and, not_false_eq_true, not_true_eq_false, ite_true, ite_false, if_true, if_false, ite_not, zin, zpush_s, zpush_n, kl_int, kl_ref, kl_none, kl_kl, kl_long, kl_null, VR_i, VR_l, zT_wI, zT_wJ, zT_wR, zT_wIr, zT_wJr, zT_wRr, zI_wJ, zI_wR, zI_wJr, zI_wRr, zJ_wI, zJ_wR, zJ_wIr, zJ_wRr, zR_wI, zR_wJ, zR_wIr, zR_wJr, zN_wI, zN_wJ, zN_wR, zN_wIr, zN_wJr, zN_wRr, zZ_wI, zZ_wJ, zZ_wR, zZ_wIr, zZ_wJr, zZ_wRr, zI_wI, zJ_wJ, zR_wR, zI_wIr, zJ_wJr, zR_wRr, k734, g734_0, g734_1, g734_4, g734_7, g734_9, g734_10, g734_11, g734_14, g734_15, g734_18, g734_21, g734_22, g734_25, g734_26, g734_29, g734_32, g734_33, g734_36, g734_39, k0, j0, j1, j2, j3, j4, j6, j8, j9, i1, b0, b1, b2, tt1, tt2, rr1, rr2, k1', k2', i6]
  · have i7 : zI h2 88 3 = 1 := by rw [f2'.2.2.2.2.1 _ _ (fun z => by have := SUn_e _ _ z; omega)]; exact i2
    obtain ⟨m88, m89, m90, m91, m92, m93, m94, m95, m96, m97, m98, m99, m100, m101, m102, m103, m104, m105, m106, n0, n1, n2, n5, n7, n8, n10, n17, n18, n19, n20, n21, n22, n23, n25, n26, n27, n28⟩ := id hMO.1
    have cm' : ∀ Q, zCall 59 804 [.ref 91, .ref 89] h2 Q = Q none _ := fun Q => c_move (d := 58) (a := 91) (b := 89) (h := h2) (by omega) m91 m89 Q
    have e9 := ew 60 (by omega)
    simp +decide only [Nat.reduceEqDiff, Nat.add_eq_left, Nat.left_eq_add, Nat.reduceAdd, Nat.reduceLeDiff, Nat.reduceMul, Nat.reduceSub, Nat.reduceLT, zlt8, zlt8_, zlt8n, zlt8n_, List.length_cons, List.length_nil, true_or, or_true, false_or, or_false, and_self, and_true, true_and, and_false, false_and, not_false_eq_true, not_true_eq_false, ite_true, ite_false, if_true, if_false, ite_not, zin, zpush_s, zpush_n, kl_int, kl_ref, kl_none, kl_kl, kl_long, kl_null, VR_i, VR_l, zT_wI, zT_wJ, zT_wR, zT_wIr, zT_wJr, zT_wRr, zI_wJ, zI_wR, zI_wJr, zI_wRr, zJ_wI, zJ_wR, zJ_wIr, zJ_wRr, zR_wI, zR_wJ, zR_wIr, zR_wJr, zN_wI, zN_wJ, zN_wR, zN_wIr, zN_wJr, zN_wRr, zZ_wI, zZ_wJ, zZ_wR, zZ_wIr, zZ_wJr, zZ_wRr, zI_wI, zJ_wJ, zR_wR, zI_wIr, zJ_wJr, zR_wRr, k806, g806_0, g806_1, g806_4, g806_7, g806_9, g806_10, g806_11, g806_14, g806_15, g806_18, g806_21, g806_22, g806_25, g806_27, g806_28, m88, m89, m90, m91, m92, m93, m94, m95, m96, m97, m98, m99, m100, m101, m102, m103, m104, m105, m106, n0, n1, n2, n5, n7, n8, n10, n17, n18, n19, n20, n21, n22, n23, n25, n26, n27, n28, i7, cm', zT_wIr, zI_wIr, e9, w60, show Int32.toNatClampNeg 60 = 60 by decide, show ¬ (60 : Int32) < 0 by decide]
  · rw [zI_wIr, if_pos rfl]
  · have f4 : FS (fun b _ => ¬ (1 ≤ b ∧ b < 15)) h1 (wIr h2 89 (sMv (zI h2 91) (zI h2 89))) := FS_t (FS_m (fun b k z => by unfold NA at z; omega) f2) (FS_Ir _ (fun k => by omega))
    exact Rv_w (fun k hk => ew k (by omega)) hn (Rv_f (fun c k z => by omega) f4 hn v1)
  · have f4 : FS (fun b _ => ¬ (43 ≤ b ∧ b < 56)) h2 (wIr h2 89 (sMv (zI h2 91) (zI h2 89))) := FS_Ir _ (fun k => by omega)
    exact NR_w ew p.1 p.2.1 p.2.2.1 (NR_f f4 (fun c k h1 h2 z => by omega) (fun _ _ => rfl) v2)
  · exact Bun_w (fun k hk => ew k (by omega)) m4 (PN_w2 ew p)
  · have f4 : FS (fun b _ => b = 89) h2 (wIr h2 89 (sMv (zI h2 91) (zI h2 89))) := FS_Ir _ (fun k => rfl)
    rw [f4.2.2.2.2.1 _ _ (by omega), f2'.2.2.2.2.1 _ _ (fun z => by have := SUn_e _ _ z; omega)]; exact gm.2.2.2.2.2
