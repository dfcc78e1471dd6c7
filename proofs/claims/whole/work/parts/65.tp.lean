-- needs 64.img
variable {n D D2 q L c1 c2 c3 a b t s r d K k kd i j ln c m M : Nat} {h h1 h2 : zH} {w w1 : zW0} {sv : Value} {xs : zW0} {py fp fo x y z u v : Int32} {ex : zW0 → Int32}
/-- with the longs of another heap -/
def hJ (h : zH) (J : Nat → Nat → Int64) : zH := (h.1, h.2.1, J, h.2.2.2)
/-- the longs aside, only what S names is other -/
def FX (S : Nat → Nat → Prop) (h h1 : zH) : Prop := FS S (hJ h (zJ h1)) h1
theorem FX_of {S : Nat → Nat → Prop} (f : FS S h h1) : FX S h h1 := ⟨f.1, rfl, f.2.2.1, f.2.2.2.1, f.2.2.2.2.1, f.2.2.2.2.2⟩
theorem FX_t {S : Nat → Nat → Prop} (f : FX S h h1) (g : FX S h1 h2) : FX S h h2 := ⟨g.1.trans f.1, rfl, g.2.2.1.trans f.2.2.1, g.2.2.2.1.trans f.2.2.2.1, fun b k q => (g.2.2.2.2.1 b k q).trans (f.2.2.2.2.1 b k q), fun b k q => (g.2.2.2.2.2 b k q).trans (f.2.2.2.2.2 b k q)⟩
theorem FX_m {S S' : Nat → Nat → Prop} (hS : ∀ b k, S b k → S' b k) (f : FX S h h1) : FX S' h h1 := FS_m hS f
theorem FX_J {S : Nat → Nat → Prop} (b k : Nat) (u : Int64) : FX S h (wJ h b k u) := ⟨rfl, rfl, rfl, rfl, fun _ _ _ => rfl, fun _ _ _ => rfl⟩
theorem FX_Jr {S : Nat → Nat → Prop} (b : Nat) (g : Nat → Int64) : FX S h (wJr h b g) := ⟨rfl, rfl, rfl, rfl, fun _ _ _ => rfl, fun _ _ _ => rfl⟩
def STp (b k : Nat) : Prop := (76 ≤ b ∧ b ≤ 87 ∧ k < 2) ∨ b = 103 ∨ b = 104
theorem G_tp (go : GO h xs L q) (gm : GM h q n D w c1 c2 c3 sv) (f : FX STp h h2) (gt : GTp h2) : GI h2 xs L := by
  obtain ⟨g1, g2, g3, g4, g5, g6, g7, g8⟩ := go
  have q6 := g2.1
  have G1 : GZ (hJ h (zJ h2)) xs L := g1
  have G2 : GN (hJ h (zJ h2)) q := g2
  have G3 : GD (hJ h (zJ h2)) q := g3
  have G4 : ∀ r, r < q → Sn (hJ h (zJ h2)) r := g4
  have G5 : GImg (hJ h (zJ h2)) q := g5
  have G6 : GX (hJ h (zJ h2)) := g6
  have G7 : GAct (hJ h (zJ h2)) := g7
  have G8 : GM (hJ h (zJ h2)) q n D w c1 c2 c3 sv := gm
  exact ⟨q, n, D, w, c1, c2, c3, sv, ⟨GZ_f (fun b k z => by unfold STp at z; unfold NZ SM; omega) f G1, GN_f (fun b k z => by unfold STp at z; omega) f G2, GD_f (fun b k z => by unfold STp at z; have := sA_n q6; omega) f G3, fun r hr => Sn_f (fun b k z => by unfold STp at z; have := sA_n (r := r) (by omega); omega) f (G4 r hr), GImg_f (fun b k z => by unfold STp at z; omega) f G5, GX_f (fun b k z => by unfold STp at z; omega) f G6, GAct_f (fun b k z => by unfold STp at z; omega) f G7, gt⟩, GM_f (fun b k z => by unfold STp at z; omega) f G8⟩
theorem T1_set (hi : i < 6) (gt : GTp h) (hln : ln ≤ 60) (e0 : zI h2 (76 + 2 * i) 0 = y) (e1 : zI h2 103 i = y) (ys : y = -1 ∨ ∃ s, s ≤ 4 ∧ y = nI s) (y0 : y = -1 → ln = 0) (e2 : zI h2 (76 + 2 * i) 1 = nI ln) (e3 : zI h2 104 i = nI ln) (eo : ∀ j, ¬ j = i → j < 6 → zI h2 (76 + 2 * j) 0 = zI h (76 + 2 * j) 0 ∧ zI h2 (76 + 2 * j) 1 = zI h (76 + 2 * j) 1 ∧ zI h2 103 j = zI h 103 j ∧ zI h2 104 j = zI h 104 j) (eJ : ∀ k, k < ln → zJ h2 (77 + 2 * i) k = zJ h2 105 (60 * i + k)) (eJo : ∀ j, ¬ j = i → j < 6 → ∀ k, k < 60 → zJ h2 (77 + 2 * j) k = zJ h (77 + 2 * j) k ∧ zJ h2 105 (60 * j + k) = zJ h 105 (60 * j + k)) : GTp h2 := by
  intro j hj
  by_cases e : j = i
  · subst e
    exact ⟨ln, hln, e0.trans e1.symm, by rw [e1]; exact ys, by rw [e1]; exact y0, e2, e3, eJ⟩
  · obtain ⟨l, l1, l2, l3, l4, l5, l6, l7⟩ := gt j hj
    obtain ⟨o1, o2, o3, o4⟩ := eo j e hj
    exact ⟨l, l1, by rw [o1, o3]; exact l2, by rw [o3]; exact l3, by rw [o3]; exact l4, by rw [o2]; exact l5, by rw [o4]; exact l6, fun k hk => by
      obtain ⟨a1, a2⟩ := eJo j e hj k (by omega)
      rw [a1, a2]; exact l7 k hk⟩
/-! become -/
theorem c_bec_lp (hT : zT h a = (6, 3)) (hR : zR h a 2 = .ref b) (hB : zT h b = (24, 60)) (hl : ln ≤ 60) : ∀ (m i : Nat) (h1 : zH), i + m = ln → FX (fun x k => x = a ∧ k < 2) h h1 → zI h1 a 1 = nI ln → (∀ c k, zJ h1 c k = if c = b ∧ k < i then 0 else zJ h c k) → ∃ h2, FX (fun _ _ => False) h1 h2 ∧ (∀ c k, zJ h2 c k = if c = b ∧ k < ln then 0 else zJ h c k) ∧ ∀ Q, zG d 603 21 [some (.ref a), some (.int y), some (.int z), some (.int (nI i))] [] h1 Q = Q none h2
  | 0, i, h1, e, f, e1, eJ => by
    have e : i = ln := by omega
    subst e
    refine ⟨h1, FX_of (FS_r _ _), eJ, fun Q => ?_⟩
    have t1 : zT h1 a = (6, 3) := by rw [f.1]; exact hT
    rw [g603_21]
    simp +decide only [Nat.reduceEqDiff, Nat.add_eq_left, Nat.left_eq_add, Nat.reduceAdd, Nat.reduceLeDiff, Nat.reduceMul, Nat.reduceSub, Nat.reduceLT, zlt8, zlt8_, zlt8n, zlt8n_, List.length_cons, List.length_nil, true_or, or_true, false_or, or_false, and_self, and_true, true_and, and_false, false_and, not_false_eq_true, not_true_eq_false, ite_true, ite_false, if_true, if_false, ite_not, zin, zpush_s, zpush_n, kl_int, kl_ref, kl_none, kl_kl, kl_long, kl_null, VR_i, VR_l, zT_wI, zT_wJ, zT_wR, zT_wIr, zT_wJr, zT_wRr, zI_wJ, zI_wR, zI_wJr, zI_wRr, zJ_wI, zJ_wR, zJ_wIr, zJ_wRr, zR_wI, zR_wJ, zR_wIr, zR_wJr, zN_wI, zN_wJ, zN_wR, zN_wIr, zN_wJr, zN_wRr, zZ_wI, zZ_wJ, zZ_wR, zZ_wIr, zZ_wJr, zZ_wRr, zI_wI, zJ_wJ, zR_wR, zI_wIr, zJ_wJr, zR_wRr, g603_0, g603_1, g603_2, g603_5, g603_6, g603_7, g603_8, g603_11, g603_13, g603_16, g603_19, g603_20, g603_22, g603_23, g603_26, g603_29, g603_30, g603_33, g603_34, g603_35, g603_36, g603_39, g603_42, t1, e1, i_le, Int32.lt_irrefl]
  | m + 1, i, h1, e, f, e1, eJ => by
    have t1 : zT h1 a = (6, 3) := by rw [f.1]; exact hT
    have t2 : zR h1 a 2 = .ref b := by rw [f.2.2.2.2.2 _ _ (by omega)]; exact hR
    have t3 : zT h1 b = (24, 60) := by rw [f.1]; exact hB
    obtain ⟨h2, f2, j2, q2⟩ := c_bec_lp hT hR hB hl m (i + 1) (wJ h1 b i 0) (by omega) (FX_t f (FX_J _ _ _)) e1 (fun c k => by
      rw [zJ_wJ]
      by_cases ec : c = b
      · subst ec
        rw [if_pos rfl, up_a, eJ]
        by_cases ek : k = i
        · rw [if_pos ek, if_pos ⟨rfl, by omega⟩]
        · rw [if_neg ek]
          by_cases el : k < i
          · rw [if_pos ⟨rfl, el⟩, if_pos ⟨rfl, by omega⟩]
          · rw [if_neg (fun z => el z.2), if_neg (fun z => by omega)]
      · rw [if_neg ec, eJ, if_neg (fun z => ec z.1), if_neg (fun z => ec z.1)])
    refine ⟨h2, FX_t (FX_J _ _ _) f2, j2, fun Q => ?_⟩
    have z1 := nI_pos (n := i) (by omega)
    have z2 := nI_clamp (n := i) (by omega)
    have z3 := nI_lt (a := i) (b := ln) (by omega) (by omega)
    have ki : nI i + 1 = nI (i + 1) := nI_1 i
    rw [g603_21, ← q2 Q]
    simp +decide only [Nat.reduceEqDiff, Nat.add_eq_left, Nat.left_eq_add, Nat.reduceAdd, Nat.reduceLeDiff, Nat.reduceMul, Nat.reduceSub, Nat.reduceLT, zlt8, zlt8_, zlt8n, zlt8n_, List.length_cons, List.length_nil, true_or, or_true, false_or, or_false, and_self, and_true, true_and, and_false, false_and, not_false_eq_true, not_true_eq_false, ite_true, ite_false, if_true, if_false, ite_not, zin, zpush_s, zpush_n, kl_int, kl_ref, kl_none, kl_kl, kl_long, kl_null, VR_i, VR_l, zT_wI, zT_wJ, zT_wR, zT_wIr, zT_wJr, zT_wRr, zI_wJ, zI_wR, zI_wJr, zI_wRr, zJ_wI, zJ_wR, zJ_wIr, zJ_wRr, zR_wI, zR_wJ, zR_wIr, zR_wJr, zN_wI, zN_wJ, zN_wR, zN_wIr, zN_wJr, zN_wRr, zZ_wI, zZ_wJ, zZ_wR, zZ_wIr, zZ_wJr, zZ_wRr, zI_wI, zJ_wJ, zR_wR, zI_wIr, zJ_wJr, zR_wRr, g603_0, g603_1, g603_2, g603_5, g603_6, g603_7, g603_8, g603_11, g603_13, g603_16, g603_19, g603_20, g603_22, g603_23, g603_26, g603_29, g603_30, g603_33, g603_34, g603_35, g603_36, g603_39, g603_42, t1, t2, t3, e1, i_le, z1, z2, z3, ki, show i < 60 by omega]
theorem c_become (hT : zT h a = (6, 3)) (hR : zR h a 2 = .ref b) (hB : zT h b = (24, 60)) (hl : ln ≤ 60) : ∃ h2, FX (fun x k => x = a ∧ k < 2) h h2 ∧ zI h2 a 0 = y ∧ zI h2 a 1 = nI ln ∧ (∀ c k, zJ h2 c k = if c = b ∧ k < ln then 0 else zJ h c k) ∧ ∀ Q, zCall (d + 1) 603 [.ref a, .int y, .int (nI ln)] h Q = Q none h2 := by
  have f : FS (fun x k => x = a ∧ k < 2) h (wI (wI h a 0 y) a 1 (nI ln)) := FS_t (FS_I _ ⟨rfl, by omega⟩) (FS_I _ ⟨rfl, by omega⟩)
  obtain ⟨h2, f2, j2, q2⟩ := c_bec_lp (d := d) (y := y) (z := nI ln) hT hR hB hl ln 0 (wI (wI h a 0 y) a 1 (nI ln)) (by omega) (FX_of f) (by rw [zI_wI, if_pos rfl, up_s]) (fun c k => by rw [if_neg (fun z => by omega)]; rfl)
  have q2' : ∀ Q, zG d 603 21 [some (.ref a), some (.int y), some (.int (nI ln)), some (.int 0)] [] (wI (wI h a 0 y) a 1 (nI ln)) Q = Q none h2 := q2
  have e1 : zmax (nI ln) 0 = nI ln := by unfold zmax; rw [if_neg (nI_pos (by omega))]
  have e2 : zmin (nI ln) 60 = nI ln := by
    unfold zmin
    have : ¬ 60 < nI ln := by rw [← i_le]; exact (nI_leI (b := 60) (by omega) (by omega)).mpr hl
    rw [if_neg this]
  refine ⟨h2, FX_t (FX_of f) (FX_m (fun b k z => z.elim) f2), ?_, ?_, j2, fun Q => ?_⟩
  · rw [f2.2.2.2.2.1 _ _ id]; show zI (wI (wI h a 0 y) a 1 (nI ln)) a 0 = y
    simp +decide only [zI_wI, if_true, if_false, up_a]
  · rw [f2.2.2.2.2.1 _ _ id]; show zI (wI (wI h a 0 y) a 1 (nI ln)) a 1 = nI ln
    simp +decide only [zI_wI, if_true, if_false, up_a]
  · simp +decide only [Nat.reduceEqDiff, Nat.add_eq_left, Nat.left_eq_add, Nat.reduceAdd, Nat.reduceLeDiff, Nat.reduceMul, Nat.reduceSub, Nat.reduceLT, zlt8, zlt8_, zlt8n, zlt8n_, List.length_cons, List.length_nil, true_or, or_true, false_or, or_false, and_self, and_true, true_and, and_false, false_and, not_false_eq_true, not_true_eq_false, ite_true, ite_false, if_true, if_false, ite_not, zin, zpush_s, zpush_n, kl_int, kl_ref, kl_none, kl_kl, kl_long, kl_null, VR_i, VR_l, zT_wI, zT_wJ, zT_wR, zT_wIr, zT_wJr, zT_wRr, zI_wJ, zI_wR, zI_wJr, zI_wRr, zJ_wI, zJ_wR, zJ_wIr, zJ_wRr, zR_wI, zR_wJ, zR_wIr, zR_wJr, zN_wI, zN_wJ, zN_wR, zN_wIr, zN_wJr, zN_wRr, zZ_wI, zZ_wJ, zZ_wR, zZ_wIr, zZ_wJr, zZ_wRr, zI_wI, zJ_wJ, zR_wR, zI_wIr, zJ_wJr, zR_wRr, k603, g603_0, g603_1, g603_2, g603_5, g603_6, g603_7, g603_8, g603_11, g603_13, g603_16, g603_19, g603_20, g603_22, g603_23, g603_26, g603_29, g603_30, g603_33, g603_34, g603_35, g603_36, g603_39, g603_42, hT, e1, e2, q2']
theorem ix60 {t j : Nat} (ht : t < 6) (hj : j < 60) : ¬ (60 * nI t + nI j) < 0 ∧ (60 * nI t + nI j).toNatClampNeg = 60 * t + j := by
  have e : 60 * nI t + nI j = nI (60 * t + j) := by rw [show (60 : Int32) = nI 60 from rfl, pk_mul, nI_add]
  rw [e]
  exact ⟨nI_pos (by omega), nI_clamp (by omega)⟩
theorem m_tp_lp (ht : t < 6) : ∀ (m j : Nat) (h1 : zH), j + m = 60 → MS h1 → ∃ h2, FX (fun _ _ => False) h1 h2 ∧ (∀ c k, zJ h2 c k = if c = 105 ∧ 60 * t + j ≤ k ∧ k < 60 * t + 60 then 0 else zJ h1 c k) ∧ ∀ Q, zG d 868 67 [some (.ref 88), some (.int (nI t)), some (.int y), some (.int z), some (.int (nI j))] [] h1 Q = Q (some (.int 1)) h2
  | 0, j, h1, e, hM => by
    have e : j = 60 := by omega
    subst e
    refine ⟨h1, FX_of (FS_r _ _), fun c k => by rw [if_neg (fun z => by omega)], fun Q => ?_⟩
    rw [g868_67]
    simp +decide only [Nat.reduceEqDiff, Nat.add_eq_left, Nat.left_eq_add, Nat.reduceAdd, Nat.reduceLeDiff, Nat.reduceMul, Nat.reduceSub, Nat.reduceLT, zlt8, zlt8_, zlt8n, zlt8n_, List.length_cons, List.length_nil, true_or, or_true, false_or, or_false, and_self, and_true, true_and, and_false, false_and, not_false_eq_true, not_true_eq_false, ite_true, ite_false, if_true, if_false, ite_not, zin, zpush_s, zpush_n, kl_int, kl_ref, kl_none, kl_kl, kl_long, kl_null, VR_i, VR_l, zT_wI, zT_wJ, zT_wR, zT_wIr, zT_wJr, zT_wRr, zI_wJ, zI_wR, zI_wJr, zI_wRr, zJ_wI, zJ_wR, zJ_wIr, zJ_wRr, zR_wI, zR_wJ, zR_wIr, zR_wJr, zN_wI, zN_wJ, zN_wR, zN_wIr, zN_wJr, zN_wRr, zZ_wI, zZ_wJ, zZ_wR, zZ_wIr, zZ_wJr, zZ_wRr, zI_wI, zJ_wJ, zR_wR, zI_wIr, zJ_wJr, zR_wRr, g868_0, g868_1, g868_4, g868_7, g868_8, g868_9, g868_10, g868_11, g868_12, g868_15, g868_18, g868_19, g868_22, g868_23, g868_25, g868_28, g868_30, g868_31, g868_32, g868_35, g868_36, g868_39, g868_41, g868_42, g868_43, g868_46, g868_47, g868_48, g868_49, g868_50, g868_53, g868_54, g868_55, g868_58, g868_59, g868_62, g868_63, g868_64, g868_65, g868_69, g868_71, g868_74, g868_75, g868_78, g868_80, g868_81, g868_82, g868_84, g868_85, g868_86, g868_87, g868_90, g868_93, g868_94, i_le, show ¬ nI 60 < 60 by decide]
  | m + 1, j, h1, e, hM => by
    obtain ⟨h2, f2, j2, q2⟩ := m_tp_lp ht m (j + 1) (wJ h1 105 (60 * t + j) 0) (by omega) hM
    refine ⟨h2, FX_t (FX_J _ _ _) f2, fun c k => ?_, fun Q => ?_⟩
    · rw [j2, zJ_wJ]
      by_cases ec : c = 105
      · subst ec
        rw [if_pos rfl, up_a]
        by_cases a1 : k = 60 * t + j
        · rw [if_neg (fun z => by omega), if_pos a1, if_pos ⟨rfl, by omega⟩]
        · by_cases a2 : 60 * t + (j + 1) ≤ k ∧ k < 60 * t + 60
          · rw [if_pos ⟨rfl, a2⟩, if_pos ⟨rfl, by omega⟩]
          · rw [if_neg (fun z => a2 z.2), if_neg a1, if_neg (fun z => by omega)]
      · rw [if_neg (fun z => ec z.1), if_neg ec, if_neg (fun z => ec z.1)]
    · obtain ⟨i1, i2⟩ := ix60 (t := t) (j := j) ht (by omega)
      have z3 : nI j < 60 := nI_lt (a := j) (b := 60) (by omega) (by omega)
      have ki : nI j + 1 = nI (j + 1) := nI_1 j
      obtain ⟨m88, m89, m90, m91, m92, m93, m94, m95, m96, m97, m98, m99, m100, m101, m102, m103, m104, m105, m106, n0, n1, n2, n5, n7, n8, n10, n17, n18, n19, n20, n21, n22, n23, n25, n26, n27, n28⟩ := hM
      rw [g868_67, ← q2 Q]
      simp +decide only [Nat.reduceEqDiff, Nat.add_eq_left, Nat.left_eq_add, Nat.reduceAdd, Nat.reduceLeDiff, Nat.reduceMul, Nat.reduceSub, Nat.reduceLT, zlt8, zlt8_, zlt8n, zlt8n_, List.length_cons, List.length_nil, true_or, or_true, false_or, or_false, and_self, and_true, true_and, and_false, false_and, not_false_eq_true, not_true_eq_false, ite_true, ite_false, if_true, if_false, ite_not, zin, zpush_s, zpush_n, kl_int, kl_ref, kl_none, kl_kl, kl_long, kl_null, VR_i, VR_l, zT_wI, zT_wJ, zT_wR, zT_wIr, zT_wJr, zT_wRr, zI_wJ, zI_wR, zI_wJr, zI_wRr, zJ_wI, zJ_wR, zJ_wIr, zJ_wRr, zR_wI, zR_wJ, zR_wIr, zR_wJr, zN_wI, zN_wJ, zN_wR, zN_wIr, zN_wJr, zN_wRr, zZ_wI, zZ_wJ, zZ_wR, zZ_wIr, zZ_wJr, zZ_wRr, zI_wI, zJ_wJ, zR_wR, zI_wIr, zJ_wJr, zR_wRr, g868_0, g868_1, g868_4, g868_7, g868_8, g868_9, g868_10, g868_11, g868_12, g868_15, g868_18, g868_19, g868_22, g868_23, g868_25, g868_28, g868_30, g868_31, g868_32, g868_35, g868_36, g868_39, g868_41, g868_42, g868_43, g868_46, g868_47, g868_48, g868_49, g868_50, g868_53, g868_54, g868_55, g868_58, g868_59, g868_62, g868_63, g868_64, g868_65, g868_69, g868_71, g868_74, g868_75, g868_78, g868_80, g868_81, g868_82, g868_84, g868_85, g868_86, g868_87, g868_90, g868_93, g868_94, m88, m89, m90, m91, m92, m93, m94, m95, m96, m97, m98, m99, m100, m101, m102, m103, m104, m105, m106, n0, n1, n2, n5, n7, n8, n10, n17, n18, n19, n20, n21, n22, n23, n25, n26, n27, n28, i_le, z3, i1, i2, ki, show 60 * t + j < 360 by omega]
