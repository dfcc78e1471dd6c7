-- needs 56.mut
variable {n D D2 q L c1 c2 c3 a b t s r d K k kd i j ln c m M : Nat} {h h1 h2 : zH} {w w1 : zW0} {sv : Value} {xs : zW0} {py fp fo x y z u : Int32} {ex : zW0 → Int32}
def SRc (b k : Nat) : Prop := SRd b k ∨ SC b k
theorem GM_up2 (go : GO h xs L q) (gm : GM h q n D w c1 c2 c3 sv) (f : FS SRc h h2) (e89 : zI h2 89 = w1) (hv : Rv h2 1 a w1 (-1) sv) (ew : ∀ k, 63 ≤ k → w1 k = w k) (ok : sOK w1 a D2) (hD : D2 ≤ 9999) (tb : sTB w1 a D2) (kd : sKd w1 a) (hna : n ≤ a) : GI h2 xs L := by
  obtain ⟨m1, m2, m3, m4, m5, m6⟩ := gm
  have hS : ∀ b k, SRc b k → NG b k := fun b k z => by unfold SRc SRd SC at z; unfold NG SY; omega
  refine ⟨q, a, D2, w1, c1, c2, c3, sv, GO_f hS f go, e89, hv, NR_f f (fun c k h1 h2 z => by unfold SRc SRd SC at z; omega) (fun k hk => ew k (by omega)) m3, ⟨ok, hD, tb, kd, ?_⟩, ?_, ?_⟩
  · obtain ⟨p1, p2, p3, p4, p5, p6, p7, p8, p9⟩ := PN_w (fun k hk => ew k (by omega)) m4.2.2.2.2
    exact ⟨p1, p2, p3, p4, p5, p6, fun i hi => ⟨by obtain ⟨t, ht, e⟩ := (p7 i hi).1; exact ⟨t, by omega, e⟩, (p7 i hi).2⟩, fun i hi => by obtain ⟨k, k1, k2, k3⟩ := p8 i hi; exact ⟨k, k1, k2, fun z => by obtain ⟨t, ht, e⟩ := k3 z; exact ⟨t, by omega, e⟩⟩, fun i hi => by obtain ⟨t, ht, e⟩ := p9 i hi; exact ⟨t, by omega, e⟩⟩
  · unfold SVp at m5 ⊢; rw [ew 63 (by omega)]; exact m5
  · rw [f.2.2.2.2.1 _ _ (by unfold SRc SRd SC; omega)]; exact m6
theorem sKd_days (hk : sKd w n) (hn : n ≤ 6) (K : Nat) : sKd (sDays py ex n K w) n := by
  have g : ∀ t, t < n → sDays py ex n K w (10 * t) = w (10 * t) := fun t ht => by
    have day : ∀ v : zW0, sDay py ex n v (10 * t) = v (10 * t) := fun v => by
      unfold sDay
      rw [up_n _ _ (by omega)]
      refine lp_i (f := sGw py ex n) (fun _ u => u (10 * t) = v (10 * t)) n 0 v rfl (fun j h1 h2 u hu => ?_)
      rw [← hu]
      have e1 : ∀ v : zW0, sG1 v j (10 * t) = v (10 * t) := fun v => up_n _ _ (by omega)
      have e2 : ∀ v : zW0, sG2 v j (10 * t) = v (10 * t) := fun v => by unfold sG2; split <;> first | rfl | exact up_n _ _ (by omega)
      have e3 : ∀ (v : zW0) o, sG3 v j o (10 * t) = v (10 * t) := fun v o => by unfold sG3; rw [up_n _ _ (by omega), up_n _ _ (by omega), up_n _ _ (by omega), up_n _ _ (by omega)]
      have e4 : ∀ (v : zW0) o, sG4 v j o (10 * t) = v (10 * t) := fun v o => by unfold sG4; split <;> first | rfl | exact e3 v o
      unfold sGw
      split
      · rfl
      · unfold sGo
        split
        · rw [e4, e2, e1]
        · rw [e2, e1]
    exact lp_i (f := fun _ w => sDay py ex n w) (fun _ u => u (10 * t) = w (10 * t)) K 0 w rfl (fun j h1 h2 u hu => by rw [day]; exact hu)
  exact fun t ht => by rw [g t ht]; exact hk t ht
theorem P_pass (g : GI h xs L) (x : Int32) : Pr h xs L 711 840 [.int x] := by
  have g0 := g
  obtain ⟨q, n, D, w, c1, c2, c3, sv, go, gm⟩ := g
  obtain ⟨py, ex, se, tx⟩ := SV_of go gm.2.2.2.2.1
  have C := G_CQ go gm se
  have M := G_mQ go gm tx
  have hn := gm.2.2.2.1.1.2.1
  have ok := gm.2.2.2.1.1
  have tb := gm.2.2.2.1.2.2.1
  have sk := gm.2.2.2.1.2.2.2.1
  have hD := gm.2.2.2.1.2.1
  have m88 := M.1.1.1
  have b0 := go.1.2.1.1
  have v3 := gm.2.1.2.2.1
  have wd := ok.2.2.1
  obtain ⟨k0, j0, j1, j2, j3, j4, j6, j8, j9⟩ := id go.1.1
  by_cases hx : ¬ x < 0 ∧ ¬ 60 < x
  · obtain ⟨K, hK, rfl⟩ := in_of (M := 60) hx.1 hx.2 (by omega)
    have ea : w 62 + nI K = nI (D + K) := by rw [wd, nI_add]
    by_cases hd : D + K ≤ 9999
    · have zz : ¬ 9999 < nI (D + K) := nI_nlt (a := 9999) (by omega) (by omega)
      obtain ⟨h1, f1, r1, g1⟩ := c_goOn (d := 54) (a := 1) (K := K) (by omega) (by omega) (show D + K < 2 ^ 31 by omega) C.2.1 gm.2.1 ok se rfl
      have r1 : Rv h1 1 n (sDays py ex n K w) (-1) sv := r1
      have M1 : mQ h1 n D w py ex (-1) := by
        obtain ⟨m1, m2, m3, m4, m5⟩ := M
        exact ⟨MO_g (fun b k z => by unfold SR at z; omega) f1 m1, by rw [← m2]; exact funext fun k => f1.2.2.2.2.1 _ _ (by unfold SR; omega), m3, Tx_f (fun b k z => by unfold SR at z; omega) f1 rfl m4, by rw [f1.2.2.2.2.1 _ _ (by unfold SR; omega)]; exact m5⟩
      obtain ⟨h2, f2, m2, g2⟩ := m_days (d := 34) (K := K) M1 hK (by omega) rfl
      have m2 : mQ h2 n (D + K) (sDays py ex n K w) py ex (-1) := m2
      have ok2 := sDays_ok (p := py) (ex := ex) ok K
      have F : FS SRc h h2 := FS_t (FS_m (fun b k z => by unfold SR at z; unfold SRc SRd; omega) f1) (FS_m (fun b k z => by unfold SN at z; unfold SRc SRd SC; omega) f2)
      have k1 := RS_R f1 C.2.1 (Or.inl rfl)
      have k10 := k1.1
      have k0 : zT h1 0 = (7, 10) := by rw [f1.1]; exact k0
      have j0' : zR h1 0 0 = .ref 1 := by rw [f1.2.2.2.2.2 _ _ (by unfold SR; omega)]; exact j0
      have d1 : zI h1 1 9 = nI (D + K) := by rw [r1.2.2.1]; exact ok2.2.2.1
      have d2 := ok2.2.2.1
      have e2 := m2.2.1
      refine ⟨.int (nI (D + K)), h1, h2, Fr_f (fun k z => by unfold SR at z; omega) f1, fun Q => ?_, fun Q => ?_, GM_up2 (a := n) go gm F e2 (Rv_f (S := SN) (fun c k z => by unfold SN at z; omega) f2 hn r1) (fun k hk => sDays_out _ hn K hk) ok2 hd (sDays_tb ok tb K) (sKd_days sk hn K) (Nat.le_refl _)⟩
      · have t0 := C.1.1
        simp +decide only [Nat.reduceEqDiff, Nat.add_eq_left, Nat.left_eq_add, Nat.reduceAdd, Nat.reduceLeDiff, Nat.reduceMul, Nat.reduceSub, Nat.reduceLT, zlt8, zlt8_, zlt8n, zlt8n_, List.length_cons, List.length_nil, true_or, or_true, false_or, or_false, and_self, and_true, true_and, and_false, false_and, not_false_eq_true, not_true_eq_false, ite_true, ite_false, if_true, if_false, ite_not, zin, zpush_s, zpush_n, kl_int, kl_ref, kl_none, kl_kl, kl_long, kl_null, VR_i, VR_l, zT_wI, zT_wJ, zT_wR, zT_wIr, zT_wJr, zT_wRr, zI_wJ, zI_wR, zI_wJr, zI_wRr, zJ_wI, zJ_wR, zJ_wIr, zJ_wRr, zR_wI, zR_wJ, zR_wIr, zR_wJr, zN_wI, zN_wJ, zN_wR, zN_wIr, zN_wJr, zN_wRr, zZ_wI, zZ_wJ, zZ_wR, zZ_wIr, zZ_wJr, zZ_wRr, zI_wI, zJ_wJ, zR_wR, zI_wIr, zJ_wJr, zR_wRr, k711, g711_0, g711_1, g711_3, g711_6, g711_9, g711_11, g711_12, g711_13, g711_16, g711_19, g711_20, g711_21, g711_24, g711_27, g711_29, g711_30, g711_31, g711_34, g711_35, g711_38, g711_39, g711_42, g711_45, k0, j0, j1, j2, j3, j4, j6, j8, j9, t0, c_within, i_le, bI_t, hx.1, hx.2, b0, v3, ea, zz, g1, k10, j0', d1]
      · have k88 := M1.1.1.1
        have e1 := M1.2.1
        obtain ⟨a0, a1, a2, a3, a4, a5, a6, a7, a8, a9, a10, a11, a12, a13, a14, a15, a16, a17, a18, cc0, -⟩ := m2.1.1
        obtain ⟨m88, m89, m90, m91, m92, m93, m94, m95, m96, m97, m98, m99, m100, m101, m102, m103, m104, m105, m106, n0, n1, n2, n5, n7, n8, n10, n17, n18, n19, n20, n21, n22, n23, n25, n26, n27, n28⟩ := M1.1.1
        simp +decide only [Nat.reduceEqDiff, Nat.add_eq_left, Nat.left_eq_add, Nat.reduceAdd, Nat.reduceLeDiff, Nat.reduceMul, Nat.reduceSub, Nat.reduceLT, zlt8, zlt8_, zlt8n, zlt8n_, List.length_cons, List.length_nil, true_or, or_true, false_or, or_false, and_self, and_true, true_and, and_false, false_and, not_false_eq_true, not_true_eq_false, ite_true, ite_false, if_true, if_false, ite_not, zin, zpush_s, zpush_n, kl_int, kl_ref, kl_none, kl_kl, kl_long, kl_null, VR_i, VR_l, zT_wI, zT_wJ, zT_wR, zT_wIr, zT_wJr, zT_wRr, zI_wJ, zI_wR, zI_wJr, zI_wRr, zJ_wI, zJ_wR, zJ_wIr, zJ_wRr, zR_wI, zR_wJ, zR_wIr, zR_wJr, zN_wI, zN_wJ, zN_wR, zN_wIr, zN_wJr, zN_wRr, zZ_wI, zZ_wJ, zZ_wR, zZ_wIr, zZ_wJr, zZ_wRr, zI_wI, zJ_wJ, zR_wR, zI_wIr, zJ_wJr, zR_wRr, k840, g840_0, g840_1, g840_2, g840_4, g840_7, g840_10, g840_12, g840_13, g840_14, g840_17, g840_19, g840_20, g840_21, g840_22, g840_25, g840_28, g840_30, g840_31, g840_32, g840_33, g840_36, g840_37, g840_40, g840_42, g840_43, m88, m89, m90, m91, m92, m93, m94, m95, m96, m97, m98, m99, m100, m101, m102, m103, m104, m105, m106, n0, n1, n2, n5, n7, n8, n10, n17, n18, n19, n20, n21, n22, n23, n25, n26, n27, n28, a0, a1, cc0, i_le, c_isIn, bI_t, hx.1, hx.2, e1, ea, zz, g2, e2, d2, show Int32.toNatClampNeg 62 = 62 by decide, show ¬ (62 : Int32) < 0 by decide]
    · have zz : 9999 < nI (D + K) := nI_lt (a := 9999) (by omega) (by omega)
      refine Pr_same (r := .int (-3)) g0 (fun Q => ?_) (fun Q => ?_)
      · simp +decide only [Nat.reduceEqDiff, Nat.add_eq_left, Nat.left_eq_add, Nat.reduceAdd, Nat.reduceLeDiff, Nat.reduceMul, Nat.reduceSub, Nat.reduceLT, zlt8, zlt8_, zlt8n, zlt8n_, List.length_cons, List.length_nil, true_or, or_true, false_or, or_false, and_self, and_true, true_and, and_false, false_and, not_false_eq_true, not_true_eq_false, ite_true, ite_false, if_true, if_false, ite_not, zin, zpush_s, zpush_n, kl_int, kl_ref, kl_none, kl_kl, kl_long, kl_null, VR_i, VR_l, zT_wI, zT_wJ, zT_wR, zT_wIr, zT_wJr, zT_wRr, zI_wJ, zI_wR, zI_wJr, zI_wRr, zJ_wI, zJ_wR, zJ_wIr, zJ_wRr, zR_wI, zR_wJ, zR_wIr, zR_wJr, zN_wI, zN_wJ, zN_wR, zN_wIr, zN_wJr, zN_wRr, zZ_wI, zZ_wJ, zZ_wR, zZ_wIr, zZ_wJr, zZ_wRr, zI_wI, zJ_wJ, zR_wR, zI_wIr, zJ_wJr, zR_wRr, k711, g711_0, g711_1, g711_3, g711_6, g711_9, g711_11, g711_12, g711_13, g711_16, g711_19, g711_20, g711_21, g711_24, g711_27, g711_29, g711_30, g711_31, g711_34, g711_35, g711_38, g711_39, g711_42, g711_45, k0, j0, j1, j2, j3, j4, j6, j8, j9, c_within, i_le, bI_t, hx.1, hx.2, b0, v3, ea, zz]
      · have e1 := gm.1
        obtain ⟨m88, m89, m90, m91, m92, m93, m94, m95, m96, m97, m98, m99, m100, m101, m102, m103, m104, m105, m106, n0, n1, n2, n5, n7, n8, n10, n17, n18, n19, n20, n21, n22, n23, n25, n26, n27, n28⟩ := M.1.1
        simp +decide only [Nat.reduceEqDiff, Nat.add_eq_left, Nat.left_eq_add, Nat.reduceAdd, Nat.reduceLeDiff, Nat.reduceMul, Nat.reduceSub, Nat.reduceLT, zlt8, zlt8_, zlt8n, zlt8n_, List.length_cons, List.length_nil, true_or, or_true, false_or, or_false, and_self, and_true, true_and, and_false, false_and, not_false_eq_true, not_true_eq_false, ite_true, ite_false, if_true, if_false, ite_not, zin, zpush_s, zpush_n, kl_int, kl_ref, kl_none, kl_kl, kl_long, kl_null, VR_i, VR_l, zT_wI, zT_wJ, zT_wR, zT_wIr, zT_wJr, zT_wRr, zI_wJ, zI_wR, zI_wJr, zI_wRr, zJ_wI, zJ_wR, zJ_wIr, zJ_wRr, zR_wI, zR_wJ, zR_wIr, zR_wJr, zN_wI, zN_wJ, zN_wR, zN_wIr, zN_wJr, zN_wRr, zZ_wI, zZ_wJ, zZ_wR, zZ_wIr, zZ_wJr, zZ_wRr, zI_wI, zJ_wJ, zR_wR, zI_wIr, zJ_wJr, zR_wRr, k840, g840_0, g840_1, g840_2, g840_4, g840_7, g840_10, g840_12, g840_13, g840_14, g840_17, g840_19, g840_20, g840_21, g840_22, g840_25, g840_28, g840_30, g840_31, g840_32, g840_33, g840_36, g840_37, g840_40, g840_42, g840_43, m88, m89, m90, m91, m92, m93, m94, m95, m96, m97, m98, m99, m100, m101, m102, m103, m104, m105, m106, n0, n1, n2, n5, n7, n8, n10, n17, n18, n19, n20, n21, n22, n23, n25, n26, n27, n28, i_le, c_isIn, bI_t, hx.1, hx.2, e1, ea, zz, show Int32.toNatClampNeg 62 = 62 by decide, show ¬ (62 : Int32) < 0 by decide]
  · exact Pr_same (r := .int (-2)) g0 (fun Q => by simp +decide only [Nat.reduceEqDiff, Nat.add_eq_left, Nat.left_eq_add, Nat.reduceAdd, Nat.reduceLeDiff, Nat.reduceMul, Nat.reduceSub, Nat.reduceLT, zlt8, zlt8_, zlt8n, zlt8n_, List.length_cons, List.length_nil, true_or, or_true, false_or, or_false, and_self, and_true, true_and, and_false, false_and, not_false_eq_true, not_true_eq_false, ite_true, ite_false, if_true, if_false, ite_not, zin, zpush_s, zpush_n, kl_int, kl_ref, kl_none, kl_kl, kl_long, kl_null, VR_i, VR_l, zT_wI, zT_wJ, zT_wR, zT_wIr, zT_wJr, zT_wRr, zI_wJ, zI_wR, zI_wJr, zI_wRr, zJ_wI, zJ_wR, zJ_wIr, zJ_wRr, zR_wI, zR_wJ, zR_wIr, zR_wJr, zN_wI, zN_wJ, zN_wR, zN_wIr, zN_wJr, zN_wRr, zZ_wI, zZ_wJ, zZ_wR, zZ_wIr, zZ_wJr, zZ_wRr, zI_wI, zJ_wJ, zR_wR, zI_wIr, zJ_wJr, zR_wRr, k711, g711_0, g711_1, g711_3, g711_6, g711_9, g711_11, g711_12, g711_13, g711_16, g711_19, g711_20, g711_21, g711_24, g711_27, g711_29, g711_30, g711_31, g711_34, g711_35, g711_38, g711_39, g711_42, g711_45, c_within, i_le, bI_f hx]) (fun Q => by simp +decide only [Nat.reduceEqDiff, Nat.add_eq_left, Nat.left_eq_add, Nat.reduceAdd, Nat.reduceLeDiff, Nat.reduceMul, Nat.reduceSub, Nat.reduceLT, zlt8, zlt8_, zlt8n, zlt8n_, List.length_cons, List.length_nil, true_or, or_true, false_or, or_false, and_self, and_true, true_and, and_false, false_and, not_false_eq_true, not_true_eq_false, ite_true, ite_false, if_true, if_false, ite_not, zin, zpush_s, zpush_n, kl_int, kl_ref, kl_none, kl_kl, kl_long, kl_null, VR_i, VR_l, zT_wI, zT_wJ, zT_wR, zT_wIr, zT_wJr, zT_wRr, zI_wJ, zI_wR, zI_wJr, zI_wRr, zJ_wI, zJ_wR, zJ_wIr, zJ_wRr, zR_wI, zR_wJ, zR_wIr, zR_wJr, zN_wI, zN_wJ, zN_wR, zN_wIr, zN_wJr, zN_wRr, zZ_wI, zZ_wJ, zZ_wR, zZ_wIr, zZ_wJr, zZ_wRr, zI_wI, zJ_wJ, zR_wR, zI_wIr, zJ_wJr, zR_wRr, k840, g840_0, g840_1, g840_2, g840_4, g840_7, g840_10, g840_12, g840_13, g840_14, g840_17, g840_19, g840_20, g840_21, g840_22, g840_25, g840_28, g840_30, g840_31, g840_32, g840_33, g840_36, g840_37, g840_40, g840_42, g840_43, c_isIn, bI_f hx])
/-! notes -/
theorem Rv_w (e : ∀ k, k < 63 → w1 k = w k) (hn : n ≤ 6) (hv : Rv h a n w fp sv) : Rv h a n w1 fp sv := by
  obtain ⟨v1, v2, v3, v4, v5, v6⟩ := hv
  refine ⟨v1, by rw [e _ (by omega)]; exact v2, by rw [e _ (by omega)]; exact v3, v4, v5, fun t ht => ?_⟩
  obtain ⟨u1, u2, u3, u4, u5, u6, u7⟩ := v6 t ht
  exact ⟨by rw [e _ (by omega)]; exact u1, by rw [e _ (by omega)]; exact u2, by rw [e _ (by omega)]; exact u3, by rw [e _ (by omega)]; exact u4, by rw [e _ (by omega)]; exact u5, by rw [e _ (by omega)]; exact u6, fun j hj => by rw [e _ (by omega)]; exact u7 j hj⟩
theorem Bun_w (e : ∀ k, k < 63 → w1 k = w k) (b : Bun w n D c1 c2 c3) {d1 d2 d3 : Nat} (p : PN w1 n d1 d2 d3) : Bun w1 n D d1 d2 d3 := by
  obtain ⟨⟨o1, o2, o3, o4⟩, hD, tb, sk, -⟩ := b
  exact ⟨⟨by rw [e _ (by omega)]; exact o1, o2, by rw [e _ (by omega)]; exact o3, fun t ht => by rw [e _ (by omega)]; exact o4 t ht⟩, hD, fun t ht => s1_e (e _ (by omega)) (e _ (by omega)) (e _ (by omega)) (tb t ht), fun t ht => by rw [e _ (by omega)]; exact sk t ht, p⟩
/-- the class's notes, and the reference's row -/
def SNt (b k : Nat) : Prop := (45 ≤ b ∧ b ≤ 55 ∧ ¬ b = 48 ∧ ¬ b = 52) ∨ ((b = 44 ∨ b = 48 ∨ b = 52) ∧ k = 3) ∨ b = 89
theorem GM_nt (go : GO h xs L q) (gm : GM h q n D w c1 c2 c3 sv) {d1 d2 d3 : Nat} (f : FS SNt h h2) (e89 : zI h2 89 = w1) (nr : NR h2 43 w1 d1 d2 d3) (ew : ∀ k, k < 64 → w1 k = w k) (p : PN w1 n d1 d2 d3) : GI h2 xs L := by
  obtain ⟨m1, m2, m3, m4, m5, m6⟩ := gm
  have hS : ∀ b k, SNt b k → NG b k := fun b k z => by unfold SNt at z; unfold NG SY; omega
  refine ⟨q, n, D, w1, d1, d2, d3, sv, GO_f hS f go, e89, Rv_w (fun k hk => ew k (by omega)) m4.1.2.1 (Rv_f (fun c k z => by unfold SNt at z; omega) f m4.1.2.1 m2), nr, Bun_w (fun k hk => ew k (by omega)) m4 p, ?_, ?_⟩
  · unfold SVp at m5 ⊢; rw [ew 63 (by omega)]; exact m5
  · rw [f.2.2.2.2.1 _ _ (by unfold SNt; omega)]; exact m6
theorem c_radd (ws : WS h c M) (e3 : zI h c 3 = nI m) (hM : M < 1000) (hm : m ≤ M) (Q : zQq) : zCall (d + 1) 303 [.ref c, .int x, .int y, .int z] h Q = if m < M then Q (some (.int (nI (m + 1)))) (wI (wI (wI (wI h (c + 1) m x) (c + 2) m y) (c + 3) m z) c 3 (nI (m + 1))) else Q (some (.int (-4))) h := by
  obtain ⟨a3, a4, a5, a6, a7, a8, a9⟩ := ws
  have eo : Int32.ofNat M = nI M := rfl
  by_cases q : m < M
  · have z1 := nI_pos (n := m) (by omega)
    have z2 := nI_clamp (n := m) (by omega)
    have z3 := nI_lt (a := m) (b := M) q (by omega)
    have n1 : ¬ c = c + 1 := by omega
    have n2 : ¬ c = c + 2 := by omega
    have n3 : ¬ c = c + 3 := by omega
    rw [if_pos q]
    simp +decide only [Nat.reduceEqDiff, Nat.add_eq_left, Nat.left_eq_add, Nat.reduceAdd, Nat.reduceLeDiff, Nat.reduceMul, Nat.reduceSub, Nat.reduceLT, zlt8, zlt8_, zlt8n, zlt8n_, List.length_cons, List.length_nil, true_or, or_true, false_or, or_false, and_self, and_true, true_and, and_false, false_and, not_false_eq_true, not_true_eq_false, ite_true, ite_false, if_true, if_false, ite_not, zin, zpush_s, zpush_n, kl_int, kl_ref, kl_none, kl_kl, kl_long, kl_null, VR_i, VR_l, zT_wI, zT_wJ, zT_wR, zT_wIr, zT_wJr, zT_wRr, zI_wJ, zI_wR, zI_wJr, zI_wRr, zJ_wI, zJ_wR, zJ_wIr, zJ_wRr, zR_wI, zR_wJ, zR_wIr, zR_wJr, zN_wI, zN_wJ, zN_wR, zN_wIr, zN_wJr, zN_wRr, zZ_wI, zZ_wJ, zZ_wR, zZ_wIr, zZ_wJr, zZ_wRr, zI_wI, zJ_wJ, zR_wR, zI_wIr, zJ_wJr, zR_wRr, k303, g303_0, g303_1, g303_4, g303_5, g303_8, g303_9, g303_12, g303_14, g303_15, g303_16, g303_19, g303_20, g303_23, g303_24, g303_25, g303_26, g303_29, g303_30, g303_33, g303_34, g303_35, g303_36, g303_39, g303_40, g303_43, g303_44, g303_45, g303_46, g303_47, g303_50, g303_51, g303_52, g303_55, g303_56, g303_59, a3, a4, a5, a6, a7, a8, a9, e3, eo, z1, z2, z3, q, n1, n2, n3, nI_1, up_a]
  · have e : m = M := by omega
    subst e
    rw [if_neg q]
    simp +decide only [Nat.reduceEqDiff, Nat.add_eq_left, Nat.left_eq_add, Nat.reduceAdd, Nat.reduceLeDiff, Nat.reduceMul, Nat.reduceSub, Nat.reduceLT, zlt8, zlt8_, zlt8n, zlt8n_, List.length_cons, List.length_nil, true_or, or_true, false_or, or_false, and_self, and_true, true_and, and_false, false_and, not_false_eq_true, not_true_eq_false, ite_true, ite_false, if_true, if_false, ite_not, zin, zpush_s, zpush_n, kl_int, kl_ref, kl_none, kl_kl, kl_long, kl_null, VR_i, VR_l, zT_wI, zT_wJ, zT_wR, zT_wIr, zT_wJr, zT_wRr, zI_wJ, zI_wR, zI_wJr, zI_wRr, zJ_wI, zJ_wR, zJ_wIr, zJ_wRr, zR_wI, zR_wJ, zR_wIr, zR_wJr, zN_wI, zN_wJ, zN_wR, zN_wIr, zN_wJr, zN_wRr, zZ_wI, zZ_wJ, zZ_wR, zZ_wIr, zZ_wJr, zZ_wRr, zI_wI, zJ_wJ, zR_wR, zI_wIr, zJ_wJr, zR_wRr, k303, g303_0, g303_1, g303_4, g303_5, g303_8, g303_9, g303_12, g303_14, g303_15, g303_16, g303_19, g303_20, g303_23, g303_24, g303_25, g303_26, g303_29, g303_30, g303_33, g303_34, g303_35, g303_36, g303_39, g303_40, g303_43, g303_44, g303_45, g303_46, g303_47, g303_50, g303_51, g303_52, g303_55, g303_56, g303_59, a3, a4, a5, a6, a7, a8, a9, e3, eo, Int32.lt_irrefl]
theorem c_rempty (ws : WS h c M) (Q : zQq) : zCall (d + 1) 302 [.ref c] h Q = Q (some (.int 0)) (wI h c 3 0) := by
  have a3 := ws.1
  simp +decide only [Nat.reduceEqDiff, Nat.add_eq_left, Nat.left_eq_add, Nat.reduceAdd, Nat.reduceLeDiff, Nat.reduceMul, Nat.reduceSub, Nat.reduceLT, zlt8, zlt8_, zlt8n, zlt8n_, List.length_cons, List.length_nil, true_or, or_true, false_or, or_false, and_self, and_true, true_and, and_false, false_and, not_false_eq_true, not_true_eq_false, ite_true, ite_false, if_true, if_false, ite_not, zin, zpush_s, zpush_n, kl_int, kl_ref, kl_none, kl_kl, kl_long, kl_null, VR_i, VR_l, zT_wI, zT_wJ, zT_wR, zT_wIr, zT_wJr, zT_wRr, zI_wJ, zI_wR, zI_wJr, zI_wRr, zJ_wI, zJ_wR, zJ_wIr, zJ_wRr, zR_wI, zR_wJ, zR_wIr, zR_wJr, zN_wI, zN_wJ, zN_wR, zN_wIr, zN_wJr, zN_wRr, zZ_wI, zZ_wJ, zZ_wR, zZ_wIr, zZ_wJr, zZ_wRr, zI_wI, zJ_wJ, zR_wR, zI_wIr, zJ_wJr, zR_wRr, k302, g302_0, g302_1, g302_2, g302_5, g302_6, g302_9, a3, up_a]
