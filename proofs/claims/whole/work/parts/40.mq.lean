-- needs 39.cq5
/-! what is only asked, on the reference's side: its row is put by, and put back -/
def mQ (h : zH) (n D : Nat) (w : zW0) (py : Int32) (ex : zW0 → Int32) (fo : Int32) : Prop := MO h ∧ zI h 89 = w ∧ sOK w n D ∧ Tx h w py ex ∧ zI h 88 4 = fo
def SY (b k : Nat) : Prop := (b = 88 ∧ (k = 4 ∨ (11 ≤ k ∧ k ≤ 16))) ∨ b = 95 ∨ b = 96 ∨ b = 90 ∨ b = 89
theorem SC_Y (b k : Nat) : SC b k → SY b k := by unfold SC SY; omega
theorem SY_M (b k : Nat) : SY b k → SM b k := by unfold SY SM; omega
theorem SY_T (b k : Nat) : SY b k → ¬ b = 93 ∧ ¬ b = 94 := by unfold SY; omega
variable {d a b n t D D2 K c1 c2 c3 : Nat} {h h1 h2 : zH} {w w0 w2 v : zW0} {fo fo2 fp x y z py p : Int32} {sv : Value} {ex : zW0 → Int32}
theorem MQ_f {S : Nat → Nat → Prop} (hS : ∀ b k, S b k → SM b k ∧ ¬ b = 93 ∧ ¬ b = 94) (f : FS S h h1) (m : mQ h n D w py ex fo) (e : zI h1 89 = v) (hv : sOK v n D2) (h63 : v 63 = w 63) (hf : zI h1 88 4 = fo2) : mQ h1 n D2 v py ex fo2 :=
  ⟨MO_M (FS_m (fun b k z => (hS b k z).1) f) m.1, e, hv, Tx_f (fun b k z => (hS b k z).2) f h63 m.2.2.2.1, hf⟩
theorem MQ_Y (f : FS SY h h1) (m : mQ h n D w py ex fo) (e : zI h1 89 = w) (hf : zI h1 88 4 = fo2) : mQ h1 n D w py ex fo2 :=
  MQ_f (fun b k z => ⟨SY_M b k z, SY_T b k z⟩) f m e m.2.2.1 rfl hf
theorem MQ_N (f : FS SN h h1) (m : mQ h n D w py ex fo) (e : zI h1 89 = v) (hv : sOK v n D2) (h63 : v 63 = w 63) : mQ h1 n D2 v py ex fo :=
  MQ_f (fun b k z => ⟨SN_M b k z, SN_T b k z⟩) f m e hv h63 (by rw [f.2.2.2.2.1 _ _ (by unfold SN; omega)]; exact m.2.2.2.2)
/-- put by, put back -/
def wS (h : zH) : zH := wIr h 90 (sMv (zI h 89) (zI h 90))
def wB (h : zH) : zH := wIr h 89 (sMv (zI h 90) (zI h 89))
theorem wS_89 (h : zH) : zI (wS h) 89 = zI h 89 := rfl
theorem wS_Y (h : zH) : FS SY h (wS h) := ⟨rfl, rfl, rfl, rfl, fun b k q => by
  unfold wS
  rw [zI_wIr, if_neg (fun e => q (by unfold SY; omega))], fun _ _ _ => rfl⟩
theorem M_save (m : mQ h n D w py ex fo) : mQ (wS h) n D w py ex fo := MQ_Y (wS_Y h) m m.2.1 m.2.2.2.2
theorem m_save (m : mQ h n D w py ex fo) (Q : zQq) : zCall (d + 1) 804 [.ref 89, .ref 90] h Q = Q none (wS h) := c_move (by omega) m.1.1.2.1 m.1.1.2.2.1 Q
theorem m_back (m : mQ h n D w py ex fo) (Q : zQq) : zCall (d + 1) 804 [.ref 90, .ref 89] h Q = Q none (wB h) := c_move (by omega) m.1.1.2.2.1 m.1.1.2.1 Q
theorem M_back (m : mQ h n D w py ex fo) (f : FS SN (wS h) h2) (hk : ∀ k, 118 ≤ k → zI h2 89 k = w k) : FS SY h (wB h2) ∧ mQ (wB h2) n D w py ex fo := by
  have e : zI (wB h2) 89 = w := by
    funext k
    show (sMv (zI h2 90) (zI h2 89)) k = w k
    unfold sMv
    split
    · next hk =>
      rw [f.2.2.2.2.1 90 k (by unfold SN; omega)]
      show sMv (zI h 89) (zI h 90) k = w k
      unfold sMv
      rw [if_pos hk, m.2.1]
    · exact hk k (by omega)
  have f2 : FS SY h (wB h2) := by
    obtain ⟨f1, f2, f3, f4, f5, f6⟩ := f
    refine ⟨f1, f2, f3, f4, fun b k q => ?_, fun b k q => ?_⟩
    · have e1 : zI (wB h2) b k = zI h2 b k := by unfold wB; rw [zI_wIr, if_neg (fun z => q (by unfold SY; omega))]
      rw [e1, f5 b k (by unfold SN; unfold SY at q; omega)]
      exact (wS_Y h).2.2.2.2.1 b k q
    · show zR h2 b k = _
      rw [f6 b k (by unfold SN; unfold SY at q; omega)]
      exact (wS_Y h).2.2.2.2.2 b k q
  exact ⟨f2, MQ_Y f2 m e (by
    have : zI (wB h2) 88 4 = zI h2 88 4 := by unfold wB; rw [zI_wIr, if_neg (by omega)]
    rw [this, f.2.2.2.2.1 _ _ (by unfold SN; omega)]
    exact m.2.2.2.2)⟩
theorem m_day (m : mQ h n D w py ex fo) (hD : D ≤ 30000) (hp : (if fo < 0 then py else fo) = p) : ∃ h1, FS SN h h1 ∧ mQ h1 n (D + 1) (sDay p ex n w) py ex fo ∧ ∀ Q, zCall (d + 24) 833 [.ref 88] h Q = Q none h1 := by
  obtain ⟨m1, m2, m3, m4, m5⟩ := id m
  obtain ⟨h1, f1, e1, g1⟩ := c_day (d := d) (D := D) (by omega) hp m1 (by rw [m2]; exact m3) (by rw [m2]; exact m4) m5
  rw [m2] at e1
  exact ⟨h1, f1, MQ_N f1 m e1 (sDay_ok m3) (sDay_out _ m3.2.1 (by omega)), g1⟩
theorem m_days (m : mQ h n D w py ex fo) (hK : K ≤ 60) (hD : D ≤ 30000) (hp : (if fo < 0 then py else fo) = p) : ∃ h1, FS SN h h1 ∧ mQ h1 n (D + K) (sDays p ex n K w) py ex fo ∧ ∀ Q, zCall (d + 25) 834 [.ref 88, .int (nI K)] h Q = Q none h1 := by
  obtain ⟨m1, m2, m3, m4, m5⟩ := id m
  obtain ⟨h1, f1, e1, g1⟩ := c_days (d := d) (D := D) (K := K) (by omega) (by omega) hp m1 (by rw [m2]; exact m3) (by rw [m2]; exact m4) m5
  rw [m2] at e1
  exact ⟨h1, f1, MQ_N f1 m e1 (sDays_ok m3 K) (sDays_out _ m3.2.1 K (by omega)), g1⟩
theorem m_isOne (m : mQ h n D w py ex fo) (Q : zQq) : zCall (d + 2) 807 [.ref 88, .int x] h Q = Q (some (.int (bI (sIs n x)))) h := c_isOne m.1.1 (D := D) (by rw [m.2.1]; exact m.2.2.1) Q
theorem m_standing (m : mQ h n D w py ex fo) (Q : zQq) : zCall (d + 2) 835 [.ref 88, .int x] h Q = Q (some (.int (sAt w n x))) h := by
  have := c_standing (d := d) (x := x) m.1.1 (D := D) (n := n) (by rw [m.2.1]; exact m.2.2.1) Q
  rwa [m.2.1] at this
theorem vOn_i (y : Int32) : (¬ y < 0 ∧ ¬ 1 < y) ∨ sIs n (y - 10) ∨ sIs n (y - 20) ↔ vOn n y := Iff.rfl
theorem m_on (m : mQ h n D w py ex fo) (hy : vOn n y) (hK : K ≤ 60) (hD : D ≤ 20000) (hp : (if fo < 0 then py else fo) = p) : ∃ h1, FS SY h h1 ∧ mQ h1 n D w py ex fo ∧ ∀ Q, zCall (d + 26) 841 [.ref 88, .int (nI K), .int y] h Q = Q (some (.int (aOn (sDays p ex n K w) n y))) h1 := by
  have m1 := M_save m
  obtain ⟨h2, f2, m2, g2⟩ := m_days (d := d) m1 hK (by omega) hp
  obtain ⟨F, m3⟩ := M_back m f2 (fun k hk => by rw [m2.2.1]; exact sDays_out _ m.2.2.1.2.1 K (by omega))
  refine ⟨wB h2, F, m3, fun Q => ?_⟩
  have hn := m.2.2.1.2.1
  have gs := fun Q => m_save (d := d + 24) m Q
  have gb := fun Q => m_back (d := d + 24) m2 Q
  have co : ∀ x Q, zCall (d + 25) 807 [.ref 88, .int x] h Q = Q (some (.int (bI (sIs n x)))) h := fun x Q => m_isOne m Q
  have cs : ∀ x Q, zCall (d + 25) 835 [.ref 88, .int x] h2 Q = Q (some (.int (sAt (sDays p ex n K w) n x))) h2 := fun x Q => m_standing m2 Q
  have e2 := m2.2.1
  have z1 : ¬ nI K < 0 := nI_pos (by omega)
  have z2 : ¬ 60 < nI K := nI_nlt (a := 60) (by omega) (by omega)
  have a0 := m1.1.1.1
  obtain ⟨b0, b1, b2, b3, b4, b5, b6, b7, b8, b9, b10, b11, b12, b13, b14, b15, b16, b17, b18, c0, c1, -⟩ := m2.1.1
  obtain ⟨m88, m89, m90, m91, m92, m93, m94, m95, m96, m97, m98, m99, m100, m101, m102, m103, m104, m105, m106, n0, n1, n2, n5, n7, n8, n10, n17, n18, n19, n20, n21, n22, n23, n25, n26, n27, n28⟩ := m.1.1
  generalize sDays p ex n K w = v at *
  rcases on_cases hy with rfl | rfl | ⟨t, ht, rfl⟩ | ⟨t, ht, rfl⟩
  · simp +decide only [Nat.reduceEqDiff, Nat.add_eq_left, Nat.left_eq_add, Nat.reduceAdd, Nat.reduceLeDiff, Nat.reduceMul, Nat.reduceSub, Nat.reduceLT, zlt8, zlt8_, zlt8n, zlt8n_, List.length_cons, List.length_nil, true_or, or_true, false_or, or_false, and_self, and_true, true_and, and_false, false_and, not_false_eq_true, not_true_eq_false, ite_true, ite_false, if_true, if_false, ite_not, zin, zpush_s, zpush_n, kl_int, kl_ref, kl_none, kl_kl, kl_long, kl_null, zT_wI, zT_wJ, zT_wR, zT_wIr, zT_wJr, zT_wRr, zI_wJ, zI_wR, zI_wJr, zI_wRr, zJ_wI, zJ_wR, zJ_wIr, zJ_wRr, zR_wI, zR_wJ, zR_wIr, zR_wJr, zN_wI, zN_wJ, zN_wR, zN_wIr, zN_wJr, zN_wRr, zZ_wI, zZ_wJ, zZ_wR, zZ_wIr, zZ_wJr, zZ_wRr, zI_wI, zJ_wJ, zR_wR, zI_wIr, zJ_wJr, zR_wRr, k841, g841_0, g841_1, g841_2, g841_3, g841_6, g841_9, g841_10, g841_11, g841_13, g841_14, g841_17, g841_20, g841_21, g841_22, g841_24, g841_25, g841_28, g841_31, g841_32, g841_33, g841_34, g841_35, g841_37, g841_40, g841_43, g841_45, g841_46, g841_47, g841_50, g841_51, g841_54, g841_57, g841_58, g841_59, g841_62, g841_63, g841_66, g841_67, g841_70, g841_72, g841_73, g841_76, g841_77, g841_78, g841_81, g841_82, g841_84, g841_87, g841_90, g841_91, g841_93, g841_96, g841_97, g841_98, g841_100, g841_101, g841_102, g841_105, g841_108, g841_109, g841_110, g841_112, g841_113, g841_114, g841_117, g841_118, g841_119, g841_122, g841_123, g841_126, g841_129, g841_130, m88, m89, m90, m91, m92, m93, m94, m95, m96, m97, m98, m99, m100, m101, m102, m103, m104, m105, m106, n0, n1, n2, n5, n7, n8, n10, n17, n18, n19, n20, n21, n22, n23, n25, n26, n27, n28, c_isIn, bI_t, gs, g2, gb, cs, e2, z1, z2, a0, b0, b1, c0, c1, aOn, show Int32.toNatClampNeg 61 = 61 by decide, show ¬ (61 : Int32) < 0 by decide]
  · simp +decide only [Nat.reduceEqDiff, Nat.add_eq_left, Nat.left_eq_add, Nat.reduceAdd, Nat.reduceLeDiff, Nat.reduceMul, Nat.reduceSub, Nat.reduceLT, zlt8, zlt8_, zlt8n, zlt8n_, List.length_cons, List.length_nil, true_or, or_true, false_or, or_false, and_self, and_true, true_and, and_false, false_and, not_false_eq_true, not_true_eq_false, ite_true, ite_false, if_true, if_false, ite_not, zin, zpush_s, zpush_n, kl_int, kl_ref, kl_none, kl_kl, kl_long, kl_null, zT_wI, zT_wJ, zT_wR, zT_wIr, zT_wJr, zT_wRr, zI_wJ, zI_wR, zI_wJr, zI_wRr, zJ_wI, zJ_wR, zJ_wIr, zJ_wRr, zR_wI, zR_wJ, zR_wIr, zR_wJr, zN_wI, zN_wJ, zN_wR, zN_wIr, zN_wJr, zN_wRr, zZ_wI, zZ_wJ, zZ_wR, zZ_wIr, zZ_wJr, zZ_wRr, zI_wI, zJ_wJ, zR_wR, zI_wIr, zJ_wJr, zR_wRr, k841, g841_0, g841_1, g841_2, g841_3, g841_6, g841_9, g841_10, g841_11, g841_13, g841_14, g841_17, g841_20, g841_21, g841_22, g841_24, g841_25, g841_28, g841_31, g841_32, g841_33, g841_34, g841_35, g841_37, g841_40, g841_43, g841_45, g841_46, g841_47, g841_50, g841_51, g841_54, g841_57, g841_58, g841_59, g841_62, g841_63, g841_66, g841_67, g841_70, g841_72, g841_73, g841_76, g841_77, g841_78, g841_81, g841_82, g841_84, g841_87, g841_90, g841_91, g841_93, g841_96, g841_97, g841_98, g841_100, g841_101, g841_102, g841_105, g841_108, g841_109, g841_110, g841_112, g841_113, g841_114, g841_117, g841_118, g841_119, g841_122, g841_123, g841_126, g841_129, g841_130, m88, m89, m90, m91, m92, m93, m94, m95, m96, m97, m98, m99, m100, m101, m102, m103, m104, m105, m106, n0, n1, n2, n5, n7, n8, n10, n17, n18, n19, n20, n21, n22, n23, n25, n26, n27, n28, c_isIn, bI_t, gs, g2, gb, cs, e2, z1, z2, a0, b0, b1, c0, c1, aOn]
  · have o3 : ∀ Q, zCall (d + 25) 808 [.ref 88, .int (nI t), .int 3] h2 Q = Q (some (.int (v (10 * t + 3)))) h2 := fun Q => by rw [← e2]; exact c_one3 m2.1.1 (by omega) Q
    have y1 : ¬ nI (10 + t) < 10 := nI_nlt (b := 10) (by omega) (by omega)
    have y2 : nI (10 + t) < 20 := nI_lt (b := 20) (by omega) (by omega)
    have y3 : nI (10 + t) - 10 = nI t := nI_subc 10 t
    have y4 := sIs_nI (n := n) (j := t) hn (by omega)
    have y6 := nI_clamp (n := t) (by omega)
    have y7 := nI_pos (n := 10 + t) (by omega)
    have y8 : ¬ nI (10 + t) = 0 := nI_ne0 (by omega) (by omega)
    have y9 : ¬ nI (10 + t) = 1 := fun e => by have := (nI_eq (b := 1) (by omega) (by omega)).mp e; omega
    have ya : 1 < nI (10 + t) := nI_lt (a := 1) (by omega) (by omega)
    simp +decide only [Nat.reduceEqDiff, Nat.add_eq_left, Nat.left_eq_add, Nat.reduceAdd, Nat.reduceLeDiff, Nat.reduceMul, Nat.reduceSub, Nat.reduceLT, zlt8, zlt8_, zlt8n, zlt8n_, List.length_cons, List.length_nil, true_or, or_true, false_or, or_false, and_self, and_true, true_and, and_false, false_and, not_false_eq_true, not_true_eq_false, ite_true, ite_false, if_true, if_false, ite_not, zin, zpush_s, zpush_n, kl_int, kl_ref, kl_none, kl_kl, kl_long, kl_null, zT_wI, zT_wJ, zT_wR, zT_wIr, zT_wJr, zT_wRr, zI_wJ, zI_wR, zI_wJr, zI_wRr, zJ_wI, zJ_wR, zJ_wIr, zJ_wRr, zR_wI, zR_wJ, zR_wIr, zR_wJr, zN_wI, zN_wJ, zN_wR, zN_wIr, zN_wJr, zN_wRr, zZ_wI, zZ_wJ, zZ_wR, zZ_wIr, zZ_wJr, zZ_wRr, zI_wI, zJ_wJ, zR_wR, zI_wIr, zJ_wJr, zR_wRr, k841, g841_0, g841_1, g841_2, g841_3, g841_6, g841_9, g841_10, g841_11, g841_13, g841_14, g841_17, g841_20, g841_21, g841_22, g841_24, g841_25, g841_28, g841_31, g841_32, g841_33, g841_34, g841_35, g841_37, g841_40, g841_43, g841_45, g841_46, g841_47, g841_50, g841_51, g841_54, g841_57, g841_58, g841_59, g841_62, g841_63, g841_66, g841_67, g841_70, g841_72, g841_73, g841_76, g841_77, g841_78, g841_81, g841_82, g841_84, g841_87, g841_90, g841_91, g841_93, g841_96, g841_97, g841_98, g841_100, g841_101, g841_102, g841_105, g841_108, g841_109, g841_110, g841_112, g841_113, g841_114, g841_117, g841_118, g841_119, g841_122, g841_123, g841_126, g841_129, g841_130, m88, m89, m90, m91, m92, m93, m94, m95, m96, m97, m98, m99, m100, m101, m102, m103, m104, m105, m106, n0, n1, n2, n5, n7, n8, n10, n17, n18, n19, n20, n21, n22, n23, n25, n26, n27, n28, c_isIn, bI, gs, g2, gb, co, o3, z1, z2, a0, b0, b1, c0, c1, aOn, y1, y2, y3, y4, y6, y7, y8, y9, ya, ht, i_le]
  · have o3 : ∀ Q, zCall (d + 25) 808 [.ref 88, .int (nI t), .int 5] h2 Q = Q (some (.int (v (10 * t + 5)))) h2 := fun Q => by rw [← e2]; exact c_one5 m2.1.1 (by omega) Q
    have y1 : ¬ nI (20 + t) < 10 := nI_nlt (b := 10) (by omega) (by omega)
    have y2 : ¬ nI (20 + t) < 20 := nI_nlt (b := 20) (by omega) (by omega)
    have y3 : nI (20 + t) - 20 = nI t := nI_subc 20 t
    have y3' : nI (20 + t) - 10 = nI (10 + t) := by rw [show 20 + t = 10 + (10 + t) by omega]; exact nI_subc 10 (10 + t)
    have y4 := sIs_nI (n := n) (j := t) hn (by omega)
    have y4' := sIs_nI (n := n) (j := 10 + t) hn (by omega)
    have y6 := nI_clamp (n := t) (by omega)
    have y7 := nI_pos (n := 20 + t) (by omega)
    have y8 : ¬ nI (20 + t) = 0 := nI_ne0 (by omega) (by omega)
    have y9 : ¬ nI (20 + t) = 1 := fun e => by have := (nI_eq (b := 1) (by omega) (by omega)).mp e; omega
    have ya : 1 < nI (20 + t) := nI_lt (a := 1) (by omega) (by omega)
    simp +decide only [Nat.reduceEqDiff, Nat.add_eq_left, Nat.left_eq_add, Nat.reduceAdd, Nat.reduceLeDiff, Nat.reduceMul, Nat.reduceSub, Nat.reduceLT, zlt8, zlt8_, zlt8n, zlt8n_, List.length_cons, List.length_nil, true_or, or_true, false_or, or_false, and_self, and_true, true_and, and_false, false_and, not_false_eq_true, not_true_eq_false, ite_true, ite_false, if_true, if_false, ite_not, zin, zpush_s, zpush_n, kl_int, kl_ref, kl_none, kl_kl, kl_long, kl_null, zT_wI, zT_wJ, zT_wR, zT_wIr, zT_wJr, zT_wRr, zI_wJ, zI_wR, zI_wJr, zI_wRr, zJ_wI, zJ_wR, zJ_wIr, zJ_wRr, zR_wI, zR_wJ, zR_wIr, zR_wJr, zN_wI, zN_wJ, zN_wR, zN_wIr, zN_wJr, zN_wRr, zZ_wI, zZ_wJ, zZ_wR, zZ_wIr, zZ_wJr, zZ_wRr, zI_wI, zJ_wJ, zR_wR, zI_wIr, zJ_wJr, zR_wRr, k841, g841_0, g841_1, g841_2, g841_3, g841_6, g841_9, g841_10, g841_11, g841_13, g841_14, g841_17, g841_20, g841_21, g841_22, g841_24, g841_25, g841_28, g841_31, g841_32, g841_33, g841_34, g841_35, g841_37, g841_40, g841_43, g841_45, g841_46, g841_47, g841_50, g841_51, g841_54, g841_57, g841_58, g841_59, g841_62, g841_63, g841_66, g841_67, g841_70, g841_72, g841_73, g841_76, g841_77, g841_78, g841_81, g841_82, g841_84, g841_87, g841_90, g841_91, g841_93, g841_96, g841_97, g841_98, g841_100, g841_101, g841_102, g841_105, g841_108, g841_109, g841_110, g841_112, g841_113, g841_114, g841_117, g841_118, g841_119, g841_122, g841_123, g841_126, g841_129, g841_130, m88, m89, m90, m91, m92, m93, m94, m95, m96, m97, m98, m99, m100, m101, m102, m103, m104, m105, m106, n0, n1, n2, n5, n7, n8, n10, n17, n18, n19, n20, n21, n22, n23, n25, n26, n27, n28, c_isIn, bI, gs, g2, gb, co, o3, z1, z2, a0, b0, b1, c0, c1, aOn, y1, y2, y3, y3', y4, y4', y6, y7, y8, y9, ya, ht, i_le, show ¬ 10 + t < n by omega]
