-- needs 25.walk
variable {d a n t D K : Nat} {h : zH} {w : zW0} {fp x y z py p : Int32} {sv : Value} {ex : zW0 → Int32}
theorem c_goOn_in (ha : a ≤ 60) (hn : n ≤ 6) (hD : D < 2 ^ 31) (hp : (if fp < 0 then py else fp) = p) : ∀ (m t : Nat) (h : zH) (w : zW0), t + m = n → RS h a → Rv h a n w fp sv → sOK w n D → Se h sv py ex → ∃ h1, FS (SR a) h h1 ∧ Rv h1 a n (lp (sGw p ex n) m t w) fp sv ∧ ∀ Q, zG (d + 4) 210 9 [some (.ref a), some (.int x), some (.int y), some (.int (nI t))] [] h Q = zG (d + 4) 210 28 [some (.ref a), some (.int x), some (.int y), some (.int (nI n))] [] h1 Q
  | 0, t, h, w, e, hS, hv, hw, hs => by
    have e : n = t := by omega
    subst e
    refine ⟨h, FS_r _ _, hv, fun Q => ?_⟩
    have q0 := hS.1
    have v1 := hv.1
    simp +decide only [Nat.reduceEqDiff, Nat.add_eq_left, Nat.left_eq_add, Nat.reduceAdd, Nat.reduceLeDiff, Nat.reduceMul, Nat.reduceSub, Nat.reduceLT, zlt8, zlt8_, zlt8n, zlt8n_, List.length_cons, List.length_nil, true_or, or_true, false_or, or_false, and_self, and_true, true_and, and_false, false_and, not_false_eq_true, not_true_eq_false, ite_true, ite_false, if_true, if_false, ite_not, zin, zpush_s, zpush_n, kl_int, kl_ref, kl_none, kl_kl, kl_long, kl_null, zT_wI, zT_wJ, zT_wR, zT_wIr, zT_wJr, zT_wRr, zI_wJ, zI_wR, zI_wJr, zI_wRr, zJ_wI, zJ_wR, zJ_wIr, zJ_wRr, zR_wI, zR_wJ, zR_wIr, zR_wJr, zN_wI, zN_wJ, zN_wR, zN_wIr, zN_wJr, zN_wRr, zZ_wI, zZ_wJ, zZ_wR, zZ_wIr, zZ_wJr, zZ_wRr, zI_wI, zJ_wJ, zR_wR, zI_wIr, zJ_wJr, zR_wRr, g210_9, g210_10, g210_11, g210_14, q0, v1, i_le, Int32.lt_irrefl]
  | m + 1, t, h, w, e, hS, hv, hw, hs => by
    obtain ⟨h1, f1, w1, c1⟩ := c_walkOn (d := d) (t := t) hS ha hv hw hD (by omega) hs hp
    obtain ⟨h2, f2, w2, c2⟩ := c_goOn_in ha hn hD hp m (t + 1) h1 _ (by omega) (RS_R f1 hS (by omega)) w1 (sGw_ok hw (by omega)) (Se_f (fun b k z => SR_s a b k ha z) f1 hs)
    refine ⟨h2, FS_t f1 f2, w2, fun Q => ?_⟩
    have q0 := hS.1
    have v1 := hv.1
    have z3 := nI_lt (a := t) (b := n) (by omega) (by omega)
    rw [g210_9]
    simp +decide only [Nat.reduceEqDiff, Nat.add_eq_left, Nat.left_eq_add, Nat.reduceAdd, Nat.reduceLeDiff, Nat.reduceMul, Nat.reduceSub, Nat.reduceLT, zlt8, zlt8_, zlt8n, zlt8n_, List.length_cons, List.length_nil, true_or, or_true, false_or, or_false, and_self, and_true, true_and, and_false, false_and, not_false_eq_true, not_true_eq_false, ite_true, ite_false, if_true, if_false, ite_not, zin, zpush_s, zpush_n, kl_int, kl_ref, kl_none, kl_kl, kl_long, kl_null, zT_wI, zT_wJ, zT_wR, zT_wIr, zT_wJr, zT_wRr, zI_wJ, zI_wR, zI_wJr, zI_wRr, zJ_wI, zJ_wR, zJ_wIr, zJ_wRr, zR_wI, zR_wJ, zR_wIr, zR_wJr, zN_wI, zN_wJ, zN_wR, zN_wIr, zN_wJr, zN_wRr, zZ_wI, zZ_wJ, zZ_wR, zZ_wIr, zZ_wJr, zZ_wRr, zI_wI, zJ_wJ, zR_wR, zI_wIr, zJ_wJr, zR_wRr, g210_10, g210_11, g210_14, g210_17, g210_18, g210_19, g210_22, g210_25, q0, v1, i_le, z3, c1, nI_1, c2]
theorem c_goOn_out (ha : a ≤ 60) (hn : n ≤ 6) (hK : K < 2 ^ 31) (hp : (if fp < 0 then py else fp) = p) : ∀ (m k D : Nat) (h : zH) (w : zW0) (l3 : Option Value), k + m = K → D + m < 2 ^ 31 → RS h a → Rv h a n w fp sv → sOK w n D → Se h sv py ex → ∃ h1, FS (SR a) h h1 ∧ Rv h1 a n (lp (fun _ w => sDay p ex n w) m k w) fp sv ∧ ∀ Q, zG (d + 4) 210 2 [some (.ref a), some (.int (nI K)), some (.int (nI k)), l3] [] h Q = Q none h1
  | 0, k, D, h, w, l3, e, hD, hS, hv, hw, hs => by
    have e : K = k := by omega
    subst e
    refine ⟨h, FS_r _ _, hv, fun Q => ?_⟩
    simp +decide only [Nat.reduceEqDiff, Nat.add_eq_left, Nat.left_eq_add, Nat.reduceAdd, Nat.reduceLeDiff, Nat.reduceMul, Nat.reduceSub, Nat.reduceLT, zlt8, zlt8_, zlt8n, zlt8n_, List.length_cons, List.length_nil, true_or, or_true, false_or, or_false, and_self, and_true, true_and, and_false, false_and, not_false_eq_true, not_true_eq_false, ite_true, ite_false, if_true, if_false, ite_not, zin, zpush_s, zpush_n, kl_int, kl_ref, kl_none, kl_kl, kl_long, kl_null, zT_wI, zT_wJ, zT_wR, zT_wIr, zT_wJr, zT_wRr, zI_wJ, zI_wR, zI_wJr, zI_wRr, zJ_wI, zJ_wR, zJ_wIr, zJ_wRr, zR_wI, zR_wJ, zR_wIr, zR_wJr, zN_wI, zN_wJ, zN_wR, zN_wIr, zN_wJr, zN_wRr, zZ_wI, zZ_wJ, zZ_wR, zZ_wIr, zZ_wJr, zZ_wRr, zI_wI, zJ_wJ, zR_wR, zI_wIr, zJ_wJr, zR_wRr, g210_0, g210_1, g210_2, g210_3, g210_4, g210_7, g210_8, g210_9, g210_10, g210_11, g210_14, g210_17, g210_18, g210_19, g210_22, g210_25, g210_28, g210_29, g210_30, g210_33, g210_34, g210_35, g210_38, g210_41, g210_44, i_le, Int32.lt_irrefl]
  | m + 1, k, D, h, w, l3, e, hD, hS, hv, hw, hs => by
    obtain ⟨h1, f1, w1, c1⟩ := c_goOn_in (d := d) (x := nI K) (y := nI k) ha hn (by omega) hp n 0 h w (by omega) hS hv hw hs
    have hS1 := RS_R f1 hS (by omega)
    have k1 : sOK (sDay p ex n w) n (D + 1) := sDay_ok hw
    have f2 : FS (SR a) h (wI h1 a 9 (sD0 p ex n w 62 + 1)) := FS_t f1 (FS_I _ (by unfold SR; omega))
    obtain ⟨h3, f3, w3, c3⟩ := c_goOn_out ha hn hK hp m (k + 1) (D + 1) _ _ (some (.int (nI n))) (by omega) (by omega) (RS_R f2 hS (by omega)) (Rv_day (x := sD0 p ex n w 62 + 1) w1 hn) k1 (Se_f (fun b k z => SR_s a b k ha z) f2 hs)
    refine ⟨h3, FS_t f2 f3, w3, fun Q => ?_⟩
    have q0 := hS1.1
    have v3 : zI h1 a 9 = sD0 p ex n w 62 := w1.2.2.1
    have z3 := nI_lt (a := k) (b := K) (by omega) (by omega)
    rw [g210_2]
    simp +decide only [Nat.reduceEqDiff, Nat.add_eq_left, Nat.left_eq_add, Nat.reduceAdd, Nat.reduceLeDiff, Nat.reduceMul, Nat.reduceSub, Nat.reduceLT, zlt8, zlt8_, zlt8n, zlt8n_, List.length_cons, List.length_nil, true_or, or_true, false_or, or_false, and_self, and_true, true_and, and_false, false_and, not_false_eq_true, not_true_eq_false, ite_true, ite_false, if_true, if_false, ite_not, zin, zpush_s, zpush_n, kl_int, kl_ref, kl_none, kl_kl, kl_long, kl_null, zT_wI, zT_wJ, zT_wR, zT_wIr, zT_wJr, zT_wRr, zI_wJ, zI_wR, zI_wJr, zI_wRr, zJ_wI, zJ_wR, zJ_wIr, zJ_wRr, zR_wI, zR_wJ, zR_wIr, zR_wJr, zN_wI, zN_wJ, zN_wR, zN_wIr, zN_wJr, zN_wRr, zZ_wI, zZ_wJ, zZ_wR, zZ_wIr, zZ_wJr, zZ_wRr, zI_wI, zJ_wJ, zR_wR, zI_wIr, zJ_wJr, zR_wRr, g210_3, g210_4, g210_7, g210_8, g210_28, g210_29, g210_30, g210_33, g210_34, g210_35, g210_38, g210_41, i_le, z3]
    rw [show (0 : Int32) = nI 0 from rfl, c1]
    simp +decide only [Nat.reduceEqDiff, Nat.add_eq_left, Nat.left_eq_add, Nat.reduceAdd, Nat.reduceLeDiff, Nat.reduceMul, Nat.reduceSub, Nat.reduceLT, zlt8, zlt8_, zlt8n, zlt8n_, List.length_cons, List.length_nil, true_or, or_true, false_or, or_false, and_self, and_true, true_and, and_false, false_and, not_false_eq_true, not_true_eq_false, ite_true, ite_false, if_true, if_false, ite_not, zin, zpush_s, zpush_n, kl_int, kl_ref, kl_none, kl_kl, kl_long, kl_null, zT_wI, zT_wJ, zT_wR, zT_wIr, zT_wJr, zT_wRr, zI_wJ, zI_wR, zI_wJr, zI_wRr, zJ_wI, zJ_wR, zJ_wIr, zJ_wRr, zR_wI, zR_wJ, zR_wIr, zR_wJr, zN_wI, zN_wJ, zN_wR, zN_wIr, zN_wJr, zN_wRr, zZ_wI, zZ_wJ, zZ_wR, zZ_wIr, zZ_wJr, zZ_wRr, zI_wI, zJ_wJ, zR_wR, zI_wIr, zJ_wJr, zR_wRr, g210_3, g210_4, g210_7, g210_8, g210_28, g210_29, g210_30, g210_33, g210_34, g210_35, g210_38, g210_41, i_le, z3, q0, v3, nI_1, c3]
/-- K days on a road -/
theorem c_goOn (ha : a ≤ 60) (hK : K < 2 ^ 31) (hD : D + K < 2 ^ 31) (hS : RS h a) (hv : Rv h a n w fp sv) (hw : sOK w n D) (hs : Se h sv py ex) (hp : (if fp < 0 then py else fp) = p) : ∃ h1, FS (SR a) h h1 ∧ Rv h1 a n (sDays p ex n K w) fp sv ∧ ∀ Q, zCall (d + 5) 210 [.ref a, .int (nI K)] h Q = Q none h1 := by
  obtain ⟨h1, f1, w1, c1⟩ := c_goOn_out (d := d) ha hw.2.1 hK hp K 0 D h w none (by omega) hD hS hv hw hs
  refine ⟨h1, f1, w1, fun Q => ?_⟩
  simp +decide only [Nat.reduceEqDiff, Nat.add_eq_left, Nat.left_eq_add, Nat.reduceAdd, Nat.reduceLeDiff, Nat.reduceMul, Nat.reduceSub, Nat.reduceLT, zlt8, zlt8_, zlt8n, zlt8n_, List.length_cons, List.length_nil, true_or, or_true, false_or, or_false, and_self, and_true, true_and, and_false, false_and, not_false_eq_true, not_true_eq_false, ite_true, ite_false, if_true, if_false, ite_not, zin, zpush_s, zpush_n, kl_int, kl_ref, kl_none, kl_kl, kl_long, kl_null, zT_wI, zT_wJ, zT_wR, zT_wIr, zT_wJr, zT_wRr, zI_wJ, zI_wR, zI_wJr, zI_wRr, zJ_wI, zJ_wR, zJ_wIr, zJ_wRr, zR_wI, zR_wJ, zR_wIr, zR_wJr, zN_wI, zN_wJ, zN_wR, zN_wIr, zN_wJr, zN_wRr, zZ_wI, zZ_wJ, zZ_wR, zZ_wIr, zZ_wJr, zZ_wRr, zI_wI, zJ_wJ, zR_wR, zI_wIr, zJ_wJr, zR_wRr, k210, g210_0, g210_1]
  exact c1 Q
