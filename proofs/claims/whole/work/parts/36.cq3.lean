-- needs 35.cq2
variable {d a b n t D D2 K : Nat} {h : zH} {w w2 : zW0} {fo fp x y z py p : Int32} {sv : Value} {ex : zW0 → Int32}
/-- a bag: those in it have no worth -/
def sBg (x : Int32) (n : Nat) (w : zW0) : zW0 := lp (fun i v => if iShr x (nI i) &&& 1 = 1 then va_up v (10 * i + 2) 0 else v) n 0 w
theorem sBg_s {v : zW0} {i : Nat} (h : sOK v n D) (hi : i < n) : sOK (if iShr x (nI i) &&& 1 = 1 then va_up v (10 * i + 2) 0 else v) n D := by
  obtain ⟨h1, h2, h3, h4⟩ := id h
  split
  · refine ⟨?_, h2, ?_, fun s hs => ?_⟩
    · rw [up_n _ _ (by omega)]; exact h1
    · rw [up_n _ _ (by omega)]; exact h3
    · rw [up_n _ _ (by omega)]; exact h4 s hs
  · exact h
theorem sBg_ok (h : sOK w n D) : sOK (sBg x n w) n D := lp_i (f := fun i v => if iShr x (nI i) &&& 1 = 1 then va_up v (10 * i + 2) 0 else v) (fun _ v => sOK v n D) n 0 w h (fun k h1 h2 s hs => sBg_s hs (by omega))
theorem c_keeps_lp : ∀ (m t : Nat) (h : zH) (v : zW0), t + m = n → CQ h n D w py ex sv → Rv h 15 n v (-1) sv → sOK v n D → ∃ h1, FS (RA 15) h h1 ∧ Rv h1 15 n (lp (fun i v => if iShr x (nI i) &&& 1 = 1 then va_up v (10 * i + 2) 0 else v) m t v) (-1) sv ∧ ∀ Q, zG d 719 13 [some (.ref 0), some (.int x), some (.int y), some (.int (nI t))] [] h Q = zG d 719 49 [some (.ref 0), some (.int x), some (.int y), some (.int (nI n))] [] h1 Q
  | 0, t, h, v, e, c, hv, hw => by
    have e : n = t := by omega
    subst e
    refine ⟨h, FS_r _ _, hv, fun Q => ?_⟩
    obtain ⟨k0, j0, j1, j2, j3, j4, j6, j8, j9⟩ := c.1
    have p1 := c.2.2.1.1
    have v1 := hv.1
    rw [g719_13]
    simp +decide only [Nat.reduceEqDiff, Nat.add_eq_left, Nat.left_eq_add, Nat.reduceAdd, Nat.reduceLeDiff, Nat.reduceMul, Nat.reduceSub, Nat.reduceLT, zlt8, zlt8_, zlt8n, zlt8n_, List.length_cons, List.length_nil, true_or, or_true, false_or, or_false, and_self, and_true, true_and, and_false, false_and, not_false_eq_true, not_true_eq_false, ite_true, ite_false, if_true, if_false, ite_not, zin, zpush_s, zpush_n, kl_int, kl_ref, kl_none, kl_kl, kl_long, kl_null, zT_wI, zT_wJ, zT_wR, zT_wIr, zT_wJr, zT_wRr, zI_wJ, zI_wR, zI_wJr, zI_wRr, zJ_wI, zJ_wR, zJ_wIr, zJ_wRr, zR_wI, zR_wJ, zR_wIr, zR_wJr, zN_wI, zN_wJ, zN_wR, zN_wIr, zN_wJr, zN_wRr, zZ_wI, zZ_wJ, zZ_wR, zZ_wIr, zZ_wJr, zZ_wRr, zI_wI, zJ_wJ, zR_wR, zI_wIr, zJ_wJr, zR_wRr, g719_0, g719_1, g719_4, g719_5, g719_8, g719_11, g719_12, g719_14, g719_15, g719_18, g719_21, g719_24, g719_25, g719_26, g719_27, g719_28, g719_29, g719_30, g719_33, g719_34, g719_37, g719_40, g719_41, g719_42, g719_43, g719_46, g719_49, g719_50, g719_53, g719_54, g719_57, g719_58, g719_61, g719_63, g719_66, g719_69, g719_70, g719_73, g719_74, k0, j0, j1, j2, j3, j4, j6, j8, j9, p1, v1, i_le, Int32.lt_irrefl]
  | m + 1, t, h, v, e, c, hv, hw => by
    have ht : t < n := by omega
    have hn := hw.2.1
    obtain ⟨k0, j0, j1, j2, j3, j4, j6, j8, j9⟩ := c.1
    obtain ⟨q0, q1, q2, q3, q4, q5, q6, q7, r0, r1, r2, r3, r4, r5, r6, r7⟩ := id c.2.2.1
    have v1 := hv.1
    have z1 := nI_pos (n := t) (by omega)
    have z2 := nI_clamp (n := t) (by omega)
    have z3 := nI_lt (a := t) (b := n) (by omega) (by omega)
    by_cases q : iShr x (nI t) &&& 1 = 1
    · have f : FS (RA 15) h (wI h (15 + 3) t 0) := FS_I _ (by unfold RA; omega)
      obtain ⟨h1, f1, v1', c1⟩ := c_keeps_lp m (t + 1) (wI h (15 + 3) t 0) (va_up v (10 * t + 2) 0) (by omega) (CQ_f f c) (Rv_c hv hn (by omega) 3 2 (by omega)) (by have := sBg_s (x := x) hw ht; rwa [if_pos q] at this)
      refine ⟨h1, FS_t f f1, by rw [lp_s, if_pos q]; exact v1', fun Q => ?_⟩
      unfold iShr at q
      rw [g719_13, ← c1 Q]
      simp +decide only [Nat.reduceEqDiff, Nat.add_eq_left, Nat.left_eq_add, Nat.reduceAdd, Nat.reduceLeDiff, Nat.reduceMul, Nat.reduceSub, Nat.reduceLT, zlt8, zlt8_, zlt8n, zlt8n_, List.length_cons, List.length_nil, true_or, or_true, false_or, or_false, and_self, and_true, true_and, and_false, false_and, not_false_eq_true, not_true_eq_false, ite_true, ite_false, if_true, if_false, ite_not, zin, zpush_s, zpush_n, kl_int, kl_ref, kl_none, kl_kl, kl_long, kl_null, zT_wI, zT_wJ, zT_wR, zT_wIr, zT_wJr, zT_wRr, zI_wJ, zI_wR, zI_wJr, zI_wRr, zJ_wI, zJ_wR, zJ_wIr, zJ_wRr, zR_wI, zR_wJ, zR_wIr, zR_wJr, zN_wI, zN_wJ, zN_wR, zN_wIr, zN_wJr, zN_wRr, zZ_wI, zZ_wJ, zZ_wR, zZ_wIr, zZ_wJr, zZ_wRr, zI_wI, zJ_wJ, zR_wR, zI_wIr, zJ_wJr, zR_wRr, g719_0, g719_1, g719_4, g719_5, g719_8, g719_11, g719_12, g719_14, g719_15, g719_18, g719_21, g719_24, g719_25, g719_26, g719_27, g719_28, g719_29, g719_30, g719_33, g719_34, g719_37, g719_40, g719_41, g719_42, g719_43, g719_46, g719_49, g719_50, g719_53, g719_54, g719_57, g719_58, g719_61, g719_63, g719_66, g719_69, g719_70, g719_73, g719_74, k0, j0, j1, j2, j3, j4, j6, j8, j9, q0, q1, q2, q3, q4, q5, q6, q7, r0, r1, r2, r3, r4, r5, r6, v1, i_le, z1, z2, z3, q, show t < 6 by omega, nI_1]
    · obtain ⟨h1, f1, v1', c1⟩ := c_keeps_lp m (t + 1) h v (by omega) c hv hw
      refine ⟨h1, f1, by rw [lp_s, if_neg q]; exact v1', fun Q => ?_⟩
      unfold iShr at q
      rw [g719_13, ← c1 Q]
      simp +decide only [Nat.reduceEqDiff, Nat.add_eq_left, Nat.left_eq_add, Nat.reduceAdd, Nat.reduceLeDiff, Nat.reduceMul, Nat.reduceSub, Nat.reduceLT, zlt8, zlt8_, zlt8n, zlt8n_, List.length_cons, List.length_nil, true_or, or_true, false_or, or_false, and_self, and_true, true_and, and_false, false_and, not_false_eq_true, not_true_eq_false, ite_true, ite_false, if_true, if_false, ite_not, zin, zpush_s, zpush_n, kl_int, kl_ref, kl_none, kl_kl, kl_long, kl_null, zT_wI, zT_wJ, zT_wR, zT_wIr, zT_wJr, zT_wRr, zI_wJ, zI_wR, zI_wJr, zI_wRr, zJ_wI, zJ_wR, zJ_wIr, zJ_wRr, zR_wI, zR_wJ, zR_wIr, zR_wJr, zN_wI, zN_wJ, zN_wR, zN_wIr, zN_wJr, zN_wRr, zZ_wI, zZ_wJ, zZ_wR, zZ_wIr, zZ_wJr, zZ_wRr, zI_wI, zJ_wJ, zR_wR, zI_wIr, zJ_wJr, zR_wRr, g719_0, g719_1, g719_4, g719_5, g719_8, g719_11, g719_12, g719_14, g719_15, g719_18, g719_21, g719_24, g719_25, g719_26, g719_27, g719_28, g719_29, g719_30, g719_33, g719_34, g719_37, g719_40, g719_41, g719_42, g719_43, g719_46, g719_49, g719_50, g719_53, g719_54, g719_57, g719_58, g719_61, g719_63, g719_66, g719_69, g719_70, g719_73, g719_74, k0, j0, j1, j2, j3, j4, j6, j8, j9, q0, q1, q2, q3, q4, q5, q6, q7, r0, r1, r2, r3, r4, r5, r6, v1, i_le, z1, z2, z3, q, show t < 6 by omega, nI_1]
abbrev sKeep (p : Int32) (ex : zW0 → Int32) (n K : Nat) (w : zW0) (x : Int32) : Prop := sAt (sDays p ex n K (sBg x n w)) n 10 = 0
theorem c_keeps (c : CQ h n D w py ex sv) (hK : K ≤ 60) : ∃ h1, FS (RA 15) h h1 ∧ ∀ Q, zCall (d + 6) 719 [.ref 0, .int x, .int (nI K)] h Q = Q (some (.int (bI (sKeep py ex n K w x)))) h1 := by
  obtain ⟨h1, f1, v1, c1⟩ := c_copyT (d := d + 4) c
  have hn := c.2.2.2.2.1.2.1
  have C1 := CQ_f f1 c
  obtain ⟨h2, f2, v2, c2⟩ := c_keeps_lp (d := d + 5) (x := x) (y := nI K) n 0 h1 w (by omega) C1 v1 c.2.2.2.2.1
  have C2 := CQ_f f2 C1
  obtain ⟨h3, f3, v3, c3⟩ := c_goT (d := d) (K := K) (p := py) C2 v2 (sBg_ok (x := x) c.2.2.2.2.1) hK (by have := c.2.2.2.2.2.1; omega) rfl
  have C3 := CQ_f f3 C2
  have v3' : Rv h3 15 n (sDays py ex n K (sBg x n w)) (-1) sv := v3
  have cb : ∀ y Q, zCall (d + 5) 208 [.ref 15, .int y] h3 Q = Q (some (.int (sAt (sDays py ex n K (sBg x n w)) n y))) h3 := fun y Q => c_bitsAt C3.2.2.1 v3' hn Q
  refine ⟨h3, FS_t (FS_t f1 f2) f3, fun Q => ?_⟩
  obtain ⟨k0, j0, j1, j2, j3, j4, j6, j8, j9⟩ := c.1
  have i1 : zR h2 0 1 = .ref 15 := C2.1.2.2.1
  have k1 : zT h2 0 = (7, 10) := C2.1.1
  have l1 : zR h3 0 1 = .ref 15 := C3.1.2.2.1
  have l0 : zT h3 0 = (7, 10) := C3.1.1
  have p0 := c.2.1.1
  have p1 := c.2.2.1.1
  have p2 : zT h2 15 = (2, 12) := C2.2.2.1.1
  have p3 := C3.2.2.1.1
  have ez : nI 0 = 0 := rfl
  rw [ez] at c2
  by_cases q : sKeep py ex n K w x
  · have q' := q
    unfold sKeep at q'
    rw [bI_t q]
    simp +decide only [Nat.reduceEqDiff, Nat.add_eq_left, Nat.left_eq_add, Nat.reduceAdd, Nat.reduceLeDiff, Nat.reduceMul, Nat.reduceSub, Nat.reduceLT, zlt8, zlt8_, zlt8n, zlt8n_, List.length_cons, List.length_nil, true_or, or_true, false_or, or_false, and_self, and_true, true_and, and_false, false_and, not_false_eq_true, not_true_eq_false, ite_true, ite_false, if_true, if_false, ite_not, zin, zpush_s, zpush_n, kl_int, kl_ref, kl_none, kl_kl, kl_long, kl_null, zT_wI, zT_wJ, zT_wR, zT_wIr, zT_wJr, zT_wRr, zI_wJ, zI_wR, zI_wJr, zI_wRr, zJ_wI, zJ_wR, zJ_wIr, zJ_wRr, zR_wI, zR_wJ, zR_wIr, zR_wJr, zN_wI, zN_wJ, zN_wR, zN_wIr, zN_wJr, zN_wRr, zZ_wI, zZ_wJ, zZ_wR, zZ_wIr, zZ_wJr, zZ_wRr, zI_wI, zJ_wJ, zR_wR, zI_wIr, zJ_wJr, zR_wRr, k719, g719_0, g719_1, g719_4, g719_5, g719_8, g719_11, g719_12, g719_14, g719_15, g719_18, g719_21, g719_24, g719_25, g719_26, g719_27, g719_28, g719_29, g719_30, g719_33, g719_34, g719_37, g719_40, g719_41, g719_42, g719_43, g719_46, g719_49, g719_50, g719_53, g719_54, g719_57, g719_58, g719_61, g719_63, g719_66, g719_69, g719_70, g719_73, g719_74, k0, j0, j1, j2, j3, j4, j6, j8, j9, c1, c2, c3, i1, k1, l1, l0, p0, p1, p2, p3, cb, q']
  · have q' := q
    unfold sKeep at q'
    rw [bI_f q]
    simp +decide only [Nat.reduceEqDiff, Nat.add_eq_left, Nat.left_eq_add, Nat.reduceAdd, Nat.reduceLeDiff, Nat.reduceMul, Nat.reduceSub, Nat.reduceLT, zlt8, zlt8_, zlt8n, zlt8n_, List.length_cons, List.length_nil, true_or, or_true, false_or, or_false, and_self, and_true, true_and, and_false, false_and, not_false_eq_true, not_true_eq_false, ite_true, ite_false, if_true, if_false, ite_not, zin, zpush_s, zpush_n, kl_int, kl_ref, kl_none, kl_kl, kl_long, kl_null, zT_wI, zT_wJ, zT_wR, zT_wIr, zT_wJr, zT_wRr, zI_wJ, zI_wR, zI_wJr, zI_wRr, zJ_wI, zJ_wR, zJ_wIr, zJ_wRr, zR_wI, zR_wJ, zR_wIr, zR_wJr, zN_wI, zN_wJ, zN_wR, zN_wIr, zN_wJr, zN_wRr, zZ_wI, zZ_wJ, zZ_wR, zZ_wIr, zZ_wJr, zZ_wRr, zI_wI, zJ_wJ, zR_wR, zI_wIr, zJ_wJr, zR_wRr, k719, g719_0, g719_1, g719_4, g719_5, g719_8, g719_11, g719_12, g719_14, g719_15, g719_18, g719_21, g719_24, g719_25, g719_26, g719_27, g719_28, g719_29, g719_30, g719_33, g719_34, g719_37, g719_40, g719_41, g719_42, g719_43, g719_46, g719_49, g719_50, g719_53, g719_54, g719_57, g719_58, g719_61, g719_63, g719_66, g719_69, g719_70, g719_73, g719_74, k0, j0, j1, j2, j3, j4, j6, j8, j9, c1, c2, c3, i1, k1, l1, l0, p0, p1, p2, p3, cb, q']
/-- the smallest bag -/
def sBs (p : Int32) (ex : zW0 → Int32) (n K : Nat) (w : zW0) (m : Nat) (best : Int32) : Int32 := if (best = -5 ∨ sMany (nI m) < sMany best) ∧ sKeep p ex n K w (nI m) then nI m else best
def sBag (p : Int32) (ex : zW0 → Int32) (n K : Nat) (w : zW0) : Int32 := lp (sBs p ex n K w) (2 ^ n) 0 (-5)
def sFw (best : Int32) : Int32 := if best = -5 then 7 else sMany best
theorem sFw_lt : ∀ m, m < 64 → sMany (nI m) < 7 ∧ ¬ nI m = -5 := by decide +kernel
theorem sFw_c {m : Nat} (hm : m < 64) (best : Int32) : (sMany (nI m) < sFw best) = (best = -5 ∨ sMany (nI m) < sMany best) := by
  unfold sFw
  split
  · next e => simp [e, (sFw_lt m hm).1]
  · next e => simp [e]
theorem pow_n : ∀ n, n ≤ 6 → (1 : Int32) <<< (nI n &&& 31) = nI (2 ^ n) := by decide +kernel
theorem pow_64 (hn : n ≤ 6) : 2 ^ n ≤ 64 := Nat.pow_le_pow_right (by decide) hn
theorem c_bag_lp (hK : K ≤ 60) : ∀ (m k : Nat) (h : zH) (best : Int32), k + m = 2 ^ n → CQ h n D w py ex sv → ∃ h1, FS (RA 15) h h1 ∧ ∀ Q, zG (d + 6) 718 9 [some (.ref 0), some (.int (nI K)), some (.int best), some (.int (sFw best)), some (.int (nI k))] [] h Q = Q (some (.int (lp (sBs py ex n K w) m k best))) h1
  | 0, k, h, best, e, c => by
    have hn := c.2.2.2.2.1.2.1
    have h64 := pow_64 hn
    have e : k = 2 ^ n := by omega
    refine ⟨h, FS_r _ _, fun Q => ?_⟩
    obtain ⟨k0, j0, j1, j2, j3, j4, j6, j8, j9⟩ := c.1
    have p0 := c.2.1.1
    have v1 := c.2.2.2.1.1
    have z0 := pow_n n hn
    rw [g718_9]
    simp +decide only [Nat.reduceEqDiff, Nat.add_eq_left, Nat.left_eq_add, Nat.reduceAdd, Nat.reduceLeDiff, Nat.reduceMul, Nat.reduceSub, Nat.reduceLT, zlt8, zlt8_, zlt8n, zlt8n_, List.length_cons, List.length_nil, true_or, or_true, false_or, or_false, and_self, and_true, true_and, and_false, false_and, not_false_eq_true, not_true_eq_false, ite_true, ite_false, if_true, if_false, ite_not, zin, zpush_s, zpush_n, kl_int, kl_ref, kl_none, kl_kl, kl_long, kl_null, zT_wI, zT_wJ, zT_wR, zT_wIr, zT_wJr, zT_wRr, zI_wJ, zI_wR, zI_wJr, zI_wRr, zJ_wI, zJ_wR, zJ_wIr, zJ_wRr, zR_wI, zR_wJ, zR_wIr, zR_wJr, zN_wI, zN_wJ, zN_wR, zN_wIr, zN_wJr, zN_wRr, zZ_wI, zZ_wJ, zZ_wR, zZ_wIr, zZ_wJr, zZ_wRr, zI_wI, zJ_wJ, zR_wR, zI_wIr, zJ_wJr, zR_wRr, g718_0, g718_2, g718_3, g718_5, g718_6, g718_7, g718_11, g718_12, g718_13, g718_16, g718_19, g718_20, g718_23, g718_25, g718_28, g718_29, g718_32, g718_33, g718_35, g718_36, g718_39, g718_42, g718_44, g718_47, g718_48, g718_50, g718_51, g718_54, g718_57, g718_58, k0, j0, j1, j2, j3, j4, j6, j8, j9, p0, v1, z0, ← e, i_le, Int32.lt_irrefl, lp_0]
  | m + 1, k, h, best, e, c => by
    have hn := c.2.2.2.2.1.2.1
    have h64 := pow_64 hn
    have hk : k < 64 := by omega
    obtain ⟨k0, j0, j1, j2, j3, j4, j6, j8, j9⟩ := c.1
    have p0 := c.2.1.1
    have v1 := c.2.2.2.1.1
    have z0 := pow_n n hn
    have z1 : nI k < nI (2 ^ n) := nI_lt (by omega) (by omega)
    have cc : ∀ h Q, zCall (d + 6) 901 [.int (nI k)] h Q = Q (some (.int (sMany (nI k)))) h := fun h Q => c_bitCount hk Q
    by_cases q1 : sMany (nI k) < sFw best
    · obtain ⟨h1, f1, c1⟩ := c_keeps (d := d) (x := nI k) c hK
      by_cases q2 : sKeep py ex n K w (nI k)
      · obtain ⟨h2, f2, c2⟩ := c_bag_lp hK m (k + 1) h1 (nI k) (by omega) (CQ_f f1 c)
        have e1 : sBs py ex n K w k best = nI k := if_pos ⟨by rw [← sFw_c hk]; exact q1, q2⟩
        refine ⟨h2, FS_t f1 f2, fun Q => ?_⟩
        have e2 : sFw (nI k) = sMany (nI k) := if_neg (sFw_lt k hk).2
        rw [e2] at c2
        rw [g718_9, lp_s, e1, ← c2 Q]
        simp +decide only [Nat.reduceEqDiff, Nat.add_eq_left, Nat.left_eq_add, Nat.reduceAdd, Nat.reduceLeDiff, Nat.reduceMul, Nat.reduceSub, Nat.reduceLT, zlt8, zlt8_, zlt8n, zlt8n_, List.length_cons, List.length_nil, true_or, or_true, false_or, or_false, and_self, and_true, true_and, and_false, false_and, not_false_eq_true, not_true_eq_false, ite_true, ite_false, if_true, if_false, ite_not, zin, zpush_s, zpush_n, kl_int, kl_ref, kl_none, kl_kl, kl_long, kl_null, zT_wI, zT_wJ, zT_wR, zT_wIr, zT_wJr, zT_wRr, zI_wJ, zI_wR, zI_wJr, zI_wRr, zJ_wI, zJ_wR, zJ_wIr, zJ_wRr, zR_wI, zR_wJ, zR_wIr, zR_wJr, zN_wI, zN_wJ, zN_wR, zN_wIr, zN_wJr, zN_wRr, zZ_wI, zZ_wJ, zZ_wR, zZ_wIr, zZ_wJr, zZ_wRr, zI_wI, zJ_wJ, zR_wR, zI_wIr, zJ_wJr, zR_wRr, g718_0, g718_2, g718_3, g718_5, g718_6, g718_7, g718_11, g718_12, g718_13, g718_16, g718_19, g718_20, g718_23, g718_25, g718_28, g718_29, g718_32, g718_33, g718_35, g718_36, g718_39, g718_42, g718_44, g718_47, g718_48, g718_50, g718_51, g718_54, g718_57, g718_58, k0, j0, j1, j2, j3, j4, j6, j8, j9, p0, v1, z0, z1, cc, i_le, q1, c1, bI_t q2, nI_1]
      · obtain ⟨h2, f2, c2⟩ := c_bag_lp hK m (k + 1) h1 best (by omega) (CQ_f f1 c)
        have e1 : sBs py ex n K w k best = best := if_neg (fun z => q2 z.2)
        refine ⟨h2, FS_t f1 f2, fun Q => ?_⟩
        rw [g718_9, lp_s, e1, ← c2 Q]
        simp +decide only [Nat.reduceEqDiff, Nat.add_eq_left, Nat.left_eq_add, Nat.reduceAdd, Nat.reduceLeDiff, Nat.reduceMul, Nat.reduceSub, Nat.reduceLT, zlt8, zlt8_, zlt8n, zlt8n_, List.length_cons, List.length_nil, true_or, or_true, false_or, or_false, and_self, and_true, true_and, and_false, false_and, not_false_eq_true, not_true_eq_false, ite_true, ite_false, if_true, if_false, ite_not, zin, zpush_s, zpush_n, kl_int, kl_ref, kl_none, kl_kl, kl_long, kl_null, zT_wI, zT_wJ, zT_wR, zT_wIr, zT_wJr, zT_wRr, zI_wJ, zI_wR, zI_wJr, zI_wRr, zJ_wI, zJ_wR, zJ_wIr, zJ_wRr, zR_wI, zR_wJ, zR_wIr, zR_wJr, zN_wI, zN_wJ, zN_wR, zN_wIr, zN_wJr, zN_wRr, zZ_wI, zZ_wJ, zZ_wR, zZ_wIr, zZ_wJr, zZ_wRr, zI_wI, zJ_wJ, zR_wR, zI_wIr, zJ_wJr, zR_wRr, g718_0, g718_2, g718_3, g718_5, g718_6, g718_7, g718_11, g718_12, g718_13, g718_16, g718_19, g718_20, g718_23, g718_25, g718_28, g718_29, g718_32, g718_33, g718_35, g718_36, g718_39, g718_42, g718_44, g718_47, g718_48, g718_50, g718_51, g718_54, g718_57, g718_58, k0, j0, j1, j2, j3, j4, j6, j8, j9, p0, v1, z0, z1, cc, i_le, q1, c1, bI_f q2, nI_1]
    · obtain ⟨h2, f2, c2⟩ := c_bag_lp hK m (k + 1) h best (by omega) c
      have e1 : sBs py ex n K w k best = best := if_neg (fun z => q1 (by rw [sFw_c hk]; exact z.1))
      refine ⟨h2, f2, fun Q => ?_⟩
      rw [g718_9, lp_s, e1, ← c2 Q]
      simp +decide only [Nat.reduceEqDiff, Nat.add_eq_left, Nat.left_eq_add, Nat.reduceAdd, Nat.reduceLeDiff, Nat.reduceMul, Nat.reduceSub, Nat.reduceLT, zlt8, zlt8_, zlt8n, zlt8n_, List.length_cons, List.length_nil, true_or, or_true, false_or, or_false, and_self, and_true, true_and, and_false, false_and, not_false_eq_true, not_true_eq_false, ite_true, ite_false, if_true, if_false, ite_not, zin, zpush_s, zpush_n, kl_int, kl_ref, kl_none, kl_kl, kl_long, kl_null, zT_wI, zT_wJ, zT_wR, zT_wIr, zT_wJr, zT_wRr, zI_wJ, zI_wR, zI_wJr, zI_wRr, zJ_wI, zJ_wR, zJ_wIr, zJ_wRr, zR_wI, zR_wJ, zR_wIr, zR_wJr, zN_wI, zN_wJ, zN_wR, zN_wIr, zN_wJr, zN_wRr, zZ_wI, zZ_wJ, zZ_wR, zZ_wIr, zZ_wJr, zZ_wRr, zI_wI, zJ_wJ, zR_wR, zI_wIr, zJ_wJr, zR_wRr, g718_0, g718_2, g718_3, g718_5, g718_6, g718_7, g718_11, g718_12, g718_13, g718_16, g718_19, g718_20, g718_23, g718_25, g718_28, g718_29, g718_32, g718_33, g718_35, g718_36, g718_39, g718_42, g718_44, g718_47, g718_48, g718_50, g718_51, g718_54, g718_57, g718_58, k0, j0, j1, j2, j3, j4, j6, j8, j9, p0, v1, z0, z1, cc, i_le, q1, nI_1]
theorem c_bagq (c : CQ h n D w py ex sv) (hK : K ≤ 60) : ∃ h1, FS (RA 15) h h1 ∧ ∀ Q, zCall (d + 7) 718 [.ref 0, .int (nI K)] h Q = Q (some (.int (sBag py ex n K w))) h1 := by
  obtain ⟨h1, f1, c1⟩ := c_bag_lp (d := d) hK (2 ^ n) 0 h (-5) (by omega) c
  refine ⟨h1, f1, fun Q => ?_⟩
  simp +decide only [Nat.reduceEqDiff, Nat.add_eq_left, Nat.left_eq_add, Nat.reduceAdd, Nat.reduceLeDiff, Nat.reduceMul, Nat.reduceSub, Nat.reduceLT, zlt8, zlt8_, zlt8n, zlt8n_, List.length_cons, List.length_nil, true_or, or_true, false_or, or_false, and_self, and_true, true_and, and_false, false_and, not_false_eq_true, not_true_eq_false, ite_true, ite_false, if_true, if_false, ite_not, zin, zpush_s, zpush_n, kl_int, kl_ref, kl_none, kl_kl, kl_long, kl_null, zT_wI, zT_wJ, zT_wR, zT_wIr, zT_wJr, zT_wRr, zI_wJ, zI_wR, zI_wJr, zI_wRr, zJ_wI, zJ_wR, zJ_wIr, zJ_wRr, zR_wI, zR_wJ, zR_wIr, zR_wJr, zN_wI, zN_wJ, zN_wR, zN_wIr, zN_wJr, zN_wRr, zZ_wI, zZ_wJ, zZ_wR, zZ_wIr, zZ_wJr, zZ_wRr, zI_wI, zJ_wJ, zR_wR, zI_wIr, zJ_wJr, zR_wRr, k718, g718_0, g718_2, g718_3, g718_5, g718_6, g718_7, g718_11, g718_12, g718_13, g718_16, g718_19, g718_20, g718_23, g718_25, g718_28, g718_29, g718_32, g718_33, g718_35, g718_36, g718_39, g718_42, g718_44, g718_47, g718_48, g718_50, g718_51, g718_54, g718_57, g718_58]
  exact c1 Q
/-- the first day of the first m on which one is in the city -/
def sGets (p : Int32) (ex : zW0 → Int32) (n t : Nat) : Nat → Nat → zW0 → Int32
  | 0, _, _ => -5
  | m + 1, k, w => if w (10 * t + 3) = 10 then nI k else sGets p ex n t m (k + 1) (sDay p ex n w)
theorem c_gets_lp (ht : t < n) : ∀ (m k : Nat) (h : zH) (v : zW0) (D2 : Nat), k + m = 61 → D2 + m ≤ 20000 → CQ h n D w py ex sv → Rv h 15 n v (-1) sv → sOK v n D2 → ∃ h1, FS (RA 15) h h1 ∧ ∀ Q, zG (d + 5) 713 13 [some (.ref 0), some (.int (nI t)), some (.int (nI k))] [] h Q = Q (some (.int (sGets py ex n t m k v))) h1
  | 0, k, h, v, D2, e, e2, c, hv, hw => by
    have e : k = 61 := by omega
    subst e
    refine ⟨h, FS_r _ _, fun Q => ?_⟩
    rw [g713_13]
    simp +decide only [Nat.reduceEqDiff, Nat.add_eq_left, Nat.left_eq_add, Nat.reduceAdd, Nat.reduceLeDiff, Nat.reduceMul, Nat.reduceSub, Nat.reduceLT, zlt8, zlt8_, zlt8n, zlt8n_, List.length_cons, List.length_nil, true_or, or_true, false_or, or_false, and_self, and_true, true_and, and_false, false_and, not_false_eq_true, not_true_eq_false, ite_true, ite_false, if_true, if_false, ite_not, zin, zpush_s, zpush_n, kl_int, kl_ref, kl_none, kl_kl, kl_long, kl_null, zT_wI, zT_wJ, zT_wR, zT_wIr, zT_wJr, zT_wRr, zI_wJ, zI_wR, zI_wJr, zI_wRr, zJ_wI, zJ_wR, zJ_wIr, zJ_wRr, zR_wI, zR_wJ, zR_wIr, zR_wJr, zN_wI, zN_wJ, zN_wR, zN_wIr, zN_wJr, zN_wRr, zZ_wI, zZ_wJ, zZ_wR, zZ_wIr, zZ_wJr, zZ_wRr, zI_wI, zJ_wJ, zR_wR, zI_wIr, zJ_wJr, zR_wRr, g713_0, g713_1, g713_4, g713_5, g713_8, g713_11, g713_12, g713_14, g713_16, g713_19, g713_20, g713_23, g713_26, g713_27, g713_28, g713_30, g713_33, g713_34, g713_35, g713_36, g713_39, g713_40, g713_43, g713_46, g713_49, g713_51, show (60 : Int32) < nI 61 by decide]
    rfl
  | m + 1, k, h, v, D2, e, e2, c, hv, hw => by
    have hn := hw.2.1
    obtain ⟨k0, j0, j1, j2, j3, j4, j6, j8, j9⟩ := id c.1
    obtain ⟨q0, q1, q2, q3, q4, q5, q6, q7, r0, r1, r2, r3, r4, r5, r6, r7⟩ := id c.2.2.1
    obtain ⟨u1, u2, u3, u4, u5, u6, u7⟩ := hv.2.2.2.2.2 t ht
    have z1 := nI_pos (n := t) (by omega)
    have z2 := nI_clamp (n := t) (by omega)
    have z3 : ¬ 60 < nI k := nI_nlt (a := 60) (by omega) (by omega)
    by_cases q : v (10 * t + 3) = 10
    · refine ⟨h, FS_r _ _, fun Q => ?_⟩
      rw [g713_13]
      unfold sGets
      simp +decide only [Nat.reduceEqDiff, Nat.add_eq_left, Nat.left_eq_add, Nat.reduceAdd, Nat.reduceLeDiff, Nat.reduceMul, Nat.reduceSub, Nat.reduceLT, zlt8, zlt8_, zlt8n, zlt8n_, List.length_cons, List.length_nil, true_or, or_true, false_or, or_false, and_self, and_true, true_and, and_false, false_and, not_false_eq_true, not_true_eq_false, ite_true, ite_false, if_true, if_false, ite_not, zin, zpush_s, zpush_n, kl_int, kl_ref, kl_none, kl_kl, kl_long, kl_null, zT_wI, zT_wJ, zT_wR, zT_wIr, zT_wJr, zT_wRr, zI_wJ, zI_wR, zI_wJr, zI_wRr, zJ_wI, zJ_wR, zJ_wIr, zJ_wRr, zR_wI, zR_wJ, zR_wIr, zR_wJr, zN_wI, zN_wJ, zN_wR, zN_wIr, zN_wJr, zN_wRr, zZ_wI, zZ_wJ, zZ_wR, zZ_wIr, zZ_wJr, zZ_wRr, zI_wI, zJ_wJ, zR_wR, zI_wIr, zJ_wJr, zR_wRr, g713_0, g713_1, g713_4, g713_5, g713_8, g713_11, g713_12, g713_14, g713_16, g713_19, g713_20, g713_23, g713_26, g713_27, g713_28, g713_30, g713_33, g713_34, g713_35, g713_36, g713_39, g713_40, g713_43, g713_46, g713_49, g713_51, k0, j0, j1, j2, j3, j4, j6, j8, j9, q0, q1, q2, q3, q4, q5, q6, q7, r0, r1, r2, r3, r4, r5, r6, z1, z2, z3, show t < 6 by omega, u4, q]
    · obtain ⟨h1, f1, v1, c1⟩ := c_goT (d := d) (K := 1) (p := py) (D2 := D2) c hv hw (by omega) (by omega) rfl
      have e1 : sDays py ex n 1 v = sDay py ex n v := rfl
      rw [e1] at v1
      have c1' : ∀ Q, zCall (d + 5) 210 [.ref 15, .int 1] h Q = Q none h1 := c1
      obtain ⟨h2, f2, c2⟩ := c_gets_lp ht m (k + 1) h1 (sDay py ex n v) (D2 + 1) (by omega) (by omega) (CQ_f f1 c) v1 (sDay_ok hw)
      refine ⟨h2, FS_t f1 f2, fun Q => ?_⟩
      rw [g713_13]
      unfold sGets
      rw [if_neg q, ← c2 Q]
      simp +decide only [Nat.reduceEqDiff, Nat.add_eq_left, Nat.left_eq_add, Nat.reduceAdd, Nat.reduceLeDiff, Nat.reduceMul, Nat.reduceSub, Nat.reduceLT, zlt8, zlt8_, zlt8n, zlt8n_, List.length_cons, List.length_nil, true_or, or_true, false_or, or_false, and_self, and_true, true_and, and_false, false_and, not_false_eq_true, not_true_eq_false, ite_true, ite_false, if_true, if_false, ite_not, zin, zpush_s, zpush_n, kl_int, kl_ref, kl_none, kl_kl, kl_long, kl_null, zT_wI, zT_wJ, zT_wR, zT_wIr, zT_wJr, zT_wRr, zI_wJ, zI_wR, zI_wJr, zI_wRr, zJ_wI, zJ_wR, zJ_wIr, zJ_wRr, zR_wI, zR_wJ, zR_wIr, zR_wJr, zN_wI, zN_wJ, zN_wR, zN_wIr, zN_wJr, zN_wRr, zZ_wI, zZ_wJ, zZ_wR, zZ_wIr, zZ_wJr, zZ_wRr, zI_wI, zJ_wJ, zR_wR, zI_wIr, zJ_wJr, zR_wRr, g713_0, g713_1, g713_4, g713_5, g713_8, g713_11, g713_12, g713_14, g713_16, g713_19, g713_20, g713_23, g713_26, g713_27, g713_28, g713_30, g713_33, g713_34, g713_35, g713_36, g713_39, g713_40, g713_43, g713_46, g713_49, g713_51, k0, j0, j1, j2, j3, j4, j6, j8, j9, q0, q1, q2, q3, q4, q5, q6, q7, r0, r1, r2, r3, r4, r5, r6, z1, z2, z3, show t < 6 by omega, u4, q, c1', nI_1]
theorem c_gets (c : CQ h n D w py ex sv) (ht : t < n) : ∃ h1, FS (RA 15) h h1 ∧ ∀ Q, zCall (d + 6) 713 [.ref 0, .int (nI t)] h Q = Q (some (.int (sGets py ex n t 61 0 w))) h1 := by
  obtain ⟨h1, f1, v1, c1⟩ := c_copyT (d := d + 4) c
  obtain ⟨h2, f2, c2⟩ := c_gets_lp (d := d) ht 61 0 h1 w D (by omega) (by have := c.2.2.2.2.2.1; omega) (CQ_f f1 c) v1 c.2.2.2.2.1
  refine ⟨h2, FS_t f1 f2, fun Q => ?_⟩
  obtain ⟨k0, j0, j1, j2, j3, j4, j6, j8, j9⟩ := id c.1
  have p0 := c.2.1.1
  have p1 := c.2.2.1.1
  simp +decide only [Nat.reduceEqDiff, Nat.add_eq_left, Nat.left_eq_add, Nat.reduceAdd, Nat.reduceLeDiff, Nat.reduceMul, Nat.reduceSub, Nat.reduceLT, zlt8, zlt8_, zlt8n, zlt8n_, List.length_cons, List.length_nil, true_or, or_true, false_or, or_false, and_self, and_true, true_and, and_false, false_and, not_false_eq_true, not_true_eq_false, ite_true, ite_false, if_true, if_false, ite_not, zin, zpush_s, zpush_n, kl_int, kl_ref, kl_none, kl_kl, kl_long, kl_null, zT_wI, zT_wJ, zT_wR, zT_wIr, zT_wJr, zT_wRr, zI_wJ, zI_wR, zI_wJr, zI_wRr, zJ_wI, zJ_wR, zJ_wIr, zJ_wRr, zR_wI, zR_wJ, zR_wIr, zR_wJr, zN_wI, zN_wJ, zN_wR, zN_wIr, zN_wJr, zN_wRr, zZ_wI, zZ_wJ, zZ_wR, zZ_wIr, zZ_wJr, zZ_wRr, zI_wI, zJ_wJ, zR_wR, zI_wIr, zJ_wJr, zR_wRr, k713, g713_0, g713_1, g713_4, g713_5, g713_8, g713_11, g713_12, g713_14, g713_16, g713_19, g713_20, g713_23, g713_26, g713_27, g713_28, g713_30, g713_33, g713_34, g713_35, g713_36, g713_39, g713_40, g713_43, g713_46, g713_49, g713_51, k0, j0, j1, j2, j3, j4, j6, j8, j9, p0, p1, c1]
  exact c2 Q
