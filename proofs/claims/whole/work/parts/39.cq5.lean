-- needs 38.cq4
/-! where one is and how often one has turned, all the time -/
def s1 (w : zW0) (D t : Nat) : Prop := (∃ j, j ≤ D ∧ w (10 * t + 5) = nI j) ∧ ∃ j, j ≤ 10 ∧ w (10 * t + 3) = nI j ∧ (w (10 * t + 4) = 1 → 1 ≤ j ∧ j ≤ 9)
def sTB (w : zW0) (n D : Nat) : Prop := ∀ t, t < n → s1 w D t
variable {d a b n t D D2 K c1 c2 c3 : Nat} {h : zH} {w w0 w2 v : zW0} {fo fp x y z py p : Int32} {sv : Value} {ex : zW0 → Int32}
theorem s1_e {w v : zW0} (e3 : v (10 * t + 3) = w (10 * t + 3)) (e4 : v (10 * t + 4) = w (10 * t + 4)) (e5 : v (10 * t + 5) = w (10 * t + 5)) (h : s1 w D t) : s1 v D t := by
  unfold s1 at h ⊢
  rw [e3, e4, e5]
  exact h
theorem s1_m (hD : D ≤ D2) (h : s1 w D t) : s1 w D2 t := by
  obtain ⟨⟨j, h1, h2⟩, h3⟩ := h
  exact ⟨⟨j, by omega, h2⟩, h3⟩
theorem sGw_o {s : Nat} (hs : ¬ s = t) (hs6 : s < 6) (ht6 : t < 6) {j : Nat} (hj : j < 10) (v : zW0) : sGw p ex n t v (10 * s + j) = v (10 * s + j) := by
  have e1 : ∀ v : zW0, sG1 v t (10 * s + j) = v (10 * s + j) := fun v => up_n _ _ (by omega)
  have e2 : ∀ v : zW0, sG2 v t (10 * s + j) = v (10 * s + j) := fun v => by unfold sG2; split <;> first | rfl | exact up_n _ _ (by omega)
  have e3 : ∀ (v : zW0) o, sG3 v t o (10 * s + j) = v (10 * s + j) := fun v o => by unfold sG3; rw [up_n _ _ (by omega), up_n _ _ (by omega), up_n _ _ (by omega), up_n _ _ (by omega)]
  have e4 : ∀ (v : zW0) o, sG4 v t o (10 * s + j) = v (10 * s + j) := fun v o => by unfold sG4; split <;> first | rfl | exact e3 v o
  unfold sGw
  split
  · rfl
  · unfold sGo
    split
    · rw [e4, e2, e1]
    · rw [e2, e1]
theorem nI_m1 {j : Nat} (h : 1 ≤ j) : nI j + -1 = nI (j - 1) := by
  obtain ⟨k, rfl⟩ : ∃ k, j = k + 1 := ⟨j - 1, by omega⟩
  rw [← Int32.sub_eq_add_neg, nI_pred, Nat.add_sub_cancel]
theorem sGw_1 (ht : t < 6) (hb : v (10 * t + 4) = 0 ∨ v (10 * t + 4) = 1) (h : s1 v D t) : s1 (sGw p ex n t v) (D + 1) t := by
  unfold sGw
  split
  · exact s1_m (by omega) h
  · next c10 =>
    obtain ⟨⟨i, i1, i2⟩, j, j1, j2, j3⟩ := h
    have key : s1 (sG2 (sG1 v t) t) D t := by
      have g3 : sG1 v t (10 * t + 3) = v (10 * t + 3) + (if v (10 * t + 4) = 1 then -1 else 1) := up_s _ _ _
      have g4 : sG1 v t (10 * t + 4) = v (10 * t + 4) := up_n _ _ (by omega)
      have g5 : sG1 v t (10 * t + 5) = v (10 * t + 5) := up_n _ _ (by omega)
      have hj : ¬ j = 10 := fun e => c10 (by rw [j2, e]; rfl)
      have g3' : ∃ j', j' ≤ 10 ∧ sG1 v t (10 * t + 3) = nI j' ∧ (v (10 * t + 4) = 1 → j' ≤ 9) := by
        rcases hb with c | c
        · exact ⟨j + 1, by omega, by rw [g3, c, j2, if_neg (by decide), nI_1], fun e => by rw [c] at e; exact absurd e (by decide)⟩
        · exact ⟨j - 1, by omega, by rw [g3, c, j2, if_pos rfl, nI_m1 (j3 c).1], fun _ => by omega⟩
      obtain ⟨j', k1, k2, k3⟩ := g3'
      unfold sG2
      split
      · next c0 =>
        refine ⟨⟨i, i1, by rw [up_n _ _ (by omega), g5]; exact i2⟩, 0, by omega, by rw [up_n _ _ (by omega), c0]; rfl, fun e => ?_⟩
        rw [up_s] at e
        exact absurd e (by decide)
      · next c0 =>
        refine ⟨⟨i, i1, by rw [g5]; exact i2⟩, j', k1, k2, fun e => ?_⟩
        rw [g4] at e
        have : ¬ j' = 0 := fun z => c0 (by rw [k2, z]; rfl)
        exact ⟨by omega, k3 e⟩
    unfold sGo
    dsimp only
    split
    · next c5 =>
      unfold sG4
      split
      · obtain ⟨⟨i, i1, i2⟩, j, j1, j2, j3⟩ := key
        unfold sG3
        refine ⟨⟨i + 1, by omega, ?_⟩, 5, by omega, ?_, fun _ => by omega⟩
        · rw [up_n _ _ (by omega), up_s, i2, nI_1]
        · rw [up_n _ _ (by omega), up_n _ _ (by omega), up_n _ _ (by omega), up_n _ _ (by omega)]; exact c5.1
      · exact s1_m (by omega) key
    · exact s1_m (by omega) key
theorem sDay_tb (hw : sOK w n D2) (h : sTB w n D) : sTB (sDay p ex n w) n (D + 1) := by
  have hn := hw.2.1
  have key := lp_i (f := sGw p ex n) (fun k v => sOK v n D2 ∧ (∀ s, s < n → k ≤ s → s1 v D s) ∧ ∀ s, s < n → s < k → s1 v (D + 1) s) n 0 w ⟨hw, fun s hs _ => h s hs, fun s _ hs => by omega⟩ (fun k h1 h2 v hv => by
    obtain ⟨v1, v2, v3⟩ := hv
    have hk : k < n := by omega
    refine ⟨sGw_ok v1 hk, fun s hs hks => ?_, fun s hs hks => ?_⟩
    · exact s1_e (sGw_o (by omega) (by omega) (by omega) (by omega) v) (sGw_o (by omega) (by omega) (by omega) (by omega) v) (sGw_o (by omega) (by omega) (by omega) (by omega) v) (v2 s hs (by omega))
    · by_cases e : s = k
      · subst e; exact sGw_1 (by omega) (v1.2.2.2 s hs) (v2 s hs (by omega))
      · exact s1_e (sGw_o (by omega) (by omega) (by omega) (by omega) v) (sGw_o (by omega) (by omega) (by omega) (by omega) v) (sGw_o (by omega) (by omega) (by omega) (by omega) v) (v3 s hs (by omega)))
  intro s hs
  unfold sDay
  exact s1_e (up_n _ _ (by omega)) (up_n _ _ (by omega)) (up_n _ _ (by omega)) (key.2.2 s hs (by omega))
theorem sDays_tb (hw : sOK w n D2) (h : sTB w n D) (K : Nat) : sTB (sDays p ex n K w) n (D + K) := by
  have := lp_i (f := fun _ w => sDay p ex n w) (fun j w => sOK w n (D2 + j) ∧ sTB w n (D + j)) K 0 w ⟨hw, h⟩ (fun k h1 h2 s hs => ⟨sDay_ok hs.1, sDay_tb hs.1 hs.2⟩)
  rw [Nat.zero_add] at this
  exact this.2
/-! odds -/
def sOd (ex : zW0 → Int32) (n K t : Nat) (w : zW0) (m k s : Nat) : Nat := lp (fun k s => if sDays (nI k) ex n K w (10 * t + 3) = 10 then s + 1 else s) m k s
theorem sOd_le (ex : zW0 → Int32) (n K t : Nat) (w : zW0) (m k s : Nat) : sOd ex n K t w m k s ≤ s + m := by
  have := lp_i (f := fun k s => if sDays (nI k) ex n K w (10 * t + 3) = 10 then s + 1 else s) (fun j s' => s' + k ≤ s + j) m k s (by omega) (fun j h1 h2 s' hs => by split <;> omega)
  unfold sOd
  omega
def qPart (x : Int32) (u v : Nat) : Int64 := lN ((if x = 0 then u else v) / Nat.gcd u v)
theorem c_odds_lp (ht : t < n) (hK : K ≤ 60) : ∀ (m k : Nat) (h : zH) (s : Nat), k + m = 21 → s + m ≤ 21 → CQ h n D w py ex sv → ∃ h1, FS (RA 15) h h1 ∧ ∀ Q, zG (d + 6) 724 35 [some (.ref 0), some (.int (nI t)), some (.int (nI K)), some (.int x), some (.int (nI s)), some (.int (nI k))] [] h Q = Q (some (.long (qPart x (sOd ex n K t w m k s) 21))) h1
  | 0, k, h, s, e, e2, c => by
    have e : k = 21 := by omega
    subst e
    refine ⟨h, FS_r _ _, fun Q => ?_⟩
    have cp : ∀ Q, zCall (d + 6) 726 [.int (nI s), .int 21, .int x] h Q = Q (some (.long (qPart x s 21))) h := fun Q => c_partOf (u := s) (v := 21) (by omega) (by omega) (by omega) Q
    rw [g724_35]
    simp +decide only [Nat.reduceEqDiff, Nat.add_eq_left, Nat.left_eq_add, Nat.reduceAdd, Nat.reduceLeDiff, Nat.reduceMul, Nat.reduceSub, Nat.reduceLT, zlt8, zlt8_, zlt8n, zlt8n_, List.length_cons, List.length_nil, true_or, or_true, false_or, or_false, and_self, and_true, true_and, and_false, false_and, not_false_eq_true, not_true_eq_false, ite_true, ite_false, if_true, if_false, ite_not, zin, zpush_s, zpush_n, kl_int, kl_ref, kl_none, kl_kl, kl_long, kl_null, zT_wI, zT_wJ, zT_wR, zT_wIr, zT_wJr, zT_wRr, zI_wJ, zI_wR, zI_wJr, zI_wRr, zJ_wI, zJ_wR, zJ_wIr, zJ_wRr, zR_wI, zR_wJ, zR_wIr, zR_wJr, zN_wI, zN_wJ, zN_wR, zN_wIr, zN_wJr, zN_wRr, zZ_wI, zZ_wJ, zZ_wR, zZ_wIr, zZ_wJr, zZ_wRr, zI_wI, zJ_wJ, zR_wR, zI_wIr, zJ_wJr, zR_wRr, g724_0, g724_1, g724_2, g724_5, g724_8, g724_9, g724_11, g724_14, g724_17, g724_18, g724_19, g724_22, g724_25, g724_28, g724_29, g724_30, g724_32, g724_33, g724_37, g724_39, g724_42, g724_43, g724_46, g724_47, g724_50, g724_53, g724_54, g724_57, g724_59, g724_62, g724_63, g724_66, g724_67, g724_70, g724_71, g724_74, g724_77, g724_78, g724_79, g724_81, g724_84, g724_87, g724_90, g724_93, g724_95, g724_97, g724_98, g724_101, show (20 : Int32) < nI 21 by decide, cp]
    rfl
  | m + 1, k, h, s, e, e2, c => by
    have hn := c.2.2.2.2.1.2.1
    obtain ⟨h1, f1, v1, c1⟩ := c_copyT (d := d + 5) c
    have f2 : FS (RA 15) h (wI h1 15 11 (nI k)) := FS_t f1 (FS_I _ (by unfold RA; omega))
    have C2 := CQ_f f2 c
    obtain ⟨h2, f3, v3, c3⟩ := c_goT (d := d + 1) (K := K) (p := nI k) C2 (Rv_fp (x := nI k) v1 hn) c.2.2.2.2.1 hK (by have := c.2.2.2.2.2.1; omega) (if_neg (nI_pos (by omega)))
    have C3 := CQ_f f3 C2
    obtain ⟨h4, f4, c4⟩ := c_odds_lp ht hK m (k + 1) h2 (if sDays (nI k) ex n K w (10 * t + 3) = 10 then s + 1 else s) (by omega) (by split <;> omega) C3
    refine ⟨h4, FS_t (FS_t f2 f3) f4, fun Q => ?_⟩
    have z1 : ¬ 20 < nI k := nI_nlt (a := 20) (by omega) (by omega)
    have z2 := nI_pos (n := t) (by omega)
    have z3 := nI_clamp (n := t) (by omega)
    obtain ⟨k0, j0, j1, j2, j3, j4, j6, j8, j9⟩ := id c.1
    obtain ⟨q0, q1, q2, q3, q4, q5, q6, q7, r0, r1, r2, r3, r4, r5, r6, r7⟩ := id C3.2.2.1
    have i1 : zR h1 0 1 = .ref 15 := C2.1.2.2.1
    have k1 : zT h1 0 = (7, 10) := C2.1.1
    have l1 : zR h2 0 1 = .ref 15 := C3.1.2.2.1
    have l0 : zT h2 0 = (7, 10) := C3.1.1
    have p0 := c.2.1.1
    have p1 := c.2.2.1.1
    have p2 : zT h1 15 = (2, 12) := C2.2.2.1.1
    obtain ⟨u1, u2, u3, u4, u5, u6, u7⟩ := v3.2.2.2.2.2 t ht
    have e1 : sOd ex n K t w (m + 1) k s = sOd ex n K t w m (k + 1) (if sDays (nI k) ex n K w (10 * t + 3) = 10 then s + 1 else s) := rfl
    rw [e1, g724_35, ← c4 Q]
    by_cases q : sDays (nI k) ex n K w (10 * t + 3) = 10 <;> simp +decide only [Nat.reduceEqDiff, Nat.add_eq_left, Nat.left_eq_add, Nat.reduceAdd, Nat.reduceLeDiff, Nat.reduceMul, Nat.reduceSub, Nat.reduceLT, zlt8, zlt8_, zlt8n, zlt8n_, List.length_cons, List.length_nil, true_or, or_true, false_or, or_false, and_self, and_true, true_and, and_false, false_and, not_false_eq_true, not_true_eq_false, ite_true, ite_false, if_true, if_false, ite_not, zin, zpush_s, zpush_n, kl_int, kl_ref, kl_none, kl_kl, kl_long, kl_null, zT_wI, zT_wJ, zT_wR, zT_wIr, zT_wJr, zT_wRr, zI_wJ, zI_wR, zI_wJr, zI_wRr, zJ_wI, zJ_wR, zJ_wIr, zJ_wRr, zR_wI, zR_wJ, zR_wIr, zR_wJr, zN_wI, zN_wJ, zN_wR, zN_wIr, zN_wJr, zN_wRr, zZ_wI, zZ_wJ, zZ_wR, zZ_wIr, zZ_wJr, zZ_wRr, zI_wI, zJ_wJ, zR_wR, zI_wIr, zJ_wJr, zR_wRr, g724_0, g724_1, g724_2, g724_5, g724_8, g724_9, g724_11, g724_14, g724_17, g724_18, g724_19, g724_22, g724_25, g724_28, g724_29, g724_30, g724_32, g724_33, g724_37, g724_39, g724_42, g724_43, g724_46, g724_47, g724_50, g724_53, g724_54, g724_57, g724_59, g724_62, g724_63, g724_66, g724_67, g724_70, g724_71, g724_74, g724_77, g724_78, g724_79, g724_81, g724_84, g724_87, g724_90, g724_93, g724_95, g724_97, g724_98, g724_101, k0, j0, j1, j2, j3, j4, j6, j8, j9, q0, q1, q2, q3, q4, q5, q6, q7, r0, r1, r2, r3, r4, r5, r6, z1, z2, z3, c1, c3, i1, k1, l0, l1, p0, p1, p2, show t < 6 by omega, u4, q, nI_1]
theorem c_odds (c : CQ h n D w py ex sv) (ht : t < n) (hK : K ≤ 60) (hx : x = 0 ∨ x = 1) : ∃ h1, FS (RA 15) h h1 ∧ ∀ Q, zCall (d + 7) 724 [.ref 0, .int (nI t), .int (nI K), .int x] h Q = Q (some (.long (qPart x (sOd ex n K t w 21 0 0) 21))) h1 := by
  have hn := c.2.2.2.2.1.2.1
  have ct : ∀ x Q, zCall (d + 6) 743 [.ref 0, .int x] h Q = Q (some (.int (bI (sIs n x)))) h := fun x Q => c_there c Q
  have y4 : sIs n (nI t) := ⟨t, ht, rfl⟩
  have z1 : ¬ nI K < 0 := nI_pos (by omega)
  have z2 : ¬ 60 < nI K := nI_nlt (a := 60) (by omega) (by omega)
  obtain ⟨h1, f1, g1⟩ := c_odds_lp (d := d) (x := x) ht hK 21 0 h 0 (by omega) (by omega) c
  have g1' : ∀ Q, zG (d + 6) 724 35 [some (.ref 0), some (.int (nI t)), some (.int (nI K)), some (.int x), some (.int 0), some (.int 0)] [] h Q = Q (some (.long (qPart x (sOd ex n K t w 21 0 0) 21))) h1 := g1
  refine ⟨h1, f1, ?_⟩
  revert g1'
  generalize qPart x (sOd ex n K t w 21 0 0) 21 = r
  intro g1' Q
  obtain ⟨k0, j0, j1, j2, j3, j4, j6, j8, j9⟩ := id c.1
  rcases hx with rfl | rfl <;> simp +decide only [Nat.reduceEqDiff, Nat.add_eq_left, Nat.left_eq_add, Nat.reduceAdd, Nat.reduceLeDiff, Nat.reduceMul, Nat.reduceSub, Nat.reduceLT, zlt8, zlt8_, zlt8n, zlt8n_, List.length_cons, List.length_nil, true_or, or_true, false_or, or_false, and_self, and_true, true_and, and_false, false_and, not_false_eq_true, not_true_eq_false, ite_true, ite_false, if_true, if_false, ite_not, zin, zpush_s, zpush_n, kl_int, kl_ref, kl_none, kl_kl, kl_long, kl_null, zT_wI, zT_wJ, zT_wR, zT_wIr, zT_wJr, zT_wRr, zI_wJ, zI_wR, zI_wJr, zI_wRr, zJ_wI, zJ_wR, zJ_wIr, zJ_wRr, zR_wI, zR_wJ, zR_wIr, zR_wJr, zN_wI, zN_wJ, zN_wR, zN_wIr, zN_wJr, zN_wRr, zZ_wI, zZ_wJ, zZ_wR, zZ_wIr, zZ_wJr, zZ_wRr, zI_wI, zJ_wJ, zR_wR, zI_wIr, zJ_wJr, zR_wRr, k724, g724_0, g724_1, g724_2, g724_5, g724_8, g724_9, g724_11, g724_14, g724_17, g724_18, g724_19, g724_22, g724_25, g724_28, g724_29, g724_30, g724_32, g724_33, g724_37, g724_39, g724_42, g724_43, g724_46, g724_47, g724_50, g724_53, g724_54, g724_57, g724_59, g724_62, g724_63, g724_66, g724_67, g724_70, g724_71, g724_74, g724_77, g724_78, g724_79, g724_81, g724_84, g724_87, g724_90, g724_93, g724_95, g724_97, g724_98, g724_101, k0, j0, j1, j2, j3, j4, j6, j8, j9, ct, y4, bI_t, c_within, i_le, z1, z2, g1']
/-! mean -/
def sTu (v : zW0) (n : Nat) : Int32 := lp (fun t s => s + v (10 * t + 5)) n 0 0
theorem sTu_n (hb : sTB v n D) : ∃ u, u ≤ n * D ∧ sTu v n = nI u := by
  have := lp_i (f := fun t s => s + v (10 * t + 5)) (fun k s => ∃ u, u ≤ k * D ∧ s = nI u) n 0 0 ⟨0, by omega, rfl⟩ (fun k h1 h2 s hs => by
    obtain ⟨u, u1, rfl⟩ := hs
    obtain ⟨⟨j, j1, j2⟩, -⟩ := hb k (by omega)
    exact ⟨u + j, by rw [Nat.add_mul]; omega, by rw [j2, nI_add]⟩)
  rw [Nat.zero_add] at this
  exact this
theorem c_mean_lp (hw : sOK v n D2) (c : CQ h n D w py ex sv) (hv : Rv h 15 n v (-1) sv) (Q : zQq) : ∀ (m t : Nat) (s : Int32), t + m = n → zG d 725 55 [some (.ref 0), some (.int z), some (.int x), some (.int s), some (.int (nI t))] [] h Q = zG d 725 86 [some (.ref 0), some (.int z), some (.int x), some (.int (lp (fun t s => s + v (10 * t + 5)) m t s)), some (.int (nI n))] [] h Q
  | 0, t, s, e => by
    have e : n = t := by omega
    subst e
    obtain ⟨k0, j0, j1, j2, j3, j4, j6, j8, j9⟩ := id c.1
    have p1 := c.2.2.1.1
    have v1 := hv.1
    rw [g725_55]
    simp +decide only [Nat.reduceEqDiff, Nat.add_eq_left, Nat.left_eq_add, Nat.reduceAdd, Nat.reduceLeDiff, Nat.reduceMul, Nat.reduceSub, Nat.reduceLT, zlt8, zlt8_, zlt8n, zlt8n_, List.length_cons, List.length_nil, true_or, or_true, false_or, or_false, and_self, and_true, true_and, and_false, false_and, not_false_eq_true, not_true_eq_false, ite_true, ite_false, if_true, if_false, ite_not, zin, zpush_s, zpush_n, kl_int, kl_ref, kl_none, kl_kl, kl_long, kl_null, zT_wI, zT_wJ, zT_wR, zT_wIr, zT_wJr, zT_wRr, zI_wJ, zI_wR, zI_wJr, zI_wRr, zJ_wI, zJ_wR, zJ_wIr, zJ_wRr, zR_wI, zR_wJ, zR_wIr, zR_wJr, zN_wI, zN_wJ, zN_wR, zN_wIr, zN_wJr, zN_wRr, zZ_wI, zZ_wJ, zZ_wR, zZ_wIr, zZ_wJr, zZ_wRr, zI_wI, zJ_wJ, zR_wR, zI_wIr, zJ_wJr, zR_wRr, g725_57, g725_58, g725_61, g725_64, k0, j0, j1, j2, j3, j4, j6, j8, j9, p1, v1, i_le, Int32.lt_irrefl, lp_0]
  | m + 1, t, s, e => by
    have ih := c_mean_lp hw c hv Q m (t + 1) (s + v (10 * t + 5)) (by omega)
    have hn := hw.2.1
    obtain ⟨k0, j0, j1, j2, j3, j4, j6, j8, j9⟩ := id c.1
    obtain ⟨q0, q1, q2, q3, q4, q5, q6, q7, r0, r1, r2, r3, r4, r5, r6, r7⟩ := id c.2.2.1
    have v1 := hv.1
    obtain ⟨u1, u2, u3, u4, u5, u6, u7⟩ := hv.2.2.2.2.2 t (by omega)
    have z1 := nI_pos (n := t) (by omega)
    have z2 := nI_clamp (n := t) (by omega)
    have z3 := nI_lt (a := t) (b := n) (by omega) (by omega)
    rw [g725_55, lp_s, ← ih]
    simp +decide only [Nat.reduceEqDiff, Nat.add_eq_left, Nat.left_eq_add, Nat.reduceAdd, Nat.reduceLeDiff, Nat.reduceMul, Nat.reduceSub, Nat.reduceLT, zlt8, zlt8_, zlt8n, zlt8n_, List.length_cons, List.length_nil, true_or, or_true, false_or, or_false, and_self, and_true, true_and, and_false, false_and, not_false_eq_true, not_true_eq_false, ite_true, ite_false, if_true, if_false, ite_not, zin, zpush_s, zpush_n, kl_int, kl_ref, kl_none, kl_kl, kl_long, kl_null, zT_wI, zT_wJ, zT_wR, zT_wIr, zT_wJr, zT_wRr, zI_wJ, zI_wR, zI_wJr, zI_wRr, zJ_wI, zJ_wR, zJ_wIr, zJ_wRr, zR_wI, zR_wJ, zR_wIr, zR_wJr, zN_wI, zN_wJ, zN_wR, zN_wIr, zN_wJr, zN_wRr, zZ_wI, zZ_wJ, zZ_wR, zZ_wIr, zZ_wJr, zZ_wRr, zI_wI, zJ_wJ, zR_wR, zI_wIr, zJ_wJr, zR_wRr, g725_57, g725_58, g725_61, g725_64, g725_67, g725_68, g725_69, g725_72, g725_75, g725_77, g725_78, g725_79, g725_80, g725_83, k0, j0, j1, j2, j3, j4, j6, j8, j9, q0, q1, q2, q3, q4, q5, q6, q7, r0, r1, r2, r3, r4, r5, r6, v1, z1, z2, z3, i_le, show t < 6 by omega, u6, nI_1]
/-- what mean answers, of a sum and a count -/
def qMean (x : Int32) (u : Int32) (n : Nat) : Int64 := qPart x u.toNatClampNeg n
theorem c_mean (c : CQ h n D w py ex sv) (hb : sTB w n D) (h0 : 0 < n) (hK : K ≤ 60) (hx : x = 0 ∨ x = 1) : ∃ h1, FS (RA 15) h h1 ∧ ∀ Q, zCall (d + 6) 725 [.ref 0, .int (nI K), .int x] h Q = Q (some (.long (qMean x (sTu (sDays py ex n K w) n) n))) h1 := by
  obtain ⟨h1, f1, v1, g1⟩ := c_copyT (d := d + 4) c
  have C1 := CQ_f f1 c
  have hD := c.2.2.2.2.2.1
  have hn := c.2.2.2.2.1.2.1
  obtain ⟨h2, f2, v2, g2⟩ := c_goT (d := d) (K := K) (p := py) C1 v1 c.2.2.2.2.1 hK (by omega) rfl
  have C2 := CQ_f f2 C1
  have g3 := fun Q => c_mean_lp (d := d + 5) (z := nI K) (x := x) (sDays_ok (p := py) (ex := ex) c.2.2.2.2.1 K) C2 v2 Q n 0 0 (by omega)
  obtain ⟨u, u1, u2⟩ := sTu_n (sDays_tb (p := py) (ex := ex) c.2.2.2.2.1 hb K)
  have ub : u < 2 ^ 31 := Nat.lt_of_le_of_lt u1 (Nat.lt_of_le_of_lt (Nat.mul_le_mul hn (show D + K ≤ 10100 by omega)) (by decide))
  have eu : lp (fun t s => s + sDays py ex n K w (10 * t + 5)) n 0 0 = nI u := u2
  rw [eu] at g3
  have cp : ∀ Q, zCall (d + 5) 726 [.int (nI u), .int (nI n), .int x] h2 Q = Q (some (.long (qPart x u n))) h2 := fun Q => c_partOf (u := u) (v := n) ub (by omega) h0 Q
  refine ⟨h2, FS_t f1 f2, fun Q => ?_⟩
  unfold qMean
  rw [u2, nI_clamp ub]
  have g3' : ∀ Q, zG (d + 5) 725 55 [some (.ref 0), some (.int (nI K)), some (.int x), some (.int 0), some (.int 0)] [] h2 Q = zG (d + 5) 725 86 [some (.ref 0), some (.int (nI K)), some (.int x), some (.int (nI u)), some (.int (nI n))] [] h2 Q := g3
  clear g3
  generalize qPart x u n = r at *
  have z1 : ¬ nI K < 0 := nI_pos (by omega)
  have z2 : ¬ 60 < nI K := nI_nlt (a := 60) (by omega) (by omega)
  have z3 : ¬ nI n = 0 := nI_ne0 h0 (by omega)
  obtain ⟨k0, j0, j1, j2, j3, j4, j6, j8, j9⟩ := id c.1
  have i1 : zR h1 0 1 = .ref 15 := C1.1.2.2.1
  have k1 : zT h1 0 = (7, 10) := C1.1.1
  have l1 : zR h2 0 1 = .ref 15 := C2.1.2.2.1
  have l0 : zT h2 0 = (7, 10) := C2.1.1
  have p0 := c.2.1.1
  have p1 := c.2.2.1.1
  have w1 := c.2.2.2.1.1
  have p2 : zT h1 15 = (2, 12) := C1.2.2.1.1
  have p3 : zT h2 15 = (2, 12) := C2.2.2.1.1
  have v21 := v2.1
  rcases hx with rfl | rfl <;> simp +decide only [Nat.reduceEqDiff, Nat.add_eq_left, Nat.left_eq_add, Nat.reduceAdd, Nat.reduceLeDiff, Nat.reduceMul, Nat.reduceSub, Nat.reduceLT, zlt8, zlt8_, zlt8n, zlt8n_, List.length_cons, List.length_nil, true_or, or_true, false_or, or_false, and_self, and_true, true_and, and_false, false_and, not_false_eq_true, not_true_eq_false, ite_true, ite_false, if_true, if_false, ite_not, zin, zpush_s, zpush_n, kl_int, kl_ref, kl_none, kl_kl, kl_long, kl_null, zT_wI, zT_wJ, zT_wR, zT_wIr, zT_wJr, zT_wRr, zI_wJ, zI_wR, zI_wJr, zI_wRr, zJ_wI, zJ_wR, zJ_wIr, zJ_wRr, zR_wI, zR_wJ, zR_wIr, zR_wJr, zN_wI, zN_wJ, zN_wR, zN_wIr, zN_wJr, zN_wRr, zZ_wI, zZ_wJ, zZ_wR, zZ_wIr, zZ_wJr, zZ_wRr, zI_wI, zJ_wJ, zR_wR, zI_wIr, zJ_wJr, zR_wRr, k725, g725_0, g725_1, g725_3, g725_6, g725_9, g725_10, g725_11, g725_14, g725_17, g725_18, g725_21, g725_24, g725_27, g725_30, g725_31, g725_32, g725_35, g725_36, g725_39, g725_42, g725_43, g725_46, g725_47, g725_50, g725_51, g725_52, g725_53, g725_57, g725_58, g725_61, g725_64, g725_67, g725_68, g725_69, g725_72, g725_75, g725_77, g725_78, g725_79, g725_80, g725_83, g725_86, g725_87, g725_88, g725_91, g725_94, g725_95, g725_98, k0, j0, j1, j2, j3, j4, j6, j8, j9, c_within, bI_t, i_le, z1, z2, z3, g1, g2, g3', i1, k1, l0, l1, p0, p1, p2, p3, w1, v21, cp]
/-! plans -/
def sFo (p : Int32) (ex : zW0 → Int32) (n : Nat) (what tr : Int32) (v : zW0) : zW0 :=
  if what = 0 then sDay p ex n v else if what = 1 then va_up (va_up v (10 * tr.toNatClampNeg + 3) 0) (10 * tr.toNatClampNeg + 4) 0
  else if what = 2 then va_up v (10 * tr.toNatClampNeg + 2) (zmin (v (10 * tr.toNatClampNeg + 2) + 10) 99)
  else if ¬ v (10 * tr.toNatClampNeg + 3) = 0 ∧ ¬ v (10 * tr.toNatClampNeg + 3) = 10 then va_up v (10 * tr.toNatClampNeg + 4) 1 else v
theorem s1_up {j : Nat} (hs : ¬ (t = b ∧ (j = 3 ∨ j = 4 ∨ j = 5))) (ht : t < 6) (hb : b < 6) (hj : j < 10) (h : s1 v D t) : s1 (va_up v (10 * b + j) x) D t :=
  s1_e (up_n _ _ (by omega)) (up_n _ _ (by omega)) (up_n _ _ (by omega)) h
theorem sFo_ok (hw : sOK v n D) (hb : sTB v n D2) {k : Nat} (hk : k ≤ 3) (hx : ¬ k = 0 → ∃ t, t < n ∧ x = nI t) : sOK (sFo p ex n (nI k) x v) n (if k = 0 then D + 1 else D) ∧ sTB (sFo p ex n (nI k) x v) n (if k = 0 then D2 + 1 else D2) := by
  have hn := hw.2.1
  unfold sFo
  rcases (by omega : k = 0 ∨ k = 1 ∨ k = 2 ∨ k = 3) with rfl | rfl | rfl | rfl
  · exact ⟨sDay_ok hw, sDay_tb hw hb⟩
  all_goals
    obtain ⟨t, ht, rfl⟩ := hx (by omega)
    rw [nI_clamp (by omega)]
  · rw [if_neg (by decide), if_pos (by decide), if_neg (by decide), if_neg (by decide)]
    refine ⟨sOK_b (sOK_c hw 3 (by omega) (by omega)) (by omega) (Or.inl rfl), fun s hs => ?_⟩
    by_cases e : s = t
    · subst e
      obtain ⟨⟨i, i1, i2⟩, -⟩ := hb s hs
      refine ⟨⟨i, i1, ?_⟩, 0, by omega, ?_, fun e => ?_⟩
      · rw [up_n _ _ (by omega), up_n _ _ (by omega)]; exact i2
      · rw [up_n _ _ (by omega), up_s]; rfl
      · rw [up_s] at e; exact absurd e (by decide)
    · exact s1_up (by omega) (by omega) (by omega) (by omega) (s1_up (by omega) (by omega) (by omega) (by omega) (hb s hs))
  · rw [if_neg (by decide), if_neg (by decide), if_pos (by decide), if_neg (by decide), if_neg (by decide)]
    exact ⟨sOK_c hw 2 (by omega) (by omega), fun s hs => s1_up (by omega) (by omega) (by omega) (by omega) (hb s hs)⟩
  · rw [if_neg (show ¬ nI 3 = 0 by decide), if_neg (show ¬ nI 3 = 1 by decide), if_neg (show ¬ nI 3 = 2 by decide), if_neg (show ¬ 3 = 0 by decide), if_neg (show ¬ 3 = 0 by decide)]
    split
    · next cc =>
      refine ⟨sOK_b hw (by omega) (Or.inr rfl), fun s hs => ?_⟩
      by_cases e : s = t
      · subst e
        obtain ⟨⟨i, i1, i2⟩, j, j1, j2, j3⟩ := hb s hs
        refine ⟨⟨i, i1, ?_⟩, j, j1, ?_, fun e => ?_⟩
        · rw [up_n _ _ (by omega)]; exact i2
        · rw [up_n _ _ (by omega)]; exact j2
        · rw [j2] at cc
          have a1 : ¬ j = 0 := fun z => cc.1 (by rw [z]; rfl)
          have a2 : ¬ j = 10 := fun z => cc.2 (by rw [z]; rfl)
          omega
      · exact s1_up (by omega) (by omega) (by omega) (by omega) (hb s hs)
    · exact ⟨hw, hb⟩
theorem c_follow (c : CQ h n D w py ex sv) (hv : Rv h 15 n v (-1) sv) (hw : sOK v n D2) (hD : D2 ≤ 20000) {k : Nat} (hk : k ≤ 3) (hx : ¬ k = 0 → ∃ t, t < n ∧ x = nI t) : ∃ h1, FS (RA 15) h h1 ∧ Rv h1 15 n (sFo py ex n (nI k) x v) (-1) sv ∧ ∀ Q, zCall (d + 6) 729 [.ref 0, .int (nI k), .int x] h Q = Q none h1 := by
  have hn := hw.2.1
  obtain ⟨k0, j0, j1, j2, j3, j4, j6, j8, j9⟩ := id c.1
  obtain ⟨q0, q1, q2, q3, q4, q5, q6, q7, r0, r1, r2, r3, r4, r5, r6, r7⟩ := id c.2.2.1
  have ct : ∀ x Q, zCall (d + 5) 743 [.ref 0, .int x] h Q = Q (some (.int (bI (sIs n x)))) h := fun x Q => c_there c Q
  unfold sFo
  rcases (by omega : k = 0 ∨ k = 1 ∨ k = 2 ∨ k = 3) with rfl | rfl | rfl | rfl
  · obtain ⟨h1, f1, v1, g1⟩ := c_goT (d := d) (K := 1) (p := py) (D2 := D2) c hv hw (by omega) hD rfl
    have g1' : ∀ Q, zCall (d + 5) 210 [.ref 15, .int 1] h Q = Q none h1 := g1
    refine ⟨h1, f1, v1, fun Q => ?_⟩
    simp +decide only [Nat.reduceEqDiff, Nat.add_eq_left, Nat.left_eq_add, Nat.reduceAdd, Nat.reduceLeDiff, Nat.reduceMul, Nat.reduceSub, Nat.reduceLT, zlt8, zlt8_, zlt8n, zlt8n_, List.length_cons, List.length_nil, true_or, or_true, false_or, or_false, and_self, and_true, true_and, and_false, false_and, not_false_eq_true, not_true_eq_false, ite_true, ite_false, if_true, if_false, ite_not, zin, zpush_s, zpush_n, kl_int, kl_ref, kl_none, kl_kl, kl_long, kl_null, zT_wI, zT_wJ, zT_wR, zT_wIr, zT_wJr, zT_wRr, zI_wJ, zI_wR, zI_wJr, zI_wRr, zJ_wI, zJ_wR, zJ_wIr, zJ_wRr, zR_wI, zR_wJ, zR_wIr, zR_wJr, zN_wI, zN_wJ, zN_wR, zN_wIr, zN_wJr, zN_wRr, zZ_wI, zZ_wJ, zZ_wR, zZ_wIr, zZ_wJr, zZ_wRr, zI_wI, zJ_wJ, zR_wR, zI_wIr, zJ_wJr, zR_wRr, k729, g729_0, g729_1, g729_4, g729_5, g729_8, g729_9, g729_12, g729_15, g729_16, g729_17, g729_20, g729_23, g729_24, g729_25, g729_26, g729_29, g729_30, g729_33, g729_34, g729_35, g729_38, g729_41, g729_42, g729_43, g729_46, g729_47, g729_50, g729_51, g729_53, g729_56, g729_59, g729_60, g729_63, g729_64, g729_67, g729_70, g729_71, g729_74, g729_77, g729_78, g729_79, g729_80, k0, j0, j1, j2, j3, j4, j6, j8, j9, q0, g1', show nI 0 = 0 by decide]
  all_goals
    obtain ⟨t, ht, rfl⟩ := hx (by omega)
    rw [nI_clamp (by omega)]
    have y4 : sIs n (nI t) := ⟨t, ht, rfl⟩
    have z1 := nI_pos (n := t) (by omega)
    have z2 := nI_clamp (n := t) (by omega)
  · rw [if_neg (by decide), if_pos (by decide)]
    have cp := fun (x : Int32) (Q : zQq) => c_put (d := d + 4) (x := x) c.2.2.1 (show t < 6 by omega) Q
    refine ⟨wI (wI h (15 + 4) t 0) (15 + 6) t 0, FS_t (FS_I _ (by unfold RA; omega)) (FS_I _ (by unfold RA; omega)), Rv_c (Rv_c hv hn (by omega) 4 3 (by omega)) hn (by omega) 6 4 (by omega), fun Q => ?_⟩
    simp +decide only [Nat.reduceEqDiff, Nat.add_eq_left, Nat.left_eq_add, Nat.reduceAdd, Nat.reduceLeDiff, Nat.reduceMul, Nat.reduceSub, Nat.reduceLT, zlt8, zlt8_, zlt8n, zlt8n_, List.length_cons, List.length_nil, true_or, or_true, false_or, or_false, and_self, and_true, true_and, and_false, false_and, not_false_eq_true, not_true_eq_false, ite_true, ite_false, if_true, if_false, ite_not, zin, zpush_s, zpush_n, kl_int, kl_ref, kl_none, kl_kl, kl_long, kl_null, zT_wI, zT_wJ, zT_wR, zT_wIr, zT_wJr, zT_wRr, zI_wJ, zI_wR, zI_wJr, zI_wRr, zJ_wI, zJ_wR, zJ_wIr, zJ_wRr, zR_wI, zR_wJ, zR_wIr, zR_wJr, zN_wI, zN_wJ, zN_wR, zN_wIr, zN_wJr, zN_wRr, zZ_wI, zZ_wJ, zZ_wR, zZ_wIr, zZ_wJr, zZ_wRr, zI_wI, zJ_wJ, zR_wR, zI_wIr, zJ_wJr, zR_wRr, k729, g729_0, g729_1, g729_4, g729_5, g729_8, g729_9, g729_12, g729_15, g729_16, g729_17, g729_20, g729_23, g729_24, g729_25, g729_26, g729_29, g729_30, g729_33, g729_34, g729_35, g729_38, g729_41, g729_42, g729_43, g729_46, g729_47, g729_50, g729_51, g729_53, g729_56, g729_59, g729_60, g729_63, g729_64, g729_67, g729_70, g729_71, g729_74, g729_77, g729_78, g729_79, g729_80, k0, j0, j1, j2, j3, j4, j6, j8, j9, q0, q1, q2, q3, q4, q5, q6, q7, r0, r1, r2, r3, r4, r5, r6, ct, y4, bI_t, cp, show nI 1 = 1 by decide]
  · rw [if_neg (by decide), if_neg (by decide), if_pos (by decide)]
    have cp := fun (x : Int32) (Q : zQq) => c_esteem (d := d + 4) (x := x) c.2.2.1 (show t < 6 by omega) Q
    obtain ⟨u1, u2, u3, u4, u5, u6, u7⟩ := hv.2.2.2.2.2 t ht
    refine ⟨wI h (15 + 3) t (zmin (v (10 * t + 2) + 10) 99), FS_I _ (by unfold RA; omega), Rv_c hv hn (by omega) 3 2 (by omega), fun Q => ?_⟩
    simp +decide only [Nat.reduceEqDiff, Nat.add_eq_left, Nat.left_eq_add, Nat.reduceAdd, Nat.reduceLeDiff, Nat.reduceMul, Nat.reduceSub, Nat.reduceLT, zlt8, zlt8_, zlt8n, zlt8n_, List.length_cons, List.length_nil, true_or, or_true, false_or, or_false, and_self, and_true, true_and, and_false, false_and, not_false_eq_true, not_true_eq_false, ite_true, ite_false, if_true, if_false, ite_not, zin, zpush_s, zpush_n, kl_int, kl_ref, kl_none, kl_kl, kl_long, kl_null, zT_wI, zT_wJ, zT_wR, zT_wIr, zT_wJr, zT_wRr, zI_wJ, zI_wR, zI_wJr, zI_wRr, zJ_wI, zJ_wR, zJ_wIr, zJ_wRr, zR_wI, zR_wJ, zR_wIr, zR_wJr, zN_wI, zN_wJ, zN_wR, zN_wIr, zN_wJr, zN_wRr, zZ_wI, zZ_wJ, zZ_wR, zZ_wIr, zZ_wJr, zZ_wRr, zI_wI, zJ_wJ, zR_wR, zI_wIr, zJ_wJr, zR_wRr, k729, g729_0, g729_1, g729_4, g729_5, g729_8, g729_9, g729_12, g729_15, g729_16, g729_17, g729_20, g729_23, g729_24, g729_25, g729_26, g729_29, g729_30, g729_33, g729_34, g729_35, g729_38, g729_41, g729_42, g729_43, g729_46, g729_47, g729_50, g729_51, g729_53, g729_56, g729_59, g729_60, g729_63, g729_64, g729_67, g729_70, g729_71, g729_74, g729_77, g729_78, g729_79, g729_80, k0, j0, j1, j2, j3, j4, j6, j8, j9, q0, q1, q2, q3, q4, q5, q6, q7, r0, r1, r2, r3, r4, r5, r6, ct, y4, bI_t, cp, u3, show nI 2 = 2 by decide]
  · rw [if_neg (by decide), if_neg (by decide), if_neg (by decide)]
    have cu := fun (Q : zQq) => c_isUnderWay (d := d + 4) c.2.2.1 hv hn ht Q
    by_cases cc : ¬ v (10 * t + 3) = 0 ∧ ¬ v (10 * t + 3) = 10
    · rw [if_pos cc]
      refine ⟨wI h (15 + 6) t 1, FS_I _ (by unfold RA; omega), Rv_c hv hn (by omega) 6 4 (by omega), fun Q => ?_⟩
      simp +decide only [Nat.reduceEqDiff, Nat.add_eq_left, Nat.left_eq_add, Nat.reduceAdd, Nat.reduceLeDiff, Nat.reduceMul, Nat.reduceSub, Nat.reduceLT, zlt8, zlt8_, zlt8n, zlt8n_, List.length_cons, List.length_nil, true_or, or_true, false_or, or_false, and_self, and_true, true_and, and_false, false_and, not_false_eq_true, not_true_eq_false, ite_true, ite_false, if_true, if_false, ite_not, zin, zpush_s, zpush_n, kl_int, kl_ref, kl_none, kl_kl, kl_long, kl_null, zT_wI, zT_wJ, zT_wR, zT_wIr, zT_wJr, zT_wRr, zI_wJ, zI_wR, zI_wJr, zI_wRr, zJ_wI, zJ_wR, zJ_wIr, zJ_wRr, zR_wI, zR_wJ, zR_wIr, zR_wJr, zN_wI, zN_wJ, zN_wR, zN_wIr, zN_wJr, zN_wRr, zZ_wI, zZ_wJ, zZ_wR, zZ_wIr, zZ_wJr, zZ_wRr, zI_wI, zJ_wJ, zR_wR, zI_wIr, zJ_wJr, zR_wRr, k729, g729_0, g729_1, g729_4, g729_5, g729_8, g729_9, g729_12, g729_15, g729_16, g729_17, g729_20, g729_23, g729_24, g729_25, g729_26, g729_29, g729_30, g729_33, g729_34, g729_35, g729_38, g729_41, g729_42, g729_43, g729_46, g729_47, g729_50, g729_51, g729_53, g729_56, g729_59, g729_60, g729_63, g729_64, g729_67, g729_70, g729_71, g729_74, g729_77, g729_78, g729_79, g729_80, k0, j0, j1, j2, j3, j4, j6, j8, j9, q0, q1, q2, q3, q4, q5, q6, q7, r0, r1, r2, r3, r4, r5, r6, ct, y4, bI_t, cu, bI_t cc, z1, z2, show t < 6 by omega, show nI 3 = 3 by decide, show vp_nar .boolean 1 = 1 by decide]
    · rw [if_neg cc]
      refine ⟨h, FS_r _ _, hv, fun Q => ?_⟩
      simp +decide only [Nat.reduceEqDiff, Nat.add_eq_left, Nat.left_eq_add, Nat.reduceAdd, Nat.reduceLeDiff, Nat.reduceMul, Nat.reduceSub, Nat.reduceLT, zlt8, zlt8_, zlt8n, zlt8n_, List.length_cons, List.length_nil, true_or, or_true, false_or, or_false, and_self, and_true, true_and, and_false, false_and, not_false_eq_true, not_true_eq_false, ite_true, ite_false, if_true, if_false, ite_not, zin, zpush_s, zpush_n, kl_int, kl_ref, kl_none, kl_kl, kl_long, kl_null, zT_wI, zT_wJ, zT_wR, zT_wIr, zT_wJr, zT_wRr, zI_wJ, zI_wR, zI_wJr, zI_wRr, zJ_wI, zJ_wR, zJ_wIr, zJ_wRr, zR_wI, zR_wJ, zR_wIr, zR_wJr, zN_wI, zN_wJ, zN_wR, zN_wIr, zN_wJr, zN_wRr, zZ_wI, zZ_wJ, zZ_wR, zZ_wIr, zZ_wJr, zZ_wRr, zI_wI, zJ_wJ, zR_wR, zI_wIr, zJ_wJr, zR_wRr, k729, g729_0, g729_1, g729_4, g729_5, g729_8, g729_9, g729_12, g729_15, g729_16, g729_17, g729_20, g729_23, g729_24, g729_25, g729_26, g729_29, g729_30, g729_33, g729_34, g729_35, g729_38, g729_41, g729_42, g729_43, g729_46, g729_47, g729_50, g729_51, g729_53, g729_56, g729_59, g729_60, g729_63, g729_64, g729_67, g729_70, g729_71, g729_74, g729_77, g729_78, g729_79, g729_80, k0, j0, j1, j2, j3, j4, j6, j8, j9, q0, q1, q2, q3, q4, q5, q6, q7, r0, r1, r2, r3, r4, r5, r6, ct, y4, bI_t y4, cu, bI_f cc, z1, z2, show t < 6 by omega, show nI 3 = 3 by decide]
def sEn (p : Int32) (ex : zW0 → Int32) (n : Nat) (w0 : zW0) (m i : Nat) (v : zW0) : zW0 := lp (fun i v => sFo p ex n (w0 (81 + 2 * i)) (w0 (82 + 2 * i)) v) m i v
theorem c_ends_lp : ∀ (m i : Nat) (h : zH) (v : zW0) (D2 D3 : Nat), i + m = c2 → D2 + m ≤ 20000 → CQ h n D w py ex sv → NQ h w0 n c1 c2 c3 → Rv h 15 n v (-1) sv → sOK v n D2 → sTB v n D3 → ∃ h1, FS (RA 15) h h1 ∧ Rv h1 15 n (sEn py ex n w0 m i v) (-1) sv ∧ ∀ Q, zG (d + 6) 728 23 [some (.ref 0), some (.int x), some (.int (nI i))] [] h Q = zG (d + 6) 728 71 [some (.ref 0), some (.int x), some (.int (nI c2))] [] h1 Q
  | 0, i, h, v, D2, D3, e, e2, c, N, hv, hw, hb => by
    have e : c2 = i := by omega
    subst e
    refine ⟨h, FS_r _ _, hv, fun Q => ?_⟩
    obtain ⟨k0, j0, j1, j2, j3, j4, j6, j8, j9⟩ := id c.1
    obtain ⟨⟨s1, s2, s3, s4, -, ⟨x1, x2, x3, x4, x5, x6, x7⟩, -⟩, N2, N3⟩ := N
    have r3 := N2.2.2.1
    rw [g728_23]
    simp +decide only [Nat.reduceEqDiff, Nat.add_eq_left, Nat.left_eq_add, Nat.reduceAdd, Nat.reduceLeDiff, Nat.reduceMul, Nat.reduceSub, Nat.reduceLT, zlt8, zlt8_, zlt8n, zlt8n_, List.length_cons, List.length_nil, true_or, or_true, false_or, or_false, and_self, and_true, true_and, and_false, false_and, not_false_eq_true, not_true_eq_false, ite_true, ite_false, if_true, if_false, ite_not, zin, zpush_s, zpush_n, kl_int, kl_ref, kl_none, kl_kl, kl_long, kl_null, zT_wI, zT_wJ, zT_wR, zT_wIr, zT_wJr, zT_wRr, zI_wJ, zI_wR, zI_wJr, zI_wRr, zJ_wI, zJ_wR, zJ_wIr, zJ_wRr, zR_wI, zR_wJ, zR_wIr, zR_wJr, zN_wI, zN_wJ, zN_wR, zN_wIr, zN_wJr, zN_wRr, zZ_wI, zZ_wJ, zZ_wR, zZ_wIr, zZ_wJr, zZ_wRr, zI_wI, zJ_wJ, zR_wR, zI_wIr, zJ_wJr, zR_wRr, g728_24, g728_25, g728_28, g728_31, g728_34, k0, j0, j1, j2, j3, j4, j6, j8, j9, s1, s3, x1, r3, i_le, Int32.lt_irrefl]
  | m + 1, i, h, v, D2, D3, e, e2, c, N, hv, hw, hb => by
    have hi : i < c2 := by omega
    obtain ⟨⟨s1, s2, s3, s4, -, ⟨x1, x2, x3, x4, x5, x6, x7⟩, -⟩, N2, N3⟩ := id N
    obtain ⟨k, k1, k2, k3⟩ := N3.2.2.2.2.2.2.2.1 i hi
    have cb := N3.2.1
    have r3 := N2.2.2.1
    obtain ⟨y1, y2⟩ := N2.2.2.2.1 i hi
    obtain ⟨o1, o2⟩ := sFo_ok (p := py) (ex := ex) hw hb k1 k3
    obtain ⟨h1, f1, v1, g1⟩ := c_follow (d := d) c hv hw (by omega) k1 k3
    rw [← k2] at v1 g1 o1 o2
    obtain ⟨h2, f2, v2, g2⟩ := c_ends_lp m (i + 1) h1 _ _ _ (by omega) (by split <;> omega) (CQ_f f1 c) (NQ_f f1 N) v1 o1 o2
    refine ⟨h2, FS_t f1 f2, v2, fun Q => ?_⟩
    obtain ⟨k0, j0, j1, j2, j3, j4, j6, j8, j9⟩ := id c.1
    have z1 := nI_pos (n := i) (by omega)
    have z2 := nI_clamp (n := i) (by omega)
    have z3 := nI_lt (a := i) (b := c2) (by omega) (by omega)
    rw [g728_23, ← g2 Q]
    simp +decide only [Nat.reduceEqDiff, Nat.add_eq_left, Nat.left_eq_add, Nat.reduceAdd, Nat.reduceLeDiff, Nat.reduceMul, Nat.reduceSub, Nat.reduceLT, zlt8, zlt8_, zlt8n, zlt8n_, List.length_cons, List.length_nil, true_or, or_true, false_or, or_false, and_self, and_true, true_and, and_false, false_and, not_false_eq_true, not_true_eq_false, ite_true, ite_false, if_true, if_false, ite_not, zin, zpush_s, zpush_n, kl_int, kl_ref, kl_none, kl_kl, kl_long, kl_null, zT_wI, zT_wJ, zT_wR, zT_wIr, zT_wJr, zT_wRr, zI_wJ, zI_wR, zI_wJr, zI_wRr, zJ_wI, zJ_wR, zJ_wIr, zJ_wRr, zR_wI, zR_wJ, zR_wIr, zR_wJr, zN_wI, zN_wJ, zN_wR, zN_wIr, zN_wJr, zN_wRr, zZ_wI, zZ_wJ, zZ_wR, zZ_wIr, zZ_wJr, zZ_wRr, zI_wI, zJ_wJ, zR_wR, zI_wIr, zJ_wJr, zR_wRr, g728_24, g728_25, g728_28, g728_31, g728_34, g728_37, g728_38, g728_39, g728_42, g728_45, g728_48, g728_49, g728_50, g728_51, g728_54, g728_57, g728_60, g728_61, g728_62, g728_65, g728_68, k0, j0, j1, j2, j3, j4, j6, j8, j9, s1, s3, x1, x2, x3, x5, x6, r3, y1, y2, z1, z2, z3, i_le, show i < 10 by omega, g1, nI_1]
def aEnd (v : zW0) (n : Nat) (x : Int32) : Int32 := if x = 0 then v 61 else sAt v n 10
theorem c_ends (c : CQ h n D w py ex sv) (N : NQ h w n c1 c2 c3) (hb : sTB w n D) (hx : x = 0 ∨ x = 1) : ∃ h1, FS (RA 15) h h1 ∧ ∀ Q, zCall (d + 7) 728 [.ref 0, .int x] h Q = Q (some (.int (aEnd (sEn py ex n w c2 0 w) n x))) h1 := by
  obtain ⟨h1, f1, v1, g1⟩ := c_copyT (d := d + 5) c
  have C1 := CQ_f f1 c
  have hD := c.2.2.2.2.2.1
  have hn := c.2.2.2.2.1.2.1
  have cb := N.2.2.2.1
  obtain ⟨h2, f2, v2, g2⟩ := c_ends_lp (d := d) (x := x) c2 0 h1 w D D (by omega) (by omega) C1 (NQ_f f1 N) v1 c.2.2.2.2.1 hb
  have C2 := CQ_f f2 C1
  have g2' : ∀ Q, zG (d + 6) 728 23 [some (.ref 0), some (.int x), some (.int 0)] [] h1 Q = zG (d + 6) 728 71 [some (.ref 0), some (.int x), some (.int (nI c2))] [] h2 Q := g2
  refine ⟨h2, FS_t f1 f2, ?_⟩
  generalize sEn py ex n w c2 0 w = v at *
  have cbt : ∀ x Q, zCall (d + 6) 208 [.ref 15, .int x] h2 Q = Q (some (.int (sAt v n x))) h2 := fun x Q => c_bitsAt C2.2.2.1 v2 hn Q
  intro Q
  obtain ⟨k0, j0, j1, j2, j3, j4, j6, j8, j9⟩ := id c.1
  have l1 : zR h2 0 1 = .ref 15 := C2.1.2.2.1
  have l0 : zT h2 0 = (7, 10) := C2.1.1
  have p0 := c.2.1.1
  have p1 := c.2.2.1.1
  have p3 : zT h2 15 = (2, 12) := C2.2.2.1.1
  have v21 := v2.2.1
  unfold aEnd
  rcases hx with rfl | rfl <;> simp +decide only [Nat.reduceEqDiff, Nat.add_eq_left, Nat.left_eq_add, Nat.reduceAdd, Nat.reduceLeDiff, Nat.reduceMul, Nat.reduceSub, Nat.reduceLT, zlt8, zlt8_, zlt8n, zlt8n_, List.length_cons, List.length_nil, true_or, or_true, false_or, or_false, and_self, and_true, true_and, and_false, false_and, not_false_eq_true, not_true_eq_false, ite_true, ite_false, if_true, if_false, ite_not, zin, zpush_s, zpush_n, kl_int, kl_ref, kl_none, kl_kl, kl_long, kl_null, zT_wI, zT_wJ, zT_wR, zT_wIr, zT_wJr, zT_wRr, zI_wJ, zI_wR, zI_wJr, zI_wRr, zJ_wI, zJ_wR, zJ_wIr, zJ_wRr, zR_wI, zR_wJ, zR_wIr, zR_wJr, zN_wI, zN_wJ, zN_wR, zN_wIr, zN_wJr, zN_wRr, zZ_wI, zZ_wJ, zZ_wR, zZ_wIr, zZ_wJr, zZ_wRr, zI_wI, zJ_wJ, zR_wR, zI_wIr, zJ_wJr, zR_wRr, k728, g728_0, g728_1, g728_2, g728_5, g728_8, g728_9, g728_10, g728_11, g728_14, g728_15, g728_18, g728_21, g728_22, g728_24, g728_25, g728_28, g728_31, g728_34, g728_37, g728_38, g728_39, g728_42, g728_45, g728_48, g728_49, g728_50, g728_51, g728_54, g728_57, g728_60, g728_61, g728_62, g728_65, g728_68, g728_71, g728_72, g728_75, g728_76, g728_79, g728_82, g728_85, g728_86, g728_89, g728_91, g728_94, k0, j0, j1, j2, j3, j4, j6, j8, j9, c_within, bI_t, i_le, g1, g2', l0, l1, p0, p1, p3, v21, cbt]
