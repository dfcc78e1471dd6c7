-- needs 36.cq3
/-! notes: what is seen, planned, booked -/
def WS (h : zH) (c m : Nat) : Prop := zT h c = (3, 4) ∧ zR h c 0 = .ref (c + 1) ∧ zR h c 1 = .ref (c + 2) ∧ zR h c 2 = .ref (c + 3) ∧ zT h (c + 1) = (20, m) ∧ zT h (c + 2) = (20, m) ∧ zT h (c + 3) = (20, m)
def NS (h : zH) (b : Nat) : Prop := zT h b = (1, 3) ∧ zR h b 0 = .ref (b + 1) ∧ zR h b 1 = .ref (b + 5) ∧ zR h b 2 = .ref (b + 9) ∧ WS h (b + 1) 5 ∧ WS h (b + 5) 10 ∧ WS h (b + 9) 8
theorem WS_f {S : Nat → Nat → Prop} {h h1 : zH} {c m : Nat} (f : FS S h h1) (hS : ∀ k, k < 3 → ¬ S c k) (r : WS h c m) : WS h1 c m := by
  unfold WS at r ⊢
  rw [f.1, f.2.2.2.2.2 c 0 (hS 0 (by omega)), f.2.2.2.2.2 c 1 (hS 1 (by omega)), f.2.2.2.2.2 c 2 (hS 2 (by omega))]
  exact r
theorem NS_f {S : Nat → Nat → Prop} {h h1 : zH} {b : Nat} (f : FS S h h1) (hS : ∀ c k, (c = b ∨ c = b + 1 ∨ c = b + 5 ∨ c = b + 9) → k < 3 → ¬ S c k) (r : NS h b) : NS h1 b := by
  obtain ⟨r1, r2, r3, r4, r5, r6, r7⟩ := r
  exact ⟨by rw [f.1]; exact r1, by rw [f.2.2.2.2.2 b 0 (hS _ _ (by omega) (by omega))]; exact r2, by rw [f.2.2.2.2.2 b 1 (hS _ _ (by omega) (by omega))]; exact r3, by rw [f.2.2.2.2.2 b 2 (hS _ _ (by omega) (by omega))]; exact r4, WS_f f (fun k hk => hS _ _ (by omega) hk) r5, WS_f f (fun k hk => hS _ _ (by omega) hk) r6, WS_f f (fun k hk => hS _ _ (by omega) hk) r7⟩
/-- the class's notes are the row's -/
def NR (h : zH) (b : Nat) (w : zW0) (c1 c2 c3 : Nat) : Prop := zI h (b + 1) 3 = nI c1 ∧ (∀ i, i < c1 → zI h (b + 2) i = w (65 + 3 * i) ∧ zI h (b + 3) i = w (66 + 3 * i) ∧ zI h (b + 4) i = w (67 + 3 * i))
  ∧ zI h (b + 5) 3 = nI c2 ∧ (∀ i, i < c2 → zI h (b + 6) i = w (81 + 2 * i) ∧ zI h (b + 7) i = w (82 + 2 * i))
  ∧ zI h (b + 9) 3 = nI c3 ∧ (∀ i, i < c3 → zI h (b + 10) i = w (102 + 2 * i) ∧ zI h (b + 11) i = w (103 + 2 * i))
/-- the row's notes are well -/
def PN (w : zW0) (n c1 c2 c3 : Nat) : Prop := c1 ≤ 5 ∧ c2 ≤ 10 ∧ c3 ≤ 8 ∧ w 64 = nI c1 ∧ w 80 = nI c2 ∧ w 101 = nI c3 ∧ (∀ i, i < c1 → (∃ t, t < n ∧ w (65 + 3 * i) = nI t) ∧ ∃ j, j ≤ 12 ∧ w (66 + 3 * i) = nI j)
  ∧ (∀ i, i < c2 → ∃ k, k ≤ 3 ∧ w (81 + 2 * i) = nI k ∧ (k ≠ 0 → ∃ t, t < n ∧ w (82 + 2 * i) = nI t)) ∧ (∀ i, i < c3 → ∃ t, t < n ∧ w (102 + 2 * i) = nI t)
theorem NR_f {S : Nat → Nat → Prop} {h h1 : zH} {b c1 c2 c3 : Nat} {w w1 : zW0} (f : FS S h h1) (hS : ∀ c k, b ≤ c → c < b + 13 → ¬ S c k) (hw : ∀ k, 65 ≤ k → w1 k = w k) (r : NR h b w c1 c2 c3) : NR h1 b w1 c1 c2 c3 := by
  have e : ∀ c k, b ≤ c → c < b + 13 → zI h1 c k = zI h c k := fun c k h1 h2 => f.2.2.2.2.1 _ _ (hS c k h1 h2)
  obtain ⟨r1, r2, r3, r4, r5, r6⟩ := r
  refine ⟨by rw [e _ _ (by omega) (by omega)]; exact r1, fun i hi => ?_, by rw [e _ _ (by omega) (by omega)]; exact r3, fun i hi => ?_, by rw [e _ _ (by omega) (by omega)]; exact r5, fun i hi => ?_⟩
  · rw [e _ _ (by omega) (by omega), e _ _ (by omega) (by omega), e _ _ (by omega) (by omega), hw _ (by omega), hw _ (by omega), hw _ (by omega)]; exact r2 i hi
  · rw [e _ _ (by omega) (by omega), e _ _ (by omega) (by omega), hw _ (by omega), hw _ (by omega)]; exact r4 i hi
  · rw [e _ _ (by omega) (by omega), e _ _ (by omega) (by omega), hw _ (by omega), hw _ (by omega)]; exact r6 i hi
/-- all that is seen of day k stands so in v -/
def sS1 (w0 : zW0) (k : Nat) (v : zW0) (i : Nat) : Bool := (w0 (66 + 3 * i) != nI k) || (v (10 * (w0 (65 + 3 * i)).toNatClampNeg + 3) == w0 (67 + 3 * i))
def sSk (w0 : zW0) (c k : Nat) (v : zW0) : Bool := lp (fun i s => s && sS1 w0 k v i) c 0 true
theorem sSk_f (w0 : zW0) (k : Nat) (v : zW0) : ∀ m i, lp (fun i s => s && sS1 w0 k v i) m i false = false
  | 0, i => rfl
  | m + 1, i => by rw [lp_s, Bool.false_and]; exact sSk_f w0 k v m (i + 1)
/-- and so on, day by day, for m days from k on -/
def sSee (p : Int32) (ex : zW0 → Int32) (n : Nat) (w0 : zW0) (c : Nat) : Nat → Nat → zW0 → Bool
  | 0, _, _ => true
  | m + 1, k, v => sSk w0 c k v && sSee p ex n w0 c m (k + 1) (sDay p ex n v)
variable {d a b n t D D2 K c1 c2 c3 : Nat} {h : zH} {w w0 w2 v : zW0} {fo fp x y z py p : Int32} {sv : Value} {ex : zW0 → Int32}
theorem sSk_none {c k : Nat} (hc : ∀ i, i < c → ¬ w0 (66 + 3 * i) = nI k) (v : zW0) : sSk w0 c k v = true :=
  lp_i (f := fun i s => s && sS1 w0 k v i) (fun _ s => s = true) c 0 true rfl (fun i h1 h2 s hs => by
    have : (w0 (66 + 3 * i) != nI k) = true := by simp [hc i (by omega)]
    simp only [hs, sS1, this, Bool.true_or, Bool.and_self])
theorem sSee_cut {c m k : Nat} (hc : ∀ i, i < c → ∀ j, k + m ≤ j → j < 100 → ¬ w0 (66 + 3 * i) = nI j) : ∀ (e : Nat) (v : zW0), k + m + e ≤ 100 → sSee p ex n w0 c (m + e) k v = sSee p ex n w0 c m k v := by
  induction m generalizing k with
  | zero =>
    intro e
    induction e generalizing k with
    | zero => intro v _; rfl
    | succ e ih =>
      intro v he
      have : 0 + (e + 1) = (0 + e) + 1 := by omega
      rw [this]
      unfold sSee
      rw [sSk_none (fun i hi => hc i hi k (by omega) (by omega)), Bool.true_and]
      exact ih (fun i hi j hj => hc i hi j (by omega)) _ (by omega)
  | succ m ih =>
    intro e v he
    have : m + 1 + e = (m + e) + 1 := by omega
    rw [this]
    unfold sSee
    rw [ih (fun i hi j hj => hc i hi j (by omega)) _ _ (by omega)]
theorem c_seen_lp (hN : NS h b) (hR : NR h b w0 c1 c2 c3) (hS : RS h a) (hv : Rv h a n v fp sv) (hw : sOK v n D) (hP : PN w0 n c1 c2 c3) {k : Nat} (hk : k < 2 ^ 31) (Q : zQq) : ∀ (m i : Nat), i + m = c1 → zG (d + 2) 104 2 [some (.ref b), some (.ref a), some (.int (nI k)), some (.int (nI i))] [] h Q = Q (some (.int (bB (!lp (fun i s => s && sS1 w0 k v i) m i true)))) h
  | 0, i, e => by
    have e : c1 = i := by omega
    subst e
    obtain ⟨s1, s2, s3, s4, ⟨x1, x2, x3, x4, x5, x6, x7⟩, -, -⟩ := hN
    have r1 := hR.1
    rw [g104_2]
    simp +decide only [Nat.reduceEqDiff, Nat.add_eq_left, Nat.left_eq_add, Nat.reduceAdd, Nat.reduceLeDiff, Nat.reduceMul, Nat.reduceSub, Nat.reduceLT, zlt8, zlt8_, zlt8n, zlt8n_, List.length_cons, List.length_nil, true_or, or_true, false_or, or_false, and_self, and_true, true_and, and_false, false_and, not_false_eq_true, not_true_eq_false, ite_true, ite_false, if_true, if_false, ite_not, zin, zpush_s, zpush_n, kl_int, kl_ref, kl_none, kl_kl, kl_long, kl_null, zT_wI, zT_wJ, zT_wR, zT_wIr, zT_wJr, zT_wRr, zI_wJ, zI_wR, zI_wJr, zI_wRr, zJ_wI, zJ_wR, zJ_wIr, zJ_wRr, zR_wI, zR_wJ, zR_wIr, zR_wJr, zN_wI, zN_wJ, zN_wR, zN_wIr, zN_wJr, zN_wRr, zZ_wI, zZ_wJ, zZ_wR, zZ_wIr, zZ_wJr, zZ_wRr, zI_wI, zJ_wJ, zR_wR, zI_wIr, zJ_wJr, zR_wRr, g104_0, g104_1, g104_3, g104_4, g104_7, g104_10, g104_13, g104_14, g104_17, g104_20, g104_21, g104_22, g104_23, g104_26, g104_27, g104_28, g104_31, g104_34, g104_35, g104_36, g104_37, g104_40, g104_43, g104_44, g104_45, g104_48, g104_51, g104_52, g104_53, g104_56, g104_59, g104_60, s1, s2, x1, r1, i_le, Int32.lt_irrefl, lp_0, Bool.not_true, bB_f]
  | m + 1, i, e => by
    have ih := c_seen_lp hN hR hS hv hw hP hk Q m (i + 1) (by omega)
    obtain ⟨s1, s2, s3, s4, ⟨x1, x2, x3, x4, x5, x6, x7⟩, -, -⟩ := hN
    have r1 := hR.1
    obtain ⟨y1, y2, y3⟩ := hR.2.1 i (by omega)
    obtain ⟨p1, p2, p3, p4, p5, p6, p7, -⟩ := hP
    obtain ⟨⟨t, ht, et⟩, ⟨j, hj, ej⟩⟩ := p7 i (by omega)
    have q0 := hS.1
    have ca : ∀ x Q, zCall (d + 2) 206 [.ref a, .int (nI t), .int x] h Q = Q (some (.int (bI (v (10 * t + 3) = x)))) h := fun x Q => c_isAt hS hv hw.2.1 ht Q
    have z1 := nI_pos (n := i) (by omega)
    have z2 := nI_clamp (n := i) (by omega)
    have z3 := nI_lt (a := i) (b := c1) (by omega) (by omega)
    have z4 : (nI j = nI k) = (j = k) := propext (nI_eq (by omega) hk)
    have z5 := nI_clamp (n := t) (by have := hw.2.1; omega)
    rw [et] at y1
    rw [ej] at y2
    rw [g104_2, lp_s]
    have e1 : sS1 w0 k v i = ((nI j != nI k) || (v (10 * t + 3) == w0 (67 + 3 * i))) := by unfold sS1; rw [et, ej, z5]
    by_cases q1 : j = k
    · have e2 : (nI j != nI k) = false := by subst q1; simp
      by_cases q2 : v (10 * t + 3) = w0 (67 + 3 * i)
      · have e3 : (v (10 * t + 3) == w0 (67 + 3 * i)) = true := by simp [q2]
        rw [e1, e2, e3, show (true && (false || true)) = true from rfl, ← ih]
        simp +decide only [Nat.reduceEqDiff, Nat.add_eq_left, Nat.left_eq_add, Nat.reduceAdd, Nat.reduceLeDiff, Nat.reduceMul, Nat.reduceSub, Nat.reduceLT, zlt8, zlt8_, zlt8n, zlt8n_, List.length_cons, List.length_nil, true_or, or_true, false_or, or_false, and_self, and_true, true_and, and_false, false_and, not_false_eq_true, not_true_eq_false, ite_true, ite_false, if_true, if_false, ite_not, zin, zpush_s, zpush_n, kl_int, kl_ref, kl_none, kl_kl, kl_long, kl_null, zT_wI, zT_wJ, zT_wR, zT_wIr, zT_wJr, zT_wRr, zI_wJ, zI_wR, zI_wJr, zI_wRr, zJ_wI, zJ_wR, zJ_wIr, zJ_wRr, zR_wI, zR_wJ, zR_wIr, zR_wJr, zN_wI, zN_wJ, zN_wR, zN_wIr, zN_wJr, zN_wRr, zZ_wI, zZ_wJ, zZ_wR, zZ_wIr, zZ_wJr, zZ_wRr, zI_wI, zJ_wJ, zR_wR, zI_wIr, zJ_wJr, zR_wRr, g104_0, g104_1, g104_3, g104_4, g104_7, g104_10, g104_13, g104_14, g104_17, g104_20, g104_21, g104_22, g104_23, g104_26, g104_27, g104_28, g104_31, g104_34, g104_35, g104_36, g104_37, g104_40, g104_43, g104_44, g104_45, g104_48, g104_51, g104_52, g104_53, g104_56, g104_59, g104_60, s1, s2, x1, x2, x3, x4, x5, x6, x7, r1, y1, y2, y3, z1, z2, z3, z4, i_le, show i < 5 by omega, q0, ca, bI_t q2, q1, nI_1]
      · have e3 : (v (10 * t + 3) == w0 (67 + 3 * i)) = false := by simp [q2]
        rw [e1, e2, e3, Bool.or_false, Bool.and_false, sSk_f]
        simp +decide only [Nat.reduceEqDiff, Nat.add_eq_left, Nat.left_eq_add, Nat.reduceAdd, Nat.reduceLeDiff, Nat.reduceMul, Nat.reduceSub, Nat.reduceLT, zlt8, zlt8_, zlt8n, zlt8n_, List.length_cons, List.length_nil, true_or, or_true, false_or, or_false, and_self, and_true, true_and, and_false, false_and, not_false_eq_true, not_true_eq_false, ite_true, ite_false, if_true, if_false, ite_not, zin, zpush_s, zpush_n, kl_int, kl_ref, kl_none, kl_kl, kl_long, kl_null, zT_wI, zT_wJ, zT_wR, zT_wIr, zT_wJr, zT_wRr, zI_wJ, zI_wR, zI_wJr, zI_wRr, zJ_wI, zJ_wR, zJ_wIr, zJ_wRr, zR_wI, zR_wJ, zR_wIr, zR_wJr, zN_wI, zN_wJ, zN_wR, zN_wIr, zN_wJr, zN_wRr, zZ_wI, zZ_wJ, zZ_wR, zZ_wIr, zZ_wJr, zZ_wRr, zI_wI, zJ_wJ, zR_wR, zI_wIr, zJ_wJr, zR_wRr, g104_0, g104_1, g104_3, g104_4, g104_7, g104_10, g104_13, g104_14, g104_17, g104_20, g104_21, g104_22, g104_23, g104_26, g104_27, g104_28, g104_31, g104_34, g104_35, g104_36, g104_37, g104_40, g104_43, g104_44, g104_45, g104_48, g104_51, g104_52, g104_53, g104_56, g104_59, g104_60, s1, s2, x1, x2, x3, x4, x5, x6, x7, r1, y1, y2, y3, z1, z2, z3, z4, i_le, show i < 5 by omega, q0, ca, bI_f q2, q1, nI_1, Bool.not_false, bB_t]
    · have e2 : (nI j != nI k) = true := by simp [z4, q1]
      rw [e1, e2, Bool.true_or, Bool.and_true, ← ih]
      simp +decide only [Nat.reduceEqDiff, Nat.add_eq_left, Nat.left_eq_add, Nat.reduceAdd, Nat.reduceLeDiff, Nat.reduceMul, Nat.reduceSub, Nat.reduceLT, zlt8, zlt8_, zlt8n, zlt8n_, List.length_cons, List.length_nil, true_or, or_true, false_or, or_false, and_self, and_true, true_and, and_false, false_and, not_false_eq_true, not_true_eq_false, ite_true, ite_false, if_true, if_false, ite_not, zin, zpush_s, zpush_n, kl_int, kl_ref, kl_none, kl_kl, kl_long, kl_null, zT_wI, zT_wJ, zT_wR, zT_wIr, zT_wJr, zT_wRr, zI_wJ, zI_wR, zI_wJr, zI_wRr, zJ_wI, zJ_wR, zJ_wIr, zJ_wRr, zR_wI, zR_wJ, zR_wIr, zR_wJr, zN_wI, zN_wJ, zN_wR, zN_wIr, zN_wJr, zN_wRr, zZ_wI, zZ_wJ, zZ_wR, zZ_wIr, zZ_wJr, zZ_wRr, zI_wI, zJ_wJ, zR_wR, zI_wIr, zJ_wJr, zR_wRr, g104_0, g104_1, g104_3, g104_4, g104_7, g104_10, g104_13, g104_14, g104_17, g104_20, g104_21, g104_22, g104_23, g104_26, g104_27, g104_28, g104_31, g104_34, g104_35, g104_36, g104_37, g104_40, g104_43, g104_44, g104_45, g104_48, g104_51, g104_52, g104_53, g104_56, g104_59, g104_60, s1, s2, x1, x2, x3, x4, x5, x6, x7, r1, y1, y2, y3, z1, z2, z3, z4, i_le, show i < 5 by omega, q1, nI_1]
theorem c_seen (hN : NS h b) (hR : NR h b w0 c1 c2 c3) (hS : RS h a) (hv : Rv h a n v fp sv) (hw : sOK v n D) (hP : PN w0 n c1 c2 c3) {k : Nat} (hk : k < 2 ^ 31) (Q : zQq) : zCall (d + 3) 104 [.ref b, .ref a, .int (nI k)] h Q = Q (some (.int (bB (!sSk w0 c1 k v)))) h := by
  have := c_seen_lp (d := d) hN hR hS hv hw hP hk Q c1 0 (by omega)
  simp +decide only [Nat.reduceEqDiff, Nat.add_eq_left, Nat.left_eq_add, Nat.reduceAdd, Nat.reduceLeDiff, Nat.reduceMul, Nat.reduceSub, Nat.reduceLT, zlt8, zlt8_, zlt8n, zlt8n_, List.length_cons, List.length_nil, true_or, or_true, false_or, or_false, and_self, and_true, true_and, and_false, false_and, not_false_eq_true, not_true_eq_false, ite_true, ite_false, if_true, if_false, ite_not, zin, zpush_s, zpush_n, kl_int, kl_ref, kl_none, kl_kl, kl_long, kl_null, zT_wI, zT_wJ, zT_wR, zT_wIr, zT_wJr, zT_wRr, zI_wJ, zI_wR, zI_wJr, zI_wRr, zJ_wI, zJ_wR, zJ_wIr, zJ_wRr, zR_wI, zR_wJ, zR_wIr, zR_wJr, zN_wI, zN_wJ, zN_wR, zN_wIr, zN_wJr, zN_wRr, zZ_wI, zZ_wJ, zZ_wR, zZ_wIr, zZ_wJr, zZ_wRr, zI_wI, zJ_wJ, zR_wR, zI_wIr, zJ_wJr, zR_wRr, k104, g104_0, g104_1, g104_3, g104_4, g104_7, g104_10, g104_13, g104_14, g104_17, g104_20, g104_21, g104_22, g104_23, g104_26, g104_27, g104_28, g104_31, g104_34, g104_35, g104_36, g104_37, g104_40, g104_43, g104_44, g104_45, g104_48, g104_51, g104_52, g104_53, g104_56, g104_59, g104_60]
  exact this
theorem c_last_lp (hN : NS h b) (hR : NR h b w0 c1 c2 c3) (hP : PN w0 n c1 c2 c3) : ∀ (m i L : Nat), i + m = c1 → L ≤ 13 → (∀ j, j < i → ∃ y, y < L ∧ w0 (66 + 3 * j) = nI y) → ∃ L2, L2 ≤ 13 ∧ (∀ j, j < c1 → ∃ y, y < L2 ∧ w0 (66 + 3 * j) = nI y) ∧ ∀ Q, zG d 103 4 [some (.ref b), some (.int (nI L - 1)), some (.int (nI i))] [] h Q = Q (some (.int (nI L2 - 1))) h
  | 0, i, L, e, hL, hi => by
    have e : c1 = i := by omega
    subst e
    refine ⟨L, hL, hi, fun Q => ?_⟩
    obtain ⟨s1, s2, s3, s4, ⟨x1, x2, x3, x4, x5, x6, x7⟩, -, -⟩ := hN
    have r1 := hR.1
    rw [g103_4]
    simp +decide only [Nat.reduceEqDiff, Nat.add_eq_left, Nat.left_eq_add, Nat.reduceAdd, Nat.reduceLeDiff, Nat.reduceMul, Nat.reduceSub, Nat.reduceLT, zlt8, zlt8_, zlt8n, zlt8n_, List.length_cons, List.length_nil, true_or, or_true, false_or, or_false, and_self, and_true, true_and, and_false, false_and, not_false_eq_true, not_true_eq_false, ite_true, ite_false, if_true, if_false, ite_not, zin, zpush_s, zpush_n, kl_int, kl_ref, kl_none, kl_kl, kl_long, kl_null, zT_wI, zT_wJ, zT_wR, zT_wIr, zT_wJr, zT_wRr, zI_wJ, zI_wR, zI_wJr, zI_wRr, zJ_wI, zJ_wR, zJ_wIr, zJ_wRr, zR_wI, zR_wJ, zR_wIr, zR_wJr, zN_wI, zN_wJ, zN_wR, zN_wIr, zN_wJr, zN_wRr, zZ_wI, zZ_wJ, zZ_wR, zZ_wIr, zZ_wJr, zZ_wRr, zI_wI, zJ_wJ, zR_wR, zI_wIr, zJ_wJr, zR_wRr, g103_0, g103_1, g103_2, g103_3, g103_5, g103_6, g103_9, g103_12, g103_15, g103_16, g103_17, g103_20, g103_23, g103_24, g103_25, g103_28, g103_29, g103_32, g103_35, g103_36, s1, s2, x1, r1, i_le, Int32.lt_irrefl]
  | m + 1, i, L, e, hL, hi => by
    obtain ⟨p1, p2, p3, p4, p5, p6, p7, -⟩ := id hP
    obtain ⟨⟨t, ht, et⟩, ⟨j, hj, ej⟩⟩ := p7 i (by omega)
    have em : zmax (nI L - 1) (nI j) = nI (max L (j + 1)) - 1 := by
      have hz : ∀ u v : Nat, u < 2 ^ 31 → v < 2 ^ 31 → zmax (nI u) (nI v) = nI (max u v) := fun u v hu hv => by
        unfold zmax
        by_cases q : u < v
        · rw [if_pos (nI_lt q hv), Nat.max_eq_right (by omega)]
        · rw [if_neg (nI_nlt (by omega) hu), Nat.max_eq_left (by omega)]
      cases L with
      | zero =>
        rw [Nat.zero_max, nI_pred]
        have : zmax (nI 0 - 1) (nI j) = nI j := by
          unfold zmax
          rw [if_pos (Int32.lt_of_lt_of_le (by decide : nI 0 - 1 < 0) (nI_pos' (by omega)))]
        exact this
      | succ L =>
        rw [nI_pred, hz L j (by omega) (by omega), show max (L + 1) (j + 1) = max L j + 1 by omega, nI_pred]
    obtain ⟨L2, g1, g2, g3⟩ := c_last_lp hN hR hP m (i + 1) (max L (j + 1)) (by omega) (by omega) (fun k hk => by
      by_cases e : k = i
      · subst e; exact ⟨j, by omega, ej⟩
      · obtain ⟨y, hy, ey⟩ := hi k (by omega)
        exact ⟨y, by omega, ey⟩)
    refine ⟨L2, g1, g2, fun Q => ?_⟩
    obtain ⟨s1, s2, s3, s4, ⟨x1, x2, x3, x4, x5, x6, x7⟩, -, -⟩ := hN
    have r1 := hR.1
    obtain ⟨y1, y2, y3⟩ := hR.2.1 i (by omega)
    rw [ej] at y2
    have z1 := nI_pos (n := i) (by omega)
    have z2 := nI_clamp (n := i) (by omega)
    have z3 := nI_lt (a := i) (b := c1) (by omega) (by omega)
    rw [g103_4, ← g3 Q]
    simp +decide only [Nat.reduceEqDiff, Nat.add_eq_left, Nat.left_eq_add, Nat.reduceAdd, Nat.reduceLeDiff, Nat.reduceMul, Nat.reduceSub, Nat.reduceLT, zlt8, zlt8_, zlt8n, zlt8n_, List.length_cons, List.length_nil, true_or, or_true, false_or, or_false, and_self, and_true, true_and, and_false, false_and, not_false_eq_true, not_true_eq_false, ite_true, ite_false, if_true, if_false, ite_not, zin, zpush_s, zpush_n, kl_int, kl_ref, kl_none, kl_kl, kl_long, kl_null, zT_wI, zT_wJ, zT_wR, zT_wIr, zT_wJr, zT_wRr, zI_wJ, zI_wR, zI_wJr, zI_wRr, zJ_wI, zJ_wR, zJ_wIr, zJ_wRr, zR_wI, zR_wJ, zR_wIr, zR_wJr, zN_wI, zN_wJ, zN_wR, zN_wIr, zN_wJr, zN_wRr, zZ_wI, zZ_wJ, zZ_wR, zZ_wIr, zZ_wJr, zZ_wRr, zI_wI, zJ_wJ, zR_wR, zI_wIr, zJ_wJr, zR_wRr, g103_0, g103_1, g103_2, g103_3, g103_5, g103_6, g103_9, g103_12, g103_15, g103_16, g103_17, g103_20, g103_23, g103_24, g103_25, g103_28, g103_29, g103_32, g103_35, g103_36, s1, s2, x1, x3, x6, r1, y2, z1, z2, z3, i_le, show i < 5 by omega, em, nI_1]
theorem c_last (hN : NS h b) (hR : NR h b w0 c1 c2 c3) (hP : PN w0 n c1 c2 c3) : ∃ L, L ≤ 13 ∧ (∀ j, j < c1 → ∃ y, y < L ∧ w0 (66 + 3 * j) = nI y) ∧ ∀ Q, zCall (d + 1) 103 [.ref b] h Q = Q (some (.int (nI L - 1))) h := by
  obtain ⟨L, g1, g2, g3⟩ := c_last_lp (d := d) hN hR hP c1 0 0 (by omega) (by omega) (fun j hj => by omega)
  refine ⟨L, g1, g2, fun Q => ?_⟩
  have e : zCall (d + 1) 103 [.ref b] h Q = zG d 103 4 [some (.ref b), some (.int (nI 0 - 1)), some (.int (nI 0))] [] h Q := by
    simp +decide only [Nat.reduceEqDiff, Nat.add_eq_left, Nat.left_eq_add, Nat.reduceAdd, Nat.reduceLeDiff, Nat.reduceMul, Nat.reduceSub, Nat.reduceLT, zlt8, zlt8_, zlt8n, zlt8n_, List.length_cons, List.length_nil, true_or, or_true, false_or, or_false, and_self, and_true, true_and, and_false, false_and, not_false_eq_true, not_true_eq_false, ite_true, ite_false, if_true, if_false, ite_not, zin, zpush_s, zpush_n, kl_int, kl_ref, kl_none, kl_kl, kl_long, kl_null, zT_wI, zT_wJ, zT_wR, zT_wIr, zT_wJr, zT_wRr, zI_wJ, zI_wR, zI_wJr, zI_wRr, zJ_wI, zJ_wR, zJ_wIr, zJ_wRr, zR_wI, zR_wJ, zR_wIr, zR_wJr, zN_wI, zN_wJ, zN_wR, zN_wIr, zN_wJr, zN_wRr, zZ_wI, zZ_wJ, zZ_wR, zZ_wIr, zZ_wJr, zZ_wRr, zI_wI, zJ_wJ, zR_wR, zI_wIr, zJ_wJr, zR_wRr, k103, g103_0, g103_1, g103_2, g103_3, g103_5, g103_6, g103_9, g103_12, g103_15, g103_16, g103_17, g103_20, g103_23, g103_24, g103_25, g103_28, g103_29, g103_32, g103_35, g103_36]
    rfl
  rw [e]
  exact g3 Q
/-- whether the trial, from how it stands, goes through all that is seen -/
def NQ (h : zH) (w0 : zW0) (n c1 c2 c3 : Nat) : Prop := NS h 43 ∧ NR h 43 w0 c1 c2 c3 ∧ PN w0 n c1 c2 c3
theorem NQ_f {h1 : zH} (f : FS (RA 15) h h1) (N : NQ h w0 n c1 c2 c3) : NQ h1 w0 n c1 c2 c3 := ⟨NS_f f (fun c k hc hk => by unfold RA; omega) N.1, NR_f f (fun c k h1 h2 => by unfold RA; omega) (fun k hk => rfl) N.2.1, N.2.2⟩
theorem c_true_lp {L : Nat} (hL : L ≤ 13) : ∀ (m k D2 : Nat) (h : zH) (v : zW0), k + m = L → D2 ≤ 10000 + k → CQ h n D w py ex sv → NQ h w0 n c1 c2 c3 → Rv h 15 n v (-1) sv → sOK v n D2 → ∃ h1, FS (RA 15) h h1 ∧ ∀ Q, zG (d + 5) 723 10 [some (.ref 0), some (.int (nI L - 1)), some (.int (nI k))] [] h Q = Q (some (.int (bB (sSee py ex n w0 c1 m k v)))) h1
  | 0, k, D2, h, v, e, e2, c, N, hv, hw => by
    have e : k = L := by omega
    subst e
    refine ⟨h, FS_r _ _, fun Q => ?_⟩
    have z : nI k - 1 < nI k := by
      cases k with
      | zero => decide
      | succ k => rw [nI_pred]; exact nI_lt (by omega) (by omega)
    rw [g723_10]
    simp +decide only [Nat.reduceEqDiff, Nat.add_eq_left, Nat.left_eq_add, Nat.reduceAdd, Nat.reduceLeDiff, Nat.reduceMul, Nat.reduceSub, Nat.reduceLT, zlt8, zlt8_, zlt8n, zlt8n_, List.length_cons, List.length_nil, true_or, or_true, false_or, or_false, and_self, and_true, true_and, and_false, false_and, not_false_eq_true, not_true_eq_false, ite_true, ite_false, if_true, if_false, ite_not, zin, zpush_s, zpush_n, kl_int, kl_ref, kl_none, kl_kl, kl_long, kl_null, zT_wI, zT_wJ, zT_wR, zT_wIr, zT_wJr, zT_wRr, zI_wJ, zI_wR, zI_wJr, zI_wRr, zJ_wI, zJ_wR, zJ_wIr, zJ_wRr, zR_wI, zR_wJ, zR_wIr, zR_wJr, zN_wI, zN_wJ, zN_wR, zN_wIr, zN_wJr, zN_wRr, zZ_wI, zZ_wJ, zZ_wR, zZ_wIr, zZ_wJr, zZ_wRr, zI_wI, zJ_wJ, zR_wR, zI_wIr, zJ_wJr, zR_wRr, g723_0, g723_1, g723_4, g723_7, g723_8, g723_9, g723_11, g723_12, g723_15, g723_16, g723_19, g723_20, g723_23, g723_24, g723_27, g723_30, g723_31, g723_32, g723_33, g723_36, g723_37, g723_40, g723_43, g723_46, g723_47, z]
    rfl
  | m + 1, k, D2, h, v, e, e2, c, N, hv, hw => by
    obtain ⟨k0, j0, j1, j2, j3, j4, j6, j8, j9⟩ := id c.1
    have p1 := c.2.2.1.1
    obtain ⟨N1, N2, N3⟩ := id N
    have s1 := N1.1
    have cs : ∀ Q, zCall (d + 5) 104 [.ref 43, .ref 15, .int (nI k)] h Q = Q (some (.int (bB (!sSk w0 c1 k v)))) h := fun Q => c_seen N1 N2 c.2.2.1 hv hw N3 (by omega) Q
    have z : ¬ nI L - 1 < nI k := by
      obtain ⟨L', rfl⟩ : ∃ L', L = L' + 1 := ⟨L - 1, by omega⟩
      rw [nI_pred]; exact nI_nlt (by omega) (by omega)
    cases q : sSk w0 c1 k v with
    | false =>
      refine ⟨h, FS_r _ _, fun Q => ?_⟩
      unfold sSee
      rw [g723_10, q, Bool.false_and]
      simp +decide only [Nat.reduceEqDiff, Nat.add_eq_left, Nat.left_eq_add, Nat.reduceAdd, Nat.reduceLeDiff, Nat.reduceMul, Nat.reduceSub, Nat.reduceLT, zlt8, zlt8_, zlt8n, zlt8n_, List.length_cons, List.length_nil, true_or, or_true, false_or, or_false, and_self, and_true, true_and, and_false, false_and, not_false_eq_true, not_true_eq_false, ite_true, ite_false, if_true, if_false, ite_not, zin, zpush_s, zpush_n, kl_int, kl_ref, kl_none, kl_kl, kl_long, kl_null, zT_wI, zT_wJ, zT_wR, zT_wIr, zT_wJr, zT_wRr, zI_wJ, zI_wR, zI_wJr, zI_wRr, zJ_wI, zJ_wR, zJ_wIr, zJ_wRr, zR_wI, zR_wJ, zR_wIr, zR_wJr, zN_wI, zN_wJ, zN_wR, zN_wIr, zN_wJr, zN_wRr, zZ_wI, zZ_wJ, zZ_wR, zZ_wIr, zZ_wJr, zZ_wRr, zI_wI, zJ_wJ, zR_wR, zI_wIr, zJ_wJr, zR_wRr, g723_0, g723_1, g723_4, g723_7, g723_8, g723_9, g723_11, g723_12, g723_15, g723_16, g723_19, g723_20, g723_23, g723_24, g723_27, g723_30, g723_31, g723_32, g723_33, g723_36, g723_37, g723_40, g723_43, g723_46, g723_47, k0, j0, j1, j2, j3, j4, j6, j8, j9, p1, s1, cs, z, q, Bool.not_false, bB_t, bB_f]
    | true =>
      obtain ⟨h1, f1, v1, g1⟩ := c_goT (d := d) (K := 1) (p := py) (D2 := D2) c hv hw (by omega) (by omega) rfl
      have g1' : ∀ Q, zCall (d + 5) 210 [.ref 15, .int 1] h Q = Q none h1 := g1
      have v1' : Rv h1 15 n (sDay py ex n v) (-1) sv := v1
      obtain ⟨h2, f2, g2⟩ := c_true_lp hL m (k + 1) (D2 + 1) h1 (sDay py ex n v) (by omega) (by omega) (CQ_f f1 c) (NQ_f f1 N) v1' (sDay_ok hw)
      refine ⟨h2, FS_t f1 f2, fun Q => ?_⟩
      unfold sSee
      rw [g723_10, q, Bool.true_and, ← g2 Q]
      simp +decide only [Nat.reduceEqDiff, Nat.add_eq_left, Nat.left_eq_add, Nat.reduceAdd, Nat.reduceLeDiff, Nat.reduceMul, Nat.reduceSub, Nat.reduceLT, zlt8, zlt8_, zlt8n, zlt8n_, List.length_cons, List.length_nil, true_or, or_true, false_or, or_false, and_self, and_true, true_and, and_false, false_and, not_false_eq_true, not_true_eq_false, ite_true, ite_false, if_true, if_false, ite_not, zin, zpush_s, zpush_n, kl_int, kl_ref, kl_none, kl_kl, kl_long, kl_null, zT_wI, zT_wJ, zT_wR, zT_wIr, zT_wJr, zT_wRr, zI_wJ, zI_wR, zI_wJr, zI_wRr, zJ_wI, zJ_wR, zJ_wIr, zJ_wRr, zR_wI, zR_wJ, zR_wIr, zR_wJr, zN_wI, zN_wJ, zN_wR, zN_wIr, zN_wJr, zN_wRr, zZ_wI, zZ_wJ, zZ_wR, zZ_wIr, zZ_wJr, zZ_wRr, zI_wI, zJ_wJ, zR_wR, zI_wIr, zJ_wJr, zR_wRr, g723_0, g723_1, g723_4, g723_7, g723_8, g723_9, g723_11, g723_12, g723_15, g723_16, g723_19, g723_20, g723_23, g723_24, g723_27, g723_30, g723_31, g723_32, g723_33, g723_36, g723_37, g723_40, g723_43, g723_46, g723_47, k0, j0, j1, j2, j3, j4, j6, j8, j9, p1, s1, cs, z, q, Bool.not_true, bB_t, bB_f, g1', nI_1]
theorem c_true (c : CQ h n D w py ex sv) (N : NQ h w0 n c1 c2 c3) (hv : Rv h 15 n v (-1) sv) (hw : sOK v n D2) (hD : D2 ≤ 10000) : ∃ h1, FS (RA 15) h h1 ∧ ∀ Q, zCall (d + 6) 723 [.ref 0] h Q = Q (some (.int (bB (sSee py ex n w0 c1 13 0 v)))) h1 := by
  obtain ⟨L, l1, l2, l3⟩ := c_last (d := d + 4) N.1 N.2.1 N.2.2
  obtain ⟨h1, f1, g1⟩ := c_true_lp (d := d) l1 L 0 D2 h v (by omega) (by omega) c N hv hw
  refine ⟨h1, f1, fun Q => ?_⟩
  obtain ⟨k0, j0, j1, j2, j3, j4, j6, j8, j9⟩ := id c.1
  have s1 := N.1.1
  have e := sSee_cut (p := py) (ex := ex) (n := n) (w0 := w0) (c := c1) (m := L) (k := 0) (fun i hi j hj hj2 e => by
    obtain ⟨y, hy, ey⟩ := l2 i hi
    rw [ey, nI_eq (by omega) (by omega)] at e
    omega) (13 - L) v (by omega)
  rw [show L + (13 - L) = 13 by omega] at e
  rw [e]
  simp +decide only [Nat.reduceEqDiff, Nat.add_eq_left, Nat.left_eq_add, Nat.reduceAdd, Nat.reduceLeDiff, Nat.reduceMul, Nat.reduceSub, Nat.reduceLT, zlt8, zlt8_, zlt8n, zlt8n_, List.length_cons, List.length_nil, true_or, or_true, false_or, or_false, and_self, and_true, true_and, and_false, false_and, not_false_eq_true, not_true_eq_false, ite_true, ite_false, if_true, if_false, ite_not, zin, zpush_s, zpush_n, kl_int, kl_ref, kl_none, kl_kl, kl_long, kl_null, zT_wI, zT_wJ, zT_wR, zT_wIr, zT_wJr, zT_wRr, zI_wJ, zI_wR, zI_wJr, zI_wRr, zJ_wI, zJ_wR, zJ_wIr, zJ_wRr, zR_wI, zR_wJ, zR_wIr, zR_wJr, zN_wI, zN_wJ, zN_wR, zN_wIr, zN_wJr, zN_wRr, zZ_wI, zZ_wJ, zZ_wR, zZ_wIr, zZ_wJr, zZ_wRr, zI_wI, zJ_wJ, zR_wR, zI_wIr, zJ_wJr, zR_wRr, k723, g723_0, g723_1, g723_4, g723_7, g723_8, g723_9, g723_11, g723_12, g723_15, g723_16, g723_19, g723_20, g723_23, g723_24, g723_27, g723_30, g723_31, g723_32, g723_33, g723_36, g723_37, g723_40, g723_43, g723_46, g723_47, k0, j0, j1, j2, j3, j4, j6, j8, j9, s1, l3]
  exact g1 Q
