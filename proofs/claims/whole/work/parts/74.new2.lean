-- needs 73.new
variable {n D D2 q L c1 c2 c3 a b t s r d K k kd i j ln c m M N p p2 z : Nat} {h h1 h2 h3 h4 g0 : zH} {w w1 x nm : zW0} {sv : Value} {xs : zW0} {ex : zW0 → Int32}
def SA (h h1 : zH) (b : Nat) : Prop := zT h1 b = zT h b ∧ zI h1 b = zI h b ∧ zJ h1 b = zJ h b ∧ zR h1 b = zR h b
theorem SA_t (f : SA h h1 b) (g : SA h1 h2 b) : SA h h2 b := ⟨g.1.trans f.1, g.2.1.trans f.2.1, g.2.2.1.trans f.2.2.1, g.2.2.2.trans f.2.2.2⟩
theorem SA_N (t : Nat × Nat) (hb : ¬ b = zN h) : SA h (wN h t) b := ⟨by rw [tN, if_neg hb], by rw [iN, if_neg hb], by rw [jN, if_neg hb], by rw [rN', if_neg hb]⟩
theorem SA_R (k : Nat) (x : Value) (hb : ¬ b = a) : SA h (wR h a k x) b := ⟨rfl, rfl, rfl, by rw [zR_wR, if_neg hb]⟩
theorem SA_I (k : Nat) (x : Int32) (hb : ¬ b = a) : SA h (wI h a k x) b := ⟨rfl, by rw [zI_wI, if_neg hb], rfl, rfl⟩
theorem SA_E (e : EX h h1 a M z) (hb : ¬ b = a) (h2 : b < zN h ∨ zN h + M ≤ b) : SA h h1 b := e.2.2 b hb h2
theorem WS_s (s : ∀ b, c ≤ b → b ≤ c + 3 → SA h h1 b) (r : WS h c m) : WS h1 c m := by
  obtain ⟨a1, a2, a3, a4, a5, a6, a7⟩ := r
  have s0 := s c (by omega) (by omega)
  exact ⟨by rw [s0.1]; exact a1, by rw [s0.2.2.2]; exact a2, by rw [s0.2.2.2]; exact a3, by rw [s0.2.2.2]; exact a4, by rw [(s _ (by omega) (by omega)).1]; exact a5, by rw [(s _ (by omega) (by omega)).1]; exact a6, by rw [(s _ (by omega) (by omega)).1]; exact a7⟩
theorem NS_s (s : ∀ b, a ≤ b → b ≤ a + 12 → SA h h1 b) (r : NS h a) : NS h1 a := by
  obtain ⟨a1, a2, a3, a4, a5, a6, a7⟩ := r
  have s0 := s a (by omega) (by omega)
  exact ⟨by rw [s0.1]; exact a1, by rw [s0.2.2.2]; exact a2, by rw [s0.2.2.2]; exact a3, by rw [s0.2.2.2]; exact a4, WS_s (fun b h1 h2 => s b (by omega) (by omega)) a5, WS_s (fun b h1 h2 => s b (by omega) (by omega)) a6, WS_s (fun b h1 h2 => s b (by omega) (by omega)) a7⟩
theorem RS_s (s : ∀ b, a ≤ b → b ≤ a + 13 → SA h h1 b) (r : RS h a) : RS h1 a := by
  obtain ⟨q0, q1, q2, q3, q4, q5, q6, q7, r0, r1, r2, r3, r4, r5, r6, r7⟩ := r
  have e : ∀ k, k ≤ 13 → zT h1 (a + k) = zT h (a + k) := fun k hk => (s _ (by omega) (by omega)).1
  have e0 := (s a (by omega) (by omega)).1
  have f := (s a (by omega) (by omega)).2.2.2
  exact ⟨by rw [e0]; exact q0, by rw [e _ (by omega)]; exact q1, by rw [e _ (by omega)]; exact q2, by rw [e _ (by omega)]; exact q3, by rw [e _ (by omega)]; exact q4, by rw [e _ (by omega)]; exact q5, by rw [e _ (by omega)]; exact q6, by rw [e _ (by omega)]; exact q7, by rw [f]; exact r0, by rw [f]; exact r1, by rw [f]; exact r2, by rw [f]; exact r3, by rw [f]; exact r4, by rw [f]; exact r5, by rw [f]; exact r6, fun t ht => ⟨by rw [(s (a + 7) (by omega) (by omega)).2.2.2]; exact (r7 t ht).1, by rw [(s (a + 8 + t) (by omega) (by omega)).1]; exact (r7 t ht).2⟩⟩
/-- one of the notes' rows: made, and set -/
def nOne (h : zH) (a k m : Nat) : zH := wR (nRows (wN h (3, 4)) (zN h) m) a k (.ref (zN h))
theorem nOne_f (ha : a < zN h) (hm : m ≤ 10) : zN (nOne h a k m) = zN h + 4 ∧ zZ (nOne h a k m) = zZ h + 4 + 3 * m ∧ (∀ b, ¬ b = a → b < zN h ∨ zN h + 4 ≤ b → SA h (nOne h a k m) b) ∧ zT (nOne h a k m) a = zT h a ∧ zI (nOne h a k m) a = zI h a ∧ zJ (nOne h a k m) a = zJ h a ∧ zR (nOne h a k m) a = va_up (zR h a) k (.ref (zN h)) ∧ WS (nOne h a k m) (zN h) m ∧ zI (nOne h a k m) (zN h) 3 = 0 ∧ ∀ Q, zCall (d + 1) 301 [.ref (zN h), .int (nI m)] (wN h (3, 4)) Q = Q none (nRows (wN h (3, 4)) (zN h) m) := by
  obtain ⟨e, w1, i1, c1⟩ := c_rows (d := d) (h := wN h (3, 4)) (c := zN h) (m := m) (by rw [tN, if_pos rfl]) rfl (by rw [iN, if_pos rfl]) hm
  have n1 : zN (wN h (3, 4)) = zN h + 1 := rfl
  have sa : ∀ b, ¬ b = zN h → (b < zN h ∨ zN h + 4 ≤ b) → SA h (nRows (wN h (3, 4)) (zN h) m) b := fun b x1 x2 => SA_t (SA_N _ x1) (SA_E e x1 (by rw [n1]; omega))
  have s0 := sa a (by omega) (by omega)
  refine ⟨?_, ?_, fun b x1 x2 => SA_t (sa b (by omega) x2) (SA_R _ _ x1), s0.1, s0.2.1, s0.2.2.1, ?_, WS_s (fun b x1 x2 => SA_R _ _ (by omega)) w1, i1, c1⟩
  · show zN (nRows (wN h (3, 4)) (zN h) m) = _
    rw [e.1, n1]
  · show zZ (nRows (wN h (3, 4)) (zN h) m) = _
    rw [e.2.1, zN']
  · show zR (wR _ a k _) a = _
    rw [zR_wR, if_pos rfl, s0.2.2.2]
def nNotes (h : zH) (a : Nat) : zH := nOne (nOne (nOne h a 0 5) a 1 10) a 2 8
theorem c_notes (hT : zT h a = (1, 3)) (hN : zN h = a + 1) : EX h (nNotes h a) a 12 81 ∧ NS (nNotes h a) a ∧ (zI (nNotes h a) (a + 1) 3 = 0 ∧ zI (nNotes h a) (a + 5) 3 = 0 ∧ zI (nNotes h a) (a + 9) 3 = 0) ∧ ∀ Q, zCall (d + 2) 101 [.ref a] h Q = Q none (nNotes h a) := by
  obtain ⟨x1, x2, x3, x4, x5, x6, x7, x8, x9, x0⟩ := nOne_f (d := d) (h := h) (a := a) (k := 0) (m := 5) (by omega) (by omega)
  obtain ⟨y1, y2, y3, y4, y5, y6, y7, y8, y9, y0⟩ := nOne_f (d := d) (h := nOne h a 0 5) (a := a) (k := 1) (m := 10) (by omega) (by omega)
  obtain ⟨z1, z2, z3, z4, z5, z6, z7, z8, z9, z0⟩ := nOne_f (d := d) (h := nOne (nOne h a 0 5) a 1 10) (a := a) (k := 2) (m := 8) (by omega) (by omega)
  have e1 : zN (nOne h a 0 5) = a + 5 := by omega
  have e2 : zN (nOne (nOne h a 0 5) a 1 10) = a + 9 := by omega
  rw [hN] at x8 x9 x0 x3 x7
  rw [e1] at y8 y9 y0 y3 y7
  rw [e2] at z8 z9 z0 z3 z7
  have hR : zR (nNotes h a) a = va_up (va_up (va_up (zR h a) 0 (.ref (a + 1))) 1 (.ref (a + 5))) 2 (.ref (a + 9)) := by
    unfold nNotes; rw [z7, y7, x7]
  refine ⟨⟨?_, ?_, fun b u1 u2 => ?_⟩, ⟨?_, ?_, ?_, ?_, ?_, ?_, z8⟩, ⟨?_, ?_, z9⟩, fun Q => ?_⟩
  · unfold nNotes; omega
  · unfold nNotes; omega
  · exact SA_t (x3 b u1 (by omega)) (SA_t (y3 b u1 (by omega)) (z3 b u1 (by omega)))
  · unfold nNotes; rw [z4, y4, x4]; exact hT
  · rw [hR]; rfl
  · rw [hR]; rfl
  · rw [hR]; rfl
  · exact WS_s (fun b u1 u2 => SA_t (y3 b (by omega) (by omega)) (z3 b (by omega) (by omega))) x8
  · exact WS_s (fun b u1 u2 => z3 b (by omega) (by omega)) y8
  · unfold nNotes
    rw [(z3 (a + 1) (by omega) (by omega)).2.1, (y3 (a + 1) (by omega) (by omega)).2.1]; exact x9
  · unfold nNotes
    rw [(z3 (a + 5) (by omega) (by omega)).2.1]; exact y9
  · have g := fun (h : zH) (k m N : Nat) (hN : zN h = N) => (show wR (nRows (wN h (3, 4)) N m) a k (.ref N) = nOne h a k m by subst hN; rfl)
    have t1 : zT (wN h (3, 4)) a = (1, 3) := by rw [tN, if_neg (by omega)]; exact hT
    have t2 : zT (wN h (3, 4)) (a + 1) = (3, 4) := by rw [tN, if_pos hN.symm]
    have t3 : zT (nRows (wN h (3, 4)) (a + 1) 5) a = (1, 3) := by
      rw [← x4, ← g h 0 5 (a + 1) hN] at hT; exact hT
    have t5 : zT (nOne h a 0 5) a = (1, 3) := x4.trans hT
    have t6 : zT (wN (nOne h a 0 5) (3, 4)) (a + 5) = (3, 4) := by rw [tN, if_pos e1.symm]
    have t7 : zT (nRows (wN (nOne h a 0 5) (3, 4)) (a + 5) 10) a = (1, 3) := by
      have := y4.trans t5; rw [← g (nOne h a 0 5) 1 10 (a + 5) e1] at this; exact this
    have t9 : zT (nOne (nOne h a 0 5) a 1 10) a = (1, 3) := y4.trans t5
    have u6 : zT (wN (nOne (nOne h a 0 5) a 1 10) (3, 4)) (a + 9) = (3, 4) := by rw [tN, if_pos e2.symm]
    have u7 : zT (nRows (wN (nOne (nOne h a 0 5) a 1 10) (3, 4)) (a + 9) 8) a = (1, 3) := by
      have := z4.trans t9; rw [← g (nOne (nOne h a 0 5) a 1 10) 2 8 (a + 9) e2] at this; exact this
    have x0' : ∀ Q, zCall (d + 1) 301 [.ref (a + 1), .int 5] (wN h (3, 4)) Q = Q none (nRows (wN h (3, 4)) (a + 1) 5) := x0
    have y0' : ∀ Q, zCall (d + 1) 301 [.ref (a + 5), .int 10] (wN (nOne h a 0 5) (3, 4)) Q = Q none (nRows (wN (nOne h a 0 5) (3, 4)) (a + 5) 10) := y0
    have z0' : ∀ Q, zCall (d + 1) 301 [.ref (a + 9), .int 8] (wN (nOne (nOne h a 0 5) a 1 10) (3, 4)) Q = Q none (nRows (wN (nOne (nOne h a 0 5) a 1 10) (3, 4)) (a + 9) 8) := z0
    have g1 := g h 0 5 (a + 1) hN
    have g2 := g (nOne h a 0 5) 1 10 (a + 5) e1
    have g3 := g (nOne (nOne h a 0 5) a 1 10) 2 8 (a + 9) e2
    have en : nNotes h a = nOne (nOne (nOne h a 0 5) a 1 10) a 2 8 := rfl
    rw [en]
    simp +decide only [Nat.reduceEqDiff, Nat.add_eq_left, Nat.left_eq_add, Nat.reduceAdd, Nat.reduceLeDiff, Nat.reduceMul, Nat.reduceSub, Nat.reduceLT, zlt8, zlt8_, zlt8n, zlt8n_, List.length_cons, List.length_nil, true_or, or_true, false_or, or_false, and_self, and_true, true_and, and_false, false_and, not_false_eq_true, not_true_eq_false, ite_true, ite_false, if_true, if_false, ite_not, zin, zpush_s, zpush_n, kl_int, kl_ref, kl_none, kl_kl, kl_long, kl_null, VR_i, VR_l, zT_wI, zT_wJ, zT_wR, zT_wIr, zT_wJr, zT_wRr, zI_wJ, zI_wR, zI_wJr, zI_wRr, zJ_wI, zJ_wR, zJ_wIr, zJ_wRr, zR_wI, zR_wJ, zR_wIr, zR_wJr, zN_wI, zN_wJ, zN_wR, zN_wIr, zN_wJr, zN_wRr, zZ_wI, zZ_wJ, zZ_wR, zZ_wIr, zZ_wJr, zZ_wRr, zI_wI, zJ_wJ, zR_wR, zI_wIr, zJ_wJr, zR_wRr, k101, g101_0, g101_1, g101_4, g101_5, g101_8, g101_9, g101_10, g101_13, g101_13_n, g101_16, g101_17, g101_20, g101_21, g101_23, g101_26, g101_26_n, g101_29, g101_30, g101_33, g101_34, g101_36, g101_39, g101_39_n, g101_42, hT, hN, t1, t2, t3, g1, t5, e1, t6, t7, g2, t9, e2, u6, u7, g3, x0', y0', z0']
