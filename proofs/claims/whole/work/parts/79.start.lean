-- needs 78.new6
variable {n D D2 q L c1 c2 c3 a b t s r d K k kd i j ln c m M N p p2 z : Nat} {h h0 h1 h2 h3 h4 g0 : zH} {w w1 x nm : zW0} {sv : Value} {xs : zW0} {ex : zW0 → Int32} {ty : Nat × Nat}
def HK (h : zH) (xs : zW0) (L : Nat) : Prop := KS h ∧ zT h 1000000 = (30, L) ∧ ∀ j, j < L → zI h 1000000 j = xs j
theorem HK_s (s : ∀ b, 1000000 ≤ b → SA h h1 b) (g : HK h xs L) : HK h1 xs L := by
  obtain ⟨⟨m1, m2, m3, m4, m5, m6⟩, g2, g3⟩ := g
  refine ⟨⟨by rw [(s _ (by omega)).1]; exact m1, fun j hj => by rw [(s _ (by omega)).2.1]; exact m2 j hj, by rw [(s _ (by omega)).1]; exact m3, fun j hj => by rw [(s _ (by omega)).2.1]; exact m4 j hj, fun k hk => by rw [(s _ (by omega)).1, (s _ (by omega)).2.2.2]; exact m5 k hk, fun k hk => ⟨by rw [(s _ (by omega)).1]; exact (m6 k hk).1, fun j hj => by rw [(s _ (by omega)).2.1]; exact (m6 k hk).2 j hj⟩⟩, by rw [(s _ (by omega)).1]; exact g2, fun j hj => by rw [(s _ (by omega)).2.1]; exact g3 j hj⟩
theorem law_start (hk : HK h xs L) (hN : zN h = 0) (hZ : zZ h = 0) : ∃ h2, GI h2 xs L ∧ ∀ Q, zG 60 1301 0 [some (.ref 1000000), none, none, none] [] h Q = zG 60 1301 18 [some (.ref 1000000), some (.ref 0), some (.ref 88), some (.int (nI 0))] [] h2 Q := by
  have nA : zN (wN h (7, 10)) = 1 := by rw [nN, hN]
  have tA : zT (wN h (7, 10)) 0 = (7, 10) := by rw [tN, if_pos hN.symm]
  obtain ⟨h1, a1, a2, a3, a4, a5⟩ := c_new (d := 57) tA nA (by rw [iN, if_pos hN.symm])
  have nB : zN (wN h1 (8, 29)) = 89 := by rw [nN, a1]
  have tB : zT (wN h1 (8, 29)) 88 = (8, 29) := by rw [tN, if_pos a1.symm]
  obtain ⟨h2, b1, b2, b3, b4, b5, b6, b7, b8, b9⟩ := m_new (d := 58) tB nB (by rw [iN, if_pos a1.symm])
  have lo : ∀ b, b < 88 → SA h1 h2 b := fun b hb => SA_t (SA_N _ (by omega)) (b3 b (by omega))
  have hi : ∀ b, 1000000 ≤ b → SA h h2 b := fun b hb => SA_t (SA_N _ (by omega)) (SA_t (a3 b (by omega)) (SA_t (SA_N _ (by omega)) (b3 b (by omega))))
  have K := HK_s hi hk
  obtain ⟨c1, c2, c3, c4, c5, c6, c7, c8, c9, c10, c11, c12, c13⟩ := a4
  have TS2 : TS h2 := by
    unfold TS at c1 ⊢
    rw [(lo 0 (by omega)).1, (lo 0 (by omega)).2.2.2]; exact c1
  obtain ⟨d1, d2, d3, d4, d5, d6, d7, d8⟩ := Rd0_s (fun b x1 x2 => lo b (by omega)) c10
  obtain ⟨e1, e2, e3, e4⟩ := Ac0_s (fun b x1 x2 => lo b (by omega)) c11
  obtain ⟨f1, f2, f3, f4, f5⟩ := R0_s (lo 1 (by omega)) c6
  obtain ⟨n1, n2, n3⟩ := N0_s (fun b x1 x2 => lo b (by omega)) c9
  have i0 : zI h2 0 = fun _ => 0 := by rw [(lo 0 (by omega)).2.1]; exact c2
  have tf : ∀ j, j < 6 → Tf h2 j := fun j hj => by
    have u := c13 j hj
    unfold Tf at u ⊢
    rw [(lo 75 (by omega)).2.2.2, (lo (76 + 2 * j) (by omega)).1, (lo (76 + 2 * j) (by omega)).2.2.2, (lo (76 + 2 * j) (by omega)).2.1, (lo (77 + 2 * j) (by omega)).1]; exact u
  refine ⟨h2, ⟨0, 0, 0, zI h2 89, 0, 0, 0, .null, ⟨⟨TS2, RS_s (fun b x1 x2 => lo b (by omega)) c3, RS_s (fun b x1 x2 => lo b (by omega)) c4, RS_s (fun b x1 x2 => lo b (by omega)) c5, NS_s (fun b x1 x2 => lo b (by omega)) c7, NS_s (fun b x1 x2 => lo b (by omega)) c8, b4, K.1, ⟨by rw [(lo 75 (by omega)).1]; exact c12, fun i hi => ?_⟩, ⟨d1, d2, d4, e1, e3, e2, K.2.1, K.2.2⟩⟩, ⟨by omega, b1, ?_, by rw [i0]; rfl, by rw [b6]; rfl⟩, ⟨d3, d5, d6, d7⟩, fun r hr => by omega, Or.inl ⟨by rw [i0], by rw [b6]; rfl⟩, ⟨0, by omega, by rw [d8]; rfl, by rw [b6]; rfl, fun k hk => by omega⟩, ⟨0, by omega, by rw [e4]; rfl, by rw [b6]; rfl, fun k hk => by omega⟩, fun i hi => ?_⟩, rfl, ⟨f1, by rw [b5]; exact f2, by rw [b5]; exact f3, f4, f5, fun t ht => by omega⟩, ⟨n1, fun i hi => by omega, n2, fun i hi => by omega, n3, fun i hi => by omega⟩, ⟨⟨by rw [b5]; rfl, by omega, by rw [b5]; rfl, fun t ht => by omega⟩, by omega, fun t ht => by omega, fun t ht => by omega, by omega, by omega, by omega, by rw [b5]; rfl, by rw [b5]; rfl, by rw [b5]; rfl, fun i hi => by omega, fun i hi => by omega, fun i hi => by omega⟩, Or.inl ⟨by rw [b5]; rfl, rfl⟩, by rw [b6]; rfl⟩, fun Q => ?_⟩
  · obtain ⟨u1, u2, u3, u4, -, -⟩ := tf i hi
    exact ⟨u1, u2, u3, u4⟩
  · rw [b2, zN', a2, zN', hZ]; decide
  · obtain ⟨-, -, -, -, u5, u6⟩ := tf i hi
    have m1 := b7 i hi
    exact ⟨0, by omega, u5.trans m1.symm, Or.inl m1, fun _ => rfl, u6, by rw [b8]; rfl, fun k hk => by omega⟩
  · have a5' : ∀ Q, zCall 60 701 [.ref 0] (wN h (7, 10)) Q = Q none h1 := a5
    have b9' : ∀ Q, zCall 60 801 [.ref 88] (wN h1 (8, 29)) Q = Q none h2 := b9
    simp +decide only [Nat.reduceEqDiff, Nat.add_eq_left, Nat.left_eq_add, Nat.reduceAdd, Nat.reduceLeDiff, Nat.reduceMul, Nat.reduceSub, Nat.reduceLT, zlt8, zlt8_, zlt8n, zlt8n_, List.length_cons, List.length_nil, true_or, or_true, false_or, or_false, and_self, and_true, true_and, and_false, false_and, not_false_eq_true, not_true_eq_false, ite_true, ite_false, if_true, if_false, ite_not, zin, zpush_s, zpush_n, kl_int, kl_ref, kl_none, kl_kl, kl_long, kl_null, VR_i, VR_l, zT_wI, zT_wJ, zT_wR, zT_wIr, zT_wJr, zT_wRr, zI_wJ, zI_wR, zI_wJr, zI_wRr, zJ_wI, zJ_wR, zJ_wIr, zJ_wRr, zR_wI, zR_wJ, zR_wIr, zR_wJr, zN_wI, zN_wJ, zN_wR, zN_wIr, zN_wJr, zN_wRr, zZ_wI, zZ_wJ, zZ_wR, zZ_wIr, zZ_wJr, zZ_wRr, zI_wI, zJ_wJ, zR_wR, zI_wIr, zJ_wJr, zR_wRr, g1301_0, g1301_3, g1301_4, g1301_7, g1301_8, g1301_11, g1301_12, g1301_15, g1301_16, g1301_17, hN, tA, a5', a1, tB, b9']
    rfl
