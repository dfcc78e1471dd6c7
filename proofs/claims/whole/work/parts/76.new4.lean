-- needs 75.new3
variable {n D D2 q L c1 c2 c3 a b t s r d K k kd i j ln c m M N p p2 z : Nat} {h h1 h2 h3 h4 g0 : zH} {w w1 x nm : zW0} {sv : Value} {xs : zW0} {ex : zW0 → Int32} {ty : Nat × Nat}
def R0 (h : zH) (a : Nat) : Prop := zI h a 7 = 0 ∧ zI h a 8 = 500 ∧ zI h a 9 = 0 ∧ zI h a 11 = -1 ∧ zR h a 10 = .null
theorem R0_s (s : SA h h1 a) (r : R0 h a) : R0 h1 a := by
  unfold R0 at r ⊢
  rw [s.2.1, s.2.2.2]; exact r
def N0 (h : zH) (a : Nat) : Prop := zI h (a + 1) 3 = 0 ∧ zI h (a + 5) 3 = 0 ∧ zI h (a + 9) 3 = 0
theorem N0_s (s : ∀ b, a ≤ b → b ≤ a + 12 → SA h h1 b) (r : N0 h a) : N0 h1 a := by
  unfold N0 at r ⊢
  rw [(s (a + 1) (by omega) (by omega)).2.1, (s (a + 5) (by omega) (by omega)).2.1, (s (a + 9) (by omega) (by omega)).2.1]; exact r
def Rd0 (h : zH) : Prop := zT h 69 = (5, 4) ∧ zR h 69 0 = .ref 70 ∧ zR h 69 1 = .ref 71 ∧ zT h 70 = (21, 100) ∧ zT h 71 = (4, 3) ∧ zR h 71 0 = .ref 72 ∧ zT h 72 = (20, 100) ∧ zI h 69 = fun _ => 0
theorem Rd0_s (s : ∀ b, 69 ≤ b → b ≤ 72 → SA h h1 b) (r : Rd0 h) : Rd0 h1 := by
  unfold Rd0 at r ⊢
  rw [(s 69 (by omega) (by omega)).1, (s 69 (by omega) (by omega)).2.2.2, (s 69 (by omega) (by omega)).2.1, (s 70 (by omega) (by omega)).1, (s 71 (by omega) (by omega)).1, (s 71 (by omega) (by omega)).2.2.2, (s 72 (by omega) (by omega)).1]; exact r
def Ac0 (h : zH) : Prop := zT h 73 = (0, 5) ∧ zR h 73 0 = .ref 74 ∧ zT h 74 = (20, 20) ∧ zI h 73 = fun _ => 0
theorem Ac0_s (s : ∀ b, 73 ≤ b → b ≤ 74 → SA h h1 b) (r : Ac0 h) : Ac0 h1 := by
  unfold Ac0 at r ⊢
  rw [(s 73 (by omega) (by omega)).1, (s 73 (by omega) (by omega)).2.2.2, (s 73 (by omega) (by omega)).2.1, (s 74 (by omega) (by omega)).1]; exact r
/-- the class, made -/
def Cl0 (h : zH) : Prop := TS h ∧ zI h 0 = (fun _ => 0) ∧ RS h 1 ∧ RS h 15 ∧ RS h 29 ∧ R0 h 1 ∧ NS h 43 ∧ NS h 56 ∧ N0 h 43 ∧ Rd0 h ∧ Ac0 h ∧ zT h 75 = (25, 6) ∧ ∀ j, j < 6 → Tf h j
theorem c_new (t0 : zT h 0 = (7, 10)) (hN : zN h = 1) (i0 : zI h 0 = fun _ => 0) : ∃ h', zN h' = 88 ∧ zZ h' = zZ h + 1018 ∧ (∀ b, 88 ≤ b → SA h h' b) ∧ Cl0 h' ∧ ∀ Q, zCall (d + 3) 701 [.ref 0] h Q = Q none h' := by
  -- the roads
  obtain ⟨e1, r1, x1, q1⟩ := c_road (d := d) (h := wN h (2, 12)) (a := 1) (by rw [tN, if_pos hN.symm]) (by rw [nN, hN]) (by rw [iN, if_pos hN.symm]) (by rw [rN', if_pos hN.symm])
  obtain ⟨A1, A2, A3, A4, A5, A6, A7, A8⟩ := st_obj hN (by omega) e1 0
  generalize hg1 : wR (nRoad (wN h (2, 12)) 1) 0 0 (.ref 1) = g1 at A1 A2 A3 A4 A5 A6 A7 A8
  obtain ⟨e2, r2, x2, q2⟩ := c_road (d := d) (h := wN g1 (2, 12)) (a := 15) (by rw [tN, if_pos A1.symm]) (by rw [nN, A1]) (by rw [iN, if_pos A1.symm]) (by rw [rN', if_pos A1.symm])
  obtain ⟨B1, B2, B3, B4, B5, B6, B7, B8⟩ := st_obj A1 (by omega) e2 1
  generalize hg2 : wR (nRoad (wN g1 (2, 12)) 15) 0 1 (.ref 15) = g2 at B1 B2 B3 B4 B5 B6 B7 B8
  obtain ⟨e3, r3, x3, q3⟩ := c_road (d := d) (h := wN g2 (2, 12)) (a := 29) (by rw [tN, if_pos B1.symm]) (by rw [nN, B1]) (by rw [iN, if_pos B1.symm]) (by rw [rN', if_pos B1.symm])
  obtain ⟨C1, C2, C3, C4, C5, C6, C7, C8⟩ := st_obj B1 (by omega) e3 2
  generalize hg3 : wR (nRoad (wN g2 (2, 12)) 29) 0 2 (.ref 29) = g3 at C1 C2 C3 C4 C5 C6 C7 C8
  -- the notes
  obtain ⟨e4, r4, x4, q4⟩ := c_notes (d := d) (h := wN g3 (1, 3)) (a := 43) (by rw [tN, if_pos C1.symm]) (by rw [nN, C1])
  obtain ⟨D1, D2, D3, D4, D5, D6, D7, D8⟩ := st_obj C1 (by omega) e4 3
  generalize hg4 : wR (nNotes (wN g3 (1, 3)) 43) 0 3 (.ref 43) = g4 at D1 D2 D3 D4 D5 D6 D7 D8
  obtain ⟨e5, r5, x5, q5⟩ := c_notes (d := d) (h := wN g4 (1, 3)) (a := 56) (by rw [tN, if_pos D1.symm]) (by rw [nN, D1])
  obtain ⟨E1, E2, E3, E4, E5, E6, E7, E8⟩ := st_obj D1 (by omega) e5 4
  generalize hg5 : wR (nNotes (wN g4 (1, 3)) 56) 0 4 (.ref 56) = g5 at E1 E2 E3 E4 E5 E6 E7 E8
  -- the reader, the acts
  obtain ⟨e6, r6, q6⟩ := c_reader (d := d) (h := wN g5 (5, 4)) (a := 69) (by rw [tN, if_pos E1.symm]) (by rw [nN, E1]) (by rw [iN, if_pos E1.symm])
  obtain ⟨F1, F2, F3, F4, F5, F6, F7, F8⟩ := st_obj E1 (by omega) e6 6
  generalize hg6 : wR (nReader (wN g5 (5, 4)) 69) 0 6 (.ref 69) = g6 at F1 F2 F3 F4 F5 F6 F7 F8
  obtain ⟨e7, r7, q7⟩ := c_acts (d := d + 1) (h := wN g6 (0, 5)) (a := 73) (by rw [tN, if_pos F1.symm]) (by rw [nN, F1]) (by rw [iN, if_pos F1.symm])
  obtain ⟨G1, G2, G3, G4, G5, G6, G7, G8⟩ := st_obj F1 (by omega) e7 8
  generalize hg7 : wR (nActs (wN g6 (0, 5)) 73) 0 8 (.ref 73) = g7 at G1 G2 G3 G4 G5 G6 G7 G8
  -- the tapes
  have e8 : EX (wN g7 (25, 6)) (wN g7 (25, 6)) 75 0 0 := ⟨rfl, rfl, fun b _ _ => ⟨rfl, rfl, rfl, rfl⟩⟩
  obtain ⟨H1, H2, H3, H4, H5, H6, H7, H8⟩ := st_obj G1 (by omega) e8 9
  have T75 : zT (wR (wN g7 (25, 6)) 0 9 (.ref 75)) 75 = (25, 6) := by rw [zT_wR, tN, if_pos G1.symm]
  generalize hg8 : wR (wN g7 (25, 6)) 0 9 (.ref 75) = g8 at H1 H2 H3 H4 H5 H6 H7 H8 T75
  have k0 : zT g8 0 = (7, 10) := by rw [H4, G4, F4, E4, D4, C4, B4, A4]; exact t0
  obtain ⟨h', I1, I2, I3, I4, I5, I6, I7⟩ := tp_new (d := d + 1) 6 0 g8 (by omega) k0 (by rw [H6]; rfl) T75 H1
  have up : ∀ b, ¬ b = 0 → b < 75 → SA g8 h' b := fun b x1 x2 => I3 b (by omega) (by omega)
  have u7 : ∀ b, ¬ b = 0 → b < 75 → SA g7 h' b := fun b x1 x2 => SA_t (H3 b x1 (by omega)) (up b x1 x2)
  have u6 : ∀ b, ¬ b = 0 → b < 73 → SA g6 h' b := fun b x1 x2 => SA_t (G3 b x1 (by omega)) (u7 b x1 (by omega))
  have u5 : ∀ b, ¬ b = 0 → b < 69 → SA g5 h' b := fun b x1 x2 => SA_t (F3 b x1 (by omega)) (u6 b x1 (by omega))
  have u4 : ∀ b, ¬ b = 0 → b < 56 → SA g4 h' b := fun b x1 x2 => SA_t (E3 b x1 (by omega)) (u5 b x1 (by omega))
  have u3 : ∀ b, ¬ b = 0 → b < 43 → SA g3 h' b := fun b x1 x2 => SA_t (D3 b x1 (by omega)) (u4 b x1 (by omega))
  have u2 : ∀ b, ¬ b = 0 → b < 29 → SA g2 h' b := fun b x1 x2 => SA_t (C3 b x1 (by omega)) (u3 b x1 (by omega))
  have u1 : ∀ b, ¬ b = 0 → b < 15 → SA g1 h' b := fun b x1 x2 => SA_t (B3 b x1 (by omega)) (u2 b x1 (by omega))
  have s0 := I3 0 (by omega) (by omega)
  have r0 : zR h' 0 = va_up (va_up (va_up (va_up (va_up (va_up (va_up (va_up (zR h 0) 0 (.ref 1)) 1 (.ref 15)) 2 (.ref 29)) 3 (.ref 43)) 4 (.ref 56)) 6 (.ref 69)) 8 (.ref 73)) 9 (.ref 75) := by
    rw [s0.2.2.2, H6, G6, F6, E6, D6, C6, B6, A6]
  refine ⟨h', I1, ?_, fun b hb => ?_, ⟨⟨?_, ?_, ?_, ?_, ?_, ?_, ?_, ?_, ?_⟩, ?_, ?_, ?_, ?_, ?_, ?_, ?_, ?_, ?_, ?_, I4, fun j hj => I6 j (by omega) hj⟩, fun Q => ?_⟩
  · rw [I2, H2, G2, F2, E2, D2, C2, B2, A2]; dsimp only
  · exact SA_t (A3 b (by omega) (by omega)) (SA_t (B3 b (by omega) (by omega)) (SA_t (C3 b (by omega) (by omega)) (SA_t (D3 b (by omega) (by omega)) (SA_t (E3 b (by omega) (by omega)) (SA_t (F3 b (by omega) (by omega)) (SA_t (G3 b (by omega) (by omega)) (SA_t (H3 b (by omega) (by omega)) (I3 b (by omega) (by omega)))))))))
  · rw [s0.1]; exact k0
  · rw [r0]; rfl
  · rw [r0]; rfl
  · rw [r0]; rfl
  · rw [r0]; rfl
  · rw [r0]; rfl
  · rw [r0]; rfl
  · rw [r0]; rfl
  · rw [r0]; rfl
  · rw [s0.2.1, H5, G5, F5, E5, D5, C5, B5, A5]; exact i0
  · exact RS_s (fun b x1 x2 => SA_t (A8 b (by omega)) (u1 b (by omega) (by omega))) r1
  · exact RS_s (fun b x1 x2 => SA_t (B8 b (by omega)) (u2 b (by omega) (by omega))) r2
  · exact RS_s (fun b x1 x2 => SA_t (C8 b (by omega)) (u3 b (by omega) (by omega))) r3
  · exact R0_s (SA_t (A8 1 (by omega)) (u1 1 (by omega) (by omega))) x1
  · exact NS_s (fun b x1 x2 => SA_t (D8 b (by omega)) (u4 b (by omega) (by omega))) r4
  · exact NS_s (fun b x1 x2 => SA_t (E8 b (by omega)) (u5 b (by omega) (by omega))) r5
  · exact N0_s (fun b x1 x2 => SA_t (D8 b (by omega)) (u4 b (by omega) (by omega))) x4
  · exact Rd0_s (fun b x1 x2 => SA_t (F8 b (by omega)) (u6 b (by omega) (by omega))) r6
  · exact Ac0_s (fun b x1 x2 => SA_t (G8 b (by omega)) (u7 b (by omega) (by omega))) r7
  · have ta : ∀ (g : zH) (N : Nat) (ty : Nat × Nat), zN g = N → zT (wN g ty) N = ty := fun g N ty e => by rw [tN, if_pos e.symm]
    have j1 := ta h 1 (2, 12) hN
    have j2 := ta g1 15 (2, 12) A1
    have j3 := ta g2 29 (2, 12) B1
    have j4 := ta g3 43 (1, 3) C1
    have j5 := ta g4 56 (1, 3) D1
    have j6 := ta g5 69 (5, 4) E1
    have j7 := ta g6 73 (0, 5) F1
    have m1 : zT (nRoad (wN h (2, 12)) 1) 0 = (7, 10) := A7.trans t0
    have p1 : zT g1 0 = (7, 10) := A4.trans t0
    have m2 : zT (nRoad (wN g1 (2, 12)) 15) 0 = (7, 10) := B7.trans p1
    have p2 : zT g2 0 = (7, 10) := B4.trans p1
    have m3 : zT (nRoad (wN g2 (2, 12)) 29) 0 = (7, 10) := C7.trans p2
    have p3 : zT g3 0 = (7, 10) := C4.trans p2
    have m4 : zT (nNotes (wN g3 (1, 3)) 43) 0 = (7, 10) := D7.trans p3
    have p4 : zT g4 0 = (7, 10) := D4.trans p3
    have m5 : zT (nNotes (wN g4 (1, 3)) 56) 0 = (7, 10) := E7.trans p4
    have p5 : zT g5 0 = (7, 10) := E4.trans p4
    have m6 : zT (nReader (wN g5 (5, 4)) 69) 0 = (7, 10) := F7.trans p5
    have p6 : zT g6 0 = (7, 10) := F4.trans p5
    have m7 : zT (nActs (wN g6 (0, 5)) 73) 0 = (7, 10) := G7.trans p6
    have p7 : zT g7 0 = (7, 10) := G4.trans p6
    have m8 : zT (wN g7 (25, 6)) 0 = (7, 10) := H7.trans p7
    have I7' : ∀ Q, zG (d + 2) 701 92 [some (.ref 0), some (.int 0)] [] g8 Q = Q none h' := I7
    simp +decide only [Nat.reduceEqDiff, Nat.add_eq_left, Nat.left_eq_add, Nat.reduceAdd, Nat.reduceLeDiff, Nat.reduceMul, Nat.reduceSub, Nat.reduceLT, zlt8, zlt8_, zlt8n, zlt8n_, List.length_cons, List.length_nil, true_or, or_true, false_or, or_false, and_self, and_true, true_and, and_false, false_and, not_false_eq_true, not_true_eq_false, ite_true, ite_false, if_true, if_false, ite_not, zin, zpush_s, zpush_n, kl_int, kl_ref, kl_none, kl_kl, kl_long, kl_null, VR_i, VR_l, zT_wI, zT_wJ, zT_wR, zT_wIr, zT_wJr, zT_wRr, zI_wJ, zI_wR, zI_wJr, zI_wRr, zJ_wI, zJ_wR, zJ_wIr, zJ_wRr, zR_wI, zR_wJ, zR_wIr, zR_wJr, zN_wI, zN_wJ, zN_wR, zN_wIr, zN_wJr, zN_wRr, zZ_wI, zZ_wJ, zZ_wR, zZ_wIr, zZ_wJr, zZ_wRr, zI_wI, zJ_wJ, zR_wR, zI_wIr, zJ_wJr, zR_wRr, k701, g701_0, g701_1, g701_4, g701_5, g701_8, g701_9, g701_12, g701_12_n, g701_15, g701_16, g701_19, g701_20, g701_23, g701_23_n, g701_26, g701_27, g701_30, g701_31, g701_34, g701_34_n, g701_37, g701_38, g701_41, g701_42, g701_45, g701_45_n, g701_48, g701_49, g701_52, g701_53, g701_56, g701_56_n, g701_59, g701_60, g701_63, g701_64, g701_67, g701_67_n, g701_70, g701_71, g701_74, g701_75, g701_78, g701_78_n, g701_81, g701_82, g701_84, g701_87, g701_87_n, g701_90, g701_91, g701_93, g701_95, g701_98, g701_99, g701_102, g701_103, g701_106, g701_107, g701_110, g701_111, g701_114, g701_117, t0, hN, j1, q1, m1, hg1, A1, j2, q2, m2, hg2, B1, j3, q3, m3, hg3, C1, j4, q4, m4, hg4, D1, j5, q5, m5, hg5, E1, j6, q6, m6, hg6, F1, j7, q7, m7, hg7, G1, m8, hg8, I7', show Int32.toNatClampNeg 6 = 6 by decide, show ¬ (6 : Int32) < 0 by decide]
