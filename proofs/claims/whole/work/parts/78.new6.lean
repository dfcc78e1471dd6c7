-- needs 77.new5
variable {n D D2 q L c1 c2 c3 a b t s r d K k kd i j ln c m M N p p2 z : Nat} {h h1 h2 h3 h4 g0 : zH} {w w1 x nm : zW0} {sv : Value} {xs : zW0} {ex : zW0 → Int32} {ty : Nat × Nat}
theorem m_new (t0 : zT h 88 = (8, 29)) (hN : zN h = 89) (i0 : zI h 88 = fun _ => 0) : ∃ h', zN h' = 107 ∧ zZ h' = zZ h + 1670 ∧ (∀ b, b < 88 ∨ 107 ≤ b → SA h h' b) ∧ MO h' ∧ zI h' 89 = va_up (fun _ => 0) 61 500 ∧ zI h' 88 = va_up (fun _ => 0) 4 (-1) ∧ (∀ j, j < 6 → zI h' 103 j = -1) ∧ zI h' 104 = (fun _ => 0) ∧ ∀ Q, zCall (d + 2) 801 [.ref 88] h Q = Q none h' := by
  have sx : ∀ b, ¬ b = 88 → ¬ b = 89 → SA h (wR (wI (wN h (20, 118)) 89 61 500) 88 0 (.ref 89)) b := fun b x1 x2 => SA_t (SA_N _ (by omega)) (SA_t (SA_I _ _ x2) (SA_R _ _ x1))
  have t89 : zT (wR (wI (wN h (20, 118)) 89 61 500) 88 0 (.ref 89)) 89 = (20, 118) := by rw [zT_wR, zT_wI, tN, if_pos hN.symm]
  have i89 : zI (wR (wI (wN h (20, 118)) 89 61 500) 88 0 (.ref 89)) 89 = va_up (fun _ => 0) 61 500 := by rw [zI_wR, zI_wI, if_pos rfl, iN, if_pos hN.symm]
  have T : zT (wR (wI (wN h (20, 118)) 89 61 500) 88 0 (.ref 89)) 88 = (8, 29) := by rw [zT_wR, zT_wI, tN, if_neg (by omega)]; exact t0
  have I : zI (wR (wI (wN h (20, 118)) 89 61 500) 88 0 (.ref 89)) 88 = fun _ => 0 := by rw [zI_wR, zI_wI, if_neg (by omega), iN, if_neg (by omega)]; exact i0
  have R : zR (wR (wI (wN h (20, 118)) 89 61 500) 88 0 (.ref 89)) 88 = va_up (zR h 88) 0 (.ref 89) := by rw [zR_wR, if_pos rfl, zR_wI, rN', if_neg (by omega)]
  have NN : zN (wR (wI (wN h (20, 118)) 89 61 500) 88 0 (.ref 89)) = 90 := by rw [zN_wR, zN_wI, nN, hN]
  have ZZ : zZ (wR (wI (wN h (20, 118)) 89 61 500) 88 0 (.ref 89)) = zZ h + 118 := by rw [zZ_wR, zZ_wI, zN']
  have call0 : ∀ Q, zCall (d + 2) 801 [.ref 88] h Q = zG (d + 1) 801 11 [some (.ref 88)] [] (wR (wI (wN h (20, 118)) 89 61 500) 88 0 (.ref 89)) Q := fun Q => by
    have u1 : zT (wI (wN h (20, 118)) 89 61 500) 88 = (8, 29) := T
    have u2 : zT (wN h (20, 118)) 89 = (20, 118) := t89
    simp +decide only [Nat.reduceEqDiff, Nat.add_eq_left, Nat.left_eq_add, Nat.reduceAdd, Nat.reduceLeDiff, Nat.reduceMul, Nat.reduceSub, Nat.reduceLT, zlt8, zlt8_, zlt8n, zlt8n_, List.length_cons, List.length_nil, true_or, or_true, false_or, or_false, and_self, and_true, true_and, and_false, false_and, not_false_eq_true, not_true_eq_false, ite_true, ite_false, if_true, if_false, ite_not, zin, zpush_s, zpush_n, kl_int, kl_ref, kl_none, kl_kl, kl_long, kl_null, VR_i, VR_l, zT_wI, zT_wJ, zT_wR, zT_wIr, zT_wJr, zT_wRr, zI_wJ, zI_wR, zI_wJr, zI_wRr, zJ_wI, zJ_wR, zJ_wIr, zJ_wRr, zR_wI, zR_wJ, zR_wIr, zR_wJr, zN_wI, zN_wJ, zN_wR, zN_wIr, zN_wJr, zN_wRr, zZ_wI, zZ_wJ, zZ_wR, zZ_wIr, zZ_wJr, zZ_wRr, zI_wI, zJ_wJ, zR_wR, zI_wIr, zJ_wJr, zR_wRr, k801, g801_0, g801_1, g801_4, g801_5, g801_8, k803, g803_0, g803_2, g803_4, g803_5, g803_6, g803_8, g803_11, g803_12, g803_13, t0, hN, u1, u2, show Int32.toNatClampNeg 118 = 118 by decide, show ¬ (118 : Int32) < 0 by decide, show Int32.toNatClampNeg 61 = 61 by decide, show ¬ (61 : Int32) < 0 by decide]
  generalize wR (wI (wN h (20, 118)) 89 61 500) 88 0 (.ref 89) = g89 at sx t89 i89 T I R NN ZZ call0
  obtain ⟨N90, Z90, s90, T90', I90', R90, y90, v90, n90⟩ := wA_f (ty := (20, 118)) NN (by omega) [] 1
  have q90 := fun Q => s801_11 (d := d + 1) T NN Q
  generalize wA g89 90 (20, 118) [] 1 = g90 at N90 Z90 s90 T90' I90' R90 y90 v90 n90 q90
  have T90 : zT g90 88 = (8, 29) := T90'.trans T
  have I90 := I90'.trans I
  obtain ⟨N91, Z91, s91, T91', I91', R91, y91, v91, n91⟩ := wA_f (ty := (20, 118)) N90 (by omega) [] 2
  have q91 := fun Q => s801_19 (d := d + 1) T90 N90 Q
  generalize wA g90 91 (20, 118) [] 2 = g91 at N91 Z91 s91 T91' I91' R91 y91 v91 n91 q91
  have T91 : zT g91 88 = (8, 29) := T91'.trans T90
  have I91 := I91'.trans I90
  have T92w : zT (wI g91 88 4 (-1)) 88 = (8, 29) := T91
  have N92w : zN (wI g91 88 4 (-1)) = 92 := N91
  have I92w : zI (wI g91 88 4 (-1)) 88 = va_up (fun _ => 0) 4 (-1) := by rw [zI_wI, if_pos rfl, I91]
  have R92b : zR (wI g91 88 4 (-1)) 88 = zR g91 88 := rfl
  have Z92w : zZ (wI g91 88 4 (-1)) = zZ g91 := rfl
  have sw : ∀ b, ¬ b = 88 → SA g91 (wI g91 88 4 (-1)) b := fun b x1 => SA_I _ _ x1
  have cw : ∀ Q, zG (d + 1) 801 27 [some (.ref 88)] [] g91 Q = zG (d + 1) 801 32 [some (.ref 88)] [] (wI g91 88 4 (-1)) Q := fun Q => by simp +decide only [Nat.reduceEqDiff, Nat.add_eq_left, Nat.left_eq_add, Nat.reduceAdd, Nat.reduceLeDiff, Nat.reduceMul, Nat.reduceSub, Nat.reduceLT, zlt8, zlt8_, zlt8n, zlt8n_, List.length_cons, List.length_nil, true_or, or_true, false_or, or_false, and_self, and_true, true_and, and_false, false_and, not_false_eq_true, not_true_eq_false, ite_true, ite_false, if_true, if_false, ite_not, zin, zpush_s, zpush_n, kl_int, kl_ref, kl_none, kl_kl, kl_long, kl_null, VR_i, VR_l, zT_wI, zT_wJ, zT_wR, zT_wIr, zT_wJr, zT_wRr, zI_wJ, zI_wR, zI_wJr, zI_wRr, zJ_wI, zJ_wR, zJ_wIr, zJ_wRr, zR_wI, zR_wJ, zR_wIr, zR_wJr, zN_wI, zN_wJ, zN_wR, zN_wIr, zN_wJr, zN_wRr, zZ_wI, zZ_wJ, zZ_wR, zZ_wIr, zZ_wJr, zZ_wRr, zI_wI, zJ_wJ, zR_wR, zI_wIr, zJ_wJr, zR_wRr, g801_27, g801_28, g801_29, T91]
  generalize wI g91 88 4 (-1) = g91b at T92w N92w I92w R92b Z92w sw cw
  obtain ⟨N92, Z92, s92, T92', I92', R92, y92, v92, n92⟩ := wA_f (ty := (20, 100)) N92w (by omega) [] 5
  have q92 := fun Q => s801_32 (d := d + 1) T92w N92w Q
  generalize wA g91b 92 (20, 100) [] 5 = g92 at N92 Z92 s92 T92' I92' R92 y92 v92 n92 q92
  have T92 : zT g92 88 = (8, 29) := T92'.trans T92w
  have I92 := I92'.trans I92w
  obtain ⟨N93, Z93, s93, T93', I93', R93, y93, v93, n93⟩ := wA_f (ty := (20, 600)) N92 (by omega) [] 7
  have q93 := fun Q => s801_40 (d := d + 1) T92 N92 Q
  generalize wA g92 93 (20, 600) [] 7 = g93 at N93 Z93 s93 T93' I93' R93 y93 v93 n93 q93
  have T93 : zT g93 88 = (8, 29) := T93'.trans T92
  have I93 := I93'.trans I92
  obtain ⟨N94, Z94, s94, T94', I94', R94, y94, v94, n94⟩ := wA_f (ty := (20, 6)) N93 (by omega) [] 8
  have q94 := fun Q => s801_49 (d := d + 1) T93 N93 Q
  generalize wA g93 94 (20, 6) [] 8 = g94 at N94 Z94 s94 T94' I94' R94 y94 v94 n94 q94
  have T94 : zT g94 88 = (8, 29) := T94'.trans T93
  have I94 := I94'.trans I93
  obtain ⟨N95, Z95, s95, T95', I95', R95, y95, v95, n95⟩ := wA_f (ty := (20, 100)) N94 (by omega) [] 10
  have q95 := fun Q => s801_57 (d := d + 1) T94 N94 Q
  generalize wA g94 95 (20, 100) [] 10 = g95 at N95 Z95 s95 T95' I95' R95 y95 v95 n95 q95
  have T95 : zT g95 88 = (8, 29) := T95'.trans T94
  have I95 := I95'.trans I94
  obtain ⟨N96, Z96, s96, T96', I96', R96, y96, v96, n96⟩ := wA_f (ty := (20, 6)) N95 (by omega) [] 17
  have q96 := fun Q => s801_65 (d := d + 1) T95 N95 Q
  generalize wA g95 96 (20, 6) [] 17 = g96 at N96 Z96 s96 T96' I96' R96 y96 v96 n96 q96
  have T96 : zT g96 88 = (8, 29) := T96'.trans T95
  have I96 := I96'.trans I95
  obtain ⟨N97, Z97, s97, T97', I97', R97, y97, v97, n97⟩ := wA_f (ty := (22, 6)) N96 (by omega) [112, 107, 118, 119, 116, 100] 18
  have q97 := fun Q => s801_73 (d := d + 1) T96 N96 Q
  generalize wA g96 97 (22, 6) [112, 107, 118, 119, 116, 100] 18 = g97 at N97 Z97 s97 T97' I97' R97 y97 v97 n97 q97
  have T97 : zT g97 88 = (8, 29) := T97'.trans T96
  have I97 := I97'.trans I96
  obtain ⟨N98, Z98, s98, T98', I98', R98, y98, v98, n98⟩ := wA_f (ty := (22, 3)) N97 (by omega) [109, 108, 112] 19
  have q98 := fun Q => s801_111 (d := d + 1) T97 N97 Q
  generalize wA g97 98 (22, 3) [109, 108, 112] 19 = g98 at N98 Z98 s98 T98' I98' R98 y98 v98 n98 q98
  have T98 : zT g98 88 = (8, 29) := T98'.trans T97
  have I98 := I98'.trans I97
  obtain ⟨N99, Z99, s99, T99', I99', R99, y99, v99, n99⟩ := wA_f (ty := (22, 15)) N98 (by omega) [109, 111, 114, 101, 0, 108, 101, 115, 115, 0, 112, 97, 121, 0, 0] 20
  have q99 := fun Q => s801_133 (d := d + 1) T98 N98 Q
  generalize wA g98 99 (22, 15) [109, 111, 114, 101, 0, 108, 101, 115, 115, 0, 112, 97, 121, 0, 0] 20 = g99 at N99 Z99 s99 T99' I99' R99 y99 v99 n99 q99
  have T99 : zT g99 88 = (8, 29) := T99'.trans T98
  have I99 := I99'.trans I98
  obtain ⟨N100, Z100, s100, T100', I100', R100, y100, v100, n100⟩ := wA_f (ty := (20, 7)) N99 (by omega) [-1, 0, 0, 0, 1, 2, 3] 21
  have q100 := fun Q => s801_221 (d := d + 1) T99 N99 Q
  generalize wA g99 100 (20, 7) [-1, 0, 0, 0, 1, 2, 3] 21 = g100 at N100 Z100 s100 T100' I100' R100 y100 v100 n100 q100
  have T100 : zT g100 88 = (8, 29) := T100'.trans T99
  have I100 := I100'.trans I99
  obtain ⟨N101, Z101, s101, T101', I101', R101, y101, v101, n101⟩ := wA_f (ty := (20, 21)) N100 (by omega) [10, 11, 12, 0, 20, 0, 30, 0, 0, 0, 0, 40, 50, 51, 0, 0, 0, 60, 71, 70, 0] 22
  have q101 := fun Q => s801_258 (d := d + 1) T100 N100 Q
  generalize wA g100 101 (20, 21) [10, 11, 12, 0, 20, 0, 30, 0, 0, 0, 0, 40, 50, 51, 0, 0, 0, 60, 71, 70, 0] 22 = g101 at N101 Z101 s101 T101' I101' R101 y101 v101 n101 q101
  have T101 : zT g101 88 = (8, 29) := T101'.trans T100
  have I101 := I101'.trans I100
  obtain ⟨N102, Z102, s102, T102', I102', R102, y102, v102, n102⟩ := wA_f (ty := (20, 20)) N101 (by omega) [] 23
  have q102 := fun Q => s801_376 (d := d + 1) T101 N101 Q
  generalize wA g101 102 (20, 20) [] 23 = g102 at N102 Z102 s102 T102' I102' R102 y102 v102 n102 q102
  have T102 : zT g102 88 = (8, 29) := T102'.trans T101
  have I102 := I102'.trans I101
  obtain ⟨N103, Z103, s103, T103', I103', R103, y103, v103, n103⟩ := wA_f (ty := (20, 6)) N102 (by omega) [-1, -1, -1, -1, -1, -1] 25
  have q103 := fun Q => s801_384 (d := d + 1) T102 N102 Q
  generalize wA g102 103 (20, 6) [-1, -1, -1, -1, -1, -1] 25 = g103 at N103 Z103 s103 T103' I103' R103 y103 v103 n103 q103
  have T103 : zT g103 88 = (8, 29) := T103'.trans T102
  have I103 := I103'.trans I102
  obtain ⟨N104, Z104, s104, T104', I104', R104, y104, v104, n104⟩ := wA_f (ty := (20, 6)) N103 (by omega) [] 26
  have q104 := fun Q => s801_416 (d := d + 1) T103 N103 Q
  generalize wA g103 104 (20, 6) [] 26 = g104 at N104 Z104 s104 T104' I104' R104 y104 v104 n104 q104
  have T104 : zT g104 88 = (8, 29) := T104'.trans T103
  have I104 := I104'.trans I103
  obtain ⟨N105, Z105, s105, T105', I105', R105, y105, v105, n105⟩ := wA_f (ty := (24, 360)) N104 (by omega) [] 27
  have q105 := fun Q => s801_424 (d := d + 1) T104 N104 Q
  generalize wA g104 105 (24, 360) [] 27 = g105 at N105 Z105 s105 T105' I105' R105 y105 v105 n105 q105
  have T105 : zT g105 88 = (8, 29) := T105'.trans T104
  have I105 := I105'.trans I104
  obtain ⟨N106, Z106, s106, T106', I106', R106, y106, v106, n106⟩ := wA_f (ty := (24, 60)) N105 (by omega) [] 28
  have q106 := fun Q => s801_433 (d := d + 1) T105 N105 Q
  generalize wA g105 106 (24, 60) [] 28 = g106 at N106 Z106 s106 T106' I106' R106 y106 v106 n106 q106
  have T106 : zT g106 88 = (8, 29) := T106'.trans T105
  have I106 := I106'.trans I105
  have u106 : ∀ b, ¬ b = 88 → b < 107 → SA g106 g106 b := fun b _ _ => ⟨rfl, rfl, rfl, rfl⟩
  have u105 : ∀ b, ¬ b = 88 → b < 106 → SA g105 g106 b := fun b x1 x2 => SA_t (s106 b x1 (by omega)) (u106 b x1 (by omega))
  have u104 : ∀ b, ¬ b = 88 → b < 105 → SA g104 g106 b := fun b x1 x2 => SA_t (s105 b x1 (by omega)) (u105 b x1 (by omega))
  have u103 : ∀ b, ¬ b = 88 → b < 104 → SA g103 g106 b := fun b x1 x2 => SA_t (s104 b x1 (by omega)) (u104 b x1 (by omega))
  have u102 : ∀ b, ¬ b = 88 → b < 103 → SA g102 g106 b := fun b x1 x2 => SA_t (s103 b x1 (by omega)) (u103 b x1 (by omega))
  have u101 : ∀ b, ¬ b = 88 → b < 102 → SA g101 g106 b := fun b x1 x2 => SA_t (s102 b x1 (by omega)) (u102 b x1 (by omega))
  have u100 : ∀ b, ¬ b = 88 → b < 101 → SA g100 g106 b := fun b x1 x2 => SA_t (s101 b x1 (by omega)) (u101 b x1 (by omega))
  have u99 : ∀ b, ¬ b = 88 → b < 100 → SA g99 g106 b := fun b x1 x2 => SA_t (s100 b x1 (by omega)) (u100 b x1 (by omega))
  have u98 : ∀ b, ¬ b = 88 → b < 99 → SA g98 g106 b := fun b x1 x2 => SA_t (s99 b x1 (by omega)) (u99 b x1 (by omega))
  have u97 : ∀ b, ¬ b = 88 → b < 98 → SA g97 g106 b := fun b x1 x2 => SA_t (s98 b x1 (by omega)) (u98 b x1 (by omega))
  have u96 : ∀ b, ¬ b = 88 → b < 97 → SA g96 g106 b := fun b x1 x2 => SA_t (s97 b x1 (by omega)) (u97 b x1 (by omega))
  have u95 : ∀ b, ¬ b = 88 → b < 96 → SA g95 g106 b := fun b x1 x2 => SA_t (s96 b x1 (by omega)) (u96 b x1 (by omega))
  have u94 : ∀ b, ¬ b = 88 → b < 95 → SA g94 g106 b := fun b x1 x2 => SA_t (s95 b x1 (by omega)) (u95 b x1 (by omega))
  have u93 : ∀ b, ¬ b = 88 → b < 94 → SA g93 g106 b := fun b x1 x2 => SA_t (s94 b x1 (by omega)) (u94 b x1 (by omega))
  have u92 : ∀ b, ¬ b = 88 → b < 93 → SA g92 g106 b := fun b x1 x2 => SA_t (s93 b x1 (by omega)) (u93 b x1 (by omega))
  have u91b : ∀ b, ¬ b = 88 → b < 92 → SA g91b g106 b := fun b x1 x2 => SA_t (s92 b x1 (by omega)) (u92 b x1 (by omega))
  have u91 : ∀ b, ¬ b = 88 → b < 92 → SA g91 g106 b := fun b x1 x2 => SA_t (sw b x1) (u91b b x1 x2)
  have u90 : ∀ b, ¬ b = 88 → b < 91 → SA g90 g106 b := fun b x1 x2 => SA_t (s91 b x1 (by omega)) (u91 b x1 (by omega))
  have u89 : ∀ b, ¬ b = 88 → b < 90 → SA g89 g106 b := fun b x1 x2 => SA_t (s90 b x1 (by omega)) (u90 b x1 (by omega))
  have RR : zR g106 88 = va_up (va_up (va_up (va_up (va_up (va_up (va_up (va_up (va_up (va_up (va_up (va_up (va_up (va_up (va_up (va_up (va_up (va_up (zR h 88) 0 (.ref 89)) 1 (.ref 90)) 2 (.ref 91)) 5 (.ref 92)) 7 (.ref 93)) 8 (.ref 94)) 10 (.ref 95)) 17 (.ref 96)) 18 (.ref 97)) 19 (.ref 98)) 20 (.ref 99)) 21 (.ref 100)) 22 (.ref 101)) 23 (.ref 102)) 25 (.ref 103)) 26 (.ref 104)) 27 (.ref 105)) 28 (.ref 106) := by
    rw [R106, R105, R104, R103, R102, R101, R100, R99, R98, R97, R96, R95, R94, R93, R92, R92b, R91, R90, R]
  refine ⟨g106, N106, ?_, fun b hb => ?_, ⟨?_, ?_⟩, ?_, I106, fun j hj => ?_, ?_, fun Q => ?_⟩
  · rw [Z106, Z105, Z104, Z103, Z102, Z101, Z100, Z99, Z98, Z97, Z96, Z95, Z94, Z93, Z92, Z92w, Z91, Z90, ZZ]; dsimp only
  · exact SA_t (sx b (by omega) (by omega)) (SA_t (s90 b (by omega) (by omega)) (SA_t (s91 b (by omega) (by omega)) (SA_t (sw b (by omega)) (SA_t (s92 b (by omega) (by omega)) (SA_t (s93 b (by omega) (by omega)) (SA_t (s94 b (by omega) (by omega)) (SA_t (s95 b (by omega) (by omega)) (SA_t (s96 b (by omega) (by omega)) (SA_t (s97 b (by omega) (by omega)) (SA_t (s98 b (by omega) (by omega)) (SA_t (s99 b (by omega) (by omega)) (SA_t (s100 b (by omega) (by omega)) (SA_t (s101 b (by omega) (by omega)) (SA_t (s102 b (by omega) (by omega)) (SA_t (s103 b (by omega) (by omega)) (SA_t (s104 b (by omega) (by omega)) (SA_t (s105 b (by omega) (by omega)) (s106 b (by omega) (by omega)))))))))))))))))))
  · refine ⟨T106, ?_, ?_, ?_, ?_, ?_, ?_, ?_, ?_, ?_, ?_, ?_, ?_, ?_, ?_, ?_, ?_, ?_, y106, ?_, ?_, ?_, ?_, ?_, ?_, ?_, ?_, ?_, ?_, ?_, ?_, ?_, ?_, ?_, ?_, ?_, ?_⟩
    · rw [(u89 89 (by omega) (by omega)).1]; exact t89
    · rw [(u90 90 (by omega) (by omega)).1]; exact y90
    · rw [(u91 91 (by omega) (by omega)).1]; exact y91
    · rw [(u92 92 (by omega) (by omega)).1]; exact y92
    · rw [(u93 93 (by omega) (by omega)).1]; exact y93
    · rw [(u94 94 (by omega) (by omega)).1]; exact y94
    · rw [(u95 95 (by omega) (by omega)).1]; exact y95
    · rw [(u96 96 (by omega) (by omega)).1]; exact y96
    · rw [(u97 97 (by omega) (by omega)).1]; exact y97
    · rw [(u98 98 (by omega) (by omega)).1]; exact y98
    · rw [(u99 99 (by omega) (by omega)).1]; exact y99
    · rw [(u100 100 (by omega) (by omega)).1]; exact y100
    · rw [(u101 101 (by omega) (by omega)).1]; exact y101
    · rw [(u102 102 (by omega) (by omega)).1]; exact y102
    · rw [(u103 103 (by omega) (by omega)).1]; exact y103
    · rw [(u104 104 (by omega) (by omega)).1]; exact y104
    · rw [(u105 105 (by omega) (by omega)).1]; exact y105
    · rw [RR]; rfl
    · rw [RR]; rfl
    · rw [RR]; rfl
    · rw [RR]; rfl
    · rw [RR]; rfl
    · rw [RR]; rfl
    · rw [RR]; rfl
    · rw [RR]; rfl
    · rw [RR]; rfl
    · rw [RR]; rfl
    · rw [RR]; rfl
    · rw [RR]; rfl
    · rw [RR]; rfl
    · rw [RR]; rfl
    · rw [RR]; rfl
    · rw [RR]; rfl
    · rw [RR]; rfl
    · rw [RR]; rfl
  · intro a h1 h2 k hk
    have ha : a = 97 ∨ a = 98 ∨ a = 99 ∨ a = 100 ∨ a = 101 := by omega
    rcases ha with rfl | rfl | rfl | rfl | rfl
    · rw [(u97 97 (by omega) (by omega)).2.1]; exact v97 k hk
    · rw [(u98 98 (by omega) (by omega)).2.1]; exact v98 k hk
    · rw [(u99 99 (by omega) (by omega)).2.1]; exact v99 k hk
    · rw [(u100 100 (by omega) (by omega)).2.1]; exact v100 k hk
    · rw [(u101 101 (by omega) (by omega)).2.1]; exact v101 k hk
  · rw [(u89 89 (by omega) (by omega)).2.1]; exact i89
  · rw [(u103 103 (by omega) (by omega)).2.1, v103 j hj]
    have : j = 0 ∨ j = 1 ∨ j = 2 ∨ j = 3 ∨ j = 4 ∨ j = 5 := by omega
    rcases this with rfl | rfl | rfl | rfl | rfl | rfl <;> rfl
  · rw [(u104 104 (by omega) (by omega)).2.1]; exact n104 rfl
  · rw [call0, q90, q91, cw, q92, q93, q94, q95, q96, q97, q98, q99, q100, q101, q102, q103, q104, q105, q106]
    simp +decide only [Nat.reduceEqDiff, Nat.add_eq_left, Nat.left_eq_add, Nat.reduceAdd, Nat.reduceLeDiff, Nat.reduceMul, Nat.reduceSub, Nat.reduceLT, zlt8, zlt8_, zlt8n, zlt8n_, List.length_cons, List.length_nil, true_or, or_true, false_or, or_false, and_self, and_true, true_and, and_false, false_and, not_false_eq_true, not_true_eq_false, ite_true, ite_false, if_true, if_false, ite_not, zin, zpush_s, zpush_n, kl_int, kl_ref, kl_none, kl_kl, kl_long, kl_null, VR_i, VR_l, zT_wI, zT_wJ, zT_wR, zT_wIr, zT_wJr, zT_wRr, zI_wJ, zI_wR, zI_wJr, zI_wRr, zJ_wI, zJ_wR, zJ_wIr, zJ_wRr, zR_wI, zR_wJ, zR_wIr, zR_wJr, zN_wI, zN_wJ, zN_wR, zN_wIr, zN_wJr, zN_wRr, zZ_wI, zZ_wJ, zZ_wR, zZ_wIr, zZ_wJr, zZ_wRr, zI_wI, zJ_wJ, zR_wR, zI_wIr, zJ_wJr, zR_wRr, g801_441]
