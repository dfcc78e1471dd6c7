/-! one instruction as an equation, method by method -/
variable {d a b : Nat} {L : zL} {st : List Value} {h : zH} {Q : zQq} {x z i : Int32} {u w : Int64} {v0 v1 v2 v3 v4 v5 : Value} {l0 l1 l2 l3 l4 l5 l6 l7 l8 l9 l10 l11 l12 : Option Value}
theorem g1_0 : zG d 1 0 (some (.ref a) :: L) st h Q = zG d 1 1 (some (.ref a) :: L) (.ref a :: st) h Q := g_ldA rfl rfl
theorem g1_1 (hT : (zT h a).1 < 20) : zG d 1 1 L [.ref a] h Q = zG d 1 4 L [] h Q := g_oi rfl hT
theorem g1_4 : zG d 1 4 (some (.ref a) :: L) st h Q = zG d 1 5 (some (.ref a) :: L) (.ref a :: st) h Q := g_ldA rfl rfl
theorem g1_5 : zG d 1 5 L st h Q = zG d 1 7 L (.int 20 :: st) h Q := g_c rfl
theorem g1_7 (hx : ¬ x < 0 ∧ x.toNatClampNeg ≤ 1000) : zG d 1 7 L (.int x :: st) h Q = zG d 1 9 L (.ref (zN h) :: st) (wN h (20, x.toNatClampNeg)) Q := g_na rfl hx
theorem g1_9 (hT : zT h a = (0, 5)) : zG d 1 9 L (.ref b :: .ref a :: st) h Q = zG d 1 12 L st (wR h a 0 (.ref b)) Q := g_pR rfl hT
theorem g1_9_n (hT : zT h a = (0, 5)) : zG d 1 9 L (.null :: .ref a :: st) h Q = zG d 1 12 L st (wR h a 0 .null) Q := g_pR0 rfl hT
theorem g1_12 : zG d 1 12 L [] h Q = Q none h := g_rV rfl
theorem k1  : zCall (d + 1) 1 [.ref a] h Q = zG d 1 0 [some (.ref a)] [] h Q := zCall_k (Nat.le_of_ble_eq_true rfl) rfl
theorem g2_0 : zG d 2 0 (some (.int x) :: L) st h Q = zG d 2 1 (some (.int x) :: L) (.int x :: st) h Q := g_ldI rfl rfl
theorem g2_1 : zG d 2 1 (l0 :: l1 :: l2 :: L) (.int x :: st) h Q = zG d 2 2 (l0 :: kl l1 :: some (.int x) :: L) st h Q := g_stI rfl (by simp) rfl
theorem g2_2 : zG d 2 2 L st h Q = zG d 2 3 L (.int 0 :: st) h Q := g_c rfl
theorem g2_3 : zG d 2 3 (l0 :: l1 :: l2 :: l3 :: L) (.int x :: st) h Q = zG d 2 4 (l0 :: l1 :: kl l2 :: some (.int x) :: L) st h Q := g_stI rfl (by simp) rfl
theorem g2_4 : zG d 2 4 (l0 :: l1 :: l2 :: some (.int x) :: L) st h Q = zG d 2 5 (l0 :: l1 :: l2 :: some (.int x) :: L) (.int x :: st) h Q := g_ldI rfl rfl
theorem g2_5 : zG d 2 5 L st h Q = zG d 2 7 L (.int 7 :: st) h Q := g_c rfl
theorem g2_7 : zG d 2 7 L (.int z :: .int x :: st) h Q = if z ≤ x then zG d 2 38 L st h Q else zG d 2 10 L st h Q := g_i2 (P := fun x z => z ≤ x) rfl
theorem g2_10 : zG d 2 10 (l0 :: l1 :: some (.int x) :: L) st h Q = zG d 2 11 (l0 :: l1 :: some (.int x) :: L) (.int x :: st) h Q := g_ldI rfl rfl
theorem g2_11 : zG d 2 11 L st h Q = zG d 2 13 L (.int 6 :: st) h Q := g_c rfl
theorem g2_13 : zG d 2 13 L [v1, v0] h Q = zCall d 744 [v0, v1] h (fun v h1 => zG d 2 16 L (zpush v []) h1 Q) := g_cS rfl rfl (Nat.le_of_ble_eq_true rfl) rfl (Nat.le_of_ble_eq_true rfl)
theorem g2_16 : zG d 2 16 L (.int x :: st) h Q = if x = 0 then zG d 2 38 L st h Q else zG d 2 19 L st h Q := g_i1 (P := fun x => x = 0) rfl
theorem g2_19 : zG d 2 19 (l0 :: l1 :: some (.int x) :: L) st h Q = zG d 2 20 (l0 :: l1 :: some (.int x) :: L) (.int x :: st) h Q := g_ldI rfl rfl
theorem g2_20 : zG d 2 20 (l0 :: some (.int x) :: L) st h Q = zG d 2 21 (l0 :: some (.int x) :: L) (.int x :: st) h Q := g_ldI rfl rfl
theorem g2_21 : zG d 2 21 L (.int z :: .int x :: st) h Q = if ¬ x = z then zG d 2 26 L st h Q else zG d 2 24 L st h Q := g_i2 (P := fun x z => ¬ x = z) rfl
theorem g2_24 : zG d 2 24 L st h Q = zG d 2 25 L (.int 1 :: st) h Q := g_c rfl
theorem g2_25 (hx : x = 0 ∨ x = 1) : zG d 2 25 L [.int x] h Q = Q (some (.int x)) h := g_rI (ok := fun x => x = 0 ∨ x = 1) rfl hx
theorem g2_26 : zG d 2 26 L st h Q = zG d 2 29 L (.ref 1000001 :: st) h Q := g_c rfl
theorem g2_29 : zG d 2 29 (l0 :: l1 :: some (.int x) :: L) st h Q = zG d 2 30 (l0 :: l1 :: some (.int x) :: L) (.int x :: st) h Q := g_ldI rfl rfl
theorem g2_30 (hT : (zT h b).1 = 30) (hi : zin i (zT h b).2) : zG d 2 30 L (.int i :: .ref b :: st) h Q = zG d 2 31 L (.int (zI h b i.toNatClampNeg) :: st) h Q := g_ia rfl hT hi
theorem g2_31 : zG d 2 31 (l0 :: l1 :: l2 :: L) (.int x :: st) h Q = zG d 2 32 (l0 :: kl l1 :: some (.int x) :: L) st h Q := g_stI rfl (by simp) rfl
theorem g2_32 : zG d 2 32 (l0 :: l1 :: l2 :: some (.int x) :: L) st h Q = zG d 2 35 (l0 :: l1 :: kl l2 :: some (.int (x + 1)) :: L) st h Q := g_inc rfl rfl rfl
theorem g2_35 : zG d 2 35 L st h Q = zG d 2 4 L st h Q := g_go rfl
theorem g2_38 : zG d 2 38 L st h Q = zG d 2 39 L (.int 0 :: st) h Q := g_c rfl
theorem g2_39 (hx : x = 0 ∨ x = 1) : zG d 2 39 L [.int x] h Q = Q (some (.int x)) h := g_rI (ok := fun x => x = 0 ∨ x = 1) rfl hx
theorem k2 {x0 : Int32} {x1 : Int32} : zCall (d + 1) 2 [.int x0, .int x1] h Q = zG d 2 0 [some (.int x0), some (.int x1), none, none] [] h Q := zCall_k (Nat.le_of_ble_eq_true rfl) rfl
theorem g3_0 : zG d 3 0 (some (.ref a) :: L) st h Q = zG d 3 1 (some (.ref a) :: L) (.ref a :: st) h Q := g_ldA rfl rfl
theorem g3_1 : zG d 3 1 L st h Q = zG d 3 2 L (.int 0 :: st) h Q := g_c rfl
theorem g3_2 (hT : zT h a = (0, 5)) : zG d 3 2 L (.int x :: .ref a :: st) h Q = zG d 3 5 L st (wI h a 1 x) Q := g_pI rfl hT
theorem g3_5 : zG d 3 5 L [] h Q = Q none h := g_rV rfl
theorem k3  : zCall (d + 1) 3 [.ref a] h Q = zG d 3 0 [some (.ref a)] [] h Q := zCall_k (Nat.le_of_ble_eq_true rfl) rfl
theorem g4_0 : zG d 4 0 (some (.ref a) :: L) st h Q = zG d 4 1 (some (.ref a) :: L) (.ref a :: st) h Q := g_ldA rfl rfl
theorem g4_1 (hT : zT h a = (0, 5)) : zG d 4 1 L (.ref a :: st) h Q = zG d 4 4 L (.int (zI h a 1) :: st) h Q := g_gI rfl hT
theorem g4_4 : zG d 4 4 L st h Q = zG d 4 6 L (.int 20 :: st) h Q := g_c rfl
theorem g4_6 (h4 : st.length ≤ 4) : zG d 4 6 L (.int z :: .int x :: st) h Q = zG d 4 9 L (.int (zmin x z) :: st) h Q := g_mm (f := fun x z => zmin x z) rfl h4
theorem g4_9 : zG d 4 9 L [.int x] h Q = Q (some (.int x)) h := g_rI (ok := fun _ => True) rfl trivial
theorem k4  : zCall (d + 1) 4 [.ref a] h Q = zG d 4 0 [some (.ref a)] [] h Q := zCall_k (Nat.le_of_ble_eq_true rfl) rfl
theorem g5_0 : zG d 5 0 (some (.ref a) :: L) st h Q = zG d 5 1 (some (.ref a) :: L) (.ref a :: st) h Q := g_ldA rfl rfl
theorem g5_1 : zG d 5 1 (l0 :: some (.int x) :: L) st h Q = zG d 5 2 (l0 :: some (.int x) :: L) (.int x :: st) h Q := g_ldI rfl rfl
theorem g5_2 (hT : zT h a = (0, 5)) : zG d 5 2 L (.int x :: .ref a :: st) h Q = zG d 5 5 L st (wI h a 2 x) Q := g_pI rfl hT
theorem g5_5 : zG d 5 5 (some (.ref a) :: L) st h Q = zG d 5 6 (some (.ref a) :: L) (.ref a :: st) h Q := g_ldA rfl rfl
theorem g5_6 : zG d 5 6 (l0 :: l1 :: some (.int x) :: L) st h Q = zG d 5 7 (l0 :: l1 :: some (.int x) :: L) (.int x :: st) h Q := g_ldI rfl rfl
theorem g5_7 (hT : zT h a = (0, 5)) : zG d 5 7 L (.int x :: .ref a :: st) h Q = zG d 5 10 L st (wI h a 3 x) Q := g_pI rfl hT
theorem g5_10 : zG d 5 10 (some (.ref a) :: L) st h Q = zG d 5 11 (some (.ref a) :: L) (.ref a :: st) h Q := g_ldA rfl rfl
theorem g5_11 : zG d 5 11 (l0 :: l1 :: l2 :: some (.int x) :: L) st h Q = zG d 5 12 (l0 :: l1 :: l2 :: some (.int x) :: L) (.int x :: st) h Q := g_ldI rfl rfl
theorem g5_12 (hT : zT h a = (0, 5)) : zG d 5 12 L (.int x :: .ref a :: st) h Q = zG d 5 15 L st (wI h a 4 x) Q := g_pI rfl hT
theorem g5_15 : zG d 5 15 (some (.ref a) :: L) st h Q = zG d 5 16 (some (.ref a) :: L) (.ref a :: st) h Q := g_ldA rfl rfl
theorem g5_16 : zG d 5 16 (l0 :: l1 :: l2 :: l3 :: some (.int x) :: L) st h Q = zG d 5 18 (l0 :: l1 :: l2 :: l3 :: some (.int x) :: L) (.int x :: st) h Q := g_ldI rfl rfl
theorem g5_18 : zG d 5 18 (l0 :: l1 :: l2 :: l3 :: l4 :: some (.int x) :: L) st h Q = zG d 5 20 (l0 :: l1 :: l2 :: l3 :: l4 :: some (.int x) :: L) (.int x :: st) h Q := g_ldI rfl rfl
theorem g5_20 : zG d 5 20 L st h Q = zG d 5 21 L (.int 0 :: st) h Q := g_c rfl
theorem g5_21 (hT : (zT h a).1 = 0) : zG d 5 21 L [v2, v1, v0, .ref a] h Q = zCall d 6 [.ref a, v0, v1, v2] h (fun v h1 => zG d 5 24 L (zpush v []) h1 Q) := g_cV rfl rfl rfl rfl (Nat.le_of_ble_eq_true rfl) hT
theorem g5_24 : zG d 5 24 L [.int x] h Q = Q (some (.int x)) h := g_rI (ok := fun _ => True) rfl trivial
theorem k5 {x0 : Int32} {x1 : Int32} {x2 : Int32} {x3 : Int32} {x4 : Int32} : zCall (d + 1) 5 [.ref a, .int x0, .int x1, .int x2, .int x3, .int x4] h Q = zG d 5 0 [some (.ref a), some (.int x0), some (.int x1), some (.int x2), some (.int x3), some (.int x4)] [] h Q := zCall_k (Nat.le_of_ble_eq_true rfl) rfl
theorem g6_0 : zG d 6 0 (some (.ref a) :: L) st h Q = zG d 6 1 (some (.ref a) :: L) (.ref a :: st) h Q := g_ldA rfl rfl
theorem g6_1 : zG d 6 1 (some (.ref a) :: L) st h Q = zG d 6 2 (some (.ref a) :: L) (.ref a :: st) h Q := g_ldA rfl rfl
theorem g6_2 (hT : zT h a = (0, 5)) : zG d 6 2 L (.ref a :: st) h Q = zG d 6 5 L (.int (zI h a 4) :: st) h Q := g_gI rfl hT
theorem g6_5 : zG d 6 5 (l0 :: some (.int x) :: L) st h Q = zG d 6 6 (l0 :: some (.int x) :: L) (.int x :: st) h Q := g_ldI rfl rfl
theorem g6_6 : zG d 6 6 (l0 :: l1 :: some (.int x) :: L) st h Q = zG d 6 7 (l0 :: l1 :: some (.int x) :: L) (.int x :: st) h Q := g_ldI rfl rfl
theorem g6_7 : zG d 6 7 (l0 :: l1 :: l2 :: some (.int x) :: L) st h Q = zG d 6 8 (l0 :: l1 :: l2 :: some (.int x) :: L) (.int x :: st) h Q := g_ldI rfl rfl
theorem g6_8 (hT : (zT h a).1 = 0) : zG d 6 8 L [v3, v2, v1, v0, .ref a] h Q = zCall d 8 [.ref a, v0, v1, v2, v3] h (fun v h1 => zG d 6 11 L (zpush v []) h1 Q) := g_cV rfl rfl rfl rfl (Nat.le_of_ble_eq_true rfl) hT
theorem g6_11 : zG d 6 11 L [.int x] h Q = Q (some (.int x)) h := g_rI (ok := fun _ => True) rfl trivial
theorem k6 {x0 : Int32} {x1 : Int32} {x2 : Int32} : zCall (d + 1) 6 [.ref a, .int x0, .int x1, .int x2] h Q = zG d 6 0 [some (.ref a), some (.int x0), some (.int x1), some (.int x2)] [] h Q := zCall_k (Nat.le_of_ble_eq_true rfl) rfl
theorem g7_0 : zG d 7 0 (some (.ref a) :: L) st h Q = zG d 7 1 (some (.ref a) :: L) (.ref a :: st) h Q := g_ldA rfl rfl
theorem g7_1 : zG d 7 1 L st h Q = zG d 7 4 L (.ref 1000001 :: st) h Q := g_c rfl
theorem g7_4 : zG d 7 4 (l0 :: some (.int x) :: L) st h Q = zG d 7 5 (l0 :: some (.int x) :: L) (.int x :: st) h Q := g_ldI rfl rfl
theorem g7_5 (hT : (zT h b).1 = 30) (hi : zin i (zT h b).2) : zG d 7 5 L (.int i :: .ref b :: st) h Q = zG d 7 6 L (.int (zI h b i.toNatClampNeg) :: st) h Q := g_ia rfl hT hi
theorem g7_6 : zG d 7 6 (l0 :: l1 :: some (.int x) :: L) st h Q = zG d 7 7 (l0 :: l1 :: some (.int x) :: L) (.int x :: st) h Q := g_ldI rfl rfl
theorem g7_7 : zG d 7 7 (l0 :: l1 :: l2 :: some (.int x) :: L) st h Q = zG d 7 8 (l0 :: l1 :: l2 :: some (.int x) :: L) (.int x :: st) h Q := g_ldI rfl rfl
theorem g7_8 : zG d 7 8 (l0 :: l1 :: l2 :: l3 :: some (.int x) :: L) st h Q = zG d 7 10 (l0 :: l1 :: l2 :: l3 :: some (.int x) :: L) (.int x :: st) h Q := g_ldI rfl rfl
theorem g7_10 (hT : (zT h a).1 = 0) : zG d 7 10 L [v3, v2, v1, v0, .ref a] h Q = zCall d 8 [.ref a, v0, v1, v2, v3] h (fun v h1 => zG d 7 13 L (zpush v []) h1 Q) := g_cV rfl rfl rfl rfl (Nat.le_of_ble_eq_true rfl) hT
theorem g7_13 : zG d 7 13 L [.int x] h Q = Q (some (.int x)) h := g_rI (ok := fun _ => True) rfl trivial
theorem k7 {x0 : Int32} {x1 : Int32} {x2 : Int32} {x3 : Int32} : zCall (d + 1) 7 [.ref a, .int x0, .int x1, .int x2, .int x3] h Q = zG d 7 0 [some (.ref a), some (.int x0), some (.int x1), some (.int x2), some (.int x3)] [] h Q := zCall_k (Nat.le_of_ble_eq_true rfl) rfl
theorem g8_0 : zG d 8 0 (l0 :: some (.int x) :: L) st h Q = zG d 8 1 (l0 :: some (.int x) :: L) (.int x :: st) h Q := g_ldI rfl rfl
theorem g8_1 : zG d 8 1 (l0 :: l1 :: l2 :: l3 :: l4 :: l5 :: L) (.int x :: st) h Q = zG d 8 3 (l0 :: l1 :: l2 :: l3 :: kl l4 :: some (.int x) :: L) st h Q := g_stI rfl (by simp) rfl
theorem g8_3 : zG d 8 3 L st h Q = zG d 8 4 L (.int 0 :: st) h Q := g_c rfl
theorem g8_4 : zG d 8 4 (l0 :: l1 :: l2 :: l3 :: l4 :: l5 :: l6 :: L) (.int x :: st) h Q = zG d 8 6 (l0 :: l1 :: l2 :: l3 :: l4 :: kl l5 :: some (.int x) :: L) st h Q := g_stI rfl (by simp) rfl
theorem g8_6 : zG d 8 6 (l0 :: l1 :: l2 :: l3 :: l4 :: l5 :: some (.int x) :: L) st h Q = zG d 8 8 (l0 :: l1 :: l2 :: l3 :: l4 :: l5 :: some (.int x) :: L) (.int x :: st) h Q := g_ldI rfl rfl
theorem g8_8 : zG d 8 8 L st h Q = zG d 8 10 L (.int 7 :: st) h Q := g_c rfl
theorem g8_10 : zG d 8 10 L (.int z :: .int x :: st) h Q = if z ≤ x then zG d 8 77 L st h Q else zG d 8 13 L st h Q := g_i2 (P := fun x z => z ≤ x) rfl
theorem g8_13 : zG d 8 13 (l0 :: l1 :: l2 :: l3 :: l4 :: some (.int x) :: L) st h Q = zG d 8 15 (l0 :: l1 :: l2 :: l3 :: l4 :: some (.int x) :: L) (.int x :: st) h Q := g_ldI rfl rfl
theorem g8_15 : zG d 8 15 L st h Q = zG d 8 17 L (.int 6 :: st) h Q := g_c rfl
theorem g8_17 : zG d 8 17 L [v1, v0] h Q = zCall d 744 [v0, v1] h (fun v h1 => zG d 8 20 L (zpush v []) h1 Q) := g_cS rfl rfl (Nat.le_of_ble_eq_true rfl) rfl (Nat.le_of_ble_eq_true rfl)
theorem g8_20 : zG d 8 20 L (.int x :: st) h Q = if x = 0 then zG d 8 77 L st h Q else zG d 8 23 L st h Q := g_i1 (P := fun x => x = 0) rfl
theorem g8_23 : zG d 8 23 L st h Q = zG d 8 26 L (.ref 1000002 :: st) h Q := g_c rfl
theorem g8_26 : zG d 8 26 (l0 :: l1 :: l2 :: l3 :: l4 :: some (.int x) :: L) st h Q = zG d 8 28 (l0 :: l1 :: l2 :: l3 :: l4 :: some (.int x) :: L) (.int x :: st) h Q := g_ldI rfl rfl
theorem g8_28 : zG d 8 28 L st h Q = zG d 8 29 L (.int 3 :: st) h Q := g_c rfl
theorem g8_29 : zG d 8 29 L (.int z :: .int x :: st) h Q = zG d 8 30 L (.int (x * z) :: st) h Q := g_b (f := fun x z => x * z) rfl
theorem g8_30 : zG d 8 30 (l0 :: l1 :: some (.int x) :: L) st h Q = zG d 8 31 (l0 :: l1 :: some (.int x) :: L) (.int x :: st) h Q := g_ldI rfl rfl
theorem g8_31 : zG d 8 31 L (.int z :: .int x :: st) h Q = zG d 8 32 L (.int (x + z) :: st) h Q := g_b (f := fun x z => x + z) rfl
theorem g8_32 (hT : (zT h b).1 = 30) (hi : zin i (zT h b).2) : zG d 8 32 L (.int i :: .ref b :: st) h Q = zG d 8 33 L (.int (zI h b i.toNatClampNeg) :: st) h Q := g_ia rfl hT hi
theorem g8_33 : zG d 8 33 (l0 :: l1 :: l2 :: l3 :: l4 :: l5 :: l6 :: l7 :: L) (.int x :: st) h Q = zG d 8 35 (l0 :: l1 :: l2 :: l3 :: l4 :: l5 :: kl l6 :: some (.int x) :: L) st h Q := g_stI rfl (by simp) rfl
theorem g8_35 : zG d 8 35 (l0 :: l1 :: l2 :: l3 :: l4 :: l5 :: l6 :: some (.int x) :: L) st h Q = zG d 8 37 (l0 :: l1 :: l2 :: l3 :: l4 :: l5 :: l6 :: some (.int x) :: L) (.int x :: st) h Q := g_ldI rfl rfl
theorem g8_37 : zG d 8 37 L (.int x :: st) h Q = if x = 0 then zG d 8 63 L st h Q else zG d 8 40 L st h Q := g_i1 (P := fun x => x = 0) rfl
theorem g8_40 : zG d 8 40 (l0 :: l1 :: l2 :: l3 :: some (.int x) :: L) st h Q = zG d 8 42 (l0 :: l1 :: l2 :: l3 :: some (.int x) :: L) (.int x :: st) h Q := g_ldI rfl rfl
theorem g8_42 : zG d 8 42 L st h Q = zG d 8 44 L (.int 20 :: st) h Q := g_c rfl
theorem g8_44 : zG d 8 44 L (.int z :: .int x :: st) h Q = if z ≤ x then zG d 8 61 L st h Q else zG d 8 47 L st h Q := g_i2 (P := fun x z => z ≤ x) rfl
theorem g8_47 : zG d 8 47 (some (.ref a) :: L) st h Q = zG d 8 48 (some (.ref a) :: L) (.ref a :: st) h Q := g_ldA rfl rfl
theorem g8_48 : zG d 8 48 (l0 :: l1 :: l2 :: l3 :: l4 :: l5 :: l6 :: some (.int x) :: L) st h Q = zG d 8 50 (l0 :: l1 :: l2 :: l3 :: l4 :: l5 :: l6 :: some (.int x) :: L) (.int x :: st) h Q := g_ldI rfl rfl
theorem g8_50 : zG d 8 50 (l0 :: l1 :: l2 :: some (.int x) :: L) st h Q = zG d 8 51 (l0 :: l1 :: l2 :: some (.int x) :: L) (.int x :: st) h Q := g_ldI rfl rfl
theorem g8_51 : zG d 8 51 (l0 :: l1 :: l2 :: l3 :: some (.int x) :: L) st h Q = zG d 8 53 (l0 :: l1 :: l2 :: l3 :: some (.int x) :: L) (.int x :: st) h Q := g_ldI rfl rfl
theorem g8_53 : zG d 8 53 L st h Q = zG d 8 54 L (.int 1 :: st) h Q := g_c rfl
theorem g8_54 : zG d 8 54 L (.int z :: .int x :: st) h Q = zG d 8 55 L (.int (x + z) :: st) h Q := g_b (f := fun x z => x + z) rfl
theorem g8_55 (hT : (zT h a).1 = 0) : zG d 8 55 L [v2, v1, v0, .ref a] h Q = zCall d 9 [.ref a, v0, v1, v2] h (fun v h1 => zG d 8 58 L (zpush v []) h1 Q) := g_cV rfl rfl rfl rfl (Nat.le_of_ble_eq_true rfl) hT
theorem g8_58 : zG d 8 58 L st h Q = zG d 8 62 L st h Q := g_go rfl
theorem g8_61 : zG d 8 61 L st h Q = zG d 8 62 L (.int 0 :: st) h Q := g_c rfl
theorem g8_62 : zG d 8 62 L [.int x] h Q = Q (some (.int x)) h := g_rI (ok := fun _ => True) rfl trivial
theorem g8_63 : zG d 8 63 L st h Q = zG d 8 66 L (.ref 1000001 :: st) h Q := g_c rfl
theorem g8_66 : zG d 8 66 (l0 :: l1 :: l2 :: l3 :: l4 :: some (.int x) :: L) st h Q = zG d 8 68 (l0 :: l1 :: l2 :: l3 :: l4 :: some (.int x) :: L) (.int x :: st) h Q := g_ldI rfl rfl
theorem g8_68 (hT : (zT h b).1 = 30) (hi : zin i (zT h b).2) : zG d 8 68 L (.int i :: .ref b :: st) h Q = zG d 8 69 L (.int (zI h b i.toNatClampNeg) :: st) h Q := g_ia rfl hT hi
theorem g8_69 : zG d 8 69 (l0 :: l1 :: l2 :: l3 :: l4 :: l5 :: L) (.int x :: st) h Q = zG d 8 71 (l0 :: l1 :: l2 :: l3 :: kl l4 :: some (.int x) :: L) st h Q := g_stI rfl (by simp) rfl
theorem g8_71 : zG d 8 71 (l0 :: l1 :: l2 :: l3 :: l4 :: l5 :: some (.int x) :: L) st h Q = zG d 8 74 (l0 :: l1 :: l2 :: l3 :: l4 :: kl l5 :: some (.int (x + 1)) :: L) st h Q := g_inc rfl rfl rfl
theorem g8_74 : zG d 8 74 L st h Q = zG d 8 6 L st h Q := g_go rfl
theorem g8_77 : zG d 8 77 L st h Q = zG d 8 78 L (.int 0 :: st) h Q := g_c rfl
theorem g8_78 : zG d 8 78 L [.int x] h Q = Q (some (.int x)) h := g_rI (ok := fun _ => True) rfl trivial
theorem k8 {x0 : Int32} {x1 : Int32} {x2 : Int32} {x3 : Int32} : zCall (d + 1) 8 [.ref a, .int x0, .int x1, .int x2, .int x3] h Q = zG d 8 0 [some (.ref a), some (.int x0), some (.int x1), some (.int x2), some (.int x3), none, none, none] [] h Q := zCall_k (Nat.le_of_ble_eq_true rfl) rfl
theorem g9_0 : zG d 9 0 (some (.ref a) :: L) st h Q = zG d 9 1 (some (.ref a) :: L) (.ref a :: st) h Q := g_ldA rfl rfl
theorem g9_1 (hT : zT h a = (0, 5)) : zG d 9 1 L (.ref a :: st) h Q = zG d 9 4 L (.int (zI h a 1) :: st) h Q := g_gI rfl hT
theorem g9_4 : zG d 9 4 L st h Q = zG d 9 6 L (.int 20 :: st) h Q := g_c rfl
theorem g9_6 : zG d 9 6 L (.int z :: .int x :: st) h Q = if z ≤ x then zG d 9 19 L st h Q else zG d 9 9 L st h Q := g_i2 (P := fun x z => z ≤ x) rfl
theorem g9_9 : zG d 9 9 (some (.ref a) :: L) st h Q = zG d 9 10 (some (.ref a) :: L) (.ref a :: st) h Q := g_ldA rfl rfl
theorem g9_10 (hT : zT h a = (0, 5)) : zG d 9 10 L (.ref a :: st) h Q = zG d 9 13 L (zR h a 0 :: st) h Q := g_gR rfl hT
theorem g9_13 : zG d 9 13 (some (.ref a) :: L) st h Q = zG d 9 14 (some (.ref a) :: L) (.ref a :: st) h Q := g_ldA rfl rfl
theorem g9_14 (hT : zT h a = (0, 5)) : zG d 9 14 L (.ref a :: st) h Q = zG d 9 17 L (.int (zI h a 1) :: st) h Q := g_gI rfl hT
theorem g9_17 : zG d 9 17 (l0 :: some (.int x) :: L) st h Q = zG d 9 18 (l0 :: some (.int x) :: L) (.int x :: st) h Q := g_ldI rfl rfl
theorem g9_18 (hT : (zT h b).1 = 20) (hi : zin i (zT h b).2) : zG d 9 18 L (.int x :: .int i :: .ref b :: st) h Q = zG d 9 19 L st (wI h b i.toNatClampNeg (x)) Q := g_is (f1 := fun x => x) rfl hT hi
theorem g9_19 : zG d 9 19 (some (.ref a) :: L) st h Q = zG d 9 20 (some (.ref a) :: L) (.ref a :: st) h Q := g_ldA rfl rfl
theorem g9_20 : zG d 9 20 L (.ref a :: st) h Q = zG d 9 21 L (.ref a :: .ref a :: st) h Q := g_dupA rfl
theorem g9_21 (hT : zT h a = (0, 5)) : zG d 9 21 L (.ref a :: st) h Q = zG d 9 24 L (.int (zI h a 1) :: st) h Q := g_gI rfl hT
theorem g9_24 : zG d 9 24 L st h Q = zG d 9 25 L (.int 1 :: st) h Q := g_c rfl
theorem g9_25 : zG d 9 25 L (.int z :: .int x :: st) h Q = zG d 9 26 L (.int (x + z) :: st) h Q := g_b (f := fun x z => x + z) rfl
theorem g9_26 (hT : zT h a = (0, 5)) : zG d 9 26 L (.int x :: .ref a :: st) h Q = zG d 9 29 L st (wI h a 1 x) Q := g_pI rfl hT
theorem g9_29 : zG d 9 29 (l0 :: some (.int x) :: L) st h Q = zG d 9 30 (l0 :: some (.int x) :: L) (.int x :: st) h Q := g_ldI rfl rfl
theorem g9_30 : zG d 9 30 L (.int x :: st) h Q = if x = 10 then zG d 9 128 L st h Q else if x = 11 then zG d 9 135 L st h Q else if x = 12 then zG d 9 148 L st h Q else if x = 20 then zG d 9 158 L st h Q else if x = 30 then zG d 9 170 L st h Q else if x = 40 then zG d 9 181 L st h Q else if x = 50 then zG d 9 198 L st h Q else if x = 51 then zG d 9 208 L st h Q else if x = 60 then zG d 9 219 L st h Q else if x = 70 then zG d 9 233 L st h Q else if x = 71 then zG d 9 253 L st h Q else zG d 9 268 L st h Q := g_sw (c := 268) (ps := [(10, 128), (11, 135), (12, 148), (20, 158), (30, 170), (40, 181), (50, 198), (51, 208), (60, 219), (70, 233), (71, 253)]) rfl
theorem g9_128 : zG d 9 128 (l0 :: l1 :: some (.int x) :: L) st h Q = zG d 9 129 (l0 :: l1 :: some (.int x) :: L) (.int x :: st) h Q := g_ldI rfl rfl
theorem g9_129 : zG d 9 129 (some (.ref a) :: L) st h Q = zG d 9 130 (some (.ref a) :: L) (.ref a :: st) h Q := g_ldA rfl rfl
theorem g9_130 (hT : zT h a = (0, 5)) : zG d 9 130 L (.ref a :: st) h Q = zG d 9 133 L (.int (zI h a 2) :: st) h Q := g_gI rfl hT
theorem g9_133 : zG d 9 133 L (.int z :: .int x :: st) h Q = zG d 9 134 L (.int (x + z) :: st) h Q := g_b (f := fun x z => x + z) rfl
theorem g9_134 : zG d 9 134 L [.int x] h Q = Q (some (.int x)) h := g_rI (ok := fun _ => True) rfl trivial
theorem g9_135 : zG d 9 135 (some (.ref a) :: L) st h Q = zG d 9 136 (some (.ref a) :: L) (.ref a :: st) h Q := g_ldA rfl rfl
theorem g9_136 : zG d 9 136 L st h Q = zG d 9 137 L (.int 0 :: st) h Q := g_c rfl
theorem g9_137 : zG d 9 137 (l0 :: l1 :: some (.int x) :: L) st h Q = zG d 9 138 (l0 :: l1 :: some (.int x) :: L) (.int x :: st) h Q := g_ldI rfl rfl
theorem g9_138 : zG d 9 138 (l0 :: l1 :: l2 :: some (.int x) :: L) st h Q = zG d 9 139 (l0 :: l1 :: l2 :: some (.int x) :: L) (.int x :: st) h Q := g_ldI rfl rfl
theorem g9_139 (hT : (zT h a).1 = 0) : zG d 9 139 L [v2, v1, v0, .ref a] h Q = zCall d 6 [.ref a, v0, v1, v2] h (fun v h1 => zG d 9 142 L (zpush v []) h1 Q) := g_cV rfl rfl rfl rfl (Nat.le_of_ble_eq_true rfl) hT
theorem g9_142 : zG d 9 142 (some (.ref a) :: L) st h Q = zG d 9 143 (some (.ref a) :: L) (.ref a :: st) h Q := g_ldA rfl rfl
theorem g9_143 (hT : zT h a = (0, 5)) : zG d 9 143 L (.ref a :: st) h Q = zG d 9 146 L (.int (zI h a 3) :: st) h Q := g_gI rfl hT
theorem g9_146 : zG d 9 146 L (.int z :: .int x :: st) h Q = zG d 9 147 L (.int (x - z) :: st) h Q := g_b (f := fun x z => x - z) rfl
theorem g9_147 : zG d 9 147 L [.int x] h Q = Q (some (.int x)) h := g_rI (ok := fun _ => True) rfl trivial
theorem g9_148 : zG d 9 148 (some (.ref a) :: L) st h Q = zG d 9 149 (some (.ref a) :: L) (.ref a :: st) h Q := g_ldA rfl rfl
theorem g9_149 : zG d 9 149 L st h Q = zG d 9 150 L (.int 1 :: st) h Q := g_c rfl
theorem g9_150 : zG d 9 150 (l0 :: l1 :: some (.int x) :: L) st h Q = zG d 9 151 (l0 :: l1 :: some (.int x) :: L) (.int x :: st) h Q := g_ldI rfl rfl
theorem g9_151 : zG d 9 151 (l0 :: l1 :: l2 :: some (.int x) :: L) st h Q = zG d 9 152 (l0 :: l1 :: l2 :: some (.int x) :: L) (.int x :: st) h Q := g_ldI rfl rfl
theorem g9_152 (hT : (zT h a).1 = 0) : zG d 9 152 L [v2, v1, v0, .ref a] h Q = zCall d 6 [.ref a, v0, v1, v2] h (fun v h1 => zG d 9 155 L (zpush v []) h1 Q) := g_cV rfl rfl rfl rfl (Nat.le_of_ble_eq_true rfl) hT
theorem g9_155 : zG d 9 155 L st h Q = zG d 9 156 L (.int 2 :: st) h Q := g_c rfl
theorem g9_156 : zG d 9 156 L (.int z :: .int x :: st) h Q = zG d 9 157 L (.int (x * z) :: st) h Q := g_b (f := fun x z => x * z) rfl
theorem g9_157 : zG d 9 157 L [.int x] h Q = Q (some (.int x)) h := g_rI (ok := fun _ => True) rfl trivial
theorem g9_158 : zG d 9 158 (some (.ref a) :: L) st h Q = zG d 9 159 (some (.ref a) :: L) (.ref a :: st) h Q := g_ldA rfl rfl
theorem g9_159 : zG d 9 159 L st h Q = zG d 9 160 L (.int 1 :: st) h Q := g_c rfl
theorem g9_160 : zG d 9 160 L st h Q = zG d 9 161 L (.int 1 :: st) h Q := g_c rfl
theorem g9_161 : zG d 9 161 (l0 :: l1 :: some (.int x) :: L) st h Q = zG d 9 162 (l0 :: l1 :: some (.int x) :: L) (.int x :: st) h Q := g_ldI rfl rfl
theorem g9_162 : zG d 9 162 (l0 :: l1 :: l2 :: some (.int x) :: L) st h Q = zG d 9 163 (l0 :: l1 :: l2 :: some (.int x) :: L) (.int x :: st) h Q := g_ldI rfl rfl
theorem g9_163 (hT : (zT h a).1 = 0) : zG d 9 163 L [v3, v2, v1, v0, .ref a] h Q = zCall d 7 [.ref a, v0, v1, v2, v3] h (fun v h1 => zG d 9 166 L (zpush v []) h1 Q) := g_cV rfl rfl rfl rfl (Nat.le_of_ble_eq_true rfl) hT
theorem g9_166 : zG d 9 166 L st h Q = zG d 9 168 L (.int 6 :: st) h Q := g_c rfl
theorem g9_168 : zG d 9 168 L (.int z :: .int x :: st) h Q = zG d 9 169 L (.int (x ^^^ z) :: st) h Q := g_b (f := fun x z => x ^^^ z) rfl
theorem g9_169 : zG d 9 169 L [.int x] h Q = Q (some (.int x)) h := g_rI (ok := fun _ => True) rfl trivial
theorem g9_170 : zG d 9 170 (some (.ref a) :: L) st h Q = zG d 9 171 (some (.ref a) :: L) (.ref a :: st) h Q := g_ldA rfl rfl
theorem g9_171 : zG d 9 171 L st h Q = zG d 9 172 L (.int 2 :: st) h Q := g_c rfl
theorem g9_172 : zG d 9 172 L st h Q = zG d 9 173 L (.int 0 :: st) h Q := g_c rfl
theorem g9_173 : zG d 9 173 (l0 :: l1 :: some (.int x) :: L) st h Q = zG d 9 174 (l0 :: l1 :: some (.int x) :: L) (.int x :: st) h Q := g_ldI rfl rfl
theorem g9_174 : zG d 9 174 L st h Q = zG d 9 175 L (.int 3 :: st) h Q := g_c rfl
theorem g9_175 : zG d 9 175 L (.int z :: .int x :: st) h Q = zG d 9 176 L (.int (x * z) :: st) h Q := g_b (f := fun x z => x * z) rfl
theorem g9_176 : zG d 9 176 (l0 :: l1 :: l2 :: some (.int x) :: L) st h Q = zG d 9 177 (l0 :: l1 :: l2 :: some (.int x) :: L) (.int x :: st) h Q := g_ldI rfl rfl
theorem g9_177 (hT : (zT h a).1 = 0) : zG d 9 177 L [v3, v2, v1, v0, .ref a] h Q = zCall d 7 [.ref a, v0, v1, v2, v3] h (fun v h1 => zG d 9 180 L (zpush v []) h1 Q) := g_cV rfl rfl rfl rfl (Nat.le_of_ble_eq_true rfl) hT
theorem g9_180 : zG d 9 180 L [.int x] h Q = Q (some (.int x)) h := g_rI (ok := fun _ => True) rfl trivial
theorem g9_181 : zG d 9 181 (some (.ref a) :: L) st h Q = zG d 9 182 (some (.ref a) :: L) (.ref a :: st) h Q := g_ldA rfl rfl
theorem g9_182 : zG d 9 182 L st h Q = zG d 9 183 L (.int 3 :: st) h Q := g_c rfl
theorem g9_183 : zG d 9 183 L st h Q = zG d 9 184 L (.int 2 :: st) h Q := g_c rfl
theorem g9_184 : zG d 9 184 (l0 :: l1 :: some (.int x) :: L) st h Q = zG d 9 185 (l0 :: l1 :: some (.int x) :: L) (.int x :: st) h Q := g_ldI rfl rfl
theorem g9_185 : zG d 9 185 (l0 :: l1 :: l2 :: some (.int x) :: L) st h Q = zG d 9 186 (l0 :: l1 :: l2 :: some (.int x) :: L) (.int x :: st) h Q := g_ldI rfl rfl
theorem g9_186 (hT : (zT h a).1 = 0) : zG d 9 186 L [v3, v2, v1, v0, .ref a] h Q = zCall d 7 [.ref a, v0, v1, v2, v3] h (fun v h1 => zG d 9 189 L (zpush v []) h1 Q) := g_cV rfl rfl rfl rfl (Nat.le_of_ble_eq_true rfl) hT
theorem g9_189 : zG d 9 189 (some (.ref a) :: L) st h Q = zG d 9 190 (some (.ref a) :: L) (.ref a :: st) h Q := g_ldA rfl rfl
theorem g9_190 : zG d 9 190 L st h Q = zG d 9 191 L (.int 1 :: st) h Q := g_c rfl
theorem g9_191 : zG d 9 191 L st h Q = zG d 9 192 L (.int 1 :: st) h Q := g_c rfl
theorem g9_192 : zG d 9 192 (l0 :: l1 :: l2 :: some (.int x) :: L) st h Q = zG d 9 193 (l0 :: l1 :: l2 :: some (.int x) :: L) (.int x :: st) h Q := g_ldI rfl rfl
theorem g9_193 {s0 : Int32} (hT : (zT h a).1 = 0) : zG d 9 193 L [v2, v1, v0, .ref a, .int s0] h Q = zCall d 6 [.ref a, v0, v1, v2] h (fun v h1 => zG d 9 196 L (zpush v [.int s0]) h1 Q) := g_cV rfl rfl rfl rfl (Nat.le_of_ble_eq_true rfl) hT
theorem g9_196 : zG d 9 196 L (.int z :: .int x :: st) h Q = zG d 9 197 L (.int (x + z) :: st) h Q := g_b (f := fun x z => x + z) rfl
theorem g9_197 : zG d 9 197 L [.int x] h Q = Q (some (.int x)) h := g_rI (ok := fun _ => True) rfl trivial
theorem g9_198 : zG d 9 198 (some (.ref a) :: L) st h Q = zG d 9 199 (some (.ref a) :: L) (.ref a :: st) h Q := g_ldA rfl rfl
theorem g9_199 : zG d 9 199 L st h Q = zG d 9 200 L (.int 4 :: st) h Q := g_c rfl
theorem g9_200 : zG d 9 200 L st h Q = zG d 9 201 L (.int 0 :: st) h Q := g_c rfl
theorem g9_201 : zG d 9 201 (l0 :: l1 :: some (.int x) :: L) st h Q = zG d 9 202 (l0 :: l1 :: some (.int x) :: L) (.int x :: st) h Q := g_ldI rfl rfl
theorem g9_202 : zG d 9 202 (l0 :: l1 :: l2 :: some (.int x) :: L) st h Q = zG d 9 203 (l0 :: l1 :: l2 :: some (.int x) :: L) (.int x :: st) h Q := g_ldI rfl rfl
theorem g9_203 (hT : (zT h a).1 = 0) : zG d 9 203 L [v3, v2, v1, v0, .ref a] h Q = zCall d 7 [.ref a, v0, v1, v2, v3] h (fun v h1 => zG d 9 206 L (zpush v []) h1 Q) := g_cV rfl rfl rfl rfl (Nat.le_of_ble_eq_true rfl) hT
theorem g9_206 : zG d 9 206 L (.int x :: st) h Q = zG d 9 207 L (.int (-x) :: st) h Q := g_u (f1 := fun x => -x) rfl
theorem g9_207 : zG d 9 207 L [.int x] h Q = Q (some (.int x)) h := g_rI (ok := fun _ => True) rfl trivial
theorem g9_208 : zG d 9 208 (some (.ref a) :: L) st h Q = zG d 9 209 (some (.ref a) :: L) (.ref a :: st) h Q := g_ldA rfl rfl
theorem g9_209 : zG d 9 209 L st h Q = zG d 9 210 L (.int 4 :: st) h Q := g_c rfl
theorem g9_210 : zG d 9 210 L st h Q = zG d 9 211 L (.int 1 :: st) h Q := g_c rfl
theorem g9_211 : zG d 9 211 (l0 :: l1 :: some (.int x) :: L) st h Q = zG d 9 212 (l0 :: l1 :: some (.int x) :: L) (.int x :: st) h Q := g_ldI rfl rfl
theorem g9_212 : zG d 9 212 L st h Q = zG d 9 213 L (.int 1 :: st) h Q := g_c rfl
theorem g9_213 : zG d 9 213 L (.int z :: .int x :: st) h Q = zG d 9 214 L (.int (x + z) :: st) h Q := g_b (f := fun x z => x + z) rfl
theorem g9_214 : zG d 9 214 (l0 :: l1 :: l2 :: some (.int x) :: L) st h Q = zG d 9 215 (l0 :: l1 :: l2 :: some (.int x) :: L) (.int x :: st) h Q := g_ldI rfl rfl
theorem g9_215 (hT : (zT h a).1 = 0) : zG d 9 215 L [v3, v2, v1, v0, .ref a] h Q = zCall d 7 [.ref a, v0, v1, v2, v3] h (fun v h1 => zG d 9 218 L (zpush v []) h1 Q) := g_cV rfl rfl rfl rfl (Nat.le_of_ble_eq_true rfl) hT
theorem g9_218 : zG d 9 218 L [.int x] h Q = Q (some (.int x)) h := g_rI (ok := fun _ => True) rfl trivial
theorem g9_219 : zG d 9 219 (some (.ref a) :: L) st h Q = zG d 9 220 (some (.ref a) :: L) (.ref a :: st) h Q := g_ldA rfl rfl
theorem g9_220 : zG d 9 220 L st h Q = zG d 9 221 L (.int 5 :: st) h Q := g_c rfl
theorem g9_221 : zG d 9 221 L st h Q = zG d 9 222 L (.int 2 :: st) h Q := g_c rfl
theorem g9_222 : zG d 9 222 (l0 :: l1 :: some (.int x) :: L) st h Q = zG d 9 223 (l0 :: l1 :: some (.int x) :: L) (.int x :: st) h Q := g_ldI rfl rfl
theorem g9_223 : zG d 9 223 (some (.ref a) :: L) st h Q = zG d 9 224 (some (.ref a) :: L) (.ref a :: st) h Q := g_ldA rfl rfl
theorem g9_224 (hT : zT h a = (0, 5)) : zG d 9 224 L (.ref a :: st) h Q = zG d 9 227 L (.int (zI h a 2) :: st) h Q := g_gI rfl hT
theorem g9_227 : zG d 9 227 L (.int z :: .int x :: st) h Q = zG d 9 228 L (.int (x - z) :: st) h Q := g_b (f := fun x z => x - z) rfl
theorem g9_228 : zG d 9 228 (l0 :: l1 :: l2 :: some (.int x) :: L) st h Q = zG d 9 229 (l0 :: l1 :: l2 :: some (.int x) :: L) (.int x :: st) h Q := g_ldI rfl rfl
theorem g9_229 (hT : (zT h a).1 = 0) : zG d 9 229 L [v3, v2, v1, v0, .ref a] h Q = zCall d 7 [.ref a, v0, v1, v2, v3] h (fun v h1 => zG d 9 232 L (zpush v []) h1 Q) := g_cV rfl rfl rfl rfl (Nat.le_of_ble_eq_true rfl) hT
theorem g9_232 : zG d 9 232 L [.int x] h Q = Q (some (.int x)) h := g_rI (ok := fun _ => True) rfl trivial
theorem g9_233 : zG d 9 233 (some (.ref a) :: L) st h Q = zG d 9 234 (some (.ref a) :: L) (.ref a :: st) h Q := g_ldA rfl rfl
theorem g9_234 : zG d 9 234 L st h Q = zG d 9 236 L (.int 6 :: st) h Q := g_c rfl
theorem g9_236 : zG d 9 236 L st h Q = zG d 9 237 L (.int 1 :: st) h Q := g_c rfl
theorem g9_237 : zG d 9 237 (l0 :: l1 :: some (.int x) :: L) st h Q = zG d 9 238 (l0 :: l1 :: some (.int x) :: L) (.int x :: st) h Q := g_ldI rfl rfl
theorem g9_238 : zG d 9 238 (l0 :: l1 :: l2 :: some (.int x) :: L) st h Q = zG d 9 239 (l0 :: l1 :: l2 :: some (.int x) :: L) (.int x :: st) h Q := g_ldI rfl rfl
theorem g9_239 (hT : (zT h a).1 = 0) : zG d 9 239 L [v3, v2, v1, v0, .ref a] h Q = zCall d 7 [.ref a, v0, v1, v2, v3] h (fun v h1 => zG d 9 242 L (zpush v []) h1 Q) := g_cV rfl rfl rfl rfl (Nat.le_of_ble_eq_true rfl) hT
theorem g9_242 : zG d 9 242 (some (.ref a) :: L) st h Q = zG d 9 243 (some (.ref a) :: L) (.ref a :: st) h Q := g_ldA rfl rfl
theorem g9_243 : zG d 9 243 L st h Q = zG d 9 245 L (.int 6 :: st) h Q := g_c rfl
theorem g9_245 : zG d 9 245 L st h Q = zG d 9 246 L (.int 0 :: st) h Q := g_c rfl
theorem g9_246 : zG d 9 246 L st h Q = zG d 9 247 L (.int 2 :: st) h Q := g_c rfl
theorem g9_247 : zG d 9 247 (l0 :: l1 :: l2 :: some (.int x) :: L) st h Q = zG d 9 248 (l0 :: l1 :: l2 :: some (.int x) :: L) (.int x :: st) h Q := g_ldI rfl rfl
theorem g9_248 {s0 : Int32} (hT : (zT h a).1 = 0) : zG d 9 248 L [v3, v2, v1, v0, .ref a, .int s0] h Q = zCall d 7 [.ref a, v0, v1, v2, v3] h (fun v h1 => zG d 9 251 L (zpush v [.int s0]) h1 Q) := g_cV rfl rfl rfl rfl (Nat.le_of_ble_eq_true rfl) hT
theorem g9_251 : zG d 9 251 L (.int z :: .int x :: st) h Q = zG d 9 252 L (.int (x + z) :: st) h Q := g_b (f := fun x z => x + z) rfl
theorem g9_252 : zG d 9 252 L [.int x] h Q = Q (some (.int x)) h := g_rI (ok := fun _ => True) rfl trivial
theorem g9_253 : zG d 9 253 (some (.ref a) :: L) st h Q = zG d 9 254 (some (.ref a) :: L) (.ref a :: st) h Q := g_ldA rfl rfl
theorem g9_254 : zG d 9 254 L st h Q = zG d 9 256 L (.int 6 :: st) h Q := g_c rfl
theorem g9_256 : zG d 9 256 L st h Q = zG d 9 257 L (.int 0 :: st) h Q := g_c rfl
theorem g9_257 : zG d 9 257 (l0 :: l1 :: some (.int x) :: L) st h Q = zG d 9 258 (l0 :: l1 :: some (.int x) :: L) (.int x :: st) h Q := g_ldI rfl rfl
theorem g9_258 : zG d 9 258 (l0 :: l1 :: l2 :: some (.int x) :: L) st h Q = zG d 9 259 (l0 :: l1 :: l2 :: some (.int x) :: L) (.int x :: st) h Q := g_ldI rfl rfl
theorem g9_259 (hT : (zT h a).1 = 0) : zG d 9 259 L [v3, v2, v1, v0, .ref a] h Q = zCall d 7 [.ref a, v0, v1, v2, v3] h (fun v h1 => zG d 9 262 L (zpush v []) h1 Q) := g_cV rfl rfl rfl rfl (Nat.le_of_ble_eq_true rfl) hT
theorem g9_262 : zG d 9 262 (some (.ref a) :: L) st h Q = zG d 9 263 (some (.ref a) :: L) (.ref a :: st) h Q := g_ldA rfl rfl
theorem g9_263 (hT : zT h a = (0, 5)) : zG d 9 263 L (.ref a :: st) h Q = zG d 9 266 L (.int (zI h a 3) :: st) h Q := g_gI rfl hT
theorem g9_266 : zG d 9 266 L (.int z :: .int x :: st) h Q = zG d 9 267 L (.int (x ^^^ z) :: st) h Q := g_b (f := fun x z => x ^^^ z) rfl
theorem g9_267 : zG d 9 267 L [.int x] h Q = Q (some (.int x)) h := g_rI (ok := fun _ => True) rfl trivial
theorem g9_268 : zG d 9 268 L st h Q = zG d 9 269 L (.int 0 :: st) h Q := g_c rfl
theorem g9_269 : zG d 9 269 L [.int x] h Q = Q (some (.int x)) h := g_rI (ok := fun _ => True) rfl trivial
theorem k9 {x0 : Int32} {x1 : Int32} {x2 : Int32} : zCall (d + 1) 9 [.ref a, .int x0, .int x1, .int x2] h Q = zG d 9 0 [some (.ref a), some (.int x0), some (.int x1), some (.int x2)] [] h Q := zCall_k (Nat.le_of_ble_eq_true rfl) rfl
theorem g101_0 : zG d 101 0 (some (.ref a) :: L) st h Q = zG d 101 1 (some (.ref a) :: L) (.ref a :: st) h Q := g_ldA rfl rfl
theorem g101_1 (hT : (zT h a).1 < 20) : zG d 101 1 L [.ref a] h Q = zG d 101 4 L [] h Q := g_oi rfl hT
theorem g101_4 : zG d 101 4 (some (.ref a) :: L) st h Q = zG d 101 5 (some (.ref a) :: L) (.ref a :: st) h Q := g_ldA rfl rfl
theorem g101_5 : zG d 101 5 L st h Q = zG d 101 8 L (.ref (zN h) :: st) (wN h (3, 4)) Q := g_new rfl
theorem g101_8 : zG d 101 8 L (.ref a :: st) h Q = zG d 101 9 L (.ref a :: .ref a :: st) h Q := g_dupA rfl
theorem g101_9 : zG d 101 9 L st h Q = zG d 101 10 L (.int 5 :: st) h Q := g_c rfl
theorem g101_10 {s0 s1 : Nat} (hT : (zT h a).1 < 20) : zG d 101 10 L [v0, .ref a, .ref s0, .ref s1] h Q = zCall d 301 [.ref a, v0] h (fun v h1 => zG d 101 13 L (zpush v [.ref s0, .ref s1]) h1 Q) := g_cI rfl rfl rfl rfl (Nat.le_of_ble_eq_true rfl) hT
theorem g101_13 (hT : zT h a = (1, 3)) : zG d 101 13 L (.ref b :: .ref a :: st) h Q = zG d 101 16 L st (wR h a 0 (.ref b)) Q := g_pR rfl hT
theorem g101_13_n (hT : zT h a = (1, 3)) : zG d 101 13 L (.null :: .ref a :: st) h Q = zG d 101 16 L st (wR h a 0 .null) Q := g_pR0 rfl hT
theorem g101_16 : zG d 101 16 (some (.ref a) :: L) st h Q = zG d 101 17 (some (.ref a) :: L) (.ref a :: st) h Q := g_ldA rfl rfl
theorem g101_17 : zG d 101 17 L st h Q = zG d 101 20 L (.ref (zN h) :: st) (wN h (3, 4)) Q := g_new rfl
theorem g101_20 : zG d 101 20 L (.ref a :: st) h Q = zG d 101 21 L (.ref a :: .ref a :: st) h Q := g_dupA rfl
theorem g101_21 : zG d 101 21 L st h Q = zG d 101 23 L (.int 10 :: st) h Q := g_c rfl
theorem g101_23 {s0 s1 : Nat} (hT : (zT h a).1 < 20) : zG d 101 23 L [v0, .ref a, .ref s0, .ref s1] h Q = zCall d 301 [.ref a, v0] h (fun v h1 => zG d 101 26 L (zpush v [.ref s0, .ref s1]) h1 Q) := g_cI rfl rfl rfl rfl (Nat.le_of_ble_eq_true rfl) hT
theorem g101_26 (hT : zT h a = (1, 3)) : zG d 101 26 L (.ref b :: .ref a :: st) h Q = zG d 101 29 L st (wR h a 1 (.ref b)) Q := g_pR rfl hT
theorem g101_26_n (hT : zT h a = (1, 3)) : zG d 101 26 L (.null :: .ref a :: st) h Q = zG d 101 29 L st (wR h a 1 .null) Q := g_pR0 rfl hT
theorem g101_29 : zG d 101 29 (some (.ref a) :: L) st h Q = zG d 101 30 (some (.ref a) :: L) (.ref a :: st) h Q := g_ldA rfl rfl
theorem g101_30 : zG d 101 30 L st h Q = zG d 101 33 L (.ref (zN h) :: st) (wN h (3, 4)) Q := g_new rfl
theorem g101_33 : zG d 101 33 L (.ref a :: st) h Q = zG d 101 34 L (.ref a :: .ref a :: st) h Q := g_dupA rfl
theorem g101_34 : zG d 101 34 L st h Q = zG d 101 36 L (.int 8 :: st) h Q := g_c rfl
theorem g101_36 {s0 s1 : Nat} (hT : (zT h a).1 < 20) : zG d 101 36 L [v0, .ref a, .ref s0, .ref s1] h Q = zCall d 301 [.ref a, v0] h (fun v h1 => zG d 101 39 L (zpush v [.ref s0, .ref s1]) h1 Q) := g_cI rfl rfl rfl rfl (Nat.le_of_ble_eq_true rfl) hT
theorem g101_39 (hT : zT h a = (1, 3)) : zG d 101 39 L (.ref b :: .ref a :: st) h Q = zG d 101 42 L st (wR h a 2 (.ref b)) Q := g_pR rfl hT
theorem g101_39_n (hT : zT h a = (1, 3)) : zG d 101 39 L (.null :: .ref a :: st) h Q = zG d 101 42 L st (wR h a 2 .null) Q := g_pR0 rfl hT
theorem g101_42 : zG d 101 42 L [] h Q = Q none h := g_rV rfl
theorem k101  : zCall (d + 1) 101 [.ref a] h Q = zG d 101 0 [some (.ref a)] [] h Q := zCall_k (Nat.le_of_ble_eq_true rfl) rfl
theorem g102_0 : zG d 102 0 (some (.ref a) :: L) st h Q = zG d 102 1 (some (.ref a) :: L) (.ref a :: st) h Q := g_ldA rfl rfl
theorem g102_1 (hT : zT h a = (1, 3)) : zG d 102 1 L (.ref a :: st) h Q = zG d 102 4 L (zR h a 0 :: st) h Q := g_gR rfl hT
theorem g102_4 : zG d 102 4 (l0 :: some (.ref a) :: L) st h Q = zG d 102 5 (l0 :: some (.ref a) :: L) (.ref a :: st) h Q := g_ldA rfl rfl
theorem g102_5 (hT : zT h a = (1, 3)) : zG d 102 5 L (.ref a :: st) h Q = zG d 102 8 L (zR h a 0 :: st) h Q := g_gR rfl hT
theorem g102_8 (hT : (zT h a).1 = 3) : zG d 102 8 L [v0, .ref a] h Q = zCall d 304 [.ref a, v0] h (fun v h1 => zG d 102 11 L (zpush v []) h1 Q) := g_cV rfl rfl rfl rfl (Nat.le_of_ble_eq_true rfl) hT
theorem g102_11 : zG d 102 11 (some (.ref a) :: L) st h Q = zG d 102 12 (some (.ref a) :: L) (.ref a :: st) h Q := g_ldA rfl rfl
theorem g102_12 (hT : zT h a = (1, 3)) : zG d 102 12 L (.ref a :: st) h Q = zG d 102 15 L (zR h a 1 :: st) h Q := g_gR rfl hT
theorem g102_15 : zG d 102 15 (l0 :: some (.ref a) :: L) st h Q = zG d 102 16 (l0 :: some (.ref a) :: L) (.ref a :: st) h Q := g_ldA rfl rfl
theorem g102_16 (hT : zT h a = (1, 3)) : zG d 102 16 L (.ref a :: st) h Q = zG d 102 19 L (zR h a 1 :: st) h Q := g_gR rfl hT
theorem g102_19 (hT : (zT h a).1 = 3) : zG d 102 19 L [v0, .ref a] h Q = zCall d 304 [.ref a, v0] h (fun v h1 => zG d 102 22 L (zpush v []) h1 Q) := g_cV rfl rfl rfl rfl (Nat.le_of_ble_eq_true rfl) hT
theorem g102_22 : zG d 102 22 (some (.ref a) :: L) st h Q = zG d 102 23 (some (.ref a) :: L) (.ref a :: st) h Q := g_ldA rfl rfl
theorem g102_23 (hT : zT h a = (1, 3)) : zG d 102 23 L (.ref a :: st) h Q = zG d 102 26 L (zR h a 2 :: st) h Q := g_gR rfl hT
theorem g102_26 : zG d 102 26 (l0 :: some (.ref a) :: L) st h Q = zG d 102 27 (l0 :: some (.ref a) :: L) (.ref a :: st) h Q := g_ldA rfl rfl
theorem g102_27 (hT : zT h a = (1, 3)) : zG d 102 27 L (.ref a :: st) h Q = zG d 102 30 L (zR h a 2 :: st) h Q := g_gR rfl hT
theorem g102_30 (hT : (zT h a).1 = 3) : zG d 102 30 L [v0, .ref a] h Q = zCall d 304 [.ref a, v0] h (fun v h1 => zG d 102 33 L (zpush v []) h1 Q) := g_cV rfl rfl rfl rfl (Nat.le_of_ble_eq_true rfl) hT
theorem g102_33 : zG d 102 33 L [] h Q = Q none h := g_rV rfl
theorem k102 {x0 : Nat} : zCall (d + 1) 102 [.ref a, .ref x0] h Q = zG d 102 0 [some (.ref a), some (.ref x0)] [] h Q := zCall_k (Nat.le_of_ble_eq_true rfl) rfl
theorem g103_0 : zG d 103 0 L st h Q = zG d 103 1 L (.int (-1) :: st) h Q := g_c rfl
theorem g103_1 : zG d 103 1 (l0 :: l1 :: L) (.int x :: st) h Q = zG d 103 2 (kl l0 :: some (.int x) :: L) st h Q := g_stI rfl (by simp) rfl
theorem g103_2 : zG d 103 2 L st h Q = zG d 103 3 L (.int 0 :: st) h Q := g_c rfl
theorem g103_3 : zG d 103 3 (l0 :: l1 :: l2 :: L) (.int x :: st) h Q = zG d 103 4 (l0 :: kl l1 :: some (.int x) :: L) st h Q := g_stI rfl (by simp) rfl
theorem g103_4 : zG d 103 4 (l0 :: l1 :: some (.int x) :: L) st h Q = zG d 103 5 (l0 :: l1 :: some (.int x) :: L) (.int x :: st) h Q := g_ldI rfl rfl
theorem g103_5 : zG d 103 5 (some (.ref a) :: L) st h Q = zG d 103 6 (some (.ref a) :: L) (.ref a :: st) h Q := g_ldA rfl rfl
theorem g103_6 (hT : zT h a = (1, 3)) : zG d 103 6 L (.ref a :: st) h Q = zG d 103 9 L (zR h a 0 :: st) h Q := g_gR rfl hT
theorem g103_9 (hT : zT h a = (3, 4)) : zG d 103 9 L (.ref a :: st) h Q = zG d 103 12 L (.int (zI h a 3) :: st) h Q := g_gI rfl hT
theorem g103_12 : zG d 103 12 L (.int z :: .int x :: st) h Q = if z ≤ x then zG d 103 35 L st h Q else zG d 103 15 L st h Q := g_i2 (P := fun x z => z ≤ x) rfl
theorem g103_15 : zG d 103 15 (l0 :: some (.int x) :: L) st h Q = zG d 103 16 (l0 :: some (.int x) :: L) (.int x :: st) h Q := g_ldI rfl rfl
theorem g103_16 : zG d 103 16 (some (.ref a) :: L) st h Q = zG d 103 17 (some (.ref a) :: L) (.ref a :: st) h Q := g_ldA rfl rfl
theorem g103_17 (hT : zT h a = (1, 3)) : zG d 103 17 L (.ref a :: st) h Q = zG d 103 20 L (zR h a 0 :: st) h Q := g_gR rfl hT
theorem g103_20 (hT : zT h a = (3, 4)) : zG d 103 20 L (.ref a :: st) h Q = zG d 103 23 L (zR h a 1 :: st) h Q := g_gR rfl hT
theorem g103_23 : zG d 103 23 (l0 :: l1 :: some (.int x) :: L) st h Q = zG d 103 24 (l0 :: l1 :: some (.int x) :: L) (.int x :: st) h Q := g_ldI rfl rfl
theorem g103_24 (hT : (zT h b).1 = 20) (hi : zin i (zT h b).2) : zG d 103 24 L (.int i :: .ref b :: st) h Q = zG d 103 25 L (.int (zI h b i.toNatClampNeg) :: st) h Q := g_ia rfl hT hi
theorem g103_25 (h4 : st.length ≤ 4) : zG d 103 25 L (.int z :: .int x :: st) h Q = zG d 103 28 L (.int (zmax x z) :: st) h Q := g_mm (f := fun x z => zmax x z) rfl h4
theorem g103_28 : zG d 103 28 (l0 :: l1 :: L) (.int x :: st) h Q = zG d 103 29 (kl l0 :: some (.int x) :: L) st h Q := g_stI rfl (by simp) rfl
theorem g103_29 : zG d 103 29 (l0 :: l1 :: some (.int x) :: L) st h Q = zG d 103 32 (l0 :: kl l1 :: some (.int (x + 1)) :: L) st h Q := g_inc rfl rfl rfl
theorem g103_32 : zG d 103 32 L st h Q = zG d 103 4 L st h Q := g_go rfl
theorem g103_35 : zG d 103 35 (l0 :: some (.int x) :: L) st h Q = zG d 103 36 (l0 :: some (.int x) :: L) (.int x :: st) h Q := g_ldI rfl rfl
theorem g103_36 : zG d 103 36 L [.int x] h Q = Q (some (.int x)) h := g_rI (ok := fun _ => True) rfl trivial
theorem k103  : zCall (d + 1) 103 [.ref a] h Q = zG d 103 0 [some (.ref a), none, none] [] h Q := zCall_k (Nat.le_of_ble_eq_true rfl) rfl
theorem g104_0 : zG d 104 0 L st h Q = zG d 104 1 L (.int 0 :: st) h Q := g_c rfl
theorem g104_1 : zG d 104 1 (l0 :: l1 :: l2 :: l3 :: L) (.int x :: st) h Q = zG d 104 2 (l0 :: l1 :: kl l2 :: some (.int x) :: L) st h Q := g_stI rfl (by simp) rfl
theorem g104_2 : zG d 104 2 (l0 :: l1 :: l2 :: some (.int x) :: L) st h Q = zG d 104 3 (l0 :: l1 :: l2 :: some (.int x) :: L) (.int x :: st) h Q := g_ldI rfl rfl
theorem g104_3 : zG d 104 3 (some (.ref a) :: L) st h Q = zG d 104 4 (some (.ref a) :: L) (.ref a :: st) h Q := g_ldA rfl rfl
theorem g104_4 (hT : zT h a = (1, 3)) : zG d 104 4 L (.ref a :: st) h Q = zG d 104 7 L (zR h a 0 :: st) h Q := g_gR rfl hT
theorem g104_7 (hT : zT h a = (3, 4)) : zG d 104 7 L (.ref a :: st) h Q = zG d 104 10 L (.int (zI h a 3) :: st) h Q := g_gI rfl hT
theorem g104_10 : zG d 104 10 L (.int z :: .int x :: st) h Q = if z ≤ x then zG d 104 59 L st h Q else zG d 104 13 L st h Q := g_i2 (P := fun x z => z ≤ x) rfl
theorem g104_13 : zG d 104 13 (some (.ref a) :: L) st h Q = zG d 104 14 (some (.ref a) :: L) (.ref a :: st) h Q := g_ldA rfl rfl
theorem g104_14 (hT : zT h a = (1, 3)) : zG d 104 14 L (.ref a :: st) h Q = zG d 104 17 L (zR h a 0 :: st) h Q := g_gR rfl hT
theorem g104_17 (hT : zT h a = (3, 4)) : zG d 104 17 L (.ref a :: st) h Q = zG d 104 20 L (zR h a 1 :: st) h Q := g_gR rfl hT
theorem g104_20 : zG d 104 20 (l0 :: l1 :: l2 :: some (.int x) :: L) st h Q = zG d 104 21 (l0 :: l1 :: l2 :: some (.int x) :: L) (.int x :: st) h Q := g_ldI rfl rfl
theorem g104_21 (hT : (zT h b).1 = 20) (hi : zin i (zT h b).2) : zG d 104 21 L (.int i :: .ref b :: st) h Q = zG d 104 22 L (.int (zI h b i.toNatClampNeg) :: st) h Q := g_ia rfl hT hi
theorem g104_22 : zG d 104 22 (l0 :: l1 :: some (.int x) :: L) st h Q = zG d 104 23 (l0 :: l1 :: some (.int x) :: L) (.int x :: st) h Q := g_ldI rfl rfl
theorem g104_23 : zG d 104 23 L (.int z :: .int x :: st) h Q = if ¬ x = z then zG d 104 53 L st h Q else zG d 104 26 L st h Q := g_i2 (P := fun x z => ¬ x = z) rfl
theorem g104_26 : zG d 104 26 (l0 :: some (.ref a) :: L) st h Q = zG d 104 27 (l0 :: some (.ref a) :: L) (.ref a :: st) h Q := g_ldA rfl rfl
theorem g104_27 : zG d 104 27 (some (.ref a) :: L) st h Q = zG d 104 28 (some (.ref a) :: L) (.ref a :: st) h Q := g_ldA rfl rfl
theorem g104_28 (hT : zT h a = (1, 3)) : zG d 104 28 L (.ref a :: st) h Q = zG d 104 31 L (zR h a 0 :: st) h Q := g_gR rfl hT
theorem g104_31 (hT : zT h a = (3, 4)) : zG d 104 31 L (.ref a :: st) h Q = zG d 104 34 L (zR h a 0 :: st) h Q := g_gR rfl hT
theorem g104_34 : zG d 104 34 (l0 :: l1 :: l2 :: some (.int x) :: L) st h Q = zG d 104 35 (l0 :: l1 :: l2 :: some (.int x) :: L) (.int x :: st) h Q := g_ldI rfl rfl
theorem g104_35 (hT : (zT h b).1 = 20) (hi : zin i (zT h b).2) : zG d 104 35 L (.int i :: .ref b :: st) h Q = zG d 104 36 L (.int (zI h b i.toNatClampNeg) :: st) h Q := g_ia rfl hT hi
theorem g104_36 : zG d 104 36 (some (.ref a) :: L) st h Q = zG d 104 37 (some (.ref a) :: L) (.ref a :: st) h Q := g_ldA rfl rfl
theorem g104_37 (hT : zT h a = (1, 3)) : zG d 104 37 L (.ref a :: st) h Q = zG d 104 40 L (zR h a 0 :: st) h Q := g_gR rfl hT
theorem g104_40 (hT : zT h a = (3, 4)) : zG d 104 40 L (.ref a :: st) h Q = zG d 104 43 L (zR h a 2 :: st) h Q := g_gR rfl hT
theorem g104_43 : zG d 104 43 (l0 :: l1 :: l2 :: some (.int x) :: L) st h Q = zG d 104 44 (l0 :: l1 :: l2 :: some (.int x) :: L) (.int x :: st) h Q := g_ldI rfl rfl
theorem g104_44 (hT : (zT h b).1 = 20) (hi : zin i (zT h b).2) : zG d 104 44 L (.int i :: .ref b :: st) h Q = zG d 104 45 L (.int (zI h b i.toNatClampNeg) :: st) h Q := g_ia rfl hT hi
theorem g104_45 (hT : (zT h a).1 = 2) : zG d 104 45 L [v1, v0, .ref a] h Q = zCall d 206 [.ref a, v0, v1] h (fun v h1 => zG d 104 48 L (zpush v []) h1 Q) := g_cV rfl rfl rfl rfl (Nat.le_of_ble_eq_true rfl) hT
theorem g104_48 : zG d 104 48 L (.int x :: st) h Q = if ¬ x = 0 then zG d 104 53 L st h Q else zG d 104 51 L st h Q := g_i1 (P := fun x => ¬ x = 0) rfl
theorem g104_51 : zG d 104 51 L st h Q = zG d 104 52 L (.int 1 :: st) h Q := g_c rfl
theorem g104_52 (hx : x = 0 ∨ x = 1) : zG d 104 52 L [.int x] h Q = Q (some (.int x)) h := g_rI (ok := fun x => x = 0 ∨ x = 1) rfl hx
theorem g104_53 : zG d 104 53 (l0 :: l1 :: l2 :: some (.int x) :: L) st h Q = zG d 104 56 (l0 :: l1 :: kl l2 :: some (.int (x + 1)) :: L) st h Q := g_inc rfl rfl rfl
theorem g104_56 : zG d 104 56 L st h Q = zG d 104 2 L st h Q := g_go rfl
theorem g104_59 : zG d 104 59 L st h Q = zG d 104 60 L (.int 0 :: st) h Q := g_c rfl
theorem g104_60 (hx : x = 0 ∨ x = 1) : zG d 104 60 L [.int x] h Q = Q (some (.int x)) h := g_rI (ok := fun x => x = 0 ∨ x = 1) rfl hx
theorem k104 {x0 : Nat} {x1 : Int32} : zCall (d + 1) 104 [.ref a, .ref x0, .int x1] h Q = zG d 104 0 [some (.ref a), some (.ref x0), some (.int x1), none] [] h Q := zCall_k (Nat.le_of_ble_eq_true rfl) rfl
theorem g201_0 : zG d 201 0 (some (.ref a) :: L) st h Q = zG d 201 1 (some (.ref a) :: L) (.ref a :: st) h Q := g_ldA rfl rfl
theorem g201_1 (hT : (zT h a).1 < 20) : zG d 201 1 L [.ref a] h Q = zG d 201 4 L [] h Q := g_oi rfl hT
theorem g201_4 : zG d 201 4 (some (.ref a) :: L) st h Q = zG d 201 5 (some (.ref a) :: L) (.ref a :: st) h Q := g_ldA rfl rfl
theorem g201_5 : zG d 201 5 L st h Q = zG d 201 7 L (.int 6 :: st) h Q := g_c rfl
theorem g201_7 (hx : ¬ x < 0 ∧ x.toNatClampNeg ≤ 1000) : zG d 201 7 L (.int x :: st) h Q = zG d 201 9 L (.ref (zN h) :: st) (wN h (20, x.toNatClampNeg)) Q := g_na rfl hx
theorem g201_9 (hT : zT h a = (2, 12)) : zG d 201 9 L (.ref b :: .ref a :: st) h Q = zG d 201 12 L st (wR h a 0 (.ref b)) Q := g_pR rfl hT
theorem g201_9_n (hT : zT h a = (2, 12)) : zG d 201 9 L (.null :: .ref a :: st) h Q = zG d 201 12 L st (wR h a 0 .null) Q := g_pR0 rfl hT
theorem g201_12 : zG d 201 12 (some (.ref a) :: L) st h Q = zG d 201 13 (some (.ref a) :: L) (.ref a :: st) h Q := g_ldA rfl rfl
theorem g201_13 : zG d 201 13 L st h Q = zG d 201 15 L (.int 6 :: st) h Q := g_c rfl
theorem g201_15 (hx : ¬ x < 0 ∧ x.toNatClampNeg ≤ 1000) : zG d 201 15 L (.int x :: st) h Q = zG d 201 17 L (.ref (zN h) :: st) (wN h (20, x.toNatClampNeg)) Q := g_na rfl hx
theorem g201_17 (hT : zT h a = (2, 12)) : zG d 201 17 L (.ref b :: .ref a :: st) h Q = zG d 201 20 L st (wR h a 1 (.ref b)) Q := g_pR rfl hT
theorem g201_17_n (hT : zT h a = (2, 12)) : zG d 201 17 L (.null :: .ref a :: st) h Q = zG d 201 20 L st (wR h a 1 .null) Q := g_pR0 rfl hT
theorem g201_20 : zG d 201 20 (some (.ref a) :: L) st h Q = zG d 201 21 (some (.ref a) :: L) (.ref a :: st) h Q := g_ldA rfl rfl
theorem g201_21 : zG d 201 21 L st h Q = zG d 201 23 L (.int 6 :: st) h Q := g_c rfl
theorem g201_23 (hx : ¬ x < 0 ∧ x.toNatClampNeg ≤ 1000) : zG d 201 23 L (.int x :: st) h Q = zG d 201 25 L (.ref (zN h) :: st) (wN h (20, x.toNatClampNeg)) Q := g_na rfl hx
theorem g201_25 (hT : zT h a = (2, 12)) : zG d 201 25 L (.ref b :: .ref a :: st) h Q = zG d 201 28 L st (wR h a 2 (.ref b)) Q := g_pR rfl hT
theorem g201_25_n (hT : zT h a = (2, 12)) : zG d 201 25 L (.null :: .ref a :: st) h Q = zG d 201 28 L st (wR h a 2 .null) Q := g_pR0 rfl hT
theorem g201_28 : zG d 201 28 (some (.ref a) :: L) st h Q = zG d 201 29 (some (.ref a) :: L) (.ref a :: st) h Q := g_ldA rfl rfl
theorem g201_29 : zG d 201 29 L st h Q = zG d 201 31 L (.int 6 :: st) h Q := g_c rfl
theorem g201_31 (hx : ¬ x < 0 ∧ x.toNatClampNeg ≤ 1000) : zG d 201 31 L (.int x :: st) h Q = zG d 201 33 L (.ref (zN h) :: st) (wN h (20, x.toNatClampNeg)) Q := g_na rfl hx
theorem g201_33 (hT : zT h a = (2, 12)) : zG d 201 33 L (.ref b :: .ref a :: st) h Q = zG d 201 36 L st (wR h a 3 (.ref b)) Q := g_pR rfl hT
theorem g201_33_n (hT : zT h a = (2, 12)) : zG d 201 33 L (.null :: .ref a :: st) h Q = zG d 201 36 L st (wR h a 3 .null) Q := g_pR0 rfl hT
theorem g201_36 : zG d 201 36 (some (.ref a) :: L) st h Q = zG d 201 37 (some (.ref a) :: L) (.ref a :: st) h Q := g_ldA rfl rfl
theorem g201_37 : zG d 201 37 L st h Q = zG d 201 39 L (.int 6 :: st) h Q := g_c rfl
theorem g201_39 (hx : ¬ x < 0 ∧ x.toNatClampNeg ≤ 1000) : zG d 201 39 L (.int x :: st) h Q = zG d 201 41 L (.ref (zN h) :: st) (wN h (20, x.toNatClampNeg)) Q := g_na rfl hx
theorem g201_41 (hT : zT h a = (2, 12)) : zG d 201 41 L (.ref b :: .ref a :: st) h Q = zG d 201 44 L st (wR h a 4 (.ref b)) Q := g_pR rfl hT
theorem g201_41_n (hT : zT h a = (2, 12)) : zG d 201 41 L (.null :: .ref a :: st) h Q = zG d 201 44 L st (wR h a 4 .null) Q := g_pR0 rfl hT
theorem g201_44 : zG d 201 44 (some (.ref a) :: L) st h Q = zG d 201 45 (some (.ref a) :: L) (.ref a :: st) h Q := g_ldA rfl rfl
theorem g201_45 : zG d 201 45 L st h Q = zG d 201 47 L (.int 6 :: st) h Q := g_c rfl
theorem g201_47 (hx : ¬ x < 0 ∧ x.toNatClampNeg ≤ 1000) : zG d 201 47 L (.int x :: st) h Q = zG d 201 49 L (.ref (zN h) :: st) (wN h (23, x.toNatClampNeg)) Q := g_na rfl hx
theorem g201_49 (hT : zT h a = (2, 12)) : zG d 201 49 L (.ref b :: .ref a :: st) h Q = zG d 201 52 L st (wR h a 5 (.ref b)) Q := g_pR rfl hT
theorem g201_49_n (hT : zT h a = (2, 12)) : zG d 201 49 L (.null :: .ref a :: st) h Q = zG d 201 52 L st (wR h a 5 .null) Q := g_pR0 rfl hT
theorem g201_52 : zG d 201 52 (some (.ref a) :: L) st h Q = zG d 201 53 (some (.ref a) :: L) (.ref a :: st) h Q := g_ldA rfl rfl
theorem g201_53 : zG d 201 53 L st h Q = zG d 201 55 L (.int 6 :: st) h Q := g_c rfl
theorem g201_55 : zG d 201 55 L st h Q = zG d 201 56 L (.int 4 :: st) h Q := g_c rfl
theorem g201_56 : zG d 201 56 L (.int 4 :: .int 6 :: st) h Q = zG d 201 60 L (.ref (zN h) :: st) (wM h) Q := g_mna rfl
theorem g201_60 (hT : zT h a = (2, 12)) : zG d 201 60 L (.ref b :: .ref a :: st) h Q = zG d 201 63 L st (wR h a 6 (.ref b)) Q := g_pR rfl hT
theorem g201_60_n (hT : zT h a = (2, 12)) : zG d 201 60 L (.null :: .ref a :: st) h Q = zG d 201 63 L st (wR h a 6 .null) Q := g_pR0 rfl hT
theorem g201_63 : zG d 201 63 (some (.ref a) :: L) st h Q = zG d 201 64 (some (.ref a) :: L) (.ref a :: st) h Q := g_ldA rfl rfl
theorem g201_64 : zG d 201 64 L st h Q = zG d 201 67 L (.int 500 :: st) h Q := g_c rfl
theorem g201_67 (hT : zT h a = (2, 12)) : zG d 201 67 L (.int x :: .ref a :: st) h Q = zG d 201 70 L st (wI h a 8 x) Q := g_pI rfl hT
theorem g201_70 : zG d 201 70 (some (.ref a) :: L) st h Q = zG d 201 71 (some (.ref a) :: L) (.ref a :: st) h Q := g_ldA rfl rfl
theorem g201_71 : zG d 201 71 L st h Q = zG d 201 72 L (.int (-1) :: st) h Q := g_c rfl
theorem g201_72 (hT : zT h a = (2, 12)) : zG d 201 72 L (.int x :: .ref a :: st) h Q = zG d 201 75 L st (wI h a 11 x) Q := g_pI rfl hT
theorem g201_75 : zG d 201 75 L [] h Q = Q none h := g_rV rfl
theorem k201  : zCall (d + 1) 201 [.ref a] h Q = zG d 201 0 [some (.ref a)] [] h Q := zCall_k (Nat.le_of_ble_eq_true rfl) rfl
theorem g202_0 : zG d 202 0 (some (.ref a) :: L) st h Q = zG d 202 1 (some (.ref a) :: L) (.ref a :: st) h Q := g_ldA rfl rfl
theorem g202_1 : zG d 202 1 (l0 :: some (.ref a) :: L) st h Q = zG d 202 2 (l0 :: some (.ref a) :: L) (.ref a :: st) h Q := g_ldA rfl rfl
theorem g202_2 (hT : zT h a = (2, 12)) : zG d 202 2 L (.ref a :: st) h Q = zG d 202 5 L (.int (zI h a 7) :: st) h Q := g_gI rfl hT
theorem g202_5 (hT : zT h a = (2, 12)) : zG d 202 5 L (.int x :: .ref a :: st) h Q = zG d 202 8 L st (wI h a 7 x) Q := g_pI rfl hT
theorem g202_8 : zG d 202 8 (some (.ref a) :: L) st h Q = zG d 202 9 (some (.ref a) :: L) (.ref a :: st) h Q := g_ldA rfl rfl
theorem g202_9 : zG d 202 9 (l0 :: some (.ref a) :: L) st h Q = zG d 202 10 (l0 :: some (.ref a) :: L) (.ref a :: st) h Q := g_ldA rfl rfl
theorem g202_10 (hT : zT h a = (2, 12)) : zG d 202 10 L (.ref a :: st) h Q = zG d 202 13 L (.int (zI h a 8) :: st) h Q := g_gI rfl hT
theorem g202_13 (hT : zT h a = (2, 12)) : zG d 202 13 L (.int x :: .ref a :: st) h Q = zG d 202 16 L st (wI h a 8 x) Q := g_pI rfl hT
theorem g202_16 : zG d 202 16 (some (.ref a) :: L) st h Q = zG d 202 17 (some (.ref a) :: L) (.ref a :: st) h Q := g_ldA rfl rfl
theorem g202_17 : zG d 202 17 (l0 :: some (.ref a) :: L) st h Q = zG d 202 18 (l0 :: some (.ref a) :: L) (.ref a :: st) h Q := g_ldA rfl rfl
theorem g202_18 (hT : zT h a = (2, 12)) : zG d 202 18 L (.ref a :: st) h Q = zG d 202 21 L (.int (zI h a 9) :: st) h Q := g_gI rfl hT
theorem g202_21 (hT : zT h a = (2, 12)) : zG d 202 21 L (.int x :: .ref a :: st) h Q = zG d 202 24 L st (wI h a 9 x) Q := g_pI rfl hT
theorem g202_24 : zG d 202 24 (some (.ref a) :: L) st h Q = zG d 202 25 (some (.ref a) :: L) (.ref a :: st) h Q := g_ldA rfl rfl
theorem g202_25 : zG d 202 25 (l0 :: some (.ref a) :: L) st h Q = zG d 202 26 (l0 :: some (.ref a) :: L) (.ref a :: st) h Q := g_ldA rfl rfl
theorem g202_26 (hT : zT h a = (2, 12)) : zG d 202 26 L (.ref a :: st) h Q = zG d 202 29 L (zR h a 10 :: st) h Q := g_gR rfl hT
theorem g202_29 (hT : zT h a = (2, 12)) : zG d 202 29 L (.ref b :: .ref a :: st) h Q = zG d 202 32 L st (wR h a 10 (.ref b)) Q := g_pR rfl hT
theorem g202_29_n (hT : zT h a = (2, 12)) : zG d 202 29 L (.null :: .ref a :: st) h Q = zG d 202 32 L st (wR h a 10 .null) Q := g_pR0 rfl hT
theorem g202_32 : zG d 202 32 (some (.ref a) :: L) st h Q = zG d 202 33 (some (.ref a) :: L) (.ref a :: st) h Q := g_ldA rfl rfl
theorem g202_33 : zG d 202 33 (l0 :: some (.ref a) :: L) st h Q = zG d 202 34 (l0 :: some (.ref a) :: L) (.ref a :: st) h Q := g_ldA rfl rfl
theorem g202_34 (hT : zT h a = (2, 12)) : zG d 202 34 L (.ref a :: st) h Q = zG d 202 37 L (.int (zI h a 11) :: st) h Q := g_gI rfl hT
theorem g202_37 (hT : zT h a = (2, 12)) : zG d 202 37 L (.int x :: .ref a :: st) h Q = zG d 202 40 L st (wI h a 11 x) Q := g_pI rfl hT
theorem g202_40 : zG d 202 40 L st h Q = zG d 202 41 L (.int 0 :: st) h Q := g_c rfl
theorem g202_41 : zG d 202 41 (l0 :: l1 :: l2 :: L) (.int x :: st) h Q = zG d 202 42 (l0 :: kl l1 :: some (.int x) :: L) st h Q := g_stI rfl (by simp) rfl
theorem g202_42 : zG d 202 42 (l0 :: l1 :: some (.int x) :: L) st h Q = zG d 202 43 (l0 :: l1 :: some (.int x) :: L) (.int x :: st) h Q := g_ldI rfl rfl
theorem g202_43 : zG d 202 43 (some (.ref a) :: L) st h Q = zG d 202 44 (some (.ref a) :: L) (.ref a :: st) h Q := g_ldA rfl rfl
theorem g202_44 (hT : zT h a = (2, 12)) : zG d 202 44 L (.ref a :: st) h Q = zG d 202 47 L (.int (zI h a 7) :: st) h Q := g_gI rfl hT
theorem g202_47 : zG d 202 47 L (.int z :: .int x :: st) h Q = if z ≤ x then zG d 202 157 L st h Q else zG d 202 50 L st h Q := g_i2 (P := fun x z => z ≤ x) rfl
theorem g202_50 : zG d 202 50 (some (.ref a) :: L) st h Q = zG d 202 51 (some (.ref a) :: L) (.ref a :: st) h Q := g_ldA rfl rfl
theorem g202_51 (hT : zT h a = (2, 12)) : zG d 202 51 L (.ref a :: st) h Q = zG d 202 54 L (zR h a 0 :: st) h Q := g_gR rfl hT
theorem g202_54 : zG d 202 54 (l0 :: l1 :: some (.int x) :: L) st h Q = zG d 202 55 (l0 :: l1 :: some (.int x) :: L) (.int x :: st) h Q := g_ldI rfl rfl
theorem g202_55 : zG d 202 55 (l0 :: some (.ref a) :: L) st h Q = zG d 202 56 (l0 :: some (.ref a) :: L) (.ref a :: st) h Q := g_ldA rfl rfl
theorem g202_56 (hT : zT h a = (2, 12)) : zG d 202 56 L (.ref a :: st) h Q = zG d 202 59 L (zR h a 0 :: st) h Q := g_gR rfl hT
theorem g202_59 : zG d 202 59 (l0 :: l1 :: some (.int x) :: L) st h Q = zG d 202 60 (l0 :: l1 :: some (.int x) :: L) (.int x :: st) h Q := g_ldI rfl rfl
theorem g202_60 (hT : (zT h b).1 = 20) (hi : zin i (zT h b).2) : zG d 202 60 L (.int i :: .ref b :: st) h Q = zG d 202 61 L (.int (zI h b i.toNatClampNeg) :: st) h Q := g_ia rfl hT hi
theorem g202_61 (hT : (zT h b).1 = 20) (hi : zin i (zT h b).2) : zG d 202 61 L (.int x :: .int i :: .ref b :: st) h Q = zG d 202 62 L st (wI h b i.toNatClampNeg (x)) Q := g_is (f1 := fun x => x) rfl hT hi
theorem g202_62 : zG d 202 62 (some (.ref a) :: L) st h Q = zG d 202 63 (some (.ref a) :: L) (.ref a :: st) h Q := g_ldA rfl rfl
theorem g202_63 (hT : zT h a = (2, 12)) : zG d 202 63 L (.ref a :: st) h Q = zG d 202 66 L (zR h a 1 :: st) h Q := g_gR rfl hT
theorem g202_66 : zG d 202 66 (l0 :: l1 :: some (.int x) :: L) st h Q = zG d 202 67 (l0 :: l1 :: some (.int x) :: L) (.int x :: st) h Q := g_ldI rfl rfl
theorem g202_67 : zG d 202 67 (l0 :: some (.ref a) :: L) st h Q = zG d 202 68 (l0 :: some (.ref a) :: L) (.ref a :: st) h Q := g_ldA rfl rfl
theorem g202_68 (hT : zT h a = (2, 12)) : zG d 202 68 L (.ref a :: st) h Q = zG d 202 71 L (zR h a 1 :: st) h Q := g_gR rfl hT
theorem g202_71 : zG d 202 71 (l0 :: l1 :: some (.int x) :: L) st h Q = zG d 202 72 (l0 :: l1 :: some (.int x) :: L) (.int x :: st) h Q := g_ldI rfl rfl
theorem g202_72 (hT : (zT h b).1 = 20) (hi : zin i (zT h b).2) : zG d 202 72 L (.int i :: .ref b :: st) h Q = zG d 202 73 L (.int (zI h b i.toNatClampNeg) :: st) h Q := g_ia rfl hT hi
theorem g202_73 (hT : (zT h b).1 = 20) (hi : zin i (zT h b).2) : zG d 202 73 L (.int x :: .int i :: .ref b :: st) h Q = zG d 202 74 L st (wI h b i.toNatClampNeg (x)) Q := g_is (f1 := fun x => x) rfl hT hi
theorem g202_74 : zG d 202 74 (some (.ref a) :: L) st h Q = zG d 202 75 (some (.ref a) :: L) (.ref a :: st) h Q := g_ldA rfl rfl
theorem g202_75 (hT : zT h a = (2, 12)) : zG d 202 75 L (.ref a :: st) h Q = zG d 202 78 L (zR h a 2 :: st) h Q := g_gR rfl hT
theorem g202_78 : zG d 202 78 (l0 :: l1 :: some (.int x) :: L) st h Q = zG d 202 79 (l0 :: l1 :: some (.int x) :: L) (.int x :: st) h Q := g_ldI rfl rfl
theorem g202_79 : zG d 202 79 (l0 :: some (.ref a) :: L) st h Q = zG d 202 80 (l0 :: some (.ref a) :: L) (.ref a :: st) h Q := g_ldA rfl rfl
theorem g202_80 (hT : zT h a = (2, 12)) : zG d 202 80 L (.ref a :: st) h Q = zG d 202 83 L (zR h a 2 :: st) h Q := g_gR rfl hT
theorem g202_83 : zG d 202 83 (l0 :: l1 :: some (.int x) :: L) st h Q = zG d 202 84 (l0 :: l1 :: some (.int x) :: L) (.int x :: st) h Q := g_ldI rfl rfl
theorem g202_84 (hT : (zT h b).1 = 20) (hi : zin i (zT h b).2) : zG d 202 84 L (.int i :: .ref b :: st) h Q = zG d 202 85 L (.int (zI h b i.toNatClampNeg) :: st) h Q := g_ia rfl hT hi
theorem g202_85 (hT : (zT h b).1 = 20) (hi : zin i (zT h b).2) : zG d 202 85 L (.int x :: .int i :: .ref b :: st) h Q = zG d 202 86 L st (wI h b i.toNatClampNeg (x)) Q := g_is (f1 := fun x => x) rfl hT hi
theorem g202_86 : zG d 202 86 (some (.ref a) :: L) st h Q = zG d 202 87 (some (.ref a) :: L) (.ref a :: st) h Q := g_ldA rfl rfl
theorem g202_87 (hT : zT h a = (2, 12)) : zG d 202 87 L (.ref a :: st) h Q = zG d 202 90 L (zR h a 3 :: st) h Q := g_gR rfl hT
theorem g202_90 : zG d 202 90 (l0 :: l1 :: some (.int x) :: L) st h Q = zG d 202 91 (l0 :: l1 :: some (.int x) :: L) (.int x :: st) h Q := g_ldI rfl rfl
theorem g202_91 : zG d 202 91 (l0 :: some (.ref a) :: L) st h Q = zG d 202 92 (l0 :: some (.ref a) :: L) (.ref a :: st) h Q := g_ldA rfl rfl
theorem g202_92 (hT : zT h a = (2, 12)) : zG d 202 92 L (.ref a :: st) h Q = zG d 202 95 L (zR h a 3 :: st) h Q := g_gR rfl hT
theorem g202_95 : zG d 202 95 (l0 :: l1 :: some (.int x) :: L) st h Q = zG d 202 96 (l0 :: l1 :: some (.int x) :: L) (.int x :: st) h Q := g_ldI rfl rfl
theorem g202_96 (hT : (zT h b).1 = 20) (hi : zin i (zT h b).2) : zG d 202 96 L (.int i :: .ref b :: st) h Q = zG d 202 97 L (.int (zI h b i.toNatClampNeg) :: st) h Q := g_ia rfl hT hi
theorem g202_97 (hT : (zT h b).1 = 20) (hi : zin i (zT h b).2) : zG d 202 97 L (.int x :: .int i :: .ref b :: st) h Q = zG d 202 98 L st (wI h b i.toNatClampNeg (x)) Q := g_is (f1 := fun x => x) rfl hT hi
theorem g202_98 : zG d 202 98 (some (.ref a) :: L) st h Q = zG d 202 99 (some (.ref a) :: L) (.ref a :: st) h Q := g_ldA rfl rfl
theorem g202_99 (hT : zT h a = (2, 12)) : zG d 202 99 L (.ref a :: st) h Q = zG d 202 102 L (zR h a 4 :: st) h Q := g_gR rfl hT
theorem g202_102 : zG d 202 102 (l0 :: l1 :: some (.int x) :: L) st h Q = zG d 202 103 (l0 :: l1 :: some (.int x) :: L) (.int x :: st) h Q := g_ldI rfl rfl
theorem g202_103 : zG d 202 103 (l0 :: some (.ref a) :: L) st h Q = zG d 202 104 (l0 :: some (.ref a) :: L) (.ref a :: st) h Q := g_ldA rfl rfl
theorem g202_104 (hT : zT h a = (2, 12)) : zG d 202 104 L (.ref a :: st) h Q = zG d 202 107 L (zR h a 4 :: st) h Q := g_gR rfl hT
theorem g202_107 : zG d 202 107 (l0 :: l1 :: some (.int x) :: L) st h Q = zG d 202 108 (l0 :: l1 :: some (.int x) :: L) (.int x :: st) h Q := g_ldI rfl rfl
theorem g202_108 (hT : (zT h b).1 = 20) (hi : zin i (zT h b).2) : zG d 202 108 L (.int i :: .ref b :: st) h Q = zG d 202 109 L (.int (zI h b i.toNatClampNeg) :: st) h Q := g_ia rfl hT hi
theorem g202_109 (hT : (zT h b).1 = 20) (hi : zin i (zT h b).2) : zG d 202 109 L (.int x :: .int i :: .ref b :: st) h Q = zG d 202 110 L st (wI h b i.toNatClampNeg (x)) Q := g_is (f1 := fun x => x) rfl hT hi
theorem g202_110 : zG d 202 110 (some (.ref a) :: L) st h Q = zG d 202 111 (some (.ref a) :: L) (.ref a :: st) h Q := g_ldA rfl rfl
theorem g202_111 (hT : zT h a = (2, 12)) : zG d 202 111 L (.ref a :: st) h Q = zG d 202 114 L (zR h a 5 :: st) h Q := g_gR rfl hT
theorem g202_114 : zG d 202 114 (l0 :: l1 :: some (.int x) :: L) st h Q = zG d 202 115 (l0 :: l1 :: some (.int x) :: L) (.int x :: st) h Q := g_ldI rfl rfl
theorem g202_115 : zG d 202 115 (l0 :: some (.ref a) :: L) st h Q = zG d 202 116 (l0 :: some (.ref a) :: L) (.ref a :: st) h Q := g_ldA rfl rfl
theorem g202_116 (hT : zT h a = (2, 12)) : zG d 202 116 L (.ref a :: st) h Q = zG d 202 119 L (zR h a 5 :: st) h Q := g_gR rfl hT
theorem g202_119 : zG d 202 119 (l0 :: l1 :: some (.int x) :: L) st h Q = zG d 202 120 (l0 :: l1 :: some (.int x) :: L) (.int x :: st) h Q := g_ldI rfl rfl
theorem g202_120 (hT : (zT h b).1 = 23) (hi : zin i (zT h b).2) : zG d 202 120 L (.int i :: .ref b :: st) h Q = zG d 202 121 L (.int (zI h b i.toNatClampNeg) :: st) h Q := g_ia rfl hT hi
theorem g202_121 (hT : (zT h b).1 = 23) (hi : zin i (zT h b).2) : zG d 202 121 L (.int x :: .int i :: .ref b :: st) h Q = zG d 202 122 L st (wI h b i.toNatClampNeg (vp_nar .boolean x)) Q := g_is (f1 := fun x => vp_nar .boolean x) rfl hT hi
theorem g202_122 : zG d 202 122 L st h Q = zG d 202 123 L (.int 0 :: st) h Q := g_c rfl
theorem g202_123 : zG d 202 123 (l0 :: l1 :: l2 :: l3 :: L) (.int x :: st) h Q = zG d 202 124 (l0 :: l1 :: kl l2 :: some (.int x) :: L) st h Q := g_stI rfl (by simp) rfl
theorem g202_124 : zG d 202 124 (l0 :: l1 :: l2 :: some (.int x) :: L) st h Q = zG d 202 125 (l0 :: l1 :: l2 :: some (.int x) :: L) (.int x :: st) h Q := g_ldI rfl rfl
theorem g202_125 : zG d 202 125 L st h Q = zG d 202 126 L (.int 4 :: st) h Q := g_c rfl
theorem g202_126 : zG d 202 126 L (.int z :: .int x :: st) h Q = if z ≤ x then zG d 202 151 L st h Q else zG d 202 129 L st h Q := g_i2 (P := fun x z => z ≤ x) rfl
theorem g202_129 : zG d 202 129 (some (.ref a) :: L) st h Q = zG d 202 130 (some (.ref a) :: L) (.ref a :: st) h Q := g_ldA rfl rfl
theorem g202_130 (hT : zT h a = (2, 12)) : zG d 202 130 L (.ref a :: st) h Q = zG d 202 133 L (zR h a 6 :: st) h Q := g_gR rfl hT
theorem g202_133 : zG d 202 133 (l0 :: l1 :: some (.int x) :: L) st h Q = zG d 202 134 (l0 :: l1 :: some (.int x) :: L) (.int x :: st) h Q := g_ldI rfl rfl
theorem g202_134 (hT : (zT h b).1 = 26) (hi : zin i (zT h b).2) : zG d 202 134 L (.int i :: .ref b :: st) h Q = zG d 202 135 L (zR h b i.toNatClampNeg :: st) h Q := g_ra rfl hT hi
theorem g202_135 : zG d 202 135 (l0 :: l1 :: l2 :: some (.int x) :: L) st h Q = zG d 202 136 (l0 :: l1 :: l2 :: some (.int x) :: L) (.int x :: st) h Q := g_ldI rfl rfl
theorem g202_136 : zG d 202 136 (l0 :: some (.ref a) :: L) st h Q = zG d 202 137 (l0 :: some (.ref a) :: L) (.ref a :: st) h Q := g_ldA rfl rfl
theorem g202_137 (hT : zT h a = (2, 12)) : zG d 202 137 L (.ref a :: st) h Q = zG d 202 140 L (zR h a 6 :: st) h Q := g_gR rfl hT
theorem g202_140 : zG d 202 140 (l0 :: l1 :: some (.int x) :: L) st h Q = zG d 202 141 (l0 :: l1 :: some (.int x) :: L) (.int x :: st) h Q := g_ldI rfl rfl
theorem g202_141 (hT : (zT h b).1 = 26) (hi : zin i (zT h b).2) : zG d 202 141 L (.int i :: .ref b :: st) h Q = zG d 202 142 L (zR h b i.toNatClampNeg :: st) h Q := g_ra rfl hT hi
theorem g202_142 : zG d 202 142 (l0 :: l1 :: l2 :: some (.int x) :: L) st h Q = zG d 202 143 (l0 :: l1 :: l2 :: some (.int x) :: L) (.int x :: st) h Q := g_ldI rfl rfl
theorem g202_143 (hT : (zT h b).1 = 20) (hi : zin i (zT h b).2) : zG d 202 143 L (.int i :: .ref b :: st) h Q = zG d 202 144 L (.int (zI h b i.toNatClampNeg) :: st) h Q := g_ia rfl hT hi
theorem g202_144 (hT : (zT h b).1 = 20) (hi : zin i (zT h b).2) : zG d 202 144 L (.int x :: .int i :: .ref b :: st) h Q = zG d 202 145 L st (wI h b i.toNatClampNeg (x)) Q := g_is (f1 := fun x => x) rfl hT hi
theorem g202_145 : zG d 202 145 (l0 :: l1 :: l2 :: some (.int x) :: L) st h Q = zG d 202 148 (l0 :: l1 :: kl l2 :: some (.int (x + 1)) :: L) st h Q := g_inc rfl rfl rfl
theorem g202_148 : zG d 202 148 L st h Q = zG d 202 124 L st h Q := g_go rfl
theorem g202_151 : zG d 202 151 (l0 :: l1 :: some (.int x) :: L) st h Q = zG d 202 154 (l0 :: kl l1 :: some (.int (x + 1)) :: L) st h Q := g_inc rfl rfl rfl
theorem g202_154 : zG d 202 154 L st h Q = zG d 202 42 L st h Q := g_go rfl
theorem g202_157 : zG d 202 157 L [] h Q = Q none h := g_rV rfl
theorem k202 {x0 : Nat} : zCall (d + 1) 202 [.ref a, .ref x0] h Q = zG d 202 0 [some (.ref a), some (.ref x0), none, none] [] h Q := zCall_k (Nat.le_of_ble_eq_true rfl) rfl
theorem g203_0 : zG d 203 0 (some (.ref a) :: L) st h Q = zG d 203 1 (some (.ref a) :: L) (.ref a :: st) h Q := g_ldA rfl rfl
theorem g203_1 (hT : zT h a = (2, 12)) : zG d 203 1 L (.ref a :: st) h Q = zG d 203 4 L (.int (zI h a 7) :: st) h Q := g_gI rfl hT
theorem g203_4 : zG d 203 4 (l0 :: l1 :: l2 :: l3 :: l4 :: l5 :: L) (.int x :: st) h Q = zG d 203 6 (l0 :: l1 :: l2 :: l3 :: kl l4 :: some (.int x) :: L) st h Q := g_stI rfl (by simp) rfl
theorem g203_6 : zG d 203 6 (l0 :: l1 :: l2 :: l3 :: l4 :: some (.int x) :: L) st h Q = zG d 203 8 (l0 :: l1 :: l2 :: l3 :: l4 :: some (.int x) :: L) (.int x :: st) h Q := g_ldI rfl rfl
theorem g203_8 : zG d 203 8 L st h Q = zG d 203 10 L (.int 6 :: st) h Q := g_c rfl
theorem g203_10 : zG d 203 10 L (.int z :: .int x :: st) h Q = if x < z then zG d 203 16 L st h Q else zG d 203 13 L st h Q := g_i2 (P := fun x z => x < z) rfl
theorem g203_13 : zG d 203 13 L st h Q = zG d 203 15 L (.int (-4) :: st) h Q := g_c rfl
theorem g203_15 : zG d 203 15 L [.int x] h Q = Q (some (.int x)) h := g_rI (ok := fun _ => True) rfl trivial
theorem g203_16 : zG d 203 16 (some (.ref a) :: L) st h Q = zG d 203 17 (some (.ref a) :: L) (.ref a :: st) h Q := g_ldA rfl rfl
theorem g203_17 : zG d 203 17 L (.ref a :: st) h Q = zG d 203 18 L (.ref a :: .ref a :: st) h Q := g_dupA rfl
theorem g203_18 (hT : zT h a = (2, 12)) : zG d 203 18 L (.ref a :: st) h Q = zG d 203 21 L (.int (zI h a 7) :: st) h Q := g_gI rfl hT
theorem g203_21 : zG d 203 21 L st h Q = zG d 203 22 L (.int 1 :: st) h Q := g_c rfl
theorem g203_22 : zG d 203 22 L (.int z :: .int x :: st) h Q = zG d 203 23 L (.int (x + z) :: st) h Q := g_b (f := fun x z => x + z) rfl
theorem g203_23 (hT : zT h a = (2, 12)) : zG d 203 23 L (.int x :: .ref a :: st) h Q = zG d 203 26 L st (wI h a 7 x) Q := g_pI rfl hT
theorem g203_26 : zG d 203 26 (some (.ref a) :: L) st h Q = zG d 203 27 (some (.ref a) :: L) (.ref a :: st) h Q := g_ldA rfl rfl
theorem g203_27 (hT : zT h a = (2, 12)) : zG d 203 27 L (.ref a :: st) h Q = zG d 203 30 L (zR h a 0 :: st) h Q := g_gR rfl hT
theorem g203_30 : zG d 203 30 (l0 :: l1 :: l2 :: l3 :: l4 :: some (.int x) :: L) st h Q = zG d 203 32 (l0 :: l1 :: l2 :: l3 :: l4 :: some (.int x) :: L) (.int x :: st) h Q := g_ldI rfl rfl
theorem g203_32 : zG d 203 32 (l0 :: some (.int x) :: L) st h Q = zG d 203 33 (l0 :: some (.int x) :: L) (.int x :: st) h Q := g_ldI rfl rfl
theorem g203_33 (hT : (zT h b).1 = 20) (hi : zin i (zT h b).2) : zG d 203 33 L (.int x :: .int i :: .ref b :: st) h Q = zG d 203 34 L st (wI h b i.toNatClampNeg (x)) Q := g_is (f1 := fun x => x) rfl hT hi
theorem g203_34 : zG d 203 34 (some (.ref a) :: L) st h Q = zG d 203 35 (some (.ref a) :: L) (.ref a :: st) h Q := g_ldA rfl rfl
theorem g203_35 (hT : zT h a = (2, 12)) : zG d 203 35 L (.ref a :: st) h Q = zG d 203 38 L (zR h a 1 :: st) h Q := g_gR rfl hT
theorem g203_38 : zG d 203 38 (l0 :: l1 :: l2 :: l3 :: l4 :: some (.int x) :: L) st h Q = zG d 203 40 (l0 :: l1 :: l2 :: l3 :: l4 :: some (.int x) :: L) (.int x :: st) h Q := g_ldI rfl rfl
theorem g203_40 : zG d 203 40 (l0 :: l1 :: some (.int x) :: L) st h Q = zG d 203 41 (l0 :: l1 :: some (.int x) :: L) (.int x :: st) h Q := g_ldI rfl rfl
theorem g203_41 (hT : (zT h b).1 = 20) (hi : zin i (zT h b).2) : zG d 203 41 L (.int x :: .int i :: .ref b :: st) h Q = zG d 203 42 L st (wI h b i.toNatClampNeg (x)) Q := g_is (f1 := fun x => x) rfl hT hi
theorem g203_42 : zG d 203 42 (some (.ref a) :: L) st h Q = zG d 203 43 (some (.ref a) :: L) (.ref a :: st) h Q := g_ldA rfl rfl
theorem g203_43 (hT : zT h a = (2, 12)) : zG d 203 43 L (.ref a :: st) h Q = zG d 203 46 L (zR h a 2 :: st) h Q := g_gR rfl hT
theorem g203_46 : zG d 203 46 (l0 :: l1 :: l2 :: l3 :: l4 :: some (.int x) :: L) st h Q = zG d 203 48 (l0 :: l1 :: l2 :: l3 :: l4 :: some (.int x) :: L) (.int x :: st) h Q := g_ldI rfl rfl
theorem g203_48 : zG d 203 48 (l0 :: l1 :: l2 :: some (.int x) :: L) st h Q = zG d 203 49 (l0 :: l1 :: l2 :: some (.int x) :: L) (.int x :: st) h Q := g_ldI rfl rfl
theorem g203_49 (hT : (zT h b).1 = 20) (hi : zin i (zT h b).2) : zG d 203 49 L (.int x :: .int i :: .ref b :: st) h Q = zG d 203 50 L st (wI h b i.toNatClampNeg (x)) Q := g_is (f1 := fun x => x) rfl hT hi
theorem g203_50 : zG d 203 50 (some (.ref a) :: L) st h Q = zG d 203 51 (some (.ref a) :: L) (.ref a :: st) h Q := g_ldA rfl rfl
theorem g203_51 : zG d 203 51 (l0 :: l1 :: l2 :: l3 :: l4 :: some (.int x) :: L) st h Q = zG d 203 53 (l0 :: l1 :: l2 :: l3 :: l4 :: some (.int x) :: L) (.int x :: st) h Q := g_ldI rfl rfl
theorem g203_53 : zG d 203 53 (l0 :: l1 :: l2 :: l3 :: some (.int x) :: L) st h Q = zG d 203 55 (l0 :: l1 :: l2 :: l3 :: some (.int x) :: L) (.int x :: st) h Q := g_ldI rfl rfl
theorem g203_55 (hT : (zT h a).1 = 2) : zG d 203 55 L [v1, v0, .ref a] h Q = zCall d 204 [.ref a, v0, v1] h (fun v h1 => zG d 203 58 L (zpush v []) h1 Q) := g_cV rfl rfl rfl rfl (Nat.le_of_ble_eq_true rfl) hT
theorem g203_58 : zG d 203 58 (some (.ref a) :: L) st h Q = zG d 203 59 (some (.ref a) :: L) (.ref a :: st) h Q := g_ldA rfl rfl
theorem g203_59 (hT : zT h a = (2, 12)) : zG d 203 59 L (.ref a :: st) h Q = zG d 203 62 L (zR h a 4 :: st) h Q := g_gR rfl hT
theorem g203_62 : zG d 203 62 (l0 :: l1 :: l2 :: l3 :: l4 :: some (.int x) :: L) st h Q = zG d 203 64 (l0 :: l1 :: l2 :: l3 :: l4 :: some (.int x) :: L) (.int x :: st) h Q := g_ldI rfl rfl
theorem g203_64 : zG d 203 64 L st h Q = zG d 203 65 L (.int 0 :: st) h Q := g_c rfl
theorem g203_65 (hT : (zT h b).1 = 20) (hi : zin i (zT h b).2) : zG d 203 65 L (.int x :: .int i :: .ref b :: st) h Q = zG d 203 66 L st (wI h b i.toNatClampNeg (x)) Q := g_is (f1 := fun x => x) rfl hT hi
theorem g203_66 : zG d 203 66 L st h Q = zG d 203 67 L (.int 0 :: st) h Q := g_c rfl
theorem g203_67 : zG d 203 67 (l0 :: l1 :: l2 :: l3 :: l4 :: l5 :: l6 :: L) (.int x :: st) h Q = zG d 203 69 (l0 :: l1 :: l2 :: l3 :: l4 :: kl l5 :: some (.int x) :: L) st h Q := g_stI rfl (by simp) rfl
theorem g203_69 : zG d 203 69 (l0 :: l1 :: l2 :: l3 :: l4 :: l5 :: some (.int x) :: L) st h Q = zG d 203 71 (l0 :: l1 :: l2 :: l3 :: l4 :: l5 :: some (.int x) :: L) (.int x :: st) h Q := g_ldI rfl rfl
theorem g203_71 : zG d 203 71 L st h Q = zG d 203 72 L (.int 4 :: st) h Q := g_c rfl
theorem g203_72 : zG d 203 72 L (.int z :: .int x :: st) h Q = if z ≤ x then zG d 203 92 L st h Q else zG d 203 75 L st h Q := g_i2 (P := fun x z => z ≤ x) rfl
theorem g203_75 : zG d 203 75 (some (.ref a) :: L) st h Q = zG d 203 76 (some (.ref a) :: L) (.ref a :: st) h Q := g_ldA rfl rfl
theorem g203_76 (hT : zT h a = (2, 12)) : zG d 203 76 L (.ref a :: st) h Q = zG d 203 79 L (zR h a 6 :: st) h Q := g_gR rfl hT
theorem g203_79 : zG d 203 79 (l0 :: l1 :: l2 :: l3 :: l4 :: some (.int x) :: L) st h Q = zG d 203 81 (l0 :: l1 :: l2 :: l3 :: l4 :: some (.int x) :: L) (.int x :: st) h Q := g_ldI rfl rfl
theorem g203_81 (hT : (zT h b).1 = 26) (hi : zin i (zT h b).2) : zG d 203 81 L (.int i :: .ref b :: st) h Q = zG d 203 82 L (zR h b i.toNatClampNeg :: st) h Q := g_ra rfl hT hi
theorem g203_82 : zG d 203 82 (l0 :: l1 :: l2 :: l3 :: l4 :: l5 :: some (.int x) :: L) st h Q = zG d 203 84 (l0 :: l1 :: l2 :: l3 :: l4 :: l5 :: some (.int x) :: L) (.int x :: st) h Q := g_ldI rfl rfl
theorem g203_84 : zG d 203 84 L st h Q = zG d 203 85 L (.int 0 :: st) h Q := g_c rfl
theorem g203_85 (hT : (zT h b).1 = 20) (hi : zin i (zT h b).2) : zG d 203 85 L (.int x :: .int i :: .ref b :: st) h Q = zG d 203 86 L st (wI h b i.toNatClampNeg (x)) Q := g_is (f1 := fun x => x) rfl hT hi
theorem g203_86 : zG d 203 86 (l0 :: l1 :: l2 :: l3 :: l4 :: l5 :: some (.int x) :: L) st h Q = zG d 203 89 (l0 :: l1 :: l2 :: l3 :: l4 :: kl l5 :: some (.int (x + 1)) :: L) st h Q := g_inc rfl rfl rfl
theorem g203_89 : zG d 203 89 L st h Q = zG d 203 69 L st h Q := g_go rfl
theorem g203_92 : zG d 203 92 (l0 :: l1 :: l2 :: l3 :: l4 :: some (.int x) :: L) st h Q = zG d 203 94 (l0 :: l1 :: l2 :: l3 :: l4 :: some (.int x) :: L) (.int x :: st) h Q := g_ldI rfl rfl
theorem g203_94 : zG d 203 94 L [.int x] h Q = Q (some (.int x)) h := g_rI (ok := fun _ => True) rfl trivial
theorem k203 {x0 : Int32} {x1 : Int32} {x2 : Int32} {x3 : Int32} : zCall (d + 1) 203 [.ref a, .int x0, .int x1, .int x2, .int x3] h Q = zG d 203 0 [some (.ref a), some (.int x0), some (.int x1), some (.int x2), some (.int x3), none, none] [] h Q := zCall_k (Nat.le_of_ble_eq_true rfl) rfl
theorem g204_0 : zG d 204 0 (some (.ref a) :: L) st h Q = zG d 204 1 (some (.ref a) :: L) (.ref a :: st) h Q := g_ldA rfl rfl
theorem g204_1 (hT : zT h a = (2, 12)) : zG d 204 1 L (.ref a :: st) h Q = zG d 204 4 L (zR h a 3 :: st) h Q := g_gR rfl hT
theorem g204_4 : zG d 204 4 (l0 :: some (.int x) :: L) st h Q = zG d 204 5 (l0 :: some (.int x) :: L) (.int x :: st) h Q := g_ldI rfl rfl
theorem g204_5 : zG d 204 5 (l0 :: l1 :: some (.int x) :: L) st h Q = zG d 204 6 (l0 :: l1 :: some (.int x) :: L) (.int x :: st) h Q := g_ldI rfl rfl
theorem g204_6 (hT : (zT h b).1 = 20) (hi : zin i (zT h b).2) : zG d 204 6 L (.int x :: .int i :: .ref b :: st) h Q = zG d 204 7 L st (wI h b i.toNatClampNeg (x)) Q := g_is (f1 := fun x => x) rfl hT hi
theorem g204_7 : zG d 204 7 (some (.ref a) :: L) st h Q = zG d 204 8 (some (.ref a) :: L) (.ref a :: st) h Q := g_ldA rfl rfl
theorem g204_8 (hT : zT h a = (2, 12)) : zG d 204 8 L (.ref a :: st) h Q = zG d 204 11 L (zR h a 5 :: st) h Q := g_gR rfl hT
theorem g204_11 : zG d 204 11 (l0 :: some (.int x) :: L) st h Q = zG d 204 12 (l0 :: some (.int x) :: L) (.int x :: st) h Q := g_ldI rfl rfl
theorem g204_12 : zG d 204 12 L st h Q = zG d 204 13 L (.int 0 :: st) h Q := g_c rfl
theorem g204_13 (hT : (zT h b).1 = 23) (hi : zin i (zT h b).2) : zG d 204 13 L (.int x :: .int i :: .ref b :: st) h Q = zG d 204 14 L st (wI h b i.toNatClampNeg (vp_nar .boolean x)) Q := g_is (f1 := fun x => vp_nar .boolean x) rfl hT hi
theorem g204_14 : zG d 204 14 L [] h Q = Q none h := g_rV rfl
theorem k204 {x0 : Int32} {x1 : Int32} : zCall (d + 1) 204 [.ref a, .int x0, .int x1] h Q = zG d 204 0 [some (.ref a), some (.int x0), some (.int x1)] [] h Q := zCall_k (Nat.le_of_ble_eq_true rfl) rfl
theorem g205_0 : zG d 205 0 (some (.ref a) :: L) st h Q = zG d 205 1 (some (.ref a) :: L) (.ref a :: st) h Q := g_ldA rfl rfl
theorem g205_1 (hT : zT h a = (2, 12)) : zG d 205 1 L (.ref a :: st) h Q = zG d 205 4 L (zR h a 2 :: st) h Q := g_gR rfl hT
theorem g205_4 : zG d 205 4 (l0 :: some (.int x) :: L) st h Q = zG d 205 5 (l0 :: some (.int x) :: L) (.int x :: st) h Q := g_ldI rfl rfl
theorem g205_5 : zG d 205 5 (some (.ref a) :: L) st h Q = zG d 205 6 (some (.ref a) :: L) (.ref a :: st) h Q := g_ldA rfl rfl
theorem g205_6 (hT : zT h a = (2, 12)) : zG d 205 6 L (.ref a :: st) h Q = zG d 205 9 L (zR h a 2 :: st) h Q := g_gR rfl hT
theorem g205_9 : zG d 205 9 (l0 :: some (.int x) :: L) st h Q = zG d 205 10 (l0 :: some (.int x) :: L) (.int x :: st) h Q := g_ldI rfl rfl
theorem g205_10 (hT : (zT h b).1 = 20) (hi : zin i (zT h b).2) : zG d 205 10 L (.int i :: .ref b :: st) h Q = zG d 205 11 L (.int (zI h b i.toNatClampNeg) :: st) h Q := g_ia rfl hT hi
theorem g205_11 : zG d 205 11 (l0 :: l1 :: some (.int x) :: L) st h Q = zG d 205 12 (l0 :: l1 :: some (.int x) :: L) (.int x :: st) h Q := g_ldI rfl rfl
theorem g205_12 : zG d 205 12 L (.int z :: .int x :: st) h Q = zG d 205 13 L (.int (x + z) :: st) h Q := g_b (f := fun x z => x + z) rfl
theorem g205_13 : zG d 205 13 L st h Q = zG d 205 15 L (.int 99 :: st) h Q := g_c rfl
theorem g205_15 (h4 : st.length ≤ 4) : zG d 205 15 L (.int z :: .int x :: st) h Q = zG d 205 18 L (.int (zmin x z) :: st) h Q := g_mm (f := fun x z => zmin x z) rfl h4
theorem g205_18 (hT : (zT h b).1 = 20) (hi : zin i (zT h b).2) : zG d 205 18 L (.int x :: .int i :: .ref b :: st) h Q = zG d 205 19 L st (wI h b i.toNatClampNeg (x)) Q := g_is (f1 := fun x => x) rfl hT hi
theorem g205_19 : zG d 205 19 L [] h Q = Q none h := g_rV rfl
theorem k205 {x0 : Int32} {x1 : Int32} : zCall (d + 1) 205 [.ref a, .int x0, .int x1] h Q = zG d 205 0 [some (.ref a), some (.int x0), some (.int x1)] [] h Q := zCall_k (Nat.le_of_ble_eq_true rfl) rfl
theorem g206_0 : zG d 206 0 (l0 :: some (.int x) :: L) st h Q = zG d 206 1 (l0 :: some (.int x) :: L) (.int x :: st) h Q := g_ldI rfl rfl
theorem g206_1 : zG d 206 1 (some (.ref a) :: L) st h Q = zG d 206 2 (some (.ref a) :: L) (.ref a :: st) h Q := g_ldA rfl rfl
theorem g206_2 (hT : zT h a = (2, 12)) : zG d 206 2 L (.ref a :: st) h Q = zG d 206 5 L (.int (zI h a 7) :: st) h Q := g_gI rfl hT
theorem g206_5 : zG d 206 5 L st h Q = zG d 206 6 L (.int 1 :: st) h Q := g_c rfl
theorem g206_6 : zG d 206 6 L (.int z :: .int x :: st) h Q = zG d 206 7 L (.int (x - z) :: st) h Q := g_b (f := fun x z => x - z) rfl
theorem g206_7 : zG d 206 7 L [v1, v0] h Q = zCall d 744 [v0, v1] h (fun v h1 => zG d 206 10 L (zpush v []) h1 Q) := g_cS rfl rfl (Nat.le_of_ble_eq_true rfl) rfl (Nat.le_of_ble_eq_true rfl)
theorem g206_10 : zG d 206 10 L (.int x :: st) h Q = if x = 0 then zG d 206 27 L st h Q else zG d 206 13 L st h Q := g_i1 (P := fun x => x = 0) rfl
theorem g206_13 : zG d 206 13 (some (.ref a) :: L) st h Q = zG d 206 14 (some (.ref a) :: L) (.ref a :: st) h Q := g_ldA rfl rfl
theorem g206_14 (hT : zT h a = (2, 12)) : zG d 206 14 L (.ref a :: st) h Q = zG d 206 17 L (zR h a 3 :: st) h Q := g_gR rfl hT
theorem g206_17 : zG d 206 17 (l0 :: some (.int x) :: L) st h Q = zG d 206 18 (l0 :: some (.int x) :: L) (.int x :: st) h Q := g_ldI rfl rfl
theorem g206_18 (hT : (zT h b).1 = 20) (hi : zin i (zT h b).2) : zG d 206 18 L (.int i :: .ref b :: st) h Q = zG d 206 19 L (.int (zI h b i.toNatClampNeg) :: st) h Q := g_ia rfl hT hi
theorem g206_19 : zG d 206 19 (l0 :: l1 :: some (.int x) :: L) st h Q = zG d 206 20 (l0 :: l1 :: some (.int x) :: L) (.int x :: st) h Q := g_ldI rfl rfl
theorem g206_20 : zG d 206 20 L (.int z :: .int x :: st) h Q = if ¬ x = z then zG d 206 27 L st h Q else zG d 206 23 L st h Q := g_i2 (P := fun x z => ¬ x = z) rfl
theorem g206_23 : zG d 206 23 L st h Q = zG d 206 24 L (.int 1 :: st) h Q := g_c rfl
theorem g206_24 : zG d 206 24 L st h Q = zG d 206 28 L st h Q := g_go rfl
theorem g206_27 : zG d 206 27 L st h Q = zG d 206 28 L (.int 0 :: st) h Q := g_c rfl
theorem g206_28 (hx : x = 0 ∨ x = 1) : zG d 206 28 L [.int x] h Q = Q (some (.int x)) h := g_rI (ok := fun x => x = 0 ∨ x = 1) rfl hx
theorem k206 {x0 : Int32} {x1 : Int32} : zCall (d + 1) 206 [.ref a, .int x0, .int x1] h Q = zG d 206 0 [some (.ref a), some (.int x0), some (.int x1)] [] h Q := zCall_k (Nat.le_of_ble_eq_true rfl) rfl
theorem g207_0 : zG d 207 0 (some (.ref a) :: L) st h Q = zG d 207 1 (some (.ref a) :: L) (.ref a :: st) h Q := g_ldA rfl rfl
theorem g207_1 (hT : zT h a = (2, 12)) : zG d 207 1 L (.ref a :: st) h Q = zG d 207 4 L (zR h a 3 :: st) h Q := g_gR rfl hT
theorem g207_4 : zG d 207 4 (l0 :: some (.int x) :: L) st h Q = zG d 207 5 (l0 :: some (.int x) :: L) (.int x :: st) h Q := g_ldI rfl rfl
theorem g207_5 (hT : (zT h b).1 = 20) (hi : zin i (zT h b).2) : zG d 207 5 L (.int i :: .ref b :: st) h Q = zG d 207 6 L (.int (zI h b i.toNatClampNeg) :: st) h Q := g_ia rfl hT hi
theorem g207_6 : zG d 207 6 L (.int x :: st) h Q = if x = 0 then zG d 207 24 L st h Q else zG d 207 9 L st h Q := g_i1 (P := fun x => x = 0) rfl
theorem g207_9 : zG d 207 9 (some (.ref a) :: L) st h Q = zG d 207 10 (some (.ref a) :: L) (.ref a :: st) h Q := g_ldA rfl rfl
theorem g207_10 (hT : zT h a = (2, 12)) : zG d 207 10 L (.ref a :: st) h Q = zG d 207 13 L (zR h a 3 :: st) h Q := g_gR rfl hT
theorem g207_13 : zG d 207 13 (l0 :: some (.int x) :: L) st h Q = zG d 207 14 (l0 :: some (.int x) :: L) (.int x :: st) h Q := g_ldI rfl rfl
theorem g207_14 (hT : (zT h b).1 = 20) (hi : zin i (zT h b).2) : zG d 207 14 L (.int i :: .ref b :: st) h Q = zG d 207 15 L (.int (zI h b i.toNatClampNeg) :: st) h Q := g_ia rfl hT hi
theorem g207_15 : zG d 207 15 L st h Q = zG d 207 17 L (.int 10 :: st) h Q := g_c rfl
theorem g207_17 : zG d 207 17 L (.int z :: .int x :: st) h Q = if x = z then zG d 207 24 L st h Q else zG d 207 20 L st h Q := g_i2 (P := fun x z => x = z) rfl
theorem g207_20 : zG d 207 20 L st h Q = zG d 207 21 L (.int 1 :: st) h Q := g_c rfl
theorem g207_21 : zG d 207 21 L st h Q = zG d 207 25 L st h Q := g_go rfl
theorem g207_24 : zG d 207 24 L st h Q = zG d 207 25 L (.int 0 :: st) h Q := g_c rfl
theorem g207_25 (hx : x = 0 ∨ x = 1) : zG d 207 25 L [.int x] h Q = Q (some (.int x)) h := g_rI (ok := fun x => x = 0 ∨ x = 1) rfl hx
theorem k207 {x0 : Int32} : zCall (d + 1) 207 [.ref a, .int x0] h Q = zG d 207 0 [some (.ref a), some (.int x0)] [] h Q := zCall_k (Nat.le_of_ble_eq_true rfl) rfl
theorem g208_0 : zG d 208 0 L st h Q = zG d 208 1 L (.int 0 :: st) h Q := g_c rfl
theorem g208_1 : zG d 208 1 (l0 :: l1 :: l2 :: L) (.int x :: st) h Q = zG d 208 2 (l0 :: kl l1 :: some (.int x) :: L) st h Q := g_stI rfl (by simp) rfl
theorem g208_2 : zG d 208 2 L st h Q = zG d 208 3 L (.int 0 :: st) h Q := g_c rfl
theorem g208_3 : zG d 208 3 (l0 :: l1 :: l2 :: l3 :: L) (.int x :: st) h Q = zG d 208 4 (l0 :: l1 :: kl l2 :: some (.int x) :: L) st h Q := g_stI rfl (by simp) rfl
theorem g208_4 : zG d 208 4 (l0 :: l1 :: l2 :: some (.int x) :: L) st h Q = zG d 208 5 (l0 :: l1 :: l2 :: some (.int x) :: L) (.int x :: st) h Q := g_ldI rfl rfl
theorem g208_5 : zG d 208 5 (some (.ref a) :: L) st h Q = zG d 208 6 (some (.ref a) :: L) (.ref a :: st) h Q := g_ldA rfl rfl
theorem g208_6 (hT : zT h a = (2, 12)) : zG d 208 6 L (.ref a :: st) h Q = zG d 208 9 L (.int (zI h a 7) :: st) h Q := g_gI rfl hT
theorem g208_9 : zG d 208 9 L (.int z :: .int x :: st) h Q = if z ≤ x then zG d 208 34 L st h Q else zG d 208 12 L st h Q := g_i2 (P := fun x z => z ≤ x) rfl
theorem g208_12 : zG d 208 12 (some (.ref a) :: L) st h Q = zG d 208 13 (some (.ref a) :: L) (.ref a :: st) h Q := g_ldA rfl rfl
theorem g208_13 (hT : zT h a = (2, 12)) : zG d 208 13 L (.ref a :: st) h Q = zG d 208 16 L (zR h a 3 :: st) h Q := g_gR rfl hT
theorem g208_16 : zG d 208 16 (l0 :: l1 :: l2 :: some (.int x) :: L) st h Q = zG d 208 17 (l0 :: l1 :: l2 :: some (.int x) :: L) (.int x :: st) h Q := g_ldI rfl rfl
theorem g208_17 (hT : (zT h b).1 = 20) (hi : zin i (zT h b).2) : zG d 208 17 L (.int i :: .ref b :: st) h Q = zG d 208 18 L (.int (zI h b i.toNatClampNeg) :: st) h Q := g_ia rfl hT hi
theorem g208_18 : zG d 208 18 (l0 :: some (.int x) :: L) st h Q = zG d 208 19 (l0 :: some (.int x) :: L) (.int x :: st) h Q := g_ldI rfl rfl
theorem g208_19 : zG d 208 19 L (.int z :: .int x :: st) h Q = if ¬ x = z then zG d 208 28 L st h Q else zG d 208 22 L st h Q := g_i2 (P := fun x z => ¬ x = z) rfl
theorem g208_22 : zG d 208 22 (l0 :: l1 :: some (.int x) :: L) st h Q = zG d 208 23 (l0 :: l1 :: some (.int x) :: L) (.int x :: st) h Q := g_ldI rfl rfl
theorem g208_23 : zG d 208 23 L st h Q = zG d 208 24 L (.int 1 :: st) h Q := g_c rfl
theorem g208_24 : zG d 208 24 (l0 :: l1 :: l2 :: some (.int x) :: L) st h Q = zG d 208 25 (l0 :: l1 :: l2 :: some (.int x) :: L) (.int x :: st) h Q := g_ldI rfl rfl
theorem g208_25 : zG d 208 25 L (.int z :: .int x :: st) h Q = zG d 208 26 L (.int (x <<< (z &&& 31)) :: st) h Q := g_b (f := fun x z => x <<< (z &&& 31)) rfl
theorem g208_26 : zG d 208 26 L (.int z :: .int x :: st) h Q = zG d 208 27 L (.int (x ||| z) :: st) h Q := g_b (f := fun x z => x ||| z) rfl
theorem g208_27 : zG d 208 27 (l0 :: l1 :: l2 :: L) (.int x :: st) h Q = zG d 208 28 (l0 :: kl l1 :: some (.int x) :: L) st h Q := g_stI rfl (by simp) rfl
theorem g208_28 : zG d 208 28 (l0 :: l1 :: l2 :: some (.int x) :: L) st h Q = zG d 208 31 (l0 :: l1 :: kl l2 :: some (.int (x + 1)) :: L) st h Q := g_inc rfl rfl rfl
theorem g208_31 : zG d 208 31 L st h Q = zG d 208 4 L st h Q := g_go rfl
theorem g208_34 : zG d 208 34 (l0 :: l1 :: some (.int x) :: L) st h Q = zG d 208 35 (l0 :: l1 :: some (.int x) :: L) (.int x :: st) h Q := g_ldI rfl rfl
theorem g208_35 : zG d 208 35 L [.int x] h Q = Q (some (.int x)) h := g_rI (ok := fun _ => True) rfl trivial
theorem k208 {x0 : Int32} : zCall (d + 1) 208 [.ref a, .int x0] h Q = zG d 208 0 [some (.ref a), some (.int x0), none, none] [] h Q := zCall_k (Nat.le_of_ble_eq_true rfl) rfl
theorem g209_0 : zG d 209 0 L st h Q = zG d 209 1 L (.int 0 :: st) h Q := g_c rfl
theorem g209_1 : zG d 209 1 (l0 :: l1 :: L) (.int x :: st) h Q = zG d 209 2 (kl l0 :: some (.int x) :: L) st h Q := g_stI rfl (by simp) rfl
theorem g209_2 : zG d 209 2 L st h Q = zG d 209 3 L (.int 0 :: st) h Q := g_c rfl
theorem g209_3 : zG d 209 3 (l0 :: l1 :: l2 :: L) (.int x :: st) h Q = zG d 209 4 (l0 :: kl l1 :: some (.int x) :: L) st h Q := g_stI rfl (by simp) rfl
theorem g209_4 : zG d 209 4 (l0 :: l1 :: some (.int x) :: L) st h Q = zG d 209 5 (l0 :: l1 :: some (.int x) :: L) (.int x :: st) h Q := g_ldI rfl rfl
theorem g209_5 : zG d 209 5 (some (.ref a) :: L) st h Q = zG d 209 6 (some (.ref a) :: L) (.ref a :: st) h Q := g_ldA rfl rfl
theorem g209_6 (hT : zT h a = (2, 12)) : zG d 209 6 L (.ref a :: st) h Q = zG d 209 9 L (.int (zI h a 7) :: st) h Q := g_gI rfl hT
theorem g209_9 : zG d 209 9 L (.int z :: .int x :: st) h Q = if z ≤ x then zG d 209 33 L st h Q else zG d 209 12 L st h Q := g_i2 (P := fun x z => z ≤ x) rfl
theorem g209_12 : zG d 209 12 (some (.ref a) :: L) st h Q = zG d 209 13 (some (.ref a) :: L) (.ref a :: st) h Q := g_ldA rfl rfl
theorem g209_13 (hT : zT h a = (2, 12)) : zG d 209 13 L (.ref a :: st) h Q = zG d 209 16 L (zR h a 5 :: st) h Q := g_gR rfl hT
theorem g209_16 : zG d 209 16 (l0 :: l1 :: some (.int x) :: L) st h Q = zG d 209 17 (l0 :: l1 :: some (.int x) :: L) (.int x :: st) h Q := g_ldI rfl rfl
theorem g209_17 (hT : (zT h b).1 = 23) (hi : zin i (zT h b).2) : zG d 209 17 L (.int i :: .ref b :: st) h Q = zG d 209 18 L (.int (zI h b i.toNatClampNeg) :: st) h Q := g_ia rfl hT hi
theorem g209_18 : zG d 209 18 L (.int x :: st) h Q = if x = 0 then zG d 209 27 L st h Q else zG d 209 21 L st h Q := g_i1 (P := fun x => x = 0) rfl
theorem g209_21 : zG d 209 21 (l0 :: some (.int x) :: L) st h Q = zG d 209 22 (l0 :: some (.int x) :: L) (.int x :: st) h Q := g_ldI rfl rfl
theorem g209_22 : zG d 209 22 L st h Q = zG d 209 23 L (.int 1 :: st) h Q := g_c rfl
theorem g209_23 : zG d 209 23 (l0 :: l1 :: some (.int x) :: L) st h Q = zG d 209 24 (l0 :: l1 :: some (.int x) :: L) (.int x :: st) h Q := g_ldI rfl rfl
theorem g209_24 : zG d 209 24 L (.int z :: .int x :: st) h Q = zG d 209 25 L (.int (x <<< (z &&& 31)) :: st) h Q := g_b (f := fun x z => x <<< (z &&& 31)) rfl
theorem g209_25 : zG d 209 25 L (.int z :: .int x :: st) h Q = zG d 209 26 L (.int (x ||| z) :: st) h Q := g_b (f := fun x z => x ||| z) rfl
theorem g209_26 : zG d 209 26 (l0 :: l1 :: L) (.int x :: st) h Q = zG d 209 27 (kl l0 :: some (.int x) :: L) st h Q := g_stI rfl (by simp) rfl
theorem g209_27 : zG d 209 27 (l0 :: l1 :: some (.int x) :: L) st h Q = zG d 209 30 (l0 :: kl l1 :: some (.int (x + 1)) :: L) st h Q := g_inc rfl rfl rfl
theorem g209_30 : zG d 209 30 L st h Q = zG d 209 4 L st h Q := g_go rfl
theorem g209_33 : zG d 209 33 (l0 :: some (.int x) :: L) st h Q = zG d 209 34 (l0 :: some (.int x) :: L) (.int x :: st) h Q := g_ldI rfl rfl
theorem g209_34 : zG d 209 34 L [.int x] h Q = Q (some (.int x)) h := g_rI (ok := fun _ => True) rfl trivial
theorem k209  : zCall (d + 1) 209 [.ref a] h Q = zG d 209 0 [some (.ref a), none, none] [] h Q := zCall_k (Nat.le_of_ble_eq_true rfl) rfl
theorem g210_0 : zG d 210 0 L st h Q = zG d 210 1 L (.int 0 :: st) h Q := g_c rfl
theorem g210_1 : zG d 210 1 (l0 :: l1 :: l2 :: L) (.int x :: st) h Q = zG d 210 2 (l0 :: kl l1 :: some (.int x) :: L) st h Q := g_stI rfl (by simp) rfl
theorem g210_2 : zG d 210 2 (l0 :: l1 :: some (.int x) :: L) st h Q = zG d 210 3 (l0 :: l1 :: some (.int x) :: L) (.int x :: st) h Q := g_ldI rfl rfl
theorem g210_3 : zG d 210 3 (l0 :: some (.int x) :: L) st h Q = zG d 210 4 (l0 :: some (.int x) :: L) (.int x :: st) h Q := g_ldI rfl rfl
theorem g210_4 : zG d 210 4 L (.int z :: .int x :: st) h Q = if z ≤ x then zG d 210 44 L st h Q else zG d 210 7 L st h Q := g_i2 (P := fun x z => z ≤ x) rfl
theorem g210_7 : zG d 210 7 L st h Q = zG d 210 8 L (.int 0 :: st) h Q := g_c rfl
theorem g210_8 : zG d 210 8 (l0 :: l1 :: l2 :: l3 :: L) (.int x :: st) h Q = zG d 210 9 (l0 :: l1 :: kl l2 :: some (.int x) :: L) st h Q := g_stI rfl (by simp) rfl
theorem g210_9 : zG d 210 9 (l0 :: l1 :: l2 :: some (.int x) :: L) st h Q = zG d 210 10 (l0 :: l1 :: l2 :: some (.int x) :: L) (.int x :: st) h Q := g_ldI rfl rfl
theorem g210_10 : zG d 210 10 (some (.ref a) :: L) st h Q = zG d 210 11 (some (.ref a) :: L) (.ref a :: st) h Q := g_ldA rfl rfl
theorem g210_11 (hT : zT h a = (2, 12)) : zG d 210 11 L (.ref a :: st) h Q = zG d 210 14 L (.int (zI h a 7) :: st) h Q := g_gI rfl hT
theorem g210_14 : zG d 210 14 L (.int z :: .int x :: st) h Q = if z ≤ x then zG d 210 28 L st h Q else zG d 210 17 L st h Q := g_i2 (P := fun x z => z ≤ x) rfl
theorem g210_17 : zG d 210 17 (some (.ref a) :: L) st h Q = zG d 210 18 (some (.ref a) :: L) (.ref a :: st) h Q := g_ldA rfl rfl
theorem g210_18 : zG d 210 18 (l0 :: l1 :: l2 :: some (.int x) :: L) st h Q = zG d 210 19 (l0 :: l1 :: l2 :: some (.int x) :: L) (.int x :: st) h Q := g_ldI rfl rfl
theorem g210_19 (hT : (zT h a).1 = 2) : zG d 210 19 L [v0, .ref a] h Q = zCall d 211 [.ref a, v0] h (fun v h1 => zG d 210 22 L (zpush v []) h1 Q) := g_cV rfl rfl rfl rfl (Nat.le_of_ble_eq_true rfl) hT
theorem g210_22 : zG d 210 22 (l0 :: l1 :: l2 :: some (.int x) :: L) st h Q = zG d 210 25 (l0 :: l1 :: kl l2 :: some (.int (x + 1)) :: L) st h Q := g_inc rfl rfl rfl
theorem g210_25 : zG d 210 25 L st h Q = zG d 210 9 L st h Q := g_go rfl
theorem g210_28 : zG d 210 28 (some (.ref a) :: L) st h Q = zG d 210 29 (some (.ref a) :: L) (.ref a :: st) h Q := g_ldA rfl rfl
theorem g210_29 : zG d 210 29 L (.ref a :: st) h Q = zG d 210 30 L (.ref a :: .ref a :: st) h Q := g_dupA rfl
theorem g210_30 (hT : zT h a = (2, 12)) : zG d 210 30 L (.ref a :: st) h Q = zG d 210 33 L (.int (zI h a 9) :: st) h Q := g_gI rfl hT
theorem g210_33 : zG d 210 33 L st h Q = zG d 210 34 L (.int 1 :: st) h Q := g_c rfl
theorem g210_34 : zG d 210 34 L (.int z :: .int x :: st) h Q = zG d 210 35 L (.int (x + z) :: st) h Q := g_b (f := fun x z => x + z) rfl
theorem g210_35 (hT : zT h a = (2, 12)) : zG d 210 35 L (.int x :: .ref a :: st) h Q = zG d 210 38 L st (wI h a 9 x) Q := g_pI rfl hT
theorem g210_38 : zG d 210 38 (l0 :: l1 :: some (.int x) :: L) st h Q = zG d 210 41 (l0 :: kl l1 :: some (.int (x + 1)) :: L) st h Q := g_inc rfl rfl rfl
theorem g210_41 : zG d 210 41 L st h Q = zG d 210 2 L st h Q := g_go rfl
theorem g210_44 : zG d 210 44 L [] h Q = Q none h := g_rV rfl
theorem k210 {x0 : Int32} : zCall (d + 1) 210 [.ref a, .int x0] h Q = zG d 210 0 [some (.ref a), some (.int x0), none, none] [] h Q := zCall_k (Nat.le_of_ble_eq_true rfl) rfl
theorem g211_0 : zG d 211 0 (some (.ref a) :: L) st h Q = zG d 211 1 (some (.ref a) :: L) (.ref a :: st) h Q := g_ldA rfl rfl
theorem g211_1 (hT : zT h a = (2, 12)) : zG d 211 1 L (.ref a :: st) h Q = zG d 211 4 L (zR h a 3 :: st) h Q := g_gR rfl hT
theorem g211_4 : zG d 211 4 (l0 :: some (.int x) :: L) st h Q = zG d 211 5 (l0 :: some (.int x) :: L) (.int x :: st) h Q := g_ldI rfl rfl
theorem g211_5 (hT : (zT h b).1 = 20) (hi : zin i (zT h b).2) : zG d 211 5 L (.int i :: .ref b :: st) h Q = zG d 211 6 L (.int (zI h b i.toNatClampNeg) :: st) h Q := g_ia rfl hT hi
theorem g211_6 : zG d 211 6 L st h Q = zG d 211 8 L (.int 10 :: st) h Q := g_c rfl
theorem g211_8 : zG d 211 8 L (.int z :: .int x :: st) h Q = if ¬ x = z then zG d 211 12 L st h Q else zG d 211 11 L st h Q := g_i2 (P := fun x z => ¬ x = z) rfl
theorem g211_11 : zG d 211 11 L [] h Q = Q none h := g_rV rfl
theorem g211_12 : zG d 211 12 (some (.ref a) :: L) st h Q = zG d 211 13 (some (.ref a) :: L) (.ref a :: st) h Q := g_ldA rfl rfl
theorem g211_13 (hT : zT h a = (2, 12)) : zG d 211 13 L (.ref a :: st) h Q = zG d 211 16 L (zR h a 3 :: st) h Q := g_gR rfl hT
theorem g211_16 : zG d 211 16 (l0 :: some (.int x) :: L) st h Q = zG d 211 17 (l0 :: some (.int x) :: L) (.int x :: st) h Q := g_ldI rfl rfl
theorem g211_17 : zG d 211 17 L (.int x :: .ref a :: st) h Q = zG d 211 18 L (.int x :: .ref a :: .int x :: .ref a :: st) h Q := g_dup2 rfl
theorem g211_18 (hT : (zT h b).1 = 20) (hi : zin i (zT h b).2) : zG d 211 18 L (.int i :: .ref b :: st) h Q = zG d 211 19 L (.int (zI h b i.toNatClampNeg) :: st) h Q := g_ia rfl hT hi
theorem g211_19 : zG d 211 19 (some (.ref a) :: L) st h Q = zG d 211 20 (some (.ref a) :: L) (.ref a :: st) h Q := g_ldA rfl rfl
theorem g211_20 (hT : zT h a = (2, 12)) : zG d 211 20 L (.ref a :: st) h Q = zG d 211 23 L (zR h a 5 :: st) h Q := g_gR rfl hT
theorem g211_23 : zG d 211 23 (l0 :: some (.int x) :: L) st h Q = zG d 211 24 (l0 :: some (.int x) :: L) (.int x :: st) h Q := g_ldI rfl rfl
theorem g211_24 (hT : (zT h b).1 = 23) (hi : zin i (zT h b).2) : zG d 211 24 L (.int i :: .ref b :: st) h Q = zG d 211 25 L (.int (zI h b i.toNatClampNeg) :: st) h Q := g_ia rfl hT hi
theorem g211_25 : zG d 211 25 L (.int x :: st) h Q = if x = 0 then zG d 211 32 L st h Q else zG d 211 28 L st h Q := g_i1 (P := fun x => x = 0) rfl
theorem g211_28 : zG d 211 28 L st h Q = zG d 211 29 L (.int (-1) :: st) h Q := g_c rfl
theorem g211_29 : zG d 211 29 L st h Q = zG d 211 33 L st h Q := g_go rfl
theorem g211_32 : zG d 211 32 L st h Q = zG d 211 33 L (.int 1 :: st) h Q := g_c rfl
theorem g211_33 : zG d 211 33 L (.int z :: .int x :: st) h Q = zG d 211 34 L (.int (x + z) :: st) h Q := g_b (f := fun x z => x + z) rfl
theorem g211_34 (hT : (zT h b).1 = 20) (hi : zin i (zT h b).2) : zG d 211 34 L (.int x :: .int i :: .ref b :: st) h Q = zG d 211 35 L st (wI h b i.toNatClampNeg (x)) Q := g_is (f1 := fun x => x) rfl hT hi
theorem g211_35 : zG d 211 35 (some (.ref a) :: L) st h Q = zG d 211 36 (some (.ref a) :: L) (.ref a :: st) h Q := g_ldA rfl rfl
theorem g211_36 (hT : zT h a = (2, 12)) : zG d 211 36 L (.ref a :: st) h Q = zG d 211 39 L (zR h a 3 :: st) h Q := g_gR rfl hT
theorem g211_39 : zG d 211 39 (l0 :: some (.int x) :: L) st h Q = zG d 211 40 (l0 :: some (.int x) :: L) (.int x :: st) h Q := g_ldI rfl rfl
theorem g211_40 (hT : (zT h b).1 = 20) (hi : zin i (zT h b).2) : zG d 211 40 L (.int i :: .ref b :: st) h Q = zG d 211 41 L (.int (zI h b i.toNatClampNeg) :: st) h Q := g_ia rfl hT hi
theorem g211_41 : zG d 211 41 L (.int x :: st) h Q = if ¬ x = 0 then zG d 211 51 L st h Q else zG d 211 44 L st h Q := g_i1 (P := fun x => ¬ x = 0) rfl
theorem g211_44 : zG d 211 44 (some (.ref a) :: L) st h Q = zG d 211 45 (some (.ref a) :: L) (.ref a :: st) h Q := g_ldA rfl rfl
theorem g211_45 (hT : zT h a = (2, 12)) : zG d 211 45 L (.ref a :: st) h Q = zG d 211 48 L (zR h a 5 :: st) h Q := g_gR rfl hT
theorem g211_48 : zG d 211 48 (l0 :: some (.int x) :: L) st h Q = zG d 211 49 (l0 :: some (.int x) :: L) (.int x :: st) h Q := g_ldI rfl rfl
theorem g211_49 : zG d 211 49 L st h Q = zG d 211 50 L (.int 0 :: st) h Q := g_c rfl
theorem g211_50 (hT : (zT h b).1 = 23) (hi : zin i (zT h b).2) : zG d 211 50 L (.int x :: .int i :: .ref b :: st) h Q = zG d 211 51 L st (wI h b i.toNatClampNeg (vp_nar .boolean x)) Q := g_is (f1 := fun x => vp_nar .boolean x) rfl hT hi
theorem g211_51 : zG d 211 51 (some (.ref a) :: L) st h Q = zG d 211 52 (some (.ref a) :: L) (.ref a :: st) h Q := g_ldA rfl rfl
theorem g211_52 (hT : zT h a = (2, 12)) : zG d 211 52 L (.ref a :: st) h Q = zG d 211 55 L (zR h a 3 :: st) h Q := g_gR rfl hT
theorem g211_55 : zG d 211 55 (l0 :: some (.int x) :: L) st h Q = zG d 211 56 (l0 :: some (.int x) :: L) (.int x :: st) h Q := g_ldI rfl rfl
theorem g211_56 (hT : (zT h b).1 = 20) (hi : zin i (zT h b).2) : zG d 211 56 L (.int i :: .ref b :: st) h Q = zG d 211 57 L (.int (zI h b i.toNatClampNeg) :: st) h Q := g_ia rfl hT hi
theorem g211_57 : zG d 211 57 L st h Q = zG d 211 58 L (.int 5 :: st) h Q := g_c rfl
theorem g211_58 : zG d 211 58 L (.int z :: .int x :: st) h Q = if ¬ x = z then zG d 211 70 L st h Q else zG d 211 61 L st h Q := g_i2 (P := fun x z => ¬ x = z) rfl
theorem g211_61 : zG d 211 61 (some (.ref a) :: L) st h Q = zG d 211 62 (some (.ref a) :: L) (.ref a :: st) h Q := g_ldA rfl rfl
theorem g211_62 (hT : zT h a = (2, 12)) : zG d 211 62 L (.ref a :: st) h Q = zG d 211 65 L (zR h a 5 :: st) h Q := g_gR rfl hT
theorem g211_65 : zG d 211 65 (l0 :: some (.int x) :: L) st h Q = zG d 211 66 (l0 :: some (.int x) :: L) (.int x :: st) h Q := g_ldI rfl rfl
theorem g211_66 (hT : (zT h b).1 = 23) (hi : zin i (zT h b).2) : zG d 211 66 L (.int i :: .ref b :: st) h Q = zG d 211 67 L (.int (zI h b i.toNatClampNeg) :: st) h Q := g_ia rfl hT hi
theorem g211_67 : zG d 211 67 L (.int x :: st) h Q = if x = 0 then zG d 211 71 L st h Q else zG d 211 70 L st h Q := g_i1 (P := fun x => x = 0) rfl
theorem g211_70 : zG d 211 70 L [] h Q = Q none h := g_rV rfl
theorem g211_71 : zG d 211 71 (some (.ref a) :: L) st h Q = zG d 211 72 (some (.ref a) :: L) (.ref a :: st) h Q := g_ldA rfl rfl
theorem g211_72 : zG d 211 72 (l0 :: some (.int x) :: L) st h Q = zG d 211 73 (l0 :: some (.int x) :: L) (.int x :: st) h Q := g_ldI rfl rfl
theorem g211_73 (hT : (zT h a).1 = 2) : zG d 211 73 L [v0, .ref a] h Q = zCall d 212 [.ref a, v0] h (fun v h1 => zG d 211 76 L (zpush v []) h1 Q) := g_cV rfl rfl rfl rfl (Nat.le_of_ble_eq_true rfl) hT
theorem g211_76 : zG d 211 76 (l0 :: l1 :: l2 :: L) (.int x :: st) h Q = zG d 211 77 (l0 :: kl l1 :: some (.int x) :: L) st h Q := g_stI rfl (by simp) rfl
theorem g211_77 : zG d 211 77 (l0 :: l1 :: some (.int x) :: L) st h Q = zG d 211 78 (l0 :: l1 :: some (.int x) :: L) (.int x :: st) h Q := g_ldI rfl rfl
theorem g211_78 : zG d 211 78 L (.int x :: st) h Q = if x ≤ 0 then zG d 211 132 L st h Q else zG d 211 81 L st h Q := g_i1 (P := fun x => x ≤ 0) rfl
theorem g211_81 : zG d 211 81 (l0 :: l1 :: some (.int x) :: L) st h Q = zG d 211 82 (l0 :: l1 :: some (.int x) :: L) (.int x :: st) h Q := g_ldI rfl rfl
theorem g211_82 : zG d 211 82 (some (.ref a) :: L) st h Q = zG d 211 83 (some (.ref a) :: L) (.ref a :: st) h Q := g_ldA rfl rfl
theorem g211_83 (hT : zT h a = (2, 12)) : zG d 211 83 L (.ref a :: st) h Q = zG d 211 86 L (.int (zI h a 8) :: st) h Q := g_gI rfl hT
theorem g211_86 : zG d 211 86 L (.int z :: .int x :: st) h Q = if z < x then zG d 211 132 L st h Q else zG d 211 89 L st h Q := g_i2 (P := fun x z => z < x) rfl
theorem g211_89 : zG d 211 89 (l0 :: l1 :: some (.int x) :: L) st h Q = zG d 211 90 (l0 :: l1 :: some (.int x) :: L) (.int x :: st) h Q := g_ldI rfl rfl
theorem g211_90 : zG d 211 90 (some (.ref a) :: L) st h Q = zG d 211 91 (some (.ref a) :: L) (.ref a :: st) h Q := g_ldA rfl rfl
theorem g211_91 (hT : zT h a = (2, 12)) : zG d 211 91 L (.ref a :: st) h Q = zG d 211 94 L (zR h a 2 :: st) h Q := g_gR rfl hT
theorem g211_94 : zG d 211 94 (l0 :: some (.int x) :: L) st h Q = zG d 211 95 (l0 :: some (.int x) :: L) (.int x :: st) h Q := g_ldI rfl rfl
theorem g211_95 (hT : (zT h b).1 = 20) (hi : zin i (zT h b).2) : zG d 211 95 L (.int i :: .ref b :: st) h Q = zG d 211 96 L (.int (zI h b i.toNatClampNeg) :: st) h Q := g_ia rfl hT hi
theorem g211_96 : zG d 211 96 L (.int z :: .int x :: st) h Q = if x < z then zG d 211 132 L st h Q else zG d 211 99 L st h Q := g_i2 (P := fun x z => x < z) rfl
theorem g211_99 : zG d 211 99 (some (.ref a) :: L) st h Q = zG d 211 100 (some (.ref a) :: L) (.ref a :: st) h Q := g_ldA rfl rfl
theorem g211_100 : zG d 211 100 L (.ref a :: st) h Q = zG d 211 101 L (.ref a :: .ref a :: st) h Q := g_dupA rfl
theorem g211_101 (hT : zT h a = (2, 12)) : zG d 211 101 L (.ref a :: st) h Q = zG d 211 104 L (.int (zI h a 8) :: st) h Q := g_gI rfl hT
theorem g211_104 : zG d 211 104 (l0 :: l1 :: some (.int x) :: L) st h Q = zG d 211 105 (l0 :: l1 :: some (.int x) :: L) (.int x :: st) h Q := g_ldI rfl rfl
theorem g211_105 : zG d 211 105 L (.int z :: .int x :: st) h Q = zG d 211 106 L (.int (x - z) :: st) h Q := g_b (f := fun x z => x - z) rfl
theorem g211_106 (hT : zT h a = (2, 12)) : zG d 211 106 L (.int x :: .ref a :: st) h Q = zG d 211 109 L st (wI h a 8 x) Q := g_pI rfl hT
theorem g211_109 : zG d 211 109 (some (.ref a) :: L) st h Q = zG d 211 110 (some (.ref a) :: L) (.ref a :: st) h Q := g_ldA rfl rfl
theorem g211_110 (hT : zT h a = (2, 12)) : zG d 211 110 L (.ref a :: st) h Q = zG d 211 113 L (zR h a 5 :: st) h Q := g_gR rfl hT
theorem g211_113 : zG d 211 113 (l0 :: some (.int x) :: L) st h Q = zG d 211 114 (l0 :: some (.int x) :: L) (.int x :: st) h Q := g_ldI rfl rfl
theorem g211_114 : zG d 211 114 L st h Q = zG d 211 115 L (.int 1 :: st) h Q := g_c rfl
theorem g211_115 (hT : (zT h b).1 = 23) (hi : zin i (zT h b).2) : zG d 211 115 L (.int x :: .int i :: .ref b :: st) h Q = zG d 211 116 L st (wI h b i.toNatClampNeg (vp_nar .boolean x)) Q := g_is (f1 := fun x => vp_nar .boolean x) rfl hT hi
theorem g211_116 : zG d 211 116 (some (.ref a) :: L) st h Q = zG d 211 117 (some (.ref a) :: L) (.ref a :: st) h Q := g_ldA rfl rfl
theorem g211_117 (hT : zT h a = (2, 12)) : zG d 211 117 L (.ref a :: st) h Q = zG d 211 120 L (zR h a 4 :: st) h Q := g_gR rfl hT
theorem g211_120 : zG d 211 120 (l0 :: some (.int x) :: L) st h Q = zG d 211 121 (l0 :: some (.int x) :: L) (.int x :: st) h Q := g_ldI rfl rfl
theorem g211_121 : zG d 211 121 L (.int x :: .ref a :: st) h Q = zG d 211 122 L (.int x :: .ref a :: .int x :: .ref a :: st) h Q := g_dup2 rfl
theorem g211_122 (hT : (zT h b).1 = 20) (hi : zin i (zT h b).2) : zG d 211 122 L (.int i :: .ref b :: st) h Q = zG d 211 123 L (.int (zI h b i.toNatClampNeg) :: st) h Q := g_ia rfl hT hi
theorem g211_123 : zG d 211 123 L st h Q = zG d 211 124 L (.int 1 :: st) h Q := g_c rfl
theorem g211_124 : zG d 211 124 L (.int z :: .int x :: st) h Q = zG d 211 125 L (.int (x + z) :: st) h Q := g_b (f := fun x z => x + z) rfl
theorem g211_125 (hT : (zT h b).1 = 20) (hi : zin i (zT h b).2) : zG d 211 125 L (.int x :: .int i :: .ref b :: st) h Q = zG d 211 126 L st (wI h b i.toNatClampNeg (x)) Q := g_is (f1 := fun x => x) rfl hT hi
theorem g211_126 : zG d 211 126 (some (.ref a) :: L) st h Q = zG d 211 127 (some (.ref a) :: L) (.ref a :: st) h Q := g_ldA rfl rfl
theorem g211_127 : zG d 211 127 (l0 :: some (.int x) :: L) st h Q = zG d 211 128 (l0 :: some (.int x) :: L) (.int x :: st) h Q := g_ldI rfl rfl
theorem g211_128 : zG d 211 128 L st h Q = zG d 211 129 L (.int 3 :: st) h Q := g_c rfl
theorem g211_129 (hT : (zT h a).1 = 2) : zG d 211 129 L [v1, v0, .ref a] h Q = zCall d 205 [.ref a, v0, v1] h (fun v h1 => zG d 211 132 L (zpush v []) h1 Q) := g_cV rfl rfl rfl rfl (Nat.le_of_ble_eq_true rfl) hT
theorem g211_132 : zG d 211 132 L [] h Q = Q none h := g_rV rfl
theorem k211 {x0 : Int32} : zCall (d + 1) 211 [.ref a, .int x0] h Q = zG d 211 0 [some (.ref a), some (.int x0), none] [] h Q := zCall_k (Nat.le_of_ble_eq_true rfl) rfl
theorem g212_0 : zG d 212 0 (some (.ref a) :: L) st h Q = zG d 212 1 (some (.ref a) :: L) (.ref a :: st) h Q := g_ldA rfl rfl
theorem g212_1 (hT : (zT h a).1 = 2) : zG d 212 1 L [.ref a] h Q = zCall d 213 [.ref a] h (fun v h1 => zG d 212 4 L (zpush v []) h1 Q) := g_cV rfl rfl rfl rfl (Nat.le_of_ble_eq_true rfl) hT
theorem g212_4 : zG d 212 4 (l0 :: l1 :: l2 :: L) (.int x :: st) h Q = zG d 212 5 (l0 :: kl l1 :: some (.int x) :: L) st h Q := g_stI rfl (by simp) rfl
theorem g212_5 : zG d 212 5 (some (.ref a) :: L) st h Q = zG d 212 6 (some (.ref a) :: L) (.ref a :: st) h Q := g_ldA rfl rfl
theorem g212_6 (hT : zT h a = (2, 12)) : zG d 212 6 L (.ref a :: st) h Q = zG d 212 9 L (zR h a 10 :: st) h Q := g_gR rfl hT
theorem g212_9_n : zG d 212 9 L (.null :: st) h Q = zG d 212 24 L st h Q := g_nul0 rfl
theorem g212_9 (hT : (zT h a).1 < 20) : zG d 212 9 L (.ref a :: st) h Q = zG d 212 12 L st h Q := g_nul1 rfl hT
theorem g212_12 : zG d 212 12 (l0 :: l1 :: some (.int x) :: L) st h Q = zG d 212 13 (l0 :: l1 :: some (.int x) :: L) (.int x :: st) h Q := g_ldI rfl rfl
theorem g212_13 : zG d 212 13 (some (.ref a) :: L) st h Q = zG d 212 14 (some (.ref a) :: L) (.ref a :: st) h Q := g_ldA rfl rfl
theorem g212_14 (hT : zT h a = (2, 12)) : zG d 212 14 L (.ref a :: st) h Q = zG d 212 17 L (zR h a 10 :: st) h Q := g_gR rfl hT
theorem g212_17 : zG d 212 17 (some (.ref a) :: L) st h Q = zG d 212 18 (some (.ref a) :: L) (.ref a :: st) h Q := g_ldA rfl rfl
theorem g212_18 : zG d 212 18 (l0 :: some (.int x) :: L) st h Q = zG d 212 19 (l0 :: some (.int x) :: L) (.int x :: st) h Q := g_ldI rfl rfl
theorem g212_19 {s0 : Int32} (hT : (zT h a).1 = 4) : zG d 212 19 L [v1, v0, .ref a, .int s0] h Q = zCall d 404 [.ref a, v0, v1] h (fun v h1 => zG d 212 22 L (zpush v [.int s0]) h1 Q) := g_cV rfl rfl rfl rfl (Nat.le_of_ble_eq_true rfl) hT
theorem g212_22 : zG d 212 22 L (.int z :: .int x :: st) h Q = zG d 212 23 L (.int (x + z) :: st) h Q := g_b (f := fun x z => x + z) rfl
theorem g212_23 : zG d 212 23 (l0 :: l1 :: l2 :: L) (.int x :: st) h Q = zG d 212 24 (l0 :: kl l1 :: some (.int x) :: L) st h Q := g_stI rfl (by simp) rfl
theorem g212_24 : zG d 212 24 (some (.ref a) :: L) st h Q = zG d 212 25 (some (.ref a) :: L) (.ref a :: st) h Q := g_ldA rfl rfl
theorem g212_25 (hT : zT h a = (2, 12)) : zG d 212 25 L (.ref a :: st) h Q = zG d 212 28 L (zR h a 0 :: st) h Q := g_gR rfl hT
theorem g212_28 : zG d 212 28 (l0 :: some (.int x) :: L) st h Q = zG d 212 29 (l0 :: some (.int x) :: L) (.int x :: st) h Q := g_ldI rfl rfl
theorem g212_29 (hT : (zT h b).1 = 20) (hi : zin i (zT h b).2) : zG d 212 29 L (.int i :: .ref b :: st) h Q = zG d 212 30 L (.int (zI h b i.toNatClampNeg) :: st) h Q := g_ia rfl hT hi
theorem g212_30 : zG d 212 30 L (.int x :: st) h Q = if x = 1 then zG d 212 68 L st h Q else if x = 2 then zG d 212 100 L st h Q else if x = 3 then zG d 212 124 L st h Q else if x = 4 then zG d 212 77 L st h Q else if x = 5 then zG d 212 104 L st h Q else if x = 6 then zG d 212 138 L st h Q else zG d 212 166 L st h Q := g_sw (c := 166) (ps := [(1, 68), (2, 100), (3, 124), (4, 77), (5, 104), (6, 138)]) rfl
theorem g212_68 : zG d 212 68 (l0 :: l1 :: some (.int x) :: L) st h Q = zG d 212 69 (l0 :: l1 :: some (.int x) :: L) (.int x :: st) h Q := g_ldI rfl rfl
theorem g212_69 : zG d 212 69 (some (.ref a) :: L) st h Q = zG d 212 70 (some (.ref a) :: L) (.ref a :: st) h Q := g_ldA rfl rfl
theorem g212_70 (hT : zT h a = (2, 12)) : zG d 212 70 L (.ref a :: st) h Q = zG d 212 73 L (zR h a 1 :: st) h Q := g_gR rfl hT
theorem g212_73 : zG d 212 73 (l0 :: some (.int x) :: L) st h Q = zG d 212 74 (l0 :: some (.int x) :: L) (.int x :: st) h Q := g_ldI rfl rfl
theorem g212_74 (hT : (zT h b).1 = 20) (hi : zin i (zT h b).2) : zG d 212 74 L (.int i :: .ref b :: st) h Q = zG d 212 75 L (.int (zI h b i.toNatClampNeg) :: st) h Q := g_ia rfl hT hi
theorem g212_75 : zG d 212 75 L (.int z :: .int x :: st) h Q = zG d 212 76 L (.int (x + z) :: st) h Q := g_b (f := fun x z => x + z) rfl
theorem g212_76 : zG d 212 76 L [.int x] h Q = Q (some (.int x)) h := g_rI (ok := fun _ => True) rfl trivial
theorem g212_77 : zG d 212 77 (l0 :: l1 :: some (.int x) :: L) st h Q = zG d 212 78 (l0 :: l1 :: some (.int x) :: L) (.int x :: st) h Q := g_ldI rfl rfl
theorem g212_78 : zG d 212 78 (some (.ref a) :: L) st h Q = zG d 212 79 (some (.ref a) :: L) (.ref a :: st) h Q := g_ldA rfl rfl
theorem g212_79 (hT : zT h a = (2, 12)) : zG d 212 79 L (.ref a :: st) h Q = zG d 212 82 L (zR h a 1 :: st) h Q := g_gR rfl hT
theorem g212_82 : zG d 212 82 (l0 :: some (.int x) :: L) st h Q = zG d 212 83 (l0 :: some (.int x) :: L) (.int x :: st) h Q := g_ldI rfl rfl
theorem g212_83 (hT : (zT h b).1 = 20) (hi : zin i (zT h b).2) : zG d 212 83 L (.int i :: .ref b :: st) h Q = zG d 212 84 L (.int (zI h b i.toNatClampNeg) :: st) h Q := g_ia rfl hT hi
theorem g212_84 : zG d 212 84 L (.int z :: .int x :: st) h Q = zG d 212 85 L (.int (x + z) :: st) h Q := g_b (f := fun x z => x + z) rfl
theorem g212_85 : zG d 212 85 (some (.ref a) :: L) st h Q = zG d 212 86 (some (.ref a) :: L) (.ref a :: st) h Q := g_ldA rfl rfl
theorem g212_86 : zG d 212 86 (l0 :: some (.int x) :: L) st h Q = zG d 212 87 (l0 :: some (.int x) :: L) (.int x :: st) h Q := g_ldI rfl rfl
theorem g212_87 {s0 : Int32} (hT : (zT h a).1 = 2) : zG d 212 87 L [v0, .ref a, .int s0] h Q = zCall d 214 [.ref a, v0] h (fun v h1 => zG d 212 90 L (zpush v [.int s0]) h1 Q) := g_cV rfl rfl rfl rfl (Nat.le_of_ble_eq_true rfl) hT
theorem g212_90 : zG d 212 90 L (.int x :: st) h Q = if x = 0 then zG d 212 97 L st h Q else zG d 212 93 L st h Q := g_i1 (P := fun x => x = 0) rfl
theorem g212_93 : zG d 212 93 L st h Q = zG d 212 94 L (.int 2 :: st) h Q := g_c rfl
theorem g212_94 : zG d 212 94 L st h Q = zG d 212 98 L st h Q := g_go rfl
theorem g212_97 : zG d 212 97 L st h Q = zG d 212 98 L (.int 1 :: st) h Q := g_c rfl
theorem g212_98 : zG d 212 98 L (.int z :: .int x :: st) h Q = zG d 212 99 L (.int (x * z) :: st) h Q := g_b (f := fun x z => x * z) rfl
theorem g212_99 : zG d 212 99 L [.int x] h Q = Q (some (.int x)) h := g_rI (ok := fun _ => True) rfl trivial
theorem g212_100 : zG d 212 100 (l0 :: l1 :: some (.int x) :: L) st h Q = zG d 212 101 (l0 :: l1 :: some (.int x) :: L) (.int x :: st) h Q := g_ldI rfl rfl
theorem g212_101 : zG d 212 101 L st h Q = zG d 212 102 L (.int 2 :: st) h Q := g_c rfl
theorem g212_102 (hz : ¬ z = 0) : zG d 212 102 L (.int z :: .int x :: st) h Q = zG d 212 103 L (.int (x / z) :: st) h Q := g_d (f := fun x z => x / z) rfl hz
theorem g212_103 : zG d 212 103 L [.int x] h Q = Q (some (.int x)) h := g_rI (ok := fun _ => True) rfl trivial
theorem g212_104 : zG d 212 104 (l0 :: l1 :: some (.int x) :: L) st h Q = zG d 212 105 (l0 :: l1 :: some (.int x) :: L) (.int x :: st) h Q := g_ldI rfl rfl
theorem g212_105 : zG d 212 105 L st h Q = zG d 212 106 L (.int 2 :: st) h Q := g_c rfl
theorem g212_106 (hz : ¬ z = 0) : zG d 212 106 L (.int z :: .int x :: st) h Q = zG d 212 107 L (.int (x / z) :: st) h Q := g_d (f := fun x z => x / z) rfl hz
theorem g212_107 : zG d 212 107 (some (.ref a) :: L) st h Q = zG d 212 108 (some (.ref a) :: L) (.ref a :: st) h Q := g_ldA rfl rfl
theorem g212_108 (hT : zT h a = (2, 12)) : zG d 212 108 L (.ref a :: st) h Q = zG d 212 111 L (.int (zI h a 9) :: st) h Q := g_gI rfl hT
theorem g212_111 : zG d 212 111 L st h Q = zG d 212 113 L (.int 7 :: st) h Q := g_c rfl
theorem g212_113 (hz : ¬ z = 0) : zG d 212 113 L (.int z :: .int x :: st) h Q = zG d 212 114 L (.int (x - x / z * z) :: st) h Q := g_d (f := fun x z => x - x / z * z) rfl hz
theorem g212_114 : zG d 212 114 L (.int x :: st) h Q = if ¬ x = 0 then zG d 212 121 L st h Q else zG d 212 117 L st h Q := g_i1 (P := fun x => ¬ x = 0) rfl
theorem g212_117 : zG d 212 117 L st h Q = zG d 212 118 L (.int 5 :: st) h Q := g_c rfl
theorem g212_118 : zG d 212 118 L st h Q = zG d 212 122 L st h Q := g_go rfl
theorem g212_121 : zG d 212 121 L st h Q = zG d 212 122 L (.int 0 :: st) h Q := g_c rfl
theorem g212_122 : zG d 212 122 L (.int z :: .int x :: st) h Q = zG d 212 123 L (.int (x + z) :: st) h Q := g_b (f := fun x z => x + z) rfl
theorem g212_123 : zG d 212 123 L [.int x] h Q = Q (some (.int x)) h := g_rI (ok := fun _ => True) rfl trivial
theorem g212_124 : zG d 212 124 (l0 :: l1 :: some (.int x) :: L) st h Q = zG d 212 125 (l0 :: l1 :: some (.int x) :: L) (.int x :: st) h Q := g_ldI rfl rfl
theorem g212_125 : zG d 212 125 (some (.ref a) :: L) st h Q = zG d 212 126 (some (.ref a) :: L) (.ref a :: st) h Q := g_ldA rfl rfl
theorem g212_126 (hT : zT h a = (2, 12)) : zG d 212 126 L (.ref a :: st) h Q = zG d 212 129 L (zR h a 4 :: st) h Q := g_gR rfl hT
theorem g212_129 : zG d 212 129 (l0 :: some (.int x) :: L) st h Q = zG d 212 130 (l0 :: some (.int x) :: L) (.int x :: st) h Q := g_ldI rfl rfl
theorem g212_130 (hT : (zT h b).1 = 20) (hi : zin i (zT h b).2) : zG d 212 130 L (.int i :: .ref b :: st) h Q = zG d 212 131 L (.int (zI h b i.toNatClampNeg) :: st) h Q := g_ia rfl hT hi
theorem g212_131 : zG d 212 131 L st h Q = zG d 212 133 L (.int 10 :: st) h Q := g_c rfl
theorem g212_133 (h4 : st.length ≤ 4) : zG d 212 133 L (.int z :: .int x :: st) h Q = zG d 212 136 L (.int (zmin x z) :: st) h Q := g_mm (f := fun x z => zmin x z) rfl h4
theorem g212_136 : zG d 212 136 L (.int z :: .int x :: st) h Q = zG d 212 137 L (.int (x - z) :: st) h Q := g_b (f := fun x z => x - z) rfl
theorem g212_137 : zG d 212 137 L [.int x] h Q = Q (some (.int x)) h := g_rI (ok := fun _ => True) rfl trivial
theorem g212_138 : zG d 212 138 (l0 :: l1 :: some (.int x) :: L) st h Q = zG d 212 139 (l0 :: l1 :: some (.int x) :: L) (.int x :: st) h Q := g_ldI rfl rfl
theorem g212_139 : zG d 212 139 (some (.ref a) :: L) st h Q = zG d 212 140 (some (.ref a) :: L) (.ref a :: st) h Q := g_ldA rfl rfl
theorem g212_140 (hT : zT h a = (2, 12)) : zG d 212 140 L (.ref a :: st) h Q = zG d 212 143 L (zR h a 4 :: st) h Q := g_gR rfl hT
theorem g212_143 : zG d 212 143 (l0 :: some (.int x) :: L) st h Q = zG d 212 144 (l0 :: some (.int x) :: L) (.int x :: st) h Q := g_ldI rfl rfl
theorem g212_144 (hT : (zT h b).1 = 20) (hi : zin i (zT h b).2) : zG d 212 144 L (.int i :: .ref b :: st) h Q = zG d 212 145 L (.int (zI h b i.toNatClampNeg) :: st) h Q := g_ia rfl hT hi
theorem g212_145 : zG d 212 145 L st h Q = zG d 212 147 L (.int 10 :: st) h Q := g_c rfl
theorem g212_147 (h4 : st.length ≤ 4) : zG d 212 147 L (.int z :: .int x :: st) h Q = zG d 212 150 L (.int (zmin x z) :: st) h Q := g_mm (f := fun x z => zmin x z) rfl h4
theorem g212_150 : zG d 212 150 L (.int z :: .int x :: st) h Q = zG d 212 151 L (.int (x - z) :: st) h Q := g_b (f := fun x z => x - z) rfl
theorem g212_151 : zG d 212 151 (some (.ref a) :: L) st h Q = zG d 212 152 (some (.ref a) :: L) (.ref a :: st) h Q := g_ldA rfl rfl
theorem g212_152 (hT : zT h a = (2, 12)) : zG d 212 152 L (.ref a :: st) h Q = zG d 212 155 L (zR h a 6 :: st) h Q := g_gR rfl hT
theorem g212_155 : zG d 212 155 (l0 :: some (.int x) :: L) st h Q = zG d 212 156 (l0 :: some (.int x) :: L) (.int x :: st) h Q := g_ldI rfl rfl
theorem g212_156 (hT : (zT h b).1 = 26) (hi : zin i (zT h b).2) : zG d 212 156 L (.int i :: .ref b :: st) h Q = zG d 212 157 L (zR h b i.toNatClampNeg :: st) h Q := g_ra rfl hT hi
theorem g212_157 : zG d 212 157 (some (.ref a) :: L) st h Q = zG d 212 158 (some (.ref a) :: L) (.ref a :: st) h Q := g_ldA rfl rfl
theorem g212_158 (hT : zT h a = (2, 12)) : zG d 212 158 L (.ref a :: st) h Q = zG d 212 161 L (.int (zI h a 9) :: st) h Q := g_gI rfl hT
theorem g212_161 : zG d 212 161 L st h Q = zG d 212 162 L (.int 4 :: st) h Q := g_c rfl
theorem g212_162 (hz : ¬ z = 0) : zG d 212 162 L (.int z :: .int x :: st) h Q = zG d 212 163 L (.int (x - x / z * z) :: st) h Q := g_d (f := fun x z => x - x / z * z) rfl hz
theorem g212_163 (hT : (zT h b).1 = 20) (hi : zin i (zT h b).2) : zG d 212 163 L (.int i :: .ref b :: st) h Q = zG d 212 164 L (.int (zI h b i.toNatClampNeg) :: st) h Q := g_ia rfl hT hi
theorem g212_164 : zG d 212 164 L (.int z :: .int x :: st) h Q = zG d 212 165 L (.int (x + z) :: st) h Q := g_b (f := fun x z => x + z) rfl
theorem g212_165 : zG d 212 165 L [.int x] h Q = Q (some (.int x)) h := g_rI (ok := fun _ => True) rfl trivial
theorem g212_166 : zG d 212 166 (l0 :: l1 :: some (.int x) :: L) st h Q = zG d 212 167 (l0 :: l1 :: some (.int x) :: L) (.int x :: st) h Q := g_ldI rfl rfl
theorem g212_167 : zG d 212 167 L [.int x] h Q = Q (some (.int x)) h := g_rI (ok := fun _ => True) rfl trivial
theorem k212 {x0 : Int32} : zCall (d + 1) 212 [.ref a, .int x0] h Q = zG d 212 0 [some (.ref a), some (.int x0), none] [] h Q := zCall_k (Nat.le_of_ble_eq_true rfl) rfl
theorem g213_0 : zG d 213 0 (some (.ref a) :: L) st h Q = zG d 213 1 (some (.ref a) :: L) (.ref a :: st) h Q := g_ldA rfl rfl
theorem g213_1 (hT : zT h a = (2, 12)) : zG d 213 1 L (.ref a :: st) h Q = zG d 213 4 L (.int (zI h a 11) :: st) h Q := g_gI rfl hT
theorem g213_4 : zG d 213 4 L (.int x :: st) h Q = if x < 0 then zG d 213 12 L st h Q else zG d 213 7 L st h Q := g_i1 (P := fun x => x < 0) rfl
theorem g213_7 : zG d 213 7 (some (.ref a) :: L) st h Q = zG d 213 8 (some (.ref a) :: L) (.ref a :: st) h Q := g_ldA rfl rfl
theorem g213_8 (hT : zT h a = (2, 12)) : zG d 213 8 L (.ref a :: st) h Q = zG d 213 11 L (.int (zI h a 11) :: st) h Q := g_gI rfl hT
theorem g213_11 : zG d 213 11 L [.int x] h Q = Q (some (.int x)) h := g_rI (ok := fun _ => True) rfl trivial
theorem g213_12 : zG d 213 12 (some (.ref a) :: L) st h Q = zG d 213 13 (some (.ref a) :: L) (.ref a :: st) h Q := g_ldA rfl rfl
theorem g213_13 (hT : zT h a = (2, 12)) : zG d 213 13 L (.ref a :: st) h Q = zG d 213 16 L (zR h a 10 :: st) h Q := g_gR rfl hT
theorem g213_16_n : zG d 213 16 L (.null :: st) h Q = zG d 213 19 L st h Q := g_nul0 rfl
theorem g213_16 (hT : (zT h a).1 < 20) : zG d 213 16 L (.ref a :: st) h Q = zG d 213 24 L st h Q := g_nul1 rfl hT
theorem g213_19 : zG d 213 19 L st h Q = zG d 213 21 L (.int 10 :: st) h Q := g_c rfl
theorem g213_21 : zG d 213 21 L st h Q = zG d 213 31 L st h Q := g_go rfl
theorem g213_24 : zG d 213 24 (some (.ref a) :: L) st h Q = zG d 213 25 (some (.ref a) :: L) (.ref a :: st) h Q := g_ldA rfl rfl
theorem g213_25 (hT : zT h a = (2, 12)) : zG d 213 25 L (.ref a :: st) h Q = zG d 213 28 L (zR h a 10 :: st) h Q := g_gR rfl hT
theorem g213_28 (hT : zT h a = (4, 3)) : zG d 213 28 L (.ref a :: st) h Q = zG d 213 31 L (.int (zI h a 2) :: st) h Q := g_gI rfl hT
theorem g213_31 : zG d 213 31 L [.int x] h Q = Q (some (.int x)) h := g_rI (ok := fun _ => True) rfl trivial
theorem k213  : zCall (d + 1) 213 [.ref a] h Q = zG d 213 0 [some (.ref a)] [] h Q := zCall_k (Nat.le_of_ble_eq_true rfl) rfl
theorem g214_0 : zG d 214 0 (some (.ref a) :: L) st h Q = zG d 214 1 (some (.ref a) :: L) (.ref a :: st) h Q := g_ldA rfl rfl
theorem g214_1 : zG d 214 1 L st h Q = zG d 214 2 L (.int 5 :: st) h Q := g_c rfl
theorem g214_2 (hT : (zT h a).1 = 2) : zG d 214 2 L [v0, .ref a] h Q = zCall d 208 [.ref a, v0] h (fun v h1 => zG d 214 5 L (zpush v []) h1 Q) := g_cV rfl rfl rfl rfl (Nat.le_of_ble_eq_true rfl) hT
theorem g214_5 : zG d 214 5 L st h Q = zG d 214 6 L (.int 1 :: st) h Q := g_c rfl
theorem g214_6 : zG d 214 6 (l0 :: some (.int x) :: L) st h Q = zG d 214 7 (l0 :: some (.int x) :: L) (.int x :: st) h Q := g_ldI rfl rfl
theorem g214_7 : zG d 214 7 L (.int z :: .int x :: st) h Q = zG d 214 8 L (.int (x <<< (z &&& 31)) :: st) h Q := g_b (f := fun x z => x <<< (z &&& 31)) rfl
theorem g214_8 : zG d 214 8 L st h Q = zG d 214 9 L (.int (-1) :: st) h Q := g_c rfl
theorem g214_9 : zG d 214 9 L (.int z :: .int x :: st) h Q = zG d 214 10 L (.int (x ^^^ z) :: st) h Q := g_b (f := fun x z => x ^^^ z) rfl
theorem g214_10 : zG d 214 10 L (.int z :: .int x :: st) h Q = zG d 214 11 L (.int (x &&& z) :: st) h Q := g_b (f := fun x z => x &&& z) rfl
theorem g214_11 : zG d 214 11 L (.int x :: st) h Q = if x = 0 then zG d 214 18 L st h Q else zG d 214 14 L st h Q := g_i1 (P := fun x => x = 0) rfl
theorem g214_14 : zG d 214 14 L st h Q = zG d 214 15 L (.int 1 :: st) h Q := g_c rfl
theorem g214_15 : zG d 214 15 L st h Q = zG d 214 19 L st h Q := g_go rfl
theorem g214_18 : zG d 214 18 L st h Q = zG d 214 19 L (.int 0 :: st) h Q := g_c rfl
theorem g214_19 (hx : x = 0 ∨ x = 1) : zG d 214 19 L [.int x] h Q = Q (some (.int x)) h := g_rI (ok := fun x => x = 0 ∨ x = 1) rfl hx
theorem k214 {x0 : Int32} : zCall (d + 1) 214 [.ref a, .int x0] h Q = zG d 214 0 [some (.ref a), some (.int x0)] [] h Q := zCall_k (Nat.le_of_ble_eq_true rfl) rfl
theorem g215_0 : zG d 215 0 (l0 :: some (.int x) :: L) st h Q = zG d 215 1 (l0 :: some (.int x) :: L) (.int x :: st) h Q := g_ldI rfl rfl
theorem g215_1 : zG d 215 1 L (.int x :: st) h Q = if x = 107 then zG d 215 70 L st h Q else if x = 108 then zG d 215 104 L st h Q else if x = 109 then zG d 215 104 L st h Q else if x = 110 then zG d 215 104 L st h Q else if x = 111 then zG d 215 104 L st h Q else if x = 112 then zG d 215 68 L st h Q else if x = 113 then zG d 215 104 L st h Q else if x = 114 then zG d 215 104 L st h Q else if x = 115 then zG d 215 104 L st h Q else if x = 116 then zG d 215 94 L st h Q else if x = 117 then zG d 215 104 L st h Q else if x = 118 then zG d 215 77 L st h Q else if x = 119 then zG d 215 84 L st h Q else zG d 215 104 L st h Q := g_sw (c := 104) (ps := [(107, 70), (108, 104), (109, 104), (110, 104), (111, 104), (112, 68), (113, 104), (114, 104), (115, 104), (116, 94), (117, 104), (118, 77), (119, 84)]) rfl
theorem g215_68 : zG d 215 68 (l0 :: l1 :: some (.int x) :: L) st h Q = zG d 215 69 (l0 :: l1 :: some (.int x) :: L) (.int x :: st) h Q := g_ldI rfl rfl
theorem g215_69 : zG d 215 69 L [.int x] h Q = Q (some (.int x)) h := g_rI (ok := fun _ => True) rfl trivial
theorem g215_70 : zG d 215 70 (some (.ref a) :: L) st h Q = zG d 215 71 (some (.ref a) :: L) (.ref a :: st) h Q := g_ldA rfl rfl
theorem g215_71 (hT : zT h a = (2, 12)) : zG d 215 71 L (.ref a :: st) h Q = zG d 215 74 L (zR h a 0 :: st) h Q := g_gR rfl hT
theorem g215_74 : zG d 215 74 (l0 :: l1 :: some (.int x) :: L) st h Q = zG d 215 75 (l0 :: l1 :: some (.int x) :: L) (.int x :: st) h Q := g_ldI rfl rfl
theorem g215_75 (hT : (zT h b).1 = 20) (hi : zin i (zT h b).2) : zG d 215 75 L (.int i :: .ref b :: st) h Q = zG d 215 76 L (.int (zI h b i.toNatClampNeg) :: st) h Q := g_ia rfl hT hi
theorem g215_76 : zG d 215 76 L [.int x] h Q = Q (some (.int x)) h := g_rI (ok := fun _ => True) rfl trivial
theorem g215_77 : zG d 215 77 (some (.ref a) :: L) st h Q = zG d 215 78 (some (.ref a) :: L) (.ref a :: st) h Q := g_ldA rfl rfl
theorem g215_78 (hT : zT h a = (2, 12)) : zG d 215 78 L (.ref a :: st) h Q = zG d 215 81 L (zR h a 1 :: st) h Q := g_gR rfl hT
theorem g215_81 : zG d 215 81 (l0 :: l1 :: some (.int x) :: L) st h Q = zG d 215 82 (l0 :: l1 :: some (.int x) :: L) (.int x :: st) h Q := g_ldI rfl rfl
theorem g215_82 (hT : (zT h b).1 = 20) (hi : zin i (zT h b).2) : zG d 215 82 L (.int i :: .ref b :: st) h Q = zG d 215 83 L (.int (zI h b i.toNatClampNeg) :: st) h Q := g_ia rfl hT hi
theorem g215_83 : zG d 215 83 L [.int x] h Q = Q (some (.int x)) h := g_rI (ok := fun _ => True) rfl trivial
theorem g215_84 : zG d 215 84 (some (.ref a) :: L) st h Q = zG d 215 85 (some (.ref a) :: L) (.ref a :: st) h Q := g_ldA rfl rfl
theorem g215_85 (hT : zT h a = (2, 12)) : zG d 215 85 L (.ref a :: st) h Q = zG d 215 88 L (zR h a 2 :: st) h Q := g_gR rfl hT
theorem g215_88 : zG d 215 88 (l0 :: l1 :: some (.int x) :: L) st h Q = zG d 215 89 (l0 :: l1 :: some (.int x) :: L) (.int x :: st) h Q := g_ldI rfl rfl
theorem g215_89 (hT : (zT h b).1 = 20) (hi : zin i (zT h b).2) : zG d 215 89 L (.int i :: .ref b :: st) h Q = zG d 215 90 L (.int (zI h b i.toNatClampNeg) :: st) h Q := g_ia rfl hT hi
theorem g215_90 : zG d 215 90 L st h Q = zG d 215 92 L (.int 10 :: st) h Q := g_c rfl
theorem g215_92 (hz : ¬ z = 0) : zG d 215 92 L (.int z :: .int x :: st) h Q = zG d 215 93 L (.int (x / z) :: st) h Q := g_d (f := fun x z => x / z) rfl hz
theorem g215_93 : zG d 215 93 L [.int x] h Q = Q (some (.int x)) h := g_rI (ok := fun _ => True) rfl trivial
theorem g215_94 : zG d 215 94 (some (.ref a) :: L) st h Q = zG d 215 95 (some (.ref a) :: L) (.ref a :: st) h Q := g_ldA rfl rfl
theorem g215_95 (hT : zT h a = (2, 12)) : zG d 215 95 L (.ref a :: st) h Q = zG d 215 98 L (zR h a 4 :: st) h Q := g_gR rfl hT
theorem g215_98 : zG d 215 98 (l0 :: l1 :: some (.int x) :: L) st h Q = zG d 215 99 (l0 :: l1 :: some (.int x) :: L) (.int x :: st) h Q := g_ldI rfl rfl
theorem g215_99 (hT : (zT h b).1 = 20) (hi : zin i (zT h b).2) : zG d 215 99 L (.int i :: .ref b :: st) h Q = zG d 215 100 L (.int (zI h b i.toNatClampNeg) :: st) h Q := g_ia rfl hT hi
theorem g215_100 : zG d 215 100 L st h Q = zG d 215 102 L (.int 10 :: st) h Q := g_c rfl
theorem g215_102 (hz : ¬ z = 0) : zG d 215 102 L (.int z :: .int x :: st) h Q = zG d 215 103 L (.int (x - x / z * z) :: st) h Q := g_d (f := fun x z => x - x / z * z) rfl hz
theorem g215_103 : zG d 215 103 L [.int x] h Q = Q (some (.int x)) h := g_rI (ok := fun _ => True) rfl trivial
theorem g215_104 : zG d 215 104 (some (.ref a) :: L) st h Q = zG d 215 105 (some (.ref a) :: L) (.ref a :: st) h Q := g_ldA rfl rfl
theorem g215_105 (hT : zT h a = (2, 12)) : zG d 215 105 L (.ref a :: st) h Q = zG d 215 108 L (.int (zI h a 9) :: st) h Q := g_gI rfl hT
theorem g215_108 : zG d 215 108 L st h Q = zG d 215 110 L (.int 10 :: st) h Q := g_c rfl
theorem g215_110 (hz : ¬ z = 0) : zG d 215 110 L (.int z :: .int x :: st) h Q = zG d 215 111 L (.int (x - x / z * z) :: st) h Q := g_d (f := fun x z => x - x / z * z) rfl hz
theorem g215_111 : zG d 215 111 L [.int x] h Q = Q (some (.int x)) h := g_rI (ok := fun _ => True) rfl trivial
theorem k215 {x0 : Int32} {x1 : Int32} : zCall (d + 1) 215 [.ref a, .int x0, .int x1] h Q = zG d 215 0 [some (.ref a), some (.int x0), some (.int x1)] [] h Q := zCall_k (Nat.le_of_ble_eq_true rfl) rfl
theorem g301_0 : zG d 301 0 (some (.ref a) :: L) st h Q = zG d 301 1 (some (.ref a) :: L) (.ref a :: st) h Q := g_ldA rfl rfl
theorem g301_1 (hT : (zT h a).1 < 20) : zG d 301 1 L [.ref a] h Q = zG d 301 4 L [] h Q := g_oi rfl hT
theorem g301_4 : zG d 301 4 (l0 :: some (.int x) :: L) st h Q = zG d 301 5 (l0 :: some (.int x) :: L) (.int x :: st) h Q := g_ldI rfl rfl
theorem g301_5 : zG d 301 5 L st h Q = zG d 301 6 L (.int 0 :: st) h Q := g_c rfl
theorem g301_6 (h4 : st.length ≤ 4) : zG d 301 6 L (.int z :: .int x :: st) h Q = zG d 301 9 L (.int (zmax x z) :: st) h Q := g_mm (f := fun x z => zmax x z) rfl h4
theorem g301_9 : zG d 301 9 (l0 :: l1 :: l2 :: L) (.int x :: st) h Q = zG d 301 10 (l0 :: kl l1 :: some (.int x) :: L) st h Q := g_stI rfl (by simp) rfl
theorem g301_10 : zG d 301 10 (some (.ref a) :: L) st h Q = zG d 301 11 (some (.ref a) :: L) (.ref a :: st) h Q := g_ldA rfl rfl
theorem g301_11 : zG d 301 11 (l0 :: l1 :: some (.int x) :: L) st h Q = zG d 301 12 (l0 :: l1 :: some (.int x) :: L) (.int x :: st) h Q := g_ldI rfl rfl
theorem g301_12 (hx : ¬ x < 0 ∧ x.toNatClampNeg ≤ 1000) : zG d 301 12 L (.int x :: st) h Q = zG d 301 14 L (.ref (zN h) :: st) (wN h (20, x.toNatClampNeg)) Q := g_na rfl hx
theorem g301_14 (hT : zT h a = (3, 4)) : zG d 301 14 L (.ref b :: .ref a :: st) h Q = zG d 301 17 L st (wR h a 0 (.ref b)) Q := g_pR rfl hT
theorem g301_14_n (hT : zT h a = (3, 4)) : zG d 301 14 L (.null :: .ref a :: st) h Q = zG d 301 17 L st (wR h a 0 .null) Q := g_pR0 rfl hT
theorem g301_17 : zG d 301 17 (some (.ref a) :: L) st h Q = zG d 301 18 (some (.ref a) :: L) (.ref a :: st) h Q := g_ldA rfl rfl
theorem g301_18 : zG d 301 18 (l0 :: l1 :: some (.int x) :: L) st h Q = zG d 301 19 (l0 :: l1 :: some (.int x) :: L) (.int x :: st) h Q := g_ldI rfl rfl
theorem g301_19 (hx : ¬ x < 0 ∧ x.toNatClampNeg ≤ 1000) : zG d 301 19 L (.int x :: st) h Q = zG d 301 21 L (.ref (zN h) :: st) (wN h (20, x.toNatClampNeg)) Q := g_na rfl hx
theorem g301_21 (hT : zT h a = (3, 4)) : zG d 301 21 L (.ref b :: .ref a :: st) h Q = zG d 301 24 L st (wR h a 1 (.ref b)) Q := g_pR rfl hT
theorem g301_21_n (hT : zT h a = (3, 4)) : zG d 301 21 L (.null :: .ref a :: st) h Q = zG d 301 24 L st (wR h a 1 .null) Q := g_pR0 rfl hT
theorem g301_24 : zG d 301 24 (some (.ref a) :: L) st h Q = zG d 301 25 (some (.ref a) :: L) (.ref a :: st) h Q := g_ldA rfl rfl
theorem g301_25 : zG d 301 25 (l0 :: l1 :: some (.int x) :: L) st h Q = zG d 301 26 (l0 :: l1 :: some (.int x) :: L) (.int x :: st) h Q := g_ldI rfl rfl
theorem g301_26 (hx : ¬ x < 0 ∧ x.toNatClampNeg ≤ 1000) : zG d 301 26 L (.int x :: st) h Q = zG d 301 28 L (.ref (zN h) :: st) (wN h (20, x.toNatClampNeg)) Q := g_na rfl hx
theorem g301_28 (hT : zT h a = (3, 4)) : zG d 301 28 L (.ref b :: .ref a :: st) h Q = zG d 301 31 L st (wR h a 2 (.ref b)) Q := g_pR rfl hT
theorem g301_28_n (hT : zT h a = (3, 4)) : zG d 301 28 L (.null :: .ref a :: st) h Q = zG d 301 31 L st (wR h a 2 .null) Q := g_pR0 rfl hT
theorem g301_31 : zG d 301 31 L [] h Q = Q none h := g_rV rfl
theorem k301 {x0 : Int32} : zCall (d + 1) 301 [.ref a, .int x0] h Q = zG d 301 0 [some (.ref a), some (.int x0), none] [] h Q := zCall_k (Nat.le_of_ble_eq_true rfl) rfl
theorem g302_0 : zG d 302 0 (some (.ref a) :: L) st h Q = zG d 302 1 (some (.ref a) :: L) (.ref a :: st) h Q := g_ldA rfl rfl
theorem g302_1 : zG d 302 1 L st h Q = zG d 302 2 L (.int 0 :: st) h Q := g_c rfl
theorem g302_2 (hT : zT h a = (3, 4)) : zG d 302 2 L (.int x :: .ref a :: st) h Q = zG d 302 5 L st (wI h a 3 x) Q := g_pI rfl hT
theorem g302_5 : zG d 302 5 (some (.ref a) :: L) st h Q = zG d 302 6 (some (.ref a) :: L) (.ref a :: st) h Q := g_ldA rfl rfl
theorem g302_6 (hT : zT h a = (3, 4)) : zG d 302 6 L (.ref a :: st) h Q = zG d 302 9 L (.int (zI h a 3) :: st) h Q := g_gI rfl hT
theorem g302_9 : zG d 302 9 L [.int x] h Q = Q (some (.int x)) h := g_rI (ok := fun _ => True) rfl trivial
theorem k302  : zCall (d + 1) 302 [.ref a] h Q = zG d 302 0 [some (.ref a)] [] h Q := zCall_k (Nat.le_of_ble_eq_true rfl) rfl
theorem g303_0 : zG d 303 0 (some (.ref a) :: L) st h Q = zG d 303 1 (some (.ref a) :: L) (.ref a :: st) h Q := g_ldA rfl rfl
theorem g303_1 (hT : zT h a = (3, 4)) : zG d 303 1 L (.ref a :: st) h Q = zG d 303 4 L (.int (zI h a 3) :: st) h Q := g_gI rfl hT
theorem g303_4 : zG d 303 4 (some (.ref a) :: L) st h Q = zG d 303 5 (some (.ref a) :: L) (.ref a :: st) h Q := g_ldA rfl rfl
theorem g303_5 (hT : zT h a = (3, 4)) : zG d 303 5 L (.ref a :: st) h Q = zG d 303 8 L (zR h a 0 :: st) h Q := g_gR rfl hT
theorem g303_8 (hT : (zT h b).1 = 20) : zG d 303 8 L (.ref b :: st) h Q = zG d 303 9 L (.int (Int32.ofNat (zT h b).2) :: st) h Q := g_len rfl hT
theorem g303_9 : zG d 303 9 L (.int z :: .int x :: st) h Q = if x < z then zG d 303 15 L st h Q else zG d 303 12 L st h Q := g_i2 (P := fun x z => x < z) rfl
theorem g303_12 : zG d 303 12 L st h Q = zG d 303 14 L (.int (-4) :: st) h Q := g_c rfl
theorem g303_14 : zG d 303 14 L [.int x] h Q = Q (some (.int x)) h := g_rI (ok := fun _ => True) rfl trivial
theorem g303_15 : zG d 303 15 (some (.ref a) :: L) st h Q = zG d 303 16 (some (.ref a) :: L) (.ref a :: st) h Q := g_ldA rfl rfl
theorem g303_16 (hT : zT h a = (3, 4)) : zG d 303 16 L (.ref a :: st) h Q = zG d 303 19 L (zR h a 0 :: st) h Q := g_gR rfl hT
theorem g303_19 : zG d 303 19 (some (.ref a) :: L) st h Q = zG d 303 20 (some (.ref a) :: L) (.ref a :: st) h Q := g_ldA rfl rfl
theorem g303_20 (hT : zT h a = (3, 4)) : zG d 303 20 L (.ref a :: st) h Q = zG d 303 23 L (.int (zI h a 3) :: st) h Q := g_gI rfl hT
theorem g303_23 : zG d 303 23 (l0 :: some (.int x) :: L) st h Q = zG d 303 24 (l0 :: some (.int x) :: L) (.int x :: st) h Q := g_ldI rfl rfl
theorem g303_24 (hT : (zT h b).1 = 20) (hi : zin i (zT h b).2) : zG d 303 24 L (.int x :: .int i :: .ref b :: st) h Q = zG d 303 25 L st (wI h b i.toNatClampNeg (x)) Q := g_is (f1 := fun x => x) rfl hT hi
theorem g303_25 : zG d 303 25 (some (.ref a) :: L) st h Q = zG d 303 26 (some (.ref a) :: L) (.ref a :: st) h Q := g_ldA rfl rfl
theorem g303_26 (hT : zT h a = (3, 4)) : zG d 303 26 L (.ref a :: st) h Q = zG d 303 29 L (zR h a 1 :: st) h Q := g_gR rfl hT
theorem g303_29 : zG d 303 29 (some (.ref a) :: L) st h Q = zG d 303 30 (some (.ref a) :: L) (.ref a :: st) h Q := g_ldA rfl rfl
theorem g303_30 (hT : zT h a = (3, 4)) : zG d 303 30 L (.ref a :: st) h Q = zG d 303 33 L (.int (zI h a 3) :: st) h Q := g_gI rfl hT
theorem g303_33 : zG d 303 33 (l0 :: l1 :: some (.int x) :: L) st h Q = zG d 303 34 (l0 :: l1 :: some (.int x) :: L) (.int x :: st) h Q := g_ldI rfl rfl
theorem g303_34 (hT : (zT h b).1 = 20) (hi : zin i (zT h b).2) : zG d 303 34 L (.int x :: .int i :: .ref b :: st) h Q = zG d 303 35 L st (wI h b i.toNatClampNeg (x)) Q := g_is (f1 := fun x => x) rfl hT hi
theorem g303_35 : zG d 303 35 (some (.ref a) :: L) st h Q = zG d 303 36 (some (.ref a) :: L) (.ref a :: st) h Q := g_ldA rfl rfl
theorem g303_36 (hT : zT h a = (3, 4)) : zG d 303 36 L (.ref a :: st) h Q = zG d 303 39 L (zR h a 2 :: st) h Q := g_gR rfl hT
theorem g303_39 : zG d 303 39 (some (.ref a) :: L) st h Q = zG d 303 40 (some (.ref a) :: L) (.ref a :: st) h Q := g_ldA rfl rfl
theorem g303_40 (hT : zT h a = (3, 4)) : zG d 303 40 L (.ref a :: st) h Q = zG d 303 43 L (.int (zI h a 3) :: st) h Q := g_gI rfl hT
theorem g303_43 : zG d 303 43 (l0 :: l1 :: l2 :: some (.int x) :: L) st h Q = zG d 303 44 (l0 :: l1 :: l2 :: some (.int x) :: L) (.int x :: st) h Q := g_ldI rfl rfl
theorem g303_44 (hT : (zT h b).1 = 20) (hi : zin i (zT h b).2) : zG d 303 44 L (.int x :: .int i :: .ref b :: st) h Q = zG d 303 45 L st (wI h b i.toNatClampNeg (x)) Q := g_is (f1 := fun x => x) rfl hT hi
theorem g303_45 : zG d 303 45 (some (.ref a) :: L) st h Q = zG d 303 46 (some (.ref a) :: L) (.ref a :: st) h Q := g_ldA rfl rfl
theorem g303_46 : zG d 303 46 L (.ref a :: st) h Q = zG d 303 47 L (.ref a :: .ref a :: st) h Q := g_dupA rfl
theorem g303_47 (hT : zT h a = (3, 4)) : zG d 303 47 L (.ref a :: st) h Q = zG d 303 50 L (.int (zI h a 3) :: st) h Q := g_gI rfl hT
theorem g303_50 : zG d 303 50 L st h Q = zG d 303 51 L (.int 1 :: st) h Q := g_c rfl
theorem g303_51 : zG d 303 51 L (.int z :: .int x :: st) h Q = zG d 303 52 L (.int (x + z) :: st) h Q := g_b (f := fun x z => x + z) rfl
theorem g303_52 (hT : zT h a = (3, 4)) : zG d 303 52 L (.int x :: .ref a :: st) h Q = zG d 303 55 L st (wI h a 3 x) Q := g_pI rfl hT
theorem g303_55 : zG d 303 55 (some (.ref a) :: L) st h Q = zG d 303 56 (some (.ref a) :: L) (.ref a :: st) h Q := g_ldA rfl rfl
theorem g303_56 (hT : zT h a = (3, 4)) : zG d 303 56 L (.ref a :: st) h Q = zG d 303 59 L (.int (zI h a 3) :: st) h Q := g_gI rfl hT
theorem g303_59 : zG d 303 59 L [.int x] h Q = Q (some (.int x)) h := g_rI (ok := fun _ => True) rfl trivial
theorem k303 {x0 : Int32} {x1 : Int32} {x2 : Int32} : zCall (d + 1) 303 [.ref a, .int x0, .int x1, .int x2] h Q = zG d 303 0 [some (.ref a), some (.int x0), some (.int x1), some (.int x2)] [] h Q := zCall_k (Nat.le_of_ble_eq_true rfl) rfl
theorem g304_0 : zG d 304 0 (some (.ref a) :: L) st h Q = zG d 304 1 (some (.ref a) :: L) (.ref a :: st) h Q := g_ldA rfl rfl
theorem g304_1 : zG d 304 1 (l0 :: some (.ref a) :: L) st h Q = zG d 304 2 (l0 :: some (.ref a) :: L) (.ref a :: st) h Q := g_ldA rfl rfl
theorem g304_2 (hT : zT h a = (3, 4)) : zG d 304 2 L (.ref a :: st) h Q = zG d 304 5 L (.int (zI h a 3) :: st) h Q := g_gI rfl hT
theorem g304_5 : zG d 304 5 (some (.ref a) :: L) st h Q = zG d 304 6 (some (.ref a) :: L) (.ref a :: st) h Q := g_ldA rfl rfl
theorem g304_6 (hT : zT h a = (3, 4)) : zG d 304 6 L (.ref a :: st) h Q = zG d 304 9 L (zR h a 0 :: st) h Q := g_gR rfl hT
theorem g304_9 (hT : (zT h b).1 = 20) : zG d 304 9 L (.ref b :: st) h Q = zG d 304 10 L (.int (Int32.ofNat (zT h b).2) :: st) h Q := g_len rfl hT
theorem g304_10 (h4 : st.length ≤ 4) : zG d 304 10 L (.int z :: .int x :: st) h Q = zG d 304 13 L (.int (zmin x z) :: st) h Q := g_mm (f := fun x z => zmin x z) rfl h4
theorem g304_13 (hT : zT h a = (3, 4)) : zG d 304 13 L (.int x :: .ref a :: st) h Q = zG d 304 16 L st (wI h a 3 x) Q := g_pI rfl hT
theorem g304_16 : zG d 304 16 L st h Q = zG d 304 17 L (.int 0 :: st) h Q := g_c rfl
theorem g304_17 : zG d 304 17 (l0 :: l1 :: l2 :: L) (.int x :: st) h Q = zG d 304 18 (l0 :: kl l1 :: some (.int x) :: L) st h Q := g_stI rfl (by simp) rfl
theorem g304_18 : zG d 304 18 (l0 :: l1 :: some (.int x) :: L) st h Q = zG d 304 19 (l0 :: l1 :: some (.int x) :: L) (.int x :: st) h Q := g_ldI rfl rfl
theorem g304_19 : zG d 304 19 (some (.ref a) :: L) st h Q = zG d 304 20 (some (.ref a) :: L) (.ref a :: st) h Q := g_ldA rfl rfl
theorem g304_20 (hT : zT h a = (3, 4)) : zG d 304 20 L (.ref a :: st) h Q = zG d 304 23 L (.int (zI h a 3) :: st) h Q := g_gI rfl hT
theorem g304_23 : zG d 304 23 L (.int z :: .int x :: st) h Q = if z ≤ x then zG d 304 68 L st h Q else zG d 304 26 L st h Q := g_i2 (P := fun x z => z ≤ x) rfl
theorem g304_26 : zG d 304 26 (some (.ref a) :: L) st h Q = zG d 304 27 (some (.ref a) :: L) (.ref a :: st) h Q := g_ldA rfl rfl
theorem g304_27 (hT : zT h a = (3, 4)) : zG d 304 27 L (.ref a :: st) h Q = zG d 304 30 L (zR h a 0 :: st) h Q := g_gR rfl hT
theorem g304_30 : zG d 304 30 (l0 :: l1 :: some (.int x) :: L) st h Q = zG d 304 31 (l0 :: l1 :: some (.int x) :: L) (.int x :: st) h Q := g_ldI rfl rfl
theorem g304_31 : zG d 304 31 (l0 :: some (.ref a) :: L) st h Q = zG d 304 32 (l0 :: some (.ref a) :: L) (.ref a :: st) h Q := g_ldA rfl rfl
theorem g304_32 (hT : zT h a = (3, 4)) : zG d 304 32 L (.ref a :: st) h Q = zG d 304 35 L (zR h a 0 :: st) h Q := g_gR rfl hT
theorem g304_35 : zG d 304 35 (l0 :: l1 :: some (.int x) :: L) st h Q = zG d 304 36 (l0 :: l1 :: some (.int x) :: L) (.int x :: st) h Q := g_ldI rfl rfl
theorem g304_36 (hT : (zT h b).1 = 20) (hi : zin i (zT h b).2) : zG d 304 36 L (.int i :: .ref b :: st) h Q = zG d 304 37 L (.int (zI h b i.toNatClampNeg) :: st) h Q := g_ia rfl hT hi
theorem g304_37 (hT : (zT h b).1 = 20) (hi : zin i (zT h b).2) : zG d 304 37 L (.int x :: .int i :: .ref b :: st) h Q = zG d 304 38 L st (wI h b i.toNatClampNeg (x)) Q := g_is (f1 := fun x => x) rfl hT hi
theorem g304_38 : zG d 304 38 (some (.ref a) :: L) st h Q = zG d 304 39 (some (.ref a) :: L) (.ref a :: st) h Q := g_ldA rfl rfl
theorem g304_39 (hT : zT h a = (3, 4)) : zG d 304 39 L (.ref a :: st) h Q = zG d 304 42 L (zR h a 1 :: st) h Q := g_gR rfl hT
theorem g304_42 : zG d 304 42 (l0 :: l1 :: some (.int x) :: L) st h Q = zG d 304 43 (l0 :: l1 :: some (.int x) :: L) (.int x :: st) h Q := g_ldI rfl rfl
theorem g304_43 : zG d 304 43 (l0 :: some (.ref a) :: L) st h Q = zG d 304 44 (l0 :: some (.ref a) :: L) (.ref a :: st) h Q := g_ldA rfl rfl
theorem g304_44 (hT : zT h a = (3, 4)) : zG d 304 44 L (.ref a :: st) h Q = zG d 304 47 L (zR h a 1 :: st) h Q := g_gR rfl hT
theorem g304_47 : zG d 304 47 (l0 :: l1 :: some (.int x) :: L) st h Q = zG d 304 48 (l0 :: l1 :: some (.int x) :: L) (.int x :: st) h Q := g_ldI rfl rfl
theorem g304_48 (hT : (zT h b).1 = 20) (hi : zin i (zT h b).2) : zG d 304 48 L (.int i :: .ref b :: st) h Q = zG d 304 49 L (.int (zI h b i.toNatClampNeg) :: st) h Q := g_ia rfl hT hi
theorem g304_49 (hT : (zT h b).1 = 20) (hi : zin i (zT h b).2) : zG d 304 49 L (.int x :: .int i :: .ref b :: st) h Q = zG d 304 50 L st (wI h b i.toNatClampNeg (x)) Q := g_is (f1 := fun x => x) rfl hT hi
theorem g304_50 : zG d 304 50 (some (.ref a) :: L) st h Q = zG d 304 51 (some (.ref a) :: L) (.ref a :: st) h Q := g_ldA rfl rfl
theorem g304_51 (hT : zT h a = (3, 4)) : zG d 304 51 L (.ref a :: st) h Q = zG d 304 54 L (zR h a 2 :: st) h Q := g_gR rfl hT
theorem g304_54 : zG d 304 54 (l0 :: l1 :: some (.int x) :: L) st h Q = zG d 304 55 (l0 :: l1 :: some (.int x) :: L) (.int x :: st) h Q := g_ldI rfl rfl
theorem g304_55 : zG d 304 55 (l0 :: some (.ref a) :: L) st h Q = zG d 304 56 (l0 :: some (.ref a) :: L) (.ref a :: st) h Q := g_ldA rfl rfl
theorem g304_56 (hT : zT h a = (3, 4)) : zG d 304 56 L (.ref a :: st) h Q = zG d 304 59 L (zR h a 2 :: st) h Q := g_gR rfl hT
theorem g304_59 : zG d 304 59 (l0 :: l1 :: some (.int x) :: L) st h Q = zG d 304 60 (l0 :: l1 :: some (.int x) :: L) (.int x :: st) h Q := g_ldI rfl rfl
theorem g304_60 (hT : (zT h b).1 = 20) (hi : zin i (zT h b).2) : zG d 304 60 L (.int i :: .ref b :: st) h Q = zG d 304 61 L (.int (zI h b i.toNatClampNeg) :: st) h Q := g_ia rfl hT hi
theorem g304_61 (hT : (zT h b).1 = 20) (hi : zin i (zT h b).2) : zG d 304 61 L (.int x :: .int i :: .ref b :: st) h Q = zG d 304 62 L st (wI h b i.toNatClampNeg (x)) Q := g_is (f1 := fun x => x) rfl hT hi
theorem g304_62 : zG d 304 62 (l0 :: l1 :: some (.int x) :: L) st h Q = zG d 304 65 (l0 :: kl l1 :: some (.int (x + 1)) :: L) st h Q := g_inc rfl rfl rfl
theorem g304_65 : zG d 304 65 L st h Q = zG d 304 18 L st h Q := g_go rfl
theorem g304_68 : zG d 304 68 L [] h Q = Q none h := g_rV rfl
theorem k304 {x0 : Nat} : zCall (d + 1) 304 [.ref a, .ref x0] h Q = zG d 304 0 [some (.ref a), some (.ref x0), none] [] h Q := zCall_k (Nat.le_of_ble_eq_true rfl) rfl
theorem g401_0 : zG d 401 0 (some (.ref a) :: L) st h Q = zG d 401 1 (some (.ref a) :: L) (.ref a :: st) h Q := g_ldA rfl rfl
theorem g401_1 (hT : (zT h a).1 < 20) : zG d 401 1 L [.ref a] h Q = zG d 401 4 L [] h Q := g_oi rfl hT
theorem g401_4 : zG d 401 4 (some (.ref a) :: L) st h Q = zG d 401 5 (some (.ref a) :: L) (.ref a :: st) h Q := g_ldA rfl rfl
theorem g401_5 : zG d 401 5 L st h Q = zG d 401 7 L (.int 100 :: st) h Q := g_c rfl
theorem g401_7 (hx : ¬ x < 0 ∧ x.toNatClampNeg ≤ 1000) : zG d 401 7 L (.int x :: st) h Q = zG d 401 9 L (.ref (zN h) :: st) (wN h (20, x.toNatClampNeg)) Q := g_na rfl hx
theorem g401_9 (hT : zT h a = (4, 3)) : zG d 401 9 L (.ref b :: .ref a :: st) h Q = zG d 401 12 L st (wR h a 0 (.ref b)) Q := g_pR rfl hT
theorem g401_9_n (hT : zT h a = (4, 3)) : zG d 401 9 L (.null :: .ref a :: st) h Q = zG d 401 12 L st (wR h a 0 .null) Q := g_pR0 rfl hT
theorem g401_12 : zG d 401 12 L [] h Q = Q none h := g_rV rfl
theorem k401  : zCall (d + 1) 401 [.ref a] h Q = zG d 401 0 [some (.ref a)] [] h Q := zCall_k (Nat.le_of_ble_eq_true rfl) rfl
theorem g402_0 : zG d 402 0 (some (.ref a) :: L) st h Q = zG d 402 1 (some (.ref a) :: L) (.ref a :: st) h Q := g_ldA rfl rfl
theorem g402_1 : zG d 402 1 L st h Q = zG d 402 2 L (.int 0 :: st) h Q := g_c rfl
theorem g402_2 (hT : zT h a = (4, 3)) : zG d 402 2 L (.int x :: .ref a :: st) h Q = zG d 402 5 L st (wI h a 1 x) Q := g_pI rfl hT
theorem g402_5 : zG d 402 5 (some (.ref a) :: L) st h Q = zG d 402 6 (some (.ref a) :: L) (.ref a :: st) h Q := g_ldA rfl rfl
theorem g402_6 : zG d 402 6 L st h Q = zG d 402 8 L (.int 10 :: st) h Q := g_c rfl
theorem g402_8 (hT : zT h a = (4, 3)) : zG d 402 8 L (.int x :: .ref a :: st) h Q = zG d 402 11 L st (wI h a 2 x) Q := g_pI rfl hT
theorem g402_11 : zG d 402 11 L [] h Q = Q none h := g_rV rfl
theorem k402  : zCall (d + 1) 402 [.ref a] h Q = zG d 402 0 [some (.ref a)] [] h Q := zCall_k (Nat.le_of_ble_eq_true rfl) rfl
theorem g403_0 : zG d 403 0 (some (.ref a) :: L) st h Q = zG d 403 1 (some (.ref a) :: L) (.ref a :: st) h Q := g_ldA rfl rfl
theorem g403_1 (hT : zT h a = (4, 3)) : zG d 403 1 L (.ref a :: st) h Q = zG d 403 4 L (.int (zI h a 1) :: st) h Q := g_gI rfl hT
theorem g403_4 : zG d 403 4 L st h Q = zG d 403 6 L (.int 100 :: st) h Q := g_c rfl
theorem g403_6 : zG d 403 6 L (.int z :: .int x :: st) h Q = if z ≤ x then zG d 403 39 L st h Q else zG d 403 9 L st h Q := g_i2 (P := fun x z => z ≤ x) rfl
theorem g403_9 : zG d 403 9 (some (.ref a) :: L) st h Q = zG d 403 10 (some (.ref a) :: L) (.ref a :: st) h Q := g_ldA rfl rfl
theorem g403_10 (hT : zT h a = (4, 3)) : zG d 403 10 L (.ref a :: st) h Q = zG d 403 13 L (zR h a 0 :: st) h Q := g_gR rfl hT
theorem g403_13 : zG d 403 13 (some (.ref a) :: L) st h Q = zG d 403 14 (some (.ref a) :: L) (.ref a :: st) h Q := g_ldA rfl rfl
theorem g403_14 (hT : zT h a = (4, 3)) : zG d 403 14 L (.ref a :: st) h Q = zG d 403 17 L (.int (zI h a 1) :: st) h Q := g_gI rfl hT
theorem g403_17 : zG d 403 17 (l0 :: some (.int x) :: L) st h Q = zG d 403 18 (l0 :: some (.int x) :: L) (.int x :: st) h Q := g_ldI rfl rfl
theorem g403_18 : zG d 403 18 L st h Q = zG d 403 20 L (.int 16 :: st) h Q := g_c rfl
theorem g403_20 : zG d 403 20 L (.int z :: .int x :: st) h Q = zG d 403 21 L (.int (x <<< (z &&& 31)) :: st) h Q := g_b (f := fun x z => x <<< (z &&& 31)) rfl
theorem g403_21 : zG d 403 21 (l0 :: l1 :: some (.int x) :: L) st h Q = zG d 403 22 (l0 :: l1 :: some (.int x) :: L) (.int x :: st) h Q := g_ldI rfl rfl
theorem g403_22 : zG d 403 22 L st h Q = zG d 403 24 L (.int 8 :: st) h Q := g_c rfl
theorem g403_24 : zG d 403 24 L (.int z :: .int x :: st) h Q = zG d 403 25 L (.int (x <<< (z &&& 31)) :: st) h Q := g_b (f := fun x z => x <<< (z &&& 31)) rfl
theorem g403_25 : zG d 403 25 L (.int z :: .int x :: st) h Q = zG d 403 26 L (.int (x ||| z) :: st) h Q := g_b (f := fun x z => x ||| z) rfl
theorem g403_26 : zG d 403 26 (l0 :: l1 :: l2 :: some (.int x) :: L) st h Q = zG d 403 27 (l0 :: l1 :: l2 :: some (.int x) :: L) (.int x :: st) h Q := g_ldI rfl rfl
theorem g403_27 : zG d 403 27 L (.int z :: .int x :: st) h Q = zG d 403 28 L (.int (x ||| z) :: st) h Q := g_b (f := fun x z => x ||| z) rfl
theorem g403_28 (hT : (zT h b).1 = 20) (hi : zin i (zT h b).2) : zG d 403 28 L (.int x :: .int i :: .ref b :: st) h Q = zG d 403 29 L st (wI h b i.toNatClampNeg (x)) Q := g_is (f1 := fun x => x) rfl hT hi
theorem g403_29 : zG d 403 29 (some (.ref a) :: L) st h Q = zG d 403 30 (some (.ref a) :: L) (.ref a :: st) h Q := g_ldA rfl rfl
theorem g403_30 : zG d 403 30 L (.ref a :: st) h Q = zG d 403 31 L (.ref a :: .ref a :: st) h Q := g_dupA rfl
theorem g403_31 (hT : zT h a = (4, 3)) : zG d 403 31 L (.ref a :: st) h Q = zG d 403 34 L (.int (zI h a 1) :: st) h Q := g_gI rfl hT
theorem g403_34 : zG d 403 34 L st h Q = zG d 403 35 L (.int 1 :: st) h Q := g_c rfl
theorem g403_35 : zG d 403 35 L (.int z :: .int x :: st) h Q = zG d 403 36 L (.int (x + z) :: st) h Q := g_b (f := fun x z => x + z) rfl
theorem g403_36 (hT : zT h a = (4, 3)) : zG d 403 36 L (.int x :: .ref a :: st) h Q = zG d 403 39 L st (wI h a 1 x) Q := g_pI rfl hT
theorem g403_39 : zG d 403 39 L [] h Q = Q none h := g_rV rfl
theorem k403 {x0 : Int32} {x1 : Int32} {x2 : Int32} : zCall (d + 1) 403 [.ref a, .int x0, .int x1, .int x2] h Q = zG d 403 0 [some (.ref a), some (.int x0), some (.int x1), some (.int x2)] [] h Q := zCall_k (Nat.le_of_ble_eq_true rfl) rfl
theorem g404_0 : zG d 404 0 L st h Q = zG d 404 1 L (.int 0 :: st) h Q := g_c rfl
theorem g404_1 : zG d 404 1 (l0 :: l1 :: l2 :: l3 :: L) (.int x :: st) h Q = zG d 404 2 (l0 :: l1 :: kl l2 :: some (.int x) :: L) st h Q := g_stI rfl (by simp) rfl
theorem g404_2 : zG d 404 2 L st h Q = zG d 404 3 L (.int 0 :: st) h Q := g_c rfl
theorem g404_3 : zG d 404 3 (l0 :: l1 :: l2 :: l3 :: l4 :: L) (.int x :: st) h Q = zG d 404 5 (l0 :: l1 :: l2 :: kl l3 :: some (.int x) :: L) st h Q := g_stI rfl (by simp) rfl
theorem g404_5 : zG d 404 5 L st h Q = zG d 404 6 L (.int 0 :: st) h Q := g_c rfl
theorem g404_6 : zG d 404 6 (l0 :: l1 :: l2 :: l3 :: l4 :: l5 :: L) (.int x :: st) h Q = zG d 404 8 (l0 :: l1 :: l2 :: l3 :: kl l4 :: some (.int x) :: L) st h Q := g_stI rfl (by simp) rfl
theorem g404_8 : zG d 404 8 (l0 :: l1 :: l2 :: l3 :: l4 :: some (.int x) :: L) st h Q = zG d 404 10 (l0 :: l1 :: l2 :: l3 :: l4 :: some (.int x) :: L) (.int x :: st) h Q := g_ldI rfl rfl
theorem g404_10 : zG d 404 10 (some (.ref a) :: L) st h Q = zG d 404 11 (some (.ref a) :: L) (.ref a :: st) h Q := g_ldA rfl rfl
theorem g404_11 (hT : zT h a = (4, 3)) : zG d 404 11 L (.ref a :: st) h Q = zG d 404 14 L (.int (zI h a 1) :: st) h Q := g_gI rfl hT
theorem g404_14 : zG d 404 14 L (.int z :: .int x :: st) h Q = if z ≤ x then zG d 404 211 L st h Q else zG d 404 17 L st h Q := g_i2 (P := fun x z => z ≤ x) rfl
theorem g404_17 : zG d 404 17 (some (.ref a) :: L) st h Q = zG d 404 18 (some (.ref a) :: L) (.ref a :: st) h Q := g_ldA rfl rfl
theorem g404_18 (hT : zT h a = (4, 3)) : zG d 404 18 L (.ref a :: st) h Q = zG d 404 21 L (zR h a 0 :: st) h Q := g_gR rfl hT
theorem g404_21 : zG d 404 21 (l0 :: l1 :: l2 :: l3 :: l4 :: some (.int x) :: L) st h Q = zG d 404 23 (l0 :: l1 :: l2 :: l3 :: l4 :: some (.int x) :: L) (.int x :: st) h Q := g_ldI rfl rfl
theorem g404_23 (hT : (zT h b).1 = 20) (hi : zin i (zT h b).2) : zG d 404 23 L (.int i :: .ref b :: st) h Q = zG d 404 24 L (.int (zI h b i.toNatClampNeg) :: st) h Q := g_ia rfl hT hi
theorem g404_24 : zG d 404 24 L st h Q = zG d 404 26 L (.int 16 :: st) h Q := g_c rfl
theorem g404_26 : zG d 404 26 L (.int z :: .int x :: st) h Q = zG d 404 27 L (.int (x >>> (z &&& 31)) :: st) h Q := g_b (f := fun x z => x >>> (z &&& 31)) rfl
theorem g404_27 : zG d 404 27 (l0 :: l1 :: l2 :: l3 :: l4 :: l5 :: l6 :: L) (.int x :: st) h Q = zG d 404 29 (l0 :: l1 :: l2 :: l3 :: l4 :: kl l5 :: some (.int x) :: L) st h Q := g_stI rfl (by simp) rfl
theorem g404_29 : zG d 404 29 (some (.ref a) :: L) st h Q = zG d 404 30 (some (.ref a) :: L) (.ref a :: st) h Q := g_ldA rfl rfl
theorem g404_30 (hT : zT h a = (4, 3)) : zG d 404 30 L (.ref a :: st) h Q = zG d 404 33 L (zR h a 0 :: st) h Q := g_gR rfl hT
theorem g404_33 : zG d 404 33 (l0 :: l1 :: l2 :: l3 :: l4 :: some (.int x) :: L) st h Q = zG d 404 35 (l0 :: l1 :: l2 :: l3 :: l4 :: some (.int x) :: L) (.int x :: st) h Q := g_ldI rfl rfl
theorem g404_35 (hT : (zT h b).1 = 20) (hi : zin i (zT h b).2) : zG d 404 35 L (.int i :: .ref b :: st) h Q = zG d 404 36 L (.int (zI h b i.toNatClampNeg) :: st) h Q := g_ia rfl hT hi
theorem g404_36 : zG d 404 36 L st h Q = zG d 404 39 L (.int 255 :: st) h Q := g_c rfl
theorem g404_39 : zG d 404 39 L (.int z :: .int x :: st) h Q = zG d 404 40 L (.int (x &&& z) :: st) h Q := g_b (f := fun x z => x &&& z) rfl
theorem g404_40 : zG d 404 40 (l0 :: l1 :: l2 :: l3 :: l4 :: l5 :: l6 :: l7 :: L) (.int x :: st) h Q = zG d 404 42 (l0 :: l1 :: l2 :: l3 :: l4 :: l5 :: kl l6 :: some (.int x) :: L) st h Q := g_stI rfl (by simp) rfl
theorem g404_42 : zG d 404 42 (l0 :: l1 :: l2 :: l3 :: l4 :: l5 :: some (.int x) :: L) st h Q = zG d 404 44 (l0 :: l1 :: l2 :: l3 :: l4 :: l5 :: some (.int x) :: L) (.int x :: st) h Q := g_ldI rfl rfl
theorem g404_44 : zG d 404 44 L (.int x :: st) h Q = if x = 33 then zG d 404 96 L st h Q else if x = 38 then zG d 404 105 L st h Q else if x = 108 then zG d 404 153 L st h Q else if x = 109 then zG d 404 134 L st h Q else if x = 124 then zG d 404 120 L st h Q else zG d 404 172 L st h Q := g_sw (c := 172) (ps := [(33, 96), (38, 105), (108, 153), (109, 134), (124, 120)]) rfl
theorem g404_96 : zG d 404 96 (l0 :: l1 :: l2 :: l3 :: some (.int x) :: L) st h Q = zG d 404 98 (l0 :: l1 :: l2 :: l3 :: some (.int x) :: L) (.int x :: st) h Q := g_ldI rfl rfl
theorem g404_98 : zG d 404 98 L st h Q = zG d 404 99 L (.int 1 :: st) h Q := g_c rfl
theorem g404_99 : zG d 404 99 L (.int z :: .int x :: st) h Q = zG d 404 100 L (.int (x ^^^ z) :: st) h Q := g_b (f := fun x z => x ^^^ z) rfl
theorem g404_100 : zG d 404 100 (l0 :: l1 :: l2 :: l3 :: l4 :: L) (.int x :: st) h Q = zG d 404 102 (l0 :: l1 :: l2 :: kl l3 :: some (.int x) :: L) st h Q := g_stI rfl (by simp) rfl
theorem g404_102 : zG d 404 102 L st h Q = zG d 404 205 L st h Q := g_go rfl
theorem g404_105 : zG d 404 105 (l0 :: l1 :: l2 :: l3 :: some (.int x) :: L) st h Q = zG d 404 107 (l0 :: l1 :: l2 :: l3 :: some (.int x) :: L) (.int x :: st) h Q := g_ldI rfl rfl
theorem g404_107 : zG d 404 107 L st h Q = zG d 404 108 L (.int 1 :: st) h Q := g_c rfl
theorem g404_108 : zG d 404 108 L (.int z :: .int x :: st) h Q = zG d 404 109 L (.int (x >>> (z &&& 31)) :: st) h Q := g_b (f := fun x z => x >>> (z &&& 31)) rfl
theorem g404_109 : zG d 404 109 (l0 :: l1 :: l2 :: l3 :: some (.int x) :: L) st h Q = zG d 404 111 (l0 :: l1 :: l2 :: l3 :: some (.int x) :: L) (.int x :: st) h Q := g_ldI rfl rfl
theorem g404_111 : zG d 404 111 L st h Q = zG d 404 113 L (.int (-2) :: st) h Q := g_c rfl
theorem g404_113 : zG d 404 113 L (.int z :: .int x :: st) h Q = zG d 404 114 L (.int (x ||| z) :: st) h Q := g_b (f := fun x z => x ||| z) rfl
theorem g404_114 : zG d 404 114 L (.int z :: .int x :: st) h Q = zG d 404 115 L (.int (x &&& z) :: st) h Q := g_b (f := fun x z => x &&& z) rfl
theorem g404_115 : zG d 404 115 (l0 :: l1 :: l2 :: l3 :: l4 :: L) (.int x :: st) h Q = zG d 404 117 (l0 :: l1 :: l2 :: kl l3 :: some (.int x) :: L) st h Q := g_stI rfl (by simp) rfl
theorem g404_117 : zG d 404 117 L st h Q = zG d 404 205 L st h Q := g_go rfl
theorem g404_120 : zG d 404 120 (l0 :: l1 :: l2 :: l3 :: some (.int x) :: L) st h Q = zG d 404 122 (l0 :: l1 :: l2 :: l3 :: some (.int x) :: L) (.int x :: st) h Q := g_ldI rfl rfl
theorem g404_122 : zG d 404 122 L st h Q = zG d 404 123 L (.int 1 :: st) h Q := g_c rfl
theorem g404_123 : zG d 404 123 L (.int z :: .int x :: st) h Q = zG d 404 124 L (.int (x >>> (z &&& 31)) :: st) h Q := g_b (f := fun x z => x >>> (z &&& 31)) rfl
theorem g404_124 : zG d 404 124 (l0 :: l1 :: l2 :: l3 :: some (.int x) :: L) st h Q = zG d 404 126 (l0 :: l1 :: l2 :: l3 :: some (.int x) :: L) (.int x :: st) h Q := g_ldI rfl rfl
theorem g404_126 : zG d 404 126 L st h Q = zG d 404 127 L (.int 1 :: st) h Q := g_c rfl
theorem g404_127 : zG d 404 127 L (.int z :: .int x :: st) h Q = zG d 404 128 L (.int (x &&& z) :: st) h Q := g_b (f := fun x z => x &&& z) rfl
theorem g404_128 : zG d 404 128 L (.int z :: .int x :: st) h Q = zG d 404 129 L (.int (x ||| z) :: st) h Q := g_b (f := fun x z => x ||| z) rfl
theorem g404_129 : zG d 404 129 (l0 :: l1 :: l2 :: l3 :: l4 :: L) (.int x :: st) h Q = zG d 404 131 (l0 :: l1 :: l2 :: kl l3 :: some (.int x) :: L) st h Q := g_stI rfl (by simp) rfl
theorem g404_131 : zG d 404 131 L st h Q = zG d 404 205 L st h Q := g_go rfl
theorem g404_134 : zG d 404 134 (l0 :: l1 :: l2 :: some (.int x) :: L) st h Q = zG d 404 135 (l0 :: l1 :: l2 :: some (.int x) :: L) (.int x :: st) h Q := g_ldI rfl rfl
theorem g404_135 : zG d 404 135 (l0 :: l1 :: l2 :: l3 :: some (.int x) :: L) st h Q = zG d 404 137 (l0 :: l1 :: l2 :: l3 :: some (.int x) :: L) (.int x :: st) h Q := g_ldI rfl rfl
theorem g404_137 : zG d 404 137 L st h Q = zG d 404 138 L (.int 1 :: st) h Q := g_c rfl
theorem g404_138 : zG d 404 138 L (.int z :: .int x :: st) h Q = zG d 404 139 L (.int (x &&& z) :: st) h Q := g_b (f := fun x z => x &&& z) rfl
theorem g404_139 : zG d 404 139 (l0 :: l1 :: l2 :: l3 :: l4 :: l5 :: l6 :: some (.int x) :: L) st h Q = zG d 404 141 (l0 :: l1 :: l2 :: l3 :: l4 :: l5 :: l6 :: some (.int x) :: L) (.int x :: st) h Q := g_ldI rfl rfl
theorem g404_141 : zG d 404 141 L (.int z :: .int x :: st) h Q = zG d 404 142 L (.int (x * z) :: st) h Q := g_b (f := fun x z => x * z) rfl
theorem g404_142 : zG d 404 142 L (.int z :: .int x :: st) h Q = zG d 404 143 L (.int (x + z) :: st) h Q := g_b (f := fun x z => x + z) rfl
theorem g404_143 : zG d 404 143 (l0 :: l1 :: l2 :: l3 :: L) (.int x :: st) h Q = zG d 404 144 (l0 :: l1 :: kl l2 :: some (.int x) :: L) st h Q := g_stI rfl (by simp) rfl
theorem g404_144 : zG d 404 144 (l0 :: l1 :: l2 :: l3 :: some (.int x) :: L) st h Q = zG d 404 146 (l0 :: l1 :: l2 :: l3 :: some (.int x) :: L) (.int x :: st) h Q := g_ldI rfl rfl
theorem g404_146 : zG d 404 146 L st h Q = zG d 404 147 L (.int 1 :: st) h Q := g_c rfl
theorem g404_147 : zG d 404 147 L (.int z :: .int x :: st) h Q = zG d 404 148 L (.int (x >>> (z &&& 31)) :: st) h Q := g_b (f := fun x z => x >>> (z &&& 31)) rfl
theorem g404_148 : zG d 404 148 (l0 :: l1 :: l2 :: l3 :: l4 :: L) (.int x :: st) h Q = zG d 404 150 (l0 :: l1 :: l2 :: kl l3 :: some (.int x) :: L) st h Q := g_stI rfl (by simp) rfl
theorem g404_150 : zG d 404 150 L st h Q = zG d 404 205 L st h Q := g_go rfl
theorem g404_153 : zG d 404 153 (l0 :: l1 :: l2 :: some (.int x) :: L) st h Q = zG d 404 154 (l0 :: l1 :: l2 :: some (.int x) :: L) (.int x :: st) h Q := g_ldI rfl rfl
theorem g404_154 : zG d 404 154 (l0 :: l1 :: l2 :: l3 :: some (.int x) :: L) st h Q = zG d 404 156 (l0 :: l1 :: l2 :: l3 :: some (.int x) :: L) (.int x :: st) h Q := g_ldI rfl rfl
theorem g404_156 : zG d 404 156 L st h Q = zG d 404 157 L (.int 1 :: st) h Q := g_c rfl
theorem g404_157 : zG d 404 157 L (.int z :: .int x :: st) h Q = zG d 404 158 L (.int (x &&& z) :: st) h Q := g_b (f := fun x z => x &&& z) rfl
theorem g404_158 : zG d 404 158 (l0 :: l1 :: l2 :: l3 :: l4 :: l5 :: l6 :: some (.int x) :: L) st h Q = zG d 404 160 (l0 :: l1 :: l2 :: l3 :: l4 :: l5 :: l6 :: some (.int x) :: L) (.int x :: st) h Q := g_ldI rfl rfl
theorem g404_160 : zG d 404 160 L (.int z :: .int x :: st) h Q = zG d 404 161 L (.int (x * z) :: st) h Q := g_b (f := fun x z => x * z) rfl
theorem g404_161 : zG d 404 161 L (.int z :: .int x :: st) h Q = zG d 404 162 L (.int (x - z) :: st) h Q := g_b (f := fun x z => x - z) rfl
theorem g404_162 : zG d 404 162 (l0 :: l1 :: l2 :: l3 :: L) (.int x :: st) h Q = zG d 404 163 (l0 :: l1 :: kl l2 :: some (.int x) :: L) st h Q := g_stI rfl (by simp) rfl
theorem g404_163 : zG d 404 163 (l0 :: l1 :: l2 :: l3 :: some (.int x) :: L) st h Q = zG d 404 165 (l0 :: l1 :: l2 :: l3 :: some (.int x) :: L) (.int x :: st) h Q := g_ldI rfl rfl
theorem g404_165 : zG d 404 165 L st h Q = zG d 404 166 L (.int 1 :: st) h Q := g_c rfl
theorem g404_166 : zG d 404 166 L (.int z :: .int x :: st) h Q = zG d 404 167 L (.int (x >>> (z &&& 31)) :: st) h Q := g_b (f := fun x z => x >>> (z &&& 31)) rfl
theorem g404_167 : zG d 404 167 (l0 :: l1 :: l2 :: l3 :: l4 :: L) (.int x :: st) h Q = zG d 404 169 (l0 :: l1 :: l2 :: kl l3 :: some (.int x) :: L) st h Q := g_stI rfl (by simp) rfl
theorem g404_169 : zG d 404 169 L st h Q = zG d 404 205 L st h Q := g_go rfl
theorem g404_172 : zG d 404 172 (l0 :: l1 :: l2 :: l3 :: some (.int x) :: L) st h Q = zG d 404 174 (l0 :: l1 :: l2 :: l3 :: some (.int x) :: L) (.int x :: st) h Q := g_ldI rfl rfl
theorem g404_174 : zG d 404 174 L st h Q = zG d 404 175 L (.int 1 :: st) h Q := g_c rfl
theorem g404_175 : zG d 404 175 L (.int z :: .int x :: st) h Q = zG d 404 176 L (.int (x <<< (z &&& 31)) :: st) h Q := g_b (f := fun x z => x <<< (z &&& 31)) rfl
theorem g404_176 : zG d 404 176 (l0 :: some (.ref a) :: L) st h Q = zG d 404 177 (l0 :: some (.ref a) :: L) (.ref a :: st) h Q := g_ldA rfl rfl
theorem g404_177 : zG d 404 177 (l0 :: l1 :: l2 :: l3 :: l4 :: l5 :: some (.int x) :: L) st h Q = zG d 404 179 (l0 :: l1 :: l2 :: l3 :: l4 :: l5 :: some (.int x) :: L) (.int x :: st) h Q := g_ldI rfl rfl
theorem g404_179 : zG d 404 179 (l0 :: l1 :: some (.int x) :: L) st h Q = zG d 404 180 (l0 :: l1 :: some (.int x) :: L) (.int x :: st) h Q := g_ldI rfl rfl
theorem g404_180 {s0 : Int32} (hT : (zT h a).1 = 2) : zG d 404 180 L [v1, v0, .ref a, .int s0] h Q = zCall d 215 [.ref a, v0, v1] h (fun v h1 => zG d 404 183 L (zpush v [.int s0]) h1 Q) := g_cV rfl rfl rfl rfl (Nat.le_of_ble_eq_true rfl) hT
theorem g404_183 : zG d 404 183 (some (.ref a) :: L) st h Q = zG d 404 184 (some (.ref a) :: L) (.ref a :: st) h Q := g_ldA rfl rfl
theorem g404_184 (hT : zT h a = (4, 3)) : zG d 404 184 L (.ref a :: st) h Q = zG d 404 187 L (zR h a 0 :: st) h Q := g_gR rfl hT
theorem g404_187 : zG d 404 187 (l0 :: l1 :: l2 :: l3 :: l4 :: some (.int x) :: L) st h Q = zG d 404 189 (l0 :: l1 :: l2 :: l3 :: l4 :: some (.int x) :: L) (.int x :: st) h Q := g_ldI rfl rfl
theorem g404_189 (hT : (zT h b).1 = 20) (hi : zin i (zT h b).2) : zG d 404 189 L (.int i :: .ref b :: st) h Q = zG d 404 190 L (.int (zI h b i.toNatClampNeg) :: st) h Q := g_ia rfl hT hi
theorem g404_190 : zG d 404 190 L st h Q = zG d 404 192 L (.int 8 :: st) h Q := g_c rfl
theorem g404_192 : zG d 404 192 L (.int z :: .int x :: st) h Q = zG d 404 193 L (.int (x >>> (z &&& 31)) :: st) h Q := g_b (f := fun x z => x >>> (z &&& 31)) rfl
theorem g404_193 : zG d 404 193 L st h Q = zG d 404 196 L (.int 255 :: st) h Q := g_c rfl
theorem g404_196 : zG d 404 196 L (.int z :: .int x :: st) h Q = zG d 404 197 L (.int (x &&& z) :: st) h Q := g_b (f := fun x z => x &&& z) rfl
theorem g404_197 : zG d 404 197 (l0 :: l1 :: l2 :: l3 :: l4 :: l5 :: l6 :: some (.int x) :: L) st h Q = zG d 404 199 (l0 :: l1 :: l2 :: l3 :: l4 :: l5 :: l6 :: some (.int x) :: L) (.int x :: st) h Q := g_ldI rfl rfl
theorem g404_199 {s0 : Int32} : zG d 404 199 L [v2, v1, v0, .int s0] h Q = zCall d 405 [v0, v1, v2] h (fun v h1 => zG d 404 202 L (zpush v [.int s0]) h1 Q) := g_cS rfl rfl (Nat.le_of_ble_eq_true rfl) rfl (Nat.le_of_ble_eq_true rfl)
theorem g404_202 : zG d 404 202 L (.int z :: .int x :: st) h Q = zG d 404 203 L (.int (x ||| z) :: st) h Q := g_b (f := fun x z => x ||| z) rfl
theorem g404_203 : zG d 404 203 (l0 :: l1 :: l2 :: l3 :: l4 :: L) (.int x :: st) h Q = zG d 404 205 (l0 :: l1 :: l2 :: kl l3 :: some (.int x) :: L) st h Q := g_stI rfl (by simp) rfl
theorem g404_205 : zG d 404 205 (l0 :: l1 :: l2 :: l3 :: l4 :: some (.int x) :: L) st h Q = zG d 404 208 (l0 :: l1 :: l2 :: l3 :: kl l4 :: some (.int (x + 1)) :: L) st h Q := g_inc rfl rfl rfl
theorem g404_208 : zG d 404 208 L st h Q = zG d 404 8 L st h Q := g_go rfl
theorem g404_211 : zG d 404 211 (l0 :: l1 :: l2 :: some (.int x) :: L) st h Q = zG d 404 212 (l0 :: l1 :: l2 :: some (.int x) :: L) (.int x :: st) h Q := g_ldI rfl rfl
theorem g404_212 : zG d 404 212 L [.int x] h Q = Q (some (.int x)) h := g_rI (ok := fun _ => True) rfl trivial
theorem k404 {x0 : Nat} {x1 : Int32} : zCall (d + 1) 404 [.ref a, .ref x0, .int x1] h Q = zG d 404 0 [some (.ref a), some (.ref x0), some (.int x1), none, none, none, none, none] [] h Q := zCall_k (Nat.le_of_ble_eq_true rfl) rfl
theorem g405_0 : zG d 405 0 (l0 :: some (.int x) :: L) st h Q = zG d 405 1 (l0 :: some (.int x) :: L) (.int x :: st) h Q := g_ldI rfl rfl
theorem g405_1 : zG d 405 1 L (.int x :: st) h Q = if x = 60 then zG d 405 28 L st h Q else if x = 61 then zG d 405 39 L st h Q else zG d 405 50 L st h Q := g_sw (c := 50) (ps := [(60, 28), (61, 39)]) rfl
theorem g405_28 : zG d 405 28 (some (.int x) :: L) st h Q = zG d 405 29 (some (.int x) :: L) (.int x :: st) h Q := g_ldI rfl rfl
theorem g405_29 : zG d 405 29 (l0 :: l1 :: some (.int x) :: L) st h Q = zG d 405 30 (l0 :: l1 :: some (.int x) :: L) (.int x :: st) h Q := g_ldI rfl rfl
theorem g405_30 : zG d 405 30 L (.int z :: .int x :: st) h Q = if z ≤ x then zG d 405 37 L st h Q else zG d 405 33 L st h Q := g_i2 (P := fun x z => z ≤ x) rfl
theorem g405_33 : zG d 405 33 L st h Q = zG d 405 34 L (.int 1 :: st) h Q := g_c rfl
theorem g405_34 : zG d 405 34 L st h Q = zG d 405 38 L st h Q := g_go rfl
theorem g405_37 : zG d 405 37 L st h Q = zG d 405 38 L (.int 0 :: st) h Q := g_c rfl
theorem g405_38 : zG d 405 38 L [.int x] h Q = Q (some (.int x)) h := g_rI (ok := fun _ => True) rfl trivial
theorem g405_39 : zG d 405 39 (some (.int x) :: L) st h Q = zG d 405 40 (some (.int x) :: L) (.int x :: st) h Q := g_ldI rfl rfl
theorem g405_40 : zG d 405 40 (l0 :: l1 :: some (.int x) :: L) st h Q = zG d 405 41 (l0 :: l1 :: some (.int x) :: L) (.int x :: st) h Q := g_ldI rfl rfl
theorem g405_41 : zG d 405 41 L (.int z :: .int x :: st) h Q = if ¬ x = z then zG d 405 48 L st h Q else zG d 405 44 L st h Q := g_i2 (P := fun x z => ¬ x = z) rfl
theorem g405_44 : zG d 405 44 L st h Q = zG d 405 45 L (.int 1 :: st) h Q := g_c rfl
theorem g405_45 : zG d 405 45 L st h Q = zG d 405 49 L st h Q := g_go rfl
theorem g405_48 : zG d 405 48 L st h Q = zG d 405 49 L (.int 0 :: st) h Q := g_c rfl
theorem g405_49 : zG d 405 49 L [.int x] h Q = Q (some (.int x)) h := g_rI (ok := fun _ => True) rfl trivial
theorem g405_50 : zG d 405 50 (some (.int x) :: L) st h Q = zG d 405 51 (some (.int x) :: L) (.int x :: st) h Q := g_ldI rfl rfl
theorem g405_51 : zG d 405 51 (l0 :: l1 :: some (.int x) :: L) st h Q = zG d 405 52 (l0 :: l1 :: some (.int x) :: L) (.int x :: st) h Q := g_ldI rfl rfl
theorem g405_52 : zG d 405 52 L (.int z :: .int x :: st) h Q = if x ≤ z then zG d 405 59 L st h Q else zG d 405 55 L st h Q := g_i2 (P := fun x z => x ≤ z) rfl
theorem g405_55 : zG d 405 55 L st h Q = zG d 405 56 L (.int 1 :: st) h Q := g_c rfl
theorem g405_56 : zG d 405 56 L st h Q = zG d 405 60 L st h Q := g_go rfl
theorem g405_59 : zG d 405 59 L st h Q = zG d 405 60 L (.int 0 :: st) h Q := g_c rfl
theorem g405_60 : zG d 405 60 L [.int x] h Q = Q (some (.int x)) h := g_rI (ok := fun _ => True) rfl trivial
theorem k405 {x0 : Int32} {x1 : Int32} {x2 : Int32} : zCall (d + 1) 405 [.int x0, .int x1, .int x2] h Q = zG d 405 0 [some (.int x0), some (.int x1), some (.int x2)] [] h Q := zCall_k (Nat.le_of_ble_eq_true rfl) rfl
theorem g601_0 : zG d 601 0 (some (.ref a) :: L) st h Q = zG d 601 1 (some (.ref a) :: L) (.ref a :: st) h Q := g_ldA rfl rfl
theorem g601_1 (hT : (zT h a).1 < 20) : zG d 601 1 L [.ref a] h Q = zG d 601 4 L [] h Q := g_oi rfl hT
theorem g601_4 : zG d 601 4 (some (.ref a) :: L) st h Q = zG d 601 5 (some (.ref a) :: L) (.ref a :: st) h Q := g_ldA rfl rfl
theorem g601_5 : zG d 601 5 L st h Q = zG d 601 6 L (.int (-1) :: st) h Q := g_c rfl
theorem g601_6 (hT : zT h a = (6, 3)) : zG d 601 6 L (.int x :: .ref a :: st) h Q = zG d 601 9 L st (wI h a 0 x) Q := g_pI rfl hT
theorem g601_9 : zG d 601 9 (some (.ref a) :: L) st h Q = zG d 601 10 (some (.ref a) :: L) (.ref a :: st) h Q := g_ldA rfl rfl
theorem g601_10 : zG d 601 10 L st h Q = zG d 601 12 L (.int 60 :: st) h Q := g_c rfl
theorem g601_12 (hx : ¬ x < 0 ∧ x.toNatClampNeg ≤ 1000) : zG d 601 12 L (.int x :: st) h Q = zG d 601 14 L (.ref (zN h) :: st) (wN h (24, x.toNatClampNeg)) Q := g_na rfl hx
theorem g601_14 (hT : zT h a = (6, 3)) : zG d 601 14 L (.ref b :: .ref a :: st) h Q = zG d 601 17 L st (wR h a 2 (.ref b)) Q := g_pR rfl hT
theorem g601_14_n (hT : zT h a = (6, 3)) : zG d 601 14 L (.null :: .ref a :: st) h Q = zG d 601 17 L st (wR h a 2 .null) Q := g_pR0 rfl hT
theorem g601_17 : zG d 601 17 L [] h Q = Q none h := g_rV rfl
theorem k601  : zCall (d + 1) 601 [.ref a] h Q = zG d 601 0 [some (.ref a)] [] h Q := zCall_k (Nat.le_of_ble_eq_true rfl) rfl
theorem g602_0 : zG d 602 0 (some (.ref a) :: L) st h Q = zG d 602 1 (some (.ref a) :: L) (.ref a :: st) h Q := g_ldA rfl rfl
theorem g602_1 (hT : zT h a = (6, 3)) : zG d 602 1 L (.ref a :: st) h Q = zG d 602 4 L (.int (zI h a 0) :: st) h Q := g_gI rfl hT
theorem g602_4 : zG d 602 4 L st h Q = zG d 602 5 L (.int (-1) :: st) h Q := g_c rfl
theorem g602_5 : zG d 602 5 L (.int z :: .int x :: st) h Q = if ¬ x = z then zG d 602 12 L st h Q else zG d 602 8 L st h Q := g_i2 (P := fun x z => ¬ x = z) rfl
theorem g602_8 : zG d 602 8 L st h Q = zG d 602 9 L (.int 1 :: st) h Q := g_c rfl
theorem g602_9 : zG d 602 9 L st h Q = zG d 602 13 L st h Q := g_go rfl
theorem g602_12 : zG d 602 12 L st h Q = zG d 602 13 L (.int 0 :: st) h Q := g_c rfl
theorem g602_13 (hx : x = 0 ∨ x = 1) : zG d 602 13 L [.int x] h Q = Q (some (.int x)) h := g_rI (ok := fun x => x = 0 ∨ x = 1) rfl hx
theorem k602  : zCall (d + 1) 602 [.ref a] h Q = zG d 602 0 [some (.ref a)] [] h Q := zCall_k (Nat.le_of_ble_eq_true rfl) rfl
theorem g603_0 : zG d 603 0 (some (.ref a) :: L) st h Q = zG d 603 1 (some (.ref a) :: L) (.ref a :: st) h Q := g_ldA rfl rfl
theorem g603_1 : zG d 603 1 (l0 :: some (.int x) :: L) st h Q = zG d 603 2 (l0 :: some (.int x) :: L) (.int x :: st) h Q := g_ldI rfl rfl
theorem g603_2 (hT : zT h a = (6, 3)) : zG d 603 2 L (.int x :: .ref a :: st) h Q = zG d 603 5 L st (wI h a 0 x) Q := g_pI rfl hT
theorem g603_5 : zG d 603 5 (some (.ref a) :: L) st h Q = zG d 603 6 (some (.ref a) :: L) (.ref a :: st) h Q := g_ldA rfl rfl
theorem g603_6 : zG d 603 6 (l0 :: l1 :: some (.int x) :: L) st h Q = zG d 603 7 (l0 :: l1 :: some (.int x) :: L) (.int x :: st) h Q := g_ldI rfl rfl
theorem g603_7 : zG d 603 7 L st h Q = zG d 603 8 L (.int 0 :: st) h Q := g_c rfl
theorem g603_8 (h4 : st.length ≤ 4) : zG d 603 8 L (.int z :: .int x :: st) h Q = zG d 603 11 L (.int (zmax x z) :: st) h Q := g_mm (f := fun x z => zmax x z) rfl h4
theorem g603_11 : zG d 603 11 L st h Q = zG d 603 13 L (.int 60 :: st) h Q := g_c rfl
theorem g603_13 (h4 : st.length ≤ 4) : zG d 603 13 L (.int z :: .int x :: st) h Q = zG d 603 16 L (.int (zmin x z) :: st) h Q := g_mm (f := fun x z => zmin x z) rfl h4
theorem g603_16 (hT : zT h a = (6, 3)) : zG d 603 16 L (.int x :: .ref a :: st) h Q = zG d 603 19 L st (wI h a 1 x) Q := g_pI rfl hT
theorem g603_19 : zG d 603 19 L st h Q = zG d 603 20 L (.int 0 :: st) h Q := g_c rfl
theorem g603_20 : zG d 603 20 (l0 :: l1 :: l2 :: l3 :: L) (.int x :: st) h Q = zG d 603 21 (l0 :: l1 :: kl l2 :: some (.int x) :: L) st h Q := g_stI rfl (by simp) rfl
theorem g603_21 : zG d 603 21 (l0 :: l1 :: l2 :: some (.int x) :: L) st h Q = zG d 603 22 (l0 :: l1 :: l2 :: some (.int x) :: L) (.int x :: st) h Q := g_ldI rfl rfl
theorem g603_22 : zG d 603 22 (some (.ref a) :: L) st h Q = zG d 603 23 (some (.ref a) :: L) (.ref a :: st) h Q := g_ldA rfl rfl
theorem g603_23 (hT : zT h a = (6, 3)) : zG d 603 23 L (.ref a :: st) h Q = zG d 603 26 L (.int (zI h a 1) :: st) h Q := g_gI rfl hT
theorem g603_26 : zG d 603 26 L (.int z :: .int x :: st) h Q = if z ≤ x then zG d 603 42 L st h Q else zG d 603 29 L st h Q := g_i2 (P := fun x z => z ≤ x) rfl
theorem g603_29 : zG d 603 29 (some (.ref a) :: L) st h Q = zG d 603 30 (some (.ref a) :: L) (.ref a :: st) h Q := g_ldA rfl rfl
theorem g603_30 (hT : zT h a = (6, 3)) : zG d 603 30 L (.ref a :: st) h Q = zG d 603 33 L (zR h a 2 :: st) h Q := g_gR rfl hT
theorem g603_33 : zG d 603 33 (l0 :: l1 :: l2 :: some (.int x) :: L) st h Q = zG d 603 34 (l0 :: l1 :: l2 :: some (.int x) :: L) (.int x :: st) h Q := g_ldI rfl rfl
theorem g603_34 : zG d 603 34 L st h Q = zG d 603 35 L (.long 0 :: st) h Q := g_c rfl
theorem g603_35 (hT : (zT h b).1 = 24) (hi : zin i (zT h b).2) : zG d 603 35 L (.long u :: .int i :: .ref b :: st) h Q = zG d 603 36 L st (wJ h b i.toNatClampNeg u) Q := g_js rfl hT hi
theorem g603_36 : zG d 603 36 (l0 :: l1 :: l2 :: some (.int x) :: L) st h Q = zG d 603 39 (l0 :: l1 :: kl l2 :: some (.int (x + 1)) :: L) st h Q := g_inc rfl rfl rfl
theorem g603_39 : zG d 603 39 L st h Q = zG d 603 21 L st h Q := g_go rfl
theorem g603_42 : zG d 603 42 L [] h Q = Q none h := g_rV rfl
theorem k603 {x0 : Int32} {x1 : Int32} : zCall (d + 1) 603 [.ref a, .int x0, .int x1] h Q = zG d 603 0 [some (.ref a), some (.int x0), some (.int x1), none] [] h Q := zCall_k (Nat.le_of_ble_eq_true rfl) rfl
theorem g604_0 : zG d 604 0 (some (.ref a) :: L) st h Q = zG d 604 1 (some (.ref a) :: L) (.ref a :: st) h Q := g_ldA rfl rfl
theorem g604_1 (hT : zT h a = (6, 3)) : zG d 604 1 L (.ref a :: st) h Q = zG d 604 4 L (.int (zI h a 0) :: st) h Q := g_gI rfl hT
theorem g604_4 : zG d 604 4 L (.int x :: st) h Q = if x = 0 then zG d 604 36 L st h Q else if x = 1 then zG d 604 41 L st h Q else if x = 2 then zG d 604 46 L st h Q else if x = 3 then zG d 604 50 L st h Q else zG d 604 52 L st h Q := g_sw (c := 52) (ps := [(0, 36), (1, 41), (2, 46), (3, 50)]) rfl
theorem g604_36 : zG d 604 36 (l0 :: some (.long u) :: L) st h Q = zG d 604 37 (l0 :: some (.long u) :: L) (.long u :: st) h Q := g_ldJ rfl rfl
theorem g604_37 : zG d 604 37 L (.long u :: st) h Q = zG d 604 38 L (.int u.toInt32 :: st) h Q := g_l2i rfl
theorem g604_38 : zG d 604 38 L (.int x :: st) h Q = zG d 604 39 L (.int (x.toInt8.toInt32) :: st) h Q := g_u (f1 := fun x => x.toInt8.toInt32) rfl
theorem g604_39 : zG d 604 39 L (.int x :: st) h Q = zG d 604 40 L (.long x.toInt64 :: st) h Q := g_i2l rfl
theorem g604_40 : zG d 604 40 L [.long u] h Q = Q (some (.long u)) h := g_rJ rfl
theorem g604_41 : zG d 604 41 (l0 :: some (.long u) :: L) st h Q = zG d 604 42 (l0 :: some (.long u) :: L) (.long u :: st) h Q := g_ldJ rfl rfl
theorem g604_42 : zG d 604 42 L (.long u :: st) h Q = zG d 604 43 L (.int u.toInt32 :: st) h Q := g_l2i rfl
theorem g604_43 : zG d 604 43 L (.int x :: st) h Q = zG d 604 44 L (.int (x.toInt16.toInt32) :: st) h Q := g_u (f1 := fun x => x.toInt16.toInt32) rfl
theorem g604_44 : zG d 604 44 L (.int x :: st) h Q = zG d 604 45 L (.long x.toInt64 :: st) h Q := g_i2l rfl
theorem g604_45 : zG d 604 45 L [.long u] h Q = Q (some (.long u)) h := g_rJ rfl
theorem g604_46 : zG d 604 46 (l0 :: some (.long u) :: L) st h Q = zG d 604 47 (l0 :: some (.long u) :: L) (.long u :: st) h Q := g_ldJ rfl rfl
theorem g604_47 : zG d 604 47 L (.long u :: st) h Q = zG d 604 48 L (.int u.toInt32 :: st) h Q := g_l2i rfl
theorem g604_48 : zG d 604 48 L (.int x :: st) h Q = zG d 604 49 L (.long x.toInt64 :: st) h Q := g_i2l rfl
theorem g604_49 : zG d 604 49 L [.long u] h Q = Q (some (.long u)) h := g_rJ rfl
theorem g604_50 : zG d 604 50 (l0 :: some (.long u) :: L) st h Q = zG d 604 51 (l0 :: some (.long u) :: L) (.long u :: st) h Q := g_ldJ rfl rfl
theorem g604_51 : zG d 604 51 L [.long u] h Q = Q (some (.long u)) h := g_rJ rfl
theorem g604_52 : zG d 604 52 (l0 :: some (.long u) :: L) st h Q = zG d 604 53 (l0 :: some (.long u) :: L) (.long u :: st) h Q := g_ldJ rfl rfl
theorem g604_53 : zG d 604 53 L st h Q = zG d 604 54 L (.long 0 :: st) h Q := g_c rfl
theorem g604_54 : zG d 604 54 L (.long w :: .long u :: st) h Q = zG d 604 55 L (.int (zcmp u w) :: st) h Q := g_lcmp rfl
theorem g604_55 : zG d 604 55 L (.int x :: st) h Q = if x = 0 then zG d 604 62 L st h Q else zG d 604 58 L st h Q := g_i1 (P := fun x => x = 0) rfl
theorem g604_58 : zG d 604 58 L st h Q = zG d 604 59 L (.long 1 :: st) h Q := g_c rfl
theorem g604_59 : zG d 604 59 L st h Q = zG d 604 63 L st h Q := g_go rfl
theorem g604_62 : zG d 604 62 L st h Q = zG d 604 63 L (.long 0 :: st) h Q := g_c rfl
theorem g604_63 : zG d 604 63 L [.long u] h Q = Q (some (.long u)) h := g_rJ rfl
theorem k604 {x0 : Int64} : zCall (d + 1) 604 [.ref a, .long x0] h Q = zG d 604 0 [some (.ref a), some (.long x0), none] [] h Q := zCall_k (Nat.le_of_ble_eq_true rfl) rfl
theorem g605_0 : zG d 605 0 (l0 :: some (.int x) :: L) st h Q = zG d 605 1 (l0 :: some (.int x) :: L) (.int x :: st) h Q := g_ldI rfl rfl
theorem g605_1 : zG d 605 1 L (.int x :: st) h Q = if x < 0 then zG d 605 22 L st h Q else zG d 605 4 L st h Q := g_i1 (P := fun x => x < 0) rfl
theorem g605_4 : zG d 605 4 (l0 :: l1 :: some (.int x) :: L) st h Q = zG d 605 5 (l0 :: l1 :: some (.int x) :: L) (.int x :: st) h Q := g_ldI rfl rfl
theorem g605_5 : zG d 605 5 L (.int x :: st) h Q = if x < 0 then zG d 605 22 L st h Q else zG d 605 8 L st h Q := g_i1 (P := fun x => x < 0) rfl
theorem g605_8 : zG d 605 8 (l0 :: l1 :: some (.int x) :: L) st h Q = zG d 605 9 (l0 :: l1 :: some (.int x) :: L) (.int x :: st) h Q := g_ldI rfl rfl
theorem g605_9 : zG d 605 9 (some (.ref a) :: L) st h Q = zG d 605 10 (some (.ref a) :: L) (.ref a :: st) h Q := g_ldA rfl rfl
theorem g605_10 (hT : zT h a = (6, 3)) : zG d 605 10 L (.ref a :: st) h Q = zG d 605 13 L (.int (zI h a 1) :: st) h Q := g_gI rfl hT
theorem g605_13 : zG d 605 13 (l0 :: some (.int x) :: L) st h Q = zG d 605 14 (l0 :: some (.int x) :: L) (.int x :: st) h Q := g_ldI rfl rfl
theorem g605_14 : zG d 605 14 L (.int z :: .int x :: st) h Q = zG d 605 15 L (.int (x - z) :: st) h Q := g_b (f := fun x z => x - z) rfl
theorem g605_15 : zG d 605 15 L (.int z :: .int x :: st) h Q = if z < x then zG d 605 22 L st h Q else zG d 605 18 L st h Q := g_i2 (P := fun x z => z < x) rfl
theorem g605_18 : zG d 605 18 L st h Q = zG d 605 19 L (.int 1 :: st) h Q := g_c rfl
theorem g605_19 : zG d 605 19 L st h Q = zG d 605 23 L st h Q := g_go rfl
theorem g605_22 : zG d 605 22 L st h Q = zG d 605 23 L (.int 0 :: st) h Q := g_c rfl
theorem g605_23 (hx : x = 0 ∨ x = 1) : zG d 605 23 L [.int x] h Q = Q (some (.int x)) h := g_rI (ok := fun x => x = 0 ∨ x = 1) rfl hx
theorem k605 {x0 : Int32} {x1 : Int32} : zCall (d + 1) 605 [.ref a, .int x0, .int x1] h Q = zG d 605 0 [some (.ref a), some (.int x0), some (.int x1)] [] h Q := zCall_k (Nat.le_of_ble_eq_true rfl) rfl
theorem g901_0 : zG d 901 0 (some (.int x) :: L) st h Q = zG d 901 1 (some (.int x) :: L) (.int x :: st) h Q := g_ldI rfl rfl
theorem g901_1 : zG d 901 1 (some (.int x) :: L) st h Q = zG d 901 2 (some (.int x) :: L) (.int x :: st) h Q := g_ldI rfl rfl
theorem g901_2 : zG d 901 2 L st h Q = zG d 901 3 L (.int 1 :: st) h Q := g_c rfl
theorem g901_3 : zG d 901 3 L (.int z :: .int x :: st) h Q = zG d 901 4 L (.int ((x.toUInt32 >>> (z.toUInt32 &&& Int32.toUInt32 31)).toInt32) :: st) h Q := g_b (f := fun x z => (x.toUInt32 >>> (z.toUInt32 &&& Int32.toUInt32 31)).toInt32) rfl
theorem g901_4 : zG d 901 4 L st h Q = zG d 901 7 L (.int 1431655765 :: st) h Q := g_c rfl
theorem g901_7 : zG d 901 7 L (.int z :: .int x :: st) h Q = zG d 901 8 L (.int (x &&& z) :: st) h Q := g_b (f := fun x z => x &&& z) rfl
theorem g901_8 : zG d 901 8 L (.int z :: .int x :: st) h Q = zG d 901 9 L (.int (x - z) :: st) h Q := g_b (f := fun x z => x - z) rfl
theorem g901_9 : zG d 901 9 (l0 :: L) (.int x :: st) h Q = zG d 901 10 (some (.int x) :: L) st h Q := g_stI rfl (by simp) rfl
theorem g901_10 : zG d 901 10 (some (.int x) :: L) st h Q = zG d 901 11 (some (.int x) :: L) (.int x :: st) h Q := g_ldI rfl rfl
theorem g901_11 : zG d 901 11 L st h Q = zG d 901 14 L (.int 858993459 :: st) h Q := g_c rfl
theorem g901_14 : zG d 901 14 L (.int z :: .int x :: st) h Q = zG d 901 15 L (.int (x &&& z) :: st) h Q := g_b (f := fun x z => x &&& z) rfl
theorem g901_15 : zG d 901 15 (some (.int x) :: L) st h Q = zG d 901 16 (some (.int x) :: L) (.int x :: st) h Q := g_ldI rfl rfl
theorem g901_16 : zG d 901 16 L st h Q = zG d 901 17 L (.int 2 :: st) h Q := g_c rfl
theorem g901_17 : zG d 901 17 L (.int z :: .int x :: st) h Q = zG d 901 18 L (.int ((x.toUInt32 >>> (z.toUInt32 &&& Int32.toUInt32 31)).toInt32) :: st) h Q := g_b (f := fun x z => (x.toUInt32 >>> (z.toUInt32 &&& Int32.toUInt32 31)).toInt32) rfl
theorem g901_18 : zG d 901 18 L st h Q = zG d 901 21 L (.int 858993459 :: st) h Q := g_c rfl
theorem g901_21 : zG d 901 21 L (.int z :: .int x :: st) h Q = zG d 901 22 L (.int (x &&& z) :: st) h Q := g_b (f := fun x z => x &&& z) rfl
theorem g901_22 : zG d 901 22 L (.int z :: .int x :: st) h Q = zG d 901 23 L (.int (x + z) :: st) h Q := g_b (f := fun x z => x + z) rfl
theorem g901_23 : zG d 901 23 (l0 :: L) (.int x :: st) h Q = zG d 901 24 (some (.int x) :: L) st h Q := g_stI rfl (by simp) rfl
theorem g901_24 : zG d 901 24 (some (.int x) :: L) st h Q = zG d 901 25 (some (.int x) :: L) (.int x :: st) h Q := g_ldI rfl rfl
theorem g901_25 : zG d 901 25 (some (.int x) :: L) st h Q = zG d 901 26 (some (.int x) :: L) (.int x :: st) h Q := g_ldI rfl rfl
theorem g901_26 : zG d 901 26 L st h Q = zG d 901 27 L (.int 4 :: st) h Q := g_c rfl
theorem g901_27 : zG d 901 27 L (.int z :: .int x :: st) h Q = zG d 901 28 L (.int ((x.toUInt32 >>> (z.toUInt32 &&& Int32.toUInt32 31)).toInt32) :: st) h Q := g_b (f := fun x z => (x.toUInt32 >>> (z.toUInt32 &&& Int32.toUInt32 31)).toInt32) rfl
theorem g901_28 : zG d 901 28 L (.int z :: .int x :: st) h Q = zG d 901 29 L (.int (x + z) :: st) h Q := g_b (f := fun x z => x + z) rfl
theorem g901_29 : zG d 901 29 L st h Q = zG d 901 32 L (.int 252645135 :: st) h Q := g_c rfl
theorem g901_32 : zG d 901 32 L (.int z :: .int x :: st) h Q = zG d 901 33 L (.int (x &&& z) :: st) h Q := g_b (f := fun x z => x &&& z) rfl
theorem g901_33 : zG d 901 33 (l0 :: L) (.int x :: st) h Q = zG d 901 34 (some (.int x) :: L) st h Q := g_stI rfl (by simp) rfl
theorem g901_34 : zG d 901 34 (some (.int x) :: L) st h Q = zG d 901 35 (some (.int x) :: L) (.int x :: st) h Q := g_ldI rfl rfl
theorem g901_35 : zG d 901 35 (some (.int x) :: L) st h Q = zG d 901 36 (some (.int x) :: L) (.int x :: st) h Q := g_ldI rfl rfl
theorem g901_36 : zG d 901 36 L st h Q = zG d 901 38 L (.int 8 :: st) h Q := g_c rfl
theorem g901_38 : zG d 901 38 L (.int z :: .int x :: st) h Q = zG d 901 39 L (.int ((x.toUInt32 >>> (z.toUInt32 &&& Int32.toUInt32 31)).toInt32) :: st) h Q := g_b (f := fun x z => (x.toUInt32 >>> (z.toUInt32 &&& Int32.toUInt32 31)).toInt32) rfl
theorem g901_39 : zG d 901 39 L (.int z :: .int x :: st) h Q = zG d 901 40 L (.int (x + z) :: st) h Q := g_b (f := fun x z => x + z) rfl
theorem g901_40 : zG d 901 40 (l0 :: L) (.int x :: st) h Q = zG d 901 41 (some (.int x) :: L) st h Q := g_stI rfl (by simp) rfl
theorem g901_41 : zG d 901 41 (some (.int x) :: L) st h Q = zG d 901 42 (some (.int x) :: L) (.int x :: st) h Q := g_ldI rfl rfl
theorem g901_42 : zG d 901 42 (some (.int x) :: L) st h Q = zG d 901 43 (some (.int x) :: L) (.int x :: st) h Q := g_ldI rfl rfl
theorem g901_43 : zG d 901 43 L st h Q = zG d 901 45 L (.int 16 :: st) h Q := g_c rfl
theorem g901_45 : zG d 901 45 L (.int z :: .int x :: st) h Q = zG d 901 46 L (.int ((x.toUInt32 >>> (z.toUInt32 &&& Int32.toUInt32 31)).toInt32) :: st) h Q := g_b (f := fun x z => (x.toUInt32 >>> (z.toUInt32 &&& Int32.toUInt32 31)).toInt32) rfl
theorem g901_46 : zG d 901 46 L (.int z :: .int x :: st) h Q = zG d 901 47 L (.int (x + z) :: st) h Q := g_b (f := fun x z => x + z) rfl
theorem g901_47 : zG d 901 47 (l0 :: L) (.int x :: st) h Q = zG d 901 48 (some (.int x) :: L) st h Q := g_stI rfl (by simp) rfl
theorem g901_48 : zG d 901 48 (some (.int x) :: L) st h Q = zG d 901 49 (some (.int x) :: L) (.int x :: st) h Q := g_ldI rfl rfl
theorem g901_49 : zG d 901 49 L st h Q = zG d 901 51 L (.int 63 :: st) h Q := g_c rfl
theorem g901_51 : zG d 901 51 L (.int z :: .int x :: st) h Q = zG d 901 52 L (.int (x &&& z) :: st) h Q := g_b (f := fun x z => x &&& z) rfl
theorem g901_52 : zG d 901 52 L [.int x] h Q = Q (some (.int x)) h := g_rI (ok := fun _ => True) rfl trivial
theorem k901 {x0 : Int32} : zCall (d + 1) 901 [.int x0] h Q = zG d 901 0 [some (.int x0)] [] h Q := zCall_k (Nat.le_of_ble_eq_true rfl) rfl
theorem g1001_0 : zG d 1001 0 (some (.ref a) :: L) st h Q = zG d 1001 1 (some (.ref a) :: L) (.ref a :: st) h Q := g_ldA rfl rfl
theorem g1001_1 (hT : (zT h a).1 = 31) : zG d 1001 1 L (.ref a :: st) h Q = zG d 1001 4 L (zR h a 0 :: st) h Q := g_sv rfl hT
theorem g1001_4 (hT : (zT h b).1 = 32) : zG d 1001 4 L (.ref b :: st) h Q = zG d 1001 5 L (.int (Int32.ofNat (zT h b).2) :: st) h Q := g_len rfl hT
theorem g1001_5 : zG d 1001 5 (some (.ref a) :: L) st h Q = zG d 1001 6 (some (.ref a) :: L) (.ref a :: st) h Q := g_ldA rfl rfl
theorem g1001_6 {s0 : Int32} (hT : (zT h a).1 = 31) : zG d 1001 6 L [.ref a, .int s0] h Q = zCall d 1003 [.ref a] h (fun v h1 => zG d 1001 9 L (zpush v [.int s0]) h1 Q) := g_cV rfl rfl rfl rfl (Nat.le_of_ble_eq_true rfl) hT
theorem g1001_9 : zG d 1001 9 L (.int z :: .int x :: st) h Q = zG d 1001 10 L (.int (x >>> (z &&& 31)) :: st) h Q := g_b (f := fun x z => x >>> (z &&& 31)) rfl
theorem g1001_10 : zG d 1001 10 L [.int x] h Q = Q (some (.int x)) h := g_rI (ok := fun _ => True) rfl trivial
theorem k1001  : zCall (d + 1) 1001 [.ref a] h Q = zG d 1001 0 [some (.ref a)] [] h Q := zCall_k (Nat.le_of_ble_eq_true rfl) rfl
theorem g1002_0 : zG d 1002 0 (some (.ref a) :: L) st h Q = zG d 1002 1 (some (.ref a) :: L) (.ref a :: st) h Q := g_ldA rfl rfl
theorem g1002_1 (hT : (zT h a).1 = 31) : zG d 1002 1 L [.ref a] h Q = zCall d 1004 [.ref a] h (fun v h1 => zG d 1002 4 L (zpush v []) h1 Q) := g_cV rfl rfl rfl rfl (Nat.le_of_ble_eq_true rfl) hT
theorem g1002_4 : zG d 1002 4 L (.int x :: st) h Q = if x = 0 then zG d 1002 16 L st h Q else zG d 1002 7 L st h Q := g_i1 (P := fun x => x = 0) rfl
theorem g1002_7 : zG d 1002 7 (some (.ref a) :: L) st h Q = zG d 1002 8 (some (.ref a) :: L) (.ref a :: st) h Q := g_ldA rfl rfl
theorem g1002_8 (hT : (zT h a).1 = 31) : zG d 1002 8 L (.ref a :: st) h Q = zG d 1002 11 L (zR h a 0 :: st) h Q := g_sv rfl hT
theorem g1002_11 : zG d 1002 11 (l0 :: some (.int x) :: L) st h Q = zG d 1002 12 (l0 :: some (.int x) :: L) (.int x :: st) h Q := g_ldI rfl rfl
theorem g1002_12 : zG d 1002 12 L [v1, v0] h Q = zCall d 1101 [v0, v1] h (fun v h1 => zG d 1002 15 L (zpush v []) h1 Q) := g_cS rfl rfl (Nat.le_of_ble_eq_true rfl) rfl (Nat.le_of_ble_eq_true rfl)
theorem g1002_15 (hx : vp_nar .char x = x) : zG d 1002 15 L [.int x] h Q = Q (some (.int x)) h := g_rI (ok := fun x => vp_nar .char x = x) rfl hx
theorem g1002_16 : zG d 1002 16 (some (.ref a) :: L) st h Q = zG d 1002 17 (some (.ref a) :: L) (.ref a :: st) h Q := g_ldA rfl rfl
theorem g1002_17 (hT : (zT h a).1 = 31) : zG d 1002 17 L (.ref a :: st) h Q = zG d 1002 20 L (zR h a 0 :: st) h Q := g_sv rfl hT
theorem g1002_20 : zG d 1002 20 (l0 :: some (.int x) :: L) st h Q = zG d 1002 21 (l0 :: some (.int x) :: L) (.int x :: st) h Q := g_ldI rfl rfl
theorem k1002 {x0 : Int32} : zCall (d + 1) 1002 [.ref a, .int x0] h Q = zG d 1002 0 [some (.ref a), some (.int x0)] [] h Q := zCall_k (Nat.le_of_ble_eq_true rfl) rfl
theorem g1003_0 : zG d 1003 0 L st h Q = zG d 1003 3 L (.int 1 :: st) h Q := g_c rfl
theorem g1003_3 : zG d 1003 3 L (.int x :: st) h Q = if x = 0 then zG d 1003 13 L st h Q else zG d 1003 6 L st h Q := g_i1 (P := fun x => x = 0) rfl
theorem g1003_6 : zG d 1003 6 (some (.ref a) :: L) st h Q = zG d 1003 7 (some (.ref a) :: L) (.ref a :: st) h Q := g_ldA rfl rfl
theorem g1003_7 (hT : (zT h a).1 = 31) : zG d 1003 7 L (.ref a :: st) h Q = zG d 1003 10 L (.int 0 :: st) h Q := g_sc rfl hT
theorem g1003_10 : zG d 1003 10 L st h Q = zG d 1003 14 L st h Q := g_go rfl
theorem g1003_13 : zG d 1003 13 L st h Q = zG d 1003 14 L (.int 1 :: st) h Q := g_c rfl
theorem g1003_14 (hx : vp_nar .byte x = x) : zG d 1003 14 L [.int x] h Q = Q (some (.int x)) h := g_rI (ok := fun x => vp_nar .byte x = x) rfl hx
theorem k1003  : zCall (d + 1) 1003 [.ref a] h Q = zG d 1003 0 [some (.ref a)] [] h Q := zCall_k (Nat.le_of_ble_eq_true rfl) rfl
theorem g1004_0 : zG d 1004 0 L st h Q = zG d 1004 3 L (.int 1 :: st) h Q := g_c rfl
theorem g1004_3 : zG d 1004 3 L (.int x :: st) h Q = if x = 0 then zG d 1004 17 L st h Q else zG d 1004 6 L st h Q := g_i1 (P := fun x => x = 0) rfl
theorem g1004_6 : zG d 1004 6 (some (.ref a) :: L) st h Q = zG d 1004 7 (some (.ref a) :: L) (.ref a :: st) h Q := g_ldA rfl rfl
theorem g1004_7 (hT : (zT h a).1 = 31) : zG d 1004 7 L (.ref a :: st) h Q = zG d 1004 10 L (.int 0 :: st) h Q := g_sc rfl hT
theorem g1004_10 : zG d 1004 10 L (.int x :: st) h Q = if ¬ x = 0 then zG d 1004 17 L st h Q else zG d 1004 13 L st h Q := g_i1 (P := fun x => ¬ x = 0) rfl
theorem g1004_13 : zG d 1004 13 L st h Q = zG d 1004 14 L (.int 1 :: st) h Q := g_c rfl
theorem g1004_14 : zG d 1004 14 L st h Q = zG d 1004 18 L st h Q := g_go rfl
theorem g1004_17 : zG d 1004 17 L st h Q = zG d 1004 18 L (.int 0 :: st) h Q := g_c rfl
theorem g1004_18 (hx : x = 0 ∨ x = 1) : zG d 1004 18 L [.int x] h Q = Q (some (.int x)) h := g_rI (ok := fun x => x = 0 ∨ x = 1) rfl hx
theorem k1004  : zCall (d + 1) 1004 [.ref a] h Q = zG d 1004 0 [some (.ref a)] [] h Q := zCall_k (Nat.le_of_ble_eq_true rfl) rfl
theorem g1005_0 : zG d 1005 0 (some (.int x) :: L) st h Q = zG d 1005 1 (some (.int x) :: L) (.int x :: st) h Q := g_ldI rfl rfl
theorem g1005_1 : zG d 1005 1 (l0 :: some (.int x) :: L) st h Q = zG d 1005 2 (l0 :: some (.int x) :: L) (.int x :: st) h Q := g_ldI rfl rfl
theorem g1005_2 : zG d 1005 2 L st h Q = zG d 1005 5 L (.ref 1000013 :: st) h Q := g_c rfl
theorem g1005_5 : zG d 1005 5 L [v2, v1, v0] h Q = zCall d 1201 [v0, v1, v2] h (fun v h1 => zG d 1005 8 L (zpush v []) h1 Q) := g_cS rfl rfl (Nat.le_of_ble_eq_true rfl) rfl (Nat.le_of_ble_eq_true rfl)
theorem g1005_8 : zG d 1005 8 L (.int x :: st) h Q = zG d 1005 9 L st h Q := g_popI rfl
theorem g1005_9 : zG d 1005 9 L [] h Q = Q none h := g_rV rfl
theorem k1005 {x0 : Int32} {x1 : Int32} : zCall (d + 1) 1005 [.int x0, .int x1] h Q = zG d 1005 0 [some (.int x0), some (.int x1)] [] h Q := zCall_k (Nat.le_of_ble_eq_true rfl) rfl
theorem g1101_0 : zG d 1101 0 (l0 :: some (.int x) :: L) st h Q = zG d 1101 1 (l0 :: some (.int x) :: L) (.int x :: st) h Q := g_ldI rfl rfl
theorem g1101_1 : zG d 1101 1 (some (.ref a) :: L) st h Q = zG d 1101 2 (some (.ref a) :: L) (.ref a :: st) h Q := g_ldA rfl rfl
theorem g1101_2 (hT : (zT h b).1 = 32) : zG d 1101 2 L (.ref b :: st) h Q = zG d 1101 3 L (.int (Int32.ofNat (zT h b).2) :: st) h Q := g_len rfl hT
theorem g1101_3 : zG d 1101 3 L [v1, v0] h Q = zCall d 1005 [v0, v1] h (fun v h1 => zG d 1101 6 L (zpush v []) h1 Q) := g_cS rfl rfl (Nat.le_of_ble_eq_true rfl) rfl (Nat.le_of_ble_eq_true rfl)
theorem g1101_6 : zG d 1101 6 (some (.ref a) :: L) st h Q = zG d 1101 7 (some (.ref a) :: L) (.ref a :: st) h Q := g_ldA rfl rfl
theorem g1101_7 : zG d 1101 7 (l0 :: some (.int x) :: L) st h Q = zG d 1101 8 (l0 :: some (.int x) :: L) (.int x :: st) h Q := g_ldI rfl rfl
theorem g1101_8 (hT : (zT h b).1 = 32) (hi : zin i (zT h b).2) : zG d 1101 8 L (.int i :: .ref b :: st) h Q = zG d 1101 9 L (.int (zI h b i.toNatClampNeg) :: st) h Q := g_ia rfl hT hi
theorem g1101_9 : zG d 1101 9 L st h Q = zG d 1101 12 L (.int 255 :: st) h Q := g_c rfl
theorem g1101_12 : zG d 1101 12 L (.int z :: .int x :: st) h Q = zG d 1101 13 L (.int (x &&& z) :: st) h Q := g_b (f := fun x z => x &&& z) rfl
theorem g1101_13 : zG d 1101 13 L (.int x :: st) h Q = zG d 1101 14 L (.int ((x.toUInt32 % 65536).toInt32) :: st) h Q := g_u (f1 := fun x => (x.toUInt32 % 65536).toInt32) rfl
theorem g1101_14 (hx : vp_nar .char x = x) : zG d 1101 14 L [.int x] h Q = Q (some (.int x)) h := g_rI (ok := fun x => vp_nar .char x = x) rfl hx
theorem k1101 {x0 : Nat} {x1 : Int32} : zCall (d + 1) 1101 [.ref x0, .int x1] h Q = zG d 1101 0 [some (.ref x0), some (.int x1)] [] h Q := zCall_k (Nat.le_of_ble_eq_true rfl) rfl
theorem g1201_0 : zG d 1201 0 (some (.int x) :: L) st h Q = zG d 1201 1 (some (.int x) :: L) (.int x :: st) h Q := g_ldI rfl rfl
theorem g1201_1 : zG d 1201 1 L (.int x :: st) h Q = if x < 0 then zG d 1201 9 L st h Q else zG d 1201 4 L st h Q := g_i1 (P := fun x => x < 0) rfl
theorem g1201_4 : zG d 1201 4 (some (.int x) :: L) st h Q = zG d 1201 5 (some (.int x) :: L) (.int x :: st) h Q := g_ldI rfl rfl
theorem g1201_5 : zG d 1201 5 (l0 :: some (.int x) :: L) st h Q = zG d 1201 6 (l0 :: some (.int x) :: L) (.int x :: st) h Q := g_ldI rfl rfl
theorem g1201_6 : zG d 1201 6 L (.int z :: .int x :: st) h Q = if x < z then zG d 1201 16 L st h Q else zG d 1201 9 L st h Q := g_i2 (P := fun x z => x < z) rfl
theorem g1201_9 : zG d 1201 9 (l0 :: l1 :: some (.ref a) :: L) st h Q = zG d 1201 10 (l0 :: l1 :: some (.ref a) :: L) (.ref a :: st) h Q := g_ldA rfl rfl
theorem g1201_10 : zG d 1201 10 (some (.int x) :: L) st h Q = zG d 1201 11 (some (.int x) :: L) (.int x :: st) h Q := g_ldI rfl rfl
theorem g1201_11 : zG d 1201 11 (l0 :: some (.int x) :: L) st h Q = zG d 1201 12 (l0 :: some (.int x) :: L) (.int x :: st) h Q := g_ldI rfl rfl
theorem g1201_16 : zG d 1201 16 (some (.int x) :: L) st h Q = zG d 1201 17 (some (.int x) :: L) (.int x :: st) h Q := g_ldI rfl rfl
theorem g1201_17 : zG d 1201 17 L [.int x] h Q = Q (some (.int x)) h := g_rI (ok := fun _ => True) rfl trivial
theorem k1201 {x0 : Int32} {x1 : Int32} {x2 : Nat} : zCall (d + 1) 1201 [.int x0, .int x1, .ref x2] h Q = zG d 1201 0 [some (.int x0), some (.int x1), some (.ref x2)] [] h Q := zCall_k (Nat.le_of_ble_eq_true rfl) rfl
