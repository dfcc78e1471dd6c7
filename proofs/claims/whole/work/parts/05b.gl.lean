/-! one instruction as an equation, method by method -/
variable {d a b : Nat} {L : zL} {st : List Value} {h : zH} {Q : zQq} {x z i : Int32} {u w : Int64} {v0 v1 v2 v3 v4 v5 : Value} {l0 l1 l2 l3 l4 l5 l6 l7 l8 l9 l10 l11 l12 : Option Value}
theorem g501_0 : zG d 501 0 (some (.ref a) :: L) st h Q = zG d 501 1 (some (.ref a) :: L) (.ref a :: st) h Q := g_ldA rfl rfl
theorem g501_1 (hT : (zT h a).1 < 20) : zG d 501 1 L [.ref a] h Q = zG d 501 4 L [] h Q := g_oi rfl hT
theorem g501_4 : zG d 501 4 (some (.ref a) :: L) st h Q = zG d 501 5 (some (.ref a) :: L) (.ref a :: st) h Q := g_ldA rfl rfl
theorem g501_5 : zG d 501 5 L st h Q = zG d 501 7 L (.int 100 :: st) h Q := g_c rfl
theorem g501_7 (hx : ¬ x < 0 ∧ x.toNatClampNeg ≤ 1000) : zG d 501 7 L (.int x :: st) h Q = zG d 501 9 L (.ref (zN h) :: st) (wN h (21, x.toNatClampNeg)) Q := g_na rfl hx
theorem g501_9 (hT : zT h a = (5, 4)) : zG d 501 9 L (.ref b :: .ref a :: st) h Q = zG d 501 12 L st (wR h a 0 (.ref b)) Q := g_pR rfl hT
theorem g501_9_n (hT : zT h a = (5, 4)) : zG d 501 9 L (.null :: .ref a :: st) h Q = zG d 501 12 L st (wR h a 0 .null) Q := g_pR0 rfl hT
theorem g501_12 : zG d 501 12 (some (.ref a) :: L) st h Q = zG d 501 13 (some (.ref a) :: L) (.ref a :: st) h Q := g_ldA rfl rfl
theorem g501_13 : zG d 501 13 L st h Q = zG d 501 16 L (.ref (zN h) :: st) (wN h (4, 3)) Q := g_new rfl
theorem g501_16 : zG d 501 16 L (.ref a :: st) h Q = zG d 501 17 L (.ref a :: .ref a :: st) h Q := g_dupA rfl
theorem g501_17 {s0 s1 : Nat} (hT : (zT h a).1 < 20) : zG d 501 17 L [.ref a, .ref s0, .ref s1] h Q = zCall d 401 [.ref a] h (fun v h1 => zG d 501 20 L (zpush v [.ref s0, .ref s1]) h1 Q) := g_cI rfl rfl rfl rfl (Nat.le_of_ble_eq_true rfl) hT
theorem g501_20 (hT : zT h a = (5, 4)) : zG d 501 20 L (.ref b :: .ref a :: st) h Q = zG d 501 23 L st (wR h a 1 (.ref b)) Q := g_pR rfl hT
theorem g501_20_n (hT : zT h a = (5, 4)) : zG d 501 20 L (.null :: .ref a :: st) h Q = zG d 501 23 L st (wR h a 1 .null) Q := g_pR0 rfl hT
theorem g501_23 : zG d 501 23 L [] h Q = Q none h := g_rV rfl
theorem k501  : zCall (d + 1) 501 [.ref a] h Q = zG d 501 0 [some (.ref a)] [] h Q := zCall_k (Nat.le_of_ble_eq_true rfl) rfl
theorem g502_0 : zG d 502 0 (some (.ref a) :: L) st h Q = zG d 502 1 (some (.ref a) :: L) (.ref a :: st) h Q := g_ldA rfl rfl
theorem g502_1 (hT : zT h a = (5, 4)) : zG d 502 1 L (.ref a :: st) h Q = zG d 502 4 L (.int (zI h a 3) :: st) h Q := g_gI rfl hT
theorem g502_4 : zG d 502 4 L st h Q = zG d 502 6 L (.int 100 :: st) h Q := g_c rfl
theorem g502_6 : zG d 502 6 L (.int z :: .int x :: st) h Q = if x < z then zG d 502 12 L st h Q else zG d 502 9 L st h Q := g_i2 (P := fun x z => x < z) rfl
theorem g502_9 : zG d 502 9 L st h Q = zG d 502 11 L (.int (-4) :: st) h Q := g_c rfl
theorem g502_11 : zG d 502 11 L [.int x] h Q = Q (some (.int x)) h := g_rI (ok := fun _ => True) rfl trivial
theorem g502_12 : zG d 502 12 (some (.ref a) :: L) st h Q = zG d 502 13 (some (.ref a) :: L) (.ref a :: st) h Q := g_ldA rfl rfl
theorem g502_13 (hT : zT h a = (5, 4)) : zG d 502 13 L (.ref a :: st) h Q = zG d 502 16 L (zR h a 0 :: st) h Q := g_gR rfl hT
theorem g502_16 : zG d 502 16 (some (.ref a) :: L) st h Q = zG d 502 17 (some (.ref a) :: L) (.ref a :: st) h Q := g_ldA rfl rfl
theorem g502_17 (hT : zT h a = (5, 4)) : zG d 502 17 L (.ref a :: st) h Q = zG d 502 20 L (.int (zI h a 3) :: st) h Q := g_gI rfl hT
theorem g502_20 : zG d 502 20 (l0 :: some (.int x) :: L) st h Q = zG d 502 21 (l0 :: some (.int x) :: L) (.int x :: st) h Q := g_ldI rfl rfl
theorem g502_21 : zG d 502 21 L (.int x :: st) h Q = zG d 502 22 L (.int (x.toInt8.toInt32) :: st) h Q := g_u (f1 := fun x => x.toInt8.toInt32) rfl
theorem g502_22 (hT : (zT h b).1 = 21) (hi : zin i (zT h b).2) : zG d 502 22 L (.int x :: .int i :: .ref b :: st) h Q = zG d 502 23 L st (wI h b i.toNatClampNeg (vp_nar .byte x)) Q := g_is (f1 := fun x => vp_nar .byte x) rfl hT hi
theorem g502_23 : zG d 502 23 (some (.ref a) :: L) st h Q = zG d 502 24 (some (.ref a) :: L) (.ref a :: st) h Q := g_ldA rfl rfl
theorem g502_24 : zG d 502 24 L (.ref a :: st) h Q = zG d 502 25 L (.ref a :: .ref a :: st) h Q := g_dupA rfl
theorem g502_25 (hT : zT h a = (5, 4)) : zG d 502 25 L (.ref a :: st) h Q = zG d 502 28 L (.int (zI h a 3) :: st) h Q := g_gI rfl hT
theorem g502_28 : zG d 502 28 L st h Q = zG d 502 29 L (.int 1 :: st) h Q := g_c rfl
theorem g502_29 : zG d 502 29 L (.int z :: .int x :: st) h Q = zG d 502 30 L (.int (x + z) :: st) h Q := g_b (f := fun x z => x + z) rfl
theorem g502_30 (hT : zT h a = (5, 4)) : zG d 502 30 L (.int x :: .ref a :: st) h Q = zG d 502 33 L st (wI h a 3 x) Q := g_pI rfl hT
theorem g502_33 : zG d 502 33 (some (.ref a) :: L) st h Q = zG d 502 34 (some (.ref a) :: L) (.ref a :: st) h Q := g_ldA rfl rfl
theorem g502_34 (hT : zT h a = (5, 4)) : zG d 502 34 L (.ref a :: st) h Q = zG d 502 37 L (.int (zI h a 3) :: st) h Q := g_gI rfl hT
theorem g502_37 : zG d 502 37 L [.int x] h Q = Q (some (.int x)) h := g_rI (ok := fun _ => True) rfl trivial
theorem k502 {x0 : Int32} : zCall (d + 1) 502 [.ref a, .int x0] h Q = zG d 502 0 [some (.ref a), some (.int x0)] [] h Q := zCall_k (Nat.le_of_ble_eq_true rfl) rfl
theorem g503_0 : zG d 503 0 (some (.ref a) :: L) st h Q = zG d 503 1 (some (.ref a) :: L) (.ref a :: st) h Q := g_ldA rfl rfl
theorem g503_1 (hT : zT h a = (5, 4)) : zG d 503 1 L (.ref a :: st) h Q = zG d 503 4 L (zR h a 1 :: st) h Q := g_gR rfl hT
theorem g503_4 (hT : (zT h a).1 = 4) : zG d 503 4 L [.ref a] h Q = zCall d 402 [.ref a] h (fun v h1 => zG d 503 7 L (zpush v []) h1 Q) := g_cV rfl rfl rfl rfl (Nat.le_of_ble_eq_true rfl) hT
theorem g503_7 : zG d 503 7 (some (.ref a) :: L) st h Q = zG d 503 8 (some (.ref a) :: L) (.ref a :: st) h Q := g_ldA rfl rfl
theorem g503_8 : zG d 503 8 L st h Q = zG d 503 9 L (.int 0 :: st) h Q := g_c rfl
theorem g503_9 (hT : zT h a = (5, 4)) : zG d 503 9 L (.int x :: .ref a :: st) h Q = zG d 503 12 L st (wI h a 2 x) Q := g_pI rfl hT
theorem g503_12 : zG d 503 12 L st h Q = zG d 503 13 L (.int 0 :: st) h Q := g_c rfl
theorem g503_13 : zG d 503 13 (l0 :: l1 :: L) (.int x :: st) h Q = zG d 503 14 (kl l0 :: some (.int x) :: L) st h Q := g_stI rfl (by simp) rfl
theorem g503_14 : zG d 503 14 L st h Q = zG d 503 15 L (.int 1 :: st) h Q := g_c rfl
theorem g503_15 : zG d 503 15 (l0 :: l1 :: l2 :: L) (.int x :: st) h Q = zG d 503 16 (l0 :: kl l1 :: some (.int x) :: L) st h Q := g_stI rfl (by simp) rfl
theorem g503_16 : zG d 503 16 (l0 :: l1 :: some (.int x) :: L) st h Q = zG d 503 17 (l0 :: l1 :: some (.int x) :: L) (.int x :: st) h Q := g_ldI rfl rfl
theorem g503_17 : zG d 503 17 L st h Q = zG d 503 19 L (.int 10 :: st) h Q := g_c rfl
theorem g503_19 : zG d 503 19 L (.int z :: .int x :: st) h Q = if z < x then zG d 503 77 L st h Q else zG d 503 22 L st h Q := g_i2 (P := fun x z => z < x) rfl
theorem g503_22 : zG d 503 22 (some (.ref a) :: L) st h Q = zG d 503 23 (some (.ref a) :: L) (.ref a :: st) h Q := g_ldA rfl rfl
theorem g503_23 (hT : (zT h a).1 = 5) : zG d 503 23 L [.ref a] h Q = zCall d 505 [.ref a] h (fun v h1 => zG d 503 26 L (zpush v []) h1 Q) := g_cV rfl rfl rfl rfl (Nat.le_of_ble_eq_true rfl) hT
theorem g503_26 : zG d 503 26 L (.int x :: st) h Q = if ¬ x = 0 then zG d 503 32 L st h Q else zG d 503 29 L st h Q := g_i1 (P := fun x => ¬ x = 0) rfl
theorem g503_29 : zG d 503 29 L st h Q = zG d 503 77 L st h Q := g_go rfl
theorem g503_32 : zG d 503 32 (some (.ref a) :: L) st h Q = zG d 503 33 (some (.ref a) :: L) (.ref a :: st) h Q := g_ldA rfl rfl
theorem g503_33 (hT : zT h a = (5, 4)) : zG d 503 33 L (.ref a :: st) h Q = zG d 503 36 L (.int (zI h a 2) :: st) h Q := g_gI rfl hT
theorem g503_36 : zG d 503 36 (some (.ref a) :: L) st h Q = zG d 503 37 (some (.ref a) :: L) (.ref a :: st) h Q := g_ldA rfl rfl
theorem g503_37 (hT : zT h a = (5, 4)) : zG d 503 37 L (.ref a :: st) h Q = zG d 503 40 L (.int (zI h a 3) :: st) h Q := g_gI rfl hT
theorem g503_40 : zG d 503 40 L (.int z :: .int x :: st) h Q = if ¬ x = z then zG d 503 47 L st h Q else zG d 503 43 L st h Q := g_i2 (P := fun x z => ¬ x = z) rfl
theorem g503_43 : zG d 503 43 L st h Q = zG d 503 44 L (.int 1 :: st) h Q := g_c rfl
theorem g503_44 : zG d 503 44 L st h Q = zG d 503 48 L st h Q := g_go rfl
theorem g503_47 : zG d 503 47 L st h Q = zG d 503 48 L (.int 0 :: st) h Q := g_c rfl
theorem g503_48 : zG d 503 48 (l0 :: l1 :: L) (.int x :: st) h Q = zG d 503 49 (kl l0 :: some (.int x) :: L) st h Q := g_stI rfl (by simp) rfl
theorem g503_49 : zG d 503 49 (l0 :: some (.int x) :: L) st h Q = zG d 503 50 (l0 :: some (.int x) :: L) (.int x :: st) h Q := g_ldI rfl rfl
theorem g503_50 : zG d 503 50 L (.int x :: st) h Q = if ¬ x = 0 then zG d 503 77 L st h Q else zG d 503 53 L st h Q := g_i1 (P := fun x => ¬ x = 0) rfl
theorem g503_53 : zG d 503 53 (l0 :: l1 :: some (.int x) :: L) st h Q = zG d 503 54 (l0 :: l1 :: some (.int x) :: L) (.int x :: st) h Q := g_ldI rfl rfl
theorem g503_54 : zG d 503 54 L st h Q = zG d 503 56 L (.int 10 :: st) h Q := g_c rfl
theorem g503_56 : zG d 503 56 L (.int z :: .int x :: st) h Q = if x = z then zG d 503 77 L st h Q else zG d 503 59 L st h Q := g_i2 (P := fun x z => x = z) rfl
theorem g503_59 : zG d 503 59 (some (.ref a) :: L) st h Q = zG d 503 60 (some (.ref a) :: L) (.ref a :: st) h Q := g_ldA rfl rfl
theorem g503_60 : zG d 503 60 L st h Q = zG d 503 62 L (.int 59 :: st) h Q := g_c rfl
theorem g503_62 (hT : (zT h a).1 = 5) : zG d 503 62 L [v0, .ref a] h Q = zCall d 512 [.ref a, v0] h (fun v h1 => zG d 503 65 L (zpush v []) h1 Q) := g_cV rfl rfl rfl rfl (Nat.le_of_ble_eq_true rfl) hT
theorem g503_65 : zG d 503 65 L (.int x :: st) h Q = if ¬ x = 0 then zG d 503 71 L st h Q else zG d 503 68 L st h Q := g_i1 (P := fun x => ¬ x = 0) rfl
theorem g503_68 : zG d 503 68 L st h Q = zG d 503 77 L st h Q := g_go rfl
theorem g503_71 : zG d 503 71 (l0 :: l1 :: some (.int x) :: L) st h Q = zG d 503 74 (l0 :: kl l1 :: some (.int (x + 1)) :: L) st h Q := g_inc rfl rfl rfl
theorem g503_74 : zG d 503 74 L st h Q = zG d 503 16 L st h Q := g_go rfl
theorem g503_77 : zG d 503 77 (some (.ref a) :: L) st h Q = zG d 503 78 (some (.ref a) :: L) (.ref a :: st) h Q := g_ldA rfl rfl
theorem g503_78 : zG d 503 78 L st h Q = zG d 503 79 L (.int 0 :: st) h Q := g_c rfl
theorem g503_79 (hT : zT h a = (5, 4)) : zG d 503 79 L (.int x :: .ref a :: st) h Q = zG d 503 82 L st (wI h a 3 x) Q := g_pI rfl hT
theorem g503_82 : zG d 503 82 (l0 :: some (.int x) :: L) st h Q = zG d 503 83 (l0 :: some (.int x) :: L) (.int x :: st) h Q := g_ldI rfl rfl
theorem g503_83 : zG d 503 83 L (.int x :: st) h Q = if x = 0 then zG d 503 90 L st h Q else zG d 503 86 L st h Q := g_i1 (P := fun x => x = 0) rfl
theorem g503_86 : zG d 503 86 L st h Q = zG d 503 87 L (.int (-1) :: st) h Q := g_c rfl
theorem g503_87 : zG d 503 87 L st h Q = zG d 503 94 L st h Q := g_go rfl
theorem g503_90 : zG d 503 90 (some (.ref a) :: L) st h Q = zG d 503 91 (some (.ref a) :: L) (.ref a :: st) h Q := g_ldA rfl rfl
theorem g503_91 (hT : zT h a = (5, 4)) : zG d 503 91 L (.ref a :: st) h Q = zG d 503 94 L (.int (zI h a 2) :: st) h Q := g_gI rfl hT
theorem g503_94 : zG d 503 94 L [.int x] h Q = Q (some (.int x)) h := g_rI (ok := fun _ => True) rfl trivial
theorem k503  : zCall (d + 1) 503 [.ref a] h Q = zG d 503 0 [some (.ref a), none, none] [] h Q := zCall_k (Nat.le_of_ble_eq_true rfl) rfl
theorem g504_0 : zG d 504 0 (some (.ref a) :: L) st h Q = zG d 504 1 (some (.ref a) :: L) (.ref a :: st) h Q := g_ldA rfl rfl
theorem g504_1 (hT : zT h a = (5, 4)) : zG d 504 1 L (.ref a :: st) h Q = zG d 504 4 L (zR h a 1 :: st) h Q := g_gR rfl hT
theorem g504_4 : zG d 504 4 (l0 :: l1 :: L) (.ref a :: st) h Q = zG d 504 5 (kl l0 :: some (.ref a) :: L) st h Q := g_stA rfl (by simp) rfl
theorem g504_5 : zG d 504 5 (some (.ref a) :: L) st h Q = zG d 504 6 (some (.ref a) :: L) (.ref a :: st) h Q := g_ldA rfl rfl
theorem g504_6 : zG d 504 6 L st h Q = zG d 504 9 L (.ref (zN h) :: st) (wN h (4, 3)) Q := g_new rfl
theorem g504_9 : zG d 504 9 L (.ref a :: st) h Q = zG d 504 10 L (.ref a :: .ref a :: st) h Q := g_dupA rfl
theorem g504_10 {s0 s1 : Nat} (hT : (zT h a).1 < 20) : zG d 504 10 L [.ref a, .ref s0, .ref s1] h Q = zCall d 401 [.ref a] h (fun v h1 => zG d 504 13 L (zpush v [.ref s0, .ref s1]) h1 Q) := g_cI rfl rfl rfl rfl (Nat.le_of_ble_eq_true rfl) hT
theorem g504_13 (hT : zT h a = (5, 4)) : zG d 504 13 L (.ref b :: .ref a :: st) h Q = zG d 504 16 L st (wR h a 1 (.ref b)) Q := g_pR rfl hT
theorem g504_13_n (hT : zT h a = (5, 4)) : zG d 504 13 L (.null :: .ref a :: st) h Q = zG d 504 16 L st (wR h a 1 .null) Q := g_pR0 rfl hT
theorem g504_16 : zG d 504 16 (l0 :: some (.ref a) :: L) st h Q = zG d 504 17 (l0 :: some (.ref a) :: L) (.ref a :: st) h Q := g_ldA rfl rfl
theorem g504_17 : zG d 504 17 L [.ref a] h Q = Q (some (.ref a)) h := g_rA rfl
theorem k504  : zCall (d + 1) 504 [.ref a] h Q = zG d 504 0 [some (.ref a), none] [] h Q := zCall_k (Nat.le_of_ble_eq_true rfl) rfl
theorem g505_0 : zG d 505 0 (some (.ref a) :: L) st h Q = zG d 505 1 (some (.ref a) :: L) (.ref a :: st) h Q := g_ldA rfl rfl
theorem g505_1 (hT : (zT h a).1 = 5) : zG d 505 1 L [.ref a] h Q = zCall d 513 [.ref a] h (fun v h1 => zG d 505 4 L (zpush v []) h1 Q) := g_cV rfl rfl rfl rfl (Nat.le_of_ble_eq_true rfl) hT
theorem g505_4 : zG d 505 4 (l0 :: l1 :: L) (.int x :: st) h Q = zG d 505 5 (kl l0 :: some (.int x) :: L) st h Q := g_stI rfl (by simp) rfl
theorem g505_5 : zG d 505 5 (l0 :: some (.int x) :: L) st h Q = zG d 505 6 (l0 :: some (.int x) :: L) (.int x :: st) h Q := g_ldI rfl rfl
theorem g505_6 : zG d 505 6 L st h Q = zG d 505 8 L (.int 109 :: st) h Q := g_c rfl
theorem g505_8 : zG d 505 8 L (.int z :: .int x :: st) h Q = if x = z then zG d 505 22 L st h Q else zG d 505 11 L st h Q := g_i2 (P := fun x z => x = z) rfl
theorem g505_11 : zG d 505 11 (l0 :: some (.int x) :: L) st h Q = zG d 505 12 (l0 :: some (.int x) :: L) (.int x :: st) h Q := g_ldI rfl rfl
theorem g505_12 : zG d 505 12 L st h Q = zG d 505 14 L (.int 108 :: st) h Q := g_c rfl
theorem g505_14 : zG d 505 14 L (.int z :: .int x :: st) h Q = if x = z then zG d 505 22 L st h Q else zG d 505 17 L st h Q := g_i2 (P := fun x z => x = z) rfl
theorem g505_17 : zG d 505 17 (some (.ref a) :: L) st h Q = zG d 505 18 (some (.ref a) :: L) (.ref a :: st) h Q := g_ldA rfl rfl
theorem g505_18 (hT : (zT h a).1 = 5) : zG d 505 18 L [.ref a] h Q = zCall d 506 [.ref a] h (fun v h1 => zG d 505 21 L (zpush v []) h1 Q) := g_cV rfl rfl rfl rfl (Nat.le_of_ble_eq_true rfl) hT
theorem g505_21 (hx : x = 0 ∨ x = 1) : zG d 505 21 L [.int x] h Q = Q (some (.int x)) h := g_rI (ok := fun x => x = 0 ∨ x = 1) rfl hx
theorem g505_22 : zG d 505 22 (some (.ref a) :: L) st h Q = zG d 505 23 (some (.ref a) :: L) (.ref a :: st) h Q := g_ldA rfl rfl
theorem g505_23 : zG d 505 23 (l0 :: some (.int x) :: L) st h Q = zG d 505 24 (l0 :: some (.int x) :: L) (.int x :: st) h Q := g_ldI rfl rfl
theorem g505_24 : zG d 505 24 L st h Q = zG d 505 26 L (.int 109 :: st) h Q := g_c rfl
theorem g505_26 : zG d 505 26 L (.int z :: .int x :: st) h Q = if ¬ x = z then zG d 505 34 L st h Q else zG d 505 29 L st h Q := g_i2 (P := fun x z => ¬ x = z) rfl
theorem g505_29 : zG d 505 29 L st h Q = zG d 505 31 L (.ref 1000004 :: st) h Q := g_c rfl
theorem g505_31 : zG d 505 31 L st h Q = zG d 505 36 L st h Q := g_go rfl
theorem g505_34 : zG d 505 34 L st h Q = zG d 505 36 L (.ref 1000005 :: st) h Q := g_c rfl
theorem g505_36 (hT : (zT h a).1 = 5) : zG d 505 36 L [v0, .ref a] h Q = zCall d 511 [.ref a, v0] h (fun v h1 => zG d 505 39 L (zpush v []) h1 Q) := g_cV rfl rfl rfl rfl (Nat.le_of_ble_eq_true rfl) hT
theorem g505_39 : zG d 505 39 L (.int x :: st) h Q = if ¬ x = 0 then zG d 505 44 L st h Q else zG d 505 42 L st h Q := g_i1 (P := fun x => ¬ x = 0) rfl
theorem g505_42 : zG d 505 42 L st h Q = zG d 505 43 L (.int 0 :: st) h Q := g_c rfl
theorem g505_43 (hx : x = 0 ∨ x = 1) : zG d 505 43 L [.int x] h Q = Q (some (.int x)) h := g_rI (ok := fun x => x = 0 ∨ x = 1) rfl hx
theorem g505_44 : zG d 505 44 (some (.ref a) :: L) st h Q = zG d 505 45 (some (.ref a) :: L) (.ref a :: st) h Q := g_ldA rfl rfl
theorem g505_45 (hT : (zT h a).1 = 5) : zG d 505 45 L [.ref a] h Q = zCall d 510 [.ref a] h (fun v h1 => zG d 505 48 L (zpush v []) h1 Q) := g_cV rfl rfl rfl rfl (Nat.le_of_ble_eq_true rfl) hT
theorem g505_48 : zG d 505 48 (l0 :: l1 :: l2 :: L) (.int x :: st) h Q = zG d 505 49 (l0 :: kl l1 :: some (.int x) :: L) st h Q := g_stI rfl (by simp) rfl
theorem g505_49 : zG d 505 49 (l0 :: l1 :: some (.int x) :: L) st h Q = zG d 505 50 (l0 :: l1 :: some (.int x) :: L) (.int x :: st) h Q := g_ldI rfl rfl
theorem g505_50 : zG d 505 50 L (.int x :: st) h Q = if x < 0 then zG d 505 70 L st h Q else zG d 505 53 L st h Q := g_i1 (P := fun x => x < 0) rfl
theorem g505_53 : zG d 505 53 (some (.ref a) :: L) st h Q = zG d 505 54 (some (.ref a) :: L) (.ref a :: st) h Q := g_ldA rfl rfl
theorem g505_54 : zG d 505 54 L st h Q = zG d 505 56 L (.int 32 :: st) h Q := g_c rfl
theorem g505_56 (hT : (zT h a).1 = 5) : zG d 505 56 L [v0, .ref a] h Q = zCall d 512 [.ref a, v0] h (fun v h1 => zG d 505 59 L (zpush v []) h1 Q) := g_cV rfl rfl rfl rfl (Nat.le_of_ble_eq_true rfl) hT
theorem g505_59 : zG d 505 59 L (.int x :: st) h Q = if x = 0 then zG d 505 70 L st h Q else zG d 505 62 L st h Q := g_i1 (P := fun x => x = 0) rfl
theorem g505_62 : zG d 505 62 (some (.ref a) :: L) st h Q = zG d 505 63 (some (.ref a) :: L) (.ref a :: st) h Q := g_ldA rfl rfl
theorem g505_63 : zG d 505 63 L st h Q = zG d 505 64 L (.int 0 :: st) h Q := g_c rfl
theorem g505_64 (hT : (zT h a).1 = 5) : zG d 505 64 L [v0, .ref a] h Q = zCall d 507 [.ref a, v0] h (fun v h1 => zG d 505 67 L (zpush v []) h1 Q) := g_cV rfl rfl rfl rfl (Nat.le_of_ble_eq_true rfl) hT
theorem g505_67 : zG d 505 67 L (.int x :: st) h Q = if ¬ x = 0 then zG d 505 72 L st h Q else zG d 505 70 L st h Q := g_i1 (P := fun x => ¬ x = 0) rfl
theorem g505_70 : zG d 505 70 L st h Q = zG d 505 71 L (.int 0 :: st) h Q := g_c rfl
theorem g505_71 (hx : x = 0 ∨ x = 1) : zG d 505 71 L [.int x] h Q = Q (some (.int x)) h := g_rI (ok := fun x => x = 0 ∨ x = 1) rfl hx
theorem g505_72 : zG d 505 72 (some (.ref a) :: L) st h Q = zG d 505 73 (some (.ref a) :: L) (.ref a :: st) h Q := g_ldA rfl rfl
theorem g505_73 (hT : zT h a = (5, 4)) : zG d 505 73 L (.ref a :: st) h Q = zG d 505 76 L (zR h a 1 :: st) h Q := g_gR rfl hT
theorem g505_76 : zG d 505 76 (l0 :: some (.int x) :: L) st h Q = zG d 505 77 (l0 :: some (.int x) :: L) (.int x :: st) h Q := g_ldI rfl rfl
theorem g505_77 : zG d 505 77 L st h Q = zG d 505 78 L (.int 0 :: st) h Q := g_c rfl
theorem g505_78 : zG d 505 78 (l0 :: l1 :: some (.int x) :: L) st h Q = zG d 505 79 (l0 :: l1 :: some (.int x) :: L) (.int x :: st) h Q := g_ldI rfl rfl
theorem g505_79 (hT : (zT h a).1 = 4) : zG d 505 79 L [v2, v1, v0, .ref a] h Q = zCall d 403 [.ref a, v0, v1, v2] h (fun v h1 => zG d 505 82 L (zpush v []) h1 Q) := g_cV rfl rfl rfl rfl (Nat.le_of_ble_eq_true rfl) hT
theorem g505_82 : zG d 505 82 L st h Q = zG d 505 83 L (.int 1 :: st) h Q := g_c rfl
theorem g505_83 (hx : x = 0 ∨ x = 1) : zG d 505 83 L [.int x] h Q = Q (some (.int x)) h := g_rI (ok := fun x => x = 0 ∨ x = 1) rfl hx
theorem k505  : zCall (d + 1) 505 [.ref a] h Q = zG d 505 0 [some (.ref a), none, none] [] h Q := zCall_k (Nat.le_of_ble_eq_true rfl) rfl
theorem g506_0 : zG d 506 0 (some (.ref a) :: L) st h Q = zG d 506 1 (some (.ref a) :: L) (.ref a :: st) h Q := g_ldA rfl rfl
theorem g506_1 : zG d 506 1 L st h Q = zG d 506 3 L (.ref 1000003 :: st) h Q := g_c rfl
theorem g506_3 (hT : (zT h a).1 = 5) : zG d 506 3 L [v0, .ref a] h Q = zCall d 511 [.ref a, v0] h (fun v h1 => zG d 506 6 L (zpush v []) h1 Q) := g_cV rfl rfl rfl rfl (Nat.le_of_ble_eq_true rfl) hT
theorem g506_6 : zG d 506 6 L (.int x :: st) h Q = if ¬ x = 0 then zG d 506 11 L st h Q else zG d 506 9 L st h Q := g_i1 (P := fun x => ¬ x = 0) rfl
theorem g506_9 : zG d 506 9 L st h Q = zG d 506 10 L (.int 0 :: st) h Q := g_c rfl
theorem g506_10 (hx : x = 0 ∨ x = 1) : zG d 506 10 L [.int x] h Q = Q (some (.int x)) h := g_rI (ok := fun x => x = 0 ∨ x = 1) rfl hx
theorem g506_11 : zG d 506 11 (some (.ref a) :: L) st h Q = zG d 506 12 (some (.ref a) :: L) (.ref a :: st) h Q := g_ldA rfl rfl
theorem g506_12 (hT : (zT h a).1 = 5) : zG d 506 12 L [.ref a] h Q = zCall d 510 [.ref a] h (fun v h1 => zG d 506 15 L (zpush v []) h1 Q) := g_cV rfl rfl rfl rfl (Nat.le_of_ble_eq_true rfl) hT
theorem g506_15 : zG d 506 15 (l0 :: l1 :: L) (.int x :: st) h Q = zG d 506 16 (kl l0 :: some (.int x) :: L) st h Q := g_stI rfl (by simp) rfl
theorem g506_16 : zG d 506 16 (l0 :: some (.int x) :: L) st h Q = zG d 506 17 (l0 :: some (.int x) :: L) (.int x :: st) h Q := g_ldI rfl rfl
theorem g506_17 : zG d 506 17 L (.int x :: st) h Q = if 0 ≤ x then zG d 506 22 L st h Q else zG d 506 20 L st h Q := g_i1 (P := fun x => 0 ≤ x) rfl
theorem g506_20 : zG d 506 20 L st h Q = zG d 506 21 L (.int 0 :: st) h Q := g_c rfl
theorem g506_21 (hx : x = 0 ∨ x = 1) : zG d 506 21 L [.int x] h Q = Q (some (.int x)) h := g_rI (ok := fun x => x = 0 ∨ x = 1) rfl hx
theorem g506_22 : zG d 506 22 (some (.ref a) :: L) st h Q = zG d 506 23 (some (.ref a) :: L) (.ref a :: st) h Q := g_ldA rfl rfl
theorem g506_23 (hT : zT h a = (5, 4)) : zG d 506 23 L (.ref a :: st) h Q = zG d 506 26 L (zR h a 1 :: st) h Q := g_gR rfl hT
theorem g506_26 : zG d 506 26 (l0 :: some (.int x) :: L) st h Q = zG d 506 27 (l0 :: some (.int x) :: L) (.int x :: st) h Q := g_ldI rfl rfl
theorem g506_27 (hT : zT h a = (4, 3)) : zG d 506 27 L (.int x :: .ref a :: st) h Q = zG d 506 30 L st (wI h a 2 x) Q := g_pI rfl hT
theorem g506_30 : zG d 506 30 L st h Q = zG d 506 31 L (.int 1 :: st) h Q := g_c rfl
theorem g506_31 (hx : x = 0 ∨ x = 1) : zG d 506 31 L [.int x] h Q = Q (some (.int x)) h := g_rI (ok := fun x => x = 0 ∨ x = 1) rfl hx
theorem k506  : zCall (d + 1) 506 [.ref a] h Q = zG d 506 0 [some (.ref a), none] [] h Q := zCall_k (Nat.le_of_ble_eq_true rfl) rfl
theorem g507_0 : zG d 507 0 L st h Q = zG d 507 1 L (.int 0 :: st) h Q := g_c rfl
theorem g507_1 : zG d 507 1 (l0 :: l1 :: l2 :: L) (.int x :: st) h Q = zG d 507 2 (l0 :: kl l1 :: some (.int x) :: L) st h Q := g_stI rfl (by simp) rfl
theorem g507_2 : zG d 507 2 L st h Q = zG d 507 3 L (.int 0 :: st) h Q := g_c rfl
theorem g507_3 : zG d 507 3 (l0 :: l1 :: l2 :: l3 :: L) (.int x :: st) h Q = zG d 507 4 (l0 :: l1 :: kl l2 :: some (.int x) :: L) st h Q := g_stI rfl (by simp) rfl
theorem g507_4 : zG d 507 4 L st h Q = zG d 507 5 L (.int 0 :: st) h Q := g_c rfl
theorem g507_5 : zG d 507 5 (l0 :: l1 :: l2 :: l3 :: l4 :: L) (.int x :: st) h Q = zG d 507 7 (l0 :: l1 :: l2 :: kl l3 :: some (.int x) :: L) st h Q := g_stI rfl (by simp) rfl
theorem g507_7 : zG d 507 7 (l0 :: l1 :: l2 :: l3 :: some (.int x) :: L) st h Q = zG d 507 9 (l0 :: l1 :: l2 :: l3 :: some (.int x) :: L) (.int x :: st) h Q := g_ldI rfl rfl
theorem g507_9 : zG d 507 9 L st h Q = zG d 507 11 L (.int 100 :: st) h Q := g_c rfl
theorem g507_11 : zG d 507 11 L (.int z :: .int x :: st) h Q = if z ≤ x then zG d 507 84 L st h Q else zG d 507 14 L st h Q := g_i2 (P := fun x z => z ≤ x) rfl
theorem g507_14 : zG d 507 14 (some (.ref a) :: L) st h Q = zG d 507 15 (some (.ref a) :: L) (.ref a :: st) h Q := g_ldA rfl rfl
theorem g507_15 : zG d 507 15 (l0 :: some (.int x) :: L) st h Q = zG d 507 16 (l0 :: some (.int x) :: L) (.int x :: st) h Q := g_ldI rfl rfl
theorem g507_16 (hT : (zT h a).1 = 5) : zG d 507 16 L [v0, .ref a] h Q = zCall d 508 [.ref a, v0] h (fun v h1 => zG d 507 19 L (zpush v []) h1 Q) := g_cV rfl rfl rfl rfl (Nat.le_of_ble_eq_true rfl) hT
theorem g507_19 : zG d 507 19 L (.int x :: st) h Q = if ¬ x = 0 then zG d 507 24 L st h Q else zG d 507 22 L st h Q := g_i1 (P := fun x => ¬ x = 0) rfl
theorem g507_22 : zG d 507 22 L st h Q = zG d 507 23 L (.int 0 :: st) h Q := g_c rfl
theorem g507_23 (hx : x = 0 ∨ x = 1) : zG d 507 23 L [.int x] h Q = Q (some (.int x)) h := g_rI (ok := fun x => x = 0 ∨ x = 1) rfl hx
theorem g507_24 : zG d 507 24 (l0 :: l1 :: some (.int x) :: L) st h Q = zG d 507 25 (l0 :: l1 :: some (.int x) :: L) (.int x :: st) h Q := g_ldI rfl rfl
theorem g507_25 : zG d 507 25 L (.int x :: st) h Q = if x = 0 then zG d 507 39 L st h Q else zG d 507 28 L st h Q := g_i1 (P := fun x => x = 0) rfl
theorem g507_28 : zG d 507 28 (some (.ref a) :: L) st h Q = zG d 507 29 (some (.ref a) :: L) (.ref a :: st) h Q := g_ldA rfl rfl
theorem g507_29 (hT : zT h a = (5, 4)) : zG d 507 29 L (.ref a :: st) h Q = zG d 507 32 L (zR h a 1 :: st) h Q := g_gR rfl hT
theorem g507_32 : zG d 507 32 L st h Q = zG d 507 34 L (.int 38 :: st) h Q := g_c rfl
theorem g507_34 : zG d 507 34 L st h Q = zG d 507 35 L (.int 0 :: st) h Q := g_c rfl
theorem g507_35 : zG d 507 35 L st h Q = zG d 507 36 L (.int 0 :: st) h Q := g_c rfl
theorem g507_36 (hT : (zT h a).1 = 4) : zG d 507 36 L [v2, v1, v0, .ref a] h Q = zCall d 403 [.ref a, v0, v1, v2] h (fun v h1 => zG d 507 39 L (zpush v []) h1 Q) := g_cV rfl rfl rfl rfl (Nat.le_of_ble_eq_true rfl) hT
theorem g507_39 : zG d 507 39 (some (.ref a) :: L) st h Q = zG d 507 40 (some (.ref a) :: L) (.ref a :: st) h Q := g_ldA rfl rfl
theorem g507_40 : zG d 507 40 L st h Q = zG d 507 42 L (.int 38 :: st) h Q := g_c rfl
theorem g507_42 (hT : (zT h a).1 = 5) : zG d 507 42 L [v0, .ref a] h Q = zCall d 512 [.ref a, v0] h (fun v h1 => zG d 507 45 L (zpush v []) h1 Q) := g_cV rfl rfl rfl rfl (Nat.le_of_ble_eq_true rfl) hT
theorem g507_45 : zG d 507 45 (l0 :: l1 :: l2 :: L) (.int x :: st) h Q = zG d 507 46 (l0 :: kl l1 :: some (.int x) :: L) st h Q := g_stI rfl (by simp) rfl
theorem g507_46 : zG d 507 46 (l0 :: l1 :: some (.int x) :: L) st h Q = zG d 507 47 (l0 :: l1 :: some (.int x) :: L) (.int x :: st) h Q := g_ldI rfl rfl
theorem g507_47 : zG d 507 47 L (.int x :: st) h Q = if ¬ x = 0 then zG d 507 78 L st h Q else zG d 507 50 L st h Q := g_i1 (P := fun x => ¬ x = 0) rfl
theorem g507_50 : zG d 507 50 (l0 :: l1 :: l2 :: some (.int x) :: L) st h Q = zG d 507 51 (l0 :: l1 :: l2 :: some (.int x) :: L) (.int x :: st) h Q := g_ldI rfl rfl
theorem g507_51 : zG d 507 51 L (.int x :: st) h Q = if x = 0 then zG d 507 65 L st h Q else zG d 507 54 L st h Q := g_i1 (P := fun x => x = 0) rfl
theorem g507_54 : zG d 507 54 (some (.ref a) :: L) st h Q = zG d 507 55 (some (.ref a) :: L) (.ref a :: st) h Q := g_ldA rfl rfl
theorem g507_55 (hT : zT h a = (5, 4)) : zG d 507 55 L (.ref a :: st) h Q = zG d 507 58 L (zR h a 1 :: st) h Q := g_gR rfl hT
theorem g507_58 : zG d 507 58 L st h Q = zG d 507 60 L (.int 124 :: st) h Q := g_c rfl
theorem g507_60 : zG d 507 60 L st h Q = zG d 507 61 L (.int 0 :: st) h Q := g_c rfl
theorem g507_61 : zG d 507 61 L st h Q = zG d 507 62 L (.int 0 :: st) h Q := g_c rfl
theorem g507_62 (hT : (zT h a).1 = 4) : zG d 507 62 L [v2, v1, v0, .ref a] h Q = zCall d 403 [.ref a, v0, v1, v2] h (fun v h1 => zG d 507 65 L (zpush v []) h1 Q) := g_cV rfl rfl rfl rfl (Nat.le_of_ble_eq_true rfl) hT
theorem g507_65 : zG d 507 65 (some (.ref a) :: L) st h Q = zG d 507 66 (some (.ref a) :: L) (.ref a :: st) h Q := g_ldA rfl rfl
theorem g507_66 : zG d 507 66 L st h Q = zG d 507 68 L (.int 124 :: st) h Q := g_c rfl
theorem g507_68 (hT : (zT h a).1 = 5) : zG d 507 68 L [v0, .ref a] h Q = zCall d 512 [.ref a, v0] h (fun v h1 => zG d 507 71 L (zpush v []) h1 Q) := g_cV rfl rfl rfl rfl (Nat.le_of_ble_eq_true rfl) hT
theorem g507_71 : zG d 507 71 (l0 :: l1 :: l2 :: l3 :: L) (.int x :: st) h Q = zG d 507 72 (l0 :: l1 :: kl l2 :: some (.int x) :: L) st h Q := g_stI rfl (by simp) rfl
theorem g507_72 : zG d 507 72 (l0 :: l1 :: l2 :: some (.int x) :: L) st h Q = zG d 507 73 (l0 :: l1 :: l2 :: some (.int x) :: L) (.int x :: st) h Q := g_ldI rfl rfl
theorem g507_73 : zG d 507 73 L (.int x :: st) h Q = if ¬ x = 0 then zG d 507 78 L st h Q else zG d 507 76 L st h Q := g_i1 (P := fun x => ¬ x = 0) rfl
theorem g507_76 : zG d 507 76 L st h Q = zG d 507 77 L (.int 1 :: st) h Q := g_c rfl
theorem g507_77 (hx : x = 0 ∨ x = 1) : zG d 507 77 L [.int x] h Q = Q (some (.int x)) h := g_rI (ok := fun x => x = 0 ∨ x = 1) rfl hx
theorem g507_78 : zG d 507 78 (l0 :: l1 :: l2 :: l3 :: some (.int x) :: L) st h Q = zG d 507 81 (l0 :: l1 :: l2 :: kl l3 :: some (.int (x + 1)) :: L) st h Q := g_inc rfl rfl rfl
theorem g507_81 : zG d 507 81 L st h Q = zG d 507 7 L st h Q := g_go rfl
theorem g507_84 : zG d 507 84 L st h Q = zG d 507 85 L (.int 0 :: st) h Q := g_c rfl
theorem g507_85 (hx : x = 0 ∨ x = 1) : zG d 507 85 L [.int x] h Q = Q (some (.int x)) h := g_rI (ok := fun x => x = 0 ∨ x = 1) rfl hx
theorem k507 {x0 : Int32} : zCall (d + 1) 507 [.ref a, .int x0] h Q = zG d 507 0 [some (.ref a), some (.int x0), none, none, none] [] h Q := zCall_k (Nat.le_of_ble_eq_true rfl) rfl
theorem g508_0 : zG d 508 0 (some (.ref a) :: L) st h Q = zG d 508 1 (some (.ref a) :: L) (.ref a :: st) h Q := g_ldA rfl rfl
theorem g508_1 (hT : (zT h a).1 = 5) : zG d 508 1 L [.ref a] h Q = zCall d 513 [.ref a] h (fun v h1 => zG d 508 4 L (zpush v []) h1 Q) := g_cV rfl rfl rfl rfl (Nat.le_of_ble_eq_true rfl) hT
theorem g508_4 : zG d 508 4 (l0 :: l1 :: l2 :: L) (.int x :: st) h Q = zG d 508 5 (l0 :: kl l1 :: some (.int x) :: L) st h Q := g_stI rfl (by simp) rfl
theorem g508_5 : zG d 508 5 (l0 :: l1 :: some (.int x) :: L) st h Q = zG d 508 6 (l0 :: l1 :: some (.int x) :: L) (.int x :: st) h Q := g_ldI rfl rfl
theorem g508_6 : zG d 508 6 L st h Q = zG d 508 8 L (.int 33 :: st) h Q := g_c rfl
theorem g508_8 : zG d 508 8 L (.int z :: .int x :: st) h Q = if x = z then zG d 508 22 L st h Q else zG d 508 11 L st h Q := g_i2 (P := fun x z => x = z) rfl
theorem g508_11 : zG d 508 11 (l0 :: l1 :: some (.int x) :: L) st h Q = zG d 508 12 (l0 :: l1 :: some (.int x) :: L) (.int x :: st) h Q := g_ldI rfl rfl
theorem g508_12 : zG d 508 12 L st h Q = zG d 508 14 L (.int 40 :: st) h Q := g_c rfl
theorem g508_14 : zG d 508 14 L (.int z :: .int x :: st) h Q = if x = z then zG d 508 22 L st h Q else zG d 508 17 L st h Q := g_i2 (P := fun x z => x = z) rfl
theorem g508_17 : zG d 508 17 (some (.ref a) :: L) st h Q = zG d 508 18 (some (.ref a) :: L) (.ref a :: st) h Q := g_ldA rfl rfl
theorem g508_18 (hT : (zT h a).1 = 5) : zG d 508 18 L [.ref a] h Q = zCall d 509 [.ref a] h (fun v h1 => zG d 508 21 L (zpush v []) h1 Q) := g_cV rfl rfl rfl rfl (Nat.le_of_ble_eq_true rfl) hT
theorem g508_21 (hx : x = 0 ∨ x = 1) : zG d 508 21 L [.int x] h Q = Q (some (.int x)) h := g_rI (ok := fun x => x = 0 ∨ x = 1) rfl hx
theorem g508_22 : zG d 508 22 (l0 :: some (.int x) :: L) st h Q = zG d 508 23 (l0 :: some (.int x) :: L) (.int x :: st) h Q := g_ldI rfl rfl
theorem g508_23 : zG d 508 23 L st h Q = zG d 508 24 L (.int 4 :: st) h Q := g_c rfl
theorem g508_24 : zG d 508 24 L (.int z :: .int x :: st) h Q = if x < z then zG d 508 29 L st h Q else zG d 508 27 L st h Q := g_i2 (P := fun x z => x < z) rfl
theorem g508_27 : zG d 508 27 L st h Q = zG d 508 28 L (.int 0 :: st) h Q := g_c rfl
theorem g508_28 (hx : x = 0 ∨ x = 1) : zG d 508 28 L [.int x] h Q = Q (some (.int x)) h := g_rI (ok := fun x => x = 0 ∨ x = 1) rfl hx
theorem g508_29 : zG d 508 29 (some (.ref a) :: L) st h Q = zG d 508 30 (some (.ref a) :: L) (.ref a :: st) h Q := g_ldA rfl rfl
theorem g508_30 : zG d 508 30 L (.ref a :: st) h Q = zG d 508 31 L (.ref a :: .ref a :: st) h Q := g_dupA rfl
theorem g508_31 (hT : zT h a = (5, 4)) : zG d 508 31 L (.ref a :: st) h Q = zG d 508 34 L (.int (zI h a 2) :: st) h Q := g_gI rfl hT
theorem g508_34 : zG d 508 34 L st h Q = zG d 508 35 L (.int 1 :: st) h Q := g_c rfl
theorem g508_35 : zG d 508 35 L (.int z :: .int x :: st) h Q = zG d 508 36 L (.int (x + z) :: st) h Q := g_b (f := fun x z => x + z) rfl
theorem g508_36 (hT : zT h a = (5, 4)) : zG d 508 36 L (.int x :: .ref a :: st) h Q = zG d 508 39 L st (wI h a 2 x) Q := g_pI rfl hT
theorem g508_39 : zG d 508 39 (l0 :: l1 :: some (.int x) :: L) st h Q = zG d 508 40 (l0 :: l1 :: some (.int x) :: L) (.int x :: st) h Q := g_ldI rfl rfl
theorem g508_40 : zG d 508 40 L st h Q = zG d 508 42 L (.int 40 :: st) h Q := g_c rfl
theorem g508_42 : zG d 508 42 L (.int z :: .int x :: st) h Q = if ¬ x = z then zG d 508 70 L st h Q else zG d 508 45 L st h Q := g_i2 (P := fun x z => ¬ x = z) rfl
theorem g508_45 : zG d 508 45 (some (.ref a) :: L) st h Q = zG d 508 46 (some (.ref a) :: L) (.ref a :: st) h Q := g_ldA rfl rfl
theorem g508_46 : zG d 508 46 (l0 :: some (.int x) :: L) st h Q = zG d 508 47 (l0 :: some (.int x) :: L) (.int x :: st) h Q := g_ldI rfl rfl
theorem g508_47 : zG d 508 47 L st h Q = zG d 508 48 L (.int 1 :: st) h Q := g_c rfl
theorem g508_48 : zG d 508 48 L (.int z :: .int x :: st) h Q = zG d 508 49 L (.int (x + z) :: st) h Q := g_b (f := fun x z => x + z) rfl
theorem g508_49 (hT : (zT h a).1 = 5) : zG d 508 49 L [v0, .ref a] h Q = zCall d 507 [.ref a, v0] h (fun v h1 => zG d 508 52 L (zpush v []) h1 Q) := g_cV rfl rfl rfl rfl (Nat.le_of_ble_eq_true rfl) hT
theorem g508_52 : zG d 508 52 L (.int x :: st) h Q = if x = 0 then zG d 508 68 L st h Q else zG d 508 55 L st h Q := g_i1 (P := fun x => x = 0) rfl
theorem g508_55 : zG d 508 55 (some (.ref a) :: L) st h Q = zG d 508 56 (some (.ref a) :: L) (.ref a :: st) h Q := g_ldA rfl rfl
theorem g508_56 : zG d 508 56 L st h Q = zG d 508 58 L (.int 41 :: st) h Q := g_c rfl
theorem g508_58 (hT : (zT h a).1 = 5) : zG d 508 58 L [v0, .ref a] h Q = zCall d 512 [.ref a, v0] h (fun v h1 => zG d 508 61 L (zpush v []) h1 Q) := g_cV rfl rfl rfl rfl (Nat.le_of_ble_eq_true rfl) hT
theorem g508_61 : zG d 508 61 L (.int x :: st) h Q = if x = 0 then zG d 508 68 L st h Q else zG d 508 64 L st h Q := g_i1 (P := fun x => x = 0) rfl
theorem g508_64 : zG d 508 64 L st h Q = zG d 508 65 L (.int 1 :: st) h Q := g_c rfl
theorem g508_65 : zG d 508 65 L st h Q = zG d 508 69 L st h Q := g_go rfl
theorem g508_68 : zG d 508 68 L st h Q = zG d 508 69 L (.int 0 :: st) h Q := g_c rfl
theorem g508_69 (hx : x = 0 ∨ x = 1) : zG d 508 69 L [.int x] h Q = Q (some (.int x)) h := g_rI (ok := fun x => x = 0 ∨ x = 1) rfl hx
theorem g508_70 : zG d 508 70 (some (.ref a) :: L) st h Q = zG d 508 71 (some (.ref a) :: L) (.ref a :: st) h Q := g_ldA rfl rfl
theorem g508_71 : zG d 508 71 (l0 :: some (.int x) :: L) st h Q = zG d 508 72 (l0 :: some (.int x) :: L) (.int x :: st) h Q := g_ldI rfl rfl
theorem g508_72 : zG d 508 72 L st h Q = zG d 508 73 L (.int 1 :: st) h Q := g_c rfl
theorem g508_73 : zG d 508 73 L (.int z :: .int x :: st) h Q = zG d 508 74 L (.int (x + z) :: st) h Q := g_b (f := fun x z => x + z) rfl
theorem g508_74 (hT : (zT h a).1 = 5) : zG d 508 74 L [v0, .ref a] h Q = zCall d 508 [.ref a, v0] h (fun v h1 => zG d 508 77 L (zpush v []) h1 Q) := g_cV rfl rfl rfl rfl (Nat.le_of_ble_eq_true rfl) hT
theorem g508_77 : zG d 508 77 L (.int x :: st) h Q = if ¬ x = 0 then zG d 508 82 L st h Q else zG d 508 80 L st h Q := g_i1 (P := fun x => ¬ x = 0) rfl
theorem g508_80 : zG d 508 80 L st h Q = zG d 508 81 L (.int 0 :: st) h Q := g_c rfl
theorem g508_81 (hx : x = 0 ∨ x = 1) : zG d 508 81 L [.int x] h Q = Q (some (.int x)) h := g_rI (ok := fun x => x = 0 ∨ x = 1) rfl hx
theorem g508_82 : zG d 508 82 (some (.ref a) :: L) st h Q = zG d 508 83 (some (.ref a) :: L) (.ref a :: st) h Q := g_ldA rfl rfl
theorem g508_83 (hT : zT h a = (5, 4)) : zG d 508 83 L (.ref a :: st) h Q = zG d 508 86 L (zR h a 1 :: st) h Q := g_gR rfl hT
theorem g508_86 : zG d 508 86 L st h Q = zG d 508 88 L (.int 33 :: st) h Q := g_c rfl
theorem g508_88 : zG d 508 88 L st h Q = zG d 508 89 L (.int 0 :: st) h Q := g_c rfl
theorem g508_89 : zG d 508 89 L st h Q = zG d 508 90 L (.int 0 :: st) h Q := g_c rfl
theorem g508_90 (hT : (zT h a).1 = 4) : zG d 508 90 L [v2, v1, v0, .ref a] h Q = zCall d 403 [.ref a, v0, v1, v2] h (fun v h1 => zG d 508 93 L (zpush v []) h1 Q) := g_cV rfl rfl rfl rfl (Nat.le_of_ble_eq_true rfl) hT
theorem g508_93 : zG d 508 93 L st h Q = zG d 508 94 L (.int 1 :: st) h Q := g_c rfl
theorem g508_94 (hx : x = 0 ∨ x = 1) : zG d 508 94 L [.int x] h Q = Q (some (.int x)) h := g_rI (ok := fun x => x = 0 ∨ x = 1) rfl hx
theorem k508 {x0 : Int32} : zCall (d + 1) 508 [.ref a, .int x0] h Q = zG d 508 0 [some (.ref a), some (.int x0), none] [] h Q := zCall_k (Nat.le_of_ble_eq_true rfl) rfl
theorem g509_0 : zG d 509 0 (some (.ref a) :: L) st h Q = zG d 509 1 (some (.ref a) :: L) (.ref a :: st) h Q := g_ldA rfl rfl
theorem g509_1 (hT : (zT h a).1 = 5) : zG d 509 1 L [.ref a] h Q = zCall d 513 [.ref a] h (fun v h1 => zG d 509 4 L (zpush v []) h1 Q) := g_cV rfl rfl rfl rfl (Nat.le_of_ble_eq_true rfl) hT
theorem g509_4 : zG d 509 4 (l0 :: l1 :: L) (.int x :: st) h Q = zG d 509 5 (kl l0 :: some (.int x) :: L) st h Q := g_stI rfl (by simp) rfl
theorem g509_5 : zG d 509 5 (l0 :: some (.int x) :: L) st h Q = zG d 509 6 (l0 :: some (.int x) :: L) (.int x :: st) h Q := g_ldI rfl rfl
theorem g509_6 : zG d 509 6 L st h Q = zG d 509 8 L (.ref 1000006 :: st) h Q := g_c rfl
theorem g509_8 : zG d 509 8 L [v1, v0] h Q = zCall d 514 [v0, v1] h (fun v h1 => zG d 509 11 L (zpush v []) h1 Q) := g_cS rfl rfl (Nat.le_of_ble_eq_true rfl) rfl (Nat.le_of_ble_eq_true rfl)
theorem g509_11 : zG d 509 11 L (.int x :: st) h Q = if ¬ x = 0 then zG d 509 16 L st h Q else zG d 509 14 L st h Q := g_i1 (P := fun x => ¬ x = 0) rfl
theorem g509_14 : zG d 509 14 L st h Q = zG d 509 15 L (.int 0 :: st) h Q := g_c rfl
theorem g509_15 (hx : x = 0 ∨ x = 1) : zG d 509 15 L [.int x] h Q = Q (some (.int x)) h := g_rI (ok := fun x => x = 0 ∨ x = 1) rfl hx
theorem g509_16 : zG d 509 16 (some (.ref a) :: L) st h Q = zG d 509 17 (some (.ref a) :: L) (.ref a :: st) h Q := g_ldA rfl rfl
theorem g509_17 : zG d 509 17 L (.ref a :: st) h Q = zG d 509 18 L (.ref a :: .ref a :: st) h Q := g_dupA rfl
theorem g509_18 (hT : zT h a = (5, 4)) : zG d 509 18 L (.ref a :: st) h Q = zG d 509 21 L (.int (zI h a 2) :: st) h Q := g_gI rfl hT
theorem g509_21 : zG d 509 21 L st h Q = zG d 509 22 L (.int 1 :: st) h Q := g_c rfl
theorem g509_22 : zG d 509 22 L (.int z :: .int x :: st) h Q = zG d 509 23 L (.int (x + z) :: st) h Q := g_b (f := fun x z => x + z) rfl
theorem g509_23 (hT : zT h a = (5, 4)) : zG d 509 23 L (.int x :: .ref a :: st) h Q = zG d 509 26 L st (wI h a 2 x) Q := g_pI rfl hT
theorem g509_26 : zG d 509 26 (some (.ref a) :: L) st h Q = zG d 509 27 (some (.ref a) :: L) (.ref a :: st) h Q := g_ldA rfl rfl
theorem g509_27 (hT : (zT h a).1 = 5) : zG d 509 27 L [.ref a] h Q = zCall d 513 [.ref a] h (fun v h1 => zG d 509 30 L (zpush v []) h1 Q) := g_cV rfl rfl rfl rfl (Nat.le_of_ble_eq_true rfl) hT
theorem g509_30 : zG d 509 30 (l0 :: l1 :: l2 :: L) (.int x :: st) h Q = zG d 509 31 (l0 :: kl l1 :: some (.int x) :: L) st h Q := g_stI rfl (by simp) rfl
theorem g509_31 : zG d 509 31 (l0 :: l1 :: some (.int x) :: L) st h Q = zG d 509 32 (l0 :: l1 :: some (.int x) :: L) (.int x :: st) h Q := g_ldI rfl rfl
theorem g509_32 : zG d 509 32 L st h Q = zG d 509 34 L (.ref 1000007 :: st) h Q := g_c rfl
theorem g509_34 : zG d 509 34 L [v1, v0] h Q = zCall d 514 [v0, v1] h (fun v h1 => zG d 509 37 L (zpush v []) h1 Q) := g_cS rfl rfl (Nat.le_of_ble_eq_true rfl) rfl (Nat.le_of_ble_eq_true rfl)
theorem g509_37 : zG d 509 37 L (.int x :: st) h Q = if ¬ x = 0 then zG d 509 42 L st h Q else zG d 509 40 L st h Q := g_i1 (P := fun x => ¬ x = 0) rfl
theorem g509_40 : zG d 509 40 L st h Q = zG d 509 41 L (.int 0 :: st) h Q := g_c rfl
theorem g509_41 (hx : x = 0 ∨ x = 1) : zG d 509 41 L [.int x] h Q = Q (some (.int x)) h := g_rI (ok := fun x => x = 0 ∨ x = 1) rfl hx
theorem g509_42 : zG d 509 42 (some (.ref a) :: L) st h Q = zG d 509 43 (some (.ref a) :: L) (.ref a :: st) h Q := g_ldA rfl rfl
theorem g509_43 : zG d 509 43 L (.ref a :: st) h Q = zG d 509 44 L (.ref a :: .ref a :: st) h Q := g_dupA rfl
theorem g509_44 (hT : zT h a = (5, 4)) : zG d 509 44 L (.ref a :: st) h Q = zG d 509 47 L (.int (zI h a 2) :: st) h Q := g_gI rfl hT
theorem g509_47 : zG d 509 47 L st h Q = zG d 509 48 L (.int 1 :: st) h Q := g_c rfl
theorem g509_48 : zG d 509 48 L (.int z :: .int x :: st) h Q = zG d 509 49 L (.int (x + z) :: st) h Q := g_b (f := fun x z => x + z) rfl
theorem g509_49 (hT : zT h a = (5, 4)) : zG d 509 49 L (.int x :: .ref a :: st) h Q = zG d 509 52 L st (wI h a 2 x) Q := g_pI rfl hT
theorem g509_52 : zG d 509 52 (some (.ref a) :: L) st h Q = zG d 509 53 (some (.ref a) :: L) (.ref a :: st) h Q := g_ldA rfl rfl
theorem g509_53 (hT : (zT h a).1 = 5) : zG d 509 53 L [.ref a] h Q = zCall d 510 [.ref a] h (fun v h1 => zG d 509 56 L (zpush v []) h1 Q) := g_cV rfl rfl rfl rfl (Nat.le_of_ble_eq_true rfl) hT
theorem g509_56 : zG d 509 56 (l0 :: l1 :: l2 :: l3 :: L) (.int x :: st) h Q = zG d 509 57 (l0 :: l1 :: kl l2 :: some (.int x) :: L) st h Q := g_stI rfl (by simp) rfl
theorem g509_57 : zG d 509 57 (l0 :: l1 :: l2 :: some (.int x) :: L) st h Q = zG d 509 58 (l0 :: l1 :: l2 :: some (.int x) :: L) (.int x :: st) h Q := g_ldI rfl rfl
theorem g509_58 : zG d 509 58 L (.int x :: st) h Q = if 0 ≤ x then zG d 509 63 L st h Q else zG d 509 61 L st h Q := g_i1 (P := fun x => 0 ≤ x) rfl
theorem g509_61 : zG d 509 61 L st h Q = zG d 509 62 L (.int 0 :: st) h Q := g_c rfl
theorem g509_62 (hx : x = 0 ∨ x = 1) : zG d 509 62 L [.int x] h Q = Q (some (.int x)) h := g_rI (ok := fun x => x = 0 ∨ x = 1) rfl hx
theorem g509_63 : zG d 509 63 (some (.ref a) :: L) st h Q = zG d 509 64 (some (.ref a) :: L) (.ref a :: st) h Q := g_ldA rfl rfl
theorem g509_64 (hT : zT h a = (5, 4)) : zG d 509 64 L (.ref a :: st) h Q = zG d 509 67 L (zR h a 1 :: st) h Q := g_gR rfl hT
theorem g509_67 : zG d 509 67 (l0 :: some (.int x) :: L) st h Q = zG d 509 68 (l0 :: some (.int x) :: L) (.int x :: st) h Q := g_ldI rfl rfl
theorem g509_68 : zG d 509 68 (l0 :: l1 :: some (.int x) :: L) st h Q = zG d 509 69 (l0 :: l1 :: some (.int x) :: L) (.int x :: st) h Q := g_ldI rfl rfl
theorem g509_69 : zG d 509 69 (l0 :: l1 :: l2 :: some (.int x) :: L) st h Q = zG d 509 70 (l0 :: l1 :: l2 :: some (.int x) :: L) (.int x :: st) h Q := g_ldI rfl rfl
theorem g509_70 (hT : (zT h a).1 = 4) : zG d 509 70 L [v2, v1, v0, .ref a] h Q = zCall d 403 [.ref a, v0, v1, v2] h (fun v h1 => zG d 509 73 L (zpush v []) h1 Q) := g_cV rfl rfl rfl rfl (Nat.le_of_ble_eq_true rfl) hT
theorem g509_73 : zG d 509 73 L st h Q = zG d 509 74 L (.int 1 :: st) h Q := g_c rfl
theorem g509_74 (hx : x = 0 ∨ x = 1) : zG d 509 74 L [.int x] h Q = Q (some (.int x)) h := g_rI (ok := fun x => x = 0 ∨ x = 1) rfl hx
theorem k509  : zCall (d + 1) 509 [.ref a] h Q = zG d 509 0 [some (.ref a), none, none, none] [] h Q := zCall_k (Nat.le_of_ble_eq_true rfl) rfl
theorem g510_0 : zG d 510 0 L st h Q = zG d 510 1 L (.int (-1) :: st) h Q := g_c rfl
theorem g510_1 : zG d 510 1 (l0 :: l1 :: L) (.int x :: st) h Q = zG d 510 2 (kl l0 :: some (.int x) :: L) st h Q := g_stI rfl (by simp) rfl
theorem g510_2 : zG d 510 2 L st h Q = zG d 510 3 L (.int 0 :: st) h Q := g_c rfl
theorem g510_3 : zG d 510 3 (l0 :: l1 :: l2 :: L) (.int x :: st) h Q = zG d 510 4 (l0 :: kl l1 :: some (.int x) :: L) st h Q := g_stI rfl (by simp) rfl
theorem g510_4 : zG d 510 4 (l0 :: l1 :: some (.int x) :: L) st h Q = zG d 510 5 (l0 :: l1 :: some (.int x) :: L) (.int x :: st) h Q := g_ldI rfl rfl
theorem g510_5 : zG d 510 5 L st h Q = zG d 510 6 L (.int 2 :: st) h Q := g_c rfl
theorem g510_6 : zG d 510 6 L (.int z :: .int x :: st) h Q = if z ≤ x then zG d 510 58 L st h Q else zG d 510 9 L st h Q := g_i2 (P := fun x z => z ≤ x) rfl
theorem g510_9 : zG d 510 9 (some (.ref a) :: L) st h Q = zG d 510 10 (some (.ref a) :: L) (.ref a :: st) h Q := g_ldA rfl rfl
theorem g510_10 (hT : (zT h a).1 = 5) : zG d 510 10 L [.ref a] h Q = zCall d 513 [.ref a] h (fun v h1 => zG d 510 13 L (zpush v []) h1 Q) := g_cV rfl rfl rfl rfl (Nat.le_of_ble_eq_true rfl) hT
theorem g510_13 : zG d 510 13 (l0 :: l1 :: l2 :: l3 :: L) (.int x :: st) h Q = zG d 510 14 (l0 :: l1 :: kl l2 :: some (.int x) :: L) st h Q := g_stI rfl (by simp) rfl
theorem g510_14 : zG d 510 14 (l0 :: l1 :: l2 :: some (.int x) :: L) st h Q = zG d 510 15 (l0 :: l1 :: l2 :: some (.int x) :: L) (.int x :: st) h Q := g_ldI rfl rfl
theorem g510_15 : zG d 510 15 L st h Q = zG d 510 17 L (.int 48 :: st) h Q := g_c rfl
theorem g510_17 : zG d 510 17 L (.int z :: .int x :: st) h Q = if x < z then zG d 510 26 L st h Q else zG d 510 20 L st h Q := g_i2 (P := fun x z => x < z) rfl
theorem g510_20 : zG d 510 20 (l0 :: l1 :: l2 :: some (.int x) :: L) st h Q = zG d 510 21 (l0 :: l1 :: l2 :: some (.int x) :: L) (.int x :: st) h Q := g_ldI rfl rfl
theorem g510_21 : zG d 510 21 L st h Q = zG d 510 23 L (.int 57 :: st) h Q := g_c rfl
theorem g510_23 : zG d 510 23 L (.int z :: .int x :: st) h Q = if x ≤ z then zG d 510 28 L st h Q else zG d 510 26 L st h Q := g_i2 (P := fun x z => x ≤ z) rfl
theorem g510_26 : zG d 510 26 (l0 :: some (.int x) :: L) st h Q = zG d 510 27 (l0 :: some (.int x) :: L) (.int x :: st) h Q := g_ldI rfl rfl
theorem g510_27 : zG d 510 27 L [.int x] h Q = Q (some (.int x)) h := g_rI (ok := fun _ => True) rfl trivial
theorem g510_28 : zG d 510 28 (l0 :: some (.int x) :: L) st h Q = zG d 510 29 (l0 :: some (.int x) :: L) (.int x :: st) h Q := g_ldI rfl rfl
theorem g510_29 : zG d 510 29 L st h Q = zG d 510 30 L (.int 0 :: st) h Q := g_c rfl
theorem g510_30 (h4 : st.length ≤ 4) : zG d 510 30 L (.int z :: .int x :: st) h Q = zG d 510 33 L (.int (zmax x z) :: st) h Q := g_mm (f := fun x z => zmax x z) rfl h4
theorem g510_33 : zG d 510 33 L st h Q = zG d 510 35 L (.int 10 :: st) h Q := g_c rfl
theorem g510_35 : zG d 510 35 L (.int z :: .int x :: st) h Q = zG d 510 36 L (.int (x * z) :: st) h Q := g_b (f := fun x z => x * z) rfl
theorem g510_36 : zG d 510 36 (l0 :: l1 :: l2 :: some (.int x) :: L) st h Q = zG d 510 37 (l0 :: l1 :: l2 :: some (.int x) :: L) (.int x :: st) h Q := g_ldI rfl rfl
theorem g510_37 : zG d 510 37 L (.int z :: .int x :: st) h Q = zG d 510 38 L (.int (x + z) :: st) h Q := g_b (f := fun x z => x + z) rfl
theorem g510_38 : zG d 510 38 L st h Q = zG d 510 40 L (.int 48 :: st) h Q := g_c rfl
theorem g510_40 : zG d 510 40 L (.int z :: .int x :: st) h Q = zG d 510 41 L (.int (x - z) :: st) h Q := g_b (f := fun x z => x - z) rfl
theorem g510_41 : zG d 510 41 (l0 :: l1 :: L) (.int x :: st) h Q = zG d 510 42 (kl l0 :: some (.int x) :: L) st h Q := g_stI rfl (by simp) rfl
theorem g510_42 : zG d 510 42 (some (.ref a) :: L) st h Q = zG d 510 43 (some (.ref a) :: L) (.ref a :: st) h Q := g_ldA rfl rfl
theorem g510_43 : zG d 510 43 L (.ref a :: st) h Q = zG d 510 44 L (.ref a :: .ref a :: st) h Q := g_dupA rfl
theorem g510_44 (hT : zT h a = (5, 4)) : zG d 510 44 L (.ref a :: st) h Q = zG d 510 47 L (.int (zI h a 2) :: st) h Q := g_gI rfl hT
theorem g510_47 : zG d 510 47 L st h Q = zG d 510 48 L (.int 1 :: st) h Q := g_c rfl
theorem g510_48 : zG d 510 48 L (.int z :: .int x :: st) h Q = zG d 510 49 L (.int (x + z) :: st) h Q := g_b (f := fun x z => x + z) rfl
theorem g510_49 (hT : zT h a = (5, 4)) : zG d 510 49 L (.int x :: .ref a :: st) h Q = zG d 510 52 L st (wI h a 2 x) Q := g_pI rfl hT
theorem g510_52 : zG d 510 52 (l0 :: l1 :: some (.int x) :: L) st h Q = zG d 510 55 (l0 :: kl l1 :: some (.int (x + 1)) :: L) st h Q := g_inc rfl rfl rfl
theorem g510_55 : zG d 510 55 L st h Q = zG d 510 4 L st h Q := g_go rfl
theorem g510_58 : zG d 510 58 (l0 :: some (.int x) :: L) st h Q = zG d 510 59 (l0 :: some (.int x) :: L) (.int x :: st) h Q := g_ldI rfl rfl
theorem g510_59 : zG d 510 59 L [.int x] h Q = Q (some (.int x)) h := g_rI (ok := fun _ => True) rfl trivial
theorem k510  : zCall (d + 1) 510 [.ref a] h Q = zG d 510 0 [some (.ref a), none, none, none] [] h Q := zCall_k (Nat.le_of_ble_eq_true rfl) rfl
theorem g511_0 : zG d 511 0 L st h Q = zG d 511 1 L (.int 0 :: st) h Q := g_c rfl
theorem g511_1 : zG d 511 1 (l0 :: l1 :: l2 :: L) (.int x :: st) h Q = zG d 511 2 (l0 :: kl l1 :: some (.int x) :: L) st h Q := g_stI rfl (by simp) rfl
theorem g511_2 : zG d 511 2 (l0 :: l1 :: some (.int x) :: L) st h Q = zG d 511 3 (l0 :: l1 :: some (.int x) :: L) (.int x :: st) h Q := g_ldI rfl rfl
theorem g511_3 : zG d 511 3 (l0 :: some (.ref a) :: L) st h Q = zG d 511 4 (l0 :: some (.ref a) :: L) (.ref a :: st) h Q := g_ldA rfl rfl
theorem g511_4 {s0 : Int32} (hT : (zT h a).1 = 31) : zG d 511 4 L [.ref a, .int s0] h Q = zCall d 1001 [.ref a] h (fun v h1 => zG d 511 7 L (zpush v [.int s0]) h1 Q) := g_cV rfl rfl rfl rfl (Nat.le_of_ble_eq_true rfl) hT
theorem g511_7 : zG d 511 7 L (.int z :: .int x :: st) h Q = if z ≤ x then zG d 511 30 L st h Q else zG d 511 10 L st h Q := g_i2 (P := fun x z => z ≤ x) rfl
theorem g511_10 : zG d 511 10 (some (.ref a) :: L) st h Q = zG d 511 11 (some (.ref a) :: L) (.ref a :: st) h Q := g_ldA rfl rfl
theorem g511_11 : zG d 511 11 (l0 :: some (.ref a) :: L) st h Q = zG d 511 12 (l0 :: some (.ref a) :: L) (.ref a :: st) h Q := g_ldA rfl rfl
theorem g511_12 : zG d 511 12 (l0 :: l1 :: some (.int x) :: L) st h Q = zG d 511 13 (l0 :: l1 :: some (.int x) :: L) (.int x :: st) h Q := g_ldI rfl rfl
theorem g511_13 {s0 : Nat} (hT : (zT h a).1 = 31) : zG d 511 13 L [v0, .ref a, .ref s0] h Q = zCall d 1002 [.ref a, v0] h (fun v h1 => zG d 511 16 L (zpush v [.ref s0]) h1 Q) := g_cV rfl rfl rfl rfl (Nat.le_of_ble_eq_true rfl) hT
theorem g511_16 (hT : (zT h a).1 = 5) : zG d 511 16 L [v0, .ref a] h Q = zCall d 512 [.ref a, v0] h (fun v h1 => zG d 511 19 L (zpush v []) h1 Q) := g_cV rfl rfl rfl rfl (Nat.le_of_ble_eq_true rfl) hT
theorem g511_19 : zG d 511 19 L (.int x :: st) h Q = if ¬ x = 0 then zG d 511 24 L st h Q else zG d 511 22 L st h Q := g_i1 (P := fun x => ¬ x = 0) rfl
theorem g511_22 : zG d 511 22 L st h Q = zG d 511 23 L (.int 0 :: st) h Q := g_c rfl
theorem g511_23 (hx : x = 0 ∨ x = 1) : zG d 511 23 L [.int x] h Q = Q (some (.int x)) h := g_rI (ok := fun x => x = 0 ∨ x = 1) rfl hx
theorem g511_24 : zG d 511 24 (l0 :: l1 :: some (.int x) :: L) st h Q = zG d 511 27 (l0 :: kl l1 :: some (.int (x + 1)) :: L) st h Q := g_inc rfl rfl rfl
theorem g511_27 : zG d 511 27 L st h Q = zG d 511 2 L st h Q := g_go rfl
theorem g511_30 : zG d 511 30 L st h Q = zG d 511 31 L (.int 1 :: st) h Q := g_c rfl
theorem g511_31 (hx : x = 0 ∨ x = 1) : zG d 511 31 L [.int x] h Q = Q (some (.int x)) h := g_rI (ok := fun x => x = 0 ∨ x = 1) rfl hx
theorem k511 {x0 : Nat} : zCall (d + 1) 511 [.ref a, .ref x0] h Q = zG d 511 0 [some (.ref a), some (.ref x0), none] [] h Q := zCall_k (Nat.le_of_ble_eq_true rfl) rfl
theorem g512_0 : zG d 512 0 (some (.ref a) :: L) st h Q = zG d 512 1 (some (.ref a) :: L) (.ref a :: st) h Q := g_ldA rfl rfl
theorem g512_1 (hT : (zT h a).1 = 5) : zG d 512 1 L [.ref a] h Q = zCall d 513 [.ref a] h (fun v h1 => zG d 512 4 L (zpush v []) h1 Q) := g_cV rfl rfl rfl rfl (Nat.le_of_ble_eq_true rfl) hT
theorem g512_4 : zG d 512 4 (l0 :: some (.int x) :: L) st h Q = zG d 512 5 (l0 :: some (.int x) :: L) (.int x :: st) h Q := g_ldI rfl rfl
theorem g512_5 : zG d 512 5 L (.int z :: .int x :: st) h Q = if x = z then zG d 512 10 L st h Q else zG d 512 8 L st h Q := g_i2 (P := fun x z => x = z) rfl
theorem g512_8 : zG d 512 8 L st h Q = zG d 512 9 L (.int 0 :: st) h Q := g_c rfl
theorem g512_9 (hx : x = 0 ∨ x = 1) : zG d 512 9 L [.int x] h Q = Q (some (.int x)) h := g_rI (ok := fun x => x = 0 ∨ x = 1) rfl hx
theorem g512_10 : zG d 512 10 (some (.ref a) :: L) st h Q = zG d 512 11 (some (.ref a) :: L) (.ref a :: st) h Q := g_ldA rfl rfl
theorem g512_11 : zG d 512 11 L (.ref a :: st) h Q = zG d 512 12 L (.ref a :: .ref a :: st) h Q := g_dupA rfl
theorem g512_12 (hT : zT h a = (5, 4)) : zG d 512 12 L (.ref a :: st) h Q = zG d 512 15 L (.int (zI h a 2) :: st) h Q := g_gI rfl hT
theorem g512_15 : zG d 512 15 L st h Q = zG d 512 16 L (.int 1 :: st) h Q := g_c rfl
theorem g512_16 : zG d 512 16 L (.int z :: .int x :: st) h Q = zG d 512 17 L (.int (x + z) :: st) h Q := g_b (f := fun x z => x + z) rfl
theorem g512_17 (hT : zT h a = (5, 4)) : zG d 512 17 L (.int x :: .ref a :: st) h Q = zG d 512 20 L st (wI h a 2 x) Q := g_pI rfl hT
theorem g512_20 : zG d 512 20 L st h Q = zG d 512 21 L (.int 1 :: st) h Q := g_c rfl
theorem g512_21 (hx : x = 0 ∨ x = 1) : zG d 512 21 L [.int x] h Q = Q (some (.int x)) h := g_rI (ok := fun x => x = 0 ∨ x = 1) rfl hx
theorem k512 {x0 : Int32} : zCall (d + 1) 512 [.ref a, .int x0] h Q = zG d 512 0 [some (.ref a), some (.int x0)] [] h Q := zCall_k (Nat.le_of_ble_eq_true rfl) rfl
theorem g513_0 : zG d 513 0 (some (.ref a) :: L) st h Q = zG d 513 1 (some (.ref a) :: L) (.ref a :: st) h Q := g_ldA rfl rfl
theorem g513_1 (hT : zT h a = (5, 4)) : zG d 513 1 L (.ref a :: st) h Q = zG d 513 4 L (.int (zI h a 2) :: st) h Q := g_gI rfl hT
theorem g513_4 : zG d 513 4 (some (.ref a) :: L) st h Q = zG d 513 5 (some (.ref a) :: L) (.ref a :: st) h Q := g_ldA rfl rfl
theorem g513_5 (hT : zT h a = (5, 4)) : zG d 513 5 L (.ref a :: st) h Q = zG d 513 8 L (.int (zI h a 3) :: st) h Q := g_gI rfl hT
theorem g513_8 : zG d 513 8 L (.int z :: .int x :: st) h Q = if z ≤ x then zG d 513 23 L st h Q else zG d 513 11 L st h Q := g_i2 (P := fun x z => z ≤ x) rfl
theorem g513_11 : zG d 513 11 (some (.ref a) :: L) st h Q = zG d 513 12 (some (.ref a) :: L) (.ref a :: st) h Q := g_ldA rfl rfl
theorem g513_12 (hT : zT h a = (5, 4)) : zG d 513 12 L (.ref a :: st) h Q = zG d 513 15 L (zR h a 0 :: st) h Q := g_gR rfl hT
theorem g513_15 : zG d 513 15 (some (.ref a) :: L) st h Q = zG d 513 16 (some (.ref a) :: L) (.ref a :: st) h Q := g_ldA rfl rfl
theorem g513_16 (hT : zT h a = (5, 4)) : zG d 513 16 L (.ref a :: st) h Q = zG d 513 19 L (.int (zI h a 2) :: st) h Q := g_gI rfl hT
theorem g513_19 (hT : (zT h b).1 = 21) (hi : zin i (zT h b).2) : zG d 513 19 L (.int i :: .ref b :: st) h Q = zG d 513 20 L (.int (zI h b i.toNatClampNeg) :: st) h Q := g_ia rfl hT hi
theorem g513_20 : zG d 513 20 L st h Q = zG d 513 24 L st h Q := g_go rfl
theorem g513_23 : zG d 513 23 L st h Q = zG d 513 24 L (.int (-1) :: st) h Q := g_c rfl
theorem g513_24 : zG d 513 24 L [.int x] h Q = Q (some (.int x)) h := g_rI (ok := fun _ => True) rfl trivial
theorem k513  : zCall (d + 1) 513 [.ref a] h Q = zG d 513 0 [some (.ref a)] [] h Q := zCall_k (Nat.le_of_ble_eq_true rfl) rfl
theorem g514_0 : zG d 514 0 L st h Q = zG d 514 1 L (.int 0 :: st) h Q := g_c rfl
theorem g514_1 : zG d 514 1 (l0 :: l1 :: l2 :: L) (.int x :: st) h Q = zG d 514 2 (l0 :: kl l1 :: some (.int x) :: L) st h Q := g_stI rfl (by simp) rfl
theorem g514_2 : zG d 514 2 (l0 :: l1 :: some (.int x) :: L) st h Q = zG d 514 3 (l0 :: l1 :: some (.int x) :: L) (.int x :: st) h Q := g_ldI rfl rfl
theorem g514_3 : zG d 514 3 (l0 :: some (.ref a) :: L) st h Q = zG d 514 4 (l0 :: some (.ref a) :: L) (.ref a :: st) h Q := g_ldA rfl rfl
theorem g514_4 {s0 : Int32} (hT : (zT h a).1 = 31) : zG d 514 4 L [.ref a, .int s0] h Q = zCall d 1001 [.ref a] h (fun v h1 => zG d 514 7 L (zpush v [.int s0]) h1 Q) := g_cV rfl rfl rfl rfl (Nat.le_of_ble_eq_true rfl) hT
theorem g514_7 : zG d 514 7 L (.int z :: .int x :: st) h Q = if z ≤ x then zG d 514 27 L st h Q else zG d 514 10 L st h Q := g_i2 (P := fun x z => z ≤ x) rfl
theorem g514_10 : zG d 514 10 (l0 :: some (.ref a) :: L) st h Q = zG d 514 11 (l0 :: some (.ref a) :: L) (.ref a :: st) h Q := g_ldA rfl rfl
theorem g514_11 : zG d 514 11 (l0 :: l1 :: some (.int x) :: L) st h Q = zG d 514 12 (l0 :: l1 :: some (.int x) :: L) (.int x :: st) h Q := g_ldI rfl rfl
theorem g514_12 (hT : (zT h a).1 = 31) : zG d 514 12 L [v0, .ref a] h Q = zCall d 1002 [.ref a, v0] h (fun v h1 => zG d 514 15 L (zpush v []) h1 Q) := g_cV rfl rfl rfl rfl (Nat.le_of_ble_eq_true rfl) hT
theorem g514_15 : zG d 514 15 (some (.int x) :: L) st h Q = zG d 514 16 (some (.int x) :: L) (.int x :: st) h Q := g_ldI rfl rfl
theorem g514_16 : zG d 514 16 L (.int z :: .int x :: st) h Q = if ¬ x = z then zG d 514 21 L st h Q else zG d 514 19 L st h Q := g_i2 (P := fun x z => ¬ x = z) rfl
theorem g514_19 : zG d 514 19 L st h Q = zG d 514 20 L (.int 1 :: st) h Q := g_c rfl
theorem g514_20 (hx : x = 0 ∨ x = 1) : zG d 514 20 L [.int x] h Q = Q (some (.int x)) h := g_rI (ok := fun x => x = 0 ∨ x = 1) rfl hx
theorem g514_21 : zG d 514 21 (l0 :: l1 :: some (.int x) :: L) st h Q = zG d 514 24 (l0 :: kl l1 :: some (.int (x + 1)) :: L) st h Q := g_inc rfl rfl rfl
theorem g514_24 : zG d 514 24 L st h Q = zG d 514 2 L st h Q := g_go rfl
theorem g514_27 : zG d 514 27 L st h Q = zG d 514 28 L (.int 0 :: st) h Q := g_c rfl
theorem g514_28 (hx : x = 0 ∨ x = 1) : zG d 514 28 L [.int x] h Q = Q (some (.int x)) h := g_rI (ok := fun x => x = 0 ∨ x = 1) rfl hx
theorem k514 {x0 : Int32} {x1 : Nat} : zCall (d + 1) 514 [.int x0, .ref x1] h Q = zG d 514 0 [some (.int x0), some (.ref x1), none] [] h Q := zCall_k (Nat.le_of_ble_eq_true rfl) rfl
theorem g701_0 : zG d 701 0 (some (.ref a) :: L) st h Q = zG d 701 1 (some (.ref a) :: L) (.ref a :: st) h Q := g_ldA rfl rfl
theorem g701_1 (hT : (zT h a).1 < 20) : zG d 701 1 L [.ref a] h Q = zG d 701 4 L [] h Q := g_oi rfl hT
theorem g701_4 : zG d 701 4 (some (.ref a) :: L) st h Q = zG d 701 5 (some (.ref a) :: L) (.ref a :: st) h Q := g_ldA rfl rfl
theorem g701_5 : zG d 701 5 L st h Q = zG d 701 8 L (.ref (zN h) :: st) (wN h (2, 12)) Q := g_new rfl
theorem g701_8 : zG d 701 8 L (.ref a :: st) h Q = zG d 701 9 L (.ref a :: .ref a :: st) h Q := g_dupA rfl
theorem g701_9 {s0 s1 : Nat} (hT : (zT h a).1 < 20) : zG d 701 9 L [.ref a, .ref s0, .ref s1] h Q = zCall d 201 [.ref a] h (fun v h1 => zG d 701 12 L (zpush v [.ref s0, .ref s1]) h1 Q) := g_cI rfl rfl rfl rfl (Nat.le_of_ble_eq_true rfl) hT
theorem g701_12 (hT : zT h a = (7, 10)) : zG d 701 12 L (.ref b :: .ref a :: st) h Q = zG d 701 15 L st (wR h a 0 (.ref b)) Q := g_pR rfl hT
theorem g701_12_n (hT : zT h a = (7, 10)) : zG d 701 12 L (.null :: .ref a :: st) h Q = zG d 701 15 L st (wR h a 0 .null) Q := g_pR0 rfl hT
theorem g701_15 : zG d 701 15 (some (.ref a) :: L) st h Q = zG d 701 16 (some (.ref a) :: L) (.ref a :: st) h Q := g_ldA rfl rfl
theorem g701_16 : zG d 701 16 L st h Q = zG d 701 19 L (.ref (zN h) :: st) (wN h (2, 12)) Q := g_new rfl
theorem g701_19 : zG d 701 19 L (.ref a :: st) h Q = zG d 701 20 L (.ref a :: .ref a :: st) h Q := g_dupA rfl
theorem g701_20 {s0 s1 : Nat} (hT : (zT h a).1 < 20) : zG d 701 20 L [.ref a, .ref s0, .ref s1] h Q = zCall d 201 [.ref a] h (fun v h1 => zG d 701 23 L (zpush v [.ref s0, .ref s1]) h1 Q) := g_cI rfl rfl rfl rfl (Nat.le_of_ble_eq_true rfl) hT
theorem g701_23 (hT : zT h a = (7, 10)) : zG d 701 23 L (.ref b :: .ref a :: st) h Q = zG d 701 26 L st (wR h a 1 (.ref b)) Q := g_pR rfl hT
theorem g701_23_n (hT : zT h a = (7, 10)) : zG d 701 23 L (.null :: .ref a :: st) h Q = zG d 701 26 L st (wR h a 1 .null) Q := g_pR0 rfl hT
theorem g701_26 : zG d 701 26 (some (.ref a) :: L) st h Q = zG d 701 27 (some (.ref a) :: L) (.ref a :: st) h Q := g_ldA rfl rfl
theorem g701_27 : zG d 701 27 L st h Q = zG d 701 30 L (.ref (zN h) :: st) (wN h (2, 12)) Q := g_new rfl
theorem g701_30 : zG d 701 30 L (.ref a :: st) h Q = zG d 701 31 L (.ref a :: .ref a :: st) h Q := g_dupA rfl
theorem g701_31 {s0 s1 : Nat} (hT : (zT h a).1 < 20) : zG d 701 31 L [.ref a, .ref s0, .ref s1] h Q = zCall d 201 [.ref a] h (fun v h1 => zG d 701 34 L (zpush v [.ref s0, .ref s1]) h1 Q) := g_cI rfl rfl rfl rfl (Nat.le_of_ble_eq_true rfl) hT
theorem g701_34 (hT : zT h a = (7, 10)) : zG d 701 34 L (.ref b :: .ref a :: st) h Q = zG d 701 37 L st (wR h a 2 (.ref b)) Q := g_pR rfl hT
theorem g701_34_n (hT : zT h a = (7, 10)) : zG d 701 34 L (.null :: .ref a :: st) h Q = zG d 701 37 L st (wR h a 2 .null) Q := g_pR0 rfl hT
theorem g701_37 : zG d 701 37 (some (.ref a) :: L) st h Q = zG d 701 38 (some (.ref a) :: L) (.ref a :: st) h Q := g_ldA rfl rfl
theorem g701_38 : zG d 701 38 L st h Q = zG d 701 41 L (.ref (zN h) :: st) (wN h (1, 3)) Q := g_new rfl
theorem g701_41 : zG d 701 41 L (.ref a :: st) h Q = zG d 701 42 L (.ref a :: .ref a :: st) h Q := g_dupA rfl
theorem g701_42 {s0 s1 : Nat} (hT : (zT h a).1 < 20) : zG d 701 42 L [.ref a, .ref s0, .ref s1] h Q = zCall d 101 [.ref a] h (fun v h1 => zG d 701 45 L (zpush v [.ref s0, .ref s1]) h1 Q) := g_cI rfl rfl rfl rfl (Nat.le_of_ble_eq_true rfl) hT
theorem g701_45 (hT : zT h a = (7, 10)) : zG d 701 45 L (.ref b :: .ref a :: st) h Q = zG d 701 48 L st (wR h a 3 (.ref b)) Q := g_pR rfl hT
theorem g701_45_n (hT : zT h a = (7, 10)) : zG d 701 45 L (.null :: .ref a :: st) h Q = zG d 701 48 L st (wR h a 3 .null) Q := g_pR0 rfl hT
theorem g701_48 : zG d 701 48 (some (.ref a) :: L) st h Q = zG d 701 49 (some (.ref a) :: L) (.ref a :: st) h Q := g_ldA rfl rfl
theorem g701_49 : zG d 701 49 L st h Q = zG d 701 52 L (.ref (zN h) :: st) (wN h (1, 3)) Q := g_new rfl
theorem g701_52 : zG d 701 52 L (.ref a :: st) h Q = zG d 701 53 L (.ref a :: .ref a :: st) h Q := g_dupA rfl
theorem g701_53 {s0 s1 : Nat} (hT : (zT h a).1 < 20) : zG d 701 53 L [.ref a, .ref s0, .ref s1] h Q = zCall d 101 [.ref a] h (fun v h1 => zG d 701 56 L (zpush v [.ref s0, .ref s1]) h1 Q) := g_cI rfl rfl rfl rfl (Nat.le_of_ble_eq_true rfl) hT
theorem g701_56 (hT : zT h a = (7, 10)) : zG d 701 56 L (.ref b :: .ref a :: st) h Q = zG d 701 59 L st (wR h a 4 (.ref b)) Q := g_pR rfl hT
theorem g701_56_n (hT : zT h a = (7, 10)) : zG d 701 56 L (.null :: .ref a :: st) h Q = zG d 701 59 L st (wR h a 4 .null) Q := g_pR0 rfl hT
theorem g701_59 : zG d 701 59 (some (.ref a) :: L) st h Q = zG d 701 60 (some (.ref a) :: L) (.ref a :: st) h Q := g_ldA rfl rfl
theorem g701_60 : zG d 701 60 L st h Q = zG d 701 63 L (.ref (zN h) :: st) (wN h (5, 4)) Q := g_new rfl
theorem g701_63 : zG d 701 63 L (.ref a :: st) h Q = zG d 701 64 L (.ref a :: .ref a :: st) h Q := g_dupA rfl
theorem g701_64 {s0 s1 : Nat} (hT : (zT h a).1 < 20) : zG d 701 64 L [.ref a, .ref s0, .ref s1] h Q = zCall d 501 [.ref a] h (fun v h1 => zG d 701 67 L (zpush v [.ref s0, .ref s1]) h1 Q) := g_cI rfl rfl rfl rfl (Nat.le_of_ble_eq_true rfl) hT
theorem g701_67 (hT : zT h a = (7, 10)) : zG d 701 67 L (.ref b :: .ref a :: st) h Q = zG d 701 70 L st (wR h a 6 (.ref b)) Q := g_pR rfl hT
theorem g701_67_n (hT : zT h a = (7, 10)) : zG d 701 67 L (.null :: .ref a :: st) h Q = zG d 701 70 L st (wR h a 6 .null) Q := g_pR0 rfl hT
theorem g701_70 : zG d 701 70 (some (.ref a) :: L) st h Q = zG d 701 71 (some (.ref a) :: L) (.ref a :: st) h Q := g_ldA rfl rfl
theorem g701_71 : zG d 701 71 L st h Q = zG d 701 74 L (.ref (zN h) :: st) (wN h (0, 5)) Q := g_new rfl
theorem g701_74 : zG d 701 74 L (.ref a :: st) h Q = zG d 701 75 L (.ref a :: .ref a :: st) h Q := g_dupA rfl
theorem g701_75 {s0 s1 : Nat} (hT : (zT h a).1 < 20) : zG d 701 75 L [.ref a, .ref s0, .ref s1] h Q = zCall d 1 [.ref a] h (fun v h1 => zG d 701 78 L (zpush v [.ref s0, .ref s1]) h1 Q) := g_cI rfl rfl rfl rfl (Nat.le_of_ble_eq_true rfl) hT
theorem g701_78 (hT : zT h a = (7, 10)) : zG d 701 78 L (.ref b :: .ref a :: st) h Q = zG d 701 81 L st (wR h a 8 (.ref b)) Q := g_pR rfl hT
theorem g701_78_n (hT : zT h a = (7, 10)) : zG d 701 78 L (.null :: .ref a :: st) h Q = zG d 701 81 L st (wR h a 8 .null) Q := g_pR0 rfl hT
theorem g701_81 : zG d 701 81 (some (.ref a) :: L) st h Q = zG d 701 82 (some (.ref a) :: L) (.ref a :: st) h Q := g_ldA rfl rfl
theorem g701_82 : zG d 701 82 L st h Q = zG d 701 84 L (.int 6 :: st) h Q := g_c rfl
theorem g701_84 (hx : ¬ x < 0 ∧ x.toNatClampNeg ≤ 1000) : zG d 701 84 L (.int x :: st) h Q = zG d 701 87 L (.ref (zN h) :: st) (wN h (25, x.toNatClampNeg)) Q := g_na rfl hx
theorem g701_87 (hT : zT h a = (7, 10)) : zG d 701 87 L (.ref b :: .ref a :: st) h Q = zG d 701 90 L st (wR h a 9 (.ref b)) Q := g_pR rfl hT
theorem g701_87_n (hT : zT h a = (7, 10)) : zG d 701 87 L (.null :: .ref a :: st) h Q = zG d 701 90 L st (wR h a 9 .null) Q := g_pR0 rfl hT
theorem g701_90 : zG d 701 90 L st h Q = zG d 701 91 L (.int 0 :: st) h Q := g_c rfl
theorem g701_91 : zG d 701 91 (l0 :: l1 :: L) (.int x :: st) h Q = zG d 701 92 (kl l0 :: some (.int x) :: L) st h Q := g_stI rfl (by simp) rfl
theorem g701_92 : zG d 701 92 (l0 :: some (.int x) :: L) st h Q = zG d 701 93 (l0 :: some (.int x) :: L) (.int x :: st) h Q := g_ldI rfl rfl
theorem g701_93 : zG d 701 93 L st h Q = zG d 701 95 L (.int 6 :: st) h Q := g_c rfl
theorem g701_95 : zG d 701 95 L (.int z :: .int x :: st) h Q = if z ≤ x then zG d 701 117 L st h Q else zG d 701 98 L st h Q := g_i2 (P := fun x z => z ≤ x) rfl
theorem g701_98 : zG d 701 98 (some (.ref a) :: L) st h Q = zG d 701 99 (some (.ref a) :: L) (.ref a :: st) h Q := g_ldA rfl rfl
theorem g701_99 (hT : zT h a = (7, 10)) : zG d 701 99 L (.ref a :: st) h Q = zG d 701 102 L (zR h a 9 :: st) h Q := g_gR rfl hT
theorem g701_102 : zG d 701 102 (l0 :: some (.int x) :: L) st h Q = zG d 701 103 (l0 :: some (.int x) :: L) (.int x :: st) h Q := g_ldI rfl rfl
theorem g701_103 : zG d 701 103 L st h Q = zG d 701 106 L (.ref (zN h) :: st) (wN h (6, 3)) Q := g_new rfl
theorem g701_106 : zG d 701 106 L (.ref a :: st) h Q = zG d 701 107 L (.ref a :: .ref a :: st) h Q := g_dupA rfl
theorem g701_107 {s1 : Int32} {s0 s2 : Nat} (hT : (zT h a).1 < 20) : zG d 701 107 L [.ref a, .ref s0, .int s1, .ref s2] h Q = zCall d 601 [.ref a] h (fun v h1 => zG d 701 110 L (zpush v [.ref s0, .int s1, .ref s2]) h1 Q) := g_cI rfl rfl rfl rfl (Nat.le_of_ble_eq_true rfl) hT
theorem g701_110 (hT : (zT h b).1 = 25) (hi : zin i (zT h b).2) (ha : zT h a = (6, 3)) : zG d 701 110 L (.ref a :: .int i :: .ref b :: st) h Q = zG d 701 111 L st (wR h b i.toNatClampNeg (.ref a)) Q := g_rs rfl hT hi ha
theorem g701_111 : zG d 701 111 (l0 :: some (.int x) :: L) st h Q = zG d 701 114 (kl l0 :: some (.int (x + 1)) :: L) st h Q := g_inc rfl rfl rfl
theorem g701_114 : zG d 701 114 L st h Q = zG d 701 92 L st h Q := g_go rfl
theorem g701_117 : zG d 701 117 L [] h Q = Q none h := g_rV rfl
theorem k701  : zCall (d + 1) 701 [.ref a] h Q = zG d 701 0 [some (.ref a), none] [] h Q := zCall_k (Nat.le_of_ble_eq_true rfl) rfl
theorem g702_0 : zG d 702 0 (l0 :: some (.int x) :: L) st h Q = zG d 702 1 (l0 :: some (.int x) :: L) (.int x :: st) h Q := g_ldI rfl rfl
theorem g702_1 : zG d 702 1 L st h Q = zG d 702 3 L (.int 6 :: st) h Q := g_c rfl
theorem g702_3 : zG d 702 3 L [v1, v0] h Q = zCall d 744 [v0, v1] h (fun v h1 => zG d 702 6 L (zpush v []) h1 Q) := g_cS rfl rfl (Nat.le_of_ble_eq_true rfl) rfl (Nat.le_of_ble_eq_true rfl)
theorem g702_6 : zG d 702 6 L (.int x :: st) h Q = if x = 0 then zG d 702 19 L st h Q else zG d 702 9 L st h Q := g_i1 (P := fun x => x = 0) rfl
theorem g702_9 : zG d 702 9 (l0 :: l1 :: l2 :: l3 :: some (.int x) :: L) st h Q = zG d 702 11 (l0 :: l1 :: l2 :: l3 :: some (.int x) :: L) (.int x :: st) h Q := g_ldI rfl rfl
theorem g702_11 : zG d 702 11 L st h Q = zG d 702 13 L (.int 10 :: st) h Q := g_c rfl
theorem g702_13 : zG d 702 13 L [v1, v0] h Q = zCall d 744 [v0, v1] h (fun v h1 => zG d 702 16 L (zpush v []) h1 Q) := g_cS rfl rfl (Nat.le_of_ble_eq_true rfl) rfl (Nat.le_of_ble_eq_true rfl)
theorem g702_16 : zG d 702 16 L (.int x :: st) h Q = if ¬ x = 0 then zG d 702 21 L st h Q else zG d 702 19 L st h Q := g_i1 (P := fun x => ¬ x = 0) rfl
theorem g702_19 : zG d 702 19 L st h Q = zG d 702 20 L (.int (-1) :: st) h Q := g_c rfl
theorem g702_20 : zG d 702 20 L [.int x] h Q = Q (some (.int x)) h := g_rI (ok := fun _ => True) rfl trivial
theorem g702_21 : zG d 702 21 (l0 :: l1 :: some (.int x) :: L) st h Q = zG d 702 22 (l0 :: l1 :: some (.int x) :: L) (.int x :: st) h Q := g_ldI rfl rfl
theorem g702_22 : zG d 702 22 L st h Q = zG d 702 24 L (.int 9 :: st) h Q := g_c rfl
theorem g702_24 : zG d 702 24 L [v1, v0] h Q = zCall d 744 [v0, v1] h (fun v h1 => zG d 702 27 L (zpush v []) h1 Q) := g_cS rfl rfl (Nat.le_of_ble_eq_true rfl) rfl (Nat.le_of_ble_eq_true rfl)
theorem g702_27 : zG d 702 27 L (.int x :: st) h Q = if x = 0 then zG d 702 39 L st h Q else zG d 702 30 L st h Q := g_i1 (P := fun x => x = 0) rfl
theorem g702_30 : zG d 702 30 (l0 :: l1 :: l2 :: some (.int x) :: L) st h Q = zG d 702 31 (l0 :: l1 :: l2 :: some (.int x) :: L) (.int x :: st) h Q := g_ldI rfl rfl
theorem g702_31 : zG d 702 31 L st h Q = zG d 702 33 L (.int 99 :: st) h Q := g_c rfl
theorem g702_33 : zG d 702 33 L [v1, v0] h Q = zCall d 744 [v0, v1] h (fun v h1 => zG d 702 36 L (zpush v []) h1 Q) := g_cS rfl rfl (Nat.le_of_ble_eq_true rfl) rfl (Nat.le_of_ble_eq_true rfl)
theorem g702_36 : zG d 702 36 L (.int x :: st) h Q = if ¬ x = 0 then zG d 702 42 L st h Q else zG d 702 39 L st h Q := g_i1 (P := fun x => ¬ x = 0) rfl
theorem g702_39 : zG d 702 39 L st h Q = zG d 702 41 L (.int (-2) :: st) h Q := g_c rfl
theorem g702_41 : zG d 702 41 L [.int x] h Q = Q (some (.int x)) h := g_rI (ok := fun _ => True) rfl trivial
theorem g702_42 : zG d 702 42 (some (.ref a) :: L) st h Q = zG d 702 43 (some (.ref a) :: L) (.ref a :: st) h Q := g_ldA rfl rfl
theorem g702_43 (hT : zT h a = (7, 10)) : zG d 702 43 L (.ref a :: st) h Q = zG d 702 46 L (zR h a 0 :: st) h Q := g_gR rfl hT
theorem g702_46 : zG d 702 46 (l0 :: some (.int x) :: L) st h Q = zG d 702 47 (l0 :: some (.int x) :: L) (.int x :: st) h Q := g_ldI rfl rfl
theorem g702_47 : zG d 702 47 (l0 :: l1 :: some (.int x) :: L) st h Q = zG d 702 48 (l0 :: l1 :: some (.int x) :: L) (.int x :: st) h Q := g_ldI rfl rfl
theorem g702_48 : zG d 702 48 (l0 :: l1 :: l2 :: some (.int x) :: L) st h Q = zG d 702 49 (l0 :: l1 :: l2 :: some (.int x) :: L) (.int x :: st) h Q := g_ldI rfl rfl
theorem g702_49 : zG d 702 49 (l0 :: l1 :: l2 :: l3 :: some (.int x) :: L) st h Q = zG d 702 51 (l0 :: l1 :: l2 :: l3 :: some (.int x) :: L) (.int x :: st) h Q := g_ldI rfl rfl
theorem g702_51 (hT : (zT h a).1 = 2) : zG d 702 51 L [v3, v2, v1, v0, .ref a] h Q = zCall d 203 [.ref a, v0, v1, v2, v3] h (fun v h1 => zG d 702 54 L (zpush v []) h1 Q) := g_cV rfl rfl rfl rfl (Nat.le_of_ble_eq_true rfl) hT
theorem g702_54 : zG d 702 54 L [.int x] h Q = Q (some (.int x)) h := g_rI (ok := fun _ => True) rfl trivial
theorem k702 {x0 : Int32} {x1 : Int32} {x2 : Int32} {x3 : Int32} : zCall (d + 1) 702 [.ref a, .int x0, .int x1, .int x2, .int x3] h Q = zG d 702 0 [some (.ref a), some (.int x0), some (.int x1), some (.int x2), some (.int x3)] [] h Q := zCall_k (Nat.le_of_ble_eq_true rfl) rfl
theorem g703_0 : zG d 703 0 (some (.ref a) :: L) st h Q = zG d 703 1 (some (.ref a) :: L) (.ref a :: st) h Q := g_ldA rfl rfl
theorem g703_1 : zG d 703 1 (l0 :: some (.int x) :: L) st h Q = zG d 703 2 (l0 :: some (.int x) :: L) (.int x :: st) h Q := g_ldI rfl rfl
theorem g703_2 (hT : (zT h a).1 = 7) : zG d 703 2 L [v0, .ref a] h Q = zCall d 743 [.ref a, v0] h (fun v h1 => zG d 703 5 L (zpush v []) h1 Q) := g_cV rfl rfl rfl rfl (Nat.le_of_ble_eq_true rfl) hT
theorem g703_5 : zG d 703 5 L (.int x :: st) h Q = if ¬ x = 0 then zG d 703 12 L st h Q else zG d 703 8 L st h Q := g_i1 (P := fun x => ¬ x = 0) rfl
theorem g703_8 : zG d 703 8 L st h Q = zG d 703 11 L (.int (-10001) :: st) h Q := g_c rfl
theorem g703_11 : zG d 703 11 L [.int x] h Q = Q (some (.int x)) h := g_rI (ok := fun _ => True) rfl trivial
theorem g703_12 : zG d 703 12 (l0 :: l1 :: some (.int x) :: L) st h Q = zG d 703 13 (l0 :: l1 :: some (.int x) :: L) (.int x :: st) h Q := g_ldI rfl rfl
theorem g703_13 : zG d 703 13 L (.int x :: st) h Q = if x = 0 then zG d 703 60 L st h Q else if x = 1 then zG d 703 70 L st h Q else if x = 2 then zG d 703 80 L st h Q else if x = 3 then zG d 703 90 L st h Q else if x = 4 then zG d 703 100 L st h Q else if x = 5 then zG d 703 118 L st h Q else if x = 6 then zG d 703 128 L st h Q else if x = 7 then zG d 703 137 L st h Q else zG d 703 143 L st h Q := g_sw (c := 143) (ps := [(0, 60), (1, 70), (2, 80), (3, 90), (4, 100), (5, 118), (6, 128), (7, 137)]) rfl
theorem g703_60 : zG d 703 60 (some (.ref a) :: L) st h Q = zG d 703 61 (some (.ref a) :: L) (.ref a :: st) h Q := g_ldA rfl rfl
theorem g703_61 (hT : zT h a = (7, 10)) : zG d 703 61 L (.ref a :: st) h Q = zG d 703 64 L (zR h a 0 :: st) h Q := g_gR rfl hT
theorem g703_64 (hT : zT h a = (2, 12)) : zG d 703 64 L (.ref a :: st) h Q = zG d 703 67 L (zR h a 0 :: st) h Q := g_gR rfl hT
theorem g703_67 : zG d 703 67 (l0 :: some (.int x) :: L) st h Q = zG d 703 68 (l0 :: some (.int x) :: L) (.int x :: st) h Q := g_ldI rfl rfl
theorem g703_68 (hT : (zT h b).1 = 20) (hi : zin i (zT h b).2) : zG d 703 68 L (.int i :: .ref b :: st) h Q = zG d 703 69 L (.int (zI h b i.toNatClampNeg) :: st) h Q := g_ia rfl hT hi
theorem g703_69 : zG d 703 69 L [.int x] h Q = Q (some (.int x)) h := g_rI (ok := fun _ => True) rfl trivial
theorem g703_70 : zG d 703 70 (some (.ref a) :: L) st h Q = zG d 703 71 (some (.ref a) :: L) (.ref a :: st) h Q := g_ldA rfl rfl
theorem g703_71 (hT : zT h a = (7, 10)) : zG d 703 71 L (.ref a :: st) h Q = zG d 703 74 L (zR h a 0 :: st) h Q := g_gR rfl hT
theorem g703_74 (hT : zT h a = (2, 12)) : zG d 703 74 L (.ref a :: st) h Q = zG d 703 77 L (zR h a 1 :: st) h Q := g_gR rfl hT
theorem g703_77 : zG d 703 77 (l0 :: some (.int x) :: L) st h Q = zG d 703 78 (l0 :: some (.int x) :: L) (.int x :: st) h Q := g_ldI rfl rfl
theorem g703_78 (hT : (zT h b).1 = 20) (hi : zin i (zT h b).2) : zG d 703 78 L (.int i :: .ref b :: st) h Q = zG d 703 79 L (.int (zI h b i.toNatClampNeg) :: st) h Q := g_ia rfl hT hi
theorem g703_79 : zG d 703 79 L [.int x] h Q = Q (some (.int x)) h := g_rI (ok := fun _ => True) rfl trivial
theorem g703_80 : zG d 703 80 (some (.ref a) :: L) st h Q = zG d 703 81 (some (.ref a) :: L) (.ref a :: st) h Q := g_ldA rfl rfl
theorem g703_81 (hT : zT h a = (7, 10)) : zG d 703 81 L (.ref a :: st) h Q = zG d 703 84 L (zR h a 0 :: st) h Q := g_gR rfl hT
theorem g703_84 (hT : zT h a = (2, 12)) : zG d 703 84 L (.ref a :: st) h Q = zG d 703 87 L (zR h a 2 :: st) h Q := g_gR rfl hT
theorem g703_87 : zG d 703 87 (l0 :: some (.int x) :: L) st h Q = zG d 703 88 (l0 :: some (.int x) :: L) (.int x :: st) h Q := g_ldI rfl rfl
theorem g703_88 (hT : (zT h b).1 = 20) (hi : zin i (zT h b).2) : zG d 703 88 L (.int i :: .ref b :: st) h Q = zG d 703 89 L (.int (zI h b i.toNatClampNeg) :: st) h Q := g_ia rfl hT hi
theorem g703_89 : zG d 703 89 L [.int x] h Q = Q (some (.int x)) h := g_rI (ok := fun _ => True) rfl trivial
theorem g703_90 : zG d 703 90 (some (.ref a) :: L) st h Q = zG d 703 91 (some (.ref a) :: L) (.ref a :: st) h Q := g_ldA rfl rfl
theorem g703_91 (hT : zT h a = (7, 10)) : zG d 703 91 L (.ref a :: st) h Q = zG d 703 94 L (zR h a 0 :: st) h Q := g_gR rfl hT
theorem g703_94 (hT : zT h a = (2, 12)) : zG d 703 94 L (.ref a :: st) h Q = zG d 703 97 L (zR h a 3 :: st) h Q := g_gR rfl hT
theorem g703_97 : zG d 703 97 (l0 :: some (.int x) :: L) st h Q = zG d 703 98 (l0 :: some (.int x) :: L) (.int x :: st) h Q := g_ldI rfl rfl
theorem g703_98 (hT : (zT h b).1 = 20) (hi : zin i (zT h b).2) : zG d 703 98 L (.int i :: .ref b :: st) h Q = zG d 703 99 L (.int (zI h b i.toNatClampNeg) :: st) h Q := g_ia rfl hT hi
theorem g703_99 : zG d 703 99 L [.int x] h Q = Q (some (.int x)) h := g_rI (ok := fun _ => True) rfl trivial
theorem g703_100 : zG d 703 100 (some (.ref a) :: L) st h Q = zG d 703 101 (some (.ref a) :: L) (.ref a :: st) h Q := g_ldA rfl rfl
theorem g703_101 (hT : zT h a = (7, 10)) : zG d 703 101 L (.ref a :: st) h Q = zG d 703 104 L (zR h a 0 :: st) h Q := g_gR rfl hT
theorem g703_104 (hT : zT h a = (2, 12)) : zG d 703 104 L (.ref a :: st) h Q = zG d 703 107 L (zR h a 5 :: st) h Q := g_gR rfl hT
theorem g703_107 : zG d 703 107 (l0 :: some (.int x) :: L) st h Q = zG d 703 108 (l0 :: some (.int x) :: L) (.int x :: st) h Q := g_ldI rfl rfl
theorem g703_108 (hT : (zT h b).1 = 23) (hi : zin i (zT h b).2) : zG d 703 108 L (.int i :: .ref b :: st) h Q = zG d 703 109 L (.int (zI h b i.toNatClampNeg) :: st) h Q := g_ia rfl hT hi
theorem g703_109 : zG d 703 109 L (.int x :: st) h Q = if x = 0 then zG d 703 116 L st h Q else zG d 703 112 L st h Q := g_i1 (P := fun x => x = 0) rfl
theorem g703_112 : zG d 703 112 L st h Q = zG d 703 113 L (.int 1 :: st) h Q := g_c rfl
theorem g703_113 : zG d 703 113 L st h Q = zG d 703 117 L st h Q := g_go rfl
theorem g703_116 : zG d 703 116 L st h Q = zG d 703 117 L (.int 0 :: st) h Q := g_c rfl
theorem g703_117 : zG d 703 117 L [.int x] h Q = Q (some (.int x)) h := g_rI (ok := fun _ => True) rfl trivial
theorem g703_118 : zG d 703 118 (some (.ref a) :: L) st h Q = zG d 703 119 (some (.ref a) :: L) (.ref a :: st) h Q := g_ldA rfl rfl
theorem g703_119 (hT : zT h a = (7, 10)) : zG d 703 119 L (.ref a :: st) h Q = zG d 703 122 L (zR h a 0 :: st) h Q := g_gR rfl hT
theorem g703_122 (hT : zT h a = (2, 12)) : zG d 703 122 L (.ref a :: st) h Q = zG d 703 125 L (zR h a 4 :: st) h Q := g_gR rfl hT
theorem g703_125 : zG d 703 125 (l0 :: some (.int x) :: L) st h Q = zG d 703 126 (l0 :: some (.int x) :: L) (.int x :: st) h Q := g_ldI rfl rfl
theorem g703_126 (hT : (zT h b).1 = 20) (hi : zin i (zT h b).2) : zG d 703 126 L (.int i :: .ref b :: st) h Q = zG d 703 127 L (.int (zI h b i.toNatClampNeg) :: st) h Q := g_ia rfl hT hi
theorem g703_127 : zG d 703 127 L [.int x] h Q = Q (some (.int x)) h := g_rI (ok := fun _ => True) rfl trivial
theorem g703_128 : zG d 703 128 (some (.ref a) :: L) st h Q = zG d 703 129 (some (.ref a) :: L) (.ref a :: st) h Q := g_ldA rfl rfl
theorem g703_129 (hT : zT h a = (7, 10)) : zG d 703 129 L (.ref a :: st) h Q = zG d 703 132 L (zR h a 0 :: st) h Q := g_gR rfl hT
theorem g703_132 : zG d 703 132 (l0 :: some (.int x) :: L) st h Q = zG d 703 133 (l0 :: some (.int x) :: L) (.int x :: st) h Q := g_ldI rfl rfl
theorem g703_133 (hT : (zT h a).1 = 2) : zG d 703 133 L [v0, .ref a] h Q = zCall d 212 [.ref a, v0] h (fun v h1 => zG d 703 136 L (zpush v []) h1 Q) := g_cV rfl rfl rfl rfl (Nat.le_of_ble_eq_true rfl) hT
theorem g703_136 : zG d 703 136 L [.int x] h Q = Q (some (.int x)) h := g_rI (ok := fun _ => True) rfl trivial
theorem g703_137 : zG d 703 137 (some (.ref a) :: L) st h Q = zG d 703 138 (some (.ref a) :: L) (.ref a :: st) h Q := g_ldA rfl rfl
theorem g703_138 : zG d 703 138 (l0 :: some (.int x) :: L) st h Q = zG d 703 139 (l0 :: some (.int x) :: L) (.int x :: st) h Q := g_ldI rfl rfl
theorem g703_139 (hT : (zT h a).1 = 7) : zG d 703 139 L [v0, .ref a] h Q = zCall d 713 [.ref a, v0] h (fun v h1 => zG d 703 142 L (zpush v []) h1 Q) := g_cV rfl rfl rfl rfl (Nat.le_of_ble_eq_true rfl) hT
theorem g703_142 : zG d 703 142 L [.int x] h Q = Q (some (.int x)) h := g_rI (ok := fun _ => True) rfl trivial
theorem g703_143 : zG d 703 143 L st h Q = zG d 703 146 L (.int (-10001) :: st) h Q := g_c rfl
theorem g703_146 : zG d 703 146 L [.int x] h Q = Q (some (.int x)) h := g_rI (ok := fun _ => True) rfl trivial
theorem k703 {x0 : Int32} {x1 : Int32} : zCall (d + 1) 703 [.ref a, .int x0, .int x1] h Q = zG d 703 0 [some (.ref a), some (.int x0), some (.int x1)] [] h Q := zCall_k (Nat.le_of_ble_eq_true rfl) rfl
theorem g704_0 : zG d 704 0 (some (.ref a) :: L) st h Q = zG d 704 1 (some (.ref a) :: L) (.ref a :: st) h Q := g_ldA rfl rfl
theorem g704_1 : zG d 704 1 (l0 :: some (.int x) :: L) st h Q = zG d 704 2 (l0 :: some (.int x) :: L) (.int x :: st) h Q := g_ldI rfl rfl
theorem g704_2 (hT : (zT h a).1 = 7) : zG d 704 2 L [v0, .ref a] h Q = zCall d 743 [.ref a, v0] h (fun v h1 => zG d 704 5 L (zpush v []) h1 Q) := g_cV rfl rfl rfl rfl (Nat.le_of_ble_eq_true rfl) hT
theorem g704_5 : zG d 704 5 L (.int x :: st) h Q = if x = 0 then zG d 704 16 L st h Q else zG d 704 8 L st h Q := g_i1 (P := fun x => x = 0) rfl
theorem g704_8 : zG d 704 8 (l0 :: l1 :: some (.int x) :: L) st h Q = zG d 704 9 (l0 :: l1 :: some (.int x) :: L) (.int x :: st) h Q := g_ldI rfl rfl
theorem g704_9 : zG d 704 9 L st h Q = zG d 704 10 L (.int 1 :: st) h Q := g_c rfl
theorem g704_10 : zG d 704 10 L [v1, v0] h Q = zCall d 744 [v0, v1] h (fun v h1 => zG d 704 13 L (zpush v []) h1 Q) := g_cS rfl rfl (Nat.le_of_ble_eq_true rfl) rfl (Nat.le_of_ble_eq_true rfl)
theorem g704_13 : zG d 704 13 L (.int x :: st) h Q = if ¬ x = 0 then zG d 704 18 L st h Q else zG d 704 16 L st h Q := g_i1 (P := fun x => ¬ x = 0) rfl
theorem g704_16 : zG d 704 16 L st h Q = zG d 704 17 L (.int (-1) :: st) h Q := g_c rfl
theorem g704_17 : zG d 704 17 L [.int x] h Q = Q (some (.int x)) h := g_rI (ok := fun _ => True) rfl trivial
theorem g704_18 : zG d 704 18 (l0 :: l1 :: l2 :: some (.int x) :: L) st h Q = zG d 704 19 (l0 :: l1 :: l2 :: some (.int x) :: L) (.int x :: st) h Q := g_ldI rfl rfl
theorem g704_19 : zG d 704 19 (l0 :: l1 :: some (.int x) :: L) st h Q = zG d 704 20 (l0 :: l1 :: some (.int x) :: L) (.int x :: st) h Q := g_ldI rfl rfl
theorem g704_20 : zG d 704 20 L (.int x :: st) h Q = if ¬ x = 0 then zG d 704 28 L st h Q else zG d 704 23 L st h Q := g_i1 (P := fun x => ¬ x = 0) rfl
theorem g704_23 : zG d 704 23 L st h Q = zG d 704 25 L (.int 99 :: st) h Q := g_c rfl
theorem g704_25 : zG d 704 25 L st h Q = zG d 704 30 L st h Q := g_go rfl
theorem g704_28 : zG d 704 28 L st h Q = zG d 704 30 L (.int 10 :: st) h Q := g_c rfl
theorem g704_30 : zG d 704 30 L [v1, v0] h Q = zCall d 744 [v0, v1] h (fun v h1 => zG d 704 33 L (zpush v []) h1 Q) := g_cS rfl rfl (Nat.le_of_ble_eq_true rfl) rfl (Nat.le_of_ble_eq_true rfl)
theorem g704_33 : zG d 704 33 L (.int x :: st) h Q = if ¬ x = 0 then zG d 704 39 L st h Q else zG d 704 36 L st h Q := g_i1 (P := fun x => ¬ x = 0) rfl
theorem g704_36 : zG d 704 36 L st h Q = zG d 704 38 L (.int (-2) :: st) h Q := g_c rfl
theorem g704_38 : zG d 704 38 L [.int x] h Q = Q (some (.int x)) h := g_rI (ok := fun _ => True) rfl trivial
theorem g704_39 : zG d 704 39 (l0 :: l1 :: some (.int x) :: L) st h Q = zG d 704 40 (l0 :: l1 :: some (.int x) :: L) (.int x :: st) h Q := g_ldI rfl rfl
theorem g704_40 : zG d 704 40 L (.int x :: st) h Q = if ¬ x = 0 then zG d 704 55 L st h Q else zG d 704 43 L st h Q := g_i1 (P := fun x => ¬ x = 0) rfl
theorem g704_43 : zG d 704 43 (some (.ref a) :: L) st h Q = zG d 704 44 (some (.ref a) :: L) (.ref a :: st) h Q := g_ldA rfl rfl
theorem g704_44 (hT : zT h a = (7, 10)) : zG d 704 44 L (.ref a :: st) h Q = zG d 704 47 L (zR h a 0 :: st) h Q := g_gR rfl hT
theorem g704_47 (hT : zT h a = (2, 12)) : zG d 704 47 L (.ref a :: st) h Q = zG d 704 50 L (zR h a 2 :: st) h Q := g_gR rfl hT
theorem g704_50 : zG d 704 50 (l0 :: some (.int x) :: L) st h Q = zG d 704 51 (l0 :: some (.int x) :: L) (.int x :: st) h Q := g_ldI rfl rfl
theorem g704_51 (hT : (zT h b).1 = 20) (hi : zin i (zT h b).2) : zG d 704 51 L (.int i :: .ref b :: st) h Q = zG d 704 52 L (.int (zI h b i.toNatClampNeg) :: st) h Q := g_ia rfl hT hi
theorem g704_52 : zG d 704 52 L st h Q = zG d 704 64 L st h Q := g_go rfl
theorem g704_55 : zG d 704 55 (some (.ref a) :: L) st h Q = zG d 704 56 (some (.ref a) :: L) (.ref a :: st) h Q := g_ldA rfl rfl
theorem g704_56 (hT : zT h a = (7, 10)) : zG d 704 56 L (.ref a :: st) h Q = zG d 704 59 L (zR h a 0 :: st) h Q := g_gR rfl hT
theorem g704_59 (hT : zT h a = (2, 12)) : zG d 704 59 L (.ref a :: st) h Q = zG d 704 62 L (zR h a 3 :: st) h Q := g_gR rfl hT
theorem g704_62 : zG d 704 62 (l0 :: some (.int x) :: L) st h Q = zG d 704 63 (l0 :: some (.int x) :: L) (.int x :: st) h Q := g_ldI rfl rfl
theorem g704_63 (hT : (zT h b).1 = 20) (hi : zin i (zT h b).2) : zG d 704 63 L (.int i :: .ref b :: st) h Q = zG d 704 64 L (.int (zI h b i.toNatClampNeg) :: st) h Q := g_ia rfl hT hi
theorem g704_64 : zG d 704 64 (l0 :: l1 :: l2 :: l3 :: l4 :: L) (.int x :: st) h Q = zG d 704 66 (l0 :: l1 :: l2 :: kl l3 :: some (.int x) :: L) st h Q := g_stI rfl (by simp) rfl
theorem g704_66 : zG d 704 66 (l0 :: l1 :: some (.int x) :: L) st h Q = zG d 704 67 (l0 :: l1 :: some (.int x) :: L) (.int x :: st) h Q := g_ldI rfl rfl
theorem g704_67 : zG d 704 67 L (.int x :: st) h Q = if ¬ x = 0 then zG d 704 83 L st h Q else zG d 704 70 L st h Q := g_i1 (P := fun x => ¬ x = 0) rfl
theorem g704_70 : zG d 704 70 (some (.ref a) :: L) st h Q = zG d 704 71 (some (.ref a) :: L) (.ref a :: st) h Q := g_ldA rfl rfl
theorem g704_71 (hT : zT h a = (7, 10)) : zG d 704 71 L (.ref a :: st) h Q = zG d 704 74 L (zR h a 0 :: st) h Q := g_gR rfl hT
theorem g704_74 (hT : zT h a = (2, 12)) : zG d 704 74 L (.ref a :: st) h Q = zG d 704 77 L (zR h a 2 :: st) h Q := g_gR rfl hT
theorem g704_77 : zG d 704 77 (l0 :: some (.int x) :: L) st h Q = zG d 704 78 (l0 :: some (.int x) :: L) (.int x :: st) h Q := g_ldI rfl rfl
theorem g704_78 : zG d 704 78 (l0 :: l1 :: l2 :: some (.int x) :: L) st h Q = zG d 704 79 (l0 :: l1 :: l2 :: some (.int x) :: L) (.int x :: st) h Q := g_ldI rfl rfl
theorem g704_79 (hT : (zT h b).1 = 20) (hi : zin i (zT h b).2) : zG d 704 79 L (.int x :: .int i :: .ref b :: st) h Q = zG d 704 80 L st (wI h b i.toNatClampNeg (x)) Q := g_is (f1 := fun x => x) rfl hT hi
theorem g704_80 : zG d 704 80 L st h Q = zG d 704 92 L st h Q := g_go rfl
theorem g704_83 : zG d 704 83 (some (.ref a) :: L) st h Q = zG d 704 84 (some (.ref a) :: L) (.ref a :: st) h Q := g_ldA rfl rfl
theorem g704_84 (hT : zT h a = (7, 10)) : zG d 704 84 L (.ref a :: st) h Q = zG d 704 87 L (zR h a 0 :: st) h Q := g_gR rfl hT
theorem g704_87 : zG d 704 87 (l0 :: some (.int x) :: L) st h Q = zG d 704 88 (l0 :: some (.int x) :: L) (.int x :: st) h Q := g_ldI rfl rfl
theorem g704_88 : zG d 704 88 (l0 :: l1 :: l2 :: some (.int x) :: L) st h Q = zG d 704 89 (l0 :: l1 :: l2 :: some (.int x) :: L) (.int x :: st) h Q := g_ldI rfl rfl
theorem g704_89 (hT : (zT h a).1 = 2) : zG d 704 89 L [v1, v0, .ref a] h Q = zCall d 204 [.ref a, v0, v1] h (fun v h1 => zG d 704 92 L (zpush v []) h1 Q) := g_cV rfl rfl rfl rfl (Nat.le_of_ble_eq_true rfl) hT
theorem g704_92 : zG d 704 92 (l0 :: l1 :: l2 :: l3 :: some (.int x) :: L) st h Q = zG d 704 94 (l0 :: l1 :: l2 :: l3 :: some (.int x) :: L) (.int x :: st) h Q := g_ldI rfl rfl
theorem g704_94 : zG d 704 94 L [.int x] h Q = Q (some (.int x)) h := g_rI (ok := fun _ => True) rfl trivial
theorem k704 {x0 : Int32} {x1 : Int32} {x2 : Int32} : zCall (d + 1) 704 [.ref a, .int x0, .int x1, .int x2] h Q = zG d 704 0 [some (.ref a), some (.int x0), some (.int x1), some (.int x2), none] [] h Q := zCall_k (Nat.le_of_ble_eq_true rfl) rfl
theorem g705_0 : zG d 705 0 (some (.ref a) :: L) st h Q = zG d 705 1 (some (.ref a) :: L) (.ref a :: st) h Q := g_ldA rfl rfl
theorem g705_1 : zG d 705 1 (l0 :: some (.int x) :: L) st h Q = zG d 705 2 (l0 :: some (.int x) :: L) (.int x :: st) h Q := g_ldI rfl rfl
theorem g705_2 (hT : (zT h a).1 = 7) : zG d 705 2 L [v0, .ref a] h Q = zCall d 743 [.ref a, v0] h (fun v h1 => zG d 705 5 L (zpush v []) h1 Q) := g_cV rfl rfl rfl rfl (Nat.le_of_ble_eq_true rfl) hT
theorem g705_5 : zG d 705 5 L (.int x :: st) h Q = if ¬ x = 0 then zG d 705 10 L st h Q else zG d 705 8 L st h Q := g_i1 (P := fun x => ¬ x = 0) rfl
theorem g705_8 : zG d 705 8 L st h Q = zG d 705 9 L (.int (-1) :: st) h Q := g_c rfl
theorem g705_9 : zG d 705 9 L [.int x] h Q = Q (some (.int x)) h := g_rI (ok := fun _ => True) rfl trivial
theorem g705_10 : zG d 705 10 (some (.ref a) :: L) st h Q = zG d 705 11 (some (.ref a) :: L) (.ref a :: st) h Q := g_ldA rfl rfl
theorem g705_11 (hT : zT h a = (7, 10)) : zG d 705 11 L (.ref a :: st) h Q = zG d 705 14 L (zR h a 0 :: st) h Q := g_gR rfl hT
theorem g705_14 : zG d 705 14 (l0 :: some (.int x) :: L) st h Q = zG d 705 15 (l0 :: some (.int x) :: L) (.int x :: st) h Q := g_ldI rfl rfl
theorem g705_15 (hT : (zT h a).1 = 2) : zG d 705 15 L [v0, .ref a] h Q = zCall d 207 [.ref a, v0] h (fun v h1 => zG d 705 18 L (zpush v []) h1 Q) := g_cV rfl rfl rfl rfl (Nat.le_of_ble_eq_true rfl) hT
theorem g705_18 : zG d 705 18 L (.int x :: st) h Q = if ¬ x = 0 then zG d 705 24 L st h Q else zG d 705 21 L st h Q := g_i1 (P := fun x => ¬ x = 0) rfl
theorem g705_21 : zG d 705 21 L st h Q = zG d 705 23 L (.int (-3) :: st) h Q := g_c rfl
theorem g705_23 : zG d 705 23 L [.int x] h Q = Q (some (.int x)) h := g_rI (ok := fun _ => True) rfl trivial
theorem g705_24 : zG d 705 24 (some (.ref a) :: L) st h Q = zG d 705 25 (some (.ref a) :: L) (.ref a :: st) h Q := g_ldA rfl rfl
theorem g705_25 (hT : zT h a = (7, 10)) : zG d 705 25 L (.ref a :: st) h Q = zG d 705 28 L (zR h a 0 :: st) h Q := g_gR rfl hT
theorem g705_28 (hT : zT h a = (2, 12)) : zG d 705 28 L (.ref a :: st) h Q = zG d 705 31 L (zR h a 5 :: st) h Q := g_gR rfl hT
theorem g705_31 : zG d 705 31 (l0 :: some (.int x) :: L) st h Q = zG d 705 32 (l0 :: some (.int x) :: L) (.int x :: st) h Q := g_ldI rfl rfl
theorem g705_32 (hT : (zT h b).1 = 23) (hi : zin i (zT h b).2) : zG d 705 32 L (.int i :: .ref b :: st) h Q = zG d 705 33 L (.int (zI h b i.toNatClampNeg) :: st) h Q := g_ia rfl hT hi
theorem g705_33 : zG d 705 33 L (.int x :: st) h Q = if x = 0 then zG d 705 40 L st h Q else zG d 705 36 L st h Q := g_i1 (P := fun x => x = 0) rfl
theorem g705_36 : zG d 705 36 L st h Q = zG d 705 37 L (.int 1 :: st) h Q := g_c rfl
theorem g705_37 : zG d 705 37 L st h Q = zG d 705 41 L st h Q := g_go rfl
theorem g705_40 : zG d 705 40 L st h Q = zG d 705 41 L (.int 0 :: st) h Q := g_c rfl
theorem g705_41 : zG d 705 41 (l0 :: l1 :: l2 :: l3 :: L) (.int x :: st) h Q = zG d 705 42 (l0 :: l1 :: kl l2 :: some (.int x) :: L) st h Q := g_stI rfl (by simp) rfl
theorem g705_42 : zG d 705 42 (some (.ref a) :: L) st h Q = zG d 705 43 (some (.ref a) :: L) (.ref a :: st) h Q := g_ldA rfl rfl
theorem g705_43 (hT : zT h a = (7, 10)) : zG d 705 43 L (.ref a :: st) h Q = zG d 705 46 L (zR h a 0 :: st) h Q := g_gR rfl hT
theorem g705_46 (hT : zT h a = (2, 12)) : zG d 705 46 L (.ref a :: st) h Q = zG d 705 49 L (zR h a 5 :: st) h Q := g_gR rfl hT
theorem g705_49 : zG d 705 49 (l0 :: some (.int x) :: L) st h Q = zG d 705 50 (l0 :: some (.int x) :: L) (.int x :: st) h Q := g_ldI rfl rfl
theorem g705_50 : zG d 705 50 (l0 :: l1 :: some (.int x) :: L) st h Q = zG d 705 51 (l0 :: l1 :: some (.int x) :: L) (.int x :: st) h Q := g_ldI rfl rfl
theorem g705_51 (hT : (zT h b).1 = 23) (hi : zin i (zT h b).2) : zG d 705 51 L (.int x :: .int i :: .ref b :: st) h Q = zG d 705 52 L st (wI h b i.toNatClampNeg (vp_nar .boolean x)) Q := g_is (f1 := fun x => vp_nar .boolean x) rfl hT hi
theorem g705_52 : zG d 705 52 (l0 :: l1 :: l2 :: some (.int x) :: L) st h Q = zG d 705 53 (l0 :: l1 :: l2 :: some (.int x) :: L) (.int x :: st) h Q := g_ldI rfl rfl
theorem g705_53 : zG d 705 53 L [.int x] h Q = Q (some (.int x)) h := g_rI (ok := fun _ => True) rfl trivial
theorem k705 {x0 : Int32} {x1 : Int32} : zCall (d + 1) 705 [.ref a, .int x0, .int x1] h Q = zG d 705 0 [some (.ref a), some (.int x0), some (.int x1), none] [] h Q := zCall_k (Nat.le_of_ble_eq_true rfl) rfl
theorem g706_0 : zG d 706 0 (l0 :: some (.int x) :: L) st h Q = zG d 706 1 (l0 :: some (.int x) :: L) (.int x :: st) h Q := g_ldI rfl rfl
theorem g706_1 : zG d 706 1 L st h Q = zG d 706 3 L (.int 99999 :: st) h Q := g_c rfl
theorem g706_3 : zG d 706 3 L [v1, v0] h Q = zCall d 744 [v0, v1] h (fun v h1 => zG d 706 6 L (zpush v []) h1 Q) := g_cS rfl rfl (Nat.le_of_ble_eq_true rfl) rfl (Nat.le_of_ble_eq_true rfl)
theorem g706_6 : zG d 706 6 L (.int x :: st) h Q = if ¬ x = 0 then zG d 706 12 L st h Q else zG d 706 9 L st h Q := g_i1 (P := fun x => ¬ x = 0) rfl
theorem g706_9 : zG d 706 9 L st h Q = zG d 706 11 L (.int (-2) :: st) h Q := g_c rfl
theorem g706_11 : zG d 706 11 L [.int x] h Q = Q (some (.int x)) h := g_rI (ok := fun _ => True) rfl trivial
theorem g706_12 : zG d 706 12 (some (.ref a) :: L) st h Q = zG d 706 13 (some (.ref a) :: L) (.ref a :: st) h Q := g_ldA rfl rfl
theorem g706_13 (hT : zT h a = (7, 10)) : zG d 706 13 L (.ref a :: st) h Q = zG d 706 16 L (zR h a 0 :: st) h Q := g_gR rfl hT
theorem g706_16 (hT : zT h a = (2, 12)) : zG d 706 16 L (.ref a :: st) h Q = zG d 706 19 L (.int (zI h a 8) :: st) h Q := g_gI rfl hT
theorem g706_19 : zG d 706 19 (l0 :: l1 :: l2 :: L) (.int x :: st) h Q = zG d 706 20 (l0 :: kl l1 :: some (.int x) :: L) st h Q := g_stI rfl (by simp) rfl
theorem g706_20 : zG d 706 20 (some (.ref a) :: L) st h Q = zG d 706 21 (some (.ref a) :: L) (.ref a :: st) h Q := g_ldA rfl rfl
theorem g706_21 (hT : zT h a = (7, 10)) : zG d 706 21 L (.ref a :: st) h Q = zG d 706 24 L (zR h a 0 :: st) h Q := g_gR rfl hT
theorem g706_24 : zG d 706 24 (l0 :: some (.int x) :: L) st h Q = zG d 706 25 (l0 :: some (.int x) :: L) (.int x :: st) h Q := g_ldI rfl rfl
theorem g706_25 (hT : zT h a = (2, 12)) : zG d 706 25 L (.int x :: .ref a :: st) h Q = zG d 706 28 L st (wI h a 8 x) Q := g_pI rfl hT
theorem g706_28 : zG d 706 28 (l0 :: l1 :: some (.int x) :: L) st h Q = zG d 706 29 (l0 :: l1 :: some (.int x) :: L) (.int x :: st) h Q := g_ldI rfl rfl
theorem g706_29 : zG d 706 29 L [.int x] h Q = Q (some (.int x)) h := g_rI (ok := fun _ => True) rfl trivial
theorem k706 {x0 : Int32} : zCall (d + 1) 706 [.ref a, .int x0] h Q = zG d 706 0 [some (.ref a), some (.int x0), none] [] h Q := zCall_k (Nat.le_of_ble_eq_true rfl) rfl
theorem g707_0 : zG d 707 0 (some (.ref a) :: L) st h Q = zG d 707 1 (some (.ref a) :: L) (.ref a :: st) h Q := g_ldA rfl rfl
theorem g707_1 : zG d 707 1 (l0 :: some (.int x) :: L) st h Q = zG d 707 2 (l0 :: some (.int x) :: L) (.int x :: st) h Q := g_ldI rfl rfl
theorem g707_2 (hT : (zT h a).1 = 7) : zG d 707 2 L [v0, .ref a] h Q = zCall d 743 [.ref a, v0] h (fun v h1 => zG d 707 5 L (zpush v []) h1 Q) := g_cV rfl rfl rfl rfl (Nat.le_of_ble_eq_true rfl) hT
theorem g707_5 : zG d 707 5 L (.int x :: st) h Q = if x = 0 then zG d 707 16 L st h Q else zG d 707 8 L st h Q := g_i1 (P := fun x => x = 0) rfl
theorem g707_8 : zG d 707 8 (l0 :: l1 :: some (.int x) :: L) st h Q = zG d 707 9 (l0 :: l1 :: some (.int x) :: L) (.int x :: st) h Q := g_ldI rfl rfl
theorem g707_9 : zG d 707 9 L st h Q = zG d 707 10 L (.int 3 :: st) h Q := g_c rfl
theorem g707_10 : zG d 707 10 L [v1, v0] h Q = zCall d 744 [v0, v1] h (fun v h1 => zG d 707 13 L (zpush v []) h1 Q) := g_cS rfl rfl (Nat.le_of_ble_eq_true rfl) rfl (Nat.le_of_ble_eq_true rfl)
theorem g707_13 : zG d 707 13 L (.int x :: st) h Q = if ¬ x = 0 then zG d 707 18 L st h Q else zG d 707 16 L st h Q := g_i1 (P := fun x => ¬ x = 0) rfl
theorem g707_16 : zG d 707 16 L st h Q = zG d 707 17 L (.int (-1) :: st) h Q := g_c rfl
theorem g707_17 : zG d 707 17 L [.int x] h Q = Q (some (.int x)) h := g_rI (ok := fun _ => True) rfl trivial
theorem g707_18 : zG d 707 18 (l0 :: l1 :: l2 :: some (.int x) :: L) st h Q = zG d 707 19 (l0 :: l1 :: l2 :: some (.int x) :: L) (.int x :: st) h Q := g_ldI rfl rfl
theorem g707_19 : zG d 707 19 L st h Q = zG d 707 21 L (.int 9 :: st) h Q := g_c rfl
theorem g707_21 : zG d 707 21 L [v1, v0] h Q = zCall d 744 [v0, v1] h (fun v h1 => zG d 707 24 L (zpush v []) h1 Q) := g_cS rfl rfl (Nat.le_of_ble_eq_true rfl) rfl (Nat.le_of_ble_eq_true rfl)
theorem g707_24 : zG d 707 24 L (.int x :: st) h Q = if ¬ x = 0 then zG d 707 30 L st h Q else zG d 707 27 L st h Q := g_i1 (P := fun x => ¬ x = 0) rfl
theorem g707_27 : zG d 707 27 L st h Q = zG d 707 29 L (.int (-2) :: st) h Q := g_c rfl
theorem g707_29 : zG d 707 29 L [.int x] h Q = Q (some (.int x)) h := g_rI (ok := fun _ => True) rfl trivial
theorem g707_30 : zG d 707 30 (some (.ref a) :: L) st h Q = zG d 707 31 (some (.ref a) :: L) (.ref a :: st) h Q := g_ldA rfl rfl
theorem g707_31 (hT : zT h a = (7, 10)) : zG d 707 31 L (.ref a :: st) h Q = zG d 707 34 L (zR h a 0 :: st) h Q := g_gR rfl hT
theorem g707_34 (hT : zT h a = (2, 12)) : zG d 707 34 L (.ref a :: st) h Q = zG d 707 37 L (zR h a 0 :: st) h Q := g_gR rfl hT
theorem g707_37 : zG d 707 37 (l0 :: some (.int x) :: L) st h Q = zG d 707 38 (l0 :: some (.int x) :: L) (.int x :: st) h Q := g_ldI rfl rfl
theorem g707_38 (hT : (zT h b).1 = 20) (hi : zin i (zT h b).2) : zG d 707 38 L (.int i :: .ref b :: st) h Q = zG d 707 39 L (.int (zI h b i.toNatClampNeg) :: st) h Q := g_ia rfl hT hi
theorem g707_39 : zG d 707 39 L st h Q = zG d 707 41 L (.int 6 :: st) h Q := g_c rfl
theorem g707_41 : zG d 707 41 L (.int z :: .int x :: st) h Q = if x = z then zG d 707 47 L st h Q else zG d 707 44 L st h Q := g_i2 (P := fun x z => x = z) rfl
theorem g707_44 : zG d 707 44 L st h Q = zG d 707 46 L (.int (-3) :: st) h Q := g_c rfl
theorem g707_46 : zG d 707 46 L [.int x] h Q = Q (some (.int x)) h := g_rI (ok := fun _ => True) rfl trivial
theorem g707_47 : zG d 707 47 (some (.ref a) :: L) st h Q = zG d 707 48 (some (.ref a) :: L) (.ref a :: st) h Q := g_ldA rfl rfl
theorem g707_48 (hT : zT h a = (7, 10)) : zG d 707 48 L (.ref a :: st) h Q = zG d 707 51 L (zR h a 0 :: st) h Q := g_gR rfl hT
theorem g707_51 (hT : zT h a = (2, 12)) : zG d 707 51 L (.ref a :: st) h Q = zG d 707 54 L (zR h a 6 :: st) h Q := g_gR rfl hT
theorem g707_54 : zG d 707 54 (l0 :: some (.int x) :: L) st h Q = zG d 707 55 (l0 :: some (.int x) :: L) (.int x :: st) h Q := g_ldI rfl rfl
theorem g707_55 (hT : (zT h b).1 = 26) (hi : zin i (zT h b).2) : zG d 707 55 L (.int i :: .ref b :: st) h Q = zG d 707 56 L (zR h b i.toNatClampNeg :: st) h Q := g_ra rfl hT hi
theorem g707_56 : zG d 707 56 (l0 :: l1 :: some (.int x) :: L) st h Q = zG d 707 57 (l0 :: l1 :: some (.int x) :: L) (.int x :: st) h Q := g_ldI rfl rfl
theorem g707_57 (hT : (zT h b).1 = 20) (hi : zin i (zT h b).2) : zG d 707 57 L (.int i :: .ref b :: st) h Q = zG d 707 58 L (.int (zI h b i.toNatClampNeg) :: st) h Q := g_ia rfl hT hi
theorem g707_58 : zG d 707 58 (l0 :: l1 :: l2 :: l3 :: l4 :: L) (.int x :: st) h Q = zG d 707 60 (l0 :: l1 :: l2 :: kl l3 :: some (.int x) :: L) st h Q := g_stI rfl (by simp) rfl
theorem g707_60 : zG d 707 60 (some (.ref a) :: L) st h Q = zG d 707 61 (some (.ref a) :: L) (.ref a :: st) h Q := g_ldA rfl rfl
theorem g707_61 (hT : zT h a = (7, 10)) : zG d 707 61 L (.ref a :: st) h Q = zG d 707 64 L (zR h a 0 :: st) h Q := g_gR rfl hT
theorem g707_64 (hT : zT h a = (2, 12)) : zG d 707 64 L (.ref a :: st) h Q = zG d 707 67 L (zR h a 6 :: st) h Q := g_gR rfl hT
theorem g707_67 : zG d 707 67 (l0 :: some (.int x) :: L) st h Q = zG d 707 68 (l0 :: some (.int x) :: L) (.int x :: st) h Q := g_ldI rfl rfl
theorem g707_68 (hT : (zT h b).1 = 26) (hi : zin i (zT h b).2) : zG d 707 68 L (.int i :: .ref b :: st) h Q = zG d 707 69 L (zR h b i.toNatClampNeg :: st) h Q := g_ra rfl hT hi
theorem g707_69 : zG d 707 69 (l0 :: l1 :: some (.int x) :: L) st h Q = zG d 707 70 (l0 :: l1 :: some (.int x) :: L) (.int x :: st) h Q := g_ldI rfl rfl
theorem g707_70 : zG d 707 70 (l0 :: l1 :: l2 :: some (.int x) :: L) st h Q = zG d 707 71 (l0 :: l1 :: l2 :: some (.int x) :: L) (.int x :: st) h Q := g_ldI rfl rfl
theorem g707_71 (hT : (zT h b).1 = 20) (hi : zin i (zT h b).2) : zG d 707 71 L (.int x :: .int i :: .ref b :: st) h Q = zG d 707 72 L st (wI h b i.toNatClampNeg (x)) Q := g_is (f1 := fun x => x) rfl hT hi
theorem g707_72 : zG d 707 72 (l0 :: l1 :: l2 :: l3 :: some (.int x) :: L) st h Q = zG d 707 74 (l0 :: l1 :: l2 :: l3 :: some (.int x) :: L) (.int x :: st) h Q := g_ldI rfl rfl
theorem g707_74 : zG d 707 74 L [.int x] h Q = Q (some (.int x)) h := g_rI (ok := fun _ => True) rfl trivial
theorem k707 {x0 : Int32} {x1 : Int32} {x2 : Int32} : zCall (d + 1) 707 [.ref a, .int x0, .int x1, .int x2] h Q = zG d 707 0 [some (.ref a), some (.int x0), some (.int x1), some (.int x2), none] [] h Q := zCall_k (Nat.le_of_ble_eq_true rfl) rfl
theorem g708_0 : zG d 708 0 (l0 :: some (.int x) :: L) st h Q = zG d 708 1 (l0 :: some (.int x) :: L) (.int x :: st) h Q := g_ldI rfl rfl
theorem g708_1 : zG d 708 1 L st h Q = zG d 708 3 L (.int 127 :: st) h Q := g_c rfl
theorem g708_3 : zG d 708 3 L [v1, v0] h Q = zCall d 744 [v0, v1] h (fun v h1 => zG d 708 6 L (zpush v []) h1 Q) := g_cS rfl rfl (Nat.le_of_ble_eq_true rfl) rfl (Nat.le_of_ble_eq_true rfl)
theorem g708_6 : zG d 708 6 L (.int x :: st) h Q = if ¬ x = 0 then zG d 708 12 L st h Q else zG d 708 9 L st h Q := g_i1 (P := fun x => ¬ x = 0) rfl
theorem g708_9 : zG d 708 9 L st h Q = zG d 708 11 L (.int (-2) :: st) h Q := g_c rfl
theorem g708_11 : zG d 708 11 L [.int x] h Q = Q (some (.int x)) h := g_rI (ok := fun _ => True) rfl trivial
theorem g708_12 : zG d 708 12 (some (.ref a) :: L) st h Q = zG d 708 13 (some (.ref a) :: L) (.ref a :: st) h Q := g_ldA rfl rfl
theorem g708_13 (hT : zT h a = (7, 10)) : zG d 708 13 L (.ref a :: st) h Q = zG d 708 16 L (zR h a 6 :: st) h Q := g_gR rfl hT
theorem g708_16 : zG d 708 16 (l0 :: some (.int x) :: L) st h Q = zG d 708 17 (l0 :: some (.int x) :: L) (.int x :: st) h Q := g_ldI rfl rfl
theorem g708_17 (hT : (zT h a).1 = 5) : zG d 708 17 L [v0, .ref a] h Q = zCall d 502 [.ref a, v0] h (fun v h1 => zG d 708 20 L (zpush v []) h1 Q) := g_cV rfl rfl rfl rfl (Nat.le_of_ble_eq_true rfl) hT
theorem g708_20 : zG d 708 20 L [.int x] h Q = Q (some (.int x)) h := g_rI (ok := fun _ => True) rfl trivial
theorem k708 {x0 : Int32} : zCall (d + 1) 708 [.ref a, .int x0] h Q = zG d 708 0 [some (.ref a), some (.int x0)] [] h Q := zCall_k (Nat.le_of_ble_eq_true rfl) rfl
theorem g709_0 : zG d 709 0 (some (.ref a) :: L) st h Q = zG d 709 1 (some (.ref a) :: L) (.ref a :: st) h Q := g_ldA rfl rfl
theorem g709_1 (hT : zT h a = (7, 10)) : zG d 709 1 L (.ref a :: st) h Q = zG d 709 4 L (.int (zI h a 7) :: st) h Q := g_gI rfl hT
theorem g709_4 : zG d 709 4 L st h Q = zG d 709 6 L (.int 6 :: st) h Q := g_c rfl
theorem g709_6 : zG d 709 6 L (.int z :: .int x :: st) h Q = if x < z then zG d 709 12 L st h Q else zG d 709 9 L st h Q := g_i2 (P := fun x z => x < z) rfl
theorem g709_9 : zG d 709 9 L st h Q = zG d 709 11 L (.int (-4) :: st) h Q := g_c rfl
theorem g709_11 : zG d 709 11 L [.int x] h Q = Q (some (.int x)) h := g_rI (ok := fun _ => True) rfl trivial
theorem g709_12 : zG d 709 12 (some (.ref a) :: L) st h Q = zG d 709 13 (some (.ref a) :: L) (.ref a :: st) h Q := g_ldA rfl rfl
theorem g709_13 (hT : zT h a = (7, 10)) : zG d 709 13 L (.ref a :: st) h Q = zG d 709 16 L (zR h a 6 :: st) h Q := g_gR rfl hT
theorem g709_16 (hT : (zT h a).1 = 5) : zG d 709 16 L [.ref a] h Q = zCall d 503 [.ref a] h (fun v h1 => zG d 709 19 L (zpush v []) h1 Q) := g_cV rfl rfl rfl rfl (Nat.le_of_ble_eq_true rfl) hT
theorem g709_19 : zG d 709 19 (l0 :: l1 :: L) (.int x :: st) h Q = zG d 709 20 (kl l0 :: some (.int x) :: L) st h Q := g_stI rfl (by simp) rfl
theorem g709_20 : zG d 709 20 (l0 :: some (.int x) :: L) st h Q = zG d 709 21 (l0 :: some (.int x) :: L) (.int x :: st) h Q := g_ldI rfl rfl
theorem g709_21 : zG d 709 21 L (.int x :: st) h Q = if x < 0 then zG d 709 29 L st h Q else zG d 709 24 L st h Q := g_i1 (P := fun x => x < 0) rfl
theorem g709_24 : zG d 709 24 L st h Q = zG d 709 26 L (.int (-10) :: st) h Q := g_c rfl
theorem g709_26 : zG d 709 26 (l0 :: some (.int x) :: L) st h Q = zG d 709 27 (l0 :: some (.int x) :: L) (.int x :: st) h Q := g_ldI rfl rfl
theorem g709_27 : zG d 709 27 L (.int z :: .int x :: st) h Q = zG d 709 28 L (.int (x - z) :: st) h Q := g_b (f := fun x z => x - z) rfl
theorem g709_28 : zG d 709 28 L [.int x] h Q = Q (some (.int x)) h := g_rI (ok := fun _ => True) rfl trivial
theorem g709_29 : zG d 709 29 (some (.ref a) :: L) st h Q = zG d 709 30 (some (.ref a) :: L) (.ref a :: st) h Q := g_ldA rfl rfl
theorem g709_30 (hT : zT h a = (7, 10)) : zG d 709 30 L (.ref a :: st) h Q = zG d 709 33 L (zR h a 0 :: st) h Q := g_gR rfl hT
theorem g709_33 : zG d 709 33 (some (.ref a) :: L) st h Q = zG d 709 34 (some (.ref a) :: L) (.ref a :: st) h Q := g_ldA rfl rfl
theorem g709_34 (hT : zT h a = (7, 10)) : zG d 709 34 L (.ref a :: st) h Q = zG d 709 37 L (zR h a 6 :: st) h Q := g_gR rfl hT
theorem g709_37 {s0 : Nat} (hT : (zT h a).1 = 5) : zG d 709 37 L [.ref a, .ref s0] h Q = zCall d 504 [.ref a] h (fun v h1 => zG d 709 40 L (zpush v [.ref s0]) h1 Q) := g_cV rfl rfl rfl rfl (Nat.le_of_ble_eq_true rfl) hT
theorem g709_40 (hT : zT h a = (2, 12)) : zG d 709 40 L (.ref b :: .ref a :: st) h Q = zG d 709 43 L st (wR h a 10 (.ref b)) Q := g_pR rfl hT
theorem g709_40_n (hT : zT h a = (2, 12)) : zG d 709 40 L (.null :: .ref a :: st) h Q = zG d 709 43 L st (wR h a 10 .null) Q := g_pR0 rfl hT
theorem g709_43 : zG d 709 43 (some (.ref a) :: L) st h Q = zG d 709 44 (some (.ref a) :: L) (.ref a :: st) h Q := g_ldA rfl rfl
theorem g709_44 : zG d 709 44 L (.ref a :: st) h Q = zG d 709 45 L (.ref a :: .ref a :: st) h Q := g_dupA rfl
theorem g709_45 (hT : zT h a = (7, 10)) : zG d 709 45 L (.ref a :: st) h Q = zG d 709 48 L (.int (zI h a 7) :: st) h Q := g_gI rfl hT
theorem g709_48 : zG d 709 48 L st h Q = zG d 709 49 L (.int 1 :: st) h Q := g_c rfl
theorem g709_49 : zG d 709 49 L (.int z :: .int x :: st) h Q = zG d 709 50 L (.int (x + z) :: st) h Q := g_b (f := fun x z => x + z) rfl
theorem g709_50 (hT : zT h a = (7, 10)) : zG d 709 50 L (.int x :: .ref a :: st) h Q = zG d 709 53 L st (wI h a 7 x) Q := g_pI rfl hT
theorem g709_53 : zG d 709 53 (some (.ref a) :: L) st h Q = zG d 709 54 (some (.ref a) :: L) (.ref a :: st) h Q := g_ldA rfl rfl
theorem g709_54 (hT : zT h a = (7, 10)) : zG d 709 54 L (.ref a :: st) h Q = zG d 709 57 L (.int (zI h a 7) :: st) h Q := g_gI rfl hT
theorem g709_57 : zG d 709 57 L st h Q = zG d 709 58 L (.int 1 :: st) h Q := g_c rfl
theorem g709_58 : zG d 709 58 L (.int z :: .int x :: st) h Q = zG d 709 59 L (.int (x - z) :: st) h Q := g_b (f := fun x z => x - z) rfl
theorem g709_59 : zG d 709 59 L [.int x] h Q = Q (some (.int x)) h := g_rI (ok := fun _ => True) rfl trivial
theorem k709  : zCall (d + 1) 709 [.ref a] h Q = zG d 709 0 [some (.ref a), none] [] h Q := zCall_k (Nat.le_of_ble_eq_true rfl) rfl
theorem g710_0 : zG d 710 0 (l0 :: some (.int x) :: L) st h Q = zG d 710 1 (l0 :: some (.int x) :: L) (.int x :: st) h Q := g_ldI rfl rfl
theorem g710_1 : zG d 710 1 L (.int x :: st) h Q = if x = 0 then zG d 710 40 L st h Q else if x = 1 then zG d 710 48 L st h Q else if x = 2 then zG d 710 56 L st h Q else if x = 3 then zG d 710 64 L st h Q else if x = 4 then zG d 710 74 L st h Q else if x = 5 then zG d 710 82 L st h Q else zG d 710 91 L st h Q := g_sw (c := 91) (ps := [(0, 40), (1, 48), (2, 56), (3, 64), (4, 74), (5, 82)]) rfl
theorem g710_40 : zG d 710 40 (some (.ref a) :: L) st h Q = zG d 710 41 (some (.ref a) :: L) (.ref a :: st) h Q := g_ldA rfl rfl
theorem g710_41 (hT : zT h a = (7, 10)) : zG d 710 41 L (.ref a :: st) h Q = zG d 710 44 L (zR h a 0 :: st) h Q := g_gR rfl hT
theorem g710_44 (hT : zT h a = (2, 12)) : zG d 710 44 L (.ref a :: st) h Q = zG d 710 47 L (.int (zI h a 9) :: st) h Q := g_gI rfl hT
theorem g710_47 : zG d 710 47 L [.int x] h Q = Q (some (.int x)) h := g_rI (ok := fun _ => True) rfl trivial
theorem g710_48 : zG d 710 48 (some (.ref a) :: L) st h Q = zG d 710 49 (some (.ref a) :: L) (.ref a :: st) h Q := g_ldA rfl rfl
theorem g710_49 (hT : zT h a = (7, 10)) : zG d 710 49 L (.ref a :: st) h Q = zG d 710 52 L (zR h a 0 :: st) h Q := g_gR rfl hT
theorem g710_52 (hT : (zT h a).1 = 2) : zG d 710 52 L [.ref a] h Q = zCall d 213 [.ref a] h (fun v h1 => zG d 710 55 L (zpush v []) h1 Q) := g_cV rfl rfl rfl rfl (Nat.le_of_ble_eq_true rfl) hT
theorem g710_55 : zG d 710 55 L [.int x] h Q = Q (some (.int x)) h := g_rI (ok := fun _ => True) rfl trivial
theorem g710_56 : zG d 710 56 (some (.ref a) :: L) st h Q = zG d 710 57 (some (.ref a) :: L) (.ref a :: st) h Q := g_ldA rfl rfl
theorem g710_57 (hT : zT h a = (7, 10)) : zG d 710 57 L (.ref a :: st) h Q = zG d 710 60 L (zR h a 0 :: st) h Q := g_gR rfl hT
theorem g710_60 (hT : zT h a = (2, 12)) : zG d 710 60 L (.ref a :: st) h Q = zG d 710 63 L (.int (zI h a 8) :: st) h Q := g_gI rfl hT
theorem g710_63 : zG d 710 63 L [.int x] h Q = Q (some (.int x)) h := g_rI (ok := fun _ => True) rfl trivial
theorem g710_64 : zG d 710 64 (some (.ref a) :: L) st h Q = zG d 710 65 (some (.ref a) :: L) (.ref a :: st) h Q := g_ldA rfl rfl
theorem g710_65 (hT : zT h a = (7, 10)) : zG d 710 65 L (.ref a :: st) h Q = zG d 710 68 L (zR h a 0 :: st) h Q := g_gR rfl hT
theorem g710_68 : zG d 710 68 L st h Q = zG d 710 70 L (.int 10 :: st) h Q := g_c rfl
theorem g710_70 (hT : (zT h a).1 = 2) : zG d 710 70 L [v0, .ref a] h Q = zCall d 208 [.ref a, v0] h (fun v h1 => zG d 710 73 L (zpush v []) h1 Q) := g_cV rfl rfl rfl rfl (Nat.le_of_ble_eq_true rfl) hT
theorem g710_73 : zG d 710 73 L [.int x] h Q = Q (some (.int x)) h := g_rI (ok := fun _ => True) rfl trivial
theorem g710_74 : zG d 710 74 (some (.ref a) :: L) st h Q = zG d 710 75 (some (.ref a) :: L) (.ref a :: st) h Q := g_ldA rfl rfl
theorem g710_75 (hT : zT h a = (7, 10)) : zG d 710 75 L (.ref a :: st) h Q = zG d 710 78 L (zR h a 0 :: st) h Q := g_gR rfl hT
theorem g710_78 (hT : (zT h a).1 = 2) : zG d 710 78 L [.ref a] h Q = zCall d 209 [.ref a] h (fun v h1 => zG d 710 81 L (zpush v []) h1 Q) := g_cV rfl rfl rfl rfl (Nat.le_of_ble_eq_true rfl) hT
theorem g710_81 : zG d 710 81 L [.int x] h Q = Q (some (.int x)) h := g_rI (ok := fun _ => True) rfl trivial
theorem g710_82 : zG d 710 82 (some (.ref a) :: L) st h Q = zG d 710 83 (some (.ref a) :: L) (.ref a :: st) h Q := g_ldA rfl rfl
theorem g710_83 (hT : zT h a = (7, 10)) : zG d 710 83 L (.ref a :: st) h Q = zG d 710 86 L (zR h a 0 :: st) h Q := g_gR rfl hT
theorem g710_86 : zG d 710 86 L st h Q = zG d 710 87 L (.int 5 :: st) h Q := g_c rfl
theorem g710_87 (hT : (zT h a).1 = 2) : zG d 710 87 L [v0, .ref a] h Q = zCall d 208 [.ref a, v0] h (fun v h1 => zG d 710 90 L (zpush v []) h1 Q) := g_cV rfl rfl rfl rfl (Nat.le_of_ble_eq_true rfl) hT
theorem g710_90 : zG d 710 90 L [.int x] h Q = Q (some (.int x)) h := g_rI (ok := fun _ => True) rfl trivial
theorem g710_91 : zG d 710 91 L st h Q = zG d 710 92 L (.int (-1) :: st) h Q := g_c rfl
theorem g710_92 : zG d 710 92 L [.int x] h Q = Q (some (.int x)) h := g_rI (ok := fun _ => True) rfl trivial
theorem k710 {x0 : Int32} : zCall (d + 1) 710 [.ref a, .int x0] h Q = zG d 710 0 [some (.ref a), some (.int x0)] [] h Q := zCall_k (Nat.le_of_ble_eq_true rfl) rfl
theorem g711_0 : zG d 711 0 (l0 :: some (.int x) :: L) st h Q = zG d 711 1 (l0 :: some (.int x) :: L) (.int x :: st) h Q := g_ldI rfl rfl
theorem g711_1 : zG d 711 1 L st h Q = zG d 711 3 L (.int 60 :: st) h Q := g_c rfl
theorem g711_3 : zG d 711 3 L [v1, v0] h Q = zCall d 744 [v0, v1] h (fun v h1 => zG d 711 6 L (zpush v []) h1 Q) := g_cS rfl rfl (Nat.le_of_ble_eq_true rfl) rfl (Nat.le_of_ble_eq_true rfl)
theorem g711_6 : zG d 711 6 L (.int x :: st) h Q = if ¬ x = 0 then zG d 711 12 L st h Q else zG d 711 9 L st h Q := g_i1 (P := fun x => ¬ x = 0) rfl
theorem g711_9 : zG d 711 9 L st h Q = zG d 711 11 L (.int (-2) :: st) h Q := g_c rfl
theorem g711_11 : zG d 711 11 L [.int x] h Q = Q (some (.int x)) h := g_rI (ok := fun _ => True) rfl trivial
theorem g711_12 : zG d 711 12 (some (.ref a) :: L) st h Q = zG d 711 13 (some (.ref a) :: L) (.ref a :: st) h Q := g_ldA rfl rfl
theorem g711_13 (hT : zT h a = (7, 10)) : zG d 711 13 L (.ref a :: st) h Q = zG d 711 16 L (zR h a 0 :: st) h Q := g_gR rfl hT
theorem g711_16 (hT : zT h a = (2, 12)) : zG d 711 16 L (.ref a :: st) h Q = zG d 711 19 L (.int (zI h a 9) :: st) h Q := g_gI rfl hT
theorem g711_19 : zG d 711 19 (l0 :: some (.int x) :: L) st h Q = zG d 711 20 (l0 :: some (.int x) :: L) (.int x :: st) h Q := g_ldI rfl rfl
theorem g711_20 : zG d 711 20 L (.int z :: .int x :: st) h Q = zG d 711 21 L (.int (x + z) :: st) h Q := g_b (f := fun x z => x + z) rfl
theorem g711_21 : zG d 711 21 L st h Q = zG d 711 24 L (.int 9999 :: st) h Q := g_c rfl
theorem g711_24 : zG d 711 24 L (.int z :: .int x :: st) h Q = if x ≤ z then zG d 711 30 L st h Q else zG d 711 27 L st h Q := g_i2 (P := fun x z => x ≤ z) rfl
theorem g711_27 : zG d 711 27 L st h Q = zG d 711 29 L (.int (-3) :: st) h Q := g_c rfl
theorem g711_29 : zG d 711 29 L [.int x] h Q = Q (some (.int x)) h := g_rI (ok := fun _ => True) rfl trivial
theorem g711_30 : zG d 711 30 (some (.ref a) :: L) st h Q = zG d 711 31 (some (.ref a) :: L) (.ref a :: st) h Q := g_ldA rfl rfl
theorem g711_31 (hT : zT h a = (7, 10)) : zG d 711 31 L (.ref a :: st) h Q = zG d 711 34 L (zR h a 0 :: st) h Q := g_gR rfl hT
theorem g711_34 : zG d 711 34 (l0 :: some (.int x) :: L) st h Q = zG d 711 35 (l0 :: some (.int x) :: L) (.int x :: st) h Q := g_ldI rfl rfl
theorem g711_35 (hT : (zT h a).1 = 2) : zG d 711 35 L [v0, .ref a] h Q = zCall d 210 [.ref a, v0] h (fun v h1 => zG d 711 38 L (zpush v []) h1 Q) := g_cV rfl rfl rfl rfl (Nat.le_of_ble_eq_true rfl) hT
theorem g711_38 : zG d 711 38 (some (.ref a) :: L) st h Q = zG d 711 39 (some (.ref a) :: L) (.ref a :: st) h Q := g_ldA rfl rfl
theorem g711_39 (hT : zT h a = (7, 10)) : zG d 711 39 L (.ref a :: st) h Q = zG d 711 42 L (zR h a 0 :: st) h Q := g_gR rfl hT
theorem g711_42 (hT : zT h a = (2, 12)) : zG d 711 42 L (.ref a :: st) h Q = zG d 711 45 L (.int (zI h a 9) :: st) h Q := g_gI rfl hT
theorem g711_45 : zG d 711 45 L [.int x] h Q = Q (some (.int x)) h := g_rI (ok := fun _ => True) rfl trivial
theorem k711 {x0 : Int32} : zCall (d + 1) 711 [.ref a, .int x0] h Q = zG d 711 0 [some (.ref a), some (.int x0)] [] h Q := zCall_k (Nat.le_of_ble_eq_true rfl) rfl
theorem g712_0 : zG d 712 0 (l0 :: l1 :: some (.int x) :: L) st h Q = zG d 712 1 (l0 :: l1 :: some (.int x) :: L) (.int x :: st) h Q := g_ldI rfl rfl
theorem g712_1 : zG d 712 1 L st h Q = zG d 712 3 L (.int 10 :: st) h Q := g_c rfl
theorem g712_3 : zG d 712 3 L (.int z :: .int x :: st) h Q = if x < z then zG d 712 21 L st h Q else zG d 712 6 L st h Q := g_i2 (P := fun x z => x < z) rfl
theorem g712_6 : zG d 712 6 (some (.ref a) :: L) st h Q = zG d 712 7 (some (.ref a) :: L) (.ref a :: st) h Q := g_ldA rfl rfl
theorem g712_7 : zG d 712 7 (l0 :: l1 :: some (.int x) :: L) st h Q = zG d 712 8 (l0 :: l1 :: some (.int x) :: L) (.int x :: st) h Q := g_ldI rfl rfl
theorem g712_8 : zG d 712 8 L st h Q = zG d 712 10 L (.int 10 :: st) h Q := g_c rfl
theorem g712_10 : zG d 712 10 L (.int z :: .int x :: st) h Q = zG d 712 11 L (.int (x - z) :: st) h Q := g_b (f := fun x z => x - z) rfl
theorem g712_11 (hT : (zT h a).1 = 7) : zG d 712 11 L [v0, .ref a] h Q = zCall d 743 [.ref a, v0] h (fun v h1 => zG d 712 14 L (zpush v []) h1 Q) := g_cV rfl rfl rfl rfl (Nat.le_of_ble_eq_true rfl) hT
theorem g712_14 : zG d 712 14 L (.int x :: st) h Q = if x = 0 then zG d 712 21 L st h Q else zG d 712 17 L st h Q := g_i1 (P := fun x => x = 0) rfl
theorem g712_17 : zG d 712 17 L st h Q = zG d 712 18 L (.int 1 :: st) h Q := g_c rfl
theorem g712_18 : zG d 712 18 L st h Q = zG d 712 22 L st h Q := g_go rfl
theorem g712_21 : zG d 712 21 L st h Q = zG d 712 22 L (.int 0 :: st) h Q := g_c rfl
theorem g712_22 : zG d 712 22 (l0 :: l1 :: l2 :: l3 :: L) (.int x :: st) h Q = zG d 712 23 (l0 :: l1 :: kl l2 :: some (.int x) :: L) st h Q := g_stI rfl (by simp) rfl
theorem g712_23 : zG d 712 23 (l0 :: l1 :: some (.int x) :: L) st h Q = zG d 712 24 (l0 :: l1 :: some (.int x) :: L) (.int x :: st) h Q := g_ldI rfl rfl
theorem g712_24 : zG d 712 24 L st h Q = zG d 712 26 L (.int 20 :: st) h Q := g_c rfl
theorem g712_26 : zG d 712 26 L (.int z :: .int x :: st) h Q = if x < z then zG d 712 44 L st h Q else zG d 712 29 L st h Q := g_i2 (P := fun x z => x < z) rfl
theorem g712_29 : zG d 712 29 (some (.ref a) :: L) st h Q = zG d 712 30 (some (.ref a) :: L) (.ref a :: st) h Q := g_ldA rfl rfl
theorem g712_30 : zG d 712 30 (l0 :: l1 :: some (.int x) :: L) st h Q = zG d 712 31 (l0 :: l1 :: some (.int x) :: L) (.int x :: st) h Q := g_ldI rfl rfl
theorem g712_31 : zG d 712 31 L st h Q = zG d 712 33 L (.int 20 :: st) h Q := g_c rfl
theorem g712_33 : zG d 712 33 L (.int z :: .int x :: st) h Q = zG d 712 34 L (.int (x - z) :: st) h Q := g_b (f := fun x z => x - z) rfl
theorem g712_34 (hT : (zT h a).1 = 7) : zG d 712 34 L [v0, .ref a] h Q = zCall d 743 [.ref a, v0] h (fun v h1 => zG d 712 37 L (zpush v []) h1 Q) := g_cV rfl rfl rfl rfl (Nat.le_of_ble_eq_true rfl) hT
theorem g712_37 : zG d 712 37 L (.int x :: st) h Q = if x = 0 then zG d 712 44 L st h Q else zG d 712 40 L st h Q := g_i1 (P := fun x => x = 0) rfl
theorem g712_40 : zG d 712 40 L st h Q = zG d 712 41 L (.int 1 :: st) h Q := g_c rfl
theorem g712_41 : zG d 712 41 L st h Q = zG d 712 45 L st h Q := g_go rfl
theorem g712_44 : zG d 712 44 L st h Q = zG d 712 45 L (.int 0 :: st) h Q := g_c rfl
theorem g712_45 : zG d 712 45 (l0 :: l1 :: l2 :: l3 :: l4 :: L) (.int x :: st) h Q = zG d 712 47 (l0 :: l1 :: l2 :: kl l3 :: some (.int x) :: L) st h Q := g_stI rfl (by simp) rfl
theorem g712_47 : zG d 712 47 (l0 :: l1 :: some (.int x) :: L) st h Q = zG d 712 48 (l0 :: l1 :: some (.int x) :: L) (.int x :: st) h Q := g_ldI rfl rfl
theorem g712_48 : zG d 712 48 L st h Q = zG d 712 49 L (.int 1 :: st) h Q := g_c rfl
theorem g712_49 : zG d 712 49 L [v1, v0] h Q = zCall d 744 [v0, v1] h (fun v h1 => zG d 712 52 L (zpush v []) h1 Q) := g_cS rfl rfl (Nat.le_of_ble_eq_true rfl) rfl (Nat.le_of_ble_eq_true rfl)
theorem g712_52 : zG d 712 52 L (.int x :: st) h Q = if ¬ x = 0 then zG d 712 66 L st h Q else zG d 712 55 L st h Q := g_i1 (P := fun x => ¬ x = 0) rfl
theorem g712_55 : zG d 712 55 (l0 :: l1 :: l2 :: some (.int x) :: L) st h Q = zG d 712 56 (l0 :: l1 :: l2 :: some (.int x) :: L) (.int x :: st) h Q := g_ldI rfl rfl
theorem g712_56 : zG d 712 56 L (.int x :: st) h Q = if ¬ x = 0 then zG d 712 66 L st h Q else zG d 712 59 L st h Q := g_i1 (P := fun x => ¬ x = 0) rfl
theorem g712_59 : zG d 712 59 (l0 :: l1 :: l2 :: l3 :: some (.int x) :: L) st h Q = zG d 712 61 (l0 :: l1 :: l2 :: l3 :: some (.int x) :: L) (.int x :: st) h Q := g_ldI rfl rfl
theorem g712_61 : zG d 712 61 L (.int x :: st) h Q = if ¬ x = 0 then zG d 712 66 L st h Q else zG d 712 64 L st h Q := g_i1 (P := fun x => ¬ x = 0) rfl
theorem g712_64 : zG d 712 64 L st h Q = zG d 712 65 L (.int (-1) :: st) h Q := g_c rfl
theorem g712_65 : zG d 712 65 L [.int x] h Q = Q (some (.int x)) h := g_rI (ok := fun _ => True) rfl trivial
theorem g712_66 : zG d 712 66 (l0 :: some (.int x) :: L) st h Q = zG d 712 67 (l0 :: some (.int x) :: L) (.int x :: st) h Q := g_ldI rfl rfl
theorem g712_67 : zG d 712 67 L st h Q = zG d 712 69 L (.int 60 :: st) h Q := g_c rfl
theorem g712_69 : zG d 712 69 L [v1, v0] h Q = zCall d 744 [v0, v1] h (fun v h1 => zG d 712 72 L (zpush v []) h1 Q) := g_cS rfl rfl (Nat.le_of_ble_eq_true rfl) rfl (Nat.le_of_ble_eq_true rfl)
theorem g712_72 : zG d 712 72 L (.int x :: st) h Q = if ¬ x = 0 then zG d 712 78 L st h Q else zG d 712 75 L st h Q := g_i1 (P := fun x => ¬ x = 0) rfl
theorem g712_75 : zG d 712 75 L st h Q = zG d 712 77 L (.int (-2) :: st) h Q := g_c rfl
theorem g712_77 : zG d 712 77 L [.int x] h Q = Q (some (.int x)) h := g_rI (ok := fun _ => True) rfl trivial
theorem g712_78 : zG d 712 78 (some (.ref a) :: L) st h Q = zG d 712 79 (some (.ref a) :: L) (.ref a :: st) h Q := g_ldA rfl rfl
theorem g712_79 (hT : zT h a = (7, 10)) : zG d 712 79 L (.ref a :: st) h Q = zG d 712 82 L (zR h a 1 :: st) h Q := g_gR rfl hT
theorem g712_82 : zG d 712 82 (some (.ref a) :: L) st h Q = zG d 712 83 (some (.ref a) :: L) (.ref a :: st) h Q := g_ldA rfl rfl
theorem g712_83 (hT : zT h a = (7, 10)) : zG d 712 83 L (.ref a :: st) h Q = zG d 712 86 L (zR h a 0 :: st) h Q := g_gR rfl hT
theorem g712_86 (hT : (zT h a).1 = 2) : zG d 712 86 L [v0, .ref a] h Q = zCall d 202 [.ref a, v0] h (fun v h1 => zG d 712 89 L (zpush v []) h1 Q) := g_cV rfl rfl rfl rfl (Nat.le_of_ble_eq_true rfl) hT
theorem g712_89 : zG d 712 89 (some (.ref a) :: L) st h Q = zG d 712 90 (some (.ref a) :: L) (.ref a :: st) h Q := g_ldA rfl rfl
theorem g712_90 (hT : zT h a = (7, 10)) : zG d 712 90 L (.ref a :: st) h Q = zG d 712 93 L (zR h a 1 :: st) h Q := g_gR rfl hT
theorem g712_93 : zG d 712 93 (l0 :: some (.int x) :: L) st h Q = zG d 712 94 (l0 :: some (.int x) :: L) (.int x :: st) h Q := g_ldI rfl rfl
theorem g712_94 (hT : (zT h a).1 = 2) : zG d 712 94 L [v0, .ref a] h Q = zCall d 210 [.ref a, v0] h (fun v h1 => zG d 712 97 L (zpush v []) h1 Q) := g_cV rfl rfl rfl rfl (Nat.le_of_ble_eq_true rfl) hT
theorem g712_97 : zG d 712 97 (l0 :: l1 :: l2 :: some (.int x) :: L) st h Q = zG d 712 98 (l0 :: l1 :: l2 :: some (.int x) :: L) (.int x :: st) h Q := g_ldI rfl rfl
theorem g712_98 : zG d 712 98 L (.int x :: st) h Q = if x = 0 then zG d 712 114 L st h Q else zG d 712 101 L st h Q := g_i1 (P := fun x => x = 0) rfl
theorem g712_101 : zG d 712 101 (some (.ref a) :: L) st h Q = zG d 712 102 (some (.ref a) :: L) (.ref a :: st) h Q := g_ldA rfl rfl
theorem g712_102 (hT : zT h a = (7, 10)) : zG d 712 102 L (.ref a :: st) h Q = zG d 712 105 L (zR h a 1 :: st) h Q := g_gR rfl hT
theorem g712_105 (hT : zT h a = (2, 12)) : zG d 712 105 L (.ref a :: st) h Q = zG d 712 108 L (zR h a 3 :: st) h Q := g_gR rfl hT
theorem g712_108 : zG d 712 108 (l0 :: l1 :: some (.int x) :: L) st h Q = zG d 712 109 (l0 :: l1 :: some (.int x) :: L) (.int x :: st) h Q := g_ldI rfl rfl
theorem g712_109 : zG d 712 109 L st h Q = zG d 712 111 L (.int 10 :: st) h Q := g_c rfl
theorem g712_111 : zG d 712 111 L (.int z :: .int x :: st) h Q = zG d 712 112 L (.int (x - z) :: st) h Q := g_b (f := fun x z => x - z) rfl
theorem g712_112 (hT : (zT h b).1 = 20) (hi : zin i (zT h b).2) : zG d 712 112 L (.int i :: .ref b :: st) h Q = zG d 712 113 L (.int (zI h b i.toNatClampNeg) :: st) h Q := g_ia rfl hT hi
theorem g712_113 : zG d 712 113 L [.int x] h Q = Q (some (.int x)) h := g_rI (ok := fun _ => True) rfl trivial
theorem g712_114 : zG d 712 114 (l0 :: l1 :: l2 :: l3 :: some (.int x) :: L) st h Q = zG d 712 116 (l0 :: l1 :: l2 :: l3 :: some (.int x) :: L) (.int x :: st) h Q := g_ldI rfl rfl
theorem g712_116 : zG d 712 116 L (.int x :: st) h Q = if x = 0 then zG d 712 132 L st h Q else zG d 712 119 L st h Q := g_i1 (P := fun x => x = 0) rfl
theorem g712_119 : zG d 712 119 (some (.ref a) :: L) st h Q = zG d 712 120 (some (.ref a) :: L) (.ref a :: st) h Q := g_ldA rfl rfl
theorem g712_120 (hT : zT h a = (7, 10)) : zG d 712 120 L (.ref a :: st) h Q = zG d 712 123 L (zR h a 1 :: st) h Q := g_gR rfl hT
theorem g712_123 (hT : zT h a = (2, 12)) : zG d 712 123 L (.ref a :: st) h Q = zG d 712 126 L (zR h a 4 :: st) h Q := g_gR rfl hT
theorem g712_126 : zG d 712 126 (l0 :: l1 :: some (.int x) :: L) st h Q = zG d 712 127 (l0 :: l1 :: some (.int x) :: L) (.int x :: st) h Q := g_ldI rfl rfl
theorem g712_127 : zG d 712 127 L st h Q = zG d 712 129 L (.int 20 :: st) h Q := g_c rfl
theorem g712_129 : zG d 712 129 L (.int z :: .int x :: st) h Q = zG d 712 130 L (.int (x - z) :: st) h Q := g_b (f := fun x z => x - z) rfl
theorem g712_130 (hT : (zT h b).1 = 20) (hi : zin i (zT h b).2) : zG d 712 130 L (.int i :: .ref b :: st) h Q = zG d 712 131 L (.int (zI h b i.toNatClampNeg) :: st) h Q := g_ia rfl hT hi
theorem g712_131 : zG d 712 131 L [.int x] h Q = Q (some (.int x)) h := g_rI (ok := fun _ => True) rfl trivial
theorem g712_132 : zG d 712 132 (l0 :: l1 :: some (.int x) :: L) st h Q = zG d 712 133 (l0 :: l1 :: some (.int x) :: L) (.int x :: st) h Q := g_ldI rfl rfl
theorem g712_133 : zG d 712 133 L (.int x :: st) h Q = if ¬ x = 0 then zG d 712 146 L st h Q else zG d 712 136 L st h Q := g_i1 (P := fun x => ¬ x = 0) rfl
theorem g712_136 : zG d 712 136 (some (.ref a) :: L) st h Q = zG d 712 137 (some (.ref a) :: L) (.ref a :: st) h Q := g_ldA rfl rfl
theorem g712_137 (hT : zT h a = (7, 10)) : zG d 712 137 L (.ref a :: st) h Q = zG d 712 140 L (zR h a 1 :: st) h Q := g_gR rfl hT
theorem g712_140 (hT : zT h a = (2, 12)) : zG d 712 140 L (.ref a :: st) h Q = zG d 712 143 L (.int (zI h a 8) :: st) h Q := g_gI rfl hT
theorem g712_143 : zG d 712 143 L st h Q = zG d 712 155 L st h Q := g_go rfl
theorem g712_146 : zG d 712 146 (some (.ref a) :: L) st h Q = zG d 712 147 (some (.ref a) :: L) (.ref a :: st) h Q := g_ldA rfl rfl
theorem g712_147 (hT : zT h a = (7, 10)) : zG d 712 147 L (.ref a :: st) h Q = zG d 712 150 L (zR h a 1 :: st) h Q := g_gR rfl hT
theorem g712_150 : zG d 712 150 L st h Q = zG d 712 152 L (.int 10 :: st) h Q := g_c rfl
theorem g712_152 (hT : (zT h a).1 = 2) : zG d 712 152 L [v0, .ref a] h Q = zCall d 208 [.ref a, v0] h (fun v h1 => zG d 712 155 L (zpush v []) h1 Q) := g_cV rfl rfl rfl rfl (Nat.le_of_ble_eq_true rfl) hT
theorem g712_155 : zG d 712 155 L [.int x] h Q = Q (some (.int x)) h := g_rI (ok := fun _ => True) rfl trivial
theorem k712 {x0 : Int32} {x1 : Int32} : zCall (d + 1) 712 [.ref a, .int x0, .int x1] h Q = zG d 712 0 [some (.ref a), some (.int x0), some (.int x1), none, none] [] h Q := zCall_k (Nat.le_of_ble_eq_true rfl) rfl
theorem g713_0 : zG d 713 0 (some (.ref a) :: L) st h Q = zG d 713 1 (some (.ref a) :: L) (.ref a :: st) h Q := g_ldA rfl rfl
theorem g713_1 (hT : zT h a = (7, 10)) : zG d 713 1 L (.ref a :: st) h Q = zG d 713 4 L (zR h a 1 :: st) h Q := g_gR rfl hT
theorem g713_4 : zG d 713 4 (some (.ref a) :: L) st h Q = zG d 713 5 (some (.ref a) :: L) (.ref a :: st) h Q := g_ldA rfl rfl
theorem g713_5 (hT : zT h a = (7, 10)) : zG d 713 5 L (.ref a :: st) h Q = zG d 713 8 L (zR h a 0 :: st) h Q := g_gR rfl hT
theorem g713_8 (hT : (zT h a).1 = 2) : zG d 713 8 L [v0, .ref a] h Q = zCall d 202 [.ref a, v0] h (fun v h1 => zG d 713 11 L (zpush v []) h1 Q) := g_cV rfl rfl rfl rfl (Nat.le_of_ble_eq_true rfl) hT
theorem g713_11 : zG d 713 11 L st h Q = zG d 713 12 L (.int 0 :: st) h Q := g_c rfl
theorem g713_12 : zG d 713 12 (l0 :: l1 :: l2 :: L) (.int x :: st) h Q = zG d 713 13 (l0 :: kl l1 :: some (.int x) :: L) st h Q := g_stI rfl (by simp) rfl
theorem g713_13 : zG d 713 13 (l0 :: l1 :: some (.int x) :: L) st h Q = zG d 713 14 (l0 :: l1 :: some (.int x) :: L) (.int x :: st) h Q := g_ldI rfl rfl
theorem g713_14 : zG d 713 14 L st h Q = zG d 713 16 L (.int 60 :: st) h Q := g_c rfl
theorem g713_16 : zG d 713 16 L (.int z :: .int x :: st) h Q = if z < x then zG d 713 49 L st h Q else zG d 713 19 L st h Q := g_i2 (P := fun x z => z < x) rfl
theorem g713_19 : zG d 713 19 (some (.ref a) :: L) st h Q = zG d 713 20 (some (.ref a) :: L) (.ref a :: st) h Q := g_ldA rfl rfl
theorem g713_20 (hT : zT h a = (7, 10)) : zG d 713 20 L (.ref a :: st) h Q = zG d 713 23 L (zR h a 1 :: st) h Q := g_gR rfl hT
theorem g713_23 (hT : zT h a = (2, 12)) : zG d 713 23 L (.ref a :: st) h Q = zG d 713 26 L (zR h a 3 :: st) h Q := g_gR rfl hT
theorem g713_26 : zG d 713 26 (l0 :: some (.int x) :: L) st h Q = zG d 713 27 (l0 :: some (.int x) :: L) (.int x :: st) h Q := g_ldI rfl rfl
theorem g713_27 (hT : (zT h b).1 = 20) (hi : zin i (zT h b).2) : zG d 713 27 L (.int i :: .ref b :: st) h Q = zG d 713 28 L (.int (zI h b i.toNatClampNeg) :: st) h Q := g_ia rfl hT hi
theorem g713_28 : zG d 713 28 L st h Q = zG d 713 30 L (.int 10 :: st) h Q := g_c rfl
theorem g713_30 : zG d 713 30 L (.int z :: .int x :: st) h Q = if ¬ x = z then zG d 713 35 L st h Q else zG d 713 33 L st h Q := g_i2 (P := fun x z => ¬ x = z) rfl
theorem g713_33 : zG d 713 33 (l0 :: l1 :: some (.int x) :: L) st h Q = zG d 713 34 (l0 :: l1 :: some (.int x) :: L) (.int x :: st) h Q := g_ldI rfl rfl
theorem g713_34 : zG d 713 34 L [.int x] h Q = Q (some (.int x)) h := g_rI (ok := fun _ => True) rfl trivial
theorem g713_35 : zG d 713 35 (some (.ref a) :: L) st h Q = zG d 713 36 (some (.ref a) :: L) (.ref a :: st) h Q := g_ldA rfl rfl
theorem g713_36 (hT : zT h a = (7, 10)) : zG d 713 36 L (.ref a :: st) h Q = zG d 713 39 L (zR h a 1 :: st) h Q := g_gR rfl hT
theorem g713_39 : zG d 713 39 L st h Q = zG d 713 40 L (.int 1 :: st) h Q := g_c rfl
theorem g713_40 (hT : (zT h a).1 = 2) : zG d 713 40 L [v0, .ref a] h Q = zCall d 210 [.ref a, v0] h (fun v h1 => zG d 713 43 L (zpush v []) h1 Q) := g_cV rfl rfl rfl rfl (Nat.le_of_ble_eq_true rfl) hT
theorem g713_43 : zG d 713 43 (l0 :: l1 :: some (.int x) :: L) st h Q = zG d 713 46 (l0 :: kl l1 :: some (.int (x + 1)) :: L) st h Q := g_inc rfl rfl rfl
theorem g713_46 : zG d 713 46 L st h Q = zG d 713 13 L st h Q := g_go rfl
theorem g713_49 : zG d 713 49 L st h Q = zG d 713 51 L (.int (-5) :: st) h Q := g_c rfl
theorem g713_51 : zG d 713 51 L [.int x] h Q = Q (some (.int x)) h := g_rI (ok := fun _ => True) rfl trivial
theorem k713 {x0 : Int32} : zCall (d + 1) 713 [.ref a, .int x0] h Q = zG d 713 0 [some (.ref a), some (.int x0), none] [] h Q := zCall_k (Nat.le_of_ble_eq_true rfl) rfl
theorem g714_0 : zG d 714 0 (l0 :: l1 :: some (.int x) :: L) st h Q = zG d 714 1 (l0 :: l1 :: some (.int x) :: L) (.int x :: st) h Q := g_ldI rfl rfl
theorem g714_1 : zG d 714 1 L st h Q = zG d 714 2 L (.int 3 :: st) h Q := g_c rfl
theorem g714_2 : zG d 714 2 L [v1, v0] h Q = zCall d 744 [v0, v1] h (fun v h1 => zG d 714 5 L (zpush v []) h1 Q) := g_cS rfl rfl (Nat.le_of_ble_eq_true rfl) rfl (Nat.le_of_ble_eq_true rfl)
theorem g714_5 : zG d 714 5 L (.int x :: st) h Q = if ¬ x = 0 then zG d 714 10 L st h Q else zG d 714 8 L st h Q := g_i1 (P := fun x => ¬ x = 0) rfl
theorem g714_8 : zG d 714 8 L st h Q = zG d 714 9 L (.int (-1) :: st) h Q := g_c rfl
theorem g714_9 : zG d 714 9 L [.int x] h Q = Q (some (.int x)) h := g_rI (ok := fun _ => True) rfl trivial
theorem g714_10 : zG d 714 10 (l0 :: some (.int x) :: L) st h Q = zG d 714 11 (l0 :: some (.int x) :: L) (.int x :: st) h Q := g_ldI rfl rfl
theorem g714_11 : zG d 714 11 L st h Q = zG d 714 12 L (.int 1 :: st) h Q := g_c rfl
theorem g714_12 : zG d 714 12 L (.int z :: .int x :: st) h Q = if x < z then zG d 714 21 L st h Q else zG d 714 15 L st h Q := g_i2 (P := fun x z => x < z) rfl
theorem g714_15 : zG d 714 15 (l0 :: some (.int x) :: L) st h Q = zG d 714 16 (l0 :: some (.int x) :: L) (.int x :: st) h Q := g_ldI rfl rfl
theorem g714_16 : zG d 714 16 L st h Q = zG d 714 18 L (.int 20 :: st) h Q := g_c rfl
theorem g714_18 : zG d 714 18 L (.int z :: .int x :: st) h Q = if x ≤ z then zG d 714 24 L st h Q else zG d 714 21 L st h Q := g_i2 (P := fun x z => x ≤ z) rfl
theorem g714_21 : zG d 714 21 L st h Q = zG d 714 23 L (.int (-2) :: st) h Q := g_c rfl
theorem g714_23 : zG d 714 23 L [.int x] h Q = Q (some (.int x)) h := g_rI (ok := fun _ => True) rfl trivial
theorem g714_24 : zG d 714 24 (l0 :: l1 :: some (.int x) :: L) st h Q = zG d 714 25 (l0 :: l1 :: some (.int x) :: L) (.int x :: st) h Q := g_ldI rfl rfl
theorem g714_25 : zG d 714 25 L (.int x :: st) h Q = if x = 0 then zG d 714 52 L st h Q else if x = 1 then zG d 714 58 L st h Q else if x = 2 then zG d 714 69 L st h Q else zG d 714 75 L st h Q := g_sw (c := 75) (ps := [(0, 52), (1, 58), (2, 69)]) rfl
theorem g714_52 : zG d 714 52 (some (.ref a) :: L) st h Q = zG d 714 53 (some (.ref a) :: L) (.ref a :: st) h Q := g_ldA rfl rfl
theorem g714_53 : zG d 714 53 (l0 :: some (.int x) :: L) st h Q = zG d 714 54 (l0 :: some (.int x) :: L) (.int x :: st) h Q := g_ldI rfl rfl
theorem g714_54 (hT : (zT h a).1 = 7) : zG d 714 54 L [v0, .ref a] h Q = zCall d 715 [.ref a, v0] h (fun v h1 => zG d 714 57 L (zpush v []) h1 Q) := g_cV rfl rfl rfl rfl (Nat.le_of_ble_eq_true rfl) hT
theorem g714_57 : zG d 714 57 L [.int x] h Q = Q (some (.int x)) h := g_rI (ok := fun _ => True) rfl trivial
theorem g714_58 : zG d 714 58 (some (.ref a) :: L) st h Q = zG d 714 59 (some (.ref a) :: L) (.ref a :: st) h Q := g_ldA rfl rfl
theorem g714_59 : zG d 714 59 (some (.ref a) :: L) st h Q = zG d 714 60 (some (.ref a) :: L) (.ref a :: st) h Q := g_ldA rfl rfl
theorem g714_60 : zG d 714 60 (l0 :: some (.int x) :: L) st h Q = zG d 714 61 (l0 :: some (.int x) :: L) (.int x :: st) h Q := g_ldI rfl rfl
theorem g714_61 {s0 : Nat} (hT : (zT h a).1 = 7) : zG d 714 61 L [v0, .ref a, .ref s0] h Q = zCall d 715 [.ref a, v0] h (fun v h1 => zG d 714 64 L (zpush v [.ref s0]) h1 Q) := g_cV rfl rfl rfl rfl (Nat.le_of_ble_eq_true rfl) hT
theorem g714_64 : zG d 714 64 (l0 :: some (.int x) :: L) st h Q = zG d 714 65 (l0 :: some (.int x) :: L) (.int x :: st) h Q := g_ldI rfl rfl
theorem g714_65 (hT : (zT h a).1 = 7) : zG d 714 65 L [v1, v0, .ref a] h Q = zCall d 716 [.ref a, v0, v1] h (fun v h1 => zG d 714 68 L (zpush v []) h1 Q) := g_cV rfl rfl rfl rfl (Nat.le_of_ble_eq_true rfl) hT
theorem g714_68 : zG d 714 68 L [.int x] h Q = Q (some (.int x)) h := g_rI (ok := fun _ => True) rfl trivial
theorem g714_69 : zG d 714 69 (some (.ref a) :: L) st h Q = zG d 714 70 (some (.ref a) :: L) (.ref a :: st) h Q := g_ldA rfl rfl
theorem g714_70 : zG d 714 70 (l0 :: some (.int x) :: L) st h Q = zG d 714 71 (l0 :: some (.int x) :: L) (.int x :: st) h Q := g_ldI rfl rfl
theorem g714_71 (hT : (zT h a).1 = 7) : zG d 714 71 L [v0, .ref a] h Q = zCall d 717 [.ref a, v0] h (fun v h1 => zG d 714 74 L (zpush v []) h1 Q) := g_cV rfl rfl rfl rfl (Nat.le_of_ble_eq_true rfl) hT
theorem g714_74 : zG d 714 74 L [.int x] h Q = Q (some (.int x)) h := g_rI (ok := fun _ => True) rfl trivial
theorem g714_75 : zG d 714 75 (some (.ref a) :: L) st h Q = zG d 714 76 (some (.ref a) :: L) (.ref a :: st) h Q := g_ldA rfl rfl
theorem g714_76 : zG d 714 76 (l0 :: some (.int x) :: L) st h Q = zG d 714 77 (l0 :: some (.int x) :: L) (.int x :: st) h Q := g_ldI rfl rfl
theorem g714_77 (hT : (zT h a).1 = 7) : zG d 714 77 L [v0, .ref a] h Q = zCall d 718 [.ref a, v0] h (fun v h1 => zG d 714 80 L (zpush v []) h1 Q) := g_cV rfl rfl rfl rfl (Nat.le_of_ble_eq_true rfl) hT
theorem g714_80 : zG d 714 80 L [.int x] h Q = Q (some (.int x)) h := g_rI (ok := fun _ => True) rfl trivial
theorem k714 {x0 : Int32} {x1 : Int32} : zCall (d + 1) 714 [.ref a, .int x0, .int x1] h Q = zG d 714 0 [some (.ref a), some (.int x0), some (.int x1)] [] h Q := zCall_k (Nat.le_of_ble_eq_true rfl) rfl
theorem g715_0 : zG d 715 0 L st h Q = zG d 715 1 L (.int 0 :: st) h Q := g_c rfl
theorem g715_1 : zG d 715 1 (l0 :: l1 :: l2 :: L) (.int x :: st) h Q = zG d 715 2 (l0 :: kl l1 :: some (.int x) :: L) st h Q := g_stI rfl (by simp) rfl
theorem g715_2 : zG d 715 2 L st h Q = zG d 715 4 L (.int 7 :: st) h Q := g_c rfl
theorem g715_4 : zG d 715 4 (l0 :: l1 :: l2 :: l3 :: L) (.int x :: st) h Q = zG d 715 5 (l0 :: l1 :: kl l2 :: some (.int x) :: L) st h Q := g_stI rfl (by simp) rfl
theorem g715_5 : zG d 715 5 L st h Q = zG d 715 6 L (.int 0 :: st) h Q := g_c rfl
theorem g715_6 : zG d 715 6 (l0 :: l1 :: l2 :: l3 :: l4 :: L) (.int x :: st) h Q = zG d 715 8 (l0 :: l1 :: l2 :: kl l3 :: some (.int x) :: L) st h Q := g_stI rfl (by simp) rfl
theorem g715_8 : zG d 715 8 (l0 :: l1 :: l2 :: l3 :: some (.int x) :: L) st h Q = zG d 715 10 (l0 :: l1 :: l2 :: l3 :: some (.int x) :: L) (.int x :: st) h Q := g_ldI rfl rfl
theorem g715_10 : zG d 715 10 L st h Q = zG d 715 12 L (.int 49 :: st) h Q := g_c rfl
theorem g715_12 : zG d 715 12 L (.int z :: .int x :: st) h Q = if z < x then zG d 715 42 L st h Q else zG d 715 15 L st h Q := g_i2 (P := fun x z => z < x) rfl
theorem g715_15 : zG d 715 15 (some (.ref a) :: L) st h Q = zG d 715 16 (some (.ref a) :: L) (.ref a :: st) h Q := g_ldA rfl rfl
theorem g715_16 : zG d 715 16 (l0 :: l1 :: l2 :: l3 :: some (.int x) :: L) st h Q = zG d 715 18 (l0 :: l1 :: l2 :: l3 :: some (.int x) :: L) (.int x :: st) h Q := g_ldI rfl rfl
theorem g715_18 : zG d 715 18 (l0 :: some (.int x) :: L) st h Q = zG d 715 19 (l0 :: some (.int x) :: L) (.int x :: st) h Q := g_ldI rfl rfl
theorem g715_19 (hT : (zT h a).1 = 7) : zG d 715 19 L [v1, v0, .ref a] h Q = zCall d 716 [.ref a, v0, v1] h (fun v h1 => zG d 715 22 L (zpush v []) h1 Q) := g_cV rfl rfl rfl rfl (Nat.le_of_ble_eq_true rfl) hT
theorem g715_22 : zG d 715 22 (l0 :: l1 :: l2 :: l3 :: l4 :: l5 :: L) (.int x :: st) h Q = zG d 715 24 (l0 :: l1 :: l2 :: l3 :: kl l4 :: some (.int x) :: L) st h Q := g_stI rfl (by simp) rfl
theorem g715_24 : zG d 715 24 (l0 :: l1 :: l2 :: l3 :: l4 :: some (.int x) :: L) st h Q = zG d 715 26 (l0 :: l1 :: l2 :: l3 :: l4 :: some (.int x) :: L) (.int x :: st) h Q := g_ldI rfl rfl
theorem g715_26 : zG d 715 26 (l0 :: l1 :: l2 :: some (.int x) :: L) st h Q = zG d 715 27 (l0 :: l1 :: l2 :: some (.int x) :: L) (.int x :: st) h Q := g_ldI rfl rfl
theorem g715_27 : zG d 715 27 L (.int z :: .int x :: st) h Q = if z ≤ x then zG d 715 36 L st h Q else zG d 715 30 L st h Q := g_i2 (P := fun x z => z ≤ x) rfl
theorem g715_30 : zG d 715 30 (l0 :: l1 :: l2 :: l3 :: l4 :: some (.int x) :: L) st h Q = zG d 715 32 (l0 :: l1 :: l2 :: l3 :: l4 :: some (.int x) :: L) (.int x :: st) h Q := g_ldI rfl rfl
theorem g715_32 : zG d 715 32 (l0 :: l1 :: l2 :: l3 :: L) (.int x :: st) h Q = zG d 715 33 (l0 :: l1 :: kl l2 :: some (.int x) :: L) st h Q := g_stI rfl (by simp) rfl
theorem g715_33 : zG d 715 33 (l0 :: l1 :: l2 :: l3 :: some (.int x) :: L) st h Q = zG d 715 35 (l0 :: l1 :: l2 :: l3 :: some (.int x) :: L) (.int x :: st) h Q := g_ldI rfl rfl
theorem g715_35 : zG d 715 35 (l0 :: l1 :: l2 :: L) (.int x :: st) h Q = zG d 715 36 (l0 :: kl l1 :: some (.int x) :: L) st h Q := g_stI rfl (by simp) rfl
theorem g715_36 : zG d 715 36 (l0 :: l1 :: l2 :: l3 :: some (.int x) :: L) st h Q = zG d 715 39 (l0 :: l1 :: l2 :: kl l3 :: some (.int (x + 1)) :: L) st h Q := g_inc rfl rfl rfl
theorem g715_39 : zG d 715 39 L st h Q = zG d 715 8 L st h Q := g_go rfl
theorem g715_42 : zG d 715 42 (l0 :: l1 :: some (.int x) :: L) st h Q = zG d 715 43 (l0 :: l1 :: some (.int x) :: L) (.int x :: st) h Q := g_ldI rfl rfl
theorem g715_43 : zG d 715 43 L [.int x] h Q = Q (some (.int x)) h := g_rI (ok := fun _ => True) rfl trivial
theorem k715 {x0 : Int32} : zCall (d + 1) 715 [.ref a, .int x0] h Q = zG d 715 0 [some (.ref a), some (.int x0), none, none, none, none] [] h Q := zCall_k (Nat.le_of_ble_eq_true rfl) rfl
theorem g716_0 : zG d 716 0 (some (.ref a) :: L) st h Q = zG d 716 1 (some (.ref a) :: L) (.ref a :: st) h Q := g_ldA rfl rfl
theorem g716_1 (hT : zT h a = (7, 10)) : zG d 716 1 L (.ref a :: st) h Q = zG d 716 4 L (zR h a 1 :: st) h Q := g_gR rfl hT
theorem g716_4 : zG d 716 4 (some (.ref a) :: L) st h Q = zG d 716 5 (some (.ref a) :: L) (.ref a :: st) h Q := g_ldA rfl rfl
theorem g716_5 (hT : zT h a = (7, 10)) : zG d 716 5 L (.ref a :: st) h Q = zG d 716 8 L (zR h a 0 :: st) h Q := g_gR rfl hT
theorem g716_8 (hT : (zT h a).1 = 2) : zG d 716 8 L [v0, .ref a] h Q = zCall d 202 [.ref a, v0] h (fun v h1 => zG d 716 11 L (zpush v []) h1 Q) := g_cV rfl rfl rfl rfl (Nat.le_of_ble_eq_true rfl) hT
theorem g716_11 : zG d 716 11 (some (.ref a) :: L) st h Q = zG d 716 12 (some (.ref a) :: L) (.ref a :: st) h Q := g_ldA rfl rfl
theorem g716_12 (hT : zT h a = (7, 10)) : zG d 716 12 L (.ref a :: st) h Q = zG d 716 15 L (zR h a 1 :: st) h Q := g_gR rfl hT
theorem g716_15 : zG d 716 15 (l0 :: some (.int x) :: L) st h Q = zG d 716 16 (l0 :: some (.int x) :: L) (.int x :: st) h Q := g_ldI rfl rfl
theorem g716_16 (hT : zT h a = (2, 12)) : zG d 716 16 L (.int x :: .ref a :: st) h Q = zG d 716 19 L st (wI h a 11 x) Q := g_pI rfl hT
theorem g716_19 : zG d 716 19 (some (.ref a) :: L) st h Q = zG d 716 20 (some (.ref a) :: L) (.ref a :: st) h Q := g_ldA rfl rfl
theorem g716_20 (hT : zT h a = (7, 10)) : zG d 716 20 L (.ref a :: st) h Q = zG d 716 23 L (zR h a 1 :: st) h Q := g_gR rfl hT
theorem g716_23 : zG d 716 23 (l0 :: l1 :: some (.int x) :: L) st h Q = zG d 716 24 (l0 :: l1 :: some (.int x) :: L) (.int x :: st) h Q := g_ldI rfl rfl
theorem g716_24 (hT : (zT h a).1 = 2) : zG d 716 24 L [v0, .ref a] h Q = zCall d 210 [.ref a, v0] h (fun v h1 => zG d 716 27 L (zpush v []) h1 Q) := g_cV rfl rfl rfl rfl (Nat.le_of_ble_eq_true rfl) hT
theorem g716_27 : zG d 716 27 (some (.ref a) :: L) st h Q = zG d 716 28 (some (.ref a) :: L) (.ref a :: st) h Q := g_ldA rfl rfl
theorem g716_28 (hT : zT h a = (7, 10)) : zG d 716 28 L (.ref a :: st) h Q = zG d 716 31 L (zR h a 1 :: st) h Q := g_gR rfl hT
theorem g716_31 : zG d 716 31 L st h Q = zG d 716 33 L (.int 10 :: st) h Q := g_c rfl
theorem g716_33 (hT : (zT h a).1 = 2) : zG d 716 33 L [v0, .ref a] h Q = zCall d 208 [.ref a, v0] h (fun v h1 => zG d 716 36 L (zpush v []) h1 Q) := g_cV rfl rfl rfl rfl (Nat.le_of_ble_eq_true rfl) hT
theorem g716_36 : zG d 716 36 L [v0] h Q = zCall d 901 [v0] h (fun v h1 => zG d 716 39 L (zpush v []) h1 Q) := g_cS rfl rfl (Nat.le_of_ble_eq_true rfl) rfl (Nat.le_of_ble_eq_true rfl)
theorem g716_39 : zG d 716 39 L [.int x] h Q = Q (some (.int x)) h := g_rI (ok := fun _ => True) rfl trivial
theorem k716 {x0 : Int32} {x1 : Int32} : zCall (d + 1) 716 [.ref a, .int x0, .int x1] h Q = zG d 716 0 [some (.ref a), some (.int x0), some (.int x1)] [] h Q := zCall_k (Nat.le_of_ble_eq_true rfl) rfl
theorem g717_0 : zG d 717 0 L st h Q = zG d 717 2 L (.int 49 :: st) h Q := g_c rfl
theorem g717_2 : zG d 717 2 (l0 :: l1 :: l2 :: L) (.int x :: st) h Q = zG d 717 3 (l0 :: kl l1 :: some (.int x) :: L) st h Q := g_stI rfl (by simp) rfl
theorem g717_3 : zG d 717 3 (l0 :: l1 :: some (.int x) :: L) st h Q = zG d 717 4 (l0 :: l1 :: some (.int x) :: L) (.int x :: st) h Q := g_ldI rfl rfl
theorem g717_4 : zG d 717 4 L (.int x :: st) h Q = if x < 0 then zG d 717 53 L st h Q else zG d 717 7 L st h Q := g_i1 (P := fun x => x < 0) rfl
theorem g717_7 : zG d 717 7 (some (.ref a) :: L) st h Q = zG d 717 8 (some (.ref a) :: L) (.ref a :: st) h Q := g_ldA rfl rfl
theorem g717_8 (hT : zT h a = (7, 10)) : zG d 717 8 L (.ref a :: st) h Q = zG d 717 11 L (zR h a 1 :: st) h Q := g_gR rfl hT
theorem g717_11 : zG d 717 11 (some (.ref a) :: L) st h Q = zG d 717 12 (some (.ref a) :: L) (.ref a :: st) h Q := g_ldA rfl rfl
theorem g717_12 (hT : zT h a = (7, 10)) : zG d 717 12 L (.ref a :: st) h Q = zG d 717 15 L (zR h a 0 :: st) h Q := g_gR rfl hT
theorem g717_15 (hT : (zT h a).1 = 2) : zG d 717 15 L [v0, .ref a] h Q = zCall d 202 [.ref a, v0] h (fun v h1 => zG d 717 18 L (zpush v []) h1 Q) := g_cV rfl rfl rfl rfl (Nat.le_of_ble_eq_true rfl) hT
theorem g717_18 : zG d 717 18 (some (.ref a) :: L) st h Q = zG d 717 19 (some (.ref a) :: L) (.ref a :: st) h Q := g_ldA rfl rfl
theorem g717_19 (hT : zT h a = (7, 10)) : zG d 717 19 L (.ref a :: st) h Q = zG d 717 22 L (zR h a 1 :: st) h Q := g_gR rfl hT
theorem g717_22 : zG d 717 22 (l0 :: l1 :: some (.int x) :: L) st h Q = zG d 717 23 (l0 :: l1 :: some (.int x) :: L) (.int x :: st) h Q := g_ldI rfl rfl
theorem g717_23 (hT : zT h a = (2, 12)) : zG d 717 23 L (.int x :: .ref a :: st) h Q = zG d 717 26 L st (wI h a 11 x) Q := g_pI rfl hT
theorem g717_26 : zG d 717 26 (some (.ref a) :: L) st h Q = zG d 717 27 (some (.ref a) :: L) (.ref a :: st) h Q := g_ldA rfl rfl
theorem g717_27 (hT : zT h a = (7, 10)) : zG d 717 27 L (.ref a :: st) h Q = zG d 717 30 L (zR h a 1 :: st) h Q := g_gR rfl hT
theorem g717_30 : zG d 717 30 (l0 :: some (.int x) :: L) st h Q = zG d 717 31 (l0 :: some (.int x) :: L) (.int x :: st) h Q := g_ldI rfl rfl
theorem g717_31 (hT : (zT h a).1 = 2) : zG d 717 31 L [v0, .ref a] h Q = zCall d 210 [.ref a, v0] h (fun v h1 => zG d 717 34 L (zpush v []) h1 Q) := g_cV rfl rfl rfl rfl (Nat.le_of_ble_eq_true rfl) hT
theorem g717_34 : zG d 717 34 (some (.ref a) :: L) st h Q = zG d 717 35 (some (.ref a) :: L) (.ref a :: st) h Q := g_ldA rfl rfl
theorem g717_35 (hT : zT h a = (7, 10)) : zG d 717 35 L (.ref a :: st) h Q = zG d 717 38 L (zR h a 1 :: st) h Q := g_gR rfl hT
theorem g717_38 (hT : zT h a = (2, 12)) : zG d 717 38 L (.ref a :: st) h Q = zG d 717 41 L (.int (zI h a 8) :: st) h Q := g_gI rfl hT
theorem g717_41 : zG d 717 41 L st h Q = zG d 717 42 L (.int 1 :: st) h Q := g_c rfl
theorem g717_42 : zG d 717 42 L (.int z :: .int x :: st) h Q = if x < z then zG d 717 47 L st h Q else zG d 717 45 L st h Q := g_i2 (P := fun x z => x < z) rfl
theorem g717_45 : zG d 717 45 (l0 :: l1 :: some (.int x) :: L) st h Q = zG d 717 46 (l0 :: l1 :: some (.int x) :: L) (.int x :: st) h Q := g_ldI rfl rfl
theorem g717_46 : zG d 717 46 L [.int x] h Q = Q (some (.int x)) h := g_rI (ok := fun _ => True) rfl trivial
theorem g717_47 : zG d 717 47 (l0 :: l1 :: some (.int x) :: L) st h Q = zG d 717 50 (l0 :: kl l1 :: some (.int (x + (-1))) :: L) st h Q := g_inc rfl rfl rfl
theorem g717_50 : zG d 717 50 L st h Q = zG d 717 3 L st h Q := g_go rfl
theorem g717_53 : zG d 717 53 L st h Q = zG d 717 55 L (.int (-5) :: st) h Q := g_c rfl
theorem g717_55 : zG d 717 55 L [.int x] h Q = Q (some (.int x)) h := g_rI (ok := fun _ => True) rfl trivial
theorem k717 {x0 : Int32} : zCall (d + 1) 717 [.ref a, .int x0] h Q = zG d 717 0 [some (.ref a), some (.int x0), none] [] h Q := zCall_k (Nat.le_of_ble_eq_true rfl) rfl
theorem g718_0 : zG d 718 0 L st h Q = zG d 718 2 L (.int (-5) :: st) h Q := g_c rfl
theorem g718_2 : zG d 718 2 (l0 :: l1 :: l2 :: L) (.int x :: st) h Q = zG d 718 3 (l0 :: kl l1 :: some (.int x) :: L) st h Q := g_stI rfl (by simp) rfl
theorem g718_3 : zG d 718 3 L st h Q = zG d 718 5 L (.int 7 :: st) h Q := g_c rfl
theorem g718_5 : zG d 718 5 (l0 :: l1 :: l2 :: l3 :: L) (.int x :: st) h Q = zG d 718 6 (l0 :: l1 :: kl l2 :: some (.int x) :: L) st h Q := g_stI rfl (by simp) rfl
theorem g718_6 : zG d 718 6 L st h Q = zG d 718 7 L (.int 0 :: st) h Q := g_c rfl
theorem g718_7 : zG d 718 7 (l0 :: l1 :: l2 :: l3 :: l4 :: L) (.int x :: st) h Q = zG d 718 9 (l0 :: l1 :: l2 :: kl l3 :: some (.int x) :: L) st h Q := g_stI rfl (by simp) rfl
theorem g718_9 : zG d 718 9 (l0 :: l1 :: l2 :: l3 :: some (.int x) :: L) st h Q = zG d 718 11 (l0 :: l1 :: l2 :: l3 :: some (.int x) :: L) (.int x :: st) h Q := g_ldI rfl rfl
theorem g718_11 : zG d 718 11 L st h Q = zG d 718 12 L (.int 1 :: st) h Q := g_c rfl
theorem g718_12 : zG d 718 12 (some (.ref a) :: L) st h Q = zG d 718 13 (some (.ref a) :: L) (.ref a :: st) h Q := g_ldA rfl rfl
theorem g718_13 (hT : zT h a = (7, 10)) : zG d 718 13 L (.ref a :: st) h Q = zG d 718 16 L (zR h a 0 :: st) h Q := g_gR rfl hT
theorem g718_16 (hT : zT h a = (2, 12)) : zG d 718 16 L (.ref a :: st) h Q = zG d 718 19 L (.int (zI h a 7) :: st) h Q := g_gI rfl hT
theorem g718_19 : zG d 718 19 L (.int z :: .int x :: st) h Q = zG d 718 20 L (.int (x <<< (z &&& 31)) :: st) h Q := g_b (f := fun x z => x <<< (z &&& 31)) rfl
theorem g718_20 : zG d 718 20 L (.int z :: .int x :: st) h Q = if z ≤ x then zG d 718 57 L st h Q else zG d 718 23 L st h Q := g_i2 (P := fun x z => z ≤ x) rfl
theorem g718_23 : zG d 718 23 (l0 :: l1 :: l2 :: l3 :: some (.int x) :: L) st h Q = zG d 718 25 (l0 :: l1 :: l2 :: l3 :: some (.int x) :: L) (.int x :: st) h Q := g_ldI rfl rfl
theorem g718_25 : zG d 718 25 L [v0] h Q = zCall d 901 [v0] h (fun v h1 => zG d 718 28 L (zpush v []) h1 Q) := g_cS rfl rfl (Nat.le_of_ble_eq_true rfl) rfl (Nat.le_of_ble_eq_true rfl)
theorem g718_28 : zG d 718 28 (l0 :: l1 :: l2 :: some (.int x) :: L) st h Q = zG d 718 29 (l0 :: l1 :: l2 :: some (.int x) :: L) (.int x :: st) h Q := g_ldI rfl rfl
theorem g718_29 : zG d 718 29 L (.int z :: .int x :: st) h Q = if z ≤ x then zG d 718 51 L st h Q else zG d 718 32 L st h Q := g_i2 (P := fun x z => z ≤ x) rfl
theorem g718_32 : zG d 718 32 (some (.ref a) :: L) st h Q = zG d 718 33 (some (.ref a) :: L) (.ref a :: st) h Q := g_ldA rfl rfl
theorem g718_33 : zG d 718 33 (l0 :: l1 :: l2 :: l3 :: some (.int x) :: L) st h Q = zG d 718 35 (l0 :: l1 :: l2 :: l3 :: some (.int x) :: L) (.int x :: st) h Q := g_ldI rfl rfl
theorem g718_35 : zG d 718 35 (l0 :: some (.int x) :: L) st h Q = zG d 718 36 (l0 :: some (.int x) :: L) (.int x :: st) h Q := g_ldI rfl rfl
theorem g718_36 (hT : (zT h a).1 = 7) : zG d 718 36 L [v1, v0, .ref a] h Q = zCall d 719 [.ref a, v0, v1] h (fun v h1 => zG d 718 39 L (zpush v []) h1 Q) := g_cV rfl rfl rfl rfl (Nat.le_of_ble_eq_true rfl) hT
theorem g718_39 : zG d 718 39 L (.int x :: st) h Q = if x = 0 then zG d 718 51 L st h Q else zG d 718 42 L st h Q := g_i1 (P := fun x => x = 0) rfl
theorem g718_42 : zG d 718 42 (l0 :: l1 :: l2 :: l3 :: some (.int x) :: L) st h Q = zG d 718 44 (l0 :: l1 :: l2 :: l3 :: some (.int x) :: L) (.int x :: st) h Q := g_ldI rfl rfl
theorem g718_44 : zG d 718 44 L [v0] h Q = zCall d 901 [v0] h (fun v h1 => zG d 718 47 L (zpush v []) h1 Q) := g_cS rfl rfl (Nat.le_of_ble_eq_true rfl) rfl (Nat.le_of_ble_eq_true rfl)
theorem g718_47 : zG d 718 47 (l0 :: l1 :: l2 :: l3 :: L) (.int x :: st) h Q = zG d 718 48 (l0 :: l1 :: kl l2 :: some (.int x) :: L) st h Q := g_stI rfl (by simp) rfl
theorem g718_48 : zG d 718 48 (l0 :: l1 :: l2 :: l3 :: some (.int x) :: L) st h Q = zG d 718 50 (l0 :: l1 :: l2 :: l3 :: some (.int x) :: L) (.int x :: st) h Q := g_ldI rfl rfl
theorem g718_50 : zG d 718 50 (l0 :: l1 :: l2 :: L) (.int x :: st) h Q = zG d 718 51 (l0 :: kl l1 :: some (.int x) :: L) st h Q := g_stI rfl (by simp) rfl
theorem g718_51 : zG d 718 51 (l0 :: l1 :: l2 :: l3 :: some (.int x) :: L) st h Q = zG d 718 54 (l0 :: l1 :: l2 :: kl l3 :: some (.int (x + 1)) :: L) st h Q := g_inc rfl rfl rfl
theorem g718_54 : zG d 718 54 L st h Q = zG d 718 9 L st h Q := g_go rfl
theorem g718_57 : zG d 718 57 (l0 :: l1 :: some (.int x) :: L) st h Q = zG d 718 58 (l0 :: l1 :: some (.int x) :: L) (.int x :: st) h Q := g_ldI rfl rfl
theorem g718_58 : zG d 718 58 L [.int x] h Q = Q (some (.int x)) h := g_rI (ok := fun _ => True) rfl trivial
theorem k718 {x0 : Int32} : zCall (d + 1) 718 [.ref a, .int x0] h Q = zG d 718 0 [some (.ref a), some (.int x0), none, none, none] [] h Q := zCall_k (Nat.le_of_ble_eq_true rfl) rfl
theorem g719_0 : zG d 719 0 (some (.ref a) :: L) st h Q = zG d 719 1 (some (.ref a) :: L) (.ref a :: st) h Q := g_ldA rfl rfl
theorem g719_1 (hT : zT h a = (7, 10)) : zG d 719 1 L (.ref a :: st) h Q = zG d 719 4 L (zR h a 1 :: st) h Q := g_gR rfl hT
theorem g719_4 : zG d 719 4 (some (.ref a) :: L) st h Q = zG d 719 5 (some (.ref a) :: L) (.ref a :: st) h Q := g_ldA rfl rfl
theorem g719_5 (hT : zT h a = (7, 10)) : zG d 719 5 L (.ref a :: st) h Q = zG d 719 8 L (zR h a 0 :: st) h Q := g_gR rfl hT
theorem g719_8 (hT : (zT h a).1 = 2) : zG d 719 8 L [v0, .ref a] h Q = zCall d 202 [.ref a, v0] h (fun v h1 => zG d 719 11 L (zpush v []) h1 Q) := g_cV rfl rfl rfl rfl (Nat.le_of_ble_eq_true rfl) hT
theorem g719_11 : zG d 719 11 L st h Q = zG d 719 12 L (.int 0 :: st) h Q := g_c rfl
theorem g719_12 : zG d 719 12 (l0 :: l1 :: l2 :: l3 :: L) (.int x :: st) h Q = zG d 719 13 (l0 :: l1 :: kl l2 :: some (.int x) :: L) st h Q := g_stI rfl (by simp) rfl
theorem g719_13 : zG d 719 13 (l0 :: l1 :: l2 :: some (.int x) :: L) st h Q = zG d 719 14 (l0 :: l1 :: l2 :: some (.int x) :: L) (.int x :: st) h Q := g_ldI rfl rfl
theorem g719_14 : zG d 719 14 (some (.ref a) :: L) st h Q = zG d 719 15 (some (.ref a) :: L) (.ref a :: st) h Q := g_ldA rfl rfl
theorem g719_15 (hT : zT h a = (7, 10)) : zG d 719 15 L (.ref a :: st) h Q = zG d 719 18 L (zR h a 1 :: st) h Q := g_gR rfl hT
theorem g719_18 (hT : zT h a = (2, 12)) : zG d 719 18 L (.ref a :: st) h Q = zG d 719 21 L (.int (zI h a 7) :: st) h Q := g_gI rfl hT
theorem g719_21 : zG d 719 21 L (.int z :: .int x :: st) h Q = if z ≤ x then zG d 719 49 L st h Q else zG d 719 24 L st h Q := g_i2 (P := fun x z => z ≤ x) rfl
theorem g719_24 : zG d 719 24 (l0 :: some (.int x) :: L) st h Q = zG d 719 25 (l0 :: some (.int x) :: L) (.int x :: st) h Q := g_ldI rfl rfl
theorem g719_25 : zG d 719 25 (l0 :: l1 :: l2 :: some (.int x) :: L) st h Q = zG d 719 26 (l0 :: l1 :: l2 :: some (.int x) :: L) (.int x :: st) h Q := g_ldI rfl rfl
theorem g719_26 : zG d 719 26 L (.int z :: .int x :: st) h Q = zG d 719 27 L (.int (x >>> (z &&& 31)) :: st) h Q := g_b (f := fun x z => x >>> (z &&& 31)) rfl
theorem g719_27 : zG d 719 27 L st h Q = zG d 719 28 L (.int 1 :: st) h Q := g_c rfl
theorem g719_28 : zG d 719 28 L (.int z :: .int x :: st) h Q = zG d 719 29 L (.int (x &&& z) :: st) h Q := g_b (f := fun x z => x &&& z) rfl
theorem g719_29 : zG d 719 29 L st h Q = zG d 719 30 L (.int 1 :: st) h Q := g_c rfl
theorem g719_30 : zG d 719 30 L (.int z :: .int x :: st) h Q = if ¬ x = z then zG d 719 43 L st h Q else zG d 719 33 L st h Q := g_i2 (P := fun x z => ¬ x = z) rfl
theorem g719_33 : zG d 719 33 (some (.ref a) :: L) st h Q = zG d 719 34 (some (.ref a) :: L) (.ref a :: st) h Q := g_ldA rfl rfl
theorem g719_34 (hT : zT h a = (7, 10)) : zG d 719 34 L (.ref a :: st) h Q = zG d 719 37 L (zR h a 1 :: st) h Q := g_gR rfl hT
theorem g719_37 (hT : zT h a = (2, 12)) : zG d 719 37 L (.ref a :: st) h Q = zG d 719 40 L (zR h a 2 :: st) h Q := g_gR rfl hT
theorem g719_40 : zG d 719 40 (l0 :: l1 :: l2 :: some (.int x) :: L) st h Q = zG d 719 41 (l0 :: l1 :: l2 :: some (.int x) :: L) (.int x :: st) h Q := g_ldI rfl rfl
theorem g719_41 : zG d 719 41 L st h Q = zG d 719 42 L (.int 0 :: st) h Q := g_c rfl
theorem g719_42 (hT : (zT h b).1 = 20) (hi : zin i (zT h b).2) : zG d 719 42 L (.int x :: .int i :: .ref b :: st) h Q = zG d 719 43 L st (wI h b i.toNatClampNeg (x)) Q := g_is (f1 := fun x => x) rfl hT hi
theorem g719_43 : zG d 719 43 (l0 :: l1 :: l2 :: some (.int x) :: L) st h Q = zG d 719 46 (l0 :: l1 :: kl l2 :: some (.int (x + 1)) :: L) st h Q := g_inc rfl rfl rfl
theorem g719_46 : zG d 719 46 L st h Q = zG d 719 13 L st h Q := g_go rfl
theorem g719_49 : zG d 719 49 (some (.ref a) :: L) st h Q = zG d 719 50 (some (.ref a) :: L) (.ref a :: st) h Q := g_ldA rfl rfl
theorem g719_50 (hT : zT h a = (7, 10)) : zG d 719 50 L (.ref a :: st) h Q = zG d 719 53 L (zR h a 1 :: st) h Q := g_gR rfl hT
theorem g719_53 : zG d 719 53 (l0 :: l1 :: some (.int x) :: L) st h Q = zG d 719 54 (l0 :: l1 :: some (.int x) :: L) (.int x :: st) h Q := g_ldI rfl rfl
theorem g719_54 (hT : (zT h a).1 = 2) : zG d 719 54 L [v0, .ref a] h Q = zCall d 210 [.ref a, v0] h (fun v h1 => zG d 719 57 L (zpush v []) h1 Q) := g_cV rfl rfl rfl rfl (Nat.le_of_ble_eq_true rfl) hT
theorem g719_57 : zG d 719 57 (some (.ref a) :: L) st h Q = zG d 719 58 (some (.ref a) :: L) (.ref a :: st) h Q := g_ldA rfl rfl
theorem g719_58 (hT : zT h a = (7, 10)) : zG d 719 58 L (.ref a :: st) h Q = zG d 719 61 L (zR h a 1 :: st) h Q := g_gR rfl hT
theorem g719_61 : zG d 719 61 L st h Q = zG d 719 63 L (.int 10 :: st) h Q := g_c rfl
theorem g719_63 (hT : (zT h a).1 = 2) : zG d 719 63 L [v0, .ref a] h Q = zCall d 208 [.ref a, v0] h (fun v h1 => zG d 719 66 L (zpush v []) h1 Q) := g_cV rfl rfl rfl rfl (Nat.le_of_ble_eq_true rfl) hT
theorem g719_66 : zG d 719 66 L (.int x :: st) h Q = if ¬ x = 0 then zG d 719 73 L st h Q else zG d 719 69 L st h Q := g_i1 (P := fun x => ¬ x = 0) rfl
theorem g719_69 : zG d 719 69 L st h Q = zG d 719 70 L (.int 1 :: st) h Q := g_c rfl
theorem g719_70 : zG d 719 70 L st h Q = zG d 719 74 L st h Q := g_go rfl
theorem g719_73 : zG d 719 73 L st h Q = zG d 719 74 L (.int 0 :: st) h Q := g_c rfl
theorem g719_74 (hx : x = 0 ∨ x = 1) : zG d 719 74 L [.int x] h Q = Q (some (.int x)) h := g_rI (ok := fun x => x = 0 ∨ x = 1) rfl hx
theorem k719 {x0 : Int32} {x1 : Int32} : zCall (d + 1) 719 [.ref a, .int x0, .int x1] h Q = zG d 719 0 [some (.ref a), some (.int x0), some (.int x1), none] [] h Q := zCall_k (Nat.le_of_ble_eq_true rfl) rfl
theorem g720_0 : zG d 720 0 (l0 :: some (.int x) :: L) st h Q = zG d 720 1 (l0 :: some (.int x) :: L) (.int x :: st) h Q := g_ldI rfl rfl
theorem g720_1 : zG d 720 1 L st h Q = zG d 720 2 L (.int (-1) :: st) h Q := g_c rfl
theorem g720_2 : zG d 720 2 L (.int z :: .int x :: st) h Q = if ¬ x = z then zG d 720 16 L st h Q else zG d 720 5 L st h Q := g_i2 (P := fun x z => ¬ x = z) rfl
theorem g720_5 : zG d 720 5 (some (.ref a) :: L) st h Q = zG d 720 6 (some (.ref a) :: L) (.ref a :: st) h Q := g_ldA rfl rfl
theorem g720_6 (hT : zT h a = (7, 10)) : zG d 720 6 L (.ref a :: st) h Q = zG d 720 9 L (zR h a 3 :: st) h Q := g_gR rfl hT
theorem g720_9 (hT : zT h a = (1, 3)) : zG d 720 9 L (.ref a :: st) h Q = zG d 720 12 L (zR h a 0 :: st) h Q := g_gR rfl hT
theorem g720_12 (hT : (zT h a).1 = 3) : zG d 720 12 L [.ref a] h Q = zCall d 302 [.ref a] h (fun v h1 => zG d 720 15 L (zpush v []) h1 Q) := g_cV rfl rfl rfl rfl (Nat.le_of_ble_eq_true rfl) hT
theorem g720_15 : zG d 720 15 L [.int x] h Q = Q (some (.int x)) h := g_rI (ok := fun _ => True) rfl trivial
theorem g720_16 : zG d 720 16 (some (.ref a) :: L) st h Q = zG d 720 17 (some (.ref a) :: L) (.ref a :: st) h Q := g_ldA rfl rfl
theorem g720_17 : zG d 720 17 (l0 :: some (.int x) :: L) st h Q = zG d 720 18 (l0 :: some (.int x) :: L) (.int x :: st) h Q := g_ldI rfl rfl
theorem g720_18 (hT : (zT h a).1 = 7) : zG d 720 18 L [v0, .ref a] h Q = zCall d 743 [.ref a, v0] h (fun v h1 => zG d 720 21 L (zpush v []) h1 Q) := g_cV rfl rfl rfl rfl (Nat.le_of_ble_eq_true rfl) hT
theorem g720_21 : zG d 720 21 L (.int x :: st) h Q = if x = 0 then zG d 720 33 L st h Q else zG d 720 24 L st h Q := g_i1 (P := fun x => x = 0) rfl
theorem g720_24 : zG d 720 24 (l0 :: l1 :: l2 :: some (.int x) :: L) st h Q = zG d 720 25 (l0 :: l1 :: l2 :: some (.int x) :: L) (.int x :: st) h Q := g_ldI rfl rfl
theorem g720_25 : zG d 720 25 L st h Q = zG d 720 27 L (.int 10 :: st) h Q := g_c rfl
theorem g720_27 : zG d 720 27 L [v1, v0] h Q = zCall d 744 [v0, v1] h (fun v h1 => zG d 720 30 L (zpush v []) h1 Q) := g_cS rfl rfl (Nat.le_of_ble_eq_true rfl) rfl (Nat.le_of_ble_eq_true rfl)
theorem g720_30 : zG d 720 30 L (.int x :: st) h Q = if ¬ x = 0 then zG d 720 35 L st h Q else zG d 720 33 L st h Q := g_i1 (P := fun x => ¬ x = 0) rfl
theorem g720_33 : zG d 720 33 L st h Q = zG d 720 34 L (.int (-1) :: st) h Q := g_c rfl
theorem g720_34 : zG d 720 34 L [.int x] h Q = Q (some (.int x)) h := g_rI (ok := fun _ => True) rfl trivial
theorem g720_35 : zG d 720 35 (l0 :: l1 :: some (.int x) :: L) st h Q = zG d 720 36 (l0 :: l1 :: some (.int x) :: L) (.int x :: st) h Q := g_ldI rfl rfl
theorem g720_36 : zG d 720 36 L st h Q = zG d 720 38 L (.int 12 :: st) h Q := g_c rfl
theorem g720_38 : zG d 720 38 L [v1, v0] h Q = zCall d 744 [v0, v1] h (fun v h1 => zG d 720 41 L (zpush v []) h1 Q) := g_cS rfl rfl (Nat.le_of_ble_eq_true rfl) rfl (Nat.le_of_ble_eq_true rfl)
theorem g720_41 : zG d 720 41 L (.int x :: st) h Q = if ¬ x = 0 then zG d 720 47 L st h Q else zG d 720 44 L st h Q := g_i1 (P := fun x => ¬ x = 0) rfl
theorem g720_44 : zG d 720 44 L st h Q = zG d 720 46 L (.int (-2) :: st) h Q := g_c rfl
theorem g720_46 : zG d 720 46 L [.int x] h Q = Q (some (.int x)) h := g_rI (ok := fun _ => True) rfl trivial
theorem g720_47 : zG d 720 47 (some (.ref a) :: L) st h Q = zG d 720 48 (some (.ref a) :: L) (.ref a :: st) h Q := g_ldA rfl rfl
theorem g720_48 (hT : zT h a = (7, 10)) : zG d 720 48 L (.ref a :: st) h Q = zG d 720 51 L (zR h a 3 :: st) h Q := g_gR rfl hT
theorem g720_51 (hT : zT h a = (1, 3)) : zG d 720 51 L (.ref a :: st) h Q = zG d 720 54 L (zR h a 0 :: st) h Q := g_gR rfl hT
theorem g720_54 : zG d 720 54 (l0 :: some (.int x) :: L) st h Q = zG d 720 55 (l0 :: some (.int x) :: L) (.int x :: st) h Q := g_ldI rfl rfl
theorem g720_55 : zG d 720 55 (l0 :: l1 :: some (.int x) :: L) st h Q = zG d 720 56 (l0 :: l1 :: some (.int x) :: L) (.int x :: st) h Q := g_ldI rfl rfl
theorem g720_56 : zG d 720 56 (l0 :: l1 :: l2 :: some (.int x) :: L) st h Q = zG d 720 57 (l0 :: l1 :: l2 :: some (.int x) :: L) (.int x :: st) h Q := g_ldI rfl rfl
theorem g720_57 (hT : (zT h a).1 = 3) : zG d 720 57 L [v2, v1, v0, .ref a] h Q = zCall d 303 [.ref a, v0, v1, v2] h (fun v h1 => zG d 720 60 L (zpush v []) h1 Q) := g_cV rfl rfl rfl rfl (Nat.le_of_ble_eq_true rfl) hT
theorem g720_60 : zG d 720 60 L [.int x] h Q = Q (some (.int x)) h := g_rI (ok := fun _ => True) rfl trivial
theorem k720 {x0 : Int32} {x1 : Int32} {x2 : Int32} : zCall (d + 1) 720 [.ref a, .int x0, .int x1, .int x2] h Q = zG d 720 0 [some (.ref a), some (.int x0), some (.int x1), some (.int x2)] [] h Q := zCall_k (Nat.le_of_ble_eq_true rfl) rfl
theorem g721_0 : zG d 721 0 (some (.ref a) :: L) st h Q = zG d 721 1 (some (.ref a) :: L) (.ref a :: st) h Q := g_ldA rfl rfl
theorem g721_1 : zG d 721 1 (l0 :: some (.int x) :: L) st h Q = zG d 721 2 (l0 :: some (.int x) :: L) (.int x :: st) h Q := g_ldI rfl rfl
theorem g721_2 (hT : (zT h a).1 = 7) : zG d 721 2 L [v0, .ref a] h Q = zCall d 743 [.ref a, v0] h (fun v h1 => zG d 721 5 L (zpush v []) h1 Q) := g_cV rfl rfl rfl rfl (Nat.le_of_ble_eq_true rfl) hT
theorem g721_5 : zG d 721 5 L (.int x :: st) h Q = if x = 0 then zG d 721 24 L st h Q else zG d 721 8 L st h Q := g_i1 (P := fun x => x = 0) rfl
theorem g721_8 : zG d 721 8 (l0 :: l1 :: some (.int x) :: L) st h Q = zG d 721 9 (l0 :: l1 :: some (.int x) :: L) (.int x :: st) h Q := g_ldI rfl rfl
theorem g721_9 : zG d 721 9 L st h Q = zG d 721 10 L (.int 1 :: st) h Q := g_c rfl
theorem g721_10 : zG d 721 10 L [v1, v0] h Q = zCall d 744 [v0, v1] h (fun v h1 => zG d 721 13 L (zpush v []) h1 Q) := g_cS rfl rfl (Nat.le_of_ble_eq_true rfl) rfl (Nat.le_of_ble_eq_true rfl)
theorem g721_13 : zG d 721 13 L (.int x :: st) h Q = if x = 0 then zG d 721 24 L st h Q else zG d 721 16 L st h Q := g_i1 (P := fun x => x = 0) rfl
theorem g721_16 : zG d 721 16 (l0 :: l1 :: l2 :: some (.int x) :: L) st h Q = zG d 721 17 (l0 :: l1 :: l2 :: some (.int x) :: L) (.int x :: st) h Q := g_ldI rfl rfl
theorem g721_17 : zG d 721 17 L st h Q = zG d 721 18 L (.int 1 :: st) h Q := g_c rfl
theorem g721_18 : zG d 721 18 L [v1, v0] h Q = zCall d 744 [v0, v1] h (fun v h1 => zG d 721 21 L (zpush v []) h1 Q) := g_cS rfl rfl (Nat.le_of_ble_eq_true rfl) rfl (Nat.le_of_ble_eq_true rfl)
theorem g721_21 : zG d 721 21 L (.int x :: st) h Q = if ¬ x = 0 then zG d 721 26 L st h Q else zG d 721 24 L st h Q := g_i1 (P := fun x => ¬ x = 0) rfl
theorem g721_24 : zG d 721 24 L st h Q = zG d 721 25 L (.int (-1) :: st) h Q := g_c rfl
theorem g721_25 : zG d 721 25 L [.int x] h Q = Q (some (.int x)) h := g_rI (ok := fun _ => True) rfl trivial
theorem g721_26 : zG d 721 26 (l0 :: l1 :: some (.int x) :: L) st h Q = zG d 721 27 (l0 :: l1 :: some (.int x) :: L) (.int x :: st) h Q := g_ldI rfl rfl
theorem g721_27 : zG d 721 27 L (.int x :: st) h Q = if ¬ x = 0 then zG d 721 35 L st h Q else zG d 721 30 L st h Q := g_i1 (P := fun x => ¬ x = 0) rfl
theorem g721_30 : zG d 721 30 L st h Q = zG d 721 32 L (.int 99 :: st) h Q := g_c rfl
theorem g721_32 : zG d 721 32 L st h Q = zG d 721 37 L st h Q := g_go rfl
theorem g721_35 : zG d 721 35 L st h Q = zG d 721 37 L (.int 9 :: st) h Q := g_c rfl
theorem g721_37 : zG d 721 37 (l0 :: l1 :: l2 :: l3 :: l4 :: L) (.int x :: st) h Q = zG d 721 39 (l0 :: l1 :: l2 :: kl l3 :: some (.int x) :: L) st h Q := g_stI rfl (by simp) rfl
theorem g721_39 : zG d 721 39 L st h Q = zG d 721 40 L (.int 0 :: st) h Q := g_c rfl
theorem g721_40 : zG d 721 40 (l0 :: l1 :: l2 :: l3 :: l4 :: l5 :: L) (.int x :: st) h Q = zG d 721 42 (l0 :: l1 :: l2 :: l3 :: kl l4 :: some (.int x) :: L) st h Q := g_stI rfl (by simp) rfl
theorem g721_42 : zG d 721 42 L st h Q = zG d 721 44 L (.int (-5) :: st) h Q := g_c rfl
theorem g721_44 : zG d 721 44 (l0 :: l1 :: l2 :: l3 :: l4 :: l5 :: l6 :: L) (.int x :: st) h Q = zG d 721 46 (l0 :: l1 :: l2 :: l3 :: l4 :: kl l5 :: some (.int x) :: L) st h Q := g_stI rfl (by simp) rfl
theorem g721_46 : zG d 721 46 (l0 :: l1 :: l2 :: l3 :: some (.int x) :: L) st h Q = zG d 721 48 (l0 :: l1 :: l2 :: l3 :: some (.int x) :: L) (.int x :: st) h Q := g_ldI rfl rfl
theorem g721_48 : zG d 721 48 (l0 :: l1 :: l2 :: l3 :: l4 :: l5 :: l6 :: l7 :: L) (.int x :: st) h Q = zG d 721 50 (l0 :: l1 :: l2 :: l3 :: l4 :: l5 :: kl l6 :: some (.int x) :: L) st h Q := g_stI rfl (by simp) rfl
theorem g721_50 : zG d 721 50 (l0 :: l1 :: l2 :: l3 :: l4 :: l5 :: l6 :: some (.int x) :: L) st h Q = zG d 721 52 (l0 :: l1 :: l2 :: l3 :: l4 :: l5 :: l6 :: some (.int x) :: L) (.int x :: st) h Q := g_ldI rfl rfl
theorem g721_52 : zG d 721 52 L (.int x :: st) h Q = if x < 0 then zG d 721 115 L st h Q else zG d 721 55 L st h Q := g_i1 (P := fun x => x < 0) rfl
theorem g721_55 : zG d 721 55 (some (.ref a) :: L) st h Q = zG d 721 56 (some (.ref a) :: L) (.ref a :: st) h Q := g_ldA rfl rfl
theorem g721_56 (hT : zT h a = (7, 10)) : zG d 721 56 L (.ref a :: st) h Q = zG d 721 59 L (zR h a 1 :: st) h Q := g_gR rfl hT
theorem g721_59 : zG d 721 59 (some (.ref a) :: L) st h Q = zG d 721 60 (some (.ref a) :: L) (.ref a :: st) h Q := g_ldA rfl rfl
theorem g721_60 (hT : zT h a = (7, 10)) : zG d 721 60 L (.ref a :: st) h Q = zG d 721 63 L (zR h a 0 :: st) h Q := g_gR rfl hT
theorem g721_63 (hT : (zT h a).1 = 2) : zG d 721 63 L [v0, .ref a] h Q = zCall d 202 [.ref a, v0] h (fun v h1 => zG d 721 66 L (zpush v []) h1 Q) := g_cV rfl rfl rfl rfl (Nat.le_of_ble_eq_true rfl) hT
theorem g721_66 : zG d 721 66 (l0 :: l1 :: some (.int x) :: L) st h Q = zG d 721 67 (l0 :: l1 :: some (.int x) :: L) (.int x :: st) h Q := g_ldI rfl rfl
theorem g721_67 : zG d 721 67 L (.int x :: st) h Q = if ¬ x = 0 then zG d 721 84 L st h Q else zG d 721 70 L st h Q := g_i1 (P := fun x => ¬ x = 0) rfl
theorem g721_70 : zG d 721 70 (some (.ref a) :: L) st h Q = zG d 721 71 (some (.ref a) :: L) (.ref a :: st) h Q := g_ldA rfl rfl
theorem g721_71 (hT : zT h a = (7, 10)) : zG d 721 71 L (.ref a :: st) h Q = zG d 721 74 L (zR h a 1 :: st) h Q := g_gR rfl hT
theorem g721_74 (hT : zT h a = (2, 12)) : zG d 721 74 L (.ref a :: st) h Q = zG d 721 77 L (zR h a 2 :: st) h Q := g_gR rfl hT
theorem g721_77 : zG d 721 77 (l0 :: some (.int x) :: L) st h Q = zG d 721 78 (l0 :: some (.int x) :: L) (.int x :: st) h Q := g_ldI rfl rfl
theorem g721_78 : zG d 721 78 (l0 :: l1 :: l2 :: l3 :: l4 :: l5 :: l6 :: some (.int x) :: L) st h Q = zG d 721 80 (l0 :: l1 :: l2 :: l3 :: l4 :: l5 :: l6 :: some (.int x) :: L) (.int x :: st) h Q := g_ldI rfl rfl
theorem g721_80 (hT : (zT h b).1 = 20) (hi : zin i (zT h b).2) : zG d 721 80 L (.int x :: .int i :: .ref b :: st) h Q = zG d 721 81 L st (wI h b i.toNatClampNeg (x)) Q := g_is (f1 := fun x => x) rfl hT hi
theorem g721_81 : zG d 721 81 L st h Q = zG d 721 95 L st h Q := g_go rfl
theorem g721_84 : zG d 721 84 (some (.ref a) :: L) st h Q = zG d 721 85 (some (.ref a) :: L) (.ref a :: st) h Q := g_ldA rfl rfl
theorem g721_85 (hT : zT h a = (7, 10)) : zG d 721 85 L (.ref a :: st) h Q = zG d 721 88 L (zR h a 1 :: st) h Q := g_gR rfl hT
theorem g721_88 (hT : zT h a = (2, 12)) : zG d 721 88 L (.ref a :: st) h Q = zG d 721 91 L (zR h a 1 :: st) h Q := g_gR rfl hT
theorem g721_91 : zG d 721 91 (l0 :: some (.int x) :: L) st h Q = zG d 721 92 (l0 :: some (.int x) :: L) (.int x :: st) h Q := g_ldI rfl rfl
theorem g721_92 : zG d 721 92 (l0 :: l1 :: l2 :: l3 :: l4 :: l5 :: l6 :: some (.int x) :: L) st h Q = zG d 721 94 (l0 :: l1 :: l2 :: l3 :: l4 :: l5 :: l6 :: some (.int x) :: L) (.int x :: st) h Q := g_ldI rfl rfl
theorem g721_94 (hT : (zT h b).1 = 20) (hi : zin i (zT h b).2) : zG d 721 94 L (.int x :: .int i :: .ref b :: st) h Q = zG d 721 95 L st (wI h b i.toNatClampNeg (x)) Q := g_is (f1 := fun x => x) rfl hT hi
theorem g721_95 : zG d 721 95 (some (.ref a) :: L) st h Q = zG d 721 96 (some (.ref a) :: L) (.ref a :: st) h Q := g_ldA rfl rfl
theorem g721_96 (hT : (zT h a).1 = 7) : zG d 721 96 L [.ref a] h Q = zCall d 723 [.ref a] h (fun v h1 => zG d 721 99 L (zpush v []) h1 Q) := g_cV rfl rfl rfl rfl (Nat.le_of_ble_eq_true rfl) hT
theorem g721_99 : zG d 721 99 L (.int x :: st) h Q = if x = 0 then zG d 721 109 L st h Q else zG d 721 102 L st h Q := g_i1 (P := fun x => x = 0) rfl
theorem g721_102 : zG d 721 102 (l0 :: l1 :: l2 :: l3 :: l4 :: some (.int x) :: L) st h Q = zG d 721 105 (l0 :: l1 :: l2 :: l3 :: kl l4 :: some (.int (x + 1)) :: L) st h Q := g_inc rfl rfl rfl
theorem g721_105 : zG d 721 105 (l0 :: l1 :: l2 :: l3 :: l4 :: l5 :: l6 :: some (.int x) :: L) st h Q = zG d 721 107 (l0 :: l1 :: l2 :: l3 :: l4 :: l5 :: l6 :: some (.int x) :: L) (.int x :: st) h Q := g_ldI rfl rfl
theorem g721_107 : zG d 721 107 (l0 :: l1 :: l2 :: l3 :: l4 :: l5 :: l6 :: L) (.int x :: st) h Q = zG d 721 109 (l0 :: l1 :: l2 :: l3 :: l4 :: kl l5 :: some (.int x) :: L) st h Q := g_stI rfl (by simp) rfl
theorem g721_109 : zG d 721 109 (l0 :: l1 :: l2 :: l3 :: l4 :: l5 :: l6 :: some (.int x) :: L) st h Q = zG d 721 112 (l0 :: l1 :: l2 :: l3 :: l4 :: l5 :: kl l6 :: some (.int (x + (-1))) :: L) st h Q := g_inc rfl rfl rfl
theorem g721_112 : zG d 721 112 L st h Q = zG d 721 50 L st h Q := g_go rfl
theorem g721_115 : zG d 721 115 (l0 :: l1 :: l2 :: some (.int x) :: L) st h Q = zG d 721 116 (l0 :: l1 :: l2 :: some (.int x) :: L) (.int x :: st) h Q := g_ldI rfl rfl
theorem g721_116 : zG d 721 116 L (.int x :: st) h Q = if ¬ x = 0 then zG d 721 124 L st h Q else zG d 721 119 L st h Q := g_i1 (P := fun x => ¬ x = 0) rfl
theorem g721_119 : zG d 721 119 (l0 :: l1 :: l2 :: l3 :: l4 :: some (.int x) :: L) st h Q = zG d 721 121 (l0 :: l1 :: l2 :: l3 :: l4 :: some (.int x) :: L) (.int x :: st) h Q := g_ldI rfl rfl
theorem g721_121 : zG d 721 121 L st h Q = zG d 721 126 L st h Q := g_go rfl
theorem g721_124 : zG d 721 124 (l0 :: l1 :: l2 :: l3 :: l4 :: l5 :: some (.int x) :: L) st h Q = zG d 721 126 (l0 :: l1 :: l2 :: l3 :: l4 :: l5 :: some (.int x) :: L) (.int x :: st) h Q := g_ldI rfl rfl
theorem g721_126 : zG d 721 126 L [.int x] h Q = Q (some (.int x)) h := g_rI (ok := fun _ => True) rfl trivial
theorem k721 {x0 : Int32} {x1 : Int32} {x2 : Int32} : zCall (d + 1) 721 [.ref a, .int x0, .int x1, .int x2] h Q = zG d 721 0 [some (.ref a), some (.int x0), some (.int x1), some (.int x2), none, none, none, none] [] h Q := zCall_k (Nat.le_of_ble_eq_true rfl) rfl
theorem g722_0 : zG d 722 0 (some (.ref a) :: L) st h Q = zG d 722 1 (some (.ref a) :: L) (.ref a :: st) h Q := g_ldA rfl rfl
theorem g722_1 : zG d 722 1 (l0 :: some (.int x) :: L) st h Q = zG d 722 2 (l0 :: some (.int x) :: L) (.int x :: st) h Q := g_ldI rfl rfl
theorem g722_2 (hT : (zT h a).1 = 7) : zG d 722 2 L [v0, .ref a] h Q = zCall d 743 [.ref a, v0] h (fun v h1 => zG d 722 5 L (zpush v []) h1 Q) := g_cV rfl rfl rfl rfl (Nat.le_of_ble_eq_true rfl) hT
theorem g722_5 : zG d 722 5 L (.int x :: st) h Q = if ¬ x = 0 then zG d 722 10 L st h Q else zG d 722 8 L st h Q := g_i1 (P := fun x => ¬ x = 0) rfl
theorem g722_8 : zG d 722 8 L st h Q = zG d 722 9 L (.int (-1) :: st) h Q := g_c rfl
theorem g722_9 : zG d 722 9 L [.int x] h Q = Q (some (.int x)) h := g_rI (ok := fun _ => True) rfl trivial
theorem g722_10 : zG d 722 10 L st h Q = zG d 722 11 L (.int 0 :: st) h Q := g_c rfl
theorem g722_11 : zG d 722 11 (l0 :: l1 :: l2 :: L) (.int x :: st) h Q = zG d 722 12 (l0 :: kl l1 :: some (.int x) :: L) st h Q := g_stI rfl (by simp) rfl
theorem g722_12 : zG d 722 12 L st h Q = zG d 722 13 L (.int 0 :: st) h Q := g_c rfl
theorem g722_13 : zG d 722 13 (l0 :: l1 :: l2 :: l3 :: L) (.int x :: st) h Q = zG d 722 14 (l0 :: l1 :: kl l2 :: some (.int x) :: L) st h Q := g_stI rfl (by simp) rfl
theorem g722_14 : zG d 722 14 (l0 :: l1 :: l2 :: some (.int x) :: L) st h Q = zG d 722 15 (l0 :: l1 :: l2 :: some (.int x) :: L) (.int x :: st) h Q := g_ldI rfl rfl
theorem g722_15 : zG d 722 15 L st h Q = zG d 722 17 L (.int 10 :: st) h Q := g_c rfl
theorem g722_17 : zG d 722 17 L (.int z :: .int x :: st) h Q = if z < x then zG d 722 59 L st h Q else zG d 722 20 L st h Q := g_i2 (P := fun x z => z < x) rfl
theorem g722_20 : zG d 722 20 (some (.ref a) :: L) st h Q = zG d 722 21 (some (.ref a) :: L) (.ref a :: st) h Q := g_ldA rfl rfl
theorem g722_21 (hT : zT h a = (7, 10)) : zG d 722 21 L (.ref a :: st) h Q = zG d 722 24 L (zR h a 1 :: st) h Q := g_gR rfl hT
theorem g722_24 : zG d 722 24 (some (.ref a) :: L) st h Q = zG d 722 25 (some (.ref a) :: L) (.ref a :: st) h Q := g_ldA rfl rfl
theorem g722_25 (hT : zT h a = (7, 10)) : zG d 722 25 L (.ref a :: st) h Q = zG d 722 28 L (zR h a 0 :: st) h Q := g_gR rfl hT
theorem g722_28 (hT : (zT h a).1 = 2) : zG d 722 28 L [v0, .ref a] h Q = zCall d 202 [.ref a, v0] h (fun v h1 => zG d 722 31 L (zpush v []) h1 Q) := g_cV rfl rfl rfl rfl (Nat.le_of_ble_eq_true rfl) hT
theorem g722_31 : zG d 722 31 (some (.ref a) :: L) st h Q = zG d 722 32 (some (.ref a) :: L) (.ref a :: st) h Q := g_ldA rfl rfl
theorem g722_32 (hT : zT h a = (7, 10)) : zG d 722 32 L (.ref a :: st) h Q = zG d 722 35 L (zR h a 1 :: st) h Q := g_gR rfl hT
theorem g722_35 : zG d 722 35 (l0 :: some (.int x) :: L) st h Q = zG d 722 36 (l0 :: some (.int x) :: L) (.int x :: st) h Q := g_ldI rfl rfl
theorem g722_36 : zG d 722 36 (l0 :: l1 :: l2 :: some (.int x) :: L) st h Q = zG d 722 37 (l0 :: l1 :: l2 :: some (.int x) :: L) (.int x :: st) h Q := g_ldI rfl rfl
theorem g722_37 (hT : (zT h a).1 = 2) : zG d 722 37 L [v1, v0, .ref a] h Q = zCall d 204 [.ref a, v0, v1] h (fun v h1 => zG d 722 40 L (zpush v []) h1 Q) := g_cV rfl rfl rfl rfl (Nat.le_of_ble_eq_true rfl) hT
theorem g722_40 : zG d 722 40 (some (.ref a) :: L) st h Q = zG d 722 41 (some (.ref a) :: L) (.ref a :: st) h Q := g_ldA rfl rfl
theorem g722_41 (hT : (zT h a).1 = 7) : zG d 722 41 L [.ref a] h Q = zCall d 723 [.ref a] h (fun v h1 => zG d 722 44 L (zpush v []) h1 Q) := g_cV rfl rfl rfl rfl (Nat.le_of_ble_eq_true rfl) hT
theorem g722_44 : zG d 722 44 L (.int x :: st) h Q = if x = 0 then zG d 722 53 L st h Q else zG d 722 47 L st h Q := g_i1 (P := fun x => x = 0) rfl
theorem g722_47 : zG d 722 47 (l0 :: l1 :: some (.int x) :: L) st h Q = zG d 722 48 (l0 :: l1 :: some (.int x) :: L) (.int x :: st) h Q := g_ldI rfl rfl
theorem g722_48 : zG d 722 48 L st h Q = zG d 722 49 L (.int 1 :: st) h Q := g_c rfl
theorem g722_49 : zG d 722 49 (l0 :: l1 :: l2 :: some (.int x) :: L) st h Q = zG d 722 50 (l0 :: l1 :: l2 :: some (.int x) :: L) (.int x :: st) h Q := g_ldI rfl rfl
theorem g722_50 : zG d 722 50 L (.int z :: .int x :: st) h Q = zG d 722 51 L (.int (x <<< (z &&& 31)) :: st) h Q := g_b (f := fun x z => x <<< (z &&& 31)) rfl
theorem g722_51 : zG d 722 51 L (.int z :: .int x :: st) h Q = zG d 722 52 L (.int (x ||| z) :: st) h Q := g_b (f := fun x z => x ||| z) rfl
theorem g722_52 : zG d 722 52 (l0 :: l1 :: l2 :: L) (.int x :: st) h Q = zG d 722 53 (l0 :: kl l1 :: some (.int x) :: L) st h Q := g_stI rfl (by simp) rfl
theorem g722_53 : zG d 722 53 (l0 :: l1 :: l2 :: some (.int x) :: L) st h Q = zG d 722 56 (l0 :: l1 :: kl l2 :: some (.int (x + 1)) :: L) st h Q := g_inc rfl rfl rfl
theorem g722_56 : zG d 722 56 L st h Q = zG d 722 14 L st h Q := g_go rfl
theorem g722_59 : zG d 722 59 (l0 :: l1 :: some (.int x) :: L) st h Q = zG d 722 60 (l0 :: l1 :: some (.int x) :: L) (.int x :: st) h Q := g_ldI rfl rfl
theorem g722_60 : zG d 722 60 L [.int x] h Q = Q (some (.int x)) h := g_rI (ok := fun _ => True) rfl trivial
theorem k722 {x0 : Int32} : zCall (d + 1) 722 [.ref a, .int x0] h Q = zG d 722 0 [some (.ref a), some (.int x0), none, none] [] h Q := zCall_k (Nat.le_of_ble_eq_true rfl) rfl
theorem g723_0 : zG d 723 0 (some (.ref a) :: L) st h Q = zG d 723 1 (some (.ref a) :: L) (.ref a :: st) h Q := g_ldA rfl rfl
theorem g723_1 (hT : zT h a = (7, 10)) : zG d 723 1 L (.ref a :: st) h Q = zG d 723 4 L (zR h a 3 :: st) h Q := g_gR rfl hT
theorem g723_4 (hT : (zT h a).1 = 1) : zG d 723 4 L [.ref a] h Q = zCall d 103 [.ref a] h (fun v h1 => zG d 723 7 L (zpush v []) h1 Q) := g_cV rfl rfl rfl rfl (Nat.le_of_ble_eq_true rfl) hT
theorem g723_7 : zG d 723 7 (l0 :: l1 :: L) (.int x :: st) h Q = zG d 723 8 (kl l0 :: some (.int x) :: L) st h Q := g_stI rfl (by simp) rfl
theorem g723_8 : zG d 723 8 L st h Q = zG d 723 9 L (.int 0 :: st) h Q := g_c rfl
theorem g723_9 : zG d 723 9 (l0 :: l1 :: l2 :: L) (.int x :: st) h Q = zG d 723 10 (l0 :: kl l1 :: some (.int x) :: L) st h Q := g_stI rfl (by simp) rfl
theorem g723_10 : zG d 723 10 (l0 :: l1 :: some (.int x) :: L) st h Q = zG d 723 11 (l0 :: l1 :: some (.int x) :: L) (.int x :: st) h Q := g_ldI rfl rfl
theorem g723_11 : zG d 723 11 (l0 :: some (.int x) :: L) st h Q = zG d 723 12 (l0 :: some (.int x) :: L) (.int x :: st) h Q := g_ldI rfl rfl
theorem g723_12 : zG d 723 12 L (.int z :: .int x :: st) h Q = if z < x then zG d 723 46 L st h Q else zG d 723 15 L st h Q := g_i2 (P := fun x z => z < x) rfl
theorem g723_15 : zG d 723 15 (some (.ref a) :: L) st h Q = zG d 723 16 (some (.ref a) :: L) (.ref a :: st) h Q := g_ldA rfl rfl
theorem g723_16 (hT : zT h a = (7, 10)) : zG d 723 16 L (.ref a :: st) h Q = zG d 723 19 L (zR h a 3 :: st) h Q := g_gR rfl hT
theorem g723_19 : zG d 723 19 (some (.ref a) :: L) st h Q = zG d 723 20 (some (.ref a) :: L) (.ref a :: st) h Q := g_ldA rfl rfl
theorem g723_20 (hT : zT h a = (7, 10)) : zG d 723 20 L (.ref a :: st) h Q = zG d 723 23 L (zR h a 1 :: st) h Q := g_gR rfl hT
theorem g723_23 : zG d 723 23 (l0 :: l1 :: some (.int x) :: L) st h Q = zG d 723 24 (l0 :: l1 :: some (.int x) :: L) (.int x :: st) h Q := g_ldI rfl rfl
theorem g723_24 (hT : (zT h a).1 = 1) : zG d 723 24 L [v1, v0, .ref a] h Q = zCall d 104 [.ref a, v0, v1] h (fun v h1 => zG d 723 27 L (zpush v []) h1 Q) := g_cV rfl rfl rfl rfl (Nat.le_of_ble_eq_true rfl) hT
theorem g723_27 : zG d 723 27 L (.int x :: st) h Q = if x = 0 then zG d 723 32 L st h Q else zG d 723 30 L st h Q := g_i1 (P := fun x => x = 0) rfl
theorem g723_30 : zG d 723 30 L st h Q = zG d 723 31 L (.int 0 :: st) h Q := g_c rfl
theorem g723_31 (hx : x = 0 ∨ x = 1) : zG d 723 31 L [.int x] h Q = Q (some (.int x)) h := g_rI (ok := fun x => x = 0 ∨ x = 1) rfl hx
theorem g723_32 : zG d 723 32 (some (.ref a) :: L) st h Q = zG d 723 33 (some (.ref a) :: L) (.ref a :: st) h Q := g_ldA rfl rfl
theorem g723_33 (hT : zT h a = (7, 10)) : zG d 723 33 L (.ref a :: st) h Q = zG d 723 36 L (zR h a 1 :: st) h Q := g_gR rfl hT
theorem g723_36 : zG d 723 36 L st h Q = zG d 723 37 L (.int 1 :: st) h Q := g_c rfl
theorem g723_37 (hT : (zT h a).1 = 2) : zG d 723 37 L [v0, .ref a] h Q = zCall d 210 [.ref a, v0] h (fun v h1 => zG d 723 40 L (zpush v []) h1 Q) := g_cV rfl rfl rfl rfl (Nat.le_of_ble_eq_true rfl) hT
theorem g723_40 : zG d 723 40 (l0 :: l1 :: some (.int x) :: L) st h Q = zG d 723 43 (l0 :: kl l1 :: some (.int (x + 1)) :: L) st h Q := g_inc rfl rfl rfl
theorem g723_43 : zG d 723 43 L st h Q = zG d 723 10 L st h Q := g_go rfl
theorem g723_46 : zG d 723 46 L st h Q = zG d 723 47 L (.int 1 :: st) h Q := g_c rfl
theorem g723_47 (hx : x = 0 ∨ x = 1) : zG d 723 47 L [.int x] h Q = Q (some (.int x)) h := g_rI (ok := fun x => x = 0 ∨ x = 1) rfl hx
theorem k723  : zCall (d + 1) 723 [.ref a] h Q = zG d 723 0 [some (.ref a), none, none] [] h Q := zCall_k (Nat.le_of_ble_eq_true rfl) rfl
theorem g724_0 : zG d 724 0 (some (.ref a) :: L) st h Q = zG d 724 1 (some (.ref a) :: L) (.ref a :: st) h Q := g_ldA rfl rfl
theorem g724_1 : zG d 724 1 (l0 :: some (.int x) :: L) st h Q = zG d 724 2 (l0 :: some (.int x) :: L) (.int x :: st) h Q := g_ldI rfl rfl
theorem g724_2 (hT : (zT h a).1 = 7) : zG d 724 2 L [v0, .ref a] h Q = zCall d 743 [.ref a, v0] h (fun v h1 => zG d 724 5 L (zpush v []) h1 Q) := g_cV rfl rfl rfl rfl (Nat.le_of_ble_eq_true rfl) hT
theorem g724_5 : zG d 724 5 L (.int x :: st) h Q = if x = 0 then zG d 724 25 L st h Q else zG d 724 8 L st h Q := g_i1 (P := fun x => x = 0) rfl
theorem g724_8 : zG d 724 8 (l0 :: l1 :: some (.int x) :: L) st h Q = zG d 724 9 (l0 :: l1 :: some (.int x) :: L) (.int x :: st) h Q := g_ldI rfl rfl
theorem g724_9 : zG d 724 9 L st h Q = zG d 724 11 L (.int 60 :: st) h Q := g_c rfl
theorem g724_11 : zG d 724 11 L [v1, v0] h Q = zCall d 744 [v0, v1] h (fun v h1 => zG d 724 14 L (zpush v []) h1 Q) := g_cS rfl rfl (Nat.le_of_ble_eq_true rfl) rfl (Nat.le_of_ble_eq_true rfl)
theorem g724_14 : zG d 724 14 L (.int x :: st) h Q = if x = 0 then zG d 724 25 L st h Q else zG d 724 17 L st h Q := g_i1 (P := fun x => x = 0) rfl
theorem g724_17 : zG d 724 17 (l0 :: l1 :: l2 :: some (.int x) :: L) st h Q = zG d 724 18 (l0 :: l1 :: l2 :: some (.int x) :: L) (.int x :: st) h Q := g_ldI rfl rfl
theorem g724_18 : zG d 724 18 L st h Q = zG d 724 19 L (.int 1 :: st) h Q := g_c rfl
theorem g724_19 : zG d 724 19 L [v1, v0] h Q = zCall d 744 [v0, v1] h (fun v h1 => zG d 724 22 L (zpush v []) h1 Q) := g_cS rfl rfl (Nat.le_of_ble_eq_true rfl) rfl (Nat.le_of_ble_eq_true rfl)
theorem g724_22 : zG d 724 22 L (.int x :: st) h Q = if ¬ x = 0 then zG d 724 29 L st h Q else zG d 724 25 L st h Q := g_i1 (P := fun x => ¬ x = 0) rfl
theorem g724_25 : zG d 724 25 L st h Q = zG d 724 28 L (.long (-9223372036854775808) :: st) h Q := g_c rfl
theorem g724_28 : zG d 724 28 L [.long u] h Q = Q (some (.long u)) h := g_rJ rfl
theorem g724_29 : zG d 724 29 L st h Q = zG d 724 30 L (.int 0 :: st) h Q := g_c rfl
theorem g724_30 : zG d 724 30 (l0 :: l1 :: l2 :: l3 :: l4 :: L) (.int x :: st) h Q = zG d 724 32 (l0 :: l1 :: l2 :: kl l3 :: some (.int x) :: L) st h Q := g_stI rfl (by simp) rfl
theorem g724_32 : zG d 724 32 L st h Q = zG d 724 33 L (.int 0 :: st) h Q := g_c rfl
theorem g724_33 : zG d 724 33 (l0 :: l1 :: l2 :: l3 :: l4 :: l5 :: L) (.int x :: st) h Q = zG d 724 35 (l0 :: l1 :: l2 :: l3 :: kl l4 :: some (.int x) :: L) st h Q := g_stI rfl (by simp) rfl
theorem g724_35 : zG d 724 35 (l0 :: l1 :: l2 :: l3 :: l4 :: some (.int x) :: L) st h Q = zG d 724 37 (l0 :: l1 :: l2 :: l3 :: l4 :: some (.int x) :: L) (.int x :: st) h Q := g_ldI rfl rfl
theorem g724_37 : zG d 724 37 L st h Q = zG d 724 39 L (.int 20 :: st) h Q := g_c rfl
theorem g724_39 : zG d 724 39 L (.int z :: .int x :: st) h Q = if z < x then zG d 724 93 L st h Q else zG d 724 42 L st h Q := g_i2 (P := fun x z => z < x) rfl
theorem g724_42 : zG d 724 42 (some (.ref a) :: L) st h Q = zG d 724 43 (some (.ref a) :: L) (.ref a :: st) h Q := g_ldA rfl rfl
theorem g724_43 (hT : zT h a = (7, 10)) : zG d 724 43 L (.ref a :: st) h Q = zG d 724 46 L (zR h a 1 :: st) h Q := g_gR rfl hT
theorem g724_46 : zG d 724 46 (some (.ref a) :: L) st h Q = zG d 724 47 (some (.ref a) :: L) (.ref a :: st) h Q := g_ldA rfl rfl
theorem g724_47 (hT : zT h a = (7, 10)) : zG d 724 47 L (.ref a :: st) h Q = zG d 724 50 L (zR h a 0 :: st) h Q := g_gR rfl hT
theorem g724_50 (hT : (zT h a).1 = 2) : zG d 724 50 L [v0, .ref a] h Q = zCall d 202 [.ref a, v0] h (fun v h1 => zG d 724 53 L (zpush v []) h1 Q) := g_cV rfl rfl rfl rfl (Nat.le_of_ble_eq_true rfl) hT
theorem g724_53 : zG d 724 53 (some (.ref a) :: L) st h Q = zG d 724 54 (some (.ref a) :: L) (.ref a :: st) h Q := g_ldA rfl rfl
theorem g724_54 (hT : zT h a = (7, 10)) : zG d 724 54 L (.ref a :: st) h Q = zG d 724 57 L (zR h a 1 :: st) h Q := g_gR rfl hT
theorem g724_57 : zG d 724 57 (l0 :: l1 :: l2 :: l3 :: l4 :: some (.int x) :: L) st h Q = zG d 724 59 (l0 :: l1 :: l2 :: l3 :: l4 :: some (.int x) :: L) (.int x :: st) h Q := g_ldI rfl rfl
theorem g724_59 (hT : zT h a = (2, 12)) : zG d 724 59 L (.int x :: .ref a :: st) h Q = zG d 724 62 L st (wI h a 11 x) Q := g_pI rfl hT
theorem g724_62 : zG d 724 62 (some (.ref a) :: L) st h Q = zG d 724 63 (some (.ref a) :: L) (.ref a :: st) h Q := g_ldA rfl rfl
theorem g724_63 (hT : zT h a = (7, 10)) : zG d 724 63 L (.ref a :: st) h Q = zG d 724 66 L (zR h a 1 :: st) h Q := g_gR rfl hT
theorem g724_66 : zG d 724 66 (l0 :: l1 :: some (.int x) :: L) st h Q = zG d 724 67 (l0 :: l1 :: some (.int x) :: L) (.int x :: st) h Q := g_ldI rfl rfl
theorem g724_67 (hT : (zT h a).1 = 2) : zG d 724 67 L [v0, .ref a] h Q = zCall d 210 [.ref a, v0] h (fun v h1 => zG d 724 70 L (zpush v []) h1 Q) := g_cV rfl rfl rfl rfl (Nat.le_of_ble_eq_true rfl) hT
theorem g724_70 : zG d 724 70 (some (.ref a) :: L) st h Q = zG d 724 71 (some (.ref a) :: L) (.ref a :: st) h Q := g_ldA rfl rfl
theorem g724_71 (hT : zT h a = (7, 10)) : zG d 724 71 L (.ref a :: st) h Q = zG d 724 74 L (zR h a 1 :: st) h Q := g_gR rfl hT
theorem g724_74 (hT : zT h a = (2, 12)) : zG d 724 74 L (.ref a :: st) h Q = zG d 724 77 L (zR h a 3 :: st) h Q := g_gR rfl hT
theorem g724_77 : zG d 724 77 (l0 :: some (.int x) :: L) st h Q = zG d 724 78 (l0 :: some (.int x) :: L) (.int x :: st) h Q := g_ldI rfl rfl
theorem g724_78 (hT : (zT h b).1 = 20) (hi : zin i (zT h b).2) : zG d 724 78 L (.int i :: .ref b :: st) h Q = zG d 724 79 L (.int (zI h b i.toNatClampNeg) :: st) h Q := g_ia rfl hT hi
theorem g724_79 : zG d 724 79 L st h Q = zG d 724 81 L (.int 10 :: st) h Q := g_c rfl
theorem g724_81 : zG d 724 81 L (.int z :: .int x :: st) h Q = if ¬ x = z then zG d 724 87 L st h Q else zG d 724 84 L st h Q := g_i2 (P := fun x z => ¬ x = z) rfl
theorem g724_84 : zG d 724 84 (l0 :: l1 :: l2 :: l3 :: some (.int x) :: L) st h Q = zG d 724 87 (l0 :: l1 :: l2 :: kl l3 :: some (.int (x + 1)) :: L) st h Q := g_inc rfl rfl rfl
theorem g724_87 : zG d 724 87 (l0 :: l1 :: l2 :: l3 :: l4 :: some (.int x) :: L) st h Q = zG d 724 90 (l0 :: l1 :: l2 :: l3 :: kl l4 :: some (.int (x + 1)) :: L) st h Q := g_inc rfl rfl rfl
theorem g724_90 : zG d 724 90 L st h Q = zG d 724 35 L st h Q := g_go rfl
theorem g724_93 : zG d 724 93 (l0 :: l1 :: l2 :: l3 :: some (.int x) :: L) st h Q = zG d 724 95 (l0 :: l1 :: l2 :: l3 :: some (.int x) :: L) (.int x :: st) h Q := g_ldI rfl rfl
theorem g724_95 : zG d 724 95 L st h Q = zG d 724 97 L (.int 21 :: st) h Q := g_c rfl
theorem g724_97 : zG d 724 97 (l0 :: l1 :: l2 :: some (.int x) :: L) st h Q = zG d 724 98 (l0 :: l1 :: l2 :: some (.int x) :: L) (.int x :: st) h Q := g_ldI rfl rfl
theorem g724_98 : zG d 724 98 L [v2, v1, v0] h Q = zCall d 726 [v0, v1, v2] h (fun v h1 => zG d 724 101 L (zpush v []) h1 Q) := g_cS rfl rfl (Nat.le_of_ble_eq_true rfl) rfl (Nat.le_of_ble_eq_true rfl)
theorem g724_101 : zG d 724 101 L [.long u] h Q = Q (some (.long u)) h := g_rJ rfl
theorem k724 {x0 : Int32} {x1 : Int32} {x2 : Int32} : zCall (d + 1) 724 [.ref a, .int x0, .int x1, .int x2] h Q = zG d 724 0 [some (.ref a), some (.int x0), some (.int x1), some (.int x2), none, none] [] h Q := zCall_k (Nat.le_of_ble_eq_true rfl) rfl
theorem g725_0 : zG d 725 0 (l0 :: some (.int x) :: L) st h Q = zG d 725 1 (l0 :: some (.int x) :: L) (.int x :: st) h Q := g_ldI rfl rfl
theorem g725_1 : zG d 725 1 L st h Q = zG d 725 3 L (.int 60 :: st) h Q := g_c rfl
theorem g725_3 : zG d 725 3 L [v1, v0] h Q = zCall d 744 [v0, v1] h (fun v h1 => zG d 725 6 L (zpush v []) h1 Q) := g_cS rfl rfl (Nat.le_of_ble_eq_true rfl) rfl (Nat.le_of_ble_eq_true rfl)
theorem g725_6 : zG d 725 6 L (.int x :: st) h Q = if x = 0 then zG d 725 27 L st h Q else zG d 725 9 L st h Q := g_i1 (P := fun x => x = 0) rfl
theorem g725_9 : zG d 725 9 (l0 :: l1 :: some (.int x) :: L) st h Q = zG d 725 10 (l0 :: l1 :: some (.int x) :: L) (.int x :: st) h Q := g_ldI rfl rfl
theorem g725_10 : zG d 725 10 L st h Q = zG d 725 11 L (.int 1 :: st) h Q := g_c rfl
theorem g725_11 : zG d 725 11 L [v1, v0] h Q = zCall d 744 [v0, v1] h (fun v h1 => zG d 725 14 L (zpush v []) h1 Q) := g_cS rfl rfl (Nat.le_of_ble_eq_true rfl) rfl (Nat.le_of_ble_eq_true rfl)
theorem g725_14 : zG d 725 14 L (.int x :: st) h Q = if x = 0 then zG d 725 27 L st h Q else zG d 725 17 L st h Q := g_i1 (P := fun x => x = 0) rfl
theorem g725_17 : zG d 725 17 (some (.ref a) :: L) st h Q = zG d 725 18 (some (.ref a) :: L) (.ref a :: st) h Q := g_ldA rfl rfl
theorem g725_18 (hT : zT h a = (7, 10)) : zG d 725 18 L (.ref a :: st) h Q = zG d 725 21 L (zR h a 0 :: st) h Q := g_gR rfl hT
theorem g725_21 (hT : zT h a = (2, 12)) : zG d 725 21 L (.ref a :: st) h Q = zG d 725 24 L (.int (zI h a 7) :: st) h Q := g_gI rfl hT
theorem g725_24 : zG d 725 24 L (.int x :: st) h Q = if ¬ x = 0 then zG d 725 31 L st h Q else zG d 725 27 L st h Q := g_i1 (P := fun x => ¬ x = 0) rfl
theorem g725_27 : zG d 725 27 L st h Q = zG d 725 30 L (.long (-9223372036854775808) :: st) h Q := g_c rfl
theorem g725_30 : zG d 725 30 L [.long u] h Q = Q (some (.long u)) h := g_rJ rfl
theorem g725_31 : zG d 725 31 (some (.ref a) :: L) st h Q = zG d 725 32 (some (.ref a) :: L) (.ref a :: st) h Q := g_ldA rfl rfl
theorem g725_32 (hT : zT h a = (7, 10)) : zG d 725 32 L (.ref a :: st) h Q = zG d 725 35 L (zR h a 1 :: st) h Q := g_gR rfl hT
theorem g725_35 : zG d 725 35 (some (.ref a) :: L) st h Q = zG d 725 36 (some (.ref a) :: L) (.ref a :: st) h Q := g_ldA rfl rfl
theorem g725_36 (hT : zT h a = (7, 10)) : zG d 725 36 L (.ref a :: st) h Q = zG d 725 39 L (zR h a 0 :: st) h Q := g_gR rfl hT
theorem g725_39 (hT : (zT h a).1 = 2) : zG d 725 39 L [v0, .ref a] h Q = zCall d 202 [.ref a, v0] h (fun v h1 => zG d 725 42 L (zpush v []) h1 Q) := g_cV rfl rfl rfl rfl (Nat.le_of_ble_eq_true rfl) hT
theorem g725_42 : zG d 725 42 (some (.ref a) :: L) st h Q = zG d 725 43 (some (.ref a) :: L) (.ref a :: st) h Q := g_ldA rfl rfl
theorem g725_43 (hT : zT h a = (7, 10)) : zG d 725 43 L (.ref a :: st) h Q = zG d 725 46 L (zR h a 1 :: st) h Q := g_gR rfl hT
theorem g725_46 : zG d 725 46 (l0 :: some (.int x) :: L) st h Q = zG d 725 47 (l0 :: some (.int x) :: L) (.int x :: st) h Q := g_ldI rfl rfl
theorem g725_47 (hT : (zT h a).1 = 2) : zG d 725 47 L [v0, .ref a] h Q = zCall d 210 [.ref a, v0] h (fun v h1 => zG d 725 50 L (zpush v []) h1 Q) := g_cV rfl rfl rfl rfl (Nat.le_of_ble_eq_true rfl) hT
theorem g725_50 : zG d 725 50 L st h Q = zG d 725 51 L (.int 0 :: st) h Q := g_c rfl
theorem g725_51 : zG d 725 51 (l0 :: l1 :: l2 :: l3 :: L) (.int x :: st) h Q = zG d 725 52 (l0 :: l1 :: kl l2 :: some (.int x) :: L) st h Q := g_stI rfl (by simp) rfl
theorem g725_52 : zG d 725 52 L st h Q = zG d 725 53 L (.int 0 :: st) h Q := g_c rfl
theorem g725_53 : zG d 725 53 (l0 :: l1 :: l2 :: l3 :: l4 :: L) (.int x :: st) h Q = zG d 725 55 (l0 :: l1 :: l2 :: kl l3 :: some (.int x) :: L) st h Q := g_stI rfl (by simp) rfl
theorem g725_55 : zG d 725 55 (l0 :: l1 :: l2 :: l3 :: some (.int x) :: L) st h Q = zG d 725 57 (l0 :: l1 :: l2 :: l3 :: some (.int x) :: L) (.int x :: st) h Q := g_ldI rfl rfl
theorem g725_57 : zG d 725 57 (some (.ref a) :: L) st h Q = zG d 725 58 (some (.ref a) :: L) (.ref a :: st) h Q := g_ldA rfl rfl
theorem g725_58 (hT : zT h a = (7, 10)) : zG d 725 58 L (.ref a :: st) h Q = zG d 725 61 L (zR h a 1 :: st) h Q := g_gR rfl hT
theorem g725_61 (hT : zT h a = (2, 12)) : zG d 725 61 L (.ref a :: st) h Q = zG d 725 64 L (.int (zI h a 7) :: st) h Q := g_gI rfl hT
theorem g725_64 : zG d 725 64 L (.int z :: .int x :: st) h Q = if z ≤ x then zG d 725 86 L st h Q else zG d 725 67 L st h Q := g_i2 (P := fun x z => z ≤ x) rfl
theorem g725_67 : zG d 725 67 (l0 :: l1 :: l2 :: some (.int x) :: L) st h Q = zG d 725 68 (l0 :: l1 :: l2 :: some (.int x) :: L) (.int x :: st) h Q := g_ldI rfl rfl
theorem g725_68 : zG d 725 68 (some (.ref a) :: L) st h Q = zG d 725 69 (some (.ref a) :: L) (.ref a :: st) h Q := g_ldA rfl rfl
theorem g725_69 (hT : zT h a = (7, 10)) : zG d 725 69 L (.ref a :: st) h Q = zG d 725 72 L (zR h a 1 :: st) h Q := g_gR rfl hT
theorem g725_72 (hT : zT h a = (2, 12)) : zG d 725 72 L (.ref a :: st) h Q = zG d 725 75 L (zR h a 4 :: st) h Q := g_gR rfl hT
theorem g725_75 : zG d 725 75 (l0 :: l1 :: l2 :: l3 :: some (.int x) :: L) st h Q = zG d 725 77 (l0 :: l1 :: l2 :: l3 :: some (.int x) :: L) (.int x :: st) h Q := g_ldI rfl rfl
theorem g725_77 (hT : (zT h b).1 = 20) (hi : zin i (zT h b).2) : zG d 725 77 L (.int i :: .ref b :: st) h Q = zG d 725 78 L (.int (zI h b i.toNatClampNeg) :: st) h Q := g_ia rfl hT hi
theorem g725_78 : zG d 725 78 L (.int z :: .int x :: st) h Q = zG d 725 79 L (.int (x + z) :: st) h Q := g_b (f := fun x z => x + z) rfl
theorem g725_79 : zG d 725 79 (l0 :: l1 :: l2 :: l3 :: L) (.int x :: st) h Q = zG d 725 80 (l0 :: l1 :: kl l2 :: some (.int x) :: L) st h Q := g_stI rfl (by simp) rfl
theorem g725_80 : zG d 725 80 (l0 :: l1 :: l2 :: l3 :: some (.int x) :: L) st h Q = zG d 725 83 (l0 :: l1 :: l2 :: kl l3 :: some (.int (x + 1)) :: L) st h Q := g_inc rfl rfl rfl
theorem g725_83 : zG d 725 83 L st h Q = zG d 725 55 L st h Q := g_go rfl
theorem g725_86 : zG d 725 86 (l0 :: l1 :: l2 :: some (.int x) :: L) st h Q = zG d 725 87 (l0 :: l1 :: l2 :: some (.int x) :: L) (.int x :: st) h Q := g_ldI rfl rfl
theorem g725_87 : zG d 725 87 (some (.ref a) :: L) st h Q = zG d 725 88 (some (.ref a) :: L) (.ref a :: st) h Q := g_ldA rfl rfl
theorem g725_88 (hT : zT h a = (7, 10)) : zG d 725 88 L (.ref a :: st) h Q = zG d 725 91 L (zR h a 1 :: st) h Q := g_gR rfl hT
theorem g725_91 (hT : zT h a = (2, 12)) : zG d 725 91 L (.ref a :: st) h Q = zG d 725 94 L (.int (zI h a 7) :: st) h Q := g_gI rfl hT
theorem g725_94 : zG d 725 94 (l0 :: l1 :: some (.int x) :: L) st h Q = zG d 725 95 (l0 :: l1 :: some (.int x) :: L) (.int x :: st) h Q := g_ldI rfl rfl
theorem g725_95 : zG d 725 95 L [v2, v1, v0] h Q = zCall d 726 [v0, v1, v2] h (fun v h1 => zG d 725 98 L (zpush v []) h1 Q) := g_cS rfl rfl (Nat.le_of_ble_eq_true rfl) rfl (Nat.le_of_ble_eq_true rfl)
theorem g725_98 : zG d 725 98 L [.long u] h Q = Q (some (.long u)) h := g_rJ rfl
theorem k725 {x0 : Int32} {x1 : Int32} : zCall (d + 1) 725 [.ref a, .int x0, .int x1] h Q = zG d 725 0 [some (.ref a), some (.int x0), some (.int x1), none, none] [] h Q := zCall_k (Nat.le_of_ble_eq_true rfl) rfl
theorem g726_0 : zG d 726 0 L st h Q = zG d 726 1 L (.int 1 :: st) h Q := g_c rfl
theorem g726_1 : zG d 726 1 (l0 :: l1 :: l2 :: l3 :: L) (.int x :: st) h Q = zG d 726 2 (l0 :: l1 :: kl l2 :: some (.int x) :: L) st h Q := g_stI rfl (by simp) rfl
theorem g726_2 : zG d 726 2 L st h Q = zG d 726 3 L (.int 2 :: st) h Q := g_c rfl
theorem g726_3 : zG d 726 3 (l0 :: l1 :: l2 :: l3 :: l4 :: L) (.int x :: st) h Q = zG d 726 5 (l0 :: l1 :: l2 :: kl l3 :: some (.int x) :: L) st h Q := g_stI rfl (by simp) rfl
theorem g726_5 : zG d 726 5 (l0 :: l1 :: l2 :: l3 :: some (.int x) :: L) st h Q = zG d 726 7 (l0 :: l1 :: l2 :: l3 :: some (.int x) :: L) (.int x :: st) h Q := g_ldI rfl rfl
theorem g726_7 : zG d 726 7 (l0 :: some (.int x) :: L) st h Q = zG d 726 8 (l0 :: some (.int x) :: L) (.int x :: st) h Q := g_ldI rfl rfl
theorem g726_8 : zG d 726 8 L (.int z :: .int x :: st) h Q = if z < x then zG d 726 34 L st h Q else zG d 726 11 L st h Q := g_i2 (P := fun x z => z < x) rfl
theorem g726_11 : zG d 726 11 (some (.int x) :: L) st h Q = zG d 726 12 (some (.int x) :: L) (.int x :: st) h Q := g_ldI rfl rfl
theorem g726_12 : zG d 726 12 (l0 :: l1 :: l2 :: l3 :: some (.int x) :: L) st h Q = zG d 726 14 (l0 :: l1 :: l2 :: l3 :: some (.int x) :: L) (.int x :: st) h Q := g_ldI rfl rfl
theorem g726_14 (hz : ¬ z = 0) : zG d 726 14 L (.int z :: .int x :: st) h Q = zG d 726 15 L (.int (x - x / z * z) :: st) h Q := g_d (f := fun x z => x - x / z * z) rfl hz
theorem g726_15 : zG d 726 15 L (.int x :: st) h Q = if ¬ x = 0 then zG d 726 28 L st h Q else zG d 726 18 L st h Q := g_i1 (P := fun x => ¬ x = 0) rfl
theorem g726_18 : zG d 726 18 (l0 :: some (.int x) :: L) st h Q = zG d 726 19 (l0 :: some (.int x) :: L) (.int x :: st) h Q := g_ldI rfl rfl
theorem g726_19 : zG d 726 19 (l0 :: l1 :: l2 :: l3 :: some (.int x) :: L) st h Q = zG d 726 21 (l0 :: l1 :: l2 :: l3 :: some (.int x) :: L) (.int x :: st) h Q := g_ldI rfl rfl
theorem g726_21 (hz : ¬ z = 0) : zG d 726 21 L (.int z :: .int x :: st) h Q = zG d 726 22 L (.int (x - x / z * z) :: st) h Q := g_d (f := fun x z => x - x / z * z) rfl hz
theorem g726_22 : zG d 726 22 L (.int x :: st) h Q = if ¬ x = 0 then zG d 726 28 L st h Q else zG d 726 25 L st h Q := g_i1 (P := fun x => ¬ x = 0) rfl
theorem g726_25 : zG d 726 25 (l0 :: l1 :: l2 :: l3 :: some (.int x) :: L) st h Q = zG d 726 27 (l0 :: l1 :: l2 :: l3 :: some (.int x) :: L) (.int x :: st) h Q := g_ldI rfl rfl
theorem g726_27 : zG d 726 27 (l0 :: l1 :: l2 :: l3 :: L) (.int x :: st) h Q = zG d 726 28 (l0 :: l1 :: kl l2 :: some (.int x) :: L) st h Q := g_stI rfl (by simp) rfl
theorem g726_28 : zG d 726 28 (l0 :: l1 :: l2 :: l3 :: some (.int x) :: L) st h Q = zG d 726 31 (l0 :: l1 :: l2 :: kl l3 :: some (.int (x + 1)) :: L) st h Q := g_inc rfl rfl rfl
theorem g726_31 : zG d 726 31 L st h Q = zG d 726 5 L st h Q := g_go rfl
theorem g726_34 : zG d 726 34 (l0 :: l1 :: some (.int x) :: L) st h Q = zG d 726 35 (l0 :: l1 :: some (.int x) :: L) (.int x :: st) h Q := g_ldI rfl rfl
theorem g726_35 : zG d 726 35 L (.int x :: st) h Q = if ¬ x = 0 then zG d 726 42 L st h Q else zG d 726 38 L st h Q := g_i1 (P := fun x => ¬ x = 0) rfl
theorem g726_38 : zG d 726 38 (some (.int x) :: L) st h Q = zG d 726 39 (some (.int x) :: L) (.int x :: st) h Q := g_ldI rfl rfl
theorem g726_39 : zG d 726 39 L st h Q = zG d 726 43 L st h Q := g_go rfl
theorem g726_42 : zG d 726 42 (l0 :: some (.int x) :: L) st h Q = zG d 726 43 (l0 :: some (.int x) :: L) (.int x :: st) h Q := g_ldI rfl rfl
theorem g726_43 : zG d 726 43 (l0 :: l1 :: l2 :: some (.int x) :: L) st h Q = zG d 726 44 (l0 :: l1 :: l2 :: some (.int x) :: L) (.int x :: st) h Q := g_ldI rfl rfl
theorem g726_44 (hz : ¬ z = 0) : zG d 726 44 L (.int z :: .int x :: st) h Q = zG d 726 45 L (.int (x / z) :: st) h Q := g_d (f := fun x z => x / z) rfl hz
theorem g726_45 : zG d 726 45 L (.int x :: st) h Q = zG d 726 46 L (.long x.toInt64 :: st) h Q := g_i2l rfl
theorem g726_46 : zG d 726 46 L [.long u] h Q = Q (some (.long u)) h := g_rJ rfl
theorem k726 {x0 : Int32} {x1 : Int32} {x2 : Int32} : zCall (d + 1) 726 [.int x0, .int x1, .int x2] h Q = zG d 726 0 [some (.int x0), some (.int x1), some (.int x2), none, none] [] h Q := zCall_k (Nat.le_of_ble_eq_true rfl) rfl
theorem g727_0 : zG d 727 0 (l0 :: some (.int x) :: L) st h Q = zG d 727 1 (l0 :: some (.int x) :: L) (.int x :: st) h Q := g_ldI rfl rfl
theorem g727_1 : zG d 727 1 L st h Q = zG d 727 2 L (.int (-1) :: st) h Q := g_c rfl
theorem g727_2 : zG d 727 2 L (.int z :: .int x :: st) h Q = if ¬ x = z then zG d 727 16 L st h Q else zG d 727 5 L st h Q := g_i2 (P := fun x z => ¬ x = z) rfl
theorem g727_5 : zG d 727 5 (some (.ref a) :: L) st h Q = zG d 727 6 (some (.ref a) :: L) (.ref a :: st) h Q := g_ldA rfl rfl
theorem g727_6 (hT : zT h a = (7, 10)) : zG d 727 6 L (.ref a :: st) h Q = zG d 727 9 L (zR h a 3 :: st) h Q := g_gR rfl hT
theorem g727_9 (hT : zT h a = (1, 3)) : zG d 727 9 L (.ref a :: st) h Q = zG d 727 12 L (zR h a 1 :: st) h Q := g_gR rfl hT
theorem g727_12 (hT : (zT h a).1 = 3) : zG d 727 12 L [.ref a] h Q = zCall d 302 [.ref a] h (fun v h1 => zG d 727 15 L (zpush v []) h1 Q) := g_cV rfl rfl rfl rfl (Nat.le_of_ble_eq_true rfl) hT
theorem g727_15 : zG d 727 15 L [.int x] h Q = Q (some (.int x)) h := g_rI (ok := fun _ => True) rfl trivial
theorem g727_16 : zG d 727 16 (l0 :: some (.int x) :: L) st h Q = zG d 727 17 (l0 :: some (.int x) :: L) (.int x :: st) h Q := g_ldI rfl rfl
theorem g727_17 : zG d 727 17 L st h Q = zG d 727 18 L (.int 3 :: st) h Q := g_c rfl
theorem g727_18 : zG d 727 18 L [v1, v0] h Q = zCall d 744 [v0, v1] h (fun v h1 => zG d 727 21 L (zpush v []) h1 Q) := g_cS rfl rfl (Nat.le_of_ble_eq_true rfl) rfl (Nat.le_of_ble_eq_true rfl)
theorem g727_21 : zG d 727 21 L (.int x :: st) h Q = if x = 0 then zG d 727 36 L st h Q else zG d 727 24 L st h Q := g_i1 (P := fun x => x = 0) rfl
theorem g727_24 : zG d 727 24 (l0 :: some (.int x) :: L) st h Q = zG d 727 25 (l0 :: some (.int x) :: L) (.int x :: st) h Q := g_ldI rfl rfl
theorem g727_25 : zG d 727 25 L (.int x :: st) h Q = if x = 0 then zG d 727 38 L st h Q else zG d 727 28 L st h Q := g_i1 (P := fun x => x = 0) rfl
theorem g727_28 : zG d 727 28 (some (.ref a) :: L) st h Q = zG d 727 29 (some (.ref a) :: L) (.ref a :: st) h Q := g_ldA rfl rfl
theorem g727_29 : zG d 727 29 (l0 :: l1 :: some (.int x) :: L) st h Q = zG d 727 30 (l0 :: l1 :: some (.int x) :: L) (.int x :: st) h Q := g_ldI rfl rfl
theorem g727_30 (hT : (zT h a).1 = 7) : zG d 727 30 L [v0, .ref a] h Q = zCall d 743 [.ref a, v0] h (fun v h1 => zG d 727 33 L (zpush v []) h1 Q) := g_cV rfl rfl rfl rfl (Nat.le_of_ble_eq_true rfl) hT
theorem g727_33 : zG d 727 33 L (.int x :: st) h Q = if ¬ x = 0 then zG d 727 38 L st h Q else zG d 727 36 L st h Q := g_i1 (P := fun x => ¬ x = 0) rfl
theorem g727_36 : zG d 727 36 L st h Q = zG d 727 37 L (.int (-1) :: st) h Q := g_c rfl
theorem g727_37 : zG d 727 37 L [.int x] h Q = Q (some (.int x)) h := g_rI (ok := fun _ => True) rfl trivial
theorem g727_38 : zG d 727 38 (some (.ref a) :: L) st h Q = zG d 727 39 (some (.ref a) :: L) (.ref a :: st) h Q := g_ldA rfl rfl
theorem g727_39 (hT : zT h a = (7, 10)) : zG d 727 39 L (.ref a :: st) h Q = zG d 727 42 L (zR h a 3 :: st) h Q := g_gR rfl hT
theorem g727_42 (hT : zT h a = (1, 3)) : zG d 727 42 L (.ref a :: st) h Q = zG d 727 45 L (zR h a 1 :: st) h Q := g_gR rfl hT
theorem g727_45 : zG d 727 45 (l0 :: some (.int x) :: L) st h Q = zG d 727 46 (l0 :: some (.int x) :: L) (.int x :: st) h Q := g_ldI rfl rfl
theorem g727_46 : zG d 727 46 (l0 :: l1 :: some (.int x) :: L) st h Q = zG d 727 47 (l0 :: l1 :: some (.int x) :: L) (.int x :: st) h Q := g_ldI rfl rfl
theorem g727_47 : zG d 727 47 L st h Q = zG d 727 48 L (.int 0 :: st) h Q := g_c rfl
theorem g727_48 (hT : (zT h a).1 = 3) : zG d 727 48 L [v2, v1, v0, .ref a] h Q = zCall d 303 [.ref a, v0, v1, v2] h (fun v h1 => zG d 727 51 L (zpush v []) h1 Q) := g_cV rfl rfl rfl rfl (Nat.le_of_ble_eq_true rfl) hT
theorem g727_51 : zG d 727 51 L [.int x] h Q = Q (some (.int x)) h := g_rI (ok := fun _ => True) rfl trivial
theorem k727 {x0 : Int32} {x1 : Int32} : zCall (d + 1) 727 [.ref a, .int x0, .int x1] h Q = zG d 727 0 [some (.ref a), some (.int x0), some (.int x1)] [] h Q := zCall_k (Nat.le_of_ble_eq_true rfl) rfl
theorem g728_0 : zG d 728 0 (l0 :: some (.int x) :: L) st h Q = zG d 728 1 (l0 :: some (.int x) :: L) (.int x :: st) h Q := g_ldI rfl rfl
theorem g728_1 : zG d 728 1 L st h Q = zG d 728 2 L (.int 1 :: st) h Q := g_c rfl
theorem g728_2 : zG d 728 2 L [v1, v0] h Q = zCall d 744 [v0, v1] h (fun v h1 => zG d 728 5 L (zpush v []) h1 Q) := g_cS rfl rfl (Nat.le_of_ble_eq_true rfl) rfl (Nat.le_of_ble_eq_true rfl)
theorem g728_5 : zG d 728 5 L (.int x :: st) h Q = if ¬ x = 0 then zG d 728 10 L st h Q else zG d 728 8 L st h Q := g_i1 (P := fun x => ¬ x = 0) rfl
theorem g728_8 : zG d 728 8 L st h Q = zG d 728 9 L (.int (-1) :: st) h Q := g_c rfl
theorem g728_9 : zG d 728 9 L [.int x] h Q = Q (some (.int x)) h := g_rI (ok := fun _ => True) rfl trivial
theorem g728_10 : zG d 728 10 (some (.ref a) :: L) st h Q = zG d 728 11 (some (.ref a) :: L) (.ref a :: st) h Q := g_ldA rfl rfl
theorem g728_11 (hT : zT h a = (7, 10)) : zG d 728 11 L (.ref a :: st) h Q = zG d 728 14 L (zR h a 1 :: st) h Q := g_gR rfl hT
theorem g728_14 : zG d 728 14 (some (.ref a) :: L) st h Q = zG d 728 15 (some (.ref a) :: L) (.ref a :: st) h Q := g_ldA rfl rfl
theorem g728_15 (hT : zT h a = (7, 10)) : zG d 728 15 L (.ref a :: st) h Q = zG d 728 18 L (zR h a 0 :: st) h Q := g_gR rfl hT
theorem g728_18 (hT : (zT h a).1 = 2) : zG d 728 18 L [v0, .ref a] h Q = zCall d 202 [.ref a, v0] h (fun v h1 => zG d 728 21 L (zpush v []) h1 Q) := g_cV rfl rfl rfl rfl (Nat.le_of_ble_eq_true rfl) hT
theorem g728_21 : zG d 728 21 L st h Q = zG d 728 22 L (.int 0 :: st) h Q := g_c rfl
theorem g728_22 : zG d 728 22 (l0 :: l1 :: l2 :: L) (.int x :: st) h Q = zG d 728 23 (l0 :: kl l1 :: some (.int x) :: L) st h Q := g_stI rfl (by simp) rfl
theorem g728_23 : zG d 728 23 (l0 :: l1 :: some (.int x) :: L) st h Q = zG d 728 24 (l0 :: l1 :: some (.int x) :: L) (.int x :: st) h Q := g_ldI rfl rfl
theorem g728_24 : zG d 728 24 (some (.ref a) :: L) st h Q = zG d 728 25 (some (.ref a) :: L) (.ref a :: st) h Q := g_ldA rfl rfl
theorem g728_25 (hT : zT h a = (7, 10)) : zG d 728 25 L (.ref a :: st) h Q = zG d 728 28 L (zR h a 3 :: st) h Q := g_gR rfl hT
theorem g728_28 (hT : zT h a = (1, 3)) : zG d 728 28 L (.ref a :: st) h Q = zG d 728 31 L (zR h a 1 :: st) h Q := g_gR rfl hT
theorem g728_31 (hT : zT h a = (3, 4)) : zG d 728 31 L (.ref a :: st) h Q = zG d 728 34 L (.int (zI h a 3) :: st) h Q := g_gI rfl hT
theorem g728_34 : zG d 728 34 L (.int z :: .int x :: st) h Q = if z ≤ x then zG d 728 71 L st h Q else zG d 728 37 L st h Q := g_i2 (P := fun x z => z ≤ x) rfl
theorem g728_37 : zG d 728 37 (some (.ref a) :: L) st h Q = zG d 728 38 (some (.ref a) :: L) (.ref a :: st) h Q := g_ldA rfl rfl
theorem g728_38 : zG d 728 38 (some (.ref a) :: L) st h Q = zG d 728 39 (some (.ref a) :: L) (.ref a :: st) h Q := g_ldA rfl rfl
theorem g728_39 (hT : zT h a = (7, 10)) : zG d 728 39 L (.ref a :: st) h Q = zG d 728 42 L (zR h a 3 :: st) h Q := g_gR rfl hT
theorem g728_42 (hT : zT h a = (1, 3)) : zG d 728 42 L (.ref a :: st) h Q = zG d 728 45 L (zR h a 1 :: st) h Q := g_gR rfl hT
theorem g728_45 (hT : zT h a = (3, 4)) : zG d 728 45 L (.ref a :: st) h Q = zG d 728 48 L (zR h a 0 :: st) h Q := g_gR rfl hT
theorem g728_48 : zG d 728 48 (l0 :: l1 :: some (.int x) :: L) st h Q = zG d 728 49 (l0 :: l1 :: some (.int x) :: L) (.int x :: st) h Q := g_ldI rfl rfl
theorem g728_49 (hT : (zT h b).1 = 20) (hi : zin i (zT h b).2) : zG d 728 49 L (.int i :: .ref b :: st) h Q = zG d 728 50 L (.int (zI h b i.toNatClampNeg) :: st) h Q := g_ia rfl hT hi
theorem g728_50 : zG d 728 50 (some (.ref a) :: L) st h Q = zG d 728 51 (some (.ref a) :: L) (.ref a :: st) h Q := g_ldA rfl rfl
theorem g728_51 (hT : zT h a = (7, 10)) : zG d 728 51 L (.ref a :: st) h Q = zG d 728 54 L (zR h a 3 :: st) h Q := g_gR rfl hT
theorem g728_54 (hT : zT h a = (1, 3)) : zG d 728 54 L (.ref a :: st) h Q = zG d 728 57 L (zR h a 1 :: st) h Q := g_gR rfl hT
theorem g728_57 (hT : zT h a = (3, 4)) : zG d 728 57 L (.ref a :: st) h Q = zG d 728 60 L (zR h a 1 :: st) h Q := g_gR rfl hT
theorem g728_60 : zG d 728 60 (l0 :: l1 :: some (.int x) :: L) st h Q = zG d 728 61 (l0 :: l1 :: some (.int x) :: L) (.int x :: st) h Q := g_ldI rfl rfl
theorem g728_61 (hT : (zT h b).1 = 20) (hi : zin i (zT h b).2) : zG d 728 61 L (.int i :: .ref b :: st) h Q = zG d 728 62 L (.int (zI h b i.toNatClampNeg) :: st) h Q := g_ia rfl hT hi
theorem g728_62 (hT : (zT h a).1 = 7) : zG d 728 62 L [v1, v0, .ref a] h Q = zCall d 729 [.ref a, v0, v1] h (fun v h1 => zG d 728 65 L (zpush v []) h1 Q) := g_cV rfl rfl rfl rfl (Nat.le_of_ble_eq_true rfl) hT
theorem g728_65 : zG d 728 65 (l0 :: l1 :: some (.int x) :: L) st h Q = zG d 728 68 (l0 :: kl l1 :: some (.int (x + 1)) :: L) st h Q := g_inc rfl rfl rfl
theorem g728_68 : zG d 728 68 L st h Q = zG d 728 23 L st h Q := g_go rfl
theorem g728_71 : zG d 728 71 (l0 :: some (.int x) :: L) st h Q = zG d 728 72 (l0 :: some (.int x) :: L) (.int x :: st) h Q := g_ldI rfl rfl
theorem g728_72 : zG d 728 72 L (.int x :: st) h Q = if ¬ x = 0 then zG d 728 85 L st h Q else zG d 728 75 L st h Q := g_i1 (P := fun x => ¬ x = 0) rfl
theorem g728_75 : zG d 728 75 (some (.ref a) :: L) st h Q = zG d 728 76 (some (.ref a) :: L) (.ref a :: st) h Q := g_ldA rfl rfl
theorem g728_76 (hT : zT h a = (7, 10)) : zG d 728 76 L (.ref a :: st) h Q = zG d 728 79 L (zR h a 1 :: st) h Q := g_gR rfl hT
theorem g728_79 (hT : zT h a = (2, 12)) : zG d 728 79 L (.ref a :: st) h Q = zG d 728 82 L (.int (zI h a 8) :: st) h Q := g_gI rfl hT
theorem g728_82 : zG d 728 82 L st h Q = zG d 728 94 L st h Q := g_go rfl
theorem g728_85 : zG d 728 85 (some (.ref a) :: L) st h Q = zG d 728 86 (some (.ref a) :: L) (.ref a :: st) h Q := g_ldA rfl rfl
theorem g728_86 (hT : zT h a = (7, 10)) : zG d 728 86 L (.ref a :: st) h Q = zG d 728 89 L (zR h a 1 :: st) h Q := g_gR rfl hT
theorem g728_89 : zG d 728 89 L st h Q = zG d 728 91 L (.int 10 :: st) h Q := g_c rfl
theorem g728_91 (hT : (zT h a).1 = 2) : zG d 728 91 L [v0, .ref a] h Q = zCall d 208 [.ref a, v0] h (fun v h1 => zG d 728 94 L (zpush v []) h1 Q) := g_cV rfl rfl rfl rfl (Nat.le_of_ble_eq_true rfl) hT
theorem g728_94 : zG d 728 94 L [.int x] h Q = Q (some (.int x)) h := g_rI (ok := fun _ => True) rfl trivial
theorem k728 {x0 : Int32} : zCall (d + 1) 728 [.ref a, .int x0] h Q = zG d 728 0 [some (.ref a), some (.int x0), none] [] h Q := zCall_k (Nat.le_of_ble_eq_true rfl) rfl
theorem g729_0 : zG d 729 0 (l0 :: some (.int x) :: L) st h Q = zG d 729 1 (l0 :: some (.int x) :: L) (.int x :: st) h Q := g_ldI rfl rfl
theorem g729_1 : zG d 729 1 L (.int x :: st) h Q = if ¬ x = 0 then zG d 729 15 L st h Q else zG d 729 4 L st h Q := g_i1 (P := fun x => ¬ x = 0) rfl
theorem g729_4 : zG d 729 4 (some (.ref a) :: L) st h Q = zG d 729 5 (some (.ref a) :: L) (.ref a :: st) h Q := g_ldA rfl rfl
theorem g729_5 (hT : zT h a = (7, 10)) : zG d 729 5 L (.ref a :: st) h Q = zG d 729 8 L (zR h a 1 :: st) h Q := g_gR rfl hT
theorem g729_8 : zG d 729 8 L st h Q = zG d 729 9 L (.int 1 :: st) h Q := g_c rfl
theorem g729_9 (hT : (zT h a).1 = 2) : zG d 729 9 L [v0, .ref a] h Q = zCall d 210 [.ref a, v0] h (fun v h1 => zG d 729 12 L (zpush v []) h1 Q) := g_cV rfl rfl rfl rfl (Nat.le_of_ble_eq_true rfl) hT
theorem g729_12 : zG d 729 12 L st h Q = zG d 729 80 L st h Q := g_go rfl
theorem g729_15 : zG d 729 15 (some (.ref a) :: L) st h Q = zG d 729 16 (some (.ref a) :: L) (.ref a :: st) h Q := g_ldA rfl rfl
theorem g729_16 : zG d 729 16 (l0 :: l1 :: some (.int x) :: L) st h Q = zG d 729 17 (l0 :: l1 :: some (.int x) :: L) (.int x :: st) h Q := g_ldI rfl rfl
theorem g729_17 (hT : (zT h a).1 = 7) : zG d 729 17 L [v0, .ref a] h Q = zCall d 743 [.ref a, v0] h (fun v h1 => zG d 729 20 L (zpush v []) h1 Q) := g_cV rfl rfl rfl rfl (Nat.le_of_ble_eq_true rfl) hT
theorem g729_20 : zG d 729 20 L (.int x :: st) h Q = if ¬ x = 0 then zG d 729 24 L st h Q else zG d 729 23 L st h Q := g_i1 (P := fun x => ¬ x = 0) rfl
theorem g729_23 : zG d 729 23 L [] h Q = Q none h := g_rV rfl
theorem g729_24 : zG d 729 24 (l0 :: some (.int x) :: L) st h Q = zG d 729 25 (l0 :: some (.int x) :: L) (.int x :: st) h Q := g_ldI rfl rfl
theorem g729_25 : zG d 729 25 L st h Q = zG d 729 26 L (.int 1 :: st) h Q := g_c rfl
theorem g729_26 : zG d 729 26 L (.int z :: .int x :: st) h Q = if ¬ x = z then zG d 729 41 L st h Q else zG d 729 29 L st h Q := g_i2 (P := fun x z => ¬ x = z) rfl
theorem g729_29 : zG d 729 29 (some (.ref a) :: L) st h Q = zG d 729 30 (some (.ref a) :: L) (.ref a :: st) h Q := g_ldA rfl rfl
theorem g729_30 (hT : zT h a = (7, 10)) : zG d 729 30 L (.ref a :: st) h Q = zG d 729 33 L (zR h a 1 :: st) h Q := g_gR rfl hT
theorem g729_33 : zG d 729 33 (l0 :: l1 :: some (.int x) :: L) st h Q = zG d 729 34 (l0 :: l1 :: some (.int x) :: L) (.int x :: st) h Q := g_ldI rfl rfl
theorem g729_34 : zG d 729 34 L st h Q = zG d 729 35 L (.int 0 :: st) h Q := g_c rfl
theorem g729_35 (hT : (zT h a).1 = 2) : zG d 729 35 L [v1, v0, .ref a] h Q = zCall d 204 [.ref a, v0, v1] h (fun v h1 => zG d 729 38 L (zpush v []) h1 Q) := g_cV rfl rfl rfl rfl (Nat.le_of_ble_eq_true rfl) hT
theorem g729_38 : zG d 729 38 L st h Q = zG d 729 80 L st h Q := g_go rfl
theorem g729_41 : zG d 729 41 (l0 :: some (.int x) :: L) st h Q = zG d 729 42 (l0 :: some (.int x) :: L) (.int x :: st) h Q := g_ldI rfl rfl
theorem g729_42 : zG d 729 42 L st h Q = zG d 729 43 L (.int 2 :: st) h Q := g_c rfl
theorem g729_43 : zG d 729 43 L (.int z :: .int x :: st) h Q = if ¬ x = z then zG d 729 59 L st h Q else zG d 729 46 L st h Q := g_i2 (P := fun x z => ¬ x = z) rfl
theorem g729_46 : zG d 729 46 (some (.ref a) :: L) st h Q = zG d 729 47 (some (.ref a) :: L) (.ref a :: st) h Q := g_ldA rfl rfl
theorem g729_47 (hT : zT h a = (7, 10)) : zG d 729 47 L (.ref a :: st) h Q = zG d 729 50 L (zR h a 1 :: st) h Q := g_gR rfl hT
theorem g729_50 : zG d 729 50 (l0 :: l1 :: some (.int x) :: L) st h Q = zG d 729 51 (l0 :: l1 :: some (.int x) :: L) (.int x :: st) h Q := g_ldI rfl rfl
theorem g729_51 : zG d 729 51 L st h Q = zG d 729 53 L (.int 10 :: st) h Q := g_c rfl
theorem g729_53 (hT : (zT h a).1 = 2) : zG d 729 53 L [v1, v0, .ref a] h Q = zCall d 205 [.ref a, v0, v1] h (fun v h1 => zG d 729 56 L (zpush v []) h1 Q) := g_cV rfl rfl rfl rfl (Nat.le_of_ble_eq_true rfl) hT
theorem g729_56 : zG d 729 56 L st h Q = zG d 729 80 L st h Q := g_go rfl
theorem g729_59 : zG d 729 59 (some (.ref a) :: L) st h Q = zG d 729 60 (some (.ref a) :: L) (.ref a :: st) h Q := g_ldA rfl rfl
theorem g729_60 (hT : zT h a = (7, 10)) : zG d 729 60 L (.ref a :: st) h Q = zG d 729 63 L (zR h a 1 :: st) h Q := g_gR rfl hT
theorem g729_63 : zG d 729 63 (l0 :: l1 :: some (.int x) :: L) st h Q = zG d 729 64 (l0 :: l1 :: some (.int x) :: L) (.int x :: st) h Q := g_ldI rfl rfl
theorem g729_64 (hT : (zT h a).1 = 2) : zG d 729 64 L [v0, .ref a] h Q = zCall d 207 [.ref a, v0] h (fun v h1 => zG d 729 67 L (zpush v []) h1 Q) := g_cV rfl rfl rfl rfl (Nat.le_of_ble_eq_true rfl) hT
theorem g729_67 : zG d 729 67 L (.int x :: st) h Q = if x = 0 then zG d 729 80 L st h Q else zG d 729 70 L st h Q := g_i1 (P := fun x => x = 0) rfl
theorem g729_70 : zG d 729 70 (some (.ref a) :: L) st h Q = zG d 729 71 (some (.ref a) :: L) (.ref a :: st) h Q := g_ldA rfl rfl
theorem g729_71 (hT : zT h a = (7, 10)) : zG d 729 71 L (.ref a :: st) h Q = zG d 729 74 L (zR h a 1 :: st) h Q := g_gR rfl hT
theorem g729_74 (hT : zT h a = (2, 12)) : zG d 729 74 L (.ref a :: st) h Q = zG d 729 77 L (zR h a 5 :: st) h Q := g_gR rfl hT
theorem g729_77 : zG d 729 77 (l0 :: l1 :: some (.int x) :: L) st h Q = zG d 729 78 (l0 :: l1 :: some (.int x) :: L) (.int x :: st) h Q := g_ldI rfl rfl
theorem g729_78 : zG d 729 78 L st h Q = zG d 729 79 L (.int 1 :: st) h Q := g_c rfl
theorem g729_79 (hT : (zT h b).1 = 23) (hi : zin i (zT h b).2) : zG d 729 79 L (.int x :: .int i :: .ref b :: st) h Q = zG d 729 80 L st (wI h b i.toNatClampNeg (vp_nar .boolean x)) Q := g_is (f1 := fun x => vp_nar .boolean x) rfl hT hi
theorem g729_80 : zG d 729 80 L [] h Q = Q none h := g_rV rfl
theorem k729 {x0 : Int32} {x1 : Int32} : zCall (d + 1) 729 [.ref a, .int x0, .int x1] h Q = zG d 729 0 [some (.ref a), some (.int x0), some (.int x1)] [] h Q := zCall_k (Nat.le_of_ble_eq_true rfl) rfl
theorem g730_0 : zG d 730 0 (l0 :: some (.int x) :: L) st h Q = zG d 730 1 (l0 :: some (.int x) :: L) (.int x :: st) h Q := g_ldI rfl rfl
theorem g730_1 : zG d 730 1 L st h Q = zG d 730 2 L (.int (-1) :: st) h Q := g_c rfl
theorem g730_2 : zG d 730 2 L (.int z :: .int x :: st) h Q = if ¬ x = z then zG d 730 16 L st h Q else zG d 730 5 L st h Q := g_i2 (P := fun x z => ¬ x = z) rfl
theorem g730_5 : zG d 730 5 (some (.ref a) :: L) st h Q = zG d 730 6 (some (.ref a) :: L) (.ref a :: st) h Q := g_ldA rfl rfl
theorem g730_6 (hT : zT h a = (7, 10)) : zG d 730 6 L (.ref a :: st) h Q = zG d 730 9 L (zR h a 3 :: st) h Q := g_gR rfl hT
theorem g730_9 (hT : zT h a = (1, 3)) : zG d 730 9 L (.ref a :: st) h Q = zG d 730 12 L (zR h a 2 :: st) h Q := g_gR rfl hT
theorem g730_12 (hT : (zT h a).1 = 3) : zG d 730 12 L [.ref a] h Q = zCall d 302 [.ref a] h (fun v h1 => zG d 730 15 L (zpush v []) h1 Q) := g_cV rfl rfl rfl rfl (Nat.le_of_ble_eq_true rfl) hT
theorem g730_15 : zG d 730 15 L [.int x] h Q = Q (some (.int x)) h := g_rI (ok := fun _ => True) rfl trivial
theorem g730_16 : zG d 730 16 (some (.ref a) :: L) st h Q = zG d 730 17 (some (.ref a) :: L) (.ref a :: st) h Q := g_ldA rfl rfl
theorem g730_17 : zG d 730 17 (l0 :: some (.int x) :: L) st h Q = zG d 730 18 (l0 :: some (.int x) :: L) (.int x :: st) h Q := g_ldI rfl rfl
theorem g730_18 (hT : (zT h a).1 = 7) : zG d 730 18 L [v0, .ref a] h Q = zCall d 743 [.ref a, v0] h (fun v h1 => zG d 730 21 L (zpush v []) h1 Q) := g_cV rfl rfl rfl rfl (Nat.le_of_ble_eq_true rfl) hT
theorem g730_21 : zG d 730 21 L (.int x :: st) h Q = if x = 0 then zG d 730 33 L st h Q else zG d 730 24 L st h Q := g_i1 (P := fun x => x = 0) rfl
theorem g730_24 : zG d 730 24 (l0 :: l1 :: some (.int x) :: L) st h Q = zG d 730 25 (l0 :: l1 :: some (.int x) :: L) (.int x :: st) h Q := g_ldI rfl rfl
theorem g730_25 : zG d 730 25 L st h Q = zG d 730 27 L (.int 10 :: st) h Q := g_c rfl
theorem g730_27 : zG d 730 27 L [v1, v0] h Q = zCall d 744 [v0, v1] h (fun v h1 => zG d 730 30 L (zpush v []) h1 Q) := g_cS rfl rfl (Nat.le_of_ble_eq_true rfl) rfl (Nat.le_of_ble_eq_true rfl)
theorem g730_30 : zG d 730 30 L (.int x :: st) h Q = if ¬ x = 0 then zG d 730 35 L st h Q else zG d 730 33 L st h Q := g_i1 (P := fun x => ¬ x = 0) rfl
theorem g730_33 : zG d 730 33 L st h Q = zG d 730 34 L (.int (-1) :: st) h Q := g_c rfl
theorem g730_34 : zG d 730 34 L [.int x] h Q = Q (some (.int x)) h := g_rI (ok := fun _ => True) rfl trivial
theorem g730_35 : zG d 730 35 (some (.ref a) :: L) st h Q = zG d 730 36 (some (.ref a) :: L) (.ref a :: st) h Q := g_ldA rfl rfl
theorem g730_36 (hT : zT h a = (7, 10)) : zG d 730 36 L (.ref a :: st) h Q = zG d 730 39 L (zR h a 3 :: st) h Q := g_gR rfl hT
theorem g730_39 (hT : zT h a = (1, 3)) : zG d 730 39 L (.ref a :: st) h Q = zG d 730 42 L (zR h a 2 :: st) h Q := g_gR rfl hT
theorem g730_42 : zG d 730 42 (l0 :: some (.int x) :: L) st h Q = zG d 730 43 (l0 :: some (.int x) :: L) (.int x :: st) h Q := g_ldI rfl rfl
theorem g730_43 : zG d 730 43 (l0 :: l1 :: some (.int x) :: L) st h Q = zG d 730 44 (l0 :: l1 :: some (.int x) :: L) (.int x :: st) h Q := g_ldI rfl rfl
theorem g730_44 : zG d 730 44 L st h Q = zG d 730 45 L (.int 0 :: st) h Q := g_c rfl
theorem g730_45 (hT : (zT h a).1 = 3) : zG d 730 45 L [v2, v1, v0, .ref a] h Q = zCall d 303 [.ref a, v0, v1, v2] h (fun v h1 => zG d 730 48 L (zpush v []) h1 Q) := g_cV rfl rfl rfl rfl (Nat.le_of_ble_eq_true rfl) hT
theorem g730_48 : zG d 730 48 L [.int x] h Q = Q (some (.int x)) h := g_rI (ok := fun _ => True) rfl trivial
theorem k730 {x0 : Int32} {x1 : Int32} : zCall (d + 1) 730 [.ref a, .int x0, .int x1] h Q = zG d 730 0 [some (.ref a), some (.int x0), some (.int x1)] [] h Q := zCall_k (Nat.le_of_ble_eq_true rfl) rfl
theorem g731_0 : zG d 731 0 L st h Q = zG d 731 1 L (.int 0 :: st) h Q := g_c rfl
theorem g731_1 : zG d 731 1 (l0 :: l1 :: L) (.int x :: st) h Q = zG d 731 2 (kl l0 :: some (.int x) :: L) st h Q := g_stI rfl (by simp) rfl
theorem g731_2 : zG d 731 2 (l0 :: some (.int x) :: L) st h Q = zG d 731 3 (l0 :: some (.int x) :: L) (.int x :: st) h Q := g_ldI rfl rfl
theorem g731_3 : zG d 731 3 (some (.ref a) :: L) st h Q = zG d 731 4 (some (.ref a) :: L) (.ref a :: st) h Q := g_ldA rfl rfl
theorem g731_4 (hT : zT h a = (7, 10)) : zG d 731 4 L (.ref a :: st) h Q = zG d 731 7 L (zR h a 3 :: st) h Q := g_gR rfl hT
theorem g731_7 (hT : zT h a = (1, 3)) : zG d 731 7 L (.ref a :: st) h Q = zG d 731 10 L (zR h a 2 :: st) h Q := g_gR rfl hT
theorem g731_10 (hT : zT h a = (3, 4)) : zG d 731 10 L (.ref a :: st) h Q = zG d 731 13 L (.int (zI h a 3) :: st) h Q := g_gI rfl hT
theorem g731_13 : zG d 731 13 L (.int z :: .int x :: st) h Q = if z ≤ x then zG d 731 58 L st h Q else zG d 731 16 L st h Q := g_i2 (P := fun x z => z ≤ x) rfl
theorem g731_16 : zG d 731 16 (some (.ref a) :: L) st h Q = zG d 731 17 (some (.ref a) :: L) (.ref a :: st) h Q := g_ldA rfl rfl
theorem g731_17 (hT : zT h a = (7, 10)) : zG d 731 17 L (.ref a :: st) h Q = zG d 731 20 L (zR h a 0 :: st) h Q := g_gR rfl hT
theorem g731_20 : zG d 731 20 (some (.ref a) :: L) st h Q = zG d 731 21 (some (.ref a) :: L) (.ref a :: st) h Q := g_ldA rfl rfl
theorem g731_21 (hT : zT h a = (7, 10)) : zG d 731 21 L (.ref a :: st) h Q = zG d 731 24 L (zR h a 3 :: st) h Q := g_gR rfl hT
theorem g731_24 (hT : zT h a = (1, 3)) : zG d 731 24 L (.ref a :: st) h Q = zG d 731 27 L (zR h a 2 :: st) h Q := g_gR rfl hT
theorem g731_27 (hT : zT h a = (3, 4)) : zG d 731 27 L (.ref a :: st) h Q = zG d 731 30 L (zR h a 0 :: st) h Q := g_gR rfl hT
theorem g731_30 : zG d 731 30 (l0 :: some (.int x) :: L) st h Q = zG d 731 31 (l0 :: some (.int x) :: L) (.int x :: st) h Q := g_ldI rfl rfl
theorem g731_31 (hT : (zT h b).1 = 20) (hi : zin i (zT h b).2) : zG d 731 31 L (.int i :: .ref b :: st) h Q = zG d 731 32 L (.int (zI h b i.toNatClampNeg) :: st) h Q := g_ia rfl hT hi
theorem g731_32 : zG d 731 32 (some (.ref a) :: L) st h Q = zG d 731 33 (some (.ref a) :: L) (.ref a :: st) h Q := g_ldA rfl rfl
theorem g731_33 (hT : zT h a = (7, 10)) : zG d 731 33 L (.ref a :: st) h Q = zG d 731 36 L (zR h a 3 :: st) h Q := g_gR rfl hT
theorem g731_36 (hT : zT h a = (1, 3)) : zG d 731 36 L (.ref a :: st) h Q = zG d 731 39 L (zR h a 2 :: st) h Q := g_gR rfl hT
theorem g731_39 (hT : zT h a = (3, 4)) : zG d 731 39 L (.ref a :: st) h Q = zG d 731 42 L (zR h a 1 :: st) h Q := g_gR rfl hT
theorem g731_42 : zG d 731 42 (l0 :: some (.int x) :: L) st h Q = zG d 731 43 (l0 :: some (.int x) :: L) (.int x :: st) h Q := g_ldI rfl rfl
theorem g731_43 (hT : (zT h b).1 = 20) (hi : zin i (zT h b).2) : zG d 731 43 L (.int i :: .ref b :: st) h Q = zG d 731 44 L (.int (zI h b i.toNatClampNeg) :: st) h Q := g_ia rfl hT hi
theorem g731_44 (hT : (zT h a).1 = 2) : zG d 731 44 L [v1, v0, .ref a] h Q = zCall d 206 [.ref a, v0, v1] h (fun v h1 => zG d 731 47 L (zpush v []) h1 Q) := g_cV rfl rfl rfl rfl (Nat.le_of_ble_eq_true rfl) hT
theorem g731_47 : zG d 731 47 L (.int x :: st) h Q = if ¬ x = 0 then zG d 731 52 L st h Q else zG d 731 50 L st h Q := g_i1 (P := fun x => ¬ x = 0) rfl
theorem g731_50 : zG d 731 50 (l0 :: some (.int x) :: L) st h Q = zG d 731 51 (l0 :: some (.int x) :: L) (.int x :: st) h Q := g_ldI rfl rfl
theorem g731_51 : zG d 731 51 L [.int x] h Q = Q (some (.int x)) h := g_rI (ok := fun _ => True) rfl trivial
theorem g731_52 : zG d 731 52 (l0 :: some (.int x) :: L) st h Q = zG d 731 55 (kl l0 :: some (.int (x + 1)) :: L) st h Q := g_inc rfl rfl rfl
theorem g731_55 : zG d 731 55 L st h Q = zG d 731 2 L st h Q := g_go rfl
theorem g731_58 : zG d 731 58 L st h Q = zG d 731 60 L (.int (-5) :: st) h Q := g_c rfl
theorem g731_60 : zG d 731 60 L [.int x] h Q = Q (some (.int x)) h := g_rI (ok := fun _ => True) rfl trivial
theorem k731  : zCall (d + 1) 731 [.ref a] h Q = zG d 731 0 [some (.ref a), none] [] h Q := zCall_k (Nat.le_of_ble_eq_true rfl) rfl
theorem g732_0 : zG d 732 0 (l0 :: some (.int x) :: L) st h Q = zG d 732 1 (l0 :: some (.int x) :: L) (.int x :: st) h Q := g_ldI rfl rfl
theorem g732_1 : zG d 732 1 L st h Q = zG d 732 2 L (.int 5 :: st) h Q := g_c rfl
theorem g732_2 : zG d 732 2 L [v1, v0] h Q = zCall d 744 [v0, v1] h (fun v h1 => zG d 732 5 L (zpush v []) h1 Q) := g_cS rfl rfl (Nat.le_of_ble_eq_true rfl) rfl (Nat.le_of_ble_eq_true rfl)
theorem g732_5 : zG d 732 5 L (.int x :: st) h Q = if ¬ x = 0 then zG d 732 10 L st h Q else zG d 732 8 L st h Q := g_i1 (P := fun x => ¬ x = 0) rfl
theorem g732_8 : zG d 732 8 L st h Q = zG d 732 9 L (.int (-1) :: st) h Q := g_c rfl
theorem g732_9 : zG d 732 9 L [.int x] h Q = Q (some (.int x)) h := g_rI (ok := fun _ => True) rfl trivial
theorem g732_10 : zG d 732 10 (some (.ref a) :: L) st h Q = zG d 732 11 (some (.ref a) :: L) (.ref a :: st) h Q := g_ldA rfl rfl
theorem g732_11 (hT : zT h a = (7, 10)) : zG d 732 11 L (.ref a :: st) h Q = zG d 732 14 L (zR h a 9 :: st) h Q := g_gR rfl hT
theorem g732_14 : zG d 732 14 (l0 :: some (.int x) :: L) st h Q = zG d 732 15 (l0 :: some (.int x) :: L) (.int x :: st) h Q := g_ldI rfl rfl
theorem g732_15 (hT : (zT h b).1 = 25) (hi : zin i (zT h b).2) : zG d 732 15 L (.int i :: .ref b :: st) h Q = zG d 732 16 L (zR h b i.toNatClampNeg :: st) h Q := g_ra rfl hT hi
theorem g732_16 : zG d 732 16 (l0 :: l1 :: l2 :: l3 :: L) (.ref a :: st) h Q = zG d 732 17 (l0 :: l1 :: kl l2 :: some (.ref a) :: L) st h Q := g_stA rfl (by simp) rfl
theorem g732_17 : zG d 732 17 (l0 :: l1 :: l2 :: some (.ref a) :: L) st h Q = zG d 732 18 (l0 :: l1 :: l2 :: some (.ref a) :: L) (.ref a :: st) h Q := g_ldA rfl rfl
theorem g732_18 (hT : (zT h a).1 = 6) : zG d 732 18 L [.ref a] h Q = zCall d 602 [.ref a] h (fun v h1 => zG d 732 21 L (zpush v []) h1 Q) := g_cV rfl rfl rfl rfl (Nat.le_of_ble_eq_true rfl) hT
theorem g732_21 : zG d 732 21 L (.int x :: st) h Q = if ¬ x = 0 then zG d 732 35 L st h Q else zG d 732 24 L st h Q := g_i1 (P := fun x => ¬ x = 0) rfl
theorem g732_24 : zG d 732 24 (l0 :: l1 :: l2 :: some (.ref a) :: L) st h Q = zG d 732 25 (l0 :: l1 :: l2 :: some (.ref a) :: L) (.ref a :: st) h Q := g_ldA rfl rfl
theorem g732_25 (hT : zT h a = (6, 3)) : zG d 732 25 L (.ref a :: st) h Q = zG d 732 28 L (.int (zI h a 0) :: st) h Q := g_gI rfl hT
theorem g732_28 : zG d 732 28 L st h Q = zG d 732 29 L (.int 4 :: st) h Q := g_c rfl
theorem g732_29 : zG d 732 29 L (.int z :: .int x :: st) h Q = if x = z then zG d 732 35 L st h Q else zG d 732 32 L st h Q := g_i2 (P := fun x z => x = z) rfl
theorem g732_32 : zG d 732 32 L st h Q = zG d 732 34 L (.int (-12) :: st) h Q := g_c rfl
theorem g732_34 : zG d 732 34 L [.int x] h Q = Q (some (.int x)) h := g_rI (ok := fun _ => True) rfl trivial
theorem g732_35 : zG d 732 35 L st h Q = zG d 732 36 L (.int 0 :: st) h Q := g_c rfl
theorem g732_36 : zG d 732 36 (l0 :: l1 :: l2 :: l3 :: l4 :: L) (.int x :: st) h Q = zG d 732 38 (l0 :: l1 :: l2 :: kl l3 :: some (.int x) :: L) st h Q := g_stI rfl (by simp) rfl
theorem g732_38 : zG d 732 38 (l0 :: l1 :: l2 :: l3 :: some (.int x) :: L) st h Q = zG d 732 40 (l0 :: l1 :: l2 :: l3 :: some (.int x) :: L) (.int x :: st) h Q := g_ldI rfl rfl
theorem g732_40 : zG d 732 40 (some (.ref a) :: L) st h Q = zG d 732 41 (some (.ref a) :: L) (.ref a :: st) h Q := g_ldA rfl rfl
theorem g732_41 (hT : zT h a = (7, 10)) : zG d 732 41 L (.ref a :: st) h Q = zG d 732 44 L (zR h a 0 :: st) h Q := g_gR rfl hT
theorem g732_44 (hT : zT h a = (2, 12)) : zG d 732 44 L (.ref a :: st) h Q = zG d 732 47 L (.int (zI h a 7) :: st) h Q := g_gI rfl hT
theorem g732_47 : zG d 732 47 L (.int z :: .int x :: st) h Q = if z ≤ x then zG d 732 112 L st h Q else zG d 732 50 L st h Q := g_i2 (P := fun x z => z ≤ x) rfl
theorem g732_50 : zG d 732 50 (l0 :: l1 :: some (.int x) :: L) st h Q = zG d 732 51 (l0 :: l1 :: some (.int x) :: L) (.int x :: st) h Q := g_ldI rfl rfl
theorem g732_51 : zG d 732 51 L (.int x :: st) h Q = if x < 0 then zG d 732 65 L st h Q else zG d 732 54 L st h Q := g_i1 (P := fun x => x < 0) rfl
theorem g732_54 : zG d 732 54 (l0 :: l1 :: some (.int x) :: L) st h Q = zG d 732 55 (l0 :: l1 :: some (.int x) :: L) (.int x :: st) h Q := g_ldI rfl rfl
theorem g732_55 : zG d 732 55 (l0 :: l1 :: l2 :: some (.ref a) :: L) st h Q = zG d 732 56 (l0 :: l1 :: l2 :: some (.ref a) :: L) (.ref a :: st) h Q := g_ldA rfl rfl
theorem g732_56 (hT : zT h a = (6, 3)) : zG d 732 56 L (.ref a :: st) h Q = zG d 732 59 L (.int (zI h a 1) :: st) h Q := g_gI rfl hT
theorem g732_59 : zG d 732 59 (l0 :: l1 :: l2 :: l3 :: some (.int x) :: L) st h Q = zG d 732 61 (l0 :: l1 :: l2 :: l3 :: some (.int x) :: L) (.int x :: st) h Q := g_ldI rfl rfl
theorem g732_61 : zG d 732 61 L (.int z :: .int x :: st) h Q = zG d 732 62 L (.int (x - z) :: st) h Q := g_b (f := fun x z => x - z) rfl
theorem g732_62 : zG d 732 62 L (.int z :: .int x :: st) h Q = if x < z then zG d 732 71 L st h Q else zG d 732 65 L st h Q := g_i2 (P := fun x z => x < z) rfl
theorem g732_65 : zG d 732 65 L st h Q = zG d 732 67 L (.int 100 :: st) h Q := g_c rfl
theorem g732_67 : zG d 732 67 (l0 :: l1 :: l2 :: l3 :: some (.int x) :: L) st h Q = zG d 732 69 (l0 :: l1 :: l2 :: l3 :: some (.int x) :: L) (.int x :: st) h Q := g_ldI rfl rfl
theorem g732_69 : zG d 732 69 L (.int z :: .int x :: st) h Q = zG d 732 70 L (.int (x + z) :: st) h Q := g_b (f := fun x z => x + z) rfl
theorem g732_70 : zG d 732 70 L [.int x] h Q = Q (some (.int x)) h := g_rI (ok := fun _ => True) rfl trivial
theorem g732_71 : zG d 732 71 (l0 :: l1 :: l2 :: some (.ref a) :: L) st h Q = zG d 732 72 (l0 :: l1 :: l2 :: some (.ref a) :: L) (.ref a :: st) h Q := g_ldA rfl rfl
theorem g732_72 (hT : zT h a = (6, 3)) : zG d 732 72 L (.ref a :: st) h Q = zG d 732 75 L (zR h a 2 :: st) h Q := g_gR rfl hT
theorem g732_75 : zG d 732 75 (l0 :: l1 :: some (.int x) :: L) st h Q = zG d 732 76 (l0 :: l1 :: some (.int x) :: L) (.int x :: st) h Q := g_ldI rfl rfl
theorem g732_76 : zG d 732 76 (l0 :: l1 :: l2 :: l3 :: some (.int x) :: L) st h Q = zG d 732 78 (l0 :: l1 :: l2 :: l3 :: some (.int x) :: L) (.int x :: st) h Q := g_ldI rfl rfl
theorem g732_78 : zG d 732 78 L (.int z :: .int x :: st) h Q = zG d 732 79 L (.int (x + z) :: st) h Q := g_b (f := fun x z => x + z) rfl
theorem g732_79 (hT : (zT h b).1 = 24) (hi : zin i (zT h b).2) : zG d 732 79 L (.int i :: .ref b :: st) h Q = zG d 732 80 L (.long (zJ h b i.toNatClampNeg) :: st) h Q := g_ja rfl hT hi
theorem g732_80 : zG d 732 80 (some (.ref a) :: L) st h Q = zG d 732 81 (some (.ref a) :: L) (.ref a :: st) h Q := g_ldA rfl rfl
theorem g732_81 (hT : zT h a = (7, 10)) : zG d 732 81 L (.ref a :: st) h Q = zG d 732 84 L (zR h a 0 :: st) h Q := g_gR rfl hT
theorem g732_84 (hT : zT h a = (2, 12)) : zG d 732 84 L (.ref a :: st) h Q = zG d 732 87 L (zR h a 5 :: st) h Q := g_gR rfl hT
theorem g732_87 : zG d 732 87 (l0 :: l1 :: l2 :: l3 :: some (.int x) :: L) st h Q = zG d 732 89 (l0 :: l1 :: l2 :: l3 :: some (.int x) :: L) (.int x :: st) h Q := g_ldI rfl rfl
theorem g732_89 (hT : (zT h b).1 = 23) (hi : zin i (zT h b).2) : zG d 732 89 L (.int i :: .ref b :: st) h Q = zG d 732 90 L (.int (zI h b i.toNatClampNeg) :: st) h Q := g_ia rfl hT hi
theorem g732_90 : zG d 732 90 L (.int x :: st) h Q = if x = 0 then zG d 732 97 L st h Q else zG d 732 93 L st h Q := g_i1 (P := fun x => x = 0) rfl
theorem g732_93 : zG d 732 93 L st h Q = zG d 732 94 L (.int 1 :: st) h Q := g_c rfl
theorem g732_94 : zG d 732 94 L st h Q = zG d 732 98 L st h Q := g_go rfl
theorem g732_97 : zG d 732 97 L st h Q = zG d 732 98 L (.int 0 :: st) h Q := g_c rfl
theorem g732_98 : zG d 732 98 L (.int x :: st) h Q = zG d 732 99 L (.long x.toInt64 :: st) h Q := g_i2l rfl
theorem g732_99 : zG d 732 99 L (.long w :: .long u :: st) h Q = zG d 732 100 L (.int (zcmp u w) :: st) h Q := g_lcmp rfl
theorem g732_100 : zG d 732 100 L (.int x :: st) h Q = if x = 0 then zG d 732 106 L st h Q else zG d 732 103 L st h Q := g_i1 (P := fun x => x = 0) rfl
theorem g732_103 : zG d 732 103 (l0 :: l1 :: l2 :: l3 :: some (.int x) :: L) st h Q = zG d 732 105 (l0 :: l1 :: l2 :: l3 :: some (.int x) :: L) (.int x :: st) h Q := g_ldI rfl rfl
theorem g732_105 : zG d 732 105 L [.int x] h Q = Q (some (.int x)) h := g_rI (ok := fun _ => True) rfl trivial
theorem g732_106 : zG d 732 106 (l0 :: l1 :: l2 :: l3 :: some (.int x) :: L) st h Q = zG d 732 109 (l0 :: l1 :: l2 :: kl l3 :: some (.int (x + 1)) :: L) st h Q := g_inc rfl rfl rfl
theorem g732_109 : zG d 732 109 L st h Q = zG d 732 38 L st h Q := g_go rfl
theorem g732_112 : zG d 732 112 L st h Q = zG d 732 114 L (.int (-5) :: st) h Q := g_c rfl
theorem g732_114 : zG d 732 114 L [.int x] h Q = Q (some (.int x)) h := g_rI (ok := fun _ => True) rfl trivial
theorem k732 {x0 : Int32} {x1 : Int32} : zCall (d + 1) 732 [.ref a, .int x0, .int x1] h Q = zG d 732 0 [some (.ref a), some (.int x0), some (.int x1), none, none] [] h Q := zCall_k (Nat.le_of_ble_eq_true rfl) rfl
theorem g733_0 : zG d 733 0 (some (.ref a) :: L) st h Q = zG d 733 1 (some (.ref a) :: L) (.ref a :: st) h Q := g_ldA rfl rfl
theorem g733_1 (hT : zT h a = (7, 10)) : zG d 733 1 L (.ref a :: st) h Q = zG d 733 4 L (zR h a 2 :: st) h Q := g_gR rfl hT
theorem g733_4 : zG d 733 4 (some (.ref a) :: L) st h Q = zG d 733 5 (some (.ref a) :: L) (.ref a :: st) h Q := g_ldA rfl rfl
theorem g733_5 (hT : zT h a = (7, 10)) : zG d 733 5 L (.ref a :: st) h Q = zG d 733 8 L (zR h a 0 :: st) h Q := g_gR rfl hT
theorem g733_8 (hT : (zT h a).1 = 2) : zG d 733 8 L [v0, .ref a] h Q = zCall d 202 [.ref a, v0] h (fun v h1 => zG d 733 11 L (zpush v []) h1 Q) := g_cV rfl rfl rfl rfl (Nat.le_of_ble_eq_true rfl) hT
theorem g733_11 : zG d 733 11 (some (.ref a) :: L) st h Q = zG d 733 12 (some (.ref a) :: L) (.ref a :: st) h Q := g_ldA rfl rfl
theorem g733_12 (hT : zT h a = (7, 10)) : zG d 733 12 L (.ref a :: st) h Q = zG d 733 15 L (zR h a 4 :: st) h Q := g_gR rfl hT
theorem g733_15 : zG d 733 15 (some (.ref a) :: L) st h Q = zG d 733 16 (some (.ref a) :: L) (.ref a :: st) h Q := g_ldA rfl rfl
theorem g733_16 (hT : zT h a = (7, 10)) : zG d 733 16 L (.ref a :: st) h Q = zG d 733 19 L (zR h a 3 :: st) h Q := g_gR rfl hT
theorem g733_19 (hT : (zT h a).1 = 1) : zG d 733 19 L [v0, .ref a] h Q = zCall d 102 [.ref a, v0] h (fun v h1 => zG d 733 22 L (zpush v []) h1 Q) := g_cV rfl rfl rfl rfl (Nat.le_of_ble_eq_true rfl) hT
theorem g733_22 : zG d 733 22 (some (.ref a) :: L) st h Q = zG d 733 23 (some (.ref a) :: L) (.ref a :: st) h Q := g_ldA rfl rfl
theorem g733_23 : zG d 733 23 L st h Q = zG d 733 24 L (.int 1 :: st) h Q := g_c rfl
theorem g733_24 (hT : zT h a = (7, 10)) (hx : x = 0 ∨ x = 1) : zG d 733 24 L (.int x :: .ref a :: st) h Q = zG d 733 27 L st (wI h a 5 x) Q := g_pZ rfl hT hx
theorem g733_27 : zG d 733 27 (some (.ref a) :: L) st h Q = zG d 733 28 (some (.ref a) :: L) (.ref a :: st) h Q := g_ldA rfl rfl
theorem g733_28 (hT : zT h a = (7, 10)) : zG d 733 28 L (.ref a :: st) h Q = zG d 733 31 L (zR h a 0 :: st) h Q := g_gR rfl hT
theorem g733_31 (hT : zT h a = (2, 12)) : zG d 733 31 L (.ref a :: st) h Q = zG d 733 34 L (.int (zI h a 7) :: st) h Q := g_gI rfl hT
theorem g733_34 : zG d 733 34 L [.int x] h Q = Q (some (.int x)) h := g_rI (ok := fun _ => True) rfl trivial
theorem k733  : zCall (d + 1) 733 [.ref a] h Q = zG d 733 0 [some (.ref a)] [] h Q := zCall_k (Nat.le_of_ble_eq_true rfl) rfl
theorem g734_0 : zG d 734 0 (some (.ref a) :: L) st h Q = zG d 734 1 (some (.ref a) :: L) (.ref a :: st) h Q := g_ldA rfl rfl
theorem g734_1 (hT : zT h a = (7, 10)) : zG d 734 1 L (.ref a :: st) h Q = zG d 734 4 L (.int (zI h a 5) :: st) h Q := g_gI rfl hT
theorem g734_4 : zG d 734 4 L (.int x :: st) h Q = if ¬ x = 0 then zG d 734 10 L st h Q else zG d 734 7 L st h Q := g_i1 (P := fun x => ¬ x = 0) rfl
theorem g734_7 : zG d 734 7 L st h Q = zG d 734 9 L (.int (-3) :: st) h Q := g_c rfl
theorem g734_9 : zG d 734 9 L [.int x] h Q = Q (some (.int x)) h := g_rI (ok := fun _ => True) rfl trivial
theorem g734_10 : zG d 734 10 (some (.ref a) :: L) st h Q = zG d 734 11 (some (.ref a) :: L) (.ref a :: st) h Q := g_ldA rfl rfl
theorem g734_11 (hT : zT h a = (7, 10)) : zG d 734 11 L (.ref a :: st) h Q = zG d 734 14 L (zR h a 0 :: st) h Q := g_gR rfl hT
theorem g734_14 : zG d 734 14 (some (.ref a) :: L) st h Q = zG d 734 15 (some (.ref a) :: L) (.ref a :: st) h Q := g_ldA rfl rfl
theorem g734_15 (hT : zT h a = (7, 10)) : zG d 734 15 L (.ref a :: st) h Q = zG d 734 18 L (zR h a 2 :: st) h Q := g_gR rfl hT
theorem g734_18 (hT : (zT h a).1 = 2) : zG d 734 18 L [v0, .ref a] h Q = zCall d 202 [.ref a, v0] h (fun v h1 => zG d 734 21 L (zpush v []) h1 Q) := g_cV rfl rfl rfl rfl (Nat.le_of_ble_eq_true rfl) hT
theorem g734_21 : zG d 734 21 (some (.ref a) :: L) st h Q = zG d 734 22 (some (.ref a) :: L) (.ref a :: st) h Q := g_ldA rfl rfl
theorem g734_22 (hT : zT h a = (7, 10)) : zG d 734 22 L (.ref a :: st) h Q = zG d 734 25 L (zR h a 3 :: st) h Q := g_gR rfl hT
theorem g734_25 : zG d 734 25 (some (.ref a) :: L) st h Q = zG d 734 26 (some (.ref a) :: L) (.ref a :: st) h Q := g_ldA rfl rfl
theorem g734_26 (hT : zT h a = (7, 10)) : zG d 734 26 L (.ref a :: st) h Q = zG d 734 29 L (zR h a 4 :: st) h Q := g_gR rfl hT
theorem g734_29 (hT : (zT h a).1 = 1) : zG d 734 29 L [v0, .ref a] h Q = zCall d 102 [.ref a, v0] h (fun v h1 => zG d 734 32 L (zpush v []) h1 Q) := g_cV rfl rfl rfl rfl (Nat.le_of_ble_eq_true rfl) hT
theorem g734_32 : zG d 734 32 (some (.ref a) :: L) st h Q = zG d 734 33 (some (.ref a) :: L) (.ref a :: st) h Q := g_ldA rfl rfl
theorem g734_33 (hT : zT h a = (7, 10)) : zG d 734 33 L (.ref a :: st) h Q = zG d 734 36 L (zR h a 0 :: st) h Q := g_gR rfl hT
theorem g734_36 (hT : zT h a = (2, 12)) : zG d 734 36 L (.ref a :: st) h Q = zG d 734 39 L (.int (zI h a 7) :: st) h Q := g_gI rfl hT
theorem g734_39 : zG d 734 39 L [.int x] h Q = Q (some (.int x)) h := g_rI (ok := fun _ => True) rfl trivial
theorem k734  : zCall (d + 1) 734 [.ref a] h Q = zG d 734 0 [some (.ref a)] [] h Q := zCall_k (Nat.le_of_ble_eq_true rfl) rfl
theorem g735_0 : zG d 735 0 (some (.ref a) :: L) st h Q = zG d 735 1 (some (.ref a) :: L) (.ref a :: st) h Q := g_ldA rfl rfl
theorem g735_1 (hT : zT h a = (7, 10)) : zG d 735 1 L (.ref a :: st) h Q = zG d 735 4 L (zR h a 8 :: st) h Q := g_gR rfl hT
theorem g735_4 (hT : (zT h a).1 = 0) : zG d 735 4 L [.ref a] h Q = zCall d 3 [.ref a] h (fun v h1 => zG d 735 7 L (zpush v []) h1 Q) := g_cV rfl rfl rfl rfl (Nat.le_of_ble_eq_true rfl) hT
theorem g735_7 : zG d 735 7 (some (.ref a) :: L) st h Q = zG d 735 8 (some (.ref a) :: L) (.ref a :: st) h Q := g_ldA rfl rfl
theorem g735_8 : zG d 735 8 (l0 :: some (.int x) :: L) st h Q = zG d 735 9 (l0 :: some (.int x) :: L) (.int x :: st) h Q := g_ldI rfl rfl
theorem g735_9 (hT : (zT h a).1 = 7) : zG d 735 9 L [v0, .ref a] h Q = zCall d 743 [.ref a, v0] h (fun v h1 => zG d 735 12 L (zpush v []) h1 Q) := g_cV rfl rfl rfl rfl (Nat.le_of_ble_eq_true rfl) hT
theorem g735_12 : zG d 735 12 L (.int x :: st) h Q = if x = 0 then zG d 735 23 L st h Q else zG d 735 15 L st h Q := g_i1 (P := fun x => x = 0) rfl
theorem g735_15 : zG d 735 15 (l0 :: l1 :: some (.int x) :: L) st h Q = zG d 735 16 (l0 :: l1 :: some (.int x) :: L) (.int x :: st) h Q := g_ldI rfl rfl
theorem g735_16 : zG d 735 16 L st h Q = zG d 735 17 L (.int 2 :: st) h Q := g_c rfl
theorem g735_17 : zG d 735 17 L [v1, v0] h Q = zCall d 744 [v0, v1] h (fun v h1 => zG d 735 20 L (zpush v []) h1 Q) := g_cS rfl rfl (Nat.le_of_ble_eq_true rfl) rfl (Nat.le_of_ble_eq_true rfl)
theorem g735_20 : zG d 735 20 L (.int x :: st) h Q = if ¬ x = 0 then zG d 735 25 L st h Q else zG d 735 23 L st h Q := g_i1 (P := fun x => ¬ x = 0) rfl
theorem g735_23 : zG d 735 23 L st h Q = zG d 735 24 L (.int 0 :: st) h Q := g_c rfl
theorem g735_24 : zG d 735 24 L [.int x] h Q = Q (some (.int x)) h := g_rI (ok := fun _ => True) rfl trivial
theorem g735_25 : zG d 735 25 (some (.ref a) :: L) st h Q = zG d 735 26 (some (.ref a) :: L) (.ref a :: st) h Q := g_ldA rfl rfl
theorem g735_26 (hT : zT h a = (7, 10)) : zG d 735 26 L (.ref a :: st) h Q = zG d 735 29 L (zR h a 8 :: st) h Q := g_gR rfl hT
theorem g735_29 : zG d 735 29 (l0 :: some (.int x) :: L) st h Q = zG d 735 30 (l0 :: some (.int x) :: L) (.int x :: st) h Q := g_ldI rfl rfl
theorem g735_30 : zG d 735 30 (some (.ref a) :: L) st h Q = zG d 735 31 (some (.ref a) :: L) (.ref a :: st) h Q := g_ldA rfl rfl
theorem g735_31 (hT : zT h a = (7, 10)) : zG d 735 31 L (.ref a :: st) h Q = zG d 735 34 L (zR h a 0 :: st) h Q := g_gR rfl hT
theorem g735_34 (hT : zT h a = (2, 12)) : zG d 735 34 L (.ref a :: st) h Q = zG d 735 37 L (zR h a 1 :: st) h Q := g_gR rfl hT
theorem g735_37 : zG d 735 37 (l0 :: some (.int x) :: L) st h Q = zG d 735 38 (l0 :: some (.int x) :: L) (.int x :: st) h Q := g_ldI rfl rfl
theorem g735_38 (hT : (zT h b).1 = 20) (hi : zin i (zT h b).2) : zG d 735 38 L (.int i :: .ref b :: st) h Q = zG d 735 39 L (.int (zI h b i.toNatClampNeg) :: st) h Q := g_ia rfl hT hi
theorem g735_39 : zG d 735 39 (some (.ref a) :: L) st h Q = zG d 735 40 (some (.ref a) :: L) (.ref a :: st) h Q := g_ldA rfl rfl
theorem g735_40 (hT : zT h a = (7, 10)) : zG d 735 40 L (.ref a :: st) h Q = zG d 735 43 L (zR h a 0 :: st) h Q := g_gR rfl hT
theorem g735_43 (hT : zT h a = (2, 12)) : zG d 735 43 L (.ref a :: st) h Q = zG d 735 46 L (zR h a 0 :: st) h Q := g_gR rfl hT
theorem g735_46 : zG d 735 46 (l0 :: some (.int x) :: L) st h Q = zG d 735 47 (l0 :: some (.int x) :: L) (.int x :: st) h Q := g_ldI rfl rfl
theorem g735_47 (hT : (zT h b).1 = 20) (hi : zin i (zT h b).2) : zG d 735 47 L (.int i :: .ref b :: st) h Q = zG d 735 48 L (.int (zI h b i.toNatClampNeg) :: st) h Q := g_ia rfl hT hi
theorem g735_48 : zG d 735 48 (l0 :: l1 :: some (.int x) :: L) st h Q = zG d 735 49 (l0 :: l1 :: some (.int x) :: L) (.int x :: st) h Q := g_ldI rfl rfl
theorem g735_49 : zG d 735 49 (l0 :: l1 :: l2 :: some (.int x) :: L) st h Q = zG d 735 50 (l0 :: l1 :: l2 :: some (.int x) :: L) (.int x :: st) h Q := g_ldI rfl rfl
theorem g735_50 (hT : (zT h a).1 = 0) : zG d 735 50 L [v4, v3, v2, v1, v0, .ref a] h Q = zCall d 5 [.ref a, v0, v1, v2, v3, v4] h (fun v h1 => zG d 735 53 L (zpush v []) h1 Q) := g_cV rfl rfl rfl rfl (Nat.le_of_ble_eq_true rfl) hT
theorem g735_53 : zG d 735 53 L [.int x] h Q = Q (some (.int x)) h := g_rI (ok := fun _ => True) rfl trivial
theorem k735 {x0 : Int32} {x1 : Int32} {x2 : Int32} : zCall (d + 1) 735 [.ref a, .int x0, .int x1, .int x2] h Q = zG d 735 0 [some (.ref a), some (.int x0), some (.int x1), some (.int x2)] [] h Q := zCall_k (Nat.le_of_ble_eq_true rfl) rfl
theorem g736_0 : zG d 736 0 (l0 :: some (.int x) :: L) st h Q = zG d 736 1 (l0 :: some (.int x) :: L) (.int x :: st) h Q := g_ldI rfl rfl
theorem g736_1 : zG d 736 1 (some (.ref a) :: L) st h Q = zG d 736 2 (some (.ref a) :: L) (.ref a :: st) h Q := g_ldA rfl rfl
theorem g736_2 (hT : zT h a = (7, 10)) : zG d 736 2 L (.ref a :: st) h Q = zG d 736 5 L (zR h a 8 :: st) h Q := g_gR rfl hT
theorem g736_5 {s0 : Int32} (hT : (zT h a).1 = 0) : zG d 736 5 L [.ref a, .int s0] h Q = zCall d 4 [.ref a] h (fun v h1 => zG d 736 8 L (zpush v [.int s0]) h1 Q) := g_cV rfl rfl rfl rfl (Nat.le_of_ble_eq_true rfl) hT
theorem g736_8 : zG d 736 8 L st h Q = zG d 736 9 L (.int 1 :: st) h Q := g_c rfl
theorem g736_9 : zG d 736 9 L (.int z :: .int x :: st) h Q = zG d 736 10 L (.int (x - z) :: st) h Q := g_b (f := fun x z => x - z) rfl
theorem g736_10 : zG d 736 10 L [v1, v0] h Q = zCall d 744 [v0, v1] h (fun v h1 => zG d 736 13 L (zpush v []) h1 Q) := g_cS rfl rfl (Nat.le_of_ble_eq_true rfl) rfl (Nat.le_of_ble_eq_true rfl)
theorem g736_13 : zG d 736 13 L (.int x :: st) h Q = if ¬ x = 0 then zG d 736 18 L st h Q else zG d 736 16 L st h Q := g_i1 (P := fun x => ¬ x = 0) rfl
theorem g736_16 : zG d 736 16 L st h Q = zG d 736 17 L (.int (-1) :: st) h Q := g_c rfl
theorem g736_17 : zG d 736 17 L [.int x] h Q = Q (some (.int x)) h := g_rI (ok := fun _ => True) rfl trivial
theorem g736_18 : zG d 736 18 (some (.ref a) :: L) st h Q = zG d 736 19 (some (.ref a) :: L) (.ref a :: st) h Q := g_ldA rfl rfl
theorem g736_19 (hT : zT h a = (7, 10)) : zG d 736 19 L (.ref a :: st) h Q = zG d 736 22 L (zR h a 8 :: st) h Q := g_gR rfl hT
theorem g736_22 (hT : zT h a = (0, 5)) : zG d 736 22 L (.ref a :: st) h Q = zG d 736 25 L (zR h a 0 :: st) h Q := g_gR rfl hT
theorem g736_25 : zG d 736 25 (l0 :: some (.int x) :: L) st h Q = zG d 736 26 (l0 :: some (.int x) :: L) (.int x :: st) h Q := g_ldI rfl rfl
theorem g736_26 (hT : (zT h b).1 = 20) (hi : zin i (zT h b).2) : zG d 736 26 L (.int i :: .ref b :: st) h Q = zG d 736 27 L (.int (zI h b i.toNatClampNeg) :: st) h Q := g_ia rfl hT hi
theorem g736_27 : zG d 736 27 L [.int x] h Q = Q (some (.int x)) h := g_rI (ok := fun _ => True) rfl trivial
theorem k736 {x0 : Int32} : zCall (d + 1) 736 [.ref a, .int x0] h Q = zG d 736 0 [some (.ref a), some (.int x0)] [] h Q := zCall_k (Nat.le_of_ble_eq_true rfl) rfl
theorem g737_0 : zG d 737 0 (l0 :: l1 :: some (.int x) :: L) st h Q = zG d 737 1 (l0 :: l1 :: some (.int x) :: L) (.int x :: st) h Q := g_ldI rfl rfl
theorem g737_1 : zG d 737 1 L st h Q = zG d 737 3 L (.int 6 :: st) h Q := g_c rfl
theorem g737_3 : zG d 737 3 L [v1, v0] h Q = zCall d 744 [v0, v1] h (fun v h1 => zG d 737 6 L (zpush v []) h1 Q) := g_cS rfl rfl (Nat.le_of_ble_eq_true rfl) rfl (Nat.le_of_ble_eq_true rfl)
theorem g737_6 : zG d 737 6 L (.int x :: st) h Q = if ¬ x = 0 then zG d 737 12 L st h Q else zG d 737 9 L st h Q := g_i1 (P := fun x => ¬ x = 0) rfl
theorem g737_9 : zG d 737 9 L st h Q = zG d 737 11 L (.int (-2) :: st) h Q := g_c rfl
theorem g737_11 : zG d 737 11 L [.int x] h Q = Q (some (.int x)) h := g_rI (ok := fun _ => True) rfl trivial
theorem g737_12 : zG d 737 12 (some (.ref a) :: L) st h Q = zG d 737 13 (some (.ref a) :: L) (.ref a :: st) h Q := g_ldA rfl rfl
theorem g737_13 : zG d 737 13 (l0 :: some (.int x) :: L) st h Q = zG d 737 14 (l0 :: some (.int x) :: L) (.int x :: st) h Q := g_ldI rfl rfl
theorem g737_14 (hT : (zT h a).1 = 7) : zG d 737 14 L [v0, .ref a] h Q = zCall d 743 [.ref a, v0] h (fun v h1 => zG d 737 17 L (zpush v []) h1 Q) := g_cV rfl rfl rfl rfl (Nat.le_of_ble_eq_true rfl) hT
theorem g737_17 : zG d 737 17 L (.int x :: st) h Q = if ¬ x = 0 then zG d 737 23 L st h Q else zG d 737 20 L st h Q := g_i1 (P := fun x => ¬ x = 0) rfl
theorem g737_20 : zG d 737 20 L st h Q = zG d 737 22 L (.int (-11) :: st) h Q := g_c rfl
theorem g737_22 : zG d 737 22 L [.int x] h Q = Q (some (.int x)) h := g_rI (ok := fun _ => True) rfl trivial
theorem g737_23 : zG d 737 23 (some (.ref a) :: L) st h Q = zG d 737 24 (some (.ref a) :: L) (.ref a :: st) h Q := g_ldA rfl rfl
theorem g737_24 (hT : zT h a = (7, 10)) : zG d 737 24 L (.ref a :: st) h Q = zG d 737 27 L (zR h a 0 :: st) h Q := g_gR rfl hT
theorem g737_27 (hT : zT h a = (2, 12)) : zG d 737 27 L (.ref a :: st) h Q = zG d 737 30 L (zR h a 0 :: st) h Q := g_gR rfl hT
theorem g737_30 : zG d 737 30 (l0 :: some (.int x) :: L) st h Q = zG d 737 31 (l0 :: some (.int x) :: L) (.int x :: st) h Q := g_ldI rfl rfl
theorem g737_31 (hT : (zT h b).1 = 20) (hi : zin i (zT h b).2) : zG d 737 31 L (.int i :: .ref b :: st) h Q = zG d 737 32 L (.int (zI h b i.toNatClampNeg) :: st) h Q := g_ia rfl hT hi
theorem g737_32 : zG d 737 32 (l0 :: l1 :: l2 :: l3 :: L) (.int x :: st) h Q = zG d 737 33 (l0 :: l1 :: kl l2 :: some (.int x) :: L) st h Q := g_stI rfl (by simp) rfl
theorem g737_33 : zG d 737 33 (l0 :: l1 :: l2 :: some (.int x) :: L) st h Q = zG d 737 34 (l0 :: l1 :: l2 :: some (.int x) :: L) (.int x :: st) h Q := g_ldI rfl rfl
theorem g737_34 : zG d 737 34 (l0 :: l1 :: some (.int x) :: L) st h Q = zG d 737 35 (l0 :: l1 :: some (.int x) :: L) (.int x :: st) h Q := g_ldI rfl rfl
theorem g737_35 : zG d 737 35 L [v1, v0] h Q = zCall d 2 [v0, v1] h (fun v h1 => zG d 737 38 L (zpush v []) h1 Q) := g_cS rfl rfl (Nat.le_of_ble_eq_true rfl) rfl (Nat.le_of_ble_eq_true rfl)
theorem g737_38 : zG d 737 38 L (.int x :: st) h Q = if x = 0 then zG d 737 45 L st h Q else zG d 737 41 L st h Q := g_i1 (P := fun x => x = 0) rfl
theorem g737_41 : zG d 737 41 (l0 :: l1 :: l2 :: some (.int x) :: L) st h Q = zG d 737 42 (l0 :: l1 :: l2 :: some (.int x) :: L) (.int x :: st) h Q := g_ldI rfl rfl
theorem g737_42 : zG d 737 42 L st h Q = zG d 737 47 L st h Q := g_go rfl
theorem g737_45 : zG d 737 45 L st h Q = zG d 737 47 L (.int (-12) :: st) h Q := g_c rfl
theorem g737_47 : zG d 737 47 L [.int x] h Q = Q (some (.int x)) h := g_rI (ok := fun _ => True) rfl trivial
theorem k737 {x0 : Int32} {x1 : Int32} : zCall (d + 1) 737 [.ref a, .int x0, .int x1] h Q = zG d 737 0 [some (.ref a), some (.int x0), some (.int x1), none] [] h Q := zCall_k (Nat.le_of_ble_eq_true rfl) rfl
theorem g738_0 : zG d 738 0 (l0 :: some (.int x) :: L) st h Q = zG d 738 1 (l0 :: some (.int x) :: L) (.int x :: st) h Q := g_ldI rfl rfl
theorem g738_1 : zG d 738 1 L (.int x :: st) h Q = if x = 0 then zG d 738 44 L st h Q else if x = 1 then zG d 738 52 L st h Q else if x = 2 then zG d 738 57 L st h Q else if x = 3 then zG d 738 68 L st h Q else if x = 4 then zG d 738 79 L st h Q else if x = 5 then zG d 738 90 L st h Q else if x = 6 then zG d 738 98 L st h Q else zG d 738 106 L st h Q := g_sw (c := 106) (ps := [(0, 44), (1, 52), (2, 57), (3, 68), (4, 79), (5, 90), (6, 98)]) rfl
theorem g738_44 : zG d 738 44 (some (.ref a) :: L) st h Q = zG d 738 45 (some (.ref a) :: L) (.ref a :: st) h Q := g_ldA rfl rfl
theorem g738_45 (hT : zT h a = (7, 10)) : zG d 738 45 L (.ref a :: st) h Q = zG d 738 48 L (zR h a 0 :: st) h Q := g_gR rfl hT
theorem g738_48 (hT : zT h a = (2, 12)) : zG d 738 48 L (.ref a :: st) h Q = zG d 738 51 L (.int (zI h a 7) :: st) h Q := g_gI rfl hT
theorem g738_51 : zG d 738 51 L [.int x] h Q = Q (some (.int x)) h := g_rI (ok := fun _ => True) rfl trivial
theorem g738_52 : zG d 738 52 (some (.ref a) :: L) st h Q = zG d 738 53 (some (.ref a) :: L) (.ref a :: st) h Q := g_ldA rfl rfl
theorem g738_53 (hT : zT h a = (7, 10)) : zG d 738 53 L (.ref a :: st) h Q = zG d 738 56 L (.int (zI h a 7) :: st) h Q := g_gI rfl hT
theorem g738_56 : zG d 738 56 L [.int x] h Q = Q (some (.int x)) h := g_rI (ok := fun _ => True) rfl trivial
theorem g738_57 : zG d 738 57 (some (.ref a) :: L) st h Q = zG d 738 58 (some (.ref a) :: L) (.ref a :: st) h Q := g_ldA rfl rfl
theorem g738_58 (hT : zT h a = (7, 10)) : zG d 738 58 L (.ref a :: st) h Q = zG d 738 61 L (zR h a 3 :: st) h Q := g_gR rfl hT
theorem g738_61 (hT : zT h a = (1, 3)) : zG d 738 61 L (.ref a :: st) h Q = zG d 738 64 L (zR h a 0 :: st) h Q := g_gR rfl hT
theorem g738_64 (hT : zT h a = (3, 4)) : zG d 738 64 L (.ref a :: st) h Q = zG d 738 67 L (.int (zI h a 3) :: st) h Q := g_gI rfl hT
theorem g738_67 : zG d 738 67 L [.int x] h Q = Q (some (.int x)) h := g_rI (ok := fun _ => True) rfl trivial
theorem g738_68 : zG d 738 68 (some (.ref a) :: L) st h Q = zG d 738 69 (some (.ref a) :: L) (.ref a :: st) h Q := g_ldA rfl rfl
theorem g738_69 (hT : zT h a = (7, 10)) : zG d 738 69 L (.ref a :: st) h Q = zG d 738 72 L (zR h a 3 :: st) h Q := g_gR rfl hT
theorem g738_72 (hT : zT h a = (1, 3)) : zG d 738 72 L (.ref a :: st) h Q = zG d 738 75 L (zR h a 1 :: st) h Q := g_gR rfl hT
theorem g738_75 (hT : zT h a = (3, 4)) : zG d 738 75 L (.ref a :: st) h Q = zG d 738 78 L (.int (zI h a 3) :: st) h Q := g_gI rfl hT
theorem g738_78 : zG d 738 78 L [.int x] h Q = Q (some (.int x)) h := g_rI (ok := fun _ => True) rfl trivial
theorem g738_79 : zG d 738 79 (some (.ref a) :: L) st h Q = zG d 738 80 (some (.ref a) :: L) (.ref a :: st) h Q := g_ldA rfl rfl
theorem g738_80 (hT : zT h a = (7, 10)) : zG d 738 80 L (.ref a :: st) h Q = zG d 738 83 L (zR h a 3 :: st) h Q := g_gR rfl hT
theorem g738_83 (hT : zT h a = (1, 3)) : zG d 738 83 L (.ref a :: st) h Q = zG d 738 86 L (zR h a 2 :: st) h Q := g_gR rfl hT
theorem g738_86 (hT : zT h a = (3, 4)) : zG d 738 86 L (.ref a :: st) h Q = zG d 738 89 L (.int (zI h a 3) :: st) h Q := g_gI rfl hT
theorem g738_89 : zG d 738 89 L [.int x] h Q = Q (some (.int x)) h := g_rI (ok := fun _ => True) rfl trivial
theorem g738_90 : zG d 738 90 (some (.ref a) :: L) st h Q = zG d 738 91 (some (.ref a) :: L) (.ref a :: st) h Q := g_ldA rfl rfl
theorem g738_91 (hT : zT h a = (7, 10)) : zG d 738 91 L (.ref a :: st) h Q = zG d 738 94 L (zR h a 6 :: st) h Q := g_gR rfl hT
theorem g738_94 (hT : zT h a = (5, 4)) : zG d 738 94 L (.ref a :: st) h Q = zG d 738 97 L (.int (zI h a 3) :: st) h Q := g_gI rfl hT
theorem g738_97 : zG d 738 97 L [.int x] h Q = Q (some (.int x)) h := g_rI (ok := fun _ => True) rfl trivial
theorem g738_98 : zG d 738 98 (some (.ref a) :: L) st h Q = zG d 738 99 (some (.ref a) :: L) (.ref a :: st) h Q := g_ldA rfl rfl
theorem g738_99 (hT : zT h a = (7, 10)) : zG d 738 99 L (.ref a :: st) h Q = zG d 738 102 L (zR h a 8 :: st) h Q := g_gR rfl hT
theorem g738_102 (hT : zT h a = (0, 5)) : zG d 738 102 L (.ref a :: st) h Q = zG d 738 105 L (.int (zI h a 1) :: st) h Q := g_gI rfl hT
theorem g738_105 : zG d 738 105 L [.int x] h Q = Q (some (.int x)) h := g_rI (ok := fun _ => True) rfl trivial
theorem g738_106 : zG d 738 106 L st h Q = zG d 738 108 L (.int (-2) :: st) h Q := g_c rfl
theorem g738_108 : zG d 738 108 L [.int x] h Q = Q (some (.int x)) h := g_rI (ok := fun _ => True) rfl trivial
theorem k738 {x0 : Int32} : zCall (d + 1) 738 [.ref a, .int x0] h Q = zG d 738 0 [some (.ref a), some (.int x0)] [] h Q := zCall_k (Nat.le_of_ble_eq_true rfl) rfl
theorem g739_0 : zG d 739 0 (l0 :: some (.int x) :: L) st h Q = zG d 739 1 (l0 :: some (.int x) :: L) (.int x :: st) h Q := g_ldI rfl rfl
theorem g739_1 : zG d 739 1 L st h Q = zG d 739 2 L (.int 5 :: st) h Q := g_c rfl
theorem g739_2 : zG d 739 2 L [v1, v0] h Q = zCall d 744 [v0, v1] h (fun v h1 => zG d 739 5 L (zpush v []) h1 Q) := g_cS rfl rfl (Nat.le_of_ble_eq_true rfl) rfl (Nat.le_of_ble_eq_true rfl)
theorem g739_5 : zG d 739 5 L (.int x :: st) h Q = if ¬ x = 0 then zG d 739 10 L st h Q else zG d 739 8 L st h Q := g_i1 (P := fun x => ¬ x = 0) rfl
theorem g739_8 : zG d 739 8 L st h Q = zG d 739 9 L (.int (-1) :: st) h Q := g_c rfl
theorem g739_9 : zG d 739 9 L [.int x] h Q = Q (some (.int x)) h := g_rI (ok := fun _ => True) rfl trivial
theorem g739_10 : zG d 739 10 (l0 :: l1 :: some (.int x) :: L) st h Q = zG d 739 11 (l0 :: l1 :: some (.int x) :: L) (.int x :: st) h Q := g_ldI rfl rfl
theorem g739_11 : zG d 739 11 L st h Q = zG d 739 12 L (.int (-1) :: st) h Q := g_c rfl
theorem g739_12 : zG d 739 12 L (.int z :: .int x :: st) h Q = if ¬ x = z then zG d 739 28 L st h Q else zG d 739 15 L st h Q := g_i2 (P := fun x z => ¬ x = z) rfl
theorem g739_15 : zG d 739 15 (some (.ref a) :: L) st h Q = zG d 739 16 (some (.ref a) :: L) (.ref a :: st) h Q := g_ldA rfl rfl
theorem g739_16 (hT : zT h a = (7, 10)) : zG d 739 16 L (.ref a :: st) h Q = zG d 739 19 L (zR h a 9 :: st) h Q := g_gR rfl hT
theorem g739_19 : zG d 739 19 (l0 :: some (.int x) :: L) st h Q = zG d 739 20 (l0 :: some (.int x) :: L) (.int x :: st) h Q := g_ldI rfl rfl
theorem g739_20 (hT : (zT h b).1 = 25) (hi : zin i (zT h b).2) : zG d 739 20 L (.int i :: .ref b :: st) h Q = zG d 739 21 L (zR h b i.toNatClampNeg :: st) h Q := g_ra rfl hT hi
theorem g739_21 : zG d 739 21 L st h Q = zG d 739 22 L (.int (-1) :: st) h Q := g_c rfl
theorem g739_22 : zG d 739 22 L st h Q = zG d 739 23 L (.int 0 :: st) h Q := g_c rfl
theorem g739_23 (hT : (zT h a).1 = 6) : zG d 739 23 L [v1, v0, .ref a] h Q = zCall d 603 [.ref a, v0, v1] h (fun v h1 => zG d 739 26 L (zpush v []) h1 Q) := g_cV rfl rfl rfl rfl (Nat.le_of_ble_eq_true rfl) hT
theorem g739_26 : zG d 739 26 L st h Q = zG d 739 27 L (.int 1 :: st) h Q := g_c rfl
theorem g739_27 : zG d 739 27 L [.int x] h Q = Q (some (.int x)) h := g_rI (ok := fun _ => True) rfl trivial
theorem g739_28 : zG d 739 28 (l0 :: l1 :: some (.int x) :: L) st h Q = zG d 739 29 (l0 :: l1 :: some (.int x) :: L) (.int x :: st) h Q := g_ldI rfl rfl
theorem g739_29 : zG d 739 29 L st h Q = zG d 739 30 L (.int 4 :: st) h Q := g_c rfl
theorem g739_30 : zG d 739 30 L [v1, v0] h Q = zCall d 744 [v0, v1] h (fun v h1 => zG d 739 33 L (zpush v []) h1 Q) := g_cS rfl rfl (Nat.le_of_ble_eq_true rfl) rfl (Nat.le_of_ble_eq_true rfl)
theorem g739_33 : zG d 739 33 L (.int x :: st) h Q = if x = 0 then zG d 739 42 L st h Q else zG d 739 36 L st h Q := g_i1 (P := fun x => x = 0) rfl
theorem g739_36 : zG d 739 36 (l0 :: l1 :: l2 :: some (.int x) :: L) st h Q = zG d 739 37 (l0 :: l1 :: l2 :: some (.int x) :: L) (.int x :: st) h Q := g_ldI rfl rfl
theorem g739_37 : zG d 739 37 L st h Q = zG d 739 39 L (.int 60 :: st) h Q := g_c rfl
theorem g739_39 : zG d 739 39 L (.int z :: .int x :: st) h Q = if x ≤ z then zG d 739 45 L st h Q else zG d 739 42 L st h Q := g_i2 (P := fun x z => x ≤ z) rfl
theorem g739_42 : zG d 739 42 L st h Q = zG d 739 44 L (.int (-2) :: st) h Q := g_c rfl
theorem g739_44 : zG d 739 44 L [.int x] h Q = Q (some (.int x)) h := g_rI (ok := fun _ => True) rfl trivial
theorem g739_45 : zG d 739 45 (l0 :: l1 :: l2 :: some (.int x) :: L) st h Q = zG d 739 46 (l0 :: l1 :: l2 :: some (.int x) :: L) (.int x :: st) h Q := g_ldI rfl rfl
theorem g739_46 : zG d 739 46 L (.int x :: st) h Q = if 0 ≤ x then zG d 739 52 L st h Q else zG d 739 49 L st h Q := g_i1 (P := fun x => 0 ≤ x) rfl
theorem g739_49 : zG d 739 49 L st h Q = zG d 739 51 L (.int (-14) :: st) h Q := g_c rfl
theorem g739_51 : zG d 739 51 L [.int x] h Q = Q (some (.int x)) h := g_rI (ok := fun _ => True) rfl trivial
theorem g739_52 : zG d 739 52 (some (.ref a) :: L) st h Q = zG d 739 53 (some (.ref a) :: L) (.ref a :: st) h Q := g_ldA rfl rfl
theorem g739_53 (hT : zT h a = (7, 10)) : zG d 739 53 L (.ref a :: st) h Q = zG d 739 56 L (zR h a 9 :: st) h Q := g_gR rfl hT
theorem g739_56 : zG d 739 56 (l0 :: some (.int x) :: L) st h Q = zG d 739 57 (l0 :: some (.int x) :: L) (.int x :: st) h Q := g_ldI rfl rfl
theorem g739_57 (hT : (zT h b).1 = 25) (hi : zin i (zT h b).2) : zG d 739 57 L (.int i :: .ref b :: st) h Q = zG d 739 58 L (zR h b i.toNatClampNeg :: st) h Q := g_ra rfl hT hi
theorem g739_58 : zG d 739 58 (l0 :: l1 :: some (.int x) :: L) st h Q = zG d 739 59 (l0 :: l1 :: some (.int x) :: L) (.int x :: st) h Q := g_ldI rfl rfl
theorem g739_59 : zG d 739 59 (l0 :: l1 :: l2 :: some (.int x) :: L) st h Q = zG d 739 60 (l0 :: l1 :: l2 :: some (.int x) :: L) (.int x :: st) h Q := g_ldI rfl rfl
theorem g739_60 (hT : (zT h a).1 = 6) : zG d 739 60 L [v1, v0, .ref a] h Q = zCall d 603 [.ref a, v0, v1] h (fun v h1 => zG d 739 63 L (zpush v []) h1 Q) := g_cV rfl rfl rfl rfl (Nat.le_of_ble_eq_true rfl) hT
theorem g739_63 : zG d 739 63 L st h Q = zG d 739 64 L (.int 1 :: st) h Q := g_c rfl
theorem g739_64 : zG d 739 64 L [.int x] h Q = Q (some (.int x)) h := g_rI (ok := fun _ => True) rfl trivial
theorem k739 {x0 : Int32} {x1 : Int32} {x2 : Int32} : zCall (d + 1) 739 [.ref a, .int x0, .int x1, .int x2] h Q = zG d 739 0 [some (.ref a), some (.int x0), some (.int x1), some (.int x2)] [] h Q := zCall_k (Nat.le_of_ble_eq_true rfl) rfl
theorem g740_0 : zG d 740 0 (l0 :: some (.int x) :: L) st h Q = zG d 740 1 (l0 :: some (.int x) :: L) (.int x :: st) h Q := g_ldI rfl rfl
theorem g740_1 : zG d 740 1 L st h Q = zG d 740 2 L (.int 5 :: st) h Q := g_c rfl
theorem g740_2 : zG d 740 2 L [v1, v0] h Q = zCall d 744 [v0, v1] h (fun v h1 => zG d 740 5 L (zpush v []) h1 Q) := g_cS rfl rfl (Nat.le_of_ble_eq_true rfl) rfl (Nat.le_of_ble_eq_true rfl)
theorem g740_5 : zG d 740 5 L (.int x :: st) h Q = if ¬ x = 0 then zG d 740 10 L st h Q else zG d 740 8 L st h Q := g_i1 (P := fun x => ¬ x = 0) rfl
theorem g740_8 : zG d 740 8 L st h Q = zG d 740 9 L (.int (-1) :: st) h Q := g_c rfl
theorem g740_9 : zG d 740 9 L [.int x] h Q = Q (some (.int x)) h := g_rI (ok := fun _ => True) rfl trivial
theorem g740_10 : zG d 740 10 (some (.ref a) :: L) st h Q = zG d 740 11 (some (.ref a) :: L) (.ref a :: st) h Q := g_ldA rfl rfl
theorem g740_11 (hT : zT h a = (7, 10)) : zG d 740 11 L (.ref a :: st) h Q = zG d 740 14 L (zR h a 9 :: st) h Q := g_gR rfl hT
theorem g740_14 : zG d 740 14 (l0 :: some (.int x) :: L) st h Q = zG d 740 15 (l0 :: some (.int x) :: L) (.int x :: st) h Q := g_ldI rfl rfl
theorem g740_15 (hT : (zT h b).1 = 25) (hi : zin i (zT h b).2) : zG d 740 15 L (.int i :: .ref b :: st) h Q = zG d 740 16 L (zR h b i.toNatClampNeg :: st) h Q := g_ra rfl hT hi
theorem g740_16 : zG d 740 16 (l0 :: l1 :: l2 :: l3 :: l4 :: l5 :: L) (.ref a :: st) h Q = zG d 740 18 (l0 :: l1 :: l2 :: l3 :: kl l4 :: some (.ref a) :: L) st h Q := g_stA rfl (by simp) rfl
theorem g740_18 : zG d 740 18 (l0 :: l1 :: l2 :: l3 :: l4 :: some (.ref a) :: L) st h Q = zG d 740 20 (l0 :: l1 :: l2 :: l3 :: l4 :: some (.ref a) :: L) (.ref a :: st) h Q := g_ldA rfl rfl
theorem g740_20 (hT : (zT h a).1 = 6) : zG d 740 20 L [.ref a] h Q = zCall d 602 [.ref a] h (fun v h1 => zG d 740 23 L (zpush v []) h1 Q) := g_cV rfl rfl rfl rfl (Nat.le_of_ble_eq_true rfl) hT
theorem g740_23 : zG d 740 23 L (.int x :: st) h Q = if x = 0 then zG d 740 29 L st h Q else zG d 740 26 L st h Q := g_i1 (P := fun x => x = 0) rfl
theorem g740_26 : zG d 740 26 L st h Q = zG d 740 28 L (.int (-11) :: st) h Q := g_c rfl
theorem g740_28 : zG d 740 28 L [.int x] h Q = Q (some (.int x)) h := g_rI (ok := fun _ => True) rfl trivial
theorem g740_29 : zG d 740 29 (l0 :: l1 :: some (.int x) :: L) st h Q = zG d 740 30 (l0 :: l1 :: some (.int x) :: L) (.int x :: st) h Q := g_ldI rfl rfl
theorem g740_30 : zG d 740 30 (l0 :: l1 :: l2 :: l3 :: l4 :: some (.ref a) :: L) st h Q = zG d 740 32 (l0 :: l1 :: l2 :: l3 :: l4 :: some (.ref a) :: L) (.ref a :: st) h Q := g_ldA rfl rfl
theorem g740_32 (hT : zT h a = (6, 3)) : zG d 740 32 L (.ref a :: st) h Q = zG d 740 35 L (.int (zI h a 1) :: st) h Q := g_gI rfl hT
theorem g740_35 : zG d 740 35 L st h Q = zG d 740 36 L (.int 1 :: st) h Q := g_c rfl
theorem g740_36 : zG d 740 36 L (.int z :: .int x :: st) h Q = zG d 740 37 L (.int (x - z) :: st) h Q := g_b (f := fun x z => x - z) rfl
theorem g740_37 : zG d 740 37 L [v1, v0] h Q = zCall d 744 [v0, v1] h (fun v h1 => zG d 740 40 L (zpush v []) h1 Q) := g_cS rfl rfl (Nat.le_of_ble_eq_true rfl) rfl (Nat.le_of_ble_eq_true rfl)
theorem g740_40 : zG d 740 40 L (.int x :: st) h Q = if ¬ x = 0 then zG d 740 46 L st h Q else zG d 740 43 L st h Q := g_i1 (P := fun x => ¬ x = 0) rfl
theorem g740_43 : zG d 740 43 L st h Q = zG d 740 45 L (.int (-13) :: st) h Q := g_c rfl
theorem g740_45 : zG d 740 45 L [.int x] h Q = Q (some (.int x)) h := g_rI (ok := fun _ => True) rfl trivial
theorem g740_46 : zG d 740 46 (l0 :: l1 :: l2 :: l3 :: l4 :: some (.ref a) :: L) st h Q = zG d 740 48 (l0 :: l1 :: l2 :: l3 :: l4 :: some (.ref a) :: L) (.ref a :: st) h Q := g_ldA rfl rfl
theorem g740_48 (hT : zT h a = (6, 3)) : zG d 740 48 L (.ref a :: st) h Q = zG d 740 51 L (zR h a 2 :: st) h Q := g_gR rfl hT
theorem g740_51 : zG d 740 51 (l0 :: l1 :: some (.int x) :: L) st h Q = zG d 740 52 (l0 :: l1 :: some (.int x) :: L) (.int x :: st) h Q := g_ldI rfl rfl
theorem g740_52 : zG d 740 52 (l0 :: l1 :: l2 :: l3 :: l4 :: some (.ref a) :: L) st h Q = zG d 740 54 (l0 :: l1 :: l2 :: l3 :: l4 :: some (.ref a) :: L) (.ref a :: st) h Q := g_ldA rfl rfl
theorem g740_54 : zG d 740 54 (l0 :: l1 :: l2 :: some (.long u) :: L) st h Q = zG d 740 55 (l0 :: l1 :: l2 :: some (.long u) :: L) (.long u :: st) h Q := g_ldJ rfl rfl
theorem g740_55 {s0 : Int32} {s1 : Nat} (hT : (zT h a).1 = 6) : zG d 740 55 L [v0, .ref a, .int s0, .ref s1] h Q = zCall d 604 [.ref a, v0] h (fun v h1 => zG d 740 58 L (zpush v [.int s0, .ref s1]) h1 Q) := g_cV rfl rfl rfl rfl (Nat.le_of_ble_eq_true rfl) hT
theorem g740_58 (hT : (zT h b).1 = 24) (hi : zin i (zT h b).2) : zG d 740 58 L (.long u :: .int i :: .ref b :: st) h Q = zG d 740 59 L st (wJ h b i.toNatClampNeg u) Q := g_js rfl hT hi
theorem g740_59 : zG d 740 59 L st h Q = zG d 740 60 L (.int 1 :: st) h Q := g_c rfl
theorem g740_60 : zG d 740 60 L [.int x] h Q = Q (some (.int x)) h := g_rI (ok := fun _ => True) rfl trivial
theorem k740 {x0 : Int32} {x1 : Int32} {x2 : Int64} : zCall (d + 1) 740 [.ref a, .int x0, .int x1, .long x2] h Q = zG d 740 0 [some (.ref a), some (.int x0), some (.int x1), some (.long x2), none, none] [] h Q := zCall_k (Nat.le_of_ble_eq_true rfl) rfl
theorem g741_0 : zG d 741 0 (l0 :: some (.int x) :: L) st h Q = zG d 741 1 (l0 :: some (.int x) :: L) (.int x :: st) h Q := g_ldI rfl rfl
theorem g741_1 : zG d 741 1 L st h Q = zG d 741 2 L (.int 5 :: st) h Q := g_c rfl
theorem g741_2 : zG d 741 2 L [v1, v0] h Q = zCall d 744 [v0, v1] h (fun v h1 => zG d 741 5 L (zpush v []) h1 Q) := g_cS rfl rfl (Nat.le_of_ble_eq_true rfl) rfl (Nat.le_of_ble_eq_true rfl)
theorem g741_5 : zG d 741 5 L (.int x :: st) h Q = if x = 0 then zG d 741 26 L st h Q else zG d 741 8 L st h Q := g_i1 (P := fun x => x = 0) rfl
theorem g741_8 : zG d 741 8 (l0 :: l1 :: some (.int x) :: L) st h Q = zG d 741 9 (l0 :: l1 :: some (.int x) :: L) (.int x :: st) h Q := g_ldI rfl rfl
theorem g741_9 : zG d 741 9 (some (.ref a) :: L) st h Q = zG d 741 10 (some (.ref a) :: L) (.ref a :: st) h Q := g_ldA rfl rfl
theorem g741_10 (hT : zT h a = (7, 10)) : zG d 741 10 L (.ref a :: st) h Q = zG d 741 13 L (zR h a 9 :: st) h Q := g_gR rfl hT
theorem g741_13 : zG d 741 13 (l0 :: some (.int x) :: L) st h Q = zG d 741 14 (l0 :: some (.int x) :: L) (.int x :: st) h Q := g_ldI rfl rfl
theorem g741_14 (hT : (zT h b).1 = 25) (hi : zin i (zT h b).2) : zG d 741 14 L (.int i :: .ref b :: st) h Q = zG d 741 15 L (zR h b i.toNatClampNeg :: st) h Q := g_ra rfl hT hi
theorem g741_15 (hT : zT h a = (6, 3)) : zG d 741 15 L (.ref a :: st) h Q = zG d 741 18 L (.int (zI h a 1) :: st) h Q := g_gI rfl hT
theorem g741_18 : zG d 741 18 L st h Q = zG d 741 19 L (.int 1 :: st) h Q := g_c rfl
theorem g741_19 : zG d 741 19 L (.int z :: .int x :: st) h Q = zG d 741 20 L (.int (x - z) :: st) h Q := g_b (f := fun x z => x - z) rfl
theorem g741_20 : zG d 741 20 L [v1, v0] h Q = zCall d 744 [v0, v1] h (fun v h1 => zG d 741 23 L (zpush v []) h1 Q) := g_cS rfl rfl (Nat.le_of_ble_eq_true rfl) rfl (Nat.le_of_ble_eq_true rfl)
theorem g741_23 : zG d 741 23 L (.int x :: st) h Q = if ¬ x = 0 then zG d 741 30 L st h Q else zG d 741 26 L st h Q := g_i1 (P := fun x => ¬ x = 0) rfl
theorem g741_26 : zG d 741 26 L st h Q = zG d 741 29 L (.long (-9223372036854775808) :: st) h Q := g_c rfl
theorem g741_29 : zG d 741 29 L [.long u] h Q = Q (some (.long u)) h := g_rJ rfl
theorem g741_30 : zG d 741 30 (some (.ref a) :: L) st h Q = zG d 741 31 (some (.ref a) :: L) (.ref a :: st) h Q := g_ldA rfl rfl
theorem g741_31 (hT : zT h a = (7, 10)) : zG d 741 31 L (.ref a :: st) h Q = zG d 741 34 L (zR h a 9 :: st) h Q := g_gR rfl hT
theorem g741_34 : zG d 741 34 (l0 :: some (.int x) :: L) st h Q = zG d 741 35 (l0 :: some (.int x) :: L) (.int x :: st) h Q := g_ldI rfl rfl
theorem g741_35 (hT : (zT h b).1 = 25) (hi : zin i (zT h b).2) : zG d 741 35 L (.int i :: .ref b :: st) h Q = zG d 741 36 L (zR h b i.toNatClampNeg :: st) h Q := g_ra rfl hT hi
theorem g741_36 (hT : zT h a = (6, 3)) : zG d 741 36 L (.ref a :: st) h Q = zG d 741 39 L (zR h a 2 :: st) h Q := g_gR rfl hT
theorem g741_39 : zG d 741 39 (l0 :: l1 :: some (.int x) :: L) st h Q = zG d 741 40 (l0 :: l1 :: some (.int x) :: L) (.int x :: st) h Q := g_ldI rfl rfl
theorem g741_40 (hT : (zT h b).1 = 24) (hi : zin i (zT h b).2) : zG d 741 40 L (.int i :: .ref b :: st) h Q = zG d 741 41 L (.long (zJ h b i.toNatClampNeg) :: st) h Q := g_ja rfl hT hi
theorem g741_41 : zG d 741 41 L [.long u] h Q = Q (some (.long u)) h := g_rJ rfl
theorem k741 {x0 : Int32} {x1 : Int32} : zCall (d + 1) 741 [.ref a, .int x0, .int x1] h Q = zG d 741 0 [some (.ref a), some (.int x0), some (.int x1)] [] h Q := zCall_k (Nat.le_of_ble_eq_true rfl) rfl
theorem g742_0 : zG d 742 0 (l0 :: some (.int x) :: L) st h Q = zG d 742 1 (l0 :: some (.int x) :: L) (.int x :: st) h Q := g_ldI rfl rfl
theorem g742_1 : zG d 742 1 L st h Q = zG d 742 2 L (.int 5 :: st) h Q := g_c rfl
theorem g742_2 : zG d 742 2 L [v1, v0] h Q = zCall d 744 [v0, v1] h (fun v h1 => zG d 742 5 L (zpush v []) h1 Q) := g_cS rfl rfl (Nat.le_of_ble_eq_true rfl) rfl (Nat.le_of_ble_eq_true rfl)
theorem g742_5 : zG d 742 5 L (.int x :: st) h Q = if x = 0 then zG d 742 16 L st h Q else zG d 742 8 L st h Q := g_i1 (P := fun x => x = 0) rfl
theorem g742_8 : zG d 742 8 (l0 :: l1 :: l2 :: some (.int x) :: L) st h Q = zG d 742 9 (l0 :: l1 :: l2 :: some (.int x) :: L) (.int x :: st) h Q := g_ldI rfl rfl
theorem g742_9 : zG d 742 9 L st h Q = zG d 742 10 L (.int 5 :: st) h Q := g_c rfl
theorem g742_10 : zG d 742 10 L [v1, v0] h Q = zCall d 744 [v0, v1] h (fun v h1 => zG d 742 13 L (zpush v []) h1 Q) := g_cS rfl rfl (Nat.le_of_ble_eq_true rfl) rfl (Nat.le_of_ble_eq_true rfl)
theorem g742_13 : zG d 742 13 L (.int x :: st) h Q = if ¬ x = 0 then zG d 742 18 L st h Q else zG d 742 16 L st h Q := g_i1 (P := fun x => ¬ x = 0) rfl
theorem g742_16 : zG d 742 16 L st h Q = zG d 742 17 L (.int (-1) :: st) h Q := g_c rfl
theorem g742_17 : zG d 742 17 L [.int x] h Q = Q (some (.int x)) h := g_rI (ok := fun _ => True) rfl trivial
theorem g742_18 : zG d 742 18 (some (.ref a) :: L) st h Q = zG d 742 19 (some (.ref a) :: L) (.ref a :: st) h Q := g_ldA rfl rfl
theorem g742_19 (hT : zT h a = (7, 10)) : zG d 742 19 L (.ref a :: st) h Q = zG d 742 22 L (zR h a 9 :: st) h Q := g_gR rfl hT
theorem g742_22 : zG d 742 22 (l0 :: some (.int x) :: L) st h Q = zG d 742 23 (l0 :: some (.int x) :: L) (.int x :: st) h Q := g_ldI rfl rfl
theorem g742_23 (hT : (zT h b).1 = 25) (hi : zin i (zT h b).2) : zG d 742 23 L (.int i :: .ref b :: st) h Q = zG d 742 24 L (zR h b i.toNatClampNeg :: st) h Q := g_ra rfl hT hi
theorem g742_24 : zG d 742 24 (l0 :: l1 :: l2 :: l3 :: l4 :: l5 :: l6 :: L) (.ref a :: st) h Q = zG d 742 26 (l0 :: l1 :: l2 :: l3 :: l4 :: kl l5 :: some (.ref a) :: L) st h Q := g_stA rfl (by simp) rfl
theorem g742_26 : zG d 742 26 (some (.ref a) :: L) st h Q = zG d 742 27 (some (.ref a) :: L) (.ref a :: st) h Q := g_ldA rfl rfl
theorem g742_27 (hT : zT h a = (7, 10)) : zG d 742 27 L (.ref a :: st) h Q = zG d 742 30 L (zR h a 9 :: st) h Q := g_gR rfl hT
theorem g742_30 : zG d 742 30 (l0 :: l1 :: l2 :: some (.int x) :: L) st h Q = zG d 742 31 (l0 :: l1 :: l2 :: some (.int x) :: L) (.int x :: st) h Q := g_ldI rfl rfl
theorem g742_31 (hT : (zT h b).1 = 25) (hi : zin i (zT h b).2) : zG d 742 31 L (.int i :: .ref b :: st) h Q = zG d 742 32 L (zR h b i.toNatClampNeg :: st) h Q := g_ra rfl hT hi
theorem g742_32 : zG d 742 32 (l0 :: l1 :: l2 :: l3 :: l4 :: l5 :: l6 :: l7 :: L) (.ref a :: st) h Q = zG d 742 34 (l0 :: l1 :: l2 :: l3 :: l4 :: l5 :: kl l6 :: some (.ref a) :: L) st h Q := g_stA rfl (by simp) rfl
theorem g742_34 : zG d 742 34 (l0 :: l1 :: l2 :: l3 :: l4 :: l5 :: some (.ref a) :: L) st h Q = zG d 742 36 (l0 :: l1 :: l2 :: l3 :: l4 :: l5 :: some (.ref a) :: L) (.ref a :: st) h Q := g_ldA rfl rfl
theorem g742_36 (hT : (zT h a).1 = 6) : zG d 742 36 L [.ref a] h Q = zCall d 602 [.ref a] h (fun v h1 => zG d 742 39 L (zpush v []) h1 Q) := g_cV rfl rfl rfl rfl (Nat.le_of_ble_eq_true rfl) hT
theorem g742_39 : zG d 742 39 L (.int x :: st) h Q = if ¬ x = 0 then zG d 742 50 L st h Q else zG d 742 42 L st h Q := g_i1 (P := fun x => ¬ x = 0) rfl
theorem g742_42 : zG d 742 42 (l0 :: l1 :: l2 :: l3 :: l4 :: l5 :: l6 :: some (.ref a) :: L) st h Q = zG d 742 44 (l0 :: l1 :: l2 :: l3 :: l4 :: l5 :: l6 :: some (.ref a) :: L) (.ref a :: st) h Q := g_ldA rfl rfl
theorem g742_44 (hT : (zT h a).1 = 6) : zG d 742 44 L [.ref a] h Q = zCall d 602 [.ref a] h (fun v h1 => zG d 742 47 L (zpush v []) h1 Q) := g_cV rfl rfl rfl rfl (Nat.le_of_ble_eq_true rfl) hT
theorem g742_47 : zG d 742 47 L (.int x :: st) h Q = if x = 0 then zG d 742 53 L st h Q else zG d 742 50 L st h Q := g_i1 (P := fun x => x = 0) rfl
theorem g742_50 : zG d 742 50 L st h Q = zG d 742 52 L (.int (-11) :: st) h Q := g_c rfl
theorem g742_52 : zG d 742 52 L [.int x] h Q = Q (some (.int x)) h := g_rI (ok := fun _ => True) rfl trivial
theorem g742_53 : zG d 742 53 (l0 :: l1 :: l2 :: l3 :: l4 :: l5 :: some (.ref a) :: L) st h Q = zG d 742 55 (l0 :: l1 :: l2 :: l3 :: l4 :: l5 :: some (.ref a) :: L) (.ref a :: st) h Q := g_ldA rfl rfl
theorem g742_55 (hT : zT h a = (6, 3)) : zG d 742 55 L (.ref a :: st) h Q = zG d 742 58 L (.int (zI h a 0) :: st) h Q := g_gI rfl hT
theorem g742_58 : zG d 742 58 (l0 :: l1 :: l2 :: l3 :: l4 :: l5 :: l6 :: some (.ref a) :: L) st h Q = zG d 742 60 (l0 :: l1 :: l2 :: l3 :: l4 :: l5 :: l6 :: some (.ref a) :: L) (.ref a :: st) h Q := g_ldA rfl rfl
theorem g742_60 (hT : zT h a = (6, 3)) : zG d 742 60 L (.ref a :: st) h Q = zG d 742 63 L (.int (zI h a 0) :: st) h Q := g_gI rfl hT
theorem g742_63 : zG d 742 63 L (.int z :: .int x :: st) h Q = if x = z then zG d 742 69 L st h Q else zG d 742 66 L st h Q := g_i2 (P := fun x z => x = z) rfl
theorem g742_66 : zG d 742 66 L st h Q = zG d 742 68 L (.int (-12) :: st) h Q := g_c rfl
theorem g742_68 : zG d 742 68 L [.int x] h Q = Q (some (.int x)) h := g_rI (ok := fun _ => True) rfl trivial
theorem g742_69 : zG d 742 69 (l0 :: l1 :: l2 :: l3 :: l4 :: l5 :: some (.ref a) :: L) st h Q = zG d 742 71 (l0 :: l1 :: l2 :: l3 :: l4 :: l5 :: some (.ref a) :: L) (.ref a :: st) h Q := g_ldA rfl rfl
theorem g742_71 : zG d 742 71 (l0 :: l1 :: some (.int x) :: L) st h Q = zG d 742 72 (l0 :: l1 :: some (.int x) :: L) (.int x :: st) h Q := g_ldI rfl rfl
theorem g742_72 : zG d 742 72 (l0 :: l1 :: l2 :: l3 :: l4 :: some (.int x) :: L) st h Q = zG d 742 74 (l0 :: l1 :: l2 :: l3 :: l4 :: some (.int x) :: L) (.int x :: st) h Q := g_ldI rfl rfl
theorem g742_74 (hT : (zT h a).1 = 6) : zG d 742 74 L [v1, v0, .ref a] h Q = zCall d 605 [.ref a, v0, v1] h (fun v h1 => zG d 742 77 L (zpush v []) h1 Q) := g_cV rfl rfl rfl rfl (Nat.le_of_ble_eq_true rfl) hT
theorem g742_77 : zG d 742 77 L (.int x :: st) h Q = if x = 0 then zG d 742 92 L st h Q else zG d 742 80 L st h Q := g_i1 (P := fun x => x = 0) rfl
theorem g742_80 : zG d 742 80 (l0 :: l1 :: l2 :: l3 :: l4 :: l5 :: l6 :: some (.ref a) :: L) st h Q = zG d 742 82 (l0 :: l1 :: l2 :: l3 :: l4 :: l5 :: l6 :: some (.ref a) :: L) (.ref a :: st) h Q := g_ldA rfl rfl
theorem g742_82 : zG d 742 82 (l0 :: l1 :: l2 :: l3 :: some (.int x) :: L) st h Q = zG d 742 84 (l0 :: l1 :: l2 :: l3 :: some (.int x) :: L) (.int x :: st) h Q := g_ldI rfl rfl
theorem g742_84 : zG d 742 84 (l0 :: l1 :: l2 :: l3 :: l4 :: some (.int x) :: L) st h Q = zG d 742 86 (l0 :: l1 :: l2 :: l3 :: l4 :: some (.int x) :: L) (.int x :: st) h Q := g_ldI rfl rfl
theorem g742_86 (hT : (zT h a).1 = 6) : zG d 742 86 L [v1, v0, .ref a] h Q = zCall d 605 [.ref a, v0, v1] h (fun v h1 => zG d 742 89 L (zpush v []) h1 Q) := g_cV rfl rfl rfl rfl (Nat.le_of_ble_eq_true rfl) hT
theorem g742_89 : zG d 742 89 L (.int x :: st) h Q = if ¬ x = 0 then zG d 742 95 L st h Q else zG d 742 92 L st h Q := g_i1 (P := fun x => ¬ x = 0) rfl
theorem g742_92 : zG d 742 92 L st h Q = zG d 742 94 L (.int (-13) :: st) h Q := g_c rfl
theorem g742_94 : zG d 742 94 L [.int x] h Q = Q (some (.int x)) h := g_rI (ok := fun _ => True) rfl trivial
theorem g742_95 : zG d 742 95 (l0 :: l1 :: l2 :: l3 :: l4 :: l5 :: some (.ref a) :: L) st h Q = zG d 742 97 (l0 :: l1 :: l2 :: l3 :: l4 :: l5 :: some (.ref a) :: L) (.ref a :: st) h Q := g_ldA rfl rfl
theorem g742_97 (hT : zT h a = (6, 3)) : zG d 742 97 L (.ref a :: st) h Q = zG d 742 100 L (zR h a 2 :: st) h Q := g_gR rfl hT
theorem g742_100 : zG d 742 100 (l0 :: l1 :: some (.int x) :: L) st h Q = zG d 742 101 (l0 :: l1 :: some (.int x) :: L) (.int x :: st) h Q := g_ldI rfl rfl
theorem g742_101 : zG d 742 101 (l0 :: l1 :: l2 :: l3 :: l4 :: l5 :: l6 :: some (.ref a) :: L) st h Q = zG d 742 103 (l0 :: l1 :: l2 :: l3 :: l4 :: l5 :: l6 :: some (.ref a) :: L) (.ref a :: st) h Q := g_ldA rfl rfl
theorem g742_103 (hT : zT h a = (6, 3)) : zG d 742 103 L (.ref a :: st) h Q = zG d 742 106 L (zR h a 2 :: st) h Q := g_gR rfl hT
theorem g742_106 : zG d 742 106 (l0 :: l1 :: l2 :: l3 :: some (.int x) :: L) st h Q = zG d 742 108 (l0 :: l1 :: l2 :: l3 :: some (.int x) :: L) (.int x :: st) h Q := g_ldI rfl rfl
theorem g742_108 : zG d 742 108 (l0 :: l1 :: l2 :: l3 :: l4 :: some (.int x) :: L) st h Q = zG d 742 110 (l0 :: l1 :: l2 :: l3 :: l4 :: some (.int x) :: L) (.int x :: st) h Q := g_ldI rfl rfl
theorem g742_110 {sp dp sn : Int32} {b0 b1 : Nat} (h0 : (zT h b0).1 = 24) (h1 : (zT h b1).1 = 24) (h2 : ¬ sp < 0) (h3 : ¬ dp < 0) (h4 : ¬ sn < 0) (h5 : sp.toNatClampNeg + sn.toNatClampNeg ≤ (zT h b0).2) (h6 : dp.toNatClampNeg + sn.toNatClampNeg ≤ (zT h b1).2) : zG d 742 110 L [.int sn, .int dp, .ref b1, .int sp, .ref b0] h Q = zG d 742 113 L [] (wJr h b1 (va_cpy (zJ h b0) (zJ h b1) sp.toNatClampNeg dp.toNatClampNeg sn.toNatClampNeg)) Q := g_cp rfl h0 h1 h2 h3 h4 h5 h6
theorem g742_113 : zG d 742 113 (l0 :: l1 :: l2 :: l3 :: l4 :: some (.int x) :: L) st h Q = zG d 742 115 (l0 :: l1 :: l2 :: l3 :: l4 :: some (.int x) :: L) (.int x :: st) h Q := g_ldI rfl rfl
theorem g742_115 : zG d 742 115 L [.int x] h Q = Q (some (.int x)) h := g_rI (ok := fun _ => True) rfl trivial
theorem k742 {x0 : Int32} {x1 : Int32} {x2 : Int32} {x3 : Int32} {x4 : Int32} : zCall (d + 1) 742 [.ref a, .int x0, .int x1, .int x2, .int x3, .int x4] h Q = zG d 742 0 [some (.ref a), some (.int x0), some (.int x1), some (.int x2), some (.int x3), some (.int x4), none, none] [] h Q := zCall_k (Nat.le_of_ble_eq_true rfl) rfl
theorem g743_0 : zG d 743 0 (l0 :: some (.int x) :: L) st h Q = zG d 743 1 (l0 :: some (.int x) :: L) (.int x :: st) h Q := g_ldI rfl rfl
theorem g743_1 : zG d 743 1 (some (.ref a) :: L) st h Q = zG d 743 2 (some (.ref a) :: L) (.ref a :: st) h Q := g_ldA rfl rfl
theorem g743_2 (hT : zT h a = (7, 10)) : zG d 743 2 L (.ref a :: st) h Q = zG d 743 5 L (zR h a 0 :: st) h Q := g_gR rfl hT
theorem g743_5 (hT : zT h a = (2, 12)) : zG d 743 5 L (.ref a :: st) h Q = zG d 743 8 L (.int (zI h a 7) :: st) h Q := g_gI rfl hT
theorem g743_8 : zG d 743 8 L st h Q = zG d 743 9 L (.int 1 :: st) h Q := g_c rfl
theorem g743_9 : zG d 743 9 L (.int z :: .int x :: st) h Q = zG d 743 10 L (.int (x - z) :: st) h Q := g_b (f := fun x z => x - z) rfl
theorem g743_10 : zG d 743 10 L [v1, v0] h Q = zCall d 744 [v0, v1] h (fun v h1 => zG d 743 13 L (zpush v []) h1 Q) := g_cS rfl rfl (Nat.le_of_ble_eq_true rfl) rfl (Nat.le_of_ble_eq_true rfl)
theorem g743_13 (hx : x = 0 ∨ x = 1) : zG d 743 13 L [.int x] h Q = Q (some (.int x)) h := g_rI (ok := fun x => x = 0 ∨ x = 1) rfl hx
theorem k743 {x0 : Int32} : zCall (d + 1) 743 [.ref a, .int x0] h Q = zG d 743 0 [some (.ref a), some (.int x0)] [] h Q := zCall_k (Nat.le_of_ble_eq_true rfl) rfl
theorem g744_0 : zG d 744 0 (some (.int x) :: L) st h Q = zG d 744 1 (some (.int x) :: L) (.int x :: st) h Q := g_ldI rfl rfl
theorem g744_1 : zG d 744 1 L (.int x :: st) h Q = if x < 0 then zG d 744 13 L st h Q else zG d 744 4 L st h Q := g_i1 (P := fun x => x < 0) rfl
theorem g744_4 : zG d 744 4 (some (.int x) :: L) st h Q = zG d 744 5 (some (.int x) :: L) (.int x :: st) h Q := g_ldI rfl rfl
theorem g744_5 : zG d 744 5 (l0 :: some (.int x) :: L) st h Q = zG d 744 6 (l0 :: some (.int x) :: L) (.int x :: st) h Q := g_ldI rfl rfl
theorem g744_6 : zG d 744 6 L (.int z :: .int x :: st) h Q = if z < x then zG d 744 13 L st h Q else zG d 744 9 L st h Q := g_i2 (P := fun x z => z < x) rfl
theorem g744_9 : zG d 744 9 L st h Q = zG d 744 10 L (.int 1 :: st) h Q := g_c rfl
theorem g744_10 : zG d 744 10 L st h Q = zG d 744 14 L st h Q := g_go rfl
theorem g744_13 : zG d 744 13 L st h Q = zG d 744 14 L (.int 0 :: st) h Q := g_c rfl
theorem g744_14 (hx : x = 0 ∨ x = 1) : zG d 744 14 L [.int x] h Q = Q (some (.int x)) h := g_rI (ok := fun x => x = 0 ∨ x = 1) rfl hx
theorem k744 {x0 : Int32} {x1 : Int32} : zCall (d + 1) 744 [.int x0, .int x1] h Q = zG d 744 0 [some (.int x0), some (.int x1)] [] h Q := zCall_k (Nat.le_of_ble_eq_true rfl) rfl
