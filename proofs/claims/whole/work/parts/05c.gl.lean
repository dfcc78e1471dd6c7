/-! one instruction as an equation, method by method -/
variable {d a b : Nat} {L : zL} {st : List Value} {h : zH} {Q : zQq} {x z i : Int32} {u w : Int64} {v0 v1 v2 v3 v4 v5 : Value} {l0 l1 l2 l3 l4 l5 l6 l7 l8 l9 l10 l11 l12 : Option Value}
theorem g801_0 : zG d 801 0 (some (.ref a) :: L) st h Q = zG d 801 1 (some (.ref a) :: L) (.ref a :: st) h Q := g_ldA rfl rfl
theorem g801_1 (hT : (zT h a).1 < 20) : zG d 801 1 L [.ref a] h Q = zG d 801 4 L [] h Q := g_oi rfl hT
theorem g801_4 : zG d 801 4 (some (.ref a) :: L) st h Q = zG d 801 5 (some (.ref a) :: L) (.ref a :: st) h Q := g_ldA rfl rfl
theorem g801_5 {s0 : Nat} : zG d 801 5 L [.ref s0] h Q = zCall d 803 [] h (fun v h1 => zG d 801 8 L (zpush v [.ref s0]) h1 Q) := g_cS rfl rfl (Nat.le_of_ble_eq_true rfl) rfl (Nat.le_of_ble_eq_true rfl)
theorem g801_8 (hT : zT h a = (8, 29)) : zG d 801 8 L (.ref b :: .ref a :: st) h Q = zG d 801 11 L st (wR h a 0 (.ref b)) Q := g_pR rfl hT
theorem g801_8_n (hT : zT h a = (8, 29)) : zG d 801 8 L (.null :: .ref a :: st) h Q = zG d 801 11 L st (wR h a 0 .null) Q := g_pR0 rfl hT
theorem g801_11 : zG d 801 11 (some (.ref a) :: L) st h Q = zG d 801 12 (some (.ref a) :: L) (.ref a :: st) h Q := g_ldA rfl rfl
theorem g801_12 : zG d 801 12 L st h Q = zG d 801 14 L (.int 118 :: st) h Q := g_c rfl
theorem g801_14 (hx : ¬ x < 0 ∧ x.toNatClampNeg ≤ 1000) : zG d 801 14 L (.int x :: st) h Q = zG d 801 16 L (.ref (zN h) :: st) (wN h (20, x.toNatClampNeg)) Q := g_na rfl hx
theorem g801_16 (hT : zT h a = (8, 29)) : zG d 801 16 L (.ref b :: .ref a :: st) h Q = zG d 801 19 L st (wR h a 1 (.ref b)) Q := g_pR rfl hT
theorem g801_16_n (hT : zT h a = (8, 29)) : zG d 801 16 L (.null :: .ref a :: st) h Q = zG d 801 19 L st (wR h a 1 .null) Q := g_pR0 rfl hT
theorem g801_19 : zG d 801 19 (some (.ref a) :: L) st h Q = zG d 801 20 (some (.ref a) :: L) (.ref a :: st) h Q := g_ldA rfl rfl
theorem g801_20 : zG d 801 20 L st h Q = zG d 801 22 L (.int 118 :: st) h Q := g_c rfl
theorem g801_22 (hx : ¬ x < 0 ∧ x.toNatClampNeg ≤ 1000) : zG d 801 22 L (.int x :: st) h Q = zG d 801 24 L (.ref (zN h) :: st) (wN h (20, x.toNatClampNeg)) Q := g_na rfl hx
theorem g801_24 (hT : zT h a = (8, 29)) : zG d 801 24 L (.ref b :: .ref a :: st) h Q = zG d 801 27 L st (wR h a 2 (.ref b)) Q := g_pR rfl hT
theorem g801_24_n (hT : zT h a = (8, 29)) : zG d 801 24 L (.null :: .ref a :: st) h Q = zG d 801 27 L st (wR h a 2 .null) Q := g_pR0 rfl hT
theorem g801_27 : zG d 801 27 (some (.ref a) :: L) st h Q = zG d 801 28 (some (.ref a) :: L) (.ref a :: st) h Q := g_ldA rfl rfl
theorem g801_28 : zG d 801 28 L st h Q = zG d 801 29 L (.int (-1) :: st) h Q := g_c rfl
theorem g801_29 (hT : zT h a = (8, 29)) : zG d 801 29 L (.int x :: .ref a :: st) h Q = zG d 801 32 L st (wI h a 4 x) Q := g_pI rfl hT
theorem g801_32 : zG d 801 32 (some (.ref a) :: L) st h Q = zG d 801 33 (some (.ref a) :: L) (.ref a :: st) h Q := g_ldA rfl rfl
theorem g801_33 : zG d 801 33 L st h Q = zG d 801 35 L (.int 100 :: st) h Q := g_c rfl
theorem g801_35 (hx : ¬ x < 0 ∧ x.toNatClampNeg ≤ 1000) : zG d 801 35 L (.int x :: st) h Q = zG d 801 37 L (.ref (zN h) :: st) (wN h (20, x.toNatClampNeg)) Q := g_na rfl hx
theorem g801_37 (hT : zT h a = (8, 29)) : zG d 801 37 L (.ref b :: .ref a :: st) h Q = zG d 801 40 L st (wR h a 5 (.ref b)) Q := g_pR rfl hT
theorem g801_37_n (hT : zT h a = (8, 29)) : zG d 801 37 L (.null :: .ref a :: st) h Q = zG d 801 40 L st (wR h a 5 .null) Q := g_pR0 rfl hT
theorem g801_40 : zG d 801 40 (some (.ref a) :: L) st h Q = zG d 801 41 (some (.ref a) :: L) (.ref a :: st) h Q := g_ldA rfl rfl
theorem g801_41 : zG d 801 41 L st h Q = zG d 801 44 L (.int 600 :: st) h Q := g_c rfl
theorem g801_44 (hx : ¬ x < 0 ∧ x.toNatClampNeg ≤ 1000) : zG d 801 44 L (.int x :: st) h Q = zG d 801 46 L (.ref (zN h) :: st) (wN h (20, x.toNatClampNeg)) Q := g_na rfl hx
theorem g801_46 (hT : zT h a = (8, 29)) : zG d 801 46 L (.ref b :: .ref a :: st) h Q = zG d 801 49 L st (wR h a 7 (.ref b)) Q := g_pR rfl hT
theorem g801_46_n (hT : zT h a = (8, 29)) : zG d 801 46 L (.null :: .ref a :: st) h Q = zG d 801 49 L st (wR h a 7 .null) Q := g_pR0 rfl hT
theorem g801_49 : zG d 801 49 (some (.ref a) :: L) st h Q = zG d 801 50 (some (.ref a) :: L) (.ref a :: st) h Q := g_ldA rfl rfl
theorem g801_50 : zG d 801 50 L st h Q = zG d 801 52 L (.int 6 :: st) h Q := g_c rfl
theorem g801_52 (hx : ¬ x < 0 ∧ x.toNatClampNeg ≤ 1000) : zG d 801 52 L (.int x :: st) h Q = zG d 801 54 L (.ref (zN h) :: st) (wN h (20, x.toNatClampNeg)) Q := g_na rfl hx
theorem g801_54 (hT : zT h a = (8, 29)) : zG d 801 54 L (.ref b :: .ref a :: st) h Q = zG d 801 57 L st (wR h a 8 (.ref b)) Q := g_pR rfl hT
theorem g801_54_n (hT : zT h a = (8, 29)) : zG d 801 54 L (.null :: .ref a :: st) h Q = zG d 801 57 L st (wR h a 8 .null) Q := g_pR0 rfl hT
theorem g801_57 : zG d 801 57 (some (.ref a) :: L) st h Q = zG d 801 58 (some (.ref a) :: L) (.ref a :: st) h Q := g_ldA rfl rfl
theorem g801_58 : zG d 801 58 L st h Q = zG d 801 60 L (.int 100 :: st) h Q := g_c rfl
theorem g801_60 (hx : ¬ x < 0 ∧ x.toNatClampNeg ≤ 1000) : zG d 801 60 L (.int x :: st) h Q = zG d 801 62 L (.ref (zN h) :: st) (wN h (20, x.toNatClampNeg)) Q := g_na rfl hx
theorem g801_62 (hT : zT h a = (8, 29)) : zG d 801 62 L (.ref b :: .ref a :: st) h Q = zG d 801 65 L st (wR h a 10 (.ref b)) Q := g_pR rfl hT
theorem g801_62_n (hT : zT h a = (8, 29)) : zG d 801 62 L (.null :: .ref a :: st) h Q = zG d 801 65 L st (wR h a 10 .null) Q := g_pR0 rfl hT
theorem g801_65 : zG d 801 65 (some (.ref a) :: L) st h Q = zG d 801 66 (some (.ref a) :: L) (.ref a :: st) h Q := g_ldA rfl rfl
theorem g801_66 : zG d 801 66 L st h Q = zG d 801 68 L (.int 6 :: st) h Q := g_c rfl
theorem g801_68 (hx : ¬ x < 0 ∧ x.toNatClampNeg ≤ 1000) : zG d 801 68 L (.int x :: st) h Q = zG d 801 70 L (.ref (zN h) :: st) (wN h (20, x.toNatClampNeg)) Q := g_na rfl hx
theorem g801_70 (hT : zT h a = (8, 29)) : zG d 801 70 L (.ref b :: .ref a :: st) h Q = zG d 801 73 L st (wR h a 17 (.ref b)) Q := g_pR rfl hT
theorem g801_70_n (hT : zT h a = (8, 29)) : zG d 801 70 L (.null :: .ref a :: st) h Q = zG d 801 73 L st (wR h a 17 .null) Q := g_pR0 rfl hT
theorem g801_73 : zG d 801 73 (some (.ref a) :: L) st h Q = zG d 801 74 (some (.ref a) :: L) (.ref a :: st) h Q := g_ldA rfl rfl
theorem g801_74 : zG d 801 74 L st h Q = zG d 801 76 L (.int 6 :: st) h Q := g_c rfl
theorem g801_76 (hx : ¬ x < 0 ∧ x.toNatClampNeg ≤ 1000) : zG d 801 76 L (.int x :: st) h Q = zG d 801 78 L (.ref (zN h) :: st) (wN h (22, x.toNatClampNeg)) Q := g_na rfl hx
theorem g801_78 : zG d 801 78 L (.ref a :: st) h Q = zG d 801 79 L (.ref a :: .ref a :: st) h Q := g_dupA rfl
theorem g801_79 : zG d 801 79 L st h Q = zG d 801 80 L (.int 0 :: st) h Q := g_c rfl
theorem g801_80 : zG d 801 80 L st h Q = zG d 801 82 L (.int 112 :: st) h Q := g_c rfl
theorem g801_82 (hT : (zT h b).1 = 22) (hi : zin i (zT h b).2) : zG d 801 82 L (.int x :: .int i :: .ref b :: st) h Q = zG d 801 83 L st (wI h b i.toNatClampNeg (vp_nar .char x)) Q := g_is (f1 := fun x => vp_nar .char x) rfl hT hi
theorem g801_83 : zG d 801 83 L (.ref a :: st) h Q = zG d 801 84 L (.ref a :: .ref a :: st) h Q := g_dupA rfl
theorem g801_84 : zG d 801 84 L st h Q = zG d 801 85 L (.int 1 :: st) h Q := g_c rfl
theorem g801_85 : zG d 801 85 L st h Q = zG d 801 87 L (.int 107 :: st) h Q := g_c rfl
theorem g801_87 (hT : (zT h b).1 = 22) (hi : zin i (zT h b).2) : zG d 801 87 L (.int x :: .int i :: .ref b :: st) h Q = zG d 801 88 L st (wI h b i.toNatClampNeg (vp_nar .char x)) Q := g_is (f1 := fun x => vp_nar .char x) rfl hT hi
theorem g801_88 : zG d 801 88 L (.ref a :: st) h Q = zG d 801 89 L (.ref a :: .ref a :: st) h Q := g_dupA rfl
theorem g801_89 : zG d 801 89 L st h Q = zG d 801 90 L (.int 2 :: st) h Q := g_c rfl
theorem g801_90 : zG d 801 90 L st h Q = zG d 801 92 L (.int 118 :: st) h Q := g_c rfl
theorem g801_92 (hT : (zT h b).1 = 22) (hi : zin i (zT h b).2) : zG d 801 92 L (.int x :: .int i :: .ref b :: st) h Q = zG d 801 93 L st (wI h b i.toNatClampNeg (vp_nar .char x)) Q := g_is (f1 := fun x => vp_nar .char x) rfl hT hi
theorem g801_93 : zG d 801 93 L (.ref a :: st) h Q = zG d 801 94 L (.ref a :: .ref a :: st) h Q := g_dupA rfl
theorem g801_94 : zG d 801 94 L st h Q = zG d 801 95 L (.int 3 :: st) h Q := g_c rfl
theorem g801_95 : zG d 801 95 L st h Q = zG d 801 97 L (.int 119 :: st) h Q := g_c rfl
theorem g801_97 (hT : (zT h b).1 = 22) (hi : zin i (zT h b).2) : zG d 801 97 L (.int x :: .int i :: .ref b :: st) h Q = zG d 801 98 L st (wI h b i.toNatClampNeg (vp_nar .char x)) Q := g_is (f1 := fun x => vp_nar .char x) rfl hT hi
theorem g801_98 : zG d 801 98 L (.ref a :: st) h Q = zG d 801 99 L (.ref a :: .ref a :: st) h Q := g_dupA rfl
theorem g801_99 : zG d 801 99 L st h Q = zG d 801 100 L (.int 4 :: st) h Q := g_c rfl
theorem g801_100 : zG d 801 100 L st h Q = zG d 801 102 L (.int 116 :: st) h Q := g_c rfl
theorem g801_102 (hT : (zT h b).1 = 22) (hi : zin i (zT h b).2) : zG d 801 102 L (.int x :: .int i :: .ref b :: st) h Q = zG d 801 103 L st (wI h b i.toNatClampNeg (vp_nar .char x)) Q := g_is (f1 := fun x => vp_nar .char x) rfl hT hi
theorem g801_103 : zG d 801 103 L (.ref a :: st) h Q = zG d 801 104 L (.ref a :: .ref a :: st) h Q := g_dupA rfl
theorem g801_104 : zG d 801 104 L st h Q = zG d 801 105 L (.int 5 :: st) h Q := g_c rfl
theorem g801_105 : zG d 801 105 L st h Q = zG d 801 107 L (.int 100 :: st) h Q := g_c rfl
theorem g801_107 (hT : (zT h b).1 = 22) (hi : zin i (zT h b).2) : zG d 801 107 L (.int x :: .int i :: .ref b :: st) h Q = zG d 801 108 L st (wI h b i.toNatClampNeg (vp_nar .char x)) Q := g_is (f1 := fun x => vp_nar .char x) rfl hT hi
theorem g801_108 (hT : zT h a = (8, 29)) : zG d 801 108 L (.ref b :: .ref a :: st) h Q = zG d 801 111 L st (wR h a 18 (.ref b)) Q := g_pR rfl hT
theorem g801_108_n (hT : zT h a = (8, 29)) : zG d 801 108 L (.null :: .ref a :: st) h Q = zG d 801 111 L st (wR h a 18 .null) Q := g_pR0 rfl hT
theorem g801_111 : zG d 801 111 (some (.ref a) :: L) st h Q = zG d 801 112 (some (.ref a) :: L) (.ref a :: st) h Q := g_ldA rfl rfl
theorem g801_112 : zG d 801 112 L st h Q = zG d 801 113 L (.int 3 :: st) h Q := g_c rfl
theorem g801_113 (hx : ¬ x < 0 ∧ x.toNatClampNeg ≤ 1000) : zG d 801 113 L (.int x :: st) h Q = zG d 801 115 L (.ref (zN h) :: st) (wN h (22, x.toNatClampNeg)) Q := g_na rfl hx
theorem g801_115 : zG d 801 115 L (.ref a :: st) h Q = zG d 801 116 L (.ref a :: .ref a :: st) h Q := g_dupA rfl
theorem g801_116 : zG d 801 116 L st h Q = zG d 801 117 L (.int 0 :: st) h Q := g_c rfl
theorem g801_117 : zG d 801 117 L st h Q = zG d 801 119 L (.int 109 :: st) h Q := g_c rfl
theorem g801_119 (hT : (zT h b).1 = 22) (hi : zin i (zT h b).2) : zG d 801 119 L (.int x :: .int i :: .ref b :: st) h Q = zG d 801 120 L st (wI h b i.toNatClampNeg (vp_nar .char x)) Q := g_is (f1 := fun x => vp_nar .char x) rfl hT hi
theorem g801_120 : zG d 801 120 L (.ref a :: st) h Q = zG d 801 121 L (.ref a :: .ref a :: st) h Q := g_dupA rfl
theorem g801_121 : zG d 801 121 L st h Q = zG d 801 122 L (.int 1 :: st) h Q := g_c rfl
theorem g801_122 : zG d 801 122 L st h Q = zG d 801 124 L (.int 108 :: st) h Q := g_c rfl
theorem g801_124 (hT : (zT h b).1 = 22) (hi : zin i (zT h b).2) : zG d 801 124 L (.int x :: .int i :: .ref b :: st) h Q = zG d 801 125 L st (wI h b i.toNatClampNeg (vp_nar .char x)) Q := g_is (f1 := fun x => vp_nar .char x) rfl hT hi
theorem g801_125 : zG d 801 125 L (.ref a :: st) h Q = zG d 801 126 L (.ref a :: .ref a :: st) h Q := g_dupA rfl
theorem g801_126 : zG d 801 126 L st h Q = zG d 801 127 L (.int 2 :: st) h Q := g_c rfl
theorem g801_127 : zG d 801 127 L st h Q = zG d 801 129 L (.int 112 :: st) h Q := g_c rfl
theorem g801_129 (hT : (zT h b).1 = 22) (hi : zin i (zT h b).2) : zG d 801 129 L (.int x :: .int i :: .ref b :: st) h Q = zG d 801 130 L st (wI h b i.toNatClampNeg (vp_nar .char x)) Q := g_is (f1 := fun x => vp_nar .char x) rfl hT hi
theorem g801_130 (hT : zT h a = (8, 29)) : zG d 801 130 L (.ref b :: .ref a :: st) h Q = zG d 801 133 L st (wR h a 19 (.ref b)) Q := g_pR rfl hT
theorem g801_130_n (hT : zT h a = (8, 29)) : zG d 801 130 L (.null :: .ref a :: st) h Q = zG d 801 133 L st (wR h a 19 .null) Q := g_pR0 rfl hT
theorem g801_133 : zG d 801 133 (some (.ref a) :: L) st h Q = zG d 801 134 (some (.ref a) :: L) (.ref a :: st) h Q := g_ldA rfl rfl
theorem g801_134 : zG d 801 134 L st h Q = zG d 801 136 L (.int 15 :: st) h Q := g_c rfl
theorem g801_136 (hx : ¬ x < 0 ∧ x.toNatClampNeg ≤ 1000) : zG d 801 136 L (.int x :: st) h Q = zG d 801 138 L (.ref (zN h) :: st) (wN h (22, x.toNatClampNeg)) Q := g_na rfl hx
theorem g801_138 : zG d 801 138 L (.ref a :: st) h Q = zG d 801 139 L (.ref a :: .ref a :: st) h Q := g_dupA rfl
theorem g801_139 : zG d 801 139 L st h Q = zG d 801 140 L (.int 0 :: st) h Q := g_c rfl
theorem g801_140 : zG d 801 140 L st h Q = zG d 801 142 L (.int 109 :: st) h Q := g_c rfl
theorem g801_142 (hT : (zT h b).1 = 22) (hi : zin i (zT h b).2) : zG d 801 142 L (.int x :: .int i :: .ref b :: st) h Q = zG d 801 143 L st (wI h b i.toNatClampNeg (vp_nar .char x)) Q := g_is (f1 := fun x => vp_nar .char x) rfl hT hi
theorem g801_143 : zG d 801 143 L (.ref a :: st) h Q = zG d 801 144 L (.ref a :: .ref a :: st) h Q := g_dupA rfl
theorem g801_144 : zG d 801 144 L st h Q = zG d 801 145 L (.int 1 :: st) h Q := g_c rfl
theorem g801_145 : zG d 801 145 L st h Q = zG d 801 147 L (.int 111 :: st) h Q := g_c rfl
theorem g801_147 (hT : (zT h b).1 = 22) (hi : zin i (zT h b).2) : zG d 801 147 L (.int x :: .int i :: .ref b :: st) h Q = zG d 801 148 L st (wI h b i.toNatClampNeg (vp_nar .char x)) Q := g_is (f1 := fun x => vp_nar .char x) rfl hT hi
theorem g801_148 : zG d 801 148 L (.ref a :: st) h Q = zG d 801 149 L (.ref a :: .ref a :: st) h Q := g_dupA rfl
theorem g801_149 : zG d 801 149 L st h Q = zG d 801 150 L (.int 2 :: st) h Q := g_c rfl
theorem g801_150 : zG d 801 150 L st h Q = zG d 801 152 L (.int 114 :: st) h Q := g_c rfl
theorem g801_152 (hT : (zT h b).1 = 22) (hi : zin i (zT h b).2) : zG d 801 152 L (.int x :: .int i :: .ref b :: st) h Q = zG d 801 153 L st (wI h b i.toNatClampNeg (vp_nar .char x)) Q := g_is (f1 := fun x => vp_nar .char x) rfl hT hi
theorem g801_153 : zG d 801 153 L (.ref a :: st) h Q = zG d 801 154 L (.ref a :: .ref a :: st) h Q := g_dupA rfl
theorem g801_154 : zG d 801 154 L st h Q = zG d 801 155 L (.int 3 :: st) h Q := g_c rfl
theorem g801_155 : zG d 801 155 L st h Q = zG d 801 157 L (.int 101 :: st) h Q := g_c rfl
theorem g801_157 (hT : (zT h b).1 = 22) (hi : zin i (zT h b).2) : zG d 801 157 L (.int x :: .int i :: .ref b :: st) h Q = zG d 801 158 L st (wI h b i.toNatClampNeg (vp_nar .char x)) Q := g_is (f1 := fun x => vp_nar .char x) rfl hT hi
theorem g801_158 : zG d 801 158 L (.ref a :: st) h Q = zG d 801 159 L (.ref a :: .ref a :: st) h Q := g_dupA rfl
theorem g801_159 : zG d 801 159 L st h Q = zG d 801 160 L (.int 4 :: st) h Q := g_c rfl
theorem g801_160 : zG d 801 160 L st h Q = zG d 801 161 L (.int 0 :: st) h Q := g_c rfl
theorem g801_161 (hT : (zT h b).1 = 22) (hi : zin i (zT h b).2) : zG d 801 161 L (.int x :: .int i :: .ref b :: st) h Q = zG d 801 162 L st (wI h b i.toNatClampNeg (vp_nar .char x)) Q := g_is (f1 := fun x => vp_nar .char x) rfl hT hi
theorem g801_162 : zG d 801 162 L (.ref a :: st) h Q = zG d 801 163 L (.ref a :: .ref a :: st) h Q := g_dupA rfl
theorem g801_163 : zG d 801 163 L st h Q = zG d 801 164 L (.int 5 :: st) h Q := g_c rfl
theorem g801_164 : zG d 801 164 L st h Q = zG d 801 166 L (.int 108 :: st) h Q := g_c rfl
theorem g801_166 (hT : (zT h b).1 = 22) (hi : zin i (zT h b).2) : zG d 801 166 L (.int x :: .int i :: .ref b :: st) h Q = zG d 801 167 L st (wI h b i.toNatClampNeg (vp_nar .char x)) Q := g_is (f1 := fun x => vp_nar .char x) rfl hT hi
theorem g801_167 : zG d 801 167 L (.ref a :: st) h Q = zG d 801 168 L (.ref a :: .ref a :: st) h Q := g_dupA rfl
theorem g801_168 : zG d 801 168 L st h Q = zG d 801 170 L (.int 6 :: st) h Q := g_c rfl
theorem g801_170 : zG d 801 170 L st h Q = zG d 801 172 L (.int 101 :: st) h Q := g_c rfl
theorem g801_172 (hT : (zT h b).1 = 22) (hi : zin i (zT h b).2) : zG d 801 172 L (.int x :: .int i :: .ref b :: st) h Q = zG d 801 173 L st (wI h b i.toNatClampNeg (vp_nar .char x)) Q := g_is (f1 := fun x => vp_nar .char x) rfl hT hi
theorem g801_173 : zG d 801 173 L (.ref a :: st) h Q = zG d 801 174 L (.ref a :: .ref a :: st) h Q := g_dupA rfl
theorem g801_174 : zG d 801 174 L st h Q = zG d 801 176 L (.int 7 :: st) h Q := g_c rfl
theorem g801_176 : zG d 801 176 L st h Q = zG d 801 178 L (.int 115 :: st) h Q := g_c rfl
theorem g801_178 (hT : (zT h b).1 = 22) (hi : zin i (zT h b).2) : zG d 801 178 L (.int x :: .int i :: .ref b :: st) h Q = zG d 801 179 L st (wI h b i.toNatClampNeg (vp_nar .char x)) Q := g_is (f1 := fun x => vp_nar .char x) rfl hT hi
theorem g801_179 : zG d 801 179 L (.ref a :: st) h Q = zG d 801 180 L (.ref a :: .ref a :: st) h Q := g_dupA rfl
theorem g801_180 : zG d 801 180 L st h Q = zG d 801 182 L (.int 8 :: st) h Q := g_c rfl
theorem g801_182 : zG d 801 182 L st h Q = zG d 801 184 L (.int 115 :: st) h Q := g_c rfl
theorem g801_184 (hT : (zT h b).1 = 22) (hi : zin i (zT h b).2) : zG d 801 184 L (.int x :: .int i :: .ref b :: st) h Q = zG d 801 185 L st (wI h b i.toNatClampNeg (vp_nar .char x)) Q := g_is (f1 := fun x => vp_nar .char x) rfl hT hi
theorem g801_185 : zG d 801 185 L (.ref a :: st) h Q = zG d 801 186 L (.ref a :: .ref a :: st) h Q := g_dupA rfl
theorem g801_186 : zG d 801 186 L st h Q = zG d 801 188 L (.int 9 :: st) h Q := g_c rfl
theorem g801_188 : zG d 801 188 L st h Q = zG d 801 189 L (.int 0 :: st) h Q := g_c rfl
theorem g801_189 (hT : (zT h b).1 = 22) (hi : zin i (zT h b).2) : zG d 801 189 L (.int x :: .int i :: .ref b :: st) h Q = zG d 801 190 L st (wI h b i.toNatClampNeg (vp_nar .char x)) Q := g_is (f1 := fun x => vp_nar .char x) rfl hT hi
theorem g801_190 : zG d 801 190 L (.ref a :: st) h Q = zG d 801 191 L (.ref a :: .ref a :: st) h Q := g_dupA rfl
theorem g801_191 : zG d 801 191 L st h Q = zG d 801 193 L (.int 10 :: st) h Q := g_c rfl
theorem g801_193 : zG d 801 193 L st h Q = zG d 801 195 L (.int 112 :: st) h Q := g_c rfl
theorem g801_195 (hT : (zT h b).1 = 22) (hi : zin i (zT h b).2) : zG d 801 195 L (.int x :: .int i :: .ref b :: st) h Q = zG d 801 196 L st (wI h b i.toNatClampNeg (vp_nar .char x)) Q := g_is (f1 := fun x => vp_nar .char x) rfl hT hi
theorem g801_196 : zG d 801 196 L (.ref a :: st) h Q = zG d 801 197 L (.ref a :: .ref a :: st) h Q := g_dupA rfl
theorem g801_197 : zG d 801 197 L st h Q = zG d 801 199 L (.int 11 :: st) h Q := g_c rfl
theorem g801_199 : zG d 801 199 L st h Q = zG d 801 201 L (.int 97 :: st) h Q := g_c rfl
theorem g801_201 (hT : (zT h b).1 = 22) (hi : zin i (zT h b).2) : zG d 801 201 L (.int x :: .int i :: .ref b :: st) h Q = zG d 801 202 L st (wI h b i.toNatClampNeg (vp_nar .char x)) Q := g_is (f1 := fun x => vp_nar .char x) rfl hT hi
theorem g801_202 : zG d 801 202 L (.ref a :: st) h Q = zG d 801 203 L (.ref a :: .ref a :: st) h Q := g_dupA rfl
theorem g801_203 : zG d 801 203 L st h Q = zG d 801 205 L (.int 12 :: st) h Q := g_c rfl
theorem g801_205 : zG d 801 205 L st h Q = zG d 801 207 L (.int 121 :: st) h Q := g_c rfl
theorem g801_207 (hT : (zT h b).1 = 22) (hi : zin i (zT h b).2) : zG d 801 207 L (.int x :: .int i :: .ref b :: st) h Q = zG d 801 208 L st (wI h b i.toNatClampNeg (vp_nar .char x)) Q := g_is (f1 := fun x => vp_nar .char x) rfl hT hi
theorem g801_208 : zG d 801 208 L (.ref a :: st) h Q = zG d 801 209 L (.ref a :: .ref a :: st) h Q := g_dupA rfl
theorem g801_209 : zG d 801 209 L st h Q = zG d 801 211 L (.int 13 :: st) h Q := g_c rfl
theorem g801_211 : zG d 801 211 L st h Q = zG d 801 212 L (.int 0 :: st) h Q := g_c rfl
theorem g801_212 (hT : (zT h b).1 = 22) (hi : zin i (zT h b).2) : zG d 801 212 L (.int x :: .int i :: .ref b :: st) h Q = zG d 801 213 L st (wI h b i.toNatClampNeg (vp_nar .char x)) Q := g_is (f1 := fun x => vp_nar .char x) rfl hT hi
theorem g801_213 : zG d 801 213 L (.ref a :: st) h Q = zG d 801 214 L (.ref a :: .ref a :: st) h Q := g_dupA rfl
theorem g801_214 : zG d 801 214 L st h Q = zG d 801 216 L (.int 14 :: st) h Q := g_c rfl
theorem g801_216 : zG d 801 216 L st h Q = zG d 801 217 L (.int 0 :: st) h Q := g_c rfl
theorem g801_217 (hT : (zT h b).1 = 22) (hi : zin i (zT h b).2) : zG d 801 217 L (.int x :: .int i :: .ref b :: st) h Q = zG d 801 218 L st (wI h b i.toNatClampNeg (vp_nar .char x)) Q := g_is (f1 := fun x => vp_nar .char x) rfl hT hi
theorem g801_218 (hT : zT h a = (8, 29)) : zG d 801 218 L (.ref b :: .ref a :: st) h Q = zG d 801 221 L st (wR h a 20 (.ref b)) Q := g_pR rfl hT
theorem g801_218_n (hT : zT h a = (8, 29)) : zG d 801 218 L (.null :: .ref a :: st) h Q = zG d 801 221 L st (wR h a 20 .null) Q := g_pR0 rfl hT
theorem g801_221 : zG d 801 221 (some (.ref a) :: L) st h Q = zG d 801 222 (some (.ref a) :: L) (.ref a :: st) h Q := g_ldA rfl rfl
theorem g801_222 : zG d 801 222 L st h Q = zG d 801 224 L (.int 7 :: st) h Q := g_c rfl
theorem g801_224 (hx : ¬ x < 0 ∧ x.toNatClampNeg ≤ 1000) : zG d 801 224 L (.int x :: st) h Q = zG d 801 226 L (.ref (zN h) :: st) (wN h (20, x.toNatClampNeg)) Q := g_na rfl hx
theorem g801_226 : zG d 801 226 L (.ref a :: st) h Q = zG d 801 227 L (.ref a :: .ref a :: st) h Q := g_dupA rfl
theorem g801_227 : zG d 801 227 L st h Q = zG d 801 228 L (.int 0 :: st) h Q := g_c rfl
theorem g801_228 : zG d 801 228 L st h Q = zG d 801 229 L (.int (-1) :: st) h Q := g_c rfl
theorem g801_229 (hT : (zT h b).1 = 20) (hi : zin i (zT h b).2) : zG d 801 229 L (.int x :: .int i :: .ref b :: st) h Q = zG d 801 230 L st (wI h b i.toNatClampNeg (x)) Q := g_is (f1 := fun x => x) rfl hT hi
theorem g801_230 : zG d 801 230 L (.ref a :: st) h Q = zG d 801 231 L (.ref a :: .ref a :: st) h Q := g_dupA rfl
theorem g801_231 : zG d 801 231 L st h Q = zG d 801 232 L (.int 1 :: st) h Q := g_c rfl
theorem g801_232 : zG d 801 232 L st h Q = zG d 801 233 L (.int 0 :: st) h Q := g_c rfl
theorem g801_233 (hT : (zT h b).1 = 20) (hi : zin i (zT h b).2) : zG d 801 233 L (.int x :: .int i :: .ref b :: st) h Q = zG d 801 234 L st (wI h b i.toNatClampNeg (x)) Q := g_is (f1 := fun x => x) rfl hT hi
theorem g801_234 : zG d 801 234 L (.ref a :: st) h Q = zG d 801 235 L (.ref a :: .ref a :: st) h Q := g_dupA rfl
theorem g801_235 : zG d 801 235 L st h Q = zG d 801 236 L (.int 2 :: st) h Q := g_c rfl
theorem g801_236 : zG d 801 236 L st h Q = zG d 801 237 L (.int 0 :: st) h Q := g_c rfl
theorem g801_237 (hT : (zT h b).1 = 20) (hi : zin i (zT h b).2) : zG d 801 237 L (.int x :: .int i :: .ref b :: st) h Q = zG d 801 238 L st (wI h b i.toNatClampNeg (x)) Q := g_is (f1 := fun x => x) rfl hT hi
theorem g801_238 : zG d 801 238 L (.ref a :: st) h Q = zG d 801 239 L (.ref a :: .ref a :: st) h Q := g_dupA rfl
theorem g801_239 : zG d 801 239 L st h Q = zG d 801 240 L (.int 3 :: st) h Q := g_c rfl
theorem g801_240 : zG d 801 240 L st h Q = zG d 801 241 L (.int 0 :: st) h Q := g_c rfl
theorem g801_241 (hT : (zT h b).1 = 20) (hi : zin i (zT h b).2) : zG d 801 241 L (.int x :: .int i :: .ref b :: st) h Q = zG d 801 242 L st (wI h b i.toNatClampNeg (x)) Q := g_is (f1 := fun x => x) rfl hT hi
theorem g801_242 : zG d 801 242 L (.ref a :: st) h Q = zG d 801 243 L (.ref a :: .ref a :: st) h Q := g_dupA rfl
theorem g801_243 : zG d 801 243 L st h Q = zG d 801 244 L (.int 4 :: st) h Q := g_c rfl
theorem g801_244 : zG d 801 244 L st h Q = zG d 801 245 L (.int 1 :: st) h Q := g_c rfl
theorem g801_245 (hT : (zT h b).1 = 20) (hi : zin i (zT h b).2) : zG d 801 245 L (.int x :: .int i :: .ref b :: st) h Q = zG d 801 246 L st (wI h b i.toNatClampNeg (x)) Q := g_is (f1 := fun x => x) rfl hT hi
theorem g801_246 : zG d 801 246 L (.ref a :: st) h Q = zG d 801 247 L (.ref a :: .ref a :: st) h Q := g_dupA rfl
theorem g801_247 : zG d 801 247 L st h Q = zG d 801 248 L (.int 5 :: st) h Q := g_c rfl
theorem g801_248 : zG d 801 248 L st h Q = zG d 801 249 L (.int 2 :: st) h Q := g_c rfl
theorem g801_249 (hT : (zT h b).1 = 20) (hi : zin i (zT h b).2) : zG d 801 249 L (.int x :: .int i :: .ref b :: st) h Q = zG d 801 250 L st (wI h b i.toNatClampNeg (x)) Q := g_is (f1 := fun x => x) rfl hT hi
theorem g801_250 : zG d 801 250 L (.ref a :: st) h Q = zG d 801 251 L (.ref a :: .ref a :: st) h Q := g_dupA rfl
theorem g801_251 : zG d 801 251 L st h Q = zG d 801 253 L (.int 6 :: st) h Q := g_c rfl
theorem g801_253 : zG d 801 253 L st h Q = zG d 801 254 L (.int 3 :: st) h Q := g_c rfl
theorem g801_254 (hT : (zT h b).1 = 20) (hi : zin i (zT h b).2) : zG d 801 254 L (.int x :: .int i :: .ref b :: st) h Q = zG d 801 255 L st (wI h b i.toNatClampNeg (x)) Q := g_is (f1 := fun x => x) rfl hT hi
theorem g801_255 (hT : zT h a = (8, 29)) : zG d 801 255 L (.ref b :: .ref a :: st) h Q = zG d 801 258 L st (wR h a 21 (.ref b)) Q := g_pR rfl hT
theorem g801_255_n (hT : zT h a = (8, 29)) : zG d 801 255 L (.null :: .ref a :: st) h Q = zG d 801 258 L st (wR h a 21 .null) Q := g_pR0 rfl hT
theorem g801_258 : zG d 801 258 (some (.ref a) :: L) st h Q = zG d 801 259 (some (.ref a) :: L) (.ref a :: st) h Q := g_ldA rfl rfl
theorem g801_259 : zG d 801 259 L st h Q = zG d 801 261 L (.int 21 :: st) h Q := g_c rfl
theorem g801_261 (hx : ¬ x < 0 ∧ x.toNatClampNeg ≤ 1000) : zG d 801 261 L (.int x :: st) h Q = zG d 801 263 L (.ref (zN h) :: st) (wN h (20, x.toNatClampNeg)) Q := g_na rfl hx
theorem g801_263 : zG d 801 263 L (.ref a :: st) h Q = zG d 801 264 L (.ref a :: .ref a :: st) h Q := g_dupA rfl
theorem g801_264 : zG d 801 264 L st h Q = zG d 801 265 L (.int 0 :: st) h Q := g_c rfl
theorem g801_265 : zG d 801 265 L st h Q = zG d 801 267 L (.int 10 :: st) h Q := g_c rfl
theorem g801_267 (hT : (zT h b).1 = 20) (hi : zin i (zT h b).2) : zG d 801 267 L (.int x :: .int i :: .ref b :: st) h Q = zG d 801 268 L st (wI h b i.toNatClampNeg (x)) Q := g_is (f1 := fun x => x) rfl hT hi
theorem g801_268 : zG d 801 268 L (.ref a :: st) h Q = zG d 801 269 L (.ref a :: .ref a :: st) h Q := g_dupA rfl
theorem g801_269 : zG d 801 269 L st h Q = zG d 801 270 L (.int 1 :: st) h Q := g_c rfl
theorem g801_270 : zG d 801 270 L st h Q = zG d 801 272 L (.int 11 :: st) h Q := g_c rfl
theorem g801_272 (hT : (zT h b).1 = 20) (hi : zin i (zT h b).2) : zG d 801 272 L (.int x :: .int i :: .ref b :: st) h Q = zG d 801 273 L st (wI h b i.toNatClampNeg (x)) Q := g_is (f1 := fun x => x) rfl hT hi
theorem g801_273 : zG d 801 273 L (.ref a :: st) h Q = zG d 801 274 L (.ref a :: .ref a :: st) h Q := g_dupA rfl
theorem g801_274 : zG d 801 274 L st h Q = zG d 801 275 L (.int 2 :: st) h Q := g_c rfl
theorem g801_275 : zG d 801 275 L st h Q = zG d 801 277 L (.int 12 :: st) h Q := g_c rfl
theorem g801_277 (hT : (zT h b).1 = 20) (hi : zin i (zT h b).2) : zG d 801 277 L (.int x :: .int i :: .ref b :: st) h Q = zG d 801 278 L st (wI h b i.toNatClampNeg (x)) Q := g_is (f1 := fun x => x) rfl hT hi
theorem g801_278 : zG d 801 278 L (.ref a :: st) h Q = zG d 801 279 L (.ref a :: .ref a :: st) h Q := g_dupA rfl
theorem g801_279 : zG d 801 279 L st h Q = zG d 801 280 L (.int 3 :: st) h Q := g_c rfl
theorem g801_280 : zG d 801 280 L st h Q = zG d 801 281 L (.int 0 :: st) h Q := g_c rfl
theorem g801_281 (hT : (zT h b).1 = 20) (hi : zin i (zT h b).2) : zG d 801 281 L (.int x :: .int i :: .ref b :: st) h Q = zG d 801 282 L st (wI h b i.toNatClampNeg (x)) Q := g_is (f1 := fun x => x) rfl hT hi
theorem g801_282 : zG d 801 282 L (.ref a :: st) h Q = zG d 801 283 L (.ref a :: .ref a :: st) h Q := g_dupA rfl
theorem g801_283 : zG d 801 283 L st h Q = zG d 801 284 L (.int 4 :: st) h Q := g_c rfl
theorem g801_284 : zG d 801 284 L st h Q = zG d 801 286 L (.int 20 :: st) h Q := g_c rfl
theorem g801_286 (hT : (zT h b).1 = 20) (hi : zin i (zT h b).2) : zG d 801 286 L (.int x :: .int i :: .ref b :: st) h Q = zG d 801 287 L st (wI h b i.toNatClampNeg (x)) Q := g_is (f1 := fun x => x) rfl hT hi
theorem g801_287 : zG d 801 287 L (.ref a :: st) h Q = zG d 801 288 L (.ref a :: .ref a :: st) h Q := g_dupA rfl
theorem g801_288 : zG d 801 288 L st h Q = zG d 801 289 L (.int 5 :: st) h Q := g_c rfl
theorem g801_289 : zG d 801 289 L st h Q = zG d 801 290 L (.int 0 :: st) h Q := g_c rfl
theorem g801_290 (hT : (zT h b).1 = 20) (hi : zin i (zT h b).2) : zG d 801 290 L (.int x :: .int i :: .ref b :: st) h Q = zG d 801 291 L st (wI h b i.toNatClampNeg (x)) Q := g_is (f1 := fun x => x) rfl hT hi
theorem g801_291 : zG d 801 291 L (.ref a :: st) h Q = zG d 801 292 L (.ref a :: .ref a :: st) h Q := g_dupA rfl
theorem g801_292 : zG d 801 292 L st h Q = zG d 801 294 L (.int 6 :: st) h Q := g_c rfl
theorem g801_294 : zG d 801 294 L st h Q = zG d 801 296 L (.int 30 :: st) h Q := g_c rfl
theorem g801_296 (hT : (zT h b).1 = 20) (hi : zin i (zT h b).2) : zG d 801 296 L (.int x :: .int i :: .ref b :: st) h Q = zG d 801 297 L st (wI h b i.toNatClampNeg (x)) Q := g_is (f1 := fun x => x) rfl hT hi
theorem g801_297 : zG d 801 297 L (.ref a :: st) h Q = zG d 801 298 L (.ref a :: .ref a :: st) h Q := g_dupA rfl
theorem g801_298 : zG d 801 298 L st h Q = zG d 801 300 L (.int 7 :: st) h Q := g_c rfl
theorem g801_300 : zG d 801 300 L st h Q = zG d 801 301 L (.int 0 :: st) h Q := g_c rfl
theorem g801_301 (hT : (zT h b).1 = 20) (hi : zin i (zT h b).2) : zG d 801 301 L (.int x :: .int i :: .ref b :: st) h Q = zG d 801 302 L st (wI h b i.toNatClampNeg (x)) Q := g_is (f1 := fun x => x) rfl hT hi
theorem g801_302 : zG d 801 302 L (.ref a :: st) h Q = zG d 801 303 L (.ref a :: .ref a :: st) h Q := g_dupA rfl
theorem g801_303 : zG d 801 303 L st h Q = zG d 801 305 L (.int 8 :: st) h Q := g_c rfl
theorem g801_305 : zG d 801 305 L st h Q = zG d 801 306 L (.int 0 :: st) h Q := g_c rfl
theorem g801_306 (hT : (zT h b).1 = 20) (hi : zin i (zT h b).2) : zG d 801 306 L (.int x :: .int i :: .ref b :: st) h Q = zG d 801 307 L st (wI h b i.toNatClampNeg (x)) Q := g_is (f1 := fun x => x) rfl hT hi
theorem g801_307 : zG d 801 307 L (.ref a :: st) h Q = zG d 801 308 L (.ref a :: .ref a :: st) h Q := g_dupA rfl
theorem g801_308 : zG d 801 308 L st h Q = zG d 801 310 L (.int 9 :: st) h Q := g_c rfl
theorem g801_310 : zG d 801 310 L st h Q = zG d 801 311 L (.int 0 :: st) h Q := g_c rfl
theorem g801_311 (hT : (zT h b).1 = 20) (hi : zin i (zT h b).2) : zG d 801 311 L (.int x :: .int i :: .ref b :: st) h Q = zG d 801 312 L st (wI h b i.toNatClampNeg (x)) Q := g_is (f1 := fun x => x) rfl hT hi
theorem g801_312 : zG d 801 312 L (.ref a :: st) h Q = zG d 801 313 L (.ref a :: .ref a :: st) h Q := g_dupA rfl
theorem g801_313 : zG d 801 313 L st h Q = zG d 801 315 L (.int 10 :: st) h Q := g_c rfl
theorem g801_315 : zG d 801 315 L st h Q = zG d 801 316 L (.int 0 :: st) h Q := g_c rfl
theorem g801_316 (hT : (zT h b).1 = 20) (hi : zin i (zT h b).2) : zG d 801 316 L (.int x :: .int i :: .ref b :: st) h Q = zG d 801 317 L st (wI h b i.toNatClampNeg (x)) Q := g_is (f1 := fun x => x) rfl hT hi
theorem g801_317 : zG d 801 317 L (.ref a :: st) h Q = zG d 801 318 L (.ref a :: .ref a :: st) h Q := g_dupA rfl
theorem g801_318 : zG d 801 318 L st h Q = zG d 801 320 L (.int 11 :: st) h Q := g_c rfl
theorem g801_320 : zG d 801 320 L st h Q = zG d 801 322 L (.int 40 :: st) h Q := g_c rfl
theorem g801_322 (hT : (zT h b).1 = 20) (hi : zin i (zT h b).2) : zG d 801 322 L (.int x :: .int i :: .ref b :: st) h Q = zG d 801 323 L st (wI h b i.toNatClampNeg (x)) Q := g_is (f1 := fun x => x) rfl hT hi
theorem g801_323 : zG d 801 323 L (.ref a :: st) h Q = zG d 801 324 L (.ref a :: .ref a :: st) h Q := g_dupA rfl
theorem g801_324 : zG d 801 324 L st h Q = zG d 801 326 L (.int 12 :: st) h Q := g_c rfl
theorem g801_326 : zG d 801 326 L st h Q = zG d 801 328 L (.int 50 :: st) h Q := g_c rfl
theorem g801_328 (hT : (zT h b).1 = 20) (hi : zin i (zT h b).2) : zG d 801 328 L (.int x :: .int i :: .ref b :: st) h Q = zG d 801 329 L st (wI h b i.toNatClampNeg (x)) Q := g_is (f1 := fun x => x) rfl hT hi
theorem g801_329 : zG d 801 329 L (.ref a :: st) h Q = zG d 801 330 L (.ref a :: .ref a :: st) h Q := g_dupA rfl
theorem g801_330 : zG d 801 330 L st h Q = zG d 801 332 L (.int 13 :: st) h Q := g_c rfl
theorem g801_332 : zG d 801 332 L st h Q = zG d 801 334 L (.int 51 :: st) h Q := g_c rfl
theorem g801_334 (hT : (zT h b).1 = 20) (hi : zin i (zT h b).2) : zG d 801 334 L (.int x :: .int i :: .ref b :: st) h Q = zG d 801 335 L st (wI h b i.toNatClampNeg (x)) Q := g_is (f1 := fun x => x) rfl hT hi
theorem g801_335 : zG d 801 335 L (.ref a :: st) h Q = zG d 801 336 L (.ref a :: .ref a :: st) h Q := g_dupA rfl
theorem g801_336 : zG d 801 336 L st h Q = zG d 801 338 L (.int 14 :: st) h Q := g_c rfl
theorem g801_338 : zG d 801 338 L st h Q = zG d 801 339 L (.int 0 :: st) h Q := g_c rfl
theorem g801_339 (hT : (zT h b).1 = 20) (hi : zin i (zT h b).2) : zG d 801 339 L (.int x :: .int i :: .ref b :: st) h Q = zG d 801 340 L st (wI h b i.toNatClampNeg (x)) Q := g_is (f1 := fun x => x) rfl hT hi
theorem g801_340 : zG d 801 340 L (.ref a :: st) h Q = zG d 801 341 L (.ref a :: .ref a :: st) h Q := g_dupA rfl
theorem g801_341 : zG d 801 341 L st h Q = zG d 801 343 L (.int 15 :: st) h Q := g_c rfl
theorem g801_343 : zG d 801 343 L st h Q = zG d 801 344 L (.int 0 :: st) h Q := g_c rfl
theorem g801_344 (hT : (zT h b).1 = 20) (hi : zin i (zT h b).2) : zG d 801 344 L (.int x :: .int i :: .ref b :: st) h Q = zG d 801 345 L st (wI h b i.toNatClampNeg (x)) Q := g_is (f1 := fun x => x) rfl hT hi
theorem g801_345 : zG d 801 345 L (.ref a :: st) h Q = zG d 801 346 L (.ref a :: .ref a :: st) h Q := g_dupA rfl
theorem g801_346 : zG d 801 346 L st h Q = zG d 801 348 L (.int 16 :: st) h Q := g_c rfl
theorem g801_348 : zG d 801 348 L st h Q = zG d 801 349 L (.int 0 :: st) h Q := g_c rfl
theorem g801_349 (hT : (zT h b).1 = 20) (hi : zin i (zT h b).2) : zG d 801 349 L (.int x :: .int i :: .ref b :: st) h Q = zG d 801 350 L st (wI h b i.toNatClampNeg (x)) Q := g_is (f1 := fun x => x) rfl hT hi
theorem g801_350 : zG d 801 350 L (.ref a :: st) h Q = zG d 801 351 L (.ref a :: .ref a :: st) h Q := g_dupA rfl
theorem g801_351 : zG d 801 351 L st h Q = zG d 801 353 L (.int 17 :: st) h Q := g_c rfl
theorem g801_353 : zG d 801 353 L st h Q = zG d 801 355 L (.int 60 :: st) h Q := g_c rfl
theorem g801_355 (hT : (zT h b).1 = 20) (hi : zin i (zT h b).2) : zG d 801 355 L (.int x :: .int i :: .ref b :: st) h Q = zG d 801 356 L st (wI h b i.toNatClampNeg (x)) Q := g_is (f1 := fun x => x) rfl hT hi
theorem g801_356 : zG d 801 356 L (.ref a :: st) h Q = zG d 801 357 L (.ref a :: .ref a :: st) h Q := g_dupA rfl
theorem g801_357 : zG d 801 357 L st h Q = zG d 801 359 L (.int 18 :: st) h Q := g_c rfl
theorem g801_359 : zG d 801 359 L st h Q = zG d 801 361 L (.int 71 :: st) h Q := g_c rfl
theorem g801_361 (hT : (zT h b).1 = 20) (hi : zin i (zT h b).2) : zG d 801 361 L (.int x :: .int i :: .ref b :: st) h Q = zG d 801 362 L st (wI h b i.toNatClampNeg (x)) Q := g_is (f1 := fun x => x) rfl hT hi
theorem g801_362 : zG d 801 362 L (.ref a :: st) h Q = zG d 801 363 L (.ref a :: .ref a :: st) h Q := g_dupA rfl
theorem g801_363 : zG d 801 363 L st h Q = zG d 801 365 L (.int 19 :: st) h Q := g_c rfl
theorem g801_365 : zG d 801 365 L st h Q = zG d 801 367 L (.int 70 :: st) h Q := g_c rfl
theorem g801_367 (hT : (zT h b).1 = 20) (hi : zin i (zT h b).2) : zG d 801 367 L (.int x :: .int i :: .ref b :: st) h Q = zG d 801 368 L st (wI h b i.toNatClampNeg (x)) Q := g_is (f1 := fun x => x) rfl hT hi
theorem g801_368 : zG d 801 368 L (.ref a :: st) h Q = zG d 801 369 L (.ref a :: .ref a :: st) h Q := g_dupA rfl
theorem g801_369 : zG d 801 369 L st h Q = zG d 801 371 L (.int 20 :: st) h Q := g_c rfl
theorem g801_371 : zG d 801 371 L st h Q = zG d 801 372 L (.int 0 :: st) h Q := g_c rfl
theorem g801_372 (hT : (zT h b).1 = 20) (hi : zin i (zT h b).2) : zG d 801 372 L (.int x :: .int i :: .ref b :: st) h Q = zG d 801 373 L st (wI h b i.toNatClampNeg (x)) Q := g_is (f1 := fun x => x) rfl hT hi
theorem g801_373 (hT : zT h a = (8, 29)) : zG d 801 373 L (.ref b :: .ref a :: st) h Q = zG d 801 376 L st (wR h a 22 (.ref b)) Q := g_pR rfl hT
theorem g801_373_n (hT : zT h a = (8, 29)) : zG d 801 373 L (.null :: .ref a :: st) h Q = zG d 801 376 L st (wR h a 22 .null) Q := g_pR0 rfl hT
theorem g801_376 : zG d 801 376 (some (.ref a) :: L) st h Q = zG d 801 377 (some (.ref a) :: L) (.ref a :: st) h Q := g_ldA rfl rfl
theorem g801_377 : zG d 801 377 L st h Q = zG d 801 379 L (.int 20 :: st) h Q := g_c rfl
theorem g801_379 (hx : ¬ x < 0 ∧ x.toNatClampNeg ≤ 1000) : zG d 801 379 L (.int x :: st) h Q = zG d 801 381 L (.ref (zN h) :: st) (wN h (20, x.toNatClampNeg)) Q := g_na rfl hx
theorem g801_381 (hT : zT h a = (8, 29)) : zG d 801 381 L (.ref b :: .ref a :: st) h Q = zG d 801 384 L st (wR h a 23 (.ref b)) Q := g_pR rfl hT
theorem g801_381_n (hT : zT h a = (8, 29)) : zG d 801 381 L (.null :: .ref a :: st) h Q = zG d 801 384 L st (wR h a 23 .null) Q := g_pR0 rfl hT
theorem g801_384 : zG d 801 384 (some (.ref a) :: L) st h Q = zG d 801 385 (some (.ref a) :: L) (.ref a :: st) h Q := g_ldA rfl rfl
theorem g801_385 : zG d 801 385 L st h Q = zG d 801 387 L (.int 6 :: st) h Q := g_c rfl
theorem g801_387 (hx : ¬ x < 0 ∧ x.toNatClampNeg ≤ 1000) : zG d 801 387 L (.int x :: st) h Q = zG d 801 389 L (.ref (zN h) :: st) (wN h (20, x.toNatClampNeg)) Q := g_na rfl hx
theorem g801_389 : zG d 801 389 L (.ref a :: st) h Q = zG d 801 390 L (.ref a :: .ref a :: st) h Q := g_dupA rfl
theorem g801_390 : zG d 801 390 L st h Q = zG d 801 391 L (.int 0 :: st) h Q := g_c rfl
theorem g801_391 : zG d 801 391 L st h Q = zG d 801 392 L (.int (-1) :: st) h Q := g_c rfl
theorem g801_392 (hT : (zT h b).1 = 20) (hi : zin i (zT h b).2) : zG d 801 392 L (.int x :: .int i :: .ref b :: st) h Q = zG d 801 393 L st (wI h b i.toNatClampNeg (x)) Q := g_is (f1 := fun x => x) rfl hT hi
theorem g801_393 : zG d 801 393 L (.ref a :: st) h Q = zG d 801 394 L (.ref a :: .ref a :: st) h Q := g_dupA rfl
theorem g801_394 : zG d 801 394 L st h Q = zG d 801 395 L (.int 1 :: st) h Q := g_c rfl
theorem g801_395 : zG d 801 395 L st h Q = zG d 801 396 L (.int (-1) :: st) h Q := g_c rfl
theorem g801_396 (hT : (zT h b).1 = 20) (hi : zin i (zT h b).2) : zG d 801 396 L (.int x :: .int i :: .ref b :: st) h Q = zG d 801 397 L st (wI h b i.toNatClampNeg (x)) Q := g_is (f1 := fun x => x) rfl hT hi
theorem g801_397 : zG d 801 397 L (.ref a :: st) h Q = zG d 801 398 L (.ref a :: .ref a :: st) h Q := g_dupA rfl
theorem g801_398 : zG d 801 398 L st h Q = zG d 801 399 L (.int 2 :: st) h Q := g_c rfl
theorem g801_399 : zG d 801 399 L st h Q = zG d 801 400 L (.int (-1) :: st) h Q := g_c rfl
theorem g801_400 (hT : (zT h b).1 = 20) (hi : zin i (zT h b).2) : zG d 801 400 L (.int x :: .int i :: .ref b :: st) h Q = zG d 801 401 L st (wI h b i.toNatClampNeg (x)) Q := g_is (f1 := fun x => x) rfl hT hi
theorem g801_401 : zG d 801 401 L (.ref a :: st) h Q = zG d 801 402 L (.ref a :: .ref a :: st) h Q := g_dupA rfl
theorem g801_402 : zG d 801 402 L st h Q = zG d 801 403 L (.int 3 :: st) h Q := g_c rfl
theorem g801_403 : zG d 801 403 L st h Q = zG d 801 404 L (.int (-1) :: st) h Q := g_c rfl
theorem g801_404 (hT : (zT h b).1 = 20) (hi : zin i (zT h b).2) : zG d 801 404 L (.int x :: .int i :: .ref b :: st) h Q = zG d 801 405 L st (wI h b i.toNatClampNeg (x)) Q := g_is (f1 := fun x => x) rfl hT hi
theorem g801_405 : zG d 801 405 L (.ref a :: st) h Q = zG d 801 406 L (.ref a :: .ref a :: st) h Q := g_dupA rfl
theorem g801_406 : zG d 801 406 L st h Q = zG d 801 407 L (.int 4 :: st) h Q := g_c rfl
theorem g801_407 : zG d 801 407 L st h Q = zG d 801 408 L (.int (-1) :: st) h Q := g_c rfl
theorem g801_408 (hT : (zT h b).1 = 20) (hi : zin i (zT h b).2) : zG d 801 408 L (.int x :: .int i :: .ref b :: st) h Q = zG d 801 409 L st (wI h b i.toNatClampNeg (x)) Q := g_is (f1 := fun x => x) rfl hT hi
theorem g801_409 : zG d 801 409 L (.ref a :: st) h Q = zG d 801 410 L (.ref a :: .ref a :: st) h Q := g_dupA rfl
theorem g801_410 : zG d 801 410 L st h Q = zG d 801 411 L (.int 5 :: st) h Q := g_c rfl
theorem g801_411 : zG d 801 411 L st h Q = zG d 801 412 L (.int (-1) :: st) h Q := g_c rfl
theorem g801_412 (hT : (zT h b).1 = 20) (hi : zin i (zT h b).2) : zG d 801 412 L (.int x :: .int i :: .ref b :: st) h Q = zG d 801 413 L st (wI h b i.toNatClampNeg (x)) Q := g_is (f1 := fun x => x) rfl hT hi
theorem g801_413 (hT : zT h a = (8, 29)) : zG d 801 413 L (.ref b :: .ref a :: st) h Q = zG d 801 416 L st (wR h a 25 (.ref b)) Q := g_pR rfl hT
theorem g801_413_n (hT : zT h a = (8, 29)) : zG d 801 413 L (.null :: .ref a :: st) h Q = zG d 801 416 L st (wR h a 25 .null) Q := g_pR0 rfl hT
theorem g801_416 : zG d 801 416 (some (.ref a) :: L) st h Q = zG d 801 417 (some (.ref a) :: L) (.ref a :: st) h Q := g_ldA rfl rfl
theorem g801_417 : zG d 801 417 L st h Q = zG d 801 419 L (.int 6 :: st) h Q := g_c rfl
theorem g801_419 (hx : ¬ x < 0 ∧ x.toNatClampNeg ≤ 1000) : zG d 801 419 L (.int x :: st) h Q = zG d 801 421 L (.ref (zN h) :: st) (wN h (20, x.toNatClampNeg)) Q := g_na rfl hx
theorem g801_421 (hT : zT h a = (8, 29)) : zG d 801 421 L (.ref b :: .ref a :: st) h Q = zG d 801 424 L st (wR h a 26 (.ref b)) Q := g_pR rfl hT
theorem g801_421_n (hT : zT h a = (8, 29)) : zG d 801 421 L (.null :: .ref a :: st) h Q = zG d 801 424 L st (wR h a 26 .null) Q := g_pR0 rfl hT
theorem g801_424 : zG d 801 424 (some (.ref a) :: L) st h Q = zG d 801 425 (some (.ref a) :: L) (.ref a :: st) h Q := g_ldA rfl rfl
theorem g801_425 : zG d 801 425 L st h Q = zG d 801 428 L (.int 360 :: st) h Q := g_c rfl
theorem g801_428 (hx : ¬ x < 0 ∧ x.toNatClampNeg ≤ 1000) : zG d 801 428 L (.int x :: st) h Q = zG d 801 430 L (.ref (zN h) :: st) (wN h (24, x.toNatClampNeg)) Q := g_na rfl hx
theorem g801_430 (hT : zT h a = (8, 29)) : zG d 801 430 L (.ref b :: .ref a :: st) h Q = zG d 801 433 L st (wR h a 27 (.ref b)) Q := g_pR rfl hT
theorem g801_430_n (hT : zT h a = (8, 29)) : zG d 801 430 L (.null :: .ref a :: st) h Q = zG d 801 433 L st (wR h a 27 .null) Q := g_pR0 rfl hT
theorem g801_433 : zG d 801 433 (some (.ref a) :: L) st h Q = zG d 801 434 (some (.ref a) :: L) (.ref a :: st) h Q := g_ldA rfl rfl
theorem g801_434 : zG d 801 434 L st h Q = zG d 801 436 L (.int 60 :: st) h Q := g_c rfl
theorem g801_436 (hx : ¬ x < 0 ∧ x.toNatClampNeg ≤ 1000) : zG d 801 436 L (.int x :: st) h Q = zG d 801 438 L (.ref (zN h) :: st) (wN h (24, x.toNatClampNeg)) Q := g_na rfl hx
theorem g801_438 (hT : zT h a = (8, 29)) : zG d 801 438 L (.ref b :: .ref a :: st) h Q = zG d 801 441 L st (wR h a 28 (.ref b)) Q := g_pR rfl hT
theorem g801_438_n (hT : zT h a = (8, 29)) : zG d 801 438 L (.null :: .ref a :: st) h Q = zG d 801 441 L st (wR h a 28 .null) Q := g_pR0 rfl hT
theorem g801_441 : zG d 801 441 L [] h Q = Q none h := g_rV rfl
theorem k801  : zCall (d + 1) 801 [.ref a] h Q = zG d 801 0 [some (.ref a)] [] h Q := zCall_k (Nat.le_of_ble_eq_true rfl) rfl
theorem g802_0 : zG d 802 0 (some (.int x) :: L) st h Q = zG d 802 1 (some (.int x) :: L) (.int x :: st) h Q := g_ldI rfl rfl
theorem g802_1 : zG d 802 1 (l0 :: some (.int x) :: L) st h Q = zG d 802 2 (l0 :: some (.int x) :: L) (.int x :: st) h Q := g_ldI rfl rfl
theorem g802_2 : zG d 802 2 L (.int z :: .int x :: st) h Q = if x < z then zG d 802 14 L st h Q else zG d 802 5 L st h Q := g_i2 (P := fun x z => x < z) rfl
theorem g802_5 : zG d 802 5 (some (.int x) :: L) st h Q = zG d 802 6 (some (.int x) :: L) (.int x :: st) h Q := g_ldI rfl rfl
theorem g802_6 : zG d 802 6 (l0 :: l1 :: some (.int x) :: L) st h Q = zG d 802 7 (l0 :: l1 :: some (.int x) :: L) (.int x :: st) h Q := g_ldI rfl rfl
theorem g802_7 : zG d 802 7 L (.int z :: .int x :: st) h Q = if z < x then zG d 802 14 L st h Q else zG d 802 10 L st h Q := g_i2 (P := fun x z => z < x) rfl
theorem g802_10 : zG d 802 10 L st h Q = zG d 802 11 L (.int 1 :: st) h Q := g_c rfl
theorem g802_11 : zG d 802 11 L st h Q = zG d 802 15 L st h Q := g_go rfl
theorem g802_14 : zG d 802 14 L st h Q = zG d 802 15 L (.int 0 :: st) h Q := g_c rfl
theorem g802_15 (hx : x = 0 ∨ x = 1) : zG d 802 15 L [.int x] h Q = Q (some (.int x)) h := g_rI (ok := fun x => x = 0 ∨ x = 1) rfl hx
theorem k802 {x0 : Int32} {x1 : Int32} {x2 : Int32} : zCall (d + 1) 802 [.int x0, .int x1, .int x2] h Q = zG d 802 0 [some (.int x0), some (.int x1), some (.int x2)] [] h Q := zCall_k (Nat.le_of_ble_eq_true rfl) rfl
theorem g803_0 : zG d 803 0 L st h Q = zG d 803 2 L (.int 118 :: st) h Q := g_c rfl
theorem g803_2 (hx : ¬ x < 0 ∧ x.toNatClampNeg ≤ 1000) : zG d 803 2 L (.int x :: st) h Q = zG d 803 4 L (.ref (zN h) :: st) (wN h (20, x.toNatClampNeg)) Q := g_na rfl hx
theorem g803_4 : zG d 803 4 (l0 :: L) (.ref a :: st) h Q = zG d 803 5 (some (.ref a) :: L) st h Q := g_stA rfl (by simp) rfl
theorem g803_5 : zG d 803 5 (some (.ref a) :: L) st h Q = zG d 803 6 (some (.ref a) :: L) (.ref a :: st) h Q := g_ldA rfl rfl
theorem g803_6 : zG d 803 6 L st h Q = zG d 803 8 L (.int 61 :: st) h Q := g_c rfl
theorem g803_8 : zG d 803 8 L st h Q = zG d 803 11 L (.int 500 :: st) h Q := g_c rfl
theorem g803_11 (hT : (zT h b).1 = 20) (hi : zin i (zT h b).2) : zG d 803 11 L (.int x :: .int i :: .ref b :: st) h Q = zG d 803 12 L st (wI h b i.toNatClampNeg (x)) Q := g_is (f1 := fun x => x) rfl hT hi
theorem g803_12 : zG d 803 12 (some (.ref a) :: L) st h Q = zG d 803 13 (some (.ref a) :: L) (.ref a :: st) h Q := g_ldA rfl rfl
theorem g803_13 : zG d 803 13 L [.ref a] h Q = Q (some (.ref a)) h := g_rA rfl
theorem k803  : zCall (d + 1) 803 [] h Q = zG d 803 0 [none] [] h Q := zCall_k (Nat.le_of_ble_eq_true rfl) rfl
theorem g804_0 : zG d 804 0 L st h Q = zG d 804 1 L (.int 0 :: st) h Q := g_c rfl
theorem g804_1 : zG d 804 1 (l0 :: l1 :: l2 :: L) (.int x :: st) h Q = zG d 804 2 (l0 :: kl l1 :: some (.int x) :: L) st h Q := g_stI rfl (by simp) rfl
theorem g804_2 : zG d 804 2 (l0 :: l1 :: some (.int x) :: L) st h Q = zG d 804 3 (l0 :: l1 :: some (.int x) :: L) (.int x :: st) h Q := g_ldI rfl rfl
theorem g804_3 : zG d 804 3 L st h Q = zG d 804 5 L (.int 118 :: st) h Q := g_c rfl
theorem g804_5 : zG d 804 5 L (.int z :: .int x :: st) h Q = if z ≤ x then zG d 804 20 L st h Q else zG d 804 8 L st h Q := g_i2 (P := fun x z => z ≤ x) rfl
theorem g804_8 : zG d 804 8 (l0 :: some (.ref a) :: L) st h Q = zG d 804 9 (l0 :: some (.ref a) :: L) (.ref a :: st) h Q := g_ldA rfl rfl
theorem g804_9 : zG d 804 9 (l0 :: l1 :: some (.int x) :: L) st h Q = zG d 804 10 (l0 :: l1 :: some (.int x) :: L) (.int x :: st) h Q := g_ldI rfl rfl
theorem g804_10 : zG d 804 10 (some (.ref a) :: L) st h Q = zG d 804 11 (some (.ref a) :: L) (.ref a :: st) h Q := g_ldA rfl rfl
theorem g804_11 : zG d 804 11 (l0 :: l1 :: some (.int x) :: L) st h Q = zG d 804 12 (l0 :: l1 :: some (.int x) :: L) (.int x :: st) h Q := g_ldI rfl rfl
theorem g804_12 (hT : (zT h b).1 = 20) (hi : zin i (zT h b).2) : zG d 804 12 L (.int i :: .ref b :: st) h Q = zG d 804 13 L (.int (zI h b i.toNatClampNeg) :: st) h Q := g_ia rfl hT hi
theorem g804_13 (hT : (zT h b).1 = 20) (hi : zin i (zT h b).2) : zG d 804 13 L (.int x :: .int i :: .ref b :: st) h Q = zG d 804 14 L st (wI h b i.toNatClampNeg (x)) Q := g_is (f1 := fun x => x) rfl hT hi
theorem g804_14 : zG d 804 14 (l0 :: l1 :: some (.int x) :: L) st h Q = zG d 804 17 (l0 :: kl l1 :: some (.int (x + 1)) :: L) st h Q := g_inc rfl rfl rfl
theorem g804_17 : zG d 804 17 L st h Q = zG d 804 2 L st h Q := g_go rfl
theorem g804_20 : zG d 804 20 L [] h Q = Q none h := g_rV rfl
theorem k804 {x0 : Nat} {x1 : Nat} : zCall (d + 1) 804 [.ref x0, .ref x1] h Q = zG d 804 0 [some (.ref x0), some (.ref x1), none] [] h Q := zCall_k (Nat.le_of_ble_eq_true rfl) rfl
theorem g805_0 : zG d 805 0 (some (.ref a) :: L) st h Q = zG d 805 1 (some (.ref a) :: L) (.ref a :: st) h Q := g_ldA rfl rfl
theorem g805_1 : zG d 805 1 L st h Q = zG d 805 2 L (.int 1 :: st) h Q := g_c rfl
theorem g805_2 (hT : zT h a = (8, 29)) (hx : x = 0 ∨ x = 1) : zG d 805 2 L (.int x :: .ref a :: st) h Q = zG d 805 5 L st (wI h a 3 x) Q := g_pZ rfl hT hx
theorem g805_5 : zG d 805 5 (some (.ref a) :: L) st h Q = zG d 805 6 (some (.ref a) :: L) (.ref a :: st) h Q := g_ldA rfl rfl
theorem g805_6 (hT : zT h a = (8, 29)) : zG d 805 6 L (.ref a :: st) h Q = zG d 805 9 L (zR h a 0 :: st) h Q := g_gR rfl hT
theorem g805_9 : zG d 805 9 (some (.ref a) :: L) st h Q = zG d 805 10 (some (.ref a) :: L) (.ref a :: st) h Q := g_ldA rfl rfl
theorem g805_10 (hT : zT h a = (8, 29)) : zG d 805 10 L (.ref a :: st) h Q = zG d 805 13 L (zR h a 2 :: st) h Q := g_gR rfl hT
theorem g805_13 : zG d 805 13 L [v1, v0] h Q = zCall d 804 [v0, v1] h (fun v h1 => zG d 805 16 L (zpush v []) h1 Q) := g_cS rfl rfl (Nat.le_of_ble_eq_true rfl) rfl (Nat.le_of_ble_eq_true rfl)
theorem g805_16 : zG d 805 16 (some (.ref a) :: L) st h Q = zG d 805 17 (some (.ref a) :: L) (.ref a :: st) h Q := g_ldA rfl rfl
theorem g805_17 (hT : zT h a = (8, 29)) : zG d 805 17 L (.ref a :: st) h Q = zG d 805 20 L (zR h a 0 :: st) h Q := g_gR rfl hT
theorem g805_20 : zG d 805 20 L st h Q = zG d 805 22 L (.int 60 :: st) h Q := g_c rfl
theorem g805_22 (hT : (zT h b).1 = 20) (hi : zin i (zT h b).2) : zG d 805 22 L (.int i :: .ref b :: st) h Q = zG d 805 23 L (.int (zI h b i.toNatClampNeg) :: st) h Q := g_ia rfl hT hi
theorem g805_23 : zG d 805 23 L [.int x] h Q = Q (some (.int x)) h := g_rI (ok := fun _ => True) rfl trivial
theorem k805  : zCall (d + 1) 805 [.ref a] h Q = zG d 805 0 [some (.ref a)] [] h Q := zCall_k (Nat.le_of_ble_eq_true rfl) rfl
theorem g806_0 : zG d 806 0 (some (.ref a) :: L) st h Q = zG d 806 1 (some (.ref a) :: L) (.ref a :: st) h Q := g_ldA rfl rfl
theorem g806_1 (hT : zT h a = (8, 29)) : zG d 806 1 L (.ref a :: st) h Q = zG d 806 4 L (.int (zI h a 3) :: st) h Q := g_gI rfl hT
theorem g806_4 : zG d 806 4 L (.int x :: st) h Q = if ¬ x = 0 then zG d 806 10 L st h Q else zG d 806 7 L st h Q := g_i1 (P := fun x => ¬ x = 0) rfl
theorem g806_7 : zG d 806 7 L st h Q = zG d 806 9 L (.int (-3) :: st) h Q := g_c rfl
theorem g806_9 : zG d 806 9 L [.int x] h Q = Q (some (.int x)) h := g_rI (ok := fun _ => True) rfl trivial
theorem g806_10 : zG d 806 10 (some (.ref a) :: L) st h Q = zG d 806 11 (some (.ref a) :: L) (.ref a :: st) h Q := g_ldA rfl rfl
theorem g806_11 (hT : zT h a = (8, 29)) : zG d 806 11 L (.ref a :: st) h Q = zG d 806 14 L (zR h a 2 :: st) h Q := g_gR rfl hT
theorem g806_14 : zG d 806 14 (some (.ref a) :: L) st h Q = zG d 806 15 (some (.ref a) :: L) (.ref a :: st) h Q := g_ldA rfl rfl
theorem g806_15 (hT : zT h a = (8, 29)) : zG d 806 15 L (.ref a :: st) h Q = zG d 806 18 L (zR h a 0 :: st) h Q := g_gR rfl hT
theorem g806_18 : zG d 806 18 L [v1, v0] h Q = zCall d 804 [v0, v1] h (fun v h1 => zG d 806 21 L (zpush v []) h1 Q) := g_cS rfl rfl (Nat.le_of_ble_eq_true rfl) rfl (Nat.le_of_ble_eq_true rfl)
theorem g806_21 : zG d 806 21 (some (.ref a) :: L) st h Q = zG d 806 22 (some (.ref a) :: L) (.ref a :: st) h Q := g_ldA rfl rfl
theorem g806_22 (hT : zT h a = (8, 29)) : zG d 806 22 L (.ref a :: st) h Q = zG d 806 25 L (zR h a 0 :: st) h Q := g_gR rfl hT
theorem g806_25 : zG d 806 25 L st h Q = zG d 806 27 L (.int 60 :: st) h Q := g_c rfl
theorem g806_27 (hT : (zT h b).1 = 20) (hi : zin i (zT h b).2) : zG d 806 27 L (.int i :: .ref b :: st) h Q = zG d 806 28 L (.int (zI h b i.toNatClampNeg) :: st) h Q := g_ia rfl hT hi
theorem g806_28 : zG d 806 28 L [.int x] h Q = Q (some (.int x)) h := g_rI (ok := fun _ => True) rfl trivial
theorem k806  : zCall (d + 1) 806 [.ref a] h Q = zG d 806 0 [some (.ref a)] [] h Q := zCall_k (Nat.le_of_ble_eq_true rfl) rfl
theorem g807_0 : zG d 807 0 (l0 :: some (.int x) :: L) st h Q = zG d 807 1 (l0 :: some (.int x) :: L) (.int x :: st) h Q := g_ldI rfl rfl
theorem g807_1 : zG d 807 1 L st h Q = zG d 807 2 L (.int 0 :: st) h Q := g_c rfl
theorem g807_2 : zG d 807 2 (some (.ref a) :: L) st h Q = zG d 807 3 (some (.ref a) :: L) (.ref a :: st) h Q := g_ldA rfl rfl
theorem g807_3 (hT : zT h a = (8, 29)) : zG d 807 3 L (.ref a :: st) h Q = zG d 807 6 L (zR h a 0 :: st) h Q := g_gR rfl hT
theorem g807_6 : zG d 807 6 L st h Q = zG d 807 8 L (.int 60 :: st) h Q := g_c rfl
theorem g807_8 (hT : (zT h b).1 = 20) (hi : zin i (zT h b).2) : zG d 807 8 L (.int i :: .ref b :: st) h Q = zG d 807 9 L (.int (zI h b i.toNatClampNeg) :: st) h Q := g_ia rfl hT hi
theorem g807_9 : zG d 807 9 L st h Q = zG d 807 10 L (.int 1 :: st) h Q := g_c rfl
theorem g807_10 : zG d 807 10 L (.int z :: .int x :: st) h Q = zG d 807 11 L (.int (x - z) :: st) h Q := g_b (f := fun x z => x - z) rfl
theorem g807_11 : zG d 807 11 L [v2, v1, v0] h Q = zCall d 802 [v0, v1, v2] h (fun v h1 => zG d 807 14 L (zpush v []) h1 Q) := g_cS rfl rfl (Nat.le_of_ble_eq_true rfl) rfl (Nat.le_of_ble_eq_true rfl)
theorem g807_14 (hx : x = 0 ∨ x = 1) : zG d 807 14 L [.int x] h Q = Q (some (.int x)) h := g_rI (ok := fun x => x = 0 ∨ x = 1) rfl hx
theorem k807 {x0 : Int32} : zCall (d + 1) 807 [.ref a, .int x0] h Q = zG d 807 0 [some (.ref a), some (.int x0)] [] h Q := zCall_k (Nat.le_of_ble_eq_true rfl) rfl
theorem g808_0 : zG d 808 0 (some (.ref a) :: L) st h Q = zG d 808 1 (some (.ref a) :: L) (.ref a :: st) h Q := g_ldA rfl rfl
theorem g808_1 (hT : zT h a = (8, 29)) : zG d 808 1 L (.ref a :: st) h Q = zG d 808 4 L (zR h a 0 :: st) h Q := g_gR rfl hT
theorem g808_4 : zG d 808 4 L st h Q = zG d 808 6 L (.int 10 :: st) h Q := g_c rfl
theorem g808_6 : zG d 808 6 (l0 :: some (.int x) :: L) st h Q = zG d 808 7 (l0 :: some (.int x) :: L) (.int x :: st) h Q := g_ldI rfl rfl
theorem g808_7 : zG d 808 7 L (.int z :: .int x :: st) h Q = zG d 808 8 L (.int (x * z) :: st) h Q := g_b (f := fun x z => x * z) rfl
theorem g808_8 : zG d 808 8 (l0 :: l1 :: some (.int x) :: L) st h Q = zG d 808 9 (l0 :: l1 :: some (.int x) :: L) (.int x :: st) h Q := g_ldI rfl rfl
theorem g808_9 : zG d 808 9 L (.int z :: .int x :: st) h Q = zG d 808 10 L (.int (x + z) :: st) h Q := g_b (f := fun x z => x + z) rfl
theorem g808_10 (hT : (zT h b).1 = 20) (hi : zin i (zT h b).2) : zG d 808 10 L (.int i :: .ref b :: st) h Q = zG d 808 11 L (.int (zI h b i.toNatClampNeg) :: st) h Q := g_ia rfl hT hi
theorem g808_11 : zG d 808 11 L [.int x] h Q = Q (some (.int x)) h := g_rI (ok := fun _ => True) rfl trivial
theorem k808 {x0 : Int32} {x1 : Int32} : zCall (d + 1) 808 [.ref a, .int x0, .int x1] h Q = zG d 808 0 [some (.ref a), some (.int x0), some (.int x1)] [] h Q := zCall_k (Nat.le_of_ble_eq_true rfl) rfl
theorem g809_0 : zG d 809 0 (some (.ref a) :: L) st h Q = zG d 809 1 (some (.ref a) :: L) (.ref a :: st) h Q := g_ldA rfl rfl
theorem g809_1 : zG d 809 1 (l0 :: some (.int x) :: L) st h Q = zG d 809 2 (l0 :: some (.int x) :: L) (.int x :: st) h Q := g_ldI rfl rfl
theorem g809_2 : zG d 809 2 (l0 :: l1 :: some (.int x) :: L) st h Q = zG d 809 3 (l0 :: l1 :: some (.int x) :: L) (.int x :: st) h Q := g_ldI rfl rfl
theorem g809_3 (hT : (zT h a).1 = 8) : zG d 809 3 L [v1, v0, .ref a] h Q = zCall d 808 [.ref a, v0, v1] h (fun v h1 => zG d 809 6 L (zpush v []) h1 Q) := g_cV rfl rfl rfl rfl (Nat.le_of_ble_eq_true rfl) hT
theorem g809_6 : zG d 809 6 (l0 :: l1 :: l2 :: l3 :: l4 :: L) (.int x :: st) h Q = zG d 809 8 (l0 :: l1 :: l2 :: kl l3 :: some (.int x) :: L) st h Q := g_stI rfl (by simp) rfl
theorem g809_8 : zG d 809 8 (some (.ref a) :: L) st h Q = zG d 809 9 (some (.ref a) :: L) (.ref a :: st) h Q := g_ldA rfl rfl
theorem g809_9 (hT : zT h a = (8, 29)) : zG d 809 9 L (.ref a :: st) h Q = zG d 809 12 L (zR h a 0 :: st) h Q := g_gR rfl hT
theorem g809_12 : zG d 809 12 L st h Q = zG d 809 14 L (.int 10 :: st) h Q := g_c rfl
theorem g809_14 : zG d 809 14 (l0 :: some (.int x) :: L) st h Q = zG d 809 15 (l0 :: some (.int x) :: L) (.int x :: st) h Q := g_ldI rfl rfl
theorem g809_15 : zG d 809 15 L (.int z :: .int x :: st) h Q = zG d 809 16 L (.int (x * z) :: st) h Q := g_b (f := fun x z => x * z) rfl
theorem g809_16 : zG d 809 16 (l0 :: l1 :: some (.int x) :: L) st h Q = zG d 809 17 (l0 :: l1 :: some (.int x) :: L) (.int x :: st) h Q := g_ldI rfl rfl
theorem g809_17 : zG d 809 17 L (.int z :: .int x :: st) h Q = zG d 809 18 L (.int (x + z) :: st) h Q := g_b (f := fun x z => x + z) rfl
theorem g809_18 : zG d 809 18 (l0 :: l1 :: l2 :: some (.int x) :: L) st h Q = zG d 809 19 (l0 :: l1 :: l2 :: some (.int x) :: L) (.int x :: st) h Q := g_ldI rfl rfl
theorem g809_19 (hT : (zT h b).1 = 20) (hi : zin i (zT h b).2) : zG d 809 19 L (.int x :: .int i :: .ref b :: st) h Q = zG d 809 20 L st (wI h b i.toNatClampNeg (x)) Q := g_is (f1 := fun x => x) rfl hT hi
theorem g809_20 : zG d 809 20 (l0 :: l1 :: l2 :: l3 :: some (.int x) :: L) st h Q = zG d 809 22 (l0 :: l1 :: l2 :: l3 :: some (.int x) :: L) (.int x :: st) h Q := g_ldI rfl rfl
theorem g809_22 : zG d 809 22 L [.int x] h Q = Q (some (.int x)) h := g_rI (ok := fun _ => True) rfl trivial
theorem k809 {x0 : Int32} {x1 : Int32} {x2 : Int32} : zCall (d + 1) 809 [.ref a, .int x0, .int x1, .int x2] h Q = zG d 809 0 [some (.ref a), some (.int x0), some (.int x1), some (.int x2), none] [] h Q := zCall_k (Nat.le_of_ble_eq_true rfl) rfl
theorem g810_0 : zG d 810 0 (l0 :: some (.int x) :: L) st h Q = zG d 810 1 (l0 :: some (.int x) :: L) (.int x :: st) h Q := g_ldI rfl rfl
theorem g810_1 : zG d 810 1 L st h Q = zG d 810 2 L (.int 0 :: st) h Q := g_c rfl
theorem g810_2 : zG d 810 2 L st h Q = zG d 810 4 L (.int 6 :: st) h Q := g_c rfl
theorem g810_4 : zG d 810 4 L [v2, v1, v0] h Q = zCall d 802 [v0, v1, v2] h (fun v h1 => zG d 810 7 L (zpush v []) h1 Q) := g_cS rfl rfl (Nat.le_of_ble_eq_true rfl) rfl (Nat.le_of_ble_eq_true rfl)
theorem g810_7 : zG d 810 7 L (.int x :: st) h Q = if x = 0 then zG d 810 21 L st h Q else zG d 810 10 L st h Q := g_i1 (P := fun x => x = 0) rfl
theorem g810_10 : zG d 810 10 (l0 :: l1 :: l2 :: l3 :: some (.int x) :: L) st h Q = zG d 810 12 (l0 :: l1 :: l2 :: l3 :: some (.int x) :: L) (.int x :: st) h Q := g_ldI rfl rfl
theorem g810_12 : zG d 810 12 L st h Q = zG d 810 13 L (.int 0 :: st) h Q := g_c rfl
theorem g810_13 : zG d 810 13 L st h Q = zG d 810 15 L (.int 10 :: st) h Q := g_c rfl
theorem g810_15 : zG d 810 15 L [v2, v1, v0] h Q = zCall d 802 [v0, v1, v2] h (fun v h1 => zG d 810 18 L (zpush v []) h1 Q) := g_cS rfl rfl (Nat.le_of_ble_eq_true rfl) rfl (Nat.le_of_ble_eq_true rfl)
theorem g810_18 : zG d 810 18 L (.int x :: st) h Q = if ¬ x = 0 then zG d 810 23 L st h Q else zG d 810 21 L st h Q := g_i1 (P := fun x => ¬ x = 0) rfl
theorem g810_21 : zG d 810 21 L st h Q = zG d 810 22 L (.int (-1) :: st) h Q := g_c rfl
theorem g810_22 : zG d 810 22 L [.int x] h Q = Q (some (.int x)) h := g_rI (ok := fun _ => True) rfl trivial
theorem g810_23 : zG d 810 23 (l0 :: l1 :: some (.int x) :: L) st h Q = zG d 810 24 (l0 :: l1 :: some (.int x) :: L) (.int x :: st) h Q := g_ldI rfl rfl
theorem g810_24 : zG d 810 24 L st h Q = zG d 810 25 L (.int 0 :: st) h Q := g_c rfl
theorem g810_25 : zG d 810 25 L st h Q = zG d 810 27 L (.int 9 :: st) h Q := g_c rfl
theorem g810_27 : zG d 810 27 L [v2, v1, v0] h Q = zCall d 802 [v0, v1, v2] h (fun v h1 => zG d 810 30 L (zpush v []) h1 Q) := g_cS rfl rfl (Nat.le_of_ble_eq_true rfl) rfl (Nat.le_of_ble_eq_true rfl)
theorem g810_30 : zG d 810 30 L (.int x :: st) h Q = if x = 0 then zG d 810 43 L st h Q else zG d 810 33 L st h Q := g_i1 (P := fun x => x = 0) rfl
theorem g810_33 : zG d 810 33 (l0 :: l1 :: l2 :: some (.int x) :: L) st h Q = zG d 810 34 (l0 :: l1 :: l2 :: some (.int x) :: L) (.int x :: st) h Q := g_ldI rfl rfl
theorem g810_34 : zG d 810 34 L st h Q = zG d 810 35 L (.int 0 :: st) h Q := g_c rfl
theorem g810_35 : zG d 810 35 L st h Q = zG d 810 37 L (.int 99 :: st) h Q := g_c rfl
theorem g810_37 : zG d 810 37 L [v2, v1, v0] h Q = zCall d 802 [v0, v1, v2] h (fun v h1 => zG d 810 40 L (zpush v []) h1 Q) := g_cS rfl rfl (Nat.le_of_ble_eq_true rfl) rfl (Nat.le_of_ble_eq_true rfl)
theorem g810_40 : zG d 810 40 L (.int x :: st) h Q = if ¬ x = 0 then zG d 810 46 L st h Q else zG d 810 43 L st h Q := g_i1 (P := fun x => ¬ x = 0) rfl
theorem g810_43 : zG d 810 43 L st h Q = zG d 810 45 L (.int (-2) :: st) h Q := g_c rfl
theorem g810_45 : zG d 810 45 L [.int x] h Q = Q (some (.int x)) h := g_rI (ok := fun _ => True) rfl trivial
theorem g810_46 : zG d 810 46 (some (.ref a) :: L) st h Q = zG d 810 47 (some (.ref a) :: L) (.ref a :: st) h Q := g_ldA rfl rfl
theorem g810_47 (hT : zT h a = (8, 29)) : zG d 810 47 L (.ref a :: st) h Q = zG d 810 50 L (zR h a 0 :: st) h Q := g_gR rfl hT
theorem g810_50 : zG d 810 50 L st h Q = zG d 810 52 L (.int 60 :: st) h Q := g_c rfl
theorem g810_52 (hT : (zT h b).1 = 20) (hi : zin i (zT h b).2) : zG d 810 52 L (.int i :: .ref b :: st) h Q = zG d 810 53 L (.int (zI h b i.toNatClampNeg) :: st) h Q := g_ia rfl hT hi
theorem g810_53 : zG d 810 53 (l0 :: l1 :: l2 :: l3 :: l4 :: l5 :: L) (.int x :: st) h Q = zG d 810 55 (l0 :: l1 :: l2 :: l3 :: kl l4 :: some (.int x) :: L) st h Q := g_stI rfl (by simp) rfl
theorem g810_55 : zG d 810 55 (l0 :: l1 :: l2 :: l3 :: l4 :: some (.int x) :: L) st h Q = zG d 810 57 (l0 :: l1 :: l2 :: l3 :: l4 :: some (.int x) :: L) (.int x :: st) h Q := g_ldI rfl rfl
theorem g810_57 : zG d 810 57 L st h Q = zG d 810 59 L (.int 6 :: st) h Q := g_c rfl
theorem g810_59 : zG d 810 59 L (.int z :: .int x :: st) h Q = if ¬ x = z then zG d 810 65 L st h Q else zG d 810 62 L st h Q := g_i2 (P := fun x z => ¬ x = z) rfl
theorem g810_62 : zG d 810 62 L st h Q = zG d 810 64 L (.int (-4) :: st) h Q := g_c rfl
theorem g810_64 : zG d 810 64 L [.int x] h Q = Q (some (.int x)) h := g_rI (ok := fun _ => True) rfl trivial
theorem g810_65 : zG d 810 65 L st h Q = zG d 810 66 L (.int 0 :: st) h Q := g_c rfl
theorem g810_66 : zG d 810 66 (l0 :: l1 :: l2 :: l3 :: l4 :: l5 :: l6 :: L) (.int x :: st) h Q = zG d 810 68 (l0 :: l1 :: l2 :: l3 :: l4 :: kl l5 :: some (.int x) :: L) st h Q := g_stI rfl (by simp) rfl
theorem g810_68 : zG d 810 68 (l0 :: l1 :: l2 :: l3 :: l4 :: l5 :: some (.int x) :: L) st h Q = zG d 810 70 (l0 :: l1 :: l2 :: l3 :: l4 :: l5 :: some (.int x) :: L) (.int x :: st) h Q := g_ldI rfl rfl
theorem g810_70 : zG d 810 70 L st h Q = zG d 810 72 L (.int 10 :: st) h Q := g_c rfl
theorem g810_72 : zG d 810 72 L (.int z :: .int x :: st) h Q = if z ≤ x then zG d 810 95 L st h Q else zG d 810 75 L st h Q := g_i2 (P := fun x z => z ≤ x) rfl
theorem g810_75 : zG d 810 75 (some (.ref a) :: L) st h Q = zG d 810 76 (some (.ref a) :: L) (.ref a :: st) h Q := g_ldA rfl rfl
theorem g810_76 (hT : zT h a = (8, 29)) : zG d 810 76 L (.ref a :: st) h Q = zG d 810 79 L (zR h a 0 :: st) h Q := g_gR rfl hT
theorem g810_79 : zG d 810 79 L st h Q = zG d 810 81 L (.int 10 :: st) h Q := g_c rfl
theorem g810_81 : zG d 810 81 (l0 :: l1 :: l2 :: l3 :: l4 :: some (.int x) :: L) st h Q = zG d 810 83 (l0 :: l1 :: l2 :: l3 :: l4 :: some (.int x) :: L) (.int x :: st) h Q := g_ldI rfl rfl
theorem g810_83 : zG d 810 83 L (.int z :: .int x :: st) h Q = zG d 810 84 L (.int (x * z) :: st) h Q := g_b (f := fun x z => x * z) rfl
theorem g810_84 : zG d 810 84 (l0 :: l1 :: l2 :: l3 :: l4 :: l5 :: some (.int x) :: L) st h Q = zG d 810 86 (l0 :: l1 :: l2 :: l3 :: l4 :: l5 :: some (.int x) :: L) (.int x :: st) h Q := g_ldI rfl rfl
theorem g810_86 : zG d 810 86 L (.int z :: .int x :: st) h Q = zG d 810 87 L (.int (x + z) :: st) h Q := g_b (f := fun x z => x + z) rfl
theorem g810_87 : zG d 810 87 L st h Q = zG d 810 88 L (.int 0 :: st) h Q := g_c rfl
theorem g810_88 (hT : (zT h b).1 = 20) (hi : zin i (zT h b).2) : zG d 810 88 L (.int x :: .int i :: .ref b :: st) h Q = zG d 810 89 L st (wI h b i.toNatClampNeg (x)) Q := g_is (f1 := fun x => x) rfl hT hi
theorem g810_89 : zG d 810 89 (l0 :: l1 :: l2 :: l3 :: l4 :: l5 :: some (.int x) :: L) st h Q = zG d 810 92 (l0 :: l1 :: l2 :: l3 :: l4 :: kl l5 :: some (.int (x + 1)) :: L) st h Q := g_inc rfl rfl rfl
theorem g810_92 : zG d 810 92 L st h Q = zG d 810 68 L st h Q := g_go rfl
theorem g810_95 : zG d 810 95 (some (.ref a) :: L) st h Q = zG d 810 96 (some (.ref a) :: L) (.ref a :: st) h Q := g_ldA rfl rfl
theorem g810_96 (hT : zT h a = (8, 29)) : zG d 810 96 L (.ref a :: st) h Q = zG d 810 99 L (zR h a 0 :: st) h Q := g_gR rfl hT
theorem g810_99 : zG d 810 99 L st h Q = zG d 810 101 L (.int 10 :: st) h Q := g_c rfl
theorem g810_101 : zG d 810 101 (l0 :: l1 :: l2 :: l3 :: l4 :: some (.int x) :: L) st h Q = zG d 810 103 (l0 :: l1 :: l2 :: l3 :: l4 :: some (.int x) :: L) (.int x :: st) h Q := g_ldI rfl rfl
theorem g810_103 : zG d 810 103 L (.int z :: .int x :: st) h Q = zG d 810 104 L (.int (x * z) :: st) h Q := g_b (f := fun x z => x * z) rfl
theorem g810_104 : zG d 810 104 (l0 :: some (.int x) :: L) st h Q = zG d 810 105 (l0 :: some (.int x) :: L) (.int x :: st) h Q := g_ldI rfl rfl
theorem g810_105 (hT : (zT h b).1 = 20) (hi : zin i (zT h b).2) : zG d 810 105 L (.int x :: .int i :: .ref b :: st) h Q = zG d 810 106 L st (wI h b i.toNatClampNeg (x)) Q := g_is (f1 := fun x => x) rfl hT hi
theorem g810_106 : zG d 810 106 (some (.ref a) :: L) st h Q = zG d 810 107 (some (.ref a) :: L) (.ref a :: st) h Q := g_ldA rfl rfl
theorem g810_107 (hT : zT h a = (8, 29)) : zG d 810 107 L (.ref a :: st) h Q = zG d 810 110 L (zR h a 0 :: st) h Q := g_gR rfl hT
theorem g810_110 : zG d 810 110 L st h Q = zG d 810 112 L (.int 10 :: st) h Q := g_c rfl
theorem g810_112 : zG d 810 112 (l0 :: l1 :: l2 :: l3 :: l4 :: some (.int x) :: L) st h Q = zG d 810 114 (l0 :: l1 :: l2 :: l3 :: l4 :: some (.int x) :: L) (.int x :: st) h Q := g_ldI rfl rfl
theorem g810_114 : zG d 810 114 L (.int z :: .int x :: st) h Q = zG d 810 115 L (.int (x * z) :: st) h Q := g_b (f := fun x z => x * z) rfl
theorem g810_115 : zG d 810 115 L st h Q = zG d 810 116 L (.int 1 :: st) h Q := g_c rfl
theorem g810_116 : zG d 810 116 L (.int z :: .int x :: st) h Q = zG d 810 117 L (.int (x + z) :: st) h Q := g_b (f := fun x z => x + z) rfl
theorem g810_117 : zG d 810 117 (l0 :: l1 :: some (.int x) :: L) st h Q = zG d 810 118 (l0 :: l1 :: some (.int x) :: L) (.int x :: st) h Q := g_ldI rfl rfl
theorem g810_118 (hT : (zT h b).1 = 20) (hi : zin i (zT h b).2) : zG d 810 118 L (.int x :: .int i :: .ref b :: st) h Q = zG d 810 119 L st (wI h b i.toNatClampNeg (x)) Q := g_is (f1 := fun x => x) rfl hT hi
theorem g810_119 : zG d 810 119 (some (.ref a) :: L) st h Q = zG d 810 120 (some (.ref a) :: L) (.ref a :: st) h Q := g_ldA rfl rfl
theorem g810_120 (hT : zT h a = (8, 29)) : zG d 810 120 L (.ref a :: st) h Q = zG d 810 123 L (zR h a 0 :: st) h Q := g_gR rfl hT
theorem g810_123 : zG d 810 123 L st h Q = zG d 810 125 L (.int 10 :: st) h Q := g_c rfl
theorem g810_125 : zG d 810 125 (l0 :: l1 :: l2 :: l3 :: l4 :: some (.int x) :: L) st h Q = zG d 810 127 (l0 :: l1 :: l2 :: l3 :: l4 :: some (.int x) :: L) (.int x :: st) h Q := g_ldI rfl rfl
theorem g810_127 : zG d 810 127 L (.int z :: .int x :: st) h Q = zG d 810 128 L (.int (x * z) :: st) h Q := g_b (f := fun x z => x * z) rfl
theorem g810_128 : zG d 810 128 L st h Q = zG d 810 129 L (.int 2 :: st) h Q := g_c rfl
theorem g810_129 : zG d 810 129 L (.int z :: .int x :: st) h Q = zG d 810 130 L (.int (x + z) :: st) h Q := g_b (f := fun x z => x + z) rfl
theorem g810_130 : zG d 810 130 (l0 :: l1 :: l2 :: some (.int x) :: L) st h Q = zG d 810 131 (l0 :: l1 :: l2 :: some (.int x) :: L) (.int x :: st) h Q := g_ldI rfl rfl
theorem g810_131 (hT : (zT h b).1 = 20) (hi : zin i (zT h b).2) : zG d 810 131 L (.int x :: .int i :: .ref b :: st) h Q = zG d 810 132 L st (wI h b i.toNatClampNeg (x)) Q := g_is (f1 := fun x => x) rfl hT hi
theorem g810_132 : zG d 810 132 (some (.ref a) :: L) st h Q = zG d 810 133 (some (.ref a) :: L) (.ref a :: st) h Q := g_ldA rfl rfl
theorem g810_133 (hT : zT h a = (8, 29)) : zG d 810 133 L (.ref a :: st) h Q = zG d 810 136 L (zR h a 0 :: st) h Q := g_gR rfl hT
theorem g810_136 : zG d 810 136 L st h Q = zG d 810 138 L (.int 10 :: st) h Q := g_c rfl
theorem g810_138 : zG d 810 138 (l0 :: l1 :: l2 :: l3 :: l4 :: some (.int x) :: L) st h Q = zG d 810 140 (l0 :: l1 :: l2 :: l3 :: l4 :: some (.int x) :: L) (.int x :: st) h Q := g_ldI rfl rfl
theorem g810_140 : zG d 810 140 L (.int z :: .int x :: st) h Q = zG d 810 141 L (.int (x * z) :: st) h Q := g_b (f := fun x z => x * z) rfl
theorem g810_141 : zG d 810 141 L st h Q = zG d 810 142 L (.int 3 :: st) h Q := g_c rfl
theorem g810_142 : zG d 810 142 L (.int z :: .int x :: st) h Q = zG d 810 143 L (.int (x + z) :: st) h Q := g_b (f := fun x z => x + z) rfl
theorem g810_143 : zG d 810 143 (l0 :: l1 :: l2 :: l3 :: some (.int x) :: L) st h Q = zG d 810 145 (l0 :: l1 :: l2 :: l3 :: some (.int x) :: L) (.int x :: st) h Q := g_ldI rfl rfl
theorem g810_145 (hT : (zT h b).1 = 20) (hi : zin i (zT h b).2) : zG d 810 145 L (.int x :: .int i :: .ref b :: st) h Q = zG d 810 146 L st (wI h b i.toNatClampNeg (x)) Q := g_is (f1 := fun x => x) rfl hT hi
theorem g810_146 : zG d 810 146 (some (.ref a) :: L) st h Q = zG d 810 147 (some (.ref a) :: L) (.ref a :: st) h Q := g_ldA rfl rfl
theorem g810_147 (hT : zT h a = (8, 29)) : zG d 810 147 L (.ref a :: st) h Q = zG d 810 150 L (zR h a 0 :: st) h Q := g_gR rfl hT
theorem g810_150 : zG d 810 150 L st h Q = zG d 810 152 L (.int 60 :: st) h Q := g_c rfl
theorem g810_152 : zG d 810 152 L (.int x :: .ref a :: st) h Q = zG d 810 153 L (.int x :: .ref a :: .int x :: .ref a :: st) h Q := g_dup2 rfl
theorem g810_153 (hT : (zT h b).1 = 20) (hi : zin i (zT h b).2) : zG d 810 153 L (.int i :: .ref b :: st) h Q = zG d 810 154 L (.int (zI h b i.toNatClampNeg) :: st) h Q := g_ia rfl hT hi
theorem g810_154 : zG d 810 154 L st h Q = zG d 810 155 L (.int 1 :: st) h Q := g_c rfl
theorem g810_155 : zG d 810 155 L (.int z :: .int x :: st) h Q = zG d 810 156 L (.int (x + z) :: st) h Q := g_b (f := fun x z => x + z) rfl
theorem g810_156 (hT : (zT h b).1 = 20) (hi : zin i (zT h b).2) : zG d 810 156 L (.int x :: .int i :: .ref b :: st) h Q = zG d 810 157 L st (wI h b i.toNatClampNeg (x)) Q := g_is (f1 := fun x => x) rfl hT hi
theorem g810_157 : zG d 810 157 (l0 :: l1 :: l2 :: l3 :: l4 :: some (.int x) :: L) st h Q = zG d 810 159 (l0 :: l1 :: l2 :: l3 :: l4 :: some (.int x) :: L) (.int x :: st) h Q := g_ldI rfl rfl
theorem g810_159 : zG d 810 159 L [.int x] h Q = Q (some (.int x)) h := g_rI (ok := fun _ => True) rfl trivial
theorem k810 {x0 : Int32} {x1 : Int32} {x2 : Int32} {x3 : Int32} : zCall (d + 1) 810 [.ref a, .int x0, .int x1, .int x2, .int x3] h Q = zG d 810 0 [some (.ref a), some (.int x0), some (.int x1), some (.int x2), some (.int x3), none, none] [] h Q := zCall_k (Nat.le_of_ble_eq_true rfl) rfl
theorem g811_0 : zG d 811 0 (some (.ref a) :: L) st h Q = zG d 811 1 (some (.ref a) :: L) (.ref a :: st) h Q := g_ldA rfl rfl
theorem g811_1 : zG d 811 1 (l0 :: some (.int x) :: L) st h Q = zG d 811 2 (l0 :: some (.int x) :: L) (.int x :: st) h Q := g_ldI rfl rfl
theorem g811_2 (hT : (zT h a).1 = 8) : zG d 811 2 L [v0, .ref a] h Q = zCall d 807 [.ref a, v0] h (fun v h1 => zG d 811 5 L (zpush v []) h1 Q) := g_cV rfl rfl rfl rfl (Nat.le_of_ble_eq_true rfl) hT
theorem g811_5 : zG d 811 5 L (.int x :: st) h Q = if ¬ x = 0 then zG d 811 12 L st h Q else zG d 811 8 L st h Q := g_i1 (P := fun x => ¬ x = 0) rfl
theorem g811_8 : zG d 811 8 L st h Q = zG d 811 11 L (.int (-10001) :: st) h Q := g_c rfl
theorem g811_11 : zG d 811 11 L [.int x] h Q = Q (some (.int x)) h := g_rI (ok := fun _ => True) rfl trivial
theorem g811_12 : zG d 811 12 (l0 :: l1 :: some (.int x) :: L) st h Q = zG d 811 13 (l0 :: l1 :: some (.int x) :: L) (.int x :: st) h Q := g_ldI rfl rfl
theorem g811_13 : zG d 811 13 L st h Q = zG d 811 14 L (.int 0 :: st) h Q := g_c rfl
theorem g811_14 : zG d 811 14 L st h Q = zG d 811 15 L (.int 5 :: st) h Q := g_c rfl
theorem g811_15 : zG d 811 15 L [v2, v1, v0] h Q = zCall d 802 [v0, v1, v2] h (fun v h1 => zG d 811 18 L (zpush v []) h1 Q) := g_cS rfl rfl (Nat.le_of_ble_eq_true rfl) rfl (Nat.le_of_ble_eq_true rfl)
theorem g811_18 : zG d 811 18 L (.int x :: st) h Q = if x = 0 then zG d 811 30 L st h Q else zG d 811 21 L st h Q := g_i1 (P := fun x => x = 0) rfl
theorem g811_21 : zG d 811 21 (some (.ref a) :: L) st h Q = zG d 811 22 (some (.ref a) :: L) (.ref a :: st) h Q := g_ldA rfl rfl
theorem g811_22 : zG d 811 22 (l0 :: some (.int x) :: L) st h Q = zG d 811 23 (l0 :: some (.int x) :: L) (.int x :: st) h Q := g_ldI rfl rfl
theorem g811_23 : zG d 811 23 (l0 :: l1 :: some (.int x) :: L) st h Q = zG d 811 24 (l0 :: l1 :: some (.int x) :: L) (.int x :: st) h Q := g_ldI rfl rfl
theorem g811_24 (hT : (zT h a).1 = 8) : zG d 811 24 L [v1, v0, .ref a] h Q = zCall d 808 [.ref a, v0, v1] h (fun v h1 => zG d 811 27 L (zpush v []) h1 Q) := g_cV rfl rfl rfl rfl (Nat.le_of_ble_eq_true rfl) hT
theorem g811_27 : zG d 811 27 L st h Q = zG d 811 61 L st h Q := g_go rfl
theorem g811_30 : zG d 811 30 (l0 :: l1 :: some (.int x) :: L) st h Q = zG d 811 31 (l0 :: l1 :: some (.int x) :: L) (.int x :: st) h Q := g_ldI rfl rfl
theorem g811_31 : zG d 811 31 L st h Q = zG d 811 33 L (.int 6 :: st) h Q := g_c rfl
theorem g811_33 : zG d 811 33 L (.int z :: .int x :: st) h Q = if ¬ x = z then zG d 811 44 L st h Q else zG d 811 36 L st h Q := g_i2 (P := fun x z => ¬ x = z) rfl
theorem g811_36 : zG d 811 36 (some (.ref a) :: L) st h Q = zG d 811 37 (some (.ref a) :: L) (.ref a :: st) h Q := g_ldA rfl rfl
theorem g811_37 : zG d 811 37 (l0 :: some (.int x) :: L) st h Q = zG d 811 38 (l0 :: some (.int x) :: L) (.int x :: st) h Q := g_ldI rfl rfl
theorem g811_38 (hT : (zT h a).1 = 8) : zG d 811 38 L [v0, .ref a] h Q = zCall d 831 [.ref a, v0] h (fun v h1 => zG d 811 41 L (zpush v []) h1 Q) := g_cV rfl rfl rfl rfl (Nat.le_of_ble_eq_true rfl) hT
theorem g811_41 : zG d 811 41 L st h Q = zG d 811 61 L st h Q := g_go rfl
theorem g811_44 : zG d 811 44 (l0 :: l1 :: some (.int x) :: L) st h Q = zG d 811 45 (l0 :: l1 :: some (.int x) :: L) (.int x :: st) h Q := g_ldI rfl rfl
theorem g811_45 : zG d 811 45 L st h Q = zG d 811 47 L (.int 7 :: st) h Q := g_c rfl
theorem g811_47 : zG d 811 47 L (.int z :: .int x :: st) h Q = if ¬ x = z then zG d 811 58 L st h Q else zG d 811 50 L st h Q := g_i2 (P := fun x z => ¬ x = z) rfl
theorem g811_50 : zG d 811 50 (some (.ref a) :: L) st h Q = zG d 811 51 (some (.ref a) :: L) (.ref a :: st) h Q := g_ldA rfl rfl
theorem g811_51 : zG d 811 51 (l0 :: some (.int x) :: L) st h Q = zG d 811 52 (l0 :: some (.int x) :: L) (.int x :: st) h Q := g_ldI rfl rfl
theorem g811_52 (hT : (zT h a).1 = 8) : zG d 811 52 L [v0, .ref a] h Q = zCall d 837 [.ref a, v0] h (fun v h1 => zG d 811 55 L (zpush v []) h1 Q) := g_cV rfl rfl rfl rfl (Nat.le_of_ble_eq_true rfl) hT
theorem g811_55 : zG d 811 55 L st h Q = zG d 811 61 L st h Q := g_go rfl
theorem g811_58 : zG d 811 58 L st h Q = zG d 811 61 L (.int (-10001) :: st) h Q := g_c rfl
theorem g811_61 : zG d 811 61 L [.int x] h Q = Q (some (.int x)) h := g_rI (ok := fun _ => True) rfl trivial
theorem k811 {x0 : Int32} {x1 : Int32} : zCall (d + 1) 811 [.ref a, .int x0, .int x1] h Q = zG d 811 0 [some (.ref a), some (.int x0), some (.int x1)] [] h Q := zCall_k (Nat.le_of_ble_eq_true rfl) rfl
theorem g812_0 : zG d 812 0 (some (.ref a) :: L) st h Q = zG d 812 1 (some (.ref a) :: L) (.ref a :: st) h Q := g_ldA rfl rfl
theorem g812_1 : zG d 812 1 (l0 :: some (.int x) :: L) st h Q = zG d 812 2 (l0 :: some (.int x) :: L) (.int x :: st) h Q := g_ldI rfl rfl
theorem g812_2 (hT : (zT h a).1 = 8) : zG d 812 2 L [v0, .ref a] h Q = zCall d 807 [.ref a, v0] h (fun v h1 => zG d 812 5 L (zpush v []) h1 Q) := g_cV rfl rfl rfl rfl (Nat.le_of_ble_eq_true rfl) hT
theorem g812_5 : zG d 812 5 L (.int x :: st) h Q = if x = 0 then zG d 812 17 L st h Q else zG d 812 8 L st h Q := g_i1 (P := fun x => x = 0) rfl
theorem g812_8 : zG d 812 8 (l0 :: l1 :: some (.int x) :: L) st h Q = zG d 812 9 (l0 :: l1 :: some (.int x) :: L) (.int x :: st) h Q := g_ldI rfl rfl
theorem g812_9 : zG d 812 9 L st h Q = zG d 812 10 L (.int 0 :: st) h Q := g_c rfl
theorem g812_10 : zG d 812 10 L st h Q = zG d 812 11 L (.int 1 :: st) h Q := g_c rfl
theorem g812_11 : zG d 812 11 L [v2, v1, v0] h Q = zCall d 802 [v0, v1, v2] h (fun v h1 => zG d 812 14 L (zpush v []) h1 Q) := g_cS rfl rfl (Nat.le_of_ble_eq_true rfl) rfl (Nat.le_of_ble_eq_true rfl)
theorem g812_14 : zG d 812 14 L (.int x :: st) h Q = if ¬ x = 0 then zG d 812 19 L st h Q else zG d 812 17 L st h Q := g_i1 (P := fun x => ¬ x = 0) rfl
theorem g812_17 : zG d 812 17 L st h Q = zG d 812 18 L (.int (-1) :: st) h Q := g_c rfl
theorem g812_18 : zG d 812 18 L [.int x] h Q = Q (some (.int x)) h := g_rI (ok := fun _ => True) rfl trivial
theorem g812_19 : zG d 812 19 (l0 :: l1 :: l2 :: some (.int x) :: L) st h Q = zG d 812 20 (l0 :: l1 :: l2 :: some (.int x) :: L) (.int x :: st) h Q := g_ldI rfl rfl
theorem g812_20 : zG d 812 20 L st h Q = zG d 812 21 L (.int 0 :: st) h Q := g_c rfl
theorem g812_21 : zG d 812 21 (l0 :: l1 :: some (.int x) :: L) st h Q = zG d 812 22 (l0 :: l1 :: some (.int x) :: L) (.int x :: st) h Q := g_ldI rfl rfl
theorem g812_22 : zG d 812 22 L (.int x :: st) h Q = if ¬ x = 0 then zG d 812 30 L st h Q else zG d 812 25 L st h Q := g_i1 (P := fun x => ¬ x = 0) rfl
theorem g812_25 : zG d 812 25 L st h Q = zG d 812 27 L (.int 99 :: st) h Q := g_c rfl
theorem g812_27 : zG d 812 27 L st h Q = zG d 812 32 L st h Q := g_go rfl
theorem g812_30 : zG d 812 30 L st h Q = zG d 812 32 L (.int 10 :: st) h Q := g_c rfl
theorem g812_32 : zG d 812 32 L [v2, v1, v0] h Q = zCall d 802 [v0, v1, v2] h (fun v h1 => zG d 812 35 L (zpush v []) h1 Q) := g_cS rfl rfl (Nat.le_of_ble_eq_true rfl) rfl (Nat.le_of_ble_eq_true rfl)
theorem g812_35 : zG d 812 35 L (.int x :: st) h Q = if ¬ x = 0 then zG d 812 41 L st h Q else zG d 812 38 L st h Q := g_i1 (P := fun x => ¬ x = 0) rfl
theorem g812_38 : zG d 812 38 L st h Q = zG d 812 40 L (.int (-2) :: st) h Q := g_c rfl
theorem g812_40 : zG d 812 40 L [.int x] h Q = Q (some (.int x)) h := g_rI (ok := fun _ => True) rfl trivial
theorem g812_41 : zG d 812 41 (l0 :: l1 :: some (.int x) :: L) st h Q = zG d 812 42 (l0 :: l1 :: some (.int x) :: L) (.int x :: st) h Q := g_ldI rfl rfl
theorem g812_42 : zG d 812 42 L st h Q = zG d 812 43 L (.int 1 :: st) h Q := g_c rfl
theorem g812_43 : zG d 812 43 L (.int z :: .int x :: st) h Q = if ¬ x = z then zG d 812 54 L st h Q else zG d 812 46 L st h Q := g_i2 (P := fun x z => ¬ x = z) rfl
theorem g812_46 : zG d 812 46 (some (.ref a) :: L) st h Q = zG d 812 47 (some (.ref a) :: L) (.ref a :: st) h Q := g_ldA rfl rfl
theorem g812_47 : zG d 812 47 (l0 :: some (.int x) :: L) st h Q = zG d 812 48 (l0 :: some (.int x) :: L) (.int x :: st) h Q := g_ldI rfl rfl
theorem g812_48 : zG d 812 48 L st h Q = zG d 812 49 L (.int 4 :: st) h Q := g_c rfl
theorem g812_49 : zG d 812 49 L st h Q = zG d 812 50 L (.int 0 :: st) h Q := g_c rfl
theorem g812_50 (hT : (zT h a).1 = 8) : zG d 812 50 L [v2, v1, v0, .ref a] h Q = zCall d 809 [.ref a, v0, v1, v2] h (fun v h1 => zG d 812 53 L (zpush v []) h1 Q) := g_cV rfl rfl rfl rfl (Nat.le_of_ble_eq_true rfl) hT
theorem g812_53 : zG d 812 53 L (.int x :: st) h Q = zG d 812 54 L st h Q := g_popI rfl
theorem g812_54 : zG d 812 54 (some (.ref a) :: L) st h Q = zG d 812 55 (some (.ref a) :: L) (.ref a :: st) h Q := g_ldA rfl rfl
theorem g812_55 : zG d 812 55 (l0 :: some (.int x) :: L) st h Q = zG d 812 56 (l0 :: some (.int x) :: L) (.int x :: st) h Q := g_ldI rfl rfl
theorem g812_56 : zG d 812 56 L st h Q = zG d 812 57 L (.int 2 :: st) h Q := g_c rfl
theorem g812_57 : zG d 812 57 (l0 :: l1 :: some (.int x) :: L) st h Q = zG d 812 58 (l0 :: l1 :: some (.int x) :: L) (.int x :: st) h Q := g_ldI rfl rfl
theorem g812_58 : zG d 812 58 L (.int z :: .int x :: st) h Q = zG d 812 59 L (.int (x + z) :: st) h Q := g_b (f := fun x z => x + z) rfl
theorem g812_59 : zG d 812 59 (l0 :: l1 :: l2 :: some (.int x) :: L) st h Q = zG d 812 60 (l0 :: l1 :: l2 :: some (.int x) :: L) (.int x :: st) h Q := g_ldI rfl rfl
theorem g812_60 (hT : (zT h a).1 = 8) : zG d 812 60 L [v2, v1, v0, .ref a] h Q = zCall d 809 [.ref a, v0, v1, v2] h (fun v h1 => zG d 812 63 L (zpush v []) h1 Q) := g_cV rfl rfl rfl rfl (Nat.le_of_ble_eq_true rfl) hT
theorem g812_63 : zG d 812 63 L [.int x] h Q = Q (some (.int x)) h := g_rI (ok := fun _ => True) rfl trivial
theorem k812 {x0 : Int32} {x1 : Int32} {x2 : Int32} : zCall (d + 1) 812 [.ref a, .int x0, .int x1, .int x2] h Q = zG d 812 0 [some (.ref a), some (.int x0), some (.int x1), some (.int x2)] [] h Q := zCall_k (Nat.le_of_ble_eq_true rfl) rfl
theorem g813_0 : zG d 813 0 (some (.ref a) :: L) st h Q = zG d 813 1 (some (.ref a) :: L) (.ref a :: st) h Q := g_ldA rfl rfl
theorem g813_1 : zG d 813 1 (l0 :: some (.int x) :: L) st h Q = zG d 813 2 (l0 :: some (.int x) :: L) (.int x :: st) h Q := g_ldI rfl rfl
theorem g813_2 : zG d 813 2 L st h Q = zG d 813 3 L (.int 3 :: st) h Q := g_c rfl
theorem g813_3 (hT : (zT h a).1 = 8) : zG d 813 3 L [v1, v0, .ref a] h Q = zCall d 808 [.ref a, v0, v1] h (fun v h1 => zG d 813 6 L (zpush v []) h1 Q) := g_cV rfl rfl rfl rfl (Nat.le_of_ble_eq_true rfl) hT
theorem g813_6 : zG d 813 6 L st h Q = zG d 813 7 L (.int 1 :: st) h Q := g_c rfl
theorem g813_7 : zG d 813 7 L st h Q = zG d 813 9 L (.int 9 :: st) h Q := g_c rfl
theorem g813_9 : zG d 813 9 L [v2, v1, v0] h Q = zCall d 802 [v0, v1, v2] h (fun v h1 => zG d 813 12 L (zpush v []) h1 Q) := g_cS rfl rfl (Nat.le_of_ble_eq_true rfl) rfl (Nat.le_of_ble_eq_true rfl)
theorem g813_12 (hx : x = 0 ∨ x = 1) : zG d 813 12 L [.int x] h Q = Q (some (.int x)) h := g_rI (ok := fun x => x = 0 ∨ x = 1) rfl hx
theorem k813 {x0 : Int32} : zCall (d + 1) 813 [.ref a, .int x0] h Q = zG d 813 0 [some (.ref a), some (.int x0)] [] h Q := zCall_k (Nat.le_of_ble_eq_true rfl) rfl
theorem g814_0 : zG d 814 0 (some (.ref a) :: L) st h Q = zG d 814 1 (some (.ref a) :: L) (.ref a :: st) h Q := g_ldA rfl rfl
theorem g814_1 : zG d 814 1 (l0 :: some (.int x) :: L) st h Q = zG d 814 2 (l0 :: some (.int x) :: L) (.int x :: st) h Q := g_ldI rfl rfl
theorem g814_2 (hT : (zT h a).1 = 8) : zG d 814 2 L [v0, .ref a] h Q = zCall d 807 [.ref a, v0] h (fun v h1 => zG d 814 5 L (zpush v []) h1 Q) := g_cV rfl rfl rfl rfl (Nat.le_of_ble_eq_true rfl) hT
theorem g814_5 : zG d 814 5 L (.int x :: st) h Q = if ¬ x = 0 then zG d 814 10 L st h Q else zG d 814 8 L st h Q := g_i1 (P := fun x => ¬ x = 0) rfl
theorem g814_8 : zG d 814 8 L st h Q = zG d 814 9 L (.int (-1) :: st) h Q := g_c rfl
theorem g814_9 : zG d 814 9 L [.int x] h Q = Q (some (.int x)) h := g_rI (ok := fun _ => True) rfl trivial
theorem g814_10 : zG d 814 10 (some (.ref a) :: L) st h Q = zG d 814 11 (some (.ref a) :: L) (.ref a :: st) h Q := g_ldA rfl rfl
theorem g814_11 : zG d 814 11 (l0 :: some (.int x) :: L) st h Q = zG d 814 12 (l0 :: some (.int x) :: L) (.int x :: st) h Q := g_ldI rfl rfl
theorem g814_12 (hT : (zT h a).1 = 8) : zG d 814 12 L [v0, .ref a] h Q = zCall d 813 [.ref a, v0] h (fun v h1 => zG d 814 15 L (zpush v []) h1 Q) := g_cV rfl rfl rfl rfl (Nat.le_of_ble_eq_true rfl) hT
theorem g814_15 : zG d 814 15 L (.int x :: st) h Q = if x = 0 then zG d 814 36 L st h Q else zG d 814 18 L st h Q := g_i1 (P := fun x => x = 0) rfl
theorem g814_18 : zG d 814 18 (some (.ref a) :: L) st h Q = zG d 814 19 (some (.ref a) :: L) (.ref a :: st) h Q := g_ldA rfl rfl
theorem g814_19 : zG d 814 19 (l0 :: some (.int x) :: L) st h Q = zG d 814 20 (l0 :: some (.int x) :: L) (.int x :: st) h Q := g_ldI rfl rfl
theorem g814_20 : zG d 814 20 L st h Q = zG d 814 21 L (.int 4 :: st) h Q := g_c rfl
theorem g814_21 : zG d 814 21 (l0 :: l1 :: some (.int x) :: L) st h Q = zG d 814 22 (l0 :: l1 :: some (.int x) :: L) (.int x :: st) h Q := g_ldI rfl rfl
theorem g814_22 : zG d 814 22 L (.int x :: st) h Q = if x = 0 then zG d 814 29 L st h Q else zG d 814 25 L st h Q := g_i1 (P := fun x => x = 0) rfl
theorem g814_25 : zG d 814 25 L st h Q = zG d 814 26 L (.int 1 :: st) h Q := g_c rfl
theorem g814_26 : zG d 814 26 L st h Q = zG d 814 30 L st h Q := g_go rfl
theorem g814_29 : zG d 814 29 L st h Q = zG d 814 30 L (.int 0 :: st) h Q := g_c rfl
theorem g814_30 (hT : (zT h a).1 = 8) : zG d 814 30 L [v2, v1, v0, .ref a] h Q = zCall d 809 [.ref a, v0, v1, v2] h (fun v h1 => zG d 814 33 L (zpush v []) h1 Q) := g_cV rfl rfl rfl rfl (Nat.le_of_ble_eq_true rfl) hT
theorem g814_33 : zG d 814 33 L st h Q = zG d 814 38 L st h Q := g_go rfl
theorem g814_36 : zG d 814 36 L st h Q = zG d 814 38 L (.int (-3) :: st) h Q := g_c rfl
theorem g814_38 : zG d 814 38 L [.int x] h Q = Q (some (.int x)) h := g_rI (ok := fun _ => True) rfl trivial
theorem k814 {x0 : Int32} {x1 : Int32} : zCall (d + 1) 814 [.ref a, .int x0, .int x1] h Q = zG d 814 0 [some (.ref a), some (.int x0), some (.int x1)] [] h Q := zCall_k (Nat.le_of_ble_eq_true rfl) rfl
theorem g815_0 : zG d 815 0 (l0 :: some (.int x) :: L) st h Q = zG d 815 1 (l0 :: some (.int x) :: L) (.int x :: st) h Q := g_ldI rfl rfl
theorem g815_1 : zG d 815 1 L st h Q = zG d 815 2 L (.int 0 :: st) h Q := g_c rfl
theorem g815_2 : zG d 815 2 L st h Q = zG d 815 4 L (.int 99999 :: st) h Q := g_c rfl
theorem g815_4 : zG d 815 4 L [v2, v1, v0] h Q = zCall d 802 [v0, v1, v2] h (fun v h1 => zG d 815 7 L (zpush v []) h1 Q) := g_cS rfl rfl (Nat.le_of_ble_eq_true rfl) rfl (Nat.le_of_ble_eq_true rfl)
theorem g815_7 : zG d 815 7 L (.int x :: st) h Q = if ¬ x = 0 then zG d 815 13 L st h Q else zG d 815 10 L st h Q := g_i1 (P := fun x => ¬ x = 0) rfl
theorem g815_10 : zG d 815 10 L st h Q = zG d 815 12 L (.int (-2) :: st) h Q := g_c rfl
theorem g815_12 : zG d 815 12 L [.int x] h Q = Q (some (.int x)) h := g_rI (ok := fun _ => True) rfl trivial
theorem g815_13 : zG d 815 13 (some (.ref a) :: L) st h Q = zG d 815 14 (some (.ref a) :: L) (.ref a :: st) h Q := g_ldA rfl rfl
theorem g815_14 (hT : zT h a = (8, 29)) : zG d 815 14 L (.ref a :: st) h Q = zG d 815 17 L (zR h a 0 :: st) h Q := g_gR rfl hT
theorem g815_17 : zG d 815 17 L st h Q = zG d 815 19 L (.int 61 :: st) h Q := g_c rfl
theorem g815_19 (hT : (zT h b).1 = 20) (hi : zin i (zT h b).2) : zG d 815 19 L (.int i :: .ref b :: st) h Q = zG d 815 20 L (.int (zI h b i.toNatClampNeg) :: st) h Q := g_ia rfl hT hi
theorem g815_20 : zG d 815 20 (l0 :: l1 :: l2 :: L) (.int x :: st) h Q = zG d 815 21 (l0 :: kl l1 :: some (.int x) :: L) st h Q := g_stI rfl (by simp) rfl
theorem g815_21 : zG d 815 21 (some (.ref a) :: L) st h Q = zG d 815 22 (some (.ref a) :: L) (.ref a :: st) h Q := g_ldA rfl rfl
theorem g815_22 (hT : zT h a = (8, 29)) : zG d 815 22 L (.ref a :: st) h Q = zG d 815 25 L (zR h a 0 :: st) h Q := g_gR rfl hT
theorem g815_25 : zG d 815 25 L st h Q = zG d 815 27 L (.int 61 :: st) h Q := g_c rfl
theorem g815_27 : zG d 815 27 (l0 :: some (.int x) :: L) st h Q = zG d 815 28 (l0 :: some (.int x) :: L) (.int x :: st) h Q := g_ldI rfl rfl
theorem g815_28 (hT : (zT h b).1 = 20) (hi : zin i (zT h b).2) : zG d 815 28 L (.int x :: .int i :: .ref b :: st) h Q = zG d 815 29 L st (wI h b i.toNatClampNeg (x)) Q := g_is (f1 := fun x => x) rfl hT hi
theorem g815_29 : zG d 815 29 (l0 :: l1 :: some (.int x) :: L) st h Q = zG d 815 30 (l0 :: l1 :: some (.int x) :: L) (.int x :: st) h Q := g_ldI rfl rfl
theorem g815_30 : zG d 815 30 L [.int x] h Q = Q (some (.int x)) h := g_rI (ok := fun _ => True) rfl trivial
theorem k815 {x0 : Int32} : zCall (d + 1) 815 [.ref a, .int x0] h Q = zG d 815 0 [some (.ref a), some (.int x0), none] [] h Q := zCall_k (Nat.le_of_ble_eq_true rfl) rfl
theorem g816_0 : zG d 816 0 (some (.ref a) :: L) st h Q = zG d 816 1 (some (.ref a) :: L) (.ref a :: st) h Q := g_ldA rfl rfl
theorem g816_1 : zG d 816 1 (l0 :: some (.int x) :: L) st h Q = zG d 816 2 (l0 :: some (.int x) :: L) (.int x :: st) h Q := g_ldI rfl rfl
theorem g816_2 (hT : (zT h a).1 = 8) : zG d 816 2 L [v0, .ref a] h Q = zCall d 807 [.ref a, v0] h (fun v h1 => zG d 816 5 L (zpush v []) h1 Q) := g_cV rfl rfl rfl rfl (Nat.le_of_ble_eq_true rfl) hT
theorem g816_5 : zG d 816 5 L (.int x :: st) h Q = if x = 0 then zG d 816 17 L st h Q else zG d 816 8 L st h Q := g_i1 (P := fun x => x = 0) rfl
theorem g816_8 : zG d 816 8 (l0 :: l1 :: some (.int x) :: L) st h Q = zG d 816 9 (l0 :: l1 :: some (.int x) :: L) (.int x :: st) h Q := g_ldI rfl rfl
theorem g816_9 : zG d 816 9 L st h Q = zG d 816 10 L (.int 0 :: st) h Q := g_c rfl
theorem g816_10 : zG d 816 10 L st h Q = zG d 816 11 L (.int 3 :: st) h Q := g_c rfl
theorem g816_11 : zG d 816 11 L [v2, v1, v0] h Q = zCall d 802 [v0, v1, v2] h (fun v h1 => zG d 816 14 L (zpush v []) h1 Q) := g_cS rfl rfl (Nat.le_of_ble_eq_true rfl) rfl (Nat.le_of_ble_eq_true rfl)
theorem g816_14 : zG d 816 14 L (.int x :: st) h Q = if ¬ x = 0 then zG d 816 19 L st h Q else zG d 816 17 L st h Q := g_i1 (P := fun x => ¬ x = 0) rfl
theorem g816_17 : zG d 816 17 L st h Q = zG d 816 18 L (.int (-1) :: st) h Q := g_c rfl
theorem g816_18 : zG d 816 18 L [.int x] h Q = Q (some (.int x)) h := g_rI (ok := fun _ => True) rfl trivial
theorem g816_19 : zG d 816 19 (l0 :: l1 :: l2 :: some (.int x) :: L) st h Q = zG d 816 20 (l0 :: l1 :: l2 :: some (.int x) :: L) (.int x :: st) h Q := g_ldI rfl rfl
theorem g816_20 : zG d 816 20 L st h Q = zG d 816 21 L (.int 0 :: st) h Q := g_c rfl
theorem g816_21 : zG d 816 21 L st h Q = zG d 816 23 L (.int 9 :: st) h Q := g_c rfl
theorem g816_23 : zG d 816 23 L [v2, v1, v0] h Q = zCall d 802 [v0, v1, v2] h (fun v h1 => zG d 816 26 L (zpush v []) h1 Q) := g_cS rfl rfl (Nat.le_of_ble_eq_true rfl) rfl (Nat.le_of_ble_eq_true rfl)
theorem g816_26 : zG d 816 26 L (.int x :: st) h Q = if ¬ x = 0 then zG d 816 32 L st h Q else zG d 816 29 L st h Q := g_i1 (P := fun x => ¬ x = 0) rfl
theorem g816_29 : zG d 816 29 L st h Q = zG d 816 31 L (.int (-2) :: st) h Q := g_c rfl
theorem g816_31 : zG d 816 31 L [.int x] h Q = Q (some (.int x)) h := g_rI (ok := fun _ => True) rfl trivial
theorem g816_32 : zG d 816 32 (some (.ref a) :: L) st h Q = zG d 816 33 (some (.ref a) :: L) (.ref a :: st) h Q := g_ldA rfl rfl
theorem g816_33 : zG d 816 33 (l0 :: some (.int x) :: L) st h Q = zG d 816 34 (l0 :: some (.int x) :: L) (.int x :: st) h Q := g_ldI rfl rfl
theorem g816_34 : zG d 816 34 L st h Q = zG d 816 35 L (.int 0 :: st) h Q := g_c rfl
theorem g816_35 (hT : (zT h a).1 = 8) : zG d 816 35 L [v1, v0, .ref a] h Q = zCall d 808 [.ref a, v0, v1] h (fun v h1 => zG d 816 38 L (zpush v []) h1 Q) := g_cV rfl rfl rfl rfl (Nat.le_of_ble_eq_true rfl) hT
theorem g816_38 : zG d 816 38 L st h Q = zG d 816 40 L (.int 6 :: st) h Q := g_c rfl
theorem g816_40 : zG d 816 40 L (.int z :: .int x :: st) h Q = if ¬ x = z then zG d 816 56 L st h Q else zG d 816 43 L st h Q := g_i2 (P := fun x z => ¬ x = z) rfl
theorem g816_43 : zG d 816 43 (some (.ref a) :: L) st h Q = zG d 816 44 (some (.ref a) :: L) (.ref a :: st) h Q := g_ldA rfl rfl
theorem g816_44 : zG d 816 44 (l0 :: some (.int x) :: L) st h Q = zG d 816 45 (l0 :: some (.int x) :: L) (.int x :: st) h Q := g_ldI rfl rfl
theorem g816_45 : zG d 816 45 L st h Q = zG d 816 47 L (.int 6 :: st) h Q := g_c rfl
theorem g816_47 : zG d 816 47 (l0 :: l1 :: some (.int x) :: L) st h Q = zG d 816 48 (l0 :: l1 :: some (.int x) :: L) (.int x :: st) h Q := g_ldI rfl rfl
theorem g816_48 : zG d 816 48 L (.int z :: .int x :: st) h Q = zG d 816 49 L (.int (x + z) :: st) h Q := g_b (f := fun x z => x + z) rfl
theorem g816_49 : zG d 816 49 (l0 :: l1 :: l2 :: some (.int x) :: L) st h Q = zG d 816 50 (l0 :: l1 :: l2 :: some (.int x) :: L) (.int x :: st) h Q := g_ldI rfl rfl
theorem g816_50 (hT : (zT h a).1 = 8) : zG d 816 50 L [v2, v1, v0, .ref a] h Q = zCall d 809 [.ref a, v0, v1, v2] h (fun v h1 => zG d 816 53 L (zpush v []) h1 Q) := g_cV rfl rfl rfl rfl (Nat.le_of_ble_eq_true rfl) hT
theorem g816_53 : zG d 816 53 L st h Q = zG d 816 58 L st h Q := g_go rfl
theorem g816_56 : zG d 816 56 L st h Q = zG d 816 58 L (.int (-3) :: st) h Q := g_c rfl
theorem g816_58 : zG d 816 58 L [.int x] h Q = Q (some (.int x)) h := g_rI (ok := fun _ => True) rfl trivial
theorem k816 {x0 : Int32} {x1 : Int32} {x2 : Int32} : zCall (d + 1) 816 [.ref a, .int x0, .int x1, .int x2] h Q = zG d 816 0 [some (.ref a), some (.int x0), some (.int x1), some (.int x2)] [] h Q := zCall_k (Nat.le_of_ble_eq_true rfl) rfl
theorem g817_0 : zG d 817 0 (l0 :: some (.int x) :: L) st h Q = zG d 817 1 (l0 :: some (.int x) :: L) (.int x :: st) h Q := g_ldI rfl rfl
theorem g817_1 : zG d 817 1 L st h Q = zG d 817 2 L (.int 0 :: st) h Q := g_c rfl
theorem g817_2 : zG d 817 2 L st h Q = zG d 817 4 L (.int 127 :: st) h Q := g_c rfl
theorem g817_4 : zG d 817 4 L [v2, v1, v0] h Q = zCall d 802 [v0, v1, v2] h (fun v h1 => zG d 817 7 L (zpush v []) h1 Q) := g_cS rfl rfl (Nat.le_of_ble_eq_true rfl) rfl (Nat.le_of_ble_eq_true rfl)
theorem g817_7 : zG d 817 7 L (.int x :: st) h Q = if ¬ x = 0 then zG d 817 13 L st h Q else zG d 817 10 L st h Q := g_i1 (P := fun x => ¬ x = 0) rfl
theorem g817_10 : zG d 817 10 L st h Q = zG d 817 12 L (.int (-2) :: st) h Q := g_c rfl
theorem g817_12 : zG d 817 12 L [.int x] h Q = Q (some (.int x)) h := g_rI (ok := fun _ => True) rfl trivial
theorem g817_13 : zG d 817 13 (some (.ref a) :: L) st h Q = zG d 817 14 (some (.ref a) :: L) (.ref a :: st) h Q := g_ldA rfl rfl
theorem g817_14 (hT : zT h a = (8, 29)) : zG d 817 14 L (.ref a :: st) h Q = zG d 817 17 L (.int (zI h a 6) :: st) h Q := g_gI rfl hT
theorem g817_17 : zG d 817 17 L st h Q = zG d 817 19 L (.int 100 :: st) h Q := g_c rfl
theorem g817_19 : zG d 817 19 L (.int z :: .int x :: st) h Q = if ¬ x = z then zG d 817 25 L st h Q else zG d 817 22 L st h Q := g_i2 (P := fun x z => ¬ x = z) rfl
theorem g817_22 : zG d 817 22 L st h Q = zG d 817 24 L (.int (-4) :: st) h Q := g_c rfl
theorem g817_24 : zG d 817 24 L [.int x] h Q = Q (some (.int x)) h := g_rI (ok := fun _ => True) rfl trivial
theorem g817_25 : zG d 817 25 (some (.ref a) :: L) st h Q = zG d 817 26 (some (.ref a) :: L) (.ref a :: st) h Q := g_ldA rfl rfl
theorem g817_26 (hT : zT h a = (8, 29)) : zG d 817 26 L (.ref a :: st) h Q = zG d 817 29 L (zR h a 5 :: st) h Q := g_gR rfl hT
theorem g817_29 : zG d 817 29 (some (.ref a) :: L) st h Q = zG d 817 30 (some (.ref a) :: L) (.ref a :: st) h Q := g_ldA rfl rfl
theorem g817_30 (hT : zT h a = (8, 29)) : zG d 817 30 L (.ref a :: st) h Q = zG d 817 33 L (.int (zI h a 6) :: st) h Q := g_gI rfl hT
theorem g817_33 : zG d 817 33 (l0 :: some (.int x) :: L) st h Q = zG d 817 34 (l0 :: some (.int x) :: L) (.int x :: st) h Q := g_ldI rfl rfl
theorem g817_34 (hT : (zT h b).1 = 20) (hi : zin i (zT h b).2) : zG d 817 34 L (.int x :: .int i :: .ref b :: st) h Q = zG d 817 35 L st (wI h b i.toNatClampNeg (x)) Q := g_is (f1 := fun x => x) rfl hT hi
theorem g817_35 : zG d 817 35 (some (.ref a) :: L) st h Q = zG d 817 36 (some (.ref a) :: L) (.ref a :: st) h Q := g_ldA rfl rfl
theorem g817_36 : zG d 817 36 L (.ref a :: st) h Q = zG d 817 37 L (.ref a :: .ref a :: st) h Q := g_dupA rfl
theorem g817_37 (hT : zT h a = (8, 29)) : zG d 817 37 L (.ref a :: st) h Q = zG d 817 40 L (.int (zI h a 6) :: st) h Q := g_gI rfl hT
theorem g817_40 : zG d 817 40 L st h Q = zG d 817 41 L (.int 1 :: st) h Q := g_c rfl
theorem g817_41 : zG d 817 41 L (.int z :: .int x :: st) h Q = zG d 817 42 L (.int (x + z) :: st) h Q := g_b (f := fun x z => x + z) rfl
theorem g817_42 (hT : zT h a = (8, 29)) : zG d 817 42 L (.int x :: .ref a :: st) h Q = zG d 817 45 L st (wI h a 6 x) Q := g_pI rfl hT
theorem g817_45 : zG d 817 45 (some (.ref a) :: L) st h Q = zG d 817 46 (some (.ref a) :: L) (.ref a :: st) h Q := g_ldA rfl rfl
theorem g817_46 (hT : zT h a = (8, 29)) : zG d 817 46 L (.ref a :: st) h Q = zG d 817 49 L (.int (zI h a 6) :: st) h Q := g_gI rfl hT
theorem g817_49 : zG d 817 49 L [.int x] h Q = Q (some (.int x)) h := g_rI (ok := fun _ => True) rfl trivial
theorem k817 {x0 : Int32} : zCall (d + 1) 817 [.ref a, .int x0] h Q = zG d 817 0 [some (.ref a), some (.int x0)] [] h Q := zCall_k (Nat.le_of_ble_eq_true rfl) rfl
theorem g818_0 : zG d 818 0 (some (.ref a) :: L) st h Q = zG d 818 1 (some (.ref a) :: L) (.ref a :: st) h Q := g_ldA rfl rfl
theorem g818_1 (hT : zT h a = (8, 29)) : zG d 818 1 L (.ref a :: st) h Q = zG d 818 4 L (.int (zI h a 13) :: st) h Q := g_gI rfl hT
theorem g818_4 : zG d 818 4 L (.int x :: st) h Q = if x = 0 then zG d 818 35 L st h Q else zG d 818 7 L st h Q := g_i1 (P := fun x => x = 0) rfl
theorem g818_7 : zG d 818 7 (some (.ref a) :: L) st h Q = zG d 818 8 (some (.ref a) :: L) (.ref a :: st) h Q := g_ldA rfl rfl
theorem g818_8 (hT : zT h a = (8, 29)) : zG d 818 8 L (.ref a :: st) h Q = zG d 818 11 L (.int (zI h a 12) :: st) h Q := g_gI rfl hT
theorem g818_11 : zG d 818 11 (some (.ref a) :: L) st h Q = zG d 818 12 (some (.ref a) :: L) (.ref a :: st) h Q := g_ldA rfl rfl
theorem g818_12 (hT : zT h a = (8, 29)) : zG d 818 12 L (.ref a :: st) h Q = zG d 818 15 L (.int (zI h a 11) :: st) h Q := g_gI rfl hT
theorem g818_15 : zG d 818 15 L (.int z :: .int x :: st) h Q = if z ≤ x then zG d 818 35 L st h Q else zG d 818 18 L st h Q := g_i2 (P := fun x z => z ≤ x) rfl
theorem g818_18 : zG d 818 18 (some (.ref a) :: L) st h Q = zG d 818 19 (some (.ref a) :: L) (.ref a :: st) h Q := g_ldA rfl rfl
theorem g818_19 (hT : zT h a = (8, 29)) : zG d 818 19 L (.ref a :: st) h Q = zG d 818 22 L (zR h a 10 :: st) h Q := g_gR rfl hT
theorem g818_22 : zG d 818 22 (some (.ref a) :: L) st h Q = zG d 818 23 (some (.ref a) :: L) (.ref a :: st) h Q := g_ldA rfl rfl
theorem g818_23 (hT : zT h a = (8, 29)) : zG d 818 23 L (.ref a :: st) h Q = zG d 818 26 L (.int (zI h a 12) :: st) h Q := g_gI rfl hT
theorem g818_26 (hT : (zT h b).1 = 20) (hi : zin i (zT h b).2) : zG d 818 26 L (.int i :: .ref b :: st) h Q = zG d 818 27 L (.int (zI h b i.toNatClampNeg) :: st) h Q := g_ia rfl hT hi
theorem g818_27 : zG d 818 27 (l0 :: some (.int x) :: L) st h Q = zG d 818 28 (l0 :: some (.int x) :: L) (.int x :: st) h Q := g_ldI rfl rfl
theorem g818_28 : zG d 818 28 L (.int z :: .int x :: st) h Q = if ¬ x = z then zG d 818 35 L st h Q else zG d 818 31 L st h Q := g_i2 (P := fun x z => ¬ x = z) rfl
theorem g818_31 : zG d 818 31 L st h Q = zG d 818 32 L (.int 1 :: st) h Q := g_c rfl
theorem g818_32 : zG d 818 32 L st h Q = zG d 818 36 L st h Q := g_go rfl
theorem g818_35 : zG d 818 35 L st h Q = zG d 818 36 L (.int 0 :: st) h Q := g_c rfl
theorem g818_36 (hx : x = 0 ∨ x = 1) : zG d 818 36 L [.int x] h Q = Q (some (.int x)) h := g_rI (ok := fun x => x = 0 ∨ x = 1) rfl hx
theorem k818 {x0 : Int32} : zCall (d + 1) 818 [.ref a, .int x0] h Q = zG d 818 0 [some (.ref a), some (.int x0)] [] h Q := zCall_k (Nat.le_of_ble_eq_true rfl) rfl
theorem g819_0 : zG d 819 0 (some (.ref a) :: L) st h Q = zG d 819 1 (some (.ref a) :: L) (.ref a :: st) h Q := g_ldA rfl rfl
theorem g819_1 : zG d 819 1 (l0 :: some (.int x) :: L) st h Q = zG d 819 2 (l0 :: some (.int x) :: L) (.int x :: st) h Q := g_ldI rfl rfl
theorem g819_2 (hT : (zT h a).1 = 8) : zG d 819 2 L [v0, .ref a] h Q = zCall d 818 [.ref a, v0] h (fun v h1 => zG d 819 5 L (zpush v []) h1 Q) := g_cV rfl rfl rfl rfl (Nat.le_of_ble_eq_true rfl) hT
theorem g819_5 : zG d 819 5 L (.int x :: st) h Q = if x = 0 then zG d 819 21 L st h Q else zG d 819 8 L st h Q := g_i1 (P := fun x => x = 0) rfl
theorem g819_8 : zG d 819 8 (some (.ref a) :: L) st h Q = zG d 819 9 (some (.ref a) :: L) (.ref a :: st) h Q := g_ldA rfl rfl
theorem g819_9 : zG d 819 9 L (.ref a :: st) h Q = zG d 819 10 L (.ref a :: .ref a :: st) h Q := g_dupA rfl
theorem g819_10 (hT : zT h a = (8, 29)) : zG d 819 10 L (.ref a :: st) h Q = zG d 819 13 L (.int (zI h a 12) :: st) h Q := g_gI rfl hT
theorem g819_13 : zG d 819 13 L st h Q = zG d 819 14 L (.int 1 :: st) h Q := g_c rfl
theorem g819_14 : zG d 819 14 L (.int z :: .int x :: st) h Q = zG d 819 15 L (.int (x + z) :: st) h Q := g_b (f := fun x z => x + z) rfl
theorem g819_15 (hT : zT h a = (8, 29)) : zG d 819 15 L (.int x :: .ref a :: st) h Q = zG d 819 18 L st (wI h a 12 x) Q := g_pI rfl hT
theorem g819_18 : zG d 819 18 L st h Q = zG d 819 26 L st h Q := g_go rfl
theorem g819_21 : zG d 819 21 (some (.ref a) :: L) st h Q = zG d 819 22 (some (.ref a) :: L) (.ref a :: st) h Q := g_ldA rfl rfl
theorem g819_22 : zG d 819 22 L st h Q = zG d 819 23 L (.int 0 :: st) h Q := g_c rfl
theorem g819_23 (hT : zT h a = (8, 29)) (hx : x = 0 ∨ x = 1) : zG d 819 23 L (.int x :: .ref a :: st) h Q = zG d 819 26 L st (wI h a 13 x) Q := g_pZ rfl hT hx
theorem g819_26 : zG d 819 26 L [] h Q = Q none h := g_rV rfl
theorem k819 {x0 : Int32} : zCall (d + 1) 819 [.ref a, .int x0] h Q = zG d 819 0 [some (.ref a), some (.int x0)] [] h Q := zCall_k (Nat.le_of_ble_eq_true rfl) rfl
theorem g820_0 : zG d 820 0 (some (.ref a) :: L) st h Q = zG d 820 1 (some (.ref a) :: L) (.ref a :: st) h Q := g_ldA rfl rfl
theorem g820_1 (hT : zT h a = (8, 29)) : zG d 820 1 L (.ref a :: st) h Q = zG d 820 4 L (.int (zI h a 13) :: st) h Q := g_gI rfl hT
theorem g820_4 : zG d 820 4 L (.int x :: st) h Q = if x = 0 then zG d 820 50 L st h Q else zG d 820 7 L st h Q := g_i1 (P := fun x => x = 0) rfl
theorem g820_7 : zG d 820 7 (some (.ref a) :: L) st h Q = zG d 820 8 (some (.ref a) :: L) (.ref a :: st) h Q := g_ldA rfl rfl
theorem g820_8 (hT : zT h a = (8, 29)) : zG d 820 8 L (.ref a :: st) h Q = zG d 820 11 L (.int (zI h a 12) :: st) h Q := g_gI rfl hT
theorem g820_11 : zG d 820 11 (some (.ref a) :: L) st h Q = zG d 820 12 (some (.ref a) :: L) (.ref a :: st) h Q := g_ldA rfl rfl
theorem g820_12 (hT : zT h a = (8, 29)) : zG d 820 12 L (.ref a :: st) h Q = zG d 820 15 L (.int (zI h a 11) :: st) h Q := g_gI rfl hT
theorem g820_15 : zG d 820 15 L (.int z :: .int x :: st) h Q = if z ≤ x then zG d 820 50 L st h Q else zG d 820 18 L st h Q := g_i2 (P := fun x z => z ≤ x) rfl
theorem g820_18 : zG d 820 18 (some (.ref a) :: L) st h Q = zG d 820 19 (some (.ref a) :: L) (.ref a :: st) h Q := g_ldA rfl rfl
theorem g820_19 (hT : zT h a = (8, 29)) : zG d 820 19 L (.ref a :: st) h Q = zG d 820 22 L (zR h a 10 :: st) h Q := g_gR rfl hT
theorem g820_22 : zG d 820 22 (some (.ref a) :: L) st h Q = zG d 820 23 (some (.ref a) :: L) (.ref a :: st) h Q := g_ldA rfl rfl
theorem g820_23 (hT : zT h a = (8, 29)) : zG d 820 23 L (.ref a :: st) h Q = zG d 820 26 L (.int (zI h a 12) :: st) h Q := g_gI rfl hT
theorem g820_26 (hT : (zT h b).1 = 20) (hi : zin i (zT h b).2) : zG d 820 26 L (.int i :: .ref b :: st) h Q = zG d 820 27 L (.int (zI h b i.toNatClampNeg) :: st) h Q := g_ia rfl hT hi
theorem g820_27 : zG d 820 27 L st h Q = zG d 820 29 L (.int 48 :: st) h Q := g_c rfl
theorem g820_29 : zG d 820 29 L (.int z :: .int x :: st) h Q = if x < z then zG d 820 50 L st h Q else zG d 820 32 L st h Q := g_i2 (P := fun x z => x < z) rfl
theorem g820_32 : zG d 820 32 (some (.ref a) :: L) st h Q = zG d 820 33 (some (.ref a) :: L) (.ref a :: st) h Q := g_ldA rfl rfl
theorem g820_33 (hT : zT h a = (8, 29)) : zG d 820 33 L (.ref a :: st) h Q = zG d 820 36 L (zR h a 10 :: st) h Q := g_gR rfl hT
theorem g820_36 : zG d 820 36 (some (.ref a) :: L) st h Q = zG d 820 37 (some (.ref a) :: L) (.ref a :: st) h Q := g_ldA rfl rfl
theorem g820_37 (hT : zT h a = (8, 29)) : zG d 820 37 L (.ref a :: st) h Q = zG d 820 40 L (.int (zI h a 12) :: st) h Q := g_gI rfl hT
theorem g820_40 (hT : (zT h b).1 = 20) (hi : zin i (zT h b).2) : zG d 820 40 L (.int i :: .ref b :: st) h Q = zG d 820 41 L (.int (zI h b i.toNatClampNeg) :: st) h Q := g_ia rfl hT hi
theorem g820_41 : zG d 820 41 L st h Q = zG d 820 43 L (.int 57 :: st) h Q := g_c rfl
theorem g820_43 : zG d 820 43 L (.int z :: .int x :: st) h Q = if z < x then zG d 820 50 L st h Q else zG d 820 46 L st h Q := g_i2 (P := fun x z => z < x) rfl
theorem g820_46 : zG d 820 46 L st h Q = zG d 820 47 L (.int 1 :: st) h Q := g_c rfl
theorem g820_47 : zG d 820 47 L st h Q = zG d 820 51 L st h Q := g_go rfl
theorem g820_50 : zG d 820 50 L st h Q = zG d 820 51 L (.int 0 :: st) h Q := g_c rfl
theorem g820_51 (hx : x = 0 ∨ x = 1) : zG d 820 51 L [.int x] h Q = Q (some (.int x)) h := g_rI (ok := fun x => x = 0 ∨ x = 1) rfl hx
theorem k820  : zCall (d + 1) 820 [.ref a] h Q = zG d 820 0 [some (.ref a)] [] h Q := zCall_k (Nat.le_of_ble_eq_true rfl) rfl
theorem g821_0 : zG d 821 0 (some (.ref a) :: L) st h Q = zG d 821 1 (some (.ref a) :: L) (.ref a :: st) h Q := g_ldA rfl rfl
theorem g821_1 (hT : (zT h a).1 = 8) : zG d 821 1 L [.ref a] h Q = zCall d 820 [.ref a] h (fun v h1 => zG d 821 4 L (zpush v []) h1 Q) := g_cV rfl rfl rfl rfl (Nat.le_of_ble_eq_true rfl) hT
theorem g821_4 : zG d 821 4 L (.int x :: st) h Q = if ¬ x = 0 then zG d 821 14 L st h Q else zG d 821 7 L st h Q := g_i1 (P := fun x => ¬ x = 0) rfl
theorem g821_7 : zG d 821 7 (some (.ref a) :: L) st h Q = zG d 821 8 (some (.ref a) :: L) (.ref a :: st) h Q := g_ldA rfl rfl
theorem g821_8 : zG d 821 8 L st h Q = zG d 821 9 L (.int 0 :: st) h Q := g_c rfl
theorem g821_9 (hT : zT h a = (8, 29)) (hx : x = 0 ∨ x = 1) : zG d 821 9 L (.int x :: .ref a :: st) h Q = zG d 821 12 L st (wI h a 13 x) Q := g_pZ rfl hT hx
theorem g821_12 : zG d 821 12 L st h Q = zG d 821 13 L (.int 0 :: st) h Q := g_c rfl
theorem g821_13 : zG d 821 13 L [.int x] h Q = Q (some (.int x)) h := g_rI (ok := fun _ => True) rfl trivial
theorem g821_14 : zG d 821 14 (some (.ref a) :: L) st h Q = zG d 821 15 (some (.ref a) :: L) (.ref a :: st) h Q := g_ldA rfl rfl
theorem g821_15 (hT : zT h a = (8, 29)) : zG d 821 15 L (.ref a :: st) h Q = zG d 821 18 L (zR h a 10 :: st) h Q := g_gR rfl hT
theorem g821_18 : zG d 821 18 (some (.ref a) :: L) st h Q = zG d 821 19 (some (.ref a) :: L) (.ref a :: st) h Q := g_ldA rfl rfl
theorem g821_19 (hT : zT h a = (8, 29)) : zG d 821 19 L (.ref a :: st) h Q = zG d 821 22 L (.int (zI h a 12) :: st) h Q := g_gI rfl hT
theorem g821_22 (hT : (zT h b).1 = 20) (hi : zin i (zT h b).2) : zG d 821 22 L (.int i :: .ref b :: st) h Q = zG d 821 23 L (.int (zI h b i.toNatClampNeg) :: st) h Q := g_ia rfl hT hi
theorem g821_23 : zG d 821 23 L st h Q = zG d 821 25 L (.int 48 :: st) h Q := g_c rfl
theorem g821_25 : zG d 821 25 L (.int z :: .int x :: st) h Q = zG d 821 26 L (.int (x - z) :: st) h Q := g_b (f := fun x z => x - z) rfl
theorem g821_26 : zG d 821 26 (l0 :: l1 :: L) (.int x :: st) h Q = zG d 821 27 (kl l0 :: some (.int x) :: L) st h Q := g_stI rfl (by simp) rfl
theorem g821_27 : zG d 821 27 (some (.ref a) :: L) st h Q = zG d 821 28 (some (.ref a) :: L) (.ref a :: st) h Q := g_ldA rfl rfl
theorem g821_28 : zG d 821 28 L (.ref a :: st) h Q = zG d 821 29 L (.ref a :: .ref a :: st) h Q := g_dupA rfl
theorem g821_29 (hT : zT h a = (8, 29)) : zG d 821 29 L (.ref a :: st) h Q = zG d 821 32 L (.int (zI h a 12) :: st) h Q := g_gI rfl hT
theorem g821_32 : zG d 821 32 L st h Q = zG d 821 33 L (.int 1 :: st) h Q := g_c rfl
theorem g821_33 : zG d 821 33 L (.int z :: .int x :: st) h Q = zG d 821 34 L (.int (x + z) :: st) h Q := g_b (f := fun x z => x + z) rfl
theorem g821_34 (hT : zT h a = (8, 29)) : zG d 821 34 L (.int x :: .ref a :: st) h Q = zG d 821 37 L st (wI h a 12 x) Q := g_pI rfl hT
theorem g821_37 : zG d 821 37 (some (.ref a) :: L) st h Q = zG d 821 38 (some (.ref a) :: L) (.ref a :: st) h Q := g_ldA rfl rfl
theorem g821_38 (hT : (zT h a).1 = 8) : zG d 821 38 L [.ref a] h Q = zCall d 820 [.ref a] h (fun v h1 => zG d 821 41 L (zpush v []) h1 Q) := g_cV rfl rfl rfl rfl (Nat.le_of_ble_eq_true rfl) hT
theorem g821_41 : zG d 821 41 L (.int x :: st) h Q = if x = 0 then zG d 821 72 L st h Q else zG d 821 44 L st h Q := g_i1 (P := fun x => x = 0) rfl
theorem g821_44 : zG d 821 44 L st h Q = zG d 821 46 L (.int 10 :: st) h Q := g_c rfl
theorem g821_46 : zG d 821 46 (l0 :: some (.int x) :: L) st h Q = zG d 821 47 (l0 :: some (.int x) :: L) (.int x :: st) h Q := g_ldI rfl rfl
theorem g821_47 : zG d 821 47 L (.int z :: .int x :: st) h Q = zG d 821 48 L (.int (x * z) :: st) h Q := g_b (f := fun x z => x * z) rfl
theorem g821_48 : zG d 821 48 (some (.ref a) :: L) st h Q = zG d 821 49 (some (.ref a) :: L) (.ref a :: st) h Q := g_ldA rfl rfl
theorem g821_49 (hT : zT h a = (8, 29)) : zG d 821 49 L (.ref a :: st) h Q = zG d 821 52 L (zR h a 10 :: st) h Q := g_gR rfl hT
theorem g821_52 : zG d 821 52 (some (.ref a) :: L) st h Q = zG d 821 53 (some (.ref a) :: L) (.ref a :: st) h Q := g_ldA rfl rfl
theorem g821_53 (hT : zT h a = (8, 29)) : zG d 821 53 L (.ref a :: st) h Q = zG d 821 56 L (.int (zI h a 12) :: st) h Q := g_gI rfl hT
theorem g821_56 (hT : (zT h b).1 = 20) (hi : zin i (zT h b).2) : zG d 821 56 L (.int i :: .ref b :: st) h Q = zG d 821 57 L (.int (zI h b i.toNatClampNeg) :: st) h Q := g_ia rfl hT hi
theorem g821_57 : zG d 821 57 L (.int z :: .int x :: st) h Q = zG d 821 58 L (.int (x + z) :: st) h Q := g_b (f := fun x z => x + z) rfl
theorem g821_58 : zG d 821 58 L st h Q = zG d 821 60 L (.int 48 :: st) h Q := g_c rfl
theorem g821_60 : zG d 821 60 L (.int z :: .int x :: st) h Q = zG d 821 61 L (.int (x - z) :: st) h Q := g_b (f := fun x z => x - z) rfl
theorem g821_61 : zG d 821 61 (l0 :: l1 :: L) (.int x :: st) h Q = zG d 821 62 (kl l0 :: some (.int x) :: L) st h Q := g_stI rfl (by simp) rfl
theorem g821_62 : zG d 821 62 (some (.ref a) :: L) st h Q = zG d 821 63 (some (.ref a) :: L) (.ref a :: st) h Q := g_ldA rfl rfl
theorem g821_63 : zG d 821 63 L (.ref a :: st) h Q = zG d 821 64 L (.ref a :: .ref a :: st) h Q := g_dupA rfl
theorem g821_64 (hT : zT h a = (8, 29)) : zG d 821 64 L (.ref a :: st) h Q = zG d 821 67 L (.int (zI h a 12) :: st) h Q := g_gI rfl hT
theorem g821_67 : zG d 821 67 L st h Q = zG d 821 68 L (.int 1 :: st) h Q := g_c rfl
theorem g821_68 : zG d 821 68 L (.int z :: .int x :: st) h Q = zG d 821 69 L (.int (x + z) :: st) h Q := g_b (f := fun x z => x + z) rfl
theorem g821_69 (hT : zT h a = (8, 29)) : zG d 821 69 L (.int x :: .ref a :: st) h Q = zG d 821 72 L st (wI h a 12 x) Q := g_pI rfl hT
theorem g821_72 : zG d 821 72 (l0 :: some (.int x) :: L) st h Q = zG d 821 73 (l0 :: some (.int x) :: L) (.int x :: st) h Q := g_ldI rfl rfl
theorem g821_73 : zG d 821 73 L [.int x] h Q = Q (some (.int x)) h := g_rI (ok := fun _ => True) rfl trivial
theorem k821  : zCall (d + 1) 821 [.ref a] h Q = zG d 821 0 [some (.ref a), none] [] h Q := zCall_k (Nat.le_of_ble_eq_true rfl) rfl
theorem g822_0 : zG d 822 0 L st h Q = zG d 822 1 L (.int (-1) :: st) h Q := g_c rfl
theorem g822_1 : zG d 822 1 (l0 :: l1 :: L) (.int x :: st) h Q = zG d 822 2 (kl l0 :: some (.int x) :: L) st h Q := g_stI rfl (by simp) rfl
theorem g822_2 : zG d 822 2 L st h Q = zG d 822 3 L (.int 0 :: st) h Q := g_c rfl
theorem g822_3 : zG d 822 3 (l0 :: l1 :: l2 :: L) (.int x :: st) h Q = zG d 822 4 (l0 :: kl l1 :: some (.int x) :: L) st h Q := g_stI rfl (by simp) rfl
theorem g822_4 : zG d 822 4 (l0 :: l1 :: some (.int x) :: L) st h Q = zG d 822 5 (l0 :: l1 :: some (.int x) :: L) (.int x :: st) h Q := g_ldI rfl rfl
theorem g822_5 : zG d 822 5 L st h Q = zG d 822 7 L (.int 6 :: st) h Q := g_c rfl
theorem g822_7 : zG d 822 7 L (.int z :: .int x :: st) h Q = if z ≤ x then zG d 822 35 L st h Q else zG d 822 10 L st h Q := g_i2 (P := fun x z => z ≤ x) rfl
theorem g822_10 : zG d 822 10 (some (.ref a) :: L) st h Q = zG d 822 11 (some (.ref a) :: L) (.ref a :: st) h Q := g_ldA rfl rfl
theorem g822_11 : zG d 822 11 (some (.ref a) :: L) st h Q = zG d 822 12 (some (.ref a) :: L) (.ref a :: st) h Q := g_ldA rfl rfl
theorem g822_12 (hT : zT h a = (8, 29)) : zG d 822 12 L (.ref a :: st) h Q = zG d 822 15 L (zR h a 18 :: st) h Q := g_gR rfl hT
theorem g822_15 : zG d 822 15 (l0 :: l1 :: some (.int x) :: L) st h Q = zG d 822 16 (l0 :: l1 :: some (.int x) :: L) (.int x :: st) h Q := g_ldI rfl rfl
theorem g822_16 (hT : (zT h b).1 = 22) (hi : zin i (zT h b).2) : zG d 822 16 L (.int i :: .ref b :: st) h Q = zG d 822 17 L (.int (zI h b i.toNatClampNeg) :: st) h Q := g_ia rfl hT hi
theorem g822_17 (hT : (zT h a).1 = 8) : zG d 822 17 L [v0, .ref a] h Q = zCall d 818 [.ref a, v0] h (fun v h1 => zG d 822 20 L (zpush v []) h1 Q) := g_cV rfl rfl rfl rfl (Nat.le_of_ble_eq_true rfl) hT
theorem g822_20 : zG d 822 20 L (.int x :: st) h Q = if x = 0 then zG d 822 27 L st h Q else zG d 822 23 L st h Q := g_i1 (P := fun x => x = 0) rfl
theorem g822_23 : zG d 822 23 (l0 :: l1 :: some (.int x) :: L) st h Q = zG d 822 24 (l0 :: l1 :: some (.int x) :: L) (.int x :: st) h Q := g_ldI rfl rfl
theorem g822_24 : zG d 822 24 L st h Q = zG d 822 28 L st h Q := g_go rfl
theorem g822_27 : zG d 822 27 (l0 :: some (.int x) :: L) st h Q = zG d 822 28 (l0 :: some (.int x) :: L) (.int x :: st) h Q := g_ldI rfl rfl
theorem g822_28 : zG d 822 28 (l0 :: l1 :: L) (.int x :: st) h Q = zG d 822 29 (kl l0 :: some (.int x) :: L) st h Q := g_stI rfl (by simp) rfl
theorem g822_29 : zG d 822 29 (l0 :: l1 :: some (.int x) :: L) st h Q = zG d 822 32 (l0 :: kl l1 :: some (.int (x + 1)) :: L) st h Q := g_inc rfl rfl rfl
theorem g822_32 : zG d 822 32 L st h Q = zG d 822 4 L st h Q := g_go rfl
theorem g822_35 : zG d 822 35 (l0 :: some (.int x) :: L) st h Q = zG d 822 36 (l0 :: some (.int x) :: L) (.int x :: st) h Q := g_ldI rfl rfl
theorem g822_36 : zG d 822 36 L st h Q = zG d 822 37 L (.int (-1) :: st) h Q := g_c rfl
theorem g822_37 : zG d 822 37 L (.int z :: .int x :: st) h Q = if ¬ x = z then zG d 822 47 L st h Q else zG d 822 40 L st h Q := g_i2 (P := fun x z => ¬ x = z) rfl
theorem g822_40 : zG d 822 40 (some (.ref a) :: L) st h Q = zG d 822 41 (some (.ref a) :: L) (.ref a :: st) h Q := g_ldA rfl rfl
theorem g822_41 : zG d 822 41 L st h Q = zG d 822 42 L (.int 0 :: st) h Q := g_c rfl
theorem g822_42 (hT : zT h a = (8, 29)) (hx : x = 0 ∨ x = 1) : zG d 822 42 L (.int x :: .ref a :: st) h Q = zG d 822 45 L st (wI h a 13 x) Q := g_pZ rfl hT hx
theorem g822_45 : zG d 822 45 L st h Q = zG d 822 46 L (.int 0 :: st) h Q := g_c rfl
theorem g822_46 (hx : x = 0 ∨ x = 1) : zG d 822 46 L [.int x] h Q = Q (some (.int x)) h := g_rI (ok := fun x => x = 0 ∨ x = 1) rfl hx
theorem g822_47 : zG d 822 47 (some (.ref a) :: L) st h Q = zG d 822 48 (some (.ref a) :: L) (.ref a :: st) h Q := g_ldA rfl rfl
theorem g822_48 : zG d 822 48 L (.ref a :: st) h Q = zG d 822 49 L (.ref a :: .ref a :: st) h Q := g_dupA rfl
theorem g822_49 (hT : zT h a = (8, 29)) : zG d 822 49 L (.ref a :: st) h Q = zG d 822 52 L (.int (zI h a 12) :: st) h Q := g_gI rfl hT
theorem g822_52 : zG d 822 52 L st h Q = zG d 822 53 L (.int 1 :: st) h Q := g_c rfl
theorem g822_53 : zG d 822 53 L (.int z :: .int x :: st) h Q = zG d 822 54 L (.int (x + z) :: st) h Q := g_b (f := fun x z => x + z) rfl
theorem g822_54 (hT : zT h a = (8, 29)) : zG d 822 54 L (.int x :: .ref a :: st) h Q = zG d 822 57 L st (wI h a 12 x) Q := g_pI rfl hT
theorem g822_57 : zG d 822 57 (some (.ref a) :: L) st h Q = zG d 822 58 (some (.ref a) :: L) (.ref a :: st) h Q := g_ldA rfl rfl
theorem g822_58 : zG d 822 58 L st h Q = zG d 822 60 L (.int 60 :: st) h Q := g_c rfl
theorem g822_60 (hT : (zT h a).1 = 8) : zG d 822 60 L [v0, .ref a] h Q = zCall d 818 [.ref a, v0] h (fun v h1 => zG d 822 63 L (zpush v []) h1 Q) := g_cV rfl rfl rfl rfl (Nat.le_of_ble_eq_true rfl) hT
theorem g822_63 : zG d 822 63 L (.int x :: st) h Q = if x = 0 then zG d 822 70 L st h Q else zG d 822 66 L st h Q := g_i1 (P := fun x => x = 0) rfl
theorem g822_66 : zG d 822 66 L st h Q = zG d 822 67 L (.int (-1) :: st) h Q := g_c rfl
theorem g822_67 : zG d 822 67 L st h Q = zG d 822 84 L st h Q := g_go rfl
theorem g822_70 : zG d 822 70 (some (.ref a) :: L) st h Q = zG d 822 71 (some (.ref a) :: L) (.ref a :: st) h Q := g_ldA rfl rfl
theorem g822_71 : zG d 822 71 L st h Q = zG d 822 73 L (.int 62 :: st) h Q := g_c rfl
theorem g822_73 (hT : (zT h a).1 = 8) : zG d 822 73 L [v0, .ref a] h Q = zCall d 818 [.ref a, v0] h (fun v h1 => zG d 822 76 L (zpush v []) h1 Q) := g_cV rfl rfl rfl rfl (Nat.le_of_ble_eq_true rfl) hT
theorem g822_76 : zG d 822 76 L (.int x :: st) h Q = if x = 0 then zG d 822 83 L st h Q else zG d 822 79 L st h Q := g_i1 (P := fun x => x = 0) rfl
theorem g822_79 : zG d 822 79 L st h Q = zG d 822 80 L (.int 1 :: st) h Q := g_c rfl
theorem g822_80 : zG d 822 80 L st h Q = zG d 822 84 L st h Q := g_go rfl
theorem g822_83 : zG d 822 83 L st h Q = zG d 822 84 L (.int 0 :: st) h Q := g_c rfl
theorem g822_84 : zG d 822 84 (l0 :: l1 :: l2 :: L) (.int x :: st) h Q = zG d 822 85 (l0 :: kl l1 :: some (.int x) :: L) st h Q := g_stI rfl (by simp) rfl
theorem g822_85 : zG d 822 85 (some (.ref a) :: L) st h Q = zG d 822 86 (some (.ref a) :: L) (.ref a :: st) h Q := g_ldA rfl rfl
theorem g822_86 : zG d 822 86 (l0 :: l1 :: some (.int x) :: L) st h Q = zG d 822 87 (l0 :: l1 :: some (.int x) :: L) (.int x :: st) h Q := g_ldI rfl rfl
theorem g822_87 : zG d 822 87 L (.int x :: st) h Q = if 0 ≤ x then zG d 822 95 L st h Q else zG d 822 90 L st h Q := g_i1 (P := fun x => 0 ≤ x) rfl
theorem g822_90 : zG d 822 90 L st h Q = zG d 822 92 L (.int 60 :: st) h Q := g_c rfl
theorem g822_92 : zG d 822 92 L st h Q = zG d 822 106 L st h Q := g_go rfl
theorem g822_95 : zG d 822 95 (l0 :: l1 :: some (.int x) :: L) st h Q = zG d 822 96 (l0 :: l1 :: some (.int x) :: L) (.int x :: st) h Q := g_ldI rfl rfl
theorem g822_96 : zG d 822 96 L (.int x :: st) h Q = if x ≤ 0 then zG d 822 104 L st h Q else zG d 822 99 L st h Q := g_i1 (P := fun x => x ≤ 0) rfl
theorem g822_99 : zG d 822 99 L st h Q = zG d 822 101 L (.int 62 :: st) h Q := g_c rfl
theorem g822_101 : zG d 822 101 L st h Q = zG d 822 106 L st h Q := g_go rfl
theorem g822_104 : zG d 822 104 L st h Q = zG d 822 106 L (.int 61 :: st) h Q := g_c rfl
theorem g822_106 (hT : (zT h a).1 = 8) : zG d 822 106 L [v0, .ref a] h Q = zCall d 819 [.ref a, v0] h (fun v h1 => zG d 822 109 L (zpush v []) h1 Q) := g_cV rfl rfl rfl rfl (Nat.le_of_ble_eq_true rfl) hT
theorem g822_109 : zG d 822 109 (some (.ref a) :: L) st h Q = zG d 822 110 (some (.ref a) :: L) (.ref a :: st) h Q := g_ldA rfl rfl
theorem g822_110 (hT : (zT h a).1 = 8) : zG d 822 110 L [.ref a] h Q = zCall d 821 [.ref a] h (fun v h1 => zG d 822 113 L (zpush v []) h1 Q) := g_cV rfl rfl rfl rfl (Nat.le_of_ble_eq_true rfl) hT
theorem g822_113 : zG d 822 113 (l0 :: l1 :: l2 :: l3 :: L) (.int x :: st) h Q = zG d 822 114 (l0 :: l1 :: kl l2 :: some (.int x) :: L) st h Q := g_stI rfl (by simp) rfl
theorem g822_114 : zG d 822 114 (l0 :: l1 :: some (.int x) :: L) st h Q = zG d 822 115 (l0 :: l1 :: some (.int x) :: L) (.int x :: st) h Q := g_ldI rfl rfl
theorem g822_115 : zG d 822 115 L (.int x :: st) h Q = if 0 ≤ x then zG d 822 136 L st h Q else zG d 822 118 L st h Q := g_i1 (P := fun x => 0 ≤ x) rfl
theorem g822_118 : zG d 822 118 (some (.ref a) :: L) st h Q = zG d 822 119 (some (.ref a) :: L) (.ref a :: st) h Q := g_ldA rfl rfl
theorem g822_119 (hT : zT h a = (8, 29)) : zG d 822 119 L (.ref a :: st) h Q = zG d 822 122 L (zR h a 17 :: st) h Q := g_gR rfl hT
theorem g822_122 : zG d 822 122 (l0 :: some (.int x) :: L) st h Q = zG d 822 123 (l0 :: some (.int x) :: L) (.int x :: st) h Q := g_ldI rfl rfl
theorem g822_123 (hT : (zT h b).1 = 20) (hi : zin i (zT h b).2) : zG d 822 123 L (.int i :: .ref b :: st) h Q = zG d 822 124 L (.int (zI h b i.toNatClampNeg) :: st) h Q := g_ia rfl hT hi
theorem g822_124 : zG d 822 124 (l0 :: l1 :: l2 :: some (.int x) :: L) st h Q = zG d 822 125 (l0 :: l1 :: l2 :: some (.int x) :: L) (.int x :: st) h Q := g_ldI rfl rfl
theorem g822_125 : zG d 822 125 L (.int z :: .int x :: st) h Q = if z ≤ x then zG d 822 132 L st h Q else zG d 822 128 L st h Q := g_i2 (P := fun x z => z ≤ x) rfl
theorem g822_128 : zG d 822 128 L st h Q = zG d 822 129 L (.int 1 :: st) h Q := g_c rfl
theorem g822_129 : zG d 822 129 L st h Q = zG d 822 173 L st h Q := g_go rfl
theorem g822_132 : zG d 822 132 L st h Q = zG d 822 133 L (.int 0 :: st) h Q := g_c rfl
theorem g822_133 : zG d 822 133 L st h Q = zG d 822 173 L st h Q := g_go rfl
theorem g822_136 : zG d 822 136 (l0 :: l1 :: some (.int x) :: L) st h Q = zG d 822 137 (l0 :: l1 :: some (.int x) :: L) (.int x :: st) h Q := g_ldI rfl rfl
theorem g822_137 : zG d 822 137 L (.int x :: st) h Q = if x ≤ 0 then zG d 822 158 L st h Q else zG d 822 140 L st h Q := g_i1 (P := fun x => x ≤ 0) rfl
theorem g822_140 : zG d 822 140 (some (.ref a) :: L) st h Q = zG d 822 141 (some (.ref a) :: L) (.ref a :: st) h Q := g_ldA rfl rfl
theorem g822_141 (hT : zT h a = (8, 29)) : zG d 822 141 L (.ref a :: st) h Q = zG d 822 144 L (zR h a 17 :: st) h Q := g_gR rfl hT
theorem g822_144 : zG d 822 144 (l0 :: some (.int x) :: L) st h Q = zG d 822 145 (l0 :: some (.int x) :: L) (.int x :: st) h Q := g_ldI rfl rfl
theorem g822_145 (hT : (zT h b).1 = 20) (hi : zin i (zT h b).2) : zG d 822 145 L (.int i :: .ref b :: st) h Q = zG d 822 146 L (.int (zI h b i.toNatClampNeg) :: st) h Q := g_ia rfl hT hi
theorem g822_146 : zG d 822 146 (l0 :: l1 :: l2 :: some (.int x) :: L) st h Q = zG d 822 147 (l0 :: l1 :: l2 :: some (.int x) :: L) (.int x :: st) h Q := g_ldI rfl rfl
theorem g822_147 : zG d 822 147 L (.int z :: .int x :: st) h Q = if x ≤ z then zG d 822 154 L st h Q else zG d 822 150 L st h Q := g_i2 (P := fun x z => x ≤ z) rfl
theorem g822_150 : zG d 822 150 L st h Q = zG d 822 151 L (.int 1 :: st) h Q := g_c rfl
theorem g822_151 : zG d 822 151 L st h Q = zG d 822 173 L st h Q := g_go rfl
theorem g822_154 : zG d 822 154 L st h Q = zG d 822 155 L (.int 0 :: st) h Q := g_c rfl
theorem g822_155 : zG d 822 155 L st h Q = zG d 822 173 L st h Q := g_go rfl
theorem g822_158 : zG d 822 158 (some (.ref a) :: L) st h Q = zG d 822 159 (some (.ref a) :: L) (.ref a :: st) h Q := g_ldA rfl rfl
theorem g822_159 (hT : zT h a = (8, 29)) : zG d 822 159 L (.ref a :: st) h Q = zG d 822 162 L (zR h a 17 :: st) h Q := g_gR rfl hT
theorem g822_162 : zG d 822 162 (l0 :: some (.int x) :: L) st h Q = zG d 822 163 (l0 :: some (.int x) :: L) (.int x :: st) h Q := g_ldI rfl rfl
theorem g822_163 (hT : (zT h b).1 = 20) (hi : zin i (zT h b).2) : zG d 822 163 L (.int i :: .ref b :: st) h Q = zG d 822 164 L (.int (zI h b i.toNatClampNeg) :: st) h Q := g_ia rfl hT hi
theorem g822_164 : zG d 822 164 (l0 :: l1 :: l2 :: some (.int x) :: L) st h Q = zG d 822 165 (l0 :: l1 :: l2 :: some (.int x) :: L) (.int x :: st) h Q := g_ldI rfl rfl
theorem g822_165 : zG d 822 165 L (.int z :: .int x :: st) h Q = if ¬ x = z then zG d 822 172 L st h Q else zG d 822 168 L st h Q := g_i2 (P := fun x z => ¬ x = z) rfl
theorem g822_168 : zG d 822 168 L st h Q = zG d 822 169 L (.int 1 :: st) h Q := g_c rfl
theorem g822_169 : zG d 822 169 L st h Q = zG d 822 173 L st h Q := g_go rfl
theorem g822_172 : zG d 822 172 L st h Q = zG d 822 173 L (.int 0 :: st) h Q := g_c rfl
theorem g822_173 (hx : x = 0 ∨ x = 1) : zG d 822 173 L [.int x] h Q = Q (some (.int x)) h := g_rI (ok := fun x => x = 0 ∨ x = 1) rfl hx
theorem k822  : zCall (d + 1) 822 [.ref a] h Q = zG d 822 0 [some (.ref a), none, none, none] [] h Q := zCall_k (Nat.le_of_ble_eq_true rfl) rfl
theorem g823_0 : zG d 823 0 (some (.ref a) :: L) st h Q = zG d 823 1 (some (.ref a) :: L) (.ref a :: st) h Q := g_ldA rfl rfl
theorem g823_1 (hT : zT h a = (8, 29)) : zG d 823 1 L (.ref a :: st) h Q = zG d 823 4 L (.int (zI h a 14) :: st) h Q := g_gI rfl hT
theorem g823_4 : zG d 823 4 L st h Q = zG d 823 5 L (.int 4 :: st) h Q := g_c rfl
theorem g823_5 : zG d 823 5 L (.int z :: .int x :: st) h Q = if z ≤ x then zG d 823 63 L st h Q else zG d 823 8 L st h Q := g_i2 (P := fun x z => z ≤ x) rfl
theorem g823_8 : zG d 823 8 (some (.ref a) :: L) st h Q = zG d 823 9 (some (.ref a) :: L) (.ref a :: st) h Q := g_ldA rfl rfl
theorem g823_9 : zG d 823 9 L st h Q = zG d 823 11 L (.int 33 :: st) h Q := g_c rfl
theorem g823_11 (hT : (zT h a).1 = 8) : zG d 823 11 L [v0, .ref a] h Q = zCall d 818 [.ref a, v0] h (fun v h1 => zG d 823 14 L (zpush v []) h1 Q) := g_cV rfl rfl rfl rfl (Nat.le_of_ble_eq_true rfl) hT
theorem g823_14 : zG d 823 14 L (.int x :: st) h Q = if x = 0 then zG d 823 63 L st h Q else zG d 823 17 L st h Q := g_i1 (P := fun x => x = 0) rfl
theorem g823_17 : zG d 823 17 (some (.ref a) :: L) st h Q = zG d 823 18 (some (.ref a) :: L) (.ref a :: st) h Q := g_ldA rfl rfl
theorem g823_18 : zG d 823 18 L (.ref a :: st) h Q = zG d 823 19 L (.ref a :: .ref a :: st) h Q := g_dupA rfl
theorem g823_19 (hT : zT h a = (8, 29)) : zG d 823 19 L (.ref a :: st) h Q = zG d 823 22 L (.int (zI h a 12) :: st) h Q := g_gI rfl hT
theorem g823_22 : zG d 823 22 L st h Q = zG d 823 23 L (.int 1 :: st) h Q := g_c rfl
theorem g823_23 : zG d 823 23 L (.int z :: .int x :: st) h Q = zG d 823 24 L (.int (x + z) :: st) h Q := g_b (f := fun x z => x + z) rfl
theorem g823_24 (hT : zT h a = (8, 29)) : zG d 823 24 L (.int x :: .ref a :: st) h Q = zG d 823 27 L st (wI h a 12 x) Q := g_pI rfl hT
theorem g823_27 : zG d 823 27 (some (.ref a) :: L) st h Q = zG d 823 28 (some (.ref a) :: L) (.ref a :: st) h Q := g_ldA rfl rfl
theorem g823_28 : zG d 823 28 L (.ref a :: st) h Q = zG d 823 29 L (.ref a :: .ref a :: st) h Q := g_dupA rfl
theorem g823_29 (hT : zT h a = (8, 29)) : zG d 823 29 L (.ref a :: st) h Q = zG d 823 32 L (.int (zI h a 14) :: st) h Q := g_gI rfl hT
theorem g823_32 : zG d 823 32 L st h Q = zG d 823 33 L (.int 1 :: st) h Q := g_c rfl
theorem g823_33 : zG d 823 33 L (.int z :: .int x :: st) h Q = zG d 823 34 L (.int (x + z) :: st) h Q := g_b (f := fun x z => x + z) rfl
theorem g823_34 (hT : zT h a = (8, 29)) : zG d 823 34 L (.int x :: .ref a :: st) h Q = zG d 823 37 L st (wI h a 14 x) Q := g_pI rfl hT
theorem g823_37 : zG d 823 37 (some (.ref a) :: L) st h Q = zG d 823 38 (some (.ref a) :: L) (.ref a :: st) h Q := g_ldA rfl rfl
theorem g823_38 (hT : (zT h a).1 = 8) : zG d 823 38 L [.ref a] h Q = zCall d 823 [.ref a] h (fun v h1 => zG d 823 41 L (zpush v []) h1 Q) := g_cV rfl rfl rfl rfl (Nat.le_of_ble_eq_true rfl) hT
theorem g823_41 : zG d 823 41 L (.int x :: st) h Q = if ¬ x = 0 then zG d 823 48 L st h Q else zG d 823 44 L st h Q := g_i1 (P := fun x => ¬ x = 0) rfl
theorem g823_44 : zG d 823 44 L st h Q = zG d 823 45 L (.int 1 :: st) h Q := g_c rfl
theorem g823_45 : zG d 823 45 L st h Q = zG d 823 49 L st h Q := g_go rfl
theorem g823_48 : zG d 823 48 L st h Q = zG d 823 49 L (.int 0 :: st) h Q := g_c rfl
theorem g823_49 : zG d 823 49 (l0 :: l1 :: L) (.int x :: st) h Q = zG d 823 50 (kl l0 :: some (.int x) :: L) st h Q := g_stI rfl (by simp) rfl
theorem g823_50 : zG d 823 50 (some (.ref a) :: L) st h Q = zG d 823 51 (some (.ref a) :: L) (.ref a :: st) h Q := g_ldA rfl rfl
theorem g823_51 : zG d 823 51 L (.ref a :: st) h Q = zG d 823 52 L (.ref a :: .ref a :: st) h Q := g_dupA rfl
theorem g823_52 (hT : zT h a = (8, 29)) : zG d 823 52 L (.ref a :: st) h Q = zG d 823 55 L (.int (zI h a 14) :: st) h Q := g_gI rfl hT
theorem g823_55 : zG d 823 55 L st h Q = zG d 823 56 L (.int 1 :: st) h Q := g_c rfl
theorem g823_56 : zG d 823 56 L (.int z :: .int x :: st) h Q = zG d 823 57 L (.int (x - z) :: st) h Q := g_b (f := fun x z => x - z) rfl
theorem g823_57 (hT : zT h a = (8, 29)) : zG d 823 57 L (.int x :: .ref a :: st) h Q = zG d 823 60 L st (wI h a 14 x) Q := g_pI rfl hT
theorem g823_60 : zG d 823 60 L st h Q = zG d 823 129 L st h Q := g_go rfl
theorem g823_63 : zG d 823 63 (some (.ref a) :: L) st h Q = zG d 823 64 (some (.ref a) :: L) (.ref a :: st) h Q := g_ldA rfl rfl
theorem g823_64 (hT : zT h a = (8, 29)) : zG d 823 64 L (.ref a :: st) h Q = zG d 823 67 L (.int (zI h a 14) :: st) h Q := g_gI rfl hT
theorem g823_67 : zG d 823 67 L st h Q = zG d 823 68 L (.int 4 :: st) h Q := g_c rfl
theorem g823_68 : zG d 823 68 L (.int z :: .int x :: st) h Q = if z ≤ x then zG d 823 124 L st h Q else zG d 823 71 L st h Q := g_i2 (P := fun x z => z ≤ x) rfl
theorem g823_71 : zG d 823 71 (some (.ref a) :: L) st h Q = zG d 823 72 (some (.ref a) :: L) (.ref a :: st) h Q := g_ldA rfl rfl
theorem g823_72 : zG d 823 72 L st h Q = zG d 823 74 L (.int 40 :: st) h Q := g_c rfl
theorem g823_74 (hT : (zT h a).1 = 8) : zG d 823 74 L [v0, .ref a] h Q = zCall d 818 [.ref a, v0] h (fun v h1 => zG d 823 77 L (zpush v []) h1 Q) := g_cV rfl rfl rfl rfl (Nat.le_of_ble_eq_true rfl) hT
theorem g823_77 : zG d 823 77 L (.int x :: st) h Q = if x = 0 then zG d 823 124 L st h Q else zG d 823 80 L st h Q := g_i1 (P := fun x => x = 0) rfl
theorem g823_80 : zG d 823 80 (some (.ref a) :: L) st h Q = zG d 823 81 (some (.ref a) :: L) (.ref a :: st) h Q := g_ldA rfl rfl
theorem g823_81 : zG d 823 81 L (.ref a :: st) h Q = zG d 823 82 L (.ref a :: .ref a :: st) h Q := g_dupA rfl
theorem g823_82 (hT : zT h a = (8, 29)) : zG d 823 82 L (.ref a :: st) h Q = zG d 823 85 L (.int (zI h a 12) :: st) h Q := g_gI rfl hT
theorem g823_85 : zG d 823 85 L st h Q = zG d 823 86 L (.int 1 :: st) h Q := g_c rfl
theorem g823_86 : zG d 823 86 L (.int z :: .int x :: st) h Q = zG d 823 87 L (.int (x + z) :: st) h Q := g_b (f := fun x z => x + z) rfl
theorem g823_87 (hT : zT h a = (8, 29)) : zG d 823 87 L (.int x :: .ref a :: st) h Q = zG d 823 90 L st (wI h a 12 x) Q := g_pI rfl hT
theorem g823_90 : zG d 823 90 (some (.ref a) :: L) st h Q = zG d 823 91 (some (.ref a) :: L) (.ref a :: st) h Q := g_ldA rfl rfl
theorem g823_91 : zG d 823 91 L (.ref a :: st) h Q = zG d 823 92 L (.ref a :: .ref a :: st) h Q := g_dupA rfl
theorem g823_92 (hT : zT h a = (8, 29)) : zG d 823 92 L (.ref a :: st) h Q = zG d 823 95 L (.int (zI h a 14) :: st) h Q := g_gI rfl hT
theorem g823_95 : zG d 823 95 L st h Q = zG d 823 96 L (.int 1 :: st) h Q := g_c rfl
theorem g823_96 : zG d 823 96 L (.int z :: .int x :: st) h Q = zG d 823 97 L (.int (x + z) :: st) h Q := g_b (f := fun x z => x + z) rfl
theorem g823_97 (hT : zT h a = (8, 29)) : zG d 823 97 L (.int x :: .ref a :: st) h Q = zG d 823 100 L st (wI h a 14 x) Q := g_pI rfl hT
theorem g823_100 : zG d 823 100 (some (.ref a) :: L) st h Q = zG d 823 101 (some (.ref a) :: L) (.ref a :: st) h Q := g_ldA rfl rfl
theorem g823_101 (hT : (zT h a).1 = 8) : zG d 823 101 L [.ref a] h Q = zCall d 825 [.ref a] h (fun v h1 => zG d 823 104 L (zpush v []) h1 Q) := g_cV rfl rfl rfl rfl (Nat.le_of_ble_eq_true rfl) hT
theorem g823_104 : zG d 823 104 (l0 :: l1 :: L) (.int x :: st) h Q = zG d 823 105 (kl l0 :: some (.int x) :: L) st h Q := g_stI rfl (by simp) rfl
theorem g823_105 : zG d 823 105 (some (.ref a) :: L) st h Q = zG d 823 106 (some (.ref a) :: L) (.ref a :: st) h Q := g_ldA rfl rfl
theorem g823_106 : zG d 823 106 L (.ref a :: st) h Q = zG d 823 107 L (.ref a :: .ref a :: st) h Q := g_dupA rfl
theorem g823_107 (hT : zT h a = (8, 29)) : zG d 823 107 L (.ref a :: st) h Q = zG d 823 110 L (.int (zI h a 14) :: st) h Q := g_gI rfl hT
theorem g823_110 : zG d 823 110 L st h Q = zG d 823 111 L (.int 1 :: st) h Q := g_c rfl
theorem g823_111 : zG d 823 111 L (.int z :: .int x :: st) h Q = zG d 823 112 L (.int (x - z) :: st) h Q := g_b (f := fun x z => x - z) rfl
theorem g823_112 (hT : zT h a = (8, 29)) : zG d 823 112 L (.int x :: .ref a :: st) h Q = zG d 823 115 L st (wI h a 14 x) Q := g_pI rfl hT
theorem g823_115 : zG d 823 115 (some (.ref a) :: L) st h Q = zG d 823 116 (some (.ref a) :: L) (.ref a :: st) h Q := g_ldA rfl rfl
theorem g823_116 : zG d 823 116 L st h Q = zG d 823 118 L (.int 41 :: st) h Q := g_c rfl
theorem g823_118 (hT : (zT h a).1 = 8) : zG d 823 118 L [v0, .ref a] h Q = zCall d 819 [.ref a, v0] h (fun v h1 => zG d 823 121 L (zpush v []) h1 Q) := g_cV rfl rfl rfl rfl (Nat.le_of_ble_eq_true rfl) hT
theorem g823_121 : zG d 823 121 L st h Q = zG d 823 129 L st h Q := g_go rfl
theorem g823_124 : zG d 823 124 (some (.ref a) :: L) st h Q = zG d 823 125 (some (.ref a) :: L) (.ref a :: st) h Q := g_ldA rfl rfl
theorem g823_125 (hT : (zT h a).1 = 8) : zG d 823 125 L [.ref a] h Q = zCall d 822 [.ref a] h (fun v h1 => zG d 823 128 L (zpush v []) h1 Q) := g_cV rfl rfl rfl rfl (Nat.le_of_ble_eq_true rfl) hT
theorem g823_128 : zG d 823 128 (l0 :: l1 :: L) (.int x :: st) h Q = zG d 823 129 (kl l0 :: some (.int x) :: L) st h Q := g_stI rfl (by simp) rfl
theorem g823_129 : zG d 823 129 (l0 :: some (.int x) :: L) st h Q = zG d 823 130 (l0 :: some (.int x) :: L) (.int x :: st) h Q := g_ldI rfl rfl
theorem g823_130 (hx : x = 0 ∨ x = 1) : zG d 823 130 L [.int x] h Q = Q (some (.int x)) h := g_rI (ok := fun x => x = 0 ∨ x = 1) rfl hx
theorem k823  : zCall (d + 1) 823 [.ref a] h Q = zG d 823 0 [some (.ref a), none] [] h Q := zCall_k (Nat.le_of_ble_eq_true rfl) rfl
theorem g824_0 : zG d 824 0 (some (.ref a) :: L) st h Q = zG d 824 1 (some (.ref a) :: L) (.ref a :: st) h Q := g_ldA rfl rfl
theorem g824_1 (hT : (zT h a).1 = 8) : zG d 824 1 L [.ref a] h Q = zCall d 823 [.ref a] h (fun v h1 => zG d 824 4 L (zpush v []) h1 Q) := g_cV rfl rfl rfl rfl (Nat.le_of_ble_eq_true rfl) hT
theorem g824_4 : zG d 824 4 (l0 :: l1 :: L) (.int x :: st) h Q = zG d 824 5 (kl l0 :: some (.int x) :: L) st h Q := g_stI rfl (by simp) rfl
theorem g824_5 : zG d 824 5 (some (.ref a) :: L) st h Q = zG d 824 6 (some (.ref a) :: L) (.ref a :: st) h Q := g_ldA rfl rfl
theorem g824_6 : zG d 824 6 L st h Q = zG d 824 8 L (.int 38 :: st) h Q := g_c rfl
theorem g824_8 (hT : (zT h a).1 = 8) : zG d 824 8 L [v0, .ref a] h Q = zCall d 818 [.ref a, v0] h (fun v h1 => zG d 824 11 L (zpush v []) h1 Q) := g_cV rfl rfl rfl rfl (Nat.le_of_ble_eq_true rfl) hT
theorem g824_11 : zG d 824 11 L (.int x :: st) h Q = if x = 0 then zG d 824 46 L st h Q else zG d 824 14 L st h Q := g_i1 (P := fun x => x = 0) rfl
theorem g824_14 : zG d 824 14 (some (.ref a) :: L) st h Q = zG d 824 15 (some (.ref a) :: L) (.ref a :: st) h Q := g_ldA rfl rfl
theorem g824_15 : zG d 824 15 L (.ref a :: st) h Q = zG d 824 16 L (.ref a :: .ref a :: st) h Q := g_dupA rfl
theorem g824_16 (hT : zT h a = (8, 29)) : zG d 824 16 L (.ref a :: st) h Q = zG d 824 19 L (.int (zI h a 12) :: st) h Q := g_gI rfl hT
theorem g824_19 : zG d 824 19 L st h Q = zG d 824 20 L (.int 1 :: st) h Q := g_c rfl
theorem g824_20 : zG d 824 20 L (.int z :: .int x :: st) h Q = zG d 824 21 L (.int (x + z) :: st) h Q := g_b (f := fun x z => x + z) rfl
theorem g824_21 (hT : zT h a = (8, 29)) : zG d 824 21 L (.int x :: .ref a :: st) h Q = zG d 824 24 L st (wI h a 12 x) Q := g_pI rfl hT
theorem g824_24 : zG d 824 24 (some (.ref a) :: L) st h Q = zG d 824 25 (some (.ref a) :: L) (.ref a :: st) h Q := g_ldA rfl rfl
theorem g824_25 (hT : (zT h a).1 = 8) : zG d 824 25 L [.ref a] h Q = zCall d 823 [.ref a] h (fun v h1 => zG d 824 28 L (zpush v []) h1 Q) := g_cV rfl rfl rfl rfl (Nat.le_of_ble_eq_true rfl) hT
theorem g824_28 : zG d 824 28 (l0 :: l1 :: l2 :: L) (.int x :: st) h Q = zG d 824 29 (l0 :: kl l1 :: some (.int x) :: L) st h Q := g_stI rfl (by simp) rfl
theorem g824_29 : zG d 824 29 (l0 :: some (.int x) :: L) st h Q = zG d 824 30 (l0 :: some (.int x) :: L) (.int x :: st) h Q := g_ldI rfl rfl
theorem g824_30 : zG d 824 30 L (.int x :: st) h Q = if x = 0 then zG d 824 41 L st h Q else zG d 824 33 L st h Q := g_i1 (P := fun x => x = 0) rfl
theorem g824_33 : zG d 824 33 (l0 :: l1 :: some (.int x) :: L) st h Q = zG d 824 34 (l0 :: l1 :: some (.int x) :: L) (.int x :: st) h Q := g_ldI rfl rfl
theorem g824_34 : zG d 824 34 L (.int x :: st) h Q = if x = 0 then zG d 824 41 L st h Q else zG d 824 37 L st h Q := g_i1 (P := fun x => x = 0) rfl
theorem g824_37 : zG d 824 37 L st h Q = zG d 824 38 L (.int 1 :: st) h Q := g_c rfl
theorem g824_38 : zG d 824 38 L st h Q = zG d 824 42 L st h Q := g_go rfl
theorem g824_41 : zG d 824 41 L st h Q = zG d 824 42 L (.int 0 :: st) h Q := g_c rfl
theorem g824_42 : zG d 824 42 (l0 :: l1 :: L) (.int x :: st) h Q = zG d 824 43 (kl l0 :: some (.int x) :: L) st h Q := g_stI rfl (by simp) rfl
theorem g824_43 : zG d 824 43 L st h Q = zG d 824 5 L st h Q := g_go rfl
theorem g824_46 : zG d 824 46 (l0 :: some (.int x) :: L) st h Q = zG d 824 47 (l0 :: some (.int x) :: L) (.int x :: st) h Q := g_ldI rfl rfl
theorem g824_47 (hx : x = 0 ∨ x = 1) : zG d 824 47 L [.int x] h Q = Q (some (.int x)) h := g_rI (ok := fun x => x = 0 ∨ x = 1) rfl hx
theorem k824  : zCall (d + 1) 824 [.ref a] h Q = zG d 824 0 [some (.ref a), none, none] [] h Q := zCall_k (Nat.le_of_ble_eq_true rfl) rfl
theorem g825_0 : zG d 825 0 (some (.ref a) :: L) st h Q = zG d 825 1 (some (.ref a) :: L) (.ref a :: st) h Q := g_ldA rfl rfl
theorem g825_1 (hT : (zT h a).1 = 8) : zG d 825 1 L [.ref a] h Q = zCall d 824 [.ref a] h (fun v h1 => zG d 825 4 L (zpush v []) h1 Q) := g_cV rfl rfl rfl rfl (Nat.le_of_ble_eq_true rfl) hT
theorem g825_4 : zG d 825 4 (l0 :: l1 :: L) (.int x :: st) h Q = zG d 825 5 (kl l0 :: some (.int x) :: L) st h Q := g_stI rfl (by simp) rfl
theorem g825_5 : zG d 825 5 (some (.ref a) :: L) st h Q = zG d 825 6 (some (.ref a) :: L) (.ref a :: st) h Q := g_ldA rfl rfl
theorem g825_6 : zG d 825 6 L st h Q = zG d 825 8 L (.int 124 :: st) h Q := g_c rfl
theorem g825_8 (hT : (zT h a).1 = 8) : zG d 825 8 L [v0, .ref a] h Q = zCall d 818 [.ref a, v0] h (fun v h1 => zG d 825 11 L (zpush v []) h1 Q) := g_cV rfl rfl rfl rfl (Nat.le_of_ble_eq_true rfl) hT
theorem g825_11 : zG d 825 11 L (.int x :: st) h Q = if x = 0 then zG d 825 46 L st h Q else zG d 825 14 L st h Q := g_i1 (P := fun x => x = 0) rfl
theorem g825_14 : zG d 825 14 (some (.ref a) :: L) st h Q = zG d 825 15 (some (.ref a) :: L) (.ref a :: st) h Q := g_ldA rfl rfl
theorem g825_15 : zG d 825 15 L (.ref a :: st) h Q = zG d 825 16 L (.ref a :: .ref a :: st) h Q := g_dupA rfl
theorem g825_16 (hT : zT h a = (8, 29)) : zG d 825 16 L (.ref a :: st) h Q = zG d 825 19 L (.int (zI h a 12) :: st) h Q := g_gI rfl hT
theorem g825_19 : zG d 825 19 L st h Q = zG d 825 20 L (.int 1 :: st) h Q := g_c rfl
theorem g825_20 : zG d 825 20 L (.int z :: .int x :: st) h Q = zG d 825 21 L (.int (x + z) :: st) h Q := g_b (f := fun x z => x + z) rfl
theorem g825_21 (hT : zT h a = (8, 29)) : zG d 825 21 L (.int x :: .ref a :: st) h Q = zG d 825 24 L st (wI h a 12 x) Q := g_pI rfl hT
theorem g825_24 : zG d 825 24 (some (.ref a) :: L) st h Q = zG d 825 25 (some (.ref a) :: L) (.ref a :: st) h Q := g_ldA rfl rfl
theorem g825_25 (hT : (zT h a).1 = 8) : zG d 825 25 L [.ref a] h Q = zCall d 824 [.ref a] h (fun v h1 => zG d 825 28 L (zpush v []) h1 Q) := g_cV rfl rfl rfl rfl (Nat.le_of_ble_eq_true rfl) hT
theorem g825_28 : zG d 825 28 (l0 :: l1 :: l2 :: L) (.int x :: st) h Q = zG d 825 29 (l0 :: kl l1 :: some (.int x) :: L) st h Q := g_stI rfl (by simp) rfl
theorem g825_29 : zG d 825 29 (l0 :: some (.int x) :: L) st h Q = zG d 825 30 (l0 :: some (.int x) :: L) (.int x :: st) h Q := g_ldI rfl rfl
theorem g825_30 : zG d 825 30 L (.int x :: st) h Q = if ¬ x = 0 then zG d 825 37 L st h Q else zG d 825 33 L st h Q := g_i1 (P := fun x => ¬ x = 0) rfl
theorem g825_33 : zG d 825 33 (l0 :: l1 :: some (.int x) :: L) st h Q = zG d 825 34 (l0 :: l1 :: some (.int x) :: L) (.int x :: st) h Q := g_ldI rfl rfl
theorem g825_34 : zG d 825 34 L (.int x :: st) h Q = if x = 0 then zG d 825 41 L st h Q else zG d 825 37 L st h Q := g_i1 (P := fun x => x = 0) rfl
theorem g825_37 : zG d 825 37 L st h Q = zG d 825 38 L (.int 1 :: st) h Q := g_c rfl
theorem g825_38 : zG d 825 38 L st h Q = zG d 825 42 L st h Q := g_go rfl
theorem g825_41 : zG d 825 41 L st h Q = zG d 825 42 L (.int 0 :: st) h Q := g_c rfl
theorem g825_42 : zG d 825 42 (l0 :: l1 :: L) (.int x :: st) h Q = zG d 825 43 (kl l0 :: some (.int x) :: L) st h Q := g_stI rfl (by simp) rfl
theorem g825_43 : zG d 825 43 L st h Q = zG d 825 5 L st h Q := g_go rfl
theorem g825_46 : zG d 825 46 (l0 :: some (.int x) :: L) st h Q = zG d 825 47 (l0 :: some (.int x) :: L) (.int x :: st) h Q := g_ldI rfl rfl
theorem g825_47 (hx : x = 0 ∨ x = 1) : zG d 825 47 L [.int x] h Q = Q (some (.int x)) h := g_rI (ok := fun x => x = 0 ∨ x = 1) rfl hx
theorem k825  : zCall (d + 1) 825 [.ref a] h Q = zG d 825 0 [some (.ref a), none, none] [] h Q := zCall_k (Nat.le_of_ble_eq_true rfl) rfl
theorem g826_0 : zG d 826 0 L st h Q = zG d 826 1 L (.int (-1) :: st) h Q := g_c rfl
theorem g826_1 : zG d 826 1 (l0 :: l1 :: L) (.int x :: st) h Q = zG d 826 2 (kl l0 :: some (.int x) :: L) st h Q := g_stI rfl (by simp) rfl
theorem g826_2 : zG d 826 2 L st h Q = zG d 826 3 L (.int 0 :: st) h Q := g_c rfl
theorem g826_3 : zG d 826 3 (l0 :: l1 :: l2 :: L) (.int x :: st) h Q = zG d 826 4 (l0 :: kl l1 :: some (.int x) :: L) st h Q := g_stI rfl (by simp) rfl
theorem g826_4 : zG d 826 4 (l0 :: l1 :: some (.int x) :: L) st h Q = zG d 826 5 (l0 :: l1 :: some (.int x) :: L) (.int x :: st) h Q := g_ldI rfl rfl
theorem g826_5 : zG d 826 5 L st h Q = zG d 826 6 L (.int 3 :: st) h Q := g_c rfl
theorem g826_6 : zG d 826 6 L (.int z :: .int x :: st) h Q = if z ≤ x then zG d 826 34 L st h Q else zG d 826 9 L st h Q := g_i2 (P := fun x z => z ≤ x) rfl
theorem g826_9 : zG d 826 9 (some (.ref a) :: L) st h Q = zG d 826 10 (some (.ref a) :: L) (.ref a :: st) h Q := g_ldA rfl rfl
theorem g826_10 : zG d 826 10 (some (.ref a) :: L) st h Q = zG d 826 11 (some (.ref a) :: L) (.ref a :: st) h Q := g_ldA rfl rfl
theorem g826_11 (hT : zT h a = (8, 29)) : zG d 826 11 L (.ref a :: st) h Q = zG d 826 14 L (zR h a 19 :: st) h Q := g_gR rfl hT
theorem g826_14 : zG d 826 14 (l0 :: l1 :: some (.int x) :: L) st h Q = zG d 826 15 (l0 :: l1 :: some (.int x) :: L) (.int x :: st) h Q := g_ldI rfl rfl
theorem g826_15 (hT : (zT h b).1 = 22) (hi : zin i (zT h b).2) : zG d 826 15 L (.int i :: .ref b :: st) h Q = zG d 826 16 L (.int (zI h b i.toNatClampNeg) :: st) h Q := g_ia rfl hT hi
theorem g826_16 (hT : (zT h a).1 = 8) : zG d 826 16 L [v0, .ref a] h Q = zCall d 818 [.ref a, v0] h (fun v h1 => zG d 826 19 L (zpush v []) h1 Q) := g_cV rfl rfl rfl rfl (Nat.le_of_ble_eq_true rfl) hT
theorem g826_19 : zG d 826 19 L (.int x :: st) h Q = if x = 0 then zG d 826 26 L st h Q else zG d 826 22 L st h Q := g_i1 (P := fun x => x = 0) rfl
theorem g826_22 : zG d 826 22 (l0 :: l1 :: some (.int x) :: L) st h Q = zG d 826 23 (l0 :: l1 :: some (.int x) :: L) (.int x :: st) h Q := g_ldI rfl rfl
theorem g826_23 : zG d 826 23 L st h Q = zG d 826 27 L st h Q := g_go rfl
theorem g826_26 : zG d 826 26 (l0 :: some (.int x) :: L) st h Q = zG d 826 27 (l0 :: some (.int x) :: L) (.int x :: st) h Q := g_ldI rfl rfl
theorem g826_27 : zG d 826 27 (l0 :: l1 :: L) (.int x :: st) h Q = zG d 826 28 (kl l0 :: some (.int x) :: L) st h Q := g_stI rfl (by simp) rfl
theorem g826_28 : zG d 826 28 (l0 :: l1 :: some (.int x) :: L) st h Q = zG d 826 31 (l0 :: kl l1 :: some (.int (x + 1)) :: L) st h Q := g_inc rfl rfl rfl
theorem g826_31 : zG d 826 31 L st h Q = zG d 826 4 L st h Q := g_go rfl
theorem g826_34 : zG d 826 34 (l0 :: some (.int x) :: L) st h Q = zG d 826 35 (l0 :: some (.int x) :: L) (.int x :: st) h Q := g_ldI rfl rfl
theorem g826_35 : zG d 826 35 L st h Q = zG d 826 36 L (.int (-1) :: st) h Q := g_c rfl
theorem g826_36 : zG d 826 36 L (.int z :: .int x :: st) h Q = if ¬ x = z then zG d 826 45 L st h Q else zG d 826 39 L st h Q := g_i2 (P := fun x z => ¬ x = z) rfl
theorem g826_39 : zG d 826 39 (some (.ref a) :: L) st h Q = zG d 826 40 (some (.ref a) :: L) (.ref a :: st) h Q := g_ldA rfl rfl
theorem g826_40 : zG d 826 40 L st h Q = zG d 826 41 L (.int 0 :: st) h Q := g_c rfl
theorem g826_41 (hT : zT h a = (8, 29)) (hx : x = 0 ∨ x = 1) : zG d 826 41 L (.int x :: .ref a :: st) h Q = zG d 826 44 L st (wI h a 13 x) Q := g_pZ rfl hT hx
theorem g826_44 : zG d 826 44 L [] h Q = Q none h := g_rV rfl
theorem g826_45 : zG d 826 45 L st h Q = zG d 826 46 L (.int 0 :: st) h Q := g_c rfl
theorem g826_46 : zG d 826 46 (l0 :: l1 :: l2 :: L) (.int x :: st) h Q = zG d 826 47 (l0 :: kl l1 :: some (.int x) :: L) st h Q := g_stI rfl (by simp) rfl
theorem g826_47 : zG d 826 47 (l0 :: l1 :: some (.int x) :: L) st h Q = zG d 826 48 (l0 :: l1 :: some (.int x) :: L) (.int x :: st) h Q := g_ldI rfl rfl
theorem g826_48 : zG d 826 48 L st h Q = zG d 826 49 L (.int 5 :: st) h Q := g_c rfl
theorem g826_49 : zG d 826 49 L (.int z :: .int x :: st) h Q = if z ≤ x then zG d 826 85 L st h Q else zG d 826 52 L st h Q := g_i2 (P := fun x z => z ≤ x) rfl
theorem g826_52 : zG d 826 52 (some (.ref a) :: L) st h Q = zG d 826 53 (some (.ref a) :: L) (.ref a :: st) h Q := g_ldA rfl rfl
theorem g826_53 (hT : zT h a = (8, 29)) : zG d 826 53 L (.ref a :: st) h Q = zG d 826 56 L (zR h a 20 :: st) h Q := g_gR rfl hT
theorem g826_56 : zG d 826 56 L st h Q = zG d 826 57 L (.int 5 :: st) h Q := g_c rfl
theorem g826_57 : zG d 826 57 (l0 :: some (.int x) :: L) st h Q = zG d 826 58 (l0 :: some (.int x) :: L) (.int x :: st) h Q := g_ldI rfl rfl
theorem g826_58 : zG d 826 58 L (.int z :: .int x :: st) h Q = zG d 826 59 L (.int (x * z) :: st) h Q := g_b (f := fun x z => x * z) rfl
theorem g826_59 : zG d 826 59 (l0 :: l1 :: some (.int x) :: L) st h Q = zG d 826 60 (l0 :: l1 :: some (.int x) :: L) (.int x :: st) h Q := g_ldI rfl rfl
theorem g826_60 : zG d 826 60 L (.int z :: .int x :: st) h Q = zG d 826 61 L (.int (x + z) :: st) h Q := g_b (f := fun x z => x + z) rfl
theorem g826_61 (hT : (zT h b).1 = 22) (hi : zin i (zT h b).2) : zG d 826 61 L (.int i :: .ref b :: st) h Q = zG d 826 62 L (.int (zI h b i.toNatClampNeg) :: st) h Q := g_ia rfl hT hi
theorem g826_62 : zG d 826 62 L (.int x :: st) h Q = if x = 0 then zG d 826 85 L st h Q else zG d 826 65 L st h Q := g_i1 (P := fun x => x = 0) rfl
theorem g826_65 : zG d 826 65 (some (.ref a) :: L) st h Q = zG d 826 66 (some (.ref a) :: L) (.ref a :: st) h Q := g_ldA rfl rfl
theorem g826_66 : zG d 826 66 (some (.ref a) :: L) st h Q = zG d 826 67 (some (.ref a) :: L) (.ref a :: st) h Q := g_ldA rfl rfl
theorem g826_67 (hT : zT h a = (8, 29)) : zG d 826 67 L (.ref a :: st) h Q = zG d 826 70 L (zR h a 20 :: st) h Q := g_gR rfl hT
theorem g826_70 : zG d 826 70 L st h Q = zG d 826 71 L (.int 5 :: st) h Q := g_c rfl
theorem g826_71 : zG d 826 71 (l0 :: some (.int x) :: L) st h Q = zG d 826 72 (l0 :: some (.int x) :: L) (.int x :: st) h Q := g_ldI rfl rfl
theorem g826_72 : zG d 826 72 L (.int z :: .int x :: st) h Q = zG d 826 73 L (.int (x * z) :: st) h Q := g_b (f := fun x z => x * z) rfl
theorem g826_73 : zG d 826 73 (l0 :: l1 :: some (.int x) :: L) st h Q = zG d 826 74 (l0 :: l1 :: some (.int x) :: L) (.int x :: st) h Q := g_ldI rfl rfl
theorem g826_74 : zG d 826 74 L (.int z :: .int x :: st) h Q = zG d 826 75 L (.int (x + z) :: st) h Q := g_b (f := fun x z => x + z) rfl
theorem g826_75 (hT : (zT h b).1 = 22) (hi : zin i (zT h b).2) : zG d 826 75 L (.int i :: .ref b :: st) h Q = zG d 826 76 L (.int (zI h b i.toNatClampNeg) :: st) h Q := g_ia rfl hT hi
theorem g826_76 (hT : (zT h a).1 = 8) : zG d 826 76 L [v0, .ref a] h Q = zCall d 819 [.ref a, v0] h (fun v h1 => zG d 826 79 L (zpush v []) h1 Q) := g_cV rfl rfl rfl rfl (Nat.le_of_ble_eq_true rfl) hT
theorem g826_79 : zG d 826 79 (l0 :: l1 :: some (.int x) :: L) st h Q = zG d 826 82 (l0 :: kl l1 :: some (.int (x + 1)) :: L) st h Q := g_inc rfl rfl rfl
theorem g826_82 : zG d 826 82 L st h Q = zG d 826 47 L st h Q := g_go rfl
theorem g826_85 : zG d 826 85 (some (.ref a) :: L) st h Q = zG d 826 86 (some (.ref a) :: L) (.ref a :: st) h Q := g_ldA rfl rfl
theorem g826_86 : zG d 826 86 L st h Q = zG d 826 88 L (.int 32 :: st) h Q := g_c rfl
theorem g826_88 (hT : (zT h a).1 = 8) : zG d 826 88 L [v0, .ref a] h Q = zCall d 819 [.ref a, v0] h (fun v h1 => zG d 826 91 L (zpush v []) h1 Q) := g_cV rfl rfl rfl rfl (Nat.le_of_ble_eq_true rfl) hT
theorem g826_91 : zG d 826 91 (some (.ref a) :: L) st h Q = zG d 826 92 (some (.ref a) :: L) (.ref a :: st) h Q := g_ldA rfl rfl
theorem g826_92 (hT : (zT h a).1 = 8) : zG d 826 92 L [.ref a] h Q = zCall d 821 [.ref a] h (fun v h1 => zG d 826 95 L (zpush v []) h1 Q) := g_cV rfl rfl rfl rfl (Nat.le_of_ble_eq_true rfl) hT
theorem g826_95 : zG d 826 95 (l0 :: l1 :: l2 :: L) (.int x :: st) h Q = zG d 826 96 (l0 :: kl l1 :: some (.int x) :: L) st h Q := g_stI rfl (by simp) rfl
theorem g826_96 : zG d 826 96 (l0 :: some (.int x) :: L) st h Q = zG d 826 97 (l0 :: some (.int x) :: L) (.int x :: st) h Q := g_ldI rfl rfl
theorem g826_97 : zG d 826 97 L st h Q = zG d 826 98 L (.int 2 :: st) h Q := g_c rfl
theorem g826_98 : zG d 826 98 L (.int z :: .int x :: st) h Q = if ¬ x = z then zG d 826 107 L st h Q else zG d 826 101 L st h Q := g_i2 (P := fun x z => ¬ x = z) rfl
theorem g826_101 : zG d 826 101 (some (.ref a) :: L) st h Q = zG d 826 102 (some (.ref a) :: L) (.ref a :: st) h Q := g_ldA rfl rfl
theorem g826_102 : zG d 826 102 (l0 :: l1 :: some (.int x) :: L) st h Q = zG d 826 103 (l0 :: l1 :: some (.int x) :: L) (.int x :: st) h Q := g_ldI rfl rfl
theorem g826_103 (hT : zT h a = (8, 29)) : zG d 826 103 L (.int x :: .ref a :: st) h Q = zG d 826 106 L st (wI h a 16 x) Q := g_pI rfl hT
theorem g826_106 : zG d 826 106 L [] h Q = Q none h := g_rV rfl
theorem g826_107 : zG d 826 107 (some (.ref a) :: L) st h Q = zG d 826 108 (some (.ref a) :: L) (.ref a :: st) h Q := g_ldA rfl rfl
theorem g826_108 : zG d 826 108 L st h Q = zG d 826 110 L (.int 32 :: st) h Q := g_c rfl
theorem g826_110 (hT : (zT h a).1 = 8) : zG d 826 110 L [v0, .ref a] h Q = zCall d 819 [.ref a, v0] h (fun v h1 => zG d 826 113 L (zpush v []) h1 Q) := g_cV rfl rfl rfl rfl (Nat.le_of_ble_eq_true rfl) hT
theorem g826_113 : zG d 826 113 (some (.ref a) :: L) st h Q = zG d 826 114 (some (.ref a) :: L) (.ref a :: st) h Q := g_ldA rfl rfl
theorem g826_114 : zG d 826 114 L st h Q = zG d 826 115 L (.int 0 :: st) h Q := g_c rfl
theorem g826_115 (hT : zT h a = (8, 29)) : zG d 826 115 L (.int x :: .ref a :: st) h Q = zG d 826 118 L st (wI h a 14 x) Q := g_pI rfl hT
theorem g826_118 : zG d 826 118 (some (.ref a) :: L) st h Q = zG d 826 119 (some (.ref a) :: L) (.ref a :: st) h Q := g_ldA rfl rfl
theorem g826_119 (hT : (zT h a).1 = 8) : zG d 826 119 L [.ref a] h Q = zCall d 825 [.ref a] h (fun v h1 => zG d 826 122 L (zpush v []) h1 Q) := g_cV rfl rfl rfl rfl (Nat.le_of_ble_eq_true rfl) hT
theorem g826_122 : zG d 826 122 (l0 :: l1 :: l2 :: l3 :: L) (.int x :: st) h Q = zG d 826 123 (l0 :: l1 :: kl l2 :: some (.int x) :: L) st h Q := g_stI rfl (by simp) rfl
theorem g826_123 : zG d 826 123 (some (.ref a) :: L) st h Q = zG d 826 124 (some (.ref a) :: L) (.ref a :: st) h Q := g_ldA rfl rfl
theorem g826_124 : zG d 826 124 L (.ref a :: st) h Q = zG d 826 125 L (.ref a :: .ref a :: st) h Q := g_dupA rfl
theorem g826_125 (hT : zT h a = (8, 29)) : zG d 826 125 L (.ref a :: st) h Q = zG d 826 128 L (.int (zI h a 15) :: st) h Q := g_gI rfl hT
theorem g826_128 : zG d 826 128 (l0 :: l1 :: l2 :: some (.int x) :: L) st h Q = zG d 826 129 (l0 :: l1 :: l2 :: some (.int x) :: L) (.int x :: st) h Q := g_ldI rfl rfl
theorem g826_129 : zG d 826 129 L (.int x :: st) h Q = if ¬ x = 0 then zG d 826 136 L st h Q else zG d 826 132 L st h Q := g_i1 (P := fun x => ¬ x = 0) rfl
theorem g826_132 : zG d 826 132 L st h Q = zG d 826 133 L (.int 0 :: st) h Q := g_c rfl
theorem g826_133 : zG d 826 133 L st h Q = zG d 826 146 L st h Q := g_go rfl
theorem g826_136 : zG d 826 136 (l0 :: some (.int x) :: L) st h Q = zG d 826 137 (l0 :: some (.int x) :: L) (.int x :: st) h Q := g_ldI rfl rfl
theorem g826_137 : zG d 826 137 L (.int x :: st) h Q = if ¬ x = 0 then zG d 826 144 L st h Q else zG d 826 140 L st h Q := g_i1 (P := fun x => ¬ x = 0) rfl
theorem g826_140 : zG d 826 140 (l0 :: l1 :: some (.int x) :: L) st h Q = zG d 826 141 (l0 :: l1 :: some (.int x) :: L) (.int x :: st) h Q := g_ldI rfl rfl
theorem g826_141 : zG d 826 141 L st h Q = zG d 826 146 L st h Q := g_go rfl
theorem g826_144 : zG d 826 144 (l0 :: l1 :: some (.int x) :: L) st h Q = zG d 826 145 (l0 :: l1 :: some (.int x) :: L) (.int x :: st) h Q := g_ldI rfl rfl
theorem g826_145 : zG d 826 145 L (.int x :: st) h Q = zG d 826 146 L (.int (-x) :: st) h Q := g_u (f1 := fun x => -x) rfl
theorem g826_146 : zG d 826 146 L (.int z :: .int x :: st) h Q = zG d 826 147 L (.int (x + z) :: st) h Q := g_b (f := fun x z => x + z) rfl
theorem g826_147 (hT : zT h a = (8, 29)) : zG d 826 147 L (.int x :: .ref a :: st) h Q = zG d 826 150 L st (wI h a 15 x) Q := g_pI rfl hT
theorem g826_150 : zG d 826 150 L [] h Q = Q none h := g_rV rfl
theorem k826  : zCall (d + 1) 826 [.ref a] h Q = zG d 826 0 [some (.ref a), none, none, none] [] h Q := zCall_k (Nat.le_of_ble_eq_true rfl) rfl
theorem g827_0 : zG d 827 0 (some (.ref a) :: L) st h Q = zG d 827 1 (some (.ref a) :: L) (.ref a :: st) h Q := g_ldA rfl rfl
theorem g827_1 : zG d 827 1 L st h Q = zG d 827 2 L (.int 0 :: st) h Q := g_c rfl
theorem g827_2 (hT : zT h a = (8, 29)) : zG d 827 2 L (.int x :: .ref a :: st) h Q = zG d 827 5 L st (wI h a 12 x) Q := g_pI rfl hT
theorem g827_5 : zG d 827 5 (some (.ref a) :: L) st h Q = zG d 827 6 (some (.ref a) :: L) (.ref a :: st) h Q := g_ldA rfl rfl
theorem g827_6 : zG d 827 6 L st h Q = zG d 827 7 L (.int 1 :: st) h Q := g_c rfl
theorem g827_7 (hT : zT h a = (8, 29)) (hx : x = 0 ∨ x = 1) : zG d 827 7 L (.int x :: .ref a :: st) h Q = zG d 827 10 L st (wI h a 13 x) Q := g_pZ rfl hT hx
theorem g827_10 : zG d 827 10 (some (.ref a) :: L) st h Q = zG d 827 11 (some (.ref a) :: L) (.ref a :: st) h Q := g_ldA rfl rfl
theorem g827_11 : zG d 827 11 L st h Q = zG d 827 12 L (.int 0 :: st) h Q := g_c rfl
theorem g827_12 (hT : zT h a = (8, 29)) : zG d 827 12 L (.int x :: .ref a :: st) h Q = zG d 827 15 L st (wI h a 15 x) Q := g_pI rfl hT
theorem g827_15 : zG d 827 15 (some (.ref a) :: L) st h Q = zG d 827 16 (some (.ref a) :: L) (.ref a :: st) h Q := g_ldA rfl rfl
theorem g827_16 : zG d 827 16 L st h Q = zG d 827 18 L (.int 10 :: st) h Q := g_c rfl
theorem g827_18 (hT : zT h a = (8, 29)) : zG d 827 18 L (.int x :: .ref a :: st) h Q = zG d 827 21 L st (wI h a 16 x) Q := g_pI rfl hT
theorem g827_21 : zG d 827 21 L st h Q = zG d 827 22 L (.int 1 :: st) h Q := g_c rfl
theorem g827_22 : zG d 827 22 (l0 :: l1 :: L) (.int x :: st) h Q = zG d 827 23 (kl l0 :: some (.int x) :: L) st h Q := g_stI rfl (by simp) rfl
theorem g827_23 : zG d 827 23 (some (.ref a) :: L) st h Q = zG d 827 24 (some (.ref a) :: L) (.ref a :: st) h Q := g_ldA rfl rfl
theorem g827_24 (hT : (zT h a).1 = 8) : zG d 827 24 L [.ref a] h Q = zCall d 826 [.ref a] h (fun v h1 => zG d 827 27 L (zpush v []) h1 Q) := g_cV rfl rfl rfl rfl (Nat.le_of_ble_eq_true rfl) hT
theorem g827_27 : zG d 827 27 (l0 :: some (.int x) :: L) st h Q = zG d 827 28 (l0 :: some (.int x) :: L) (.int x :: st) h Q := g_ldI rfl rfl
theorem g827_28 : zG d 827 28 L st h Q = zG d 827 30 L (.int 10 :: st) h Q := g_c rfl
theorem g827_30 : zG d 827 30 L (.int z :: .int x :: st) h Q = if z ≤ x then zG d 827 62 L st h Q else zG d 827 33 L st h Q := g_i2 (P := fun x z => z ≤ x) rfl
theorem g827_33 : zG d 827 33 (some (.ref a) :: L) st h Q = zG d 827 34 (some (.ref a) :: L) (.ref a :: st) h Q := g_ldA rfl rfl
theorem g827_34 : zG d 827 34 L st h Q = zG d 827 36 L (.int 59 :: st) h Q := g_c rfl
theorem g827_36 (hT : (zT h a).1 = 8) : zG d 827 36 L [v0, .ref a] h Q = zCall d 818 [.ref a, v0] h (fun v h1 => zG d 827 39 L (zpush v []) h1 Q) := g_cV rfl rfl rfl rfl (Nat.le_of_ble_eq_true rfl) hT
theorem g827_39 : zG d 827 39 L (.int x :: st) h Q = if x = 0 then zG d 827 62 L st h Q else zG d 827 42 L st h Q := g_i1 (P := fun x => x = 0) rfl
theorem g827_42 : zG d 827 42 (some (.ref a) :: L) st h Q = zG d 827 43 (some (.ref a) :: L) (.ref a :: st) h Q := g_ldA rfl rfl
theorem g827_43 : zG d 827 43 L (.ref a :: st) h Q = zG d 827 44 L (.ref a :: .ref a :: st) h Q := g_dupA rfl
theorem g827_44 (hT : zT h a = (8, 29)) : zG d 827 44 L (.ref a :: st) h Q = zG d 827 47 L (.int (zI h a 12) :: st) h Q := g_gI rfl hT
theorem g827_47 : zG d 827 47 L st h Q = zG d 827 48 L (.int 1 :: st) h Q := g_c rfl
theorem g827_48 : zG d 827 48 L (.int z :: .int x :: st) h Q = zG d 827 49 L (.int (x + z) :: st) h Q := g_b (f := fun x z => x + z) rfl
theorem g827_49 (hT : zT h a = (8, 29)) : zG d 827 49 L (.int x :: .ref a :: st) h Q = zG d 827 52 L st (wI h a 12 x) Q := g_pI rfl hT
theorem g827_52 : zG d 827 52 (some (.ref a) :: L) st h Q = zG d 827 53 (some (.ref a) :: L) (.ref a :: st) h Q := g_ldA rfl rfl
theorem g827_53 (hT : (zT h a).1 = 8) : zG d 827 53 L [.ref a] h Q = zCall d 826 [.ref a] h (fun v h1 => zG d 827 56 L (zpush v []) h1 Q) := g_cV rfl rfl rfl rfl (Nat.le_of_ble_eq_true rfl) hT
theorem g827_56 : zG d 827 56 (l0 :: some (.int x) :: L) st h Q = zG d 827 59 (kl l0 :: some (.int (x + 1)) :: L) st h Q := g_inc rfl rfl rfl
theorem g827_59 : zG d 827 59 L st h Q = zG d 827 27 L st h Q := g_go rfl
theorem g827_62 : zG d 827 62 (some (.ref a) :: L) st h Q = zG d 827 63 (some (.ref a) :: L) (.ref a :: st) h Q := g_ldA rfl rfl
theorem g827_63 (hT : zT h a = (8, 29)) : zG d 827 63 L (.ref a :: st) h Q = zG d 827 66 L (.int (zI h a 13) :: st) h Q := g_gI rfl hT
theorem g827_66 : zG d 827 66 L (.int x :: st) h Q = if x = 0 then zG d 827 84 L st h Q else zG d 827 69 L st h Q := g_i1 (P := fun x => x = 0) rfl
theorem g827_69 : zG d 827 69 (some (.ref a) :: L) st h Q = zG d 827 70 (some (.ref a) :: L) (.ref a :: st) h Q := g_ldA rfl rfl
theorem g827_70 (hT : zT h a = (8, 29)) : zG d 827 70 L (.ref a :: st) h Q = zG d 827 73 L (.int (zI h a 12) :: st) h Q := g_gI rfl hT
theorem g827_73 : zG d 827 73 (some (.ref a) :: L) st h Q = zG d 827 74 (some (.ref a) :: L) (.ref a :: st) h Q := g_ldA rfl rfl
theorem g827_74 (hT : zT h a = (8, 29)) : zG d 827 74 L (.ref a :: st) h Q = zG d 827 77 L (.int (zI h a 11) :: st) h Q := g_gI rfl hT
theorem g827_77 : zG d 827 77 L (.int z :: .int x :: st) h Q = if ¬ x = z then zG d 827 84 L st h Q else zG d 827 80 L st h Q := g_i2 (P := fun x z => ¬ x = z) rfl
theorem g827_80 : zG d 827 80 L st h Q = zG d 827 81 L (.int 1 :: st) h Q := g_c rfl
theorem g827_81 : zG d 827 81 L st h Q = zG d 827 85 L st h Q := g_go rfl
theorem g827_84 : zG d 827 84 L st h Q = zG d 827 85 L (.int 0 :: st) h Q := g_c rfl
theorem g827_85 (hx : x = 0 ∨ x = 1) : zG d 827 85 L [.int x] h Q = Q (some (.int x)) h := g_rI (ok := fun x => x = 0 ∨ x = 1) rfl hx
theorem k827  : zCall (d + 1) 827 [.ref a] h Q = zG d 827 0 [some (.ref a), none] [] h Q := zCall_k (Nat.le_of_ble_eq_true rfl) rfl
theorem g828_0 : zG d 828 0 (some (.ref a) :: L) st h Q = zG d 828 1 (some (.ref a) :: L) (.ref a :: st) h Q := g_ldA rfl rfl
theorem g828_1 (hT : zT h a = (8, 29)) : zG d 828 1 L (.ref a :: st) h Q = zG d 828 4 L (zR h a 17 :: st) h Q := g_gR rfl hT
theorem g828_4 : zG d 828 4 L st h Q = zG d 828 5 L (.int 0 :: st) h Q := g_c rfl
theorem g828_5 : zG d 828 5 (l0 :: some (.int x) :: L) st h Q = zG d 828 6 (l0 :: some (.int x) :: L) (.int x :: st) h Q := g_ldI rfl rfl
theorem g828_6 (hT : (zT h b).1 = 20) (hi : zin i (zT h b).2) : zG d 828 6 L (.int x :: .int i :: .ref b :: st) h Q = zG d 828 7 L st (wI h b i.toNatClampNeg (x)) Q := g_is (f1 := fun x => x) rfl hT hi
theorem g828_7 : zG d 828 7 (some (.ref a) :: L) st h Q = zG d 828 8 (some (.ref a) :: L) (.ref a :: st) h Q := g_ldA rfl rfl
theorem g828_8 (hT : zT h a = (8, 29)) : zG d 828 8 L (.ref a :: st) h Q = zG d 828 11 L (zR h a 17 :: st) h Q := g_gR rfl hT
theorem g828_11 : zG d 828 11 L st h Q = zG d 828 12 L (.int 1 :: st) h Q := g_c rfl
theorem g828_12 : zG d 828 12 (some (.ref a) :: L) st h Q = zG d 828 13 (some (.ref a) :: L) (.ref a :: st) h Q := g_ldA rfl rfl
theorem g828_13 : zG d 828 13 (l0 :: some (.int x) :: L) st h Q = zG d 828 14 (l0 :: some (.int x) :: L) (.int x :: st) h Q := g_ldI rfl rfl
theorem g828_14 : zG d 828 14 L st h Q = zG d 828 15 L (.int 0 :: st) h Q := g_c rfl
theorem g828_15 {s0 : Int32} {s1 : Nat} (hT : (zT h a).1 = 8) : zG d 828 15 L [v1, v0, .ref a, .int s0, .ref s1] h Q = zCall d 808 [.ref a, v0, v1] h (fun v h1 => zG d 828 18 L (zpush v [.int s0, .ref s1]) h1 Q) := g_cV rfl rfl rfl rfl (Nat.le_of_ble_eq_true rfl) hT
theorem g828_18 (hT : (zT h b).1 = 20) (hi : zin i (zT h b).2) : zG d 828 18 L (.int x :: .int i :: .ref b :: st) h Q = zG d 828 19 L st (wI h b i.toNatClampNeg (x)) Q := g_is (f1 := fun x => x) rfl hT hi
theorem g828_19 : zG d 828 19 (some (.ref a) :: L) st h Q = zG d 828 20 (some (.ref a) :: L) (.ref a :: st) h Q := g_ldA rfl rfl
theorem g828_20 (hT : zT h a = (8, 29)) : zG d 828 20 L (.ref a :: st) h Q = zG d 828 23 L (zR h a 17 :: st) h Q := g_gR rfl hT
theorem g828_23 : zG d 828 23 L st h Q = zG d 828 24 L (.int 2 :: st) h Q := g_c rfl
theorem g828_24 : zG d 828 24 (some (.ref a) :: L) st h Q = zG d 828 25 (some (.ref a) :: L) (.ref a :: st) h Q := g_ldA rfl rfl
theorem g828_25 : zG d 828 25 (l0 :: some (.int x) :: L) st h Q = zG d 828 26 (l0 :: some (.int x) :: L) (.int x :: st) h Q := g_ldI rfl rfl
theorem g828_26 : zG d 828 26 L st h Q = zG d 828 27 L (.int 1 :: st) h Q := g_c rfl
theorem g828_27 {s0 : Int32} {s1 : Nat} (hT : (zT h a).1 = 8) : zG d 828 27 L [v1, v0, .ref a, .int s0, .ref s1] h Q = zCall d 808 [.ref a, v0, v1] h (fun v h1 => zG d 828 30 L (zpush v [.int s0, .ref s1]) h1 Q) := g_cV rfl rfl rfl rfl (Nat.le_of_ble_eq_true rfl) hT
theorem g828_30 (hT : (zT h b).1 = 20) (hi : zin i (zT h b).2) : zG d 828 30 L (.int x :: .int i :: .ref b :: st) h Q = zG d 828 31 L st (wI h b i.toNatClampNeg (x)) Q := g_is (f1 := fun x => x) rfl hT hi
theorem g828_31 : zG d 828 31 (some (.ref a) :: L) st h Q = zG d 828 32 (some (.ref a) :: L) (.ref a :: st) h Q := g_ldA rfl rfl
theorem g828_32 (hT : zT h a = (8, 29)) : zG d 828 32 L (.ref a :: st) h Q = zG d 828 35 L (zR h a 17 :: st) h Q := g_gR rfl hT
theorem g828_35 : zG d 828 35 L st h Q = zG d 828 36 L (.int 3 :: st) h Q := g_c rfl
theorem g828_36 : zG d 828 36 (some (.ref a) :: L) st h Q = zG d 828 37 (some (.ref a) :: L) (.ref a :: st) h Q := g_ldA rfl rfl
theorem g828_37 : zG d 828 37 (l0 :: some (.int x) :: L) st h Q = zG d 828 38 (l0 :: some (.int x) :: L) (.int x :: st) h Q := g_ldI rfl rfl
theorem g828_38 : zG d 828 38 L st h Q = zG d 828 39 L (.int 2 :: st) h Q := g_c rfl
theorem g828_39 {s0 : Int32} {s1 : Nat} (hT : (zT h a).1 = 8) : zG d 828 39 L [v1, v0, .ref a, .int s0, .ref s1] h Q = zCall d 808 [.ref a, v0, v1] h (fun v h1 => zG d 828 42 L (zpush v [.int s0, .ref s1]) h1 Q) := g_cV rfl rfl rfl rfl (Nat.le_of_ble_eq_true rfl) hT
theorem g828_42 : zG d 828 42 L st h Q = zG d 828 44 L (.int 10 :: st) h Q := g_c rfl
theorem g828_44 (hz : ¬ z = 0) : zG d 828 44 L (.int z :: .int x :: st) h Q = zG d 828 45 L (.int (x / z) :: st) h Q := g_d (f := fun x z => x / z) rfl hz
theorem g828_45 (hT : (zT h b).1 = 20) (hi : zin i (zT h b).2) : zG d 828 45 L (.int x :: .int i :: .ref b :: st) h Q = zG d 828 46 L st (wI h b i.toNatClampNeg (x)) Q := g_is (f1 := fun x => x) rfl hT hi
theorem g828_46 : zG d 828 46 (some (.ref a) :: L) st h Q = zG d 828 47 (some (.ref a) :: L) (.ref a :: st) h Q := g_ldA rfl rfl
theorem g828_47 (hT : zT h a = (8, 29)) : zG d 828 47 L (.ref a :: st) h Q = zG d 828 50 L (zR h a 17 :: st) h Q := g_gR rfl hT
theorem g828_50 : zG d 828 50 L st h Q = zG d 828 51 L (.int 4 :: st) h Q := g_c rfl
theorem g828_51 : zG d 828 51 (some (.ref a) :: L) st h Q = zG d 828 52 (some (.ref a) :: L) (.ref a :: st) h Q := g_ldA rfl rfl
theorem g828_52 : zG d 828 52 (l0 :: some (.int x) :: L) st h Q = zG d 828 53 (l0 :: some (.int x) :: L) (.int x :: st) h Q := g_ldI rfl rfl
theorem g828_53 : zG d 828 53 L st h Q = zG d 828 54 L (.int 5 :: st) h Q := g_c rfl
theorem g828_54 {s0 : Int32} {s1 : Nat} (hT : (zT h a).1 = 8) : zG d 828 54 L [v1, v0, .ref a, .int s0, .ref s1] h Q = zCall d 808 [.ref a, v0, v1] h (fun v h1 => zG d 828 57 L (zpush v [.int s0, .ref s1]) h1 Q) := g_cV rfl rfl rfl rfl (Nat.le_of_ble_eq_true rfl) hT
theorem g828_57 : zG d 828 57 L st h Q = zG d 828 59 L (.int 10 :: st) h Q := g_c rfl
theorem g828_59 (hz : ¬ z = 0) : zG d 828 59 L (.int z :: .int x :: st) h Q = zG d 828 60 L (.int (x - x / z * z) :: st) h Q := g_d (f := fun x z => x - x / z * z) rfl hz
theorem g828_60 (hT : (zT h b).1 = 20) (hi : zin i (zT h b).2) : zG d 828 60 L (.int x :: .int i :: .ref b :: st) h Q = zG d 828 61 L st (wI h b i.toNatClampNeg (x)) Q := g_is (f1 := fun x => x) rfl hT hi
theorem g828_61 : zG d 828 61 (some (.ref a) :: L) st h Q = zG d 828 62 (some (.ref a) :: L) (.ref a :: st) h Q := g_ldA rfl rfl
theorem g828_62 (hT : zT h a = (8, 29)) : zG d 828 62 L (.ref a :: st) h Q = zG d 828 65 L (zR h a 17 :: st) h Q := g_gR rfl hT
theorem g828_65 : zG d 828 65 L st h Q = zG d 828 66 L (.int 5 :: st) h Q := g_c rfl
theorem g828_66 : zG d 828 66 (some (.ref a) :: L) st h Q = zG d 828 67 (some (.ref a) :: L) (.ref a :: st) h Q := g_ldA rfl rfl
theorem g828_67 (hT : zT h a = (8, 29)) : zG d 828 67 L (.ref a :: st) h Q = zG d 828 70 L (zR h a 0 :: st) h Q := g_gR rfl hT
theorem g828_70 : zG d 828 70 L st h Q = zG d 828 72 L (.int 62 :: st) h Q := g_c rfl
theorem g828_72 (hT : (zT h b).1 = 20) (hi : zin i (zT h b).2) : zG d 828 72 L (.int i :: .ref b :: st) h Q = zG d 828 73 L (.int (zI h b i.toNatClampNeg) :: st) h Q := g_ia rfl hT hi
theorem g828_73 : zG d 828 73 L st h Q = zG d 828 75 L (.int 10 :: st) h Q := g_c rfl
theorem g828_75 (hz : ¬ z = 0) : zG d 828 75 L (.int z :: .int x :: st) h Q = zG d 828 76 L (.int (x - x / z * z) :: st) h Q := g_d (f := fun x z => x - x / z * z) rfl hz
theorem g828_76 (hT : (zT h b).1 = 20) (hi : zin i (zT h b).2) : zG d 828 76 L (.int x :: .int i :: .ref b :: st) h Q = zG d 828 77 L st (wI h b i.toNatClampNeg (x)) Q := g_is (f1 := fun x => x) rfl hT hi
theorem g828_77 : zG d 828 77 (some (.ref a) :: L) st h Q = zG d 828 78 (some (.ref a) :: L) (.ref a :: st) h Q := g_ldA rfl rfl
theorem g828_78 (hT : zT h a = (8, 29)) : zG d 828 78 L (.ref a :: st) h Q = zG d 828 81 L (zR h a 0 :: st) h Q := g_gR rfl hT
theorem g828_81 : zG d 828 81 L st h Q = zG d 828 83 L (.int 63 :: st) h Q := g_c rfl
theorem g828_83 (hT : (zT h b).1 = 20) (hi : zin i (zT h b).2) : zG d 828 83 L (.int i :: .ref b :: st) h Q = zG d 828 84 L (.int (zI h b i.toNatClampNeg) :: st) h Q := g_ia rfl hT hi
theorem g828_84 : zG d 828 84 L (.int x :: st) h Q = if ¬ x = 0 then zG d 828 101 L st h Q else zG d 828 87 L st h Q := g_i1 (P := fun x => ¬ x = 0) rfl
theorem g828_87 : zG d 828 87 (some (.ref a) :: L) st h Q = zG d 828 88 (some (.ref a) :: L) (.ref a :: st) h Q := g_ldA rfl rfl
theorem g828_88 : zG d 828 88 L st h Q = zG d 828 89 L (.int 0 :: st) h Q := g_c rfl
theorem g828_89 (hT : zT h a = (8, 29)) : zG d 828 89 L (.int x :: .ref a :: st) h Q = zG d 828 92 L st (wI h a 15 x) Q := g_pI rfl hT
theorem g828_92 : zG d 828 92 (some (.ref a) :: L) st h Q = zG d 828 93 (some (.ref a) :: L) (.ref a :: st) h Q := g_ldA rfl rfl
theorem g828_93 : zG d 828 93 L st h Q = zG d 828 95 L (.int 10 :: st) h Q := g_c rfl
theorem g828_95 (hT : zT h a = (8, 29)) : zG d 828 95 L (.int x :: .ref a :: st) h Q = zG d 828 98 L st (wI h a 16 x) Q := g_pI rfl hT
theorem g828_98 : zG d 828 98 L st h Q = zG d 828 159 L st h Q := g_go rfl
theorem g828_101 : zG d 828 101 (some (.ref a) :: L) st h Q = zG d 828 102 (some (.ref a) :: L) (.ref a :: st) h Q := g_ldA rfl rfl
theorem g828_102 (hT : zT h a = (8, 29)) : zG d 828 102 L (.ref a :: st) h Q = zG d 828 105 L (zR h a 0 :: st) h Q := g_gR rfl hT
theorem g828_105 : zG d 828 105 L st h Q = zG d 828 107 L (.int 63 :: st) h Q := g_c rfl
theorem g828_107 (hT : (zT h b).1 = 20) (hi : zin i (zT h b).2) : zG d 828 107 L (.int i :: .ref b :: st) h Q = zG d 828 108 L (.int (zI h b i.toNatClampNeg) :: st) h Q := g_ia rfl hT hi
theorem g828_108 : zG d 828 108 L st h Q = zG d 828 109 L (.int 1 :: st) h Q := g_c rfl
theorem g828_109 : zG d 828 109 L (.int z :: .int x :: st) h Q = zG d 828 110 L (.int (x - z) :: st) h Q := g_b (f := fun x z => x - z) rfl
theorem g828_110 : zG d 828 110 (l0 :: l1 :: l2 :: L) (.int x :: st) h Q = zG d 828 111 (l0 :: kl l1 :: some (.int x) :: L) st h Q := g_stI rfl (by simp) rfl
theorem g828_111 : zG d 828 111 (some (.ref a) :: L) st h Q = zG d 828 112 (some (.ref a) :: L) (.ref a :: st) h Q := g_ldA rfl rfl
theorem g828_112 : zG d 828 112 (some (.ref a) :: L) st h Q = zG d 828 113 (some (.ref a) :: L) (.ref a :: st) h Q := g_ldA rfl rfl
theorem g828_113 (hT : zT h a = (8, 29)) : zG d 828 113 L (.ref a :: st) h Q = zG d 828 116 L (zR h a 8 :: st) h Q := g_gR rfl hT
theorem g828_116 : zG d 828 116 (l0 :: l1 :: some (.int x) :: L) st h Q = zG d 828 117 (l0 :: l1 :: some (.int x) :: L) (.int x :: st) h Q := g_ldI rfl rfl
theorem g828_117 (hT : (zT h b).1 = 20) (hi : zin i (zT h b).2) : zG d 828 117 L (.int i :: .ref b :: st) h Q = zG d 828 118 L (.int (zI h b i.toNatClampNeg) :: st) h Q := g_ia rfl hT hi
theorem g828_118 (hT : zT h a = (8, 29)) : zG d 828 118 L (.int x :: .ref a :: st) h Q = zG d 828 121 L st (wI h a 11 x) Q := g_pI rfl hT
theorem g828_121 : zG d 828 121 L st h Q = zG d 828 122 L (.int 0 :: st) h Q := g_c rfl
theorem g828_122 : zG d 828 122 (l0 :: l1 :: l2 :: l3 :: L) (.int x :: st) h Q = zG d 828 123 (l0 :: l1 :: kl l2 :: some (.int x) :: L) st h Q := g_stI rfl (by simp) rfl
theorem g828_123 : zG d 828 123 (l0 :: l1 :: l2 :: some (.int x) :: L) st h Q = zG d 828 124 (l0 :: l1 :: l2 :: some (.int x) :: L) (.int x :: st) h Q := g_ldI rfl rfl
theorem g828_124 : zG d 828 124 (some (.ref a) :: L) st h Q = zG d 828 125 (some (.ref a) :: L) (.ref a :: st) h Q := g_ldA rfl rfl
theorem g828_125 (hT : zT h a = (8, 29)) : zG d 828 125 L (.ref a :: st) h Q = zG d 828 128 L (.int (zI h a 11) :: st) h Q := g_gI rfl hT
theorem g828_128 : zG d 828 128 L (.int z :: .int x :: st) h Q = if z ≤ x then zG d 828 154 L st h Q else zG d 828 131 L st h Q := g_i2 (P := fun x z => z ≤ x) rfl
theorem g828_131 : zG d 828 131 (some (.ref a) :: L) st h Q = zG d 828 132 (some (.ref a) :: L) (.ref a :: st) h Q := g_ldA rfl rfl
theorem g828_132 (hT : zT h a = (8, 29)) : zG d 828 132 L (.ref a :: st) h Q = zG d 828 135 L (zR h a 10 :: st) h Q := g_gR rfl hT
theorem g828_135 : zG d 828 135 (l0 :: l1 :: l2 :: some (.int x) :: L) st h Q = zG d 828 136 (l0 :: l1 :: l2 :: some (.int x) :: L) (.int x :: st) h Q := g_ldI rfl rfl
theorem g828_136 : zG d 828 136 (some (.ref a) :: L) st h Q = zG d 828 137 (some (.ref a) :: L) (.ref a :: st) h Q := g_ldA rfl rfl
theorem g828_137 (hT : zT h a = (8, 29)) : zG d 828 137 L (.ref a :: st) h Q = zG d 828 140 L (zR h a 7 :: st) h Q := g_gR rfl hT
theorem g828_140 : zG d 828 140 L st h Q = zG d 828 142 L (.int 100 :: st) h Q := g_c rfl
theorem g828_142 : zG d 828 142 (l0 :: l1 :: some (.int x) :: L) st h Q = zG d 828 143 (l0 :: l1 :: some (.int x) :: L) (.int x :: st) h Q := g_ldI rfl rfl
theorem g828_143 : zG d 828 143 L (.int z :: .int x :: st) h Q = zG d 828 144 L (.int (x * z) :: st) h Q := g_b (f := fun x z => x * z) rfl
theorem g828_144 : zG d 828 144 (l0 :: l1 :: l2 :: some (.int x) :: L) st h Q = zG d 828 145 (l0 :: l1 :: l2 :: some (.int x) :: L) (.int x :: st) h Q := g_ldI rfl rfl
theorem g828_145 : zG d 828 145 L (.int z :: .int x :: st) h Q = zG d 828 146 L (.int (x + z) :: st) h Q := g_b (f := fun x z => x + z) rfl
theorem g828_146 (hT : (zT h b).1 = 20) (hi : zin i (zT h b).2) : zG d 828 146 L (.int i :: .ref b :: st) h Q = zG d 828 147 L (.int (zI h b i.toNatClampNeg) :: st) h Q := g_ia rfl hT hi
theorem g828_147 (hT : (zT h b).1 = 20) (hi : zin i (zT h b).2) : zG d 828 147 L (.int x :: .int i :: .ref b :: st) h Q = zG d 828 148 L st (wI h b i.toNatClampNeg (x)) Q := g_is (f1 := fun x => x) rfl hT hi
theorem g828_148 : zG d 828 148 (l0 :: l1 :: l2 :: some (.int x) :: L) st h Q = zG d 828 151 (l0 :: l1 :: kl l2 :: some (.int (x + 1)) :: L) st h Q := g_inc rfl rfl rfl
theorem g828_151 : zG d 828 151 L st h Q = zG d 828 123 L st h Q := g_go rfl
theorem g828_154 : zG d 828 154 (some (.ref a) :: L) st h Q = zG d 828 155 (some (.ref a) :: L) (.ref a :: st) h Q := g_ldA rfl rfl
theorem g828_155 (hT : (zT h a).1 = 8) : zG d 828 155 L [.ref a] h Q = zCall d 827 [.ref a] h (fun v h1 => zG d 828 158 L (zpush v []) h1 Q) := g_cV rfl rfl rfl rfl (Nat.le_of_ble_eq_true rfl) hT
theorem g828_158 : zG d 828 158 L (.int x :: st) h Q = zG d 828 159 L st h Q := g_popI rfl
theorem g828_159 : zG d 828 159 (some (.ref a) :: L) st h Q = zG d 828 160 (some (.ref a) :: L) (.ref a :: st) h Q := g_ldA rfl rfl
theorem g828_160 : zG d 828 160 (some (.ref a) :: L) st h Q = zG d 828 161 (some (.ref a) :: L) (.ref a :: st) h Q := g_ldA rfl rfl
theorem g828_161 (hT : zT h a = (8, 29)) : zG d 828 161 L (.ref a :: st) h Q = zG d 828 164 L (.int (zI h a 4) :: st) h Q := g_gI rfl hT
theorem g828_164 : zG d 828 164 L (.int x :: st) h Q = if x < 0 then zG d 828 174 L st h Q else zG d 828 167 L st h Q := g_i1 (P := fun x => x < 0) rfl
theorem g828_167 : zG d 828 167 (some (.ref a) :: L) st h Q = zG d 828 168 (some (.ref a) :: L) (.ref a :: st) h Q := g_ldA rfl rfl
theorem g828_168 (hT : zT h a = (8, 29)) : zG d 828 168 L (.ref a :: st) h Q = zG d 828 171 L (.int (zI h a 4) :: st) h Q := g_gI rfl hT
theorem g828_171 : zG d 828 171 L st h Q = zG d 828 178 L st h Q := g_go rfl
theorem g828_174 : zG d 828 174 (some (.ref a) :: L) st h Q = zG d 828 175 (some (.ref a) :: L) (.ref a :: st) h Q := g_ldA rfl rfl
theorem g828_175 (hT : zT h a = (8, 29)) : zG d 828 175 L (.ref a :: st) h Q = zG d 828 178 L (.int (zI h a 16) :: st) h Q := g_gI rfl hT
theorem g828_178 (hT : zT h a = (8, 29)) : zG d 828 178 L (.int x :: .ref a :: st) h Q = zG d 828 181 L st (wI h a 16 x) Q := g_pI rfl hT
theorem g828_181 : zG d 828 181 (some (.ref a) :: L) st h Q = zG d 828 182 (some (.ref a) :: L) (.ref a :: st) h Q := g_ldA rfl rfl
theorem g828_182 : zG d 828 182 L (.ref a :: st) h Q = zG d 828 183 L (.ref a :: .ref a :: st) h Q := g_dupA rfl
theorem g828_183 (hT : zT h a = (8, 29)) : zG d 828 183 L (.ref a :: st) h Q = zG d 828 186 L (.int (zI h a 15) :: st) h Q := g_gI rfl hT
theorem g828_186 : zG d 828 186 (some (.ref a) :: L) st h Q = zG d 828 187 (some (.ref a) :: L) (.ref a :: st) h Q := g_ldA rfl rfl
theorem g828_187 (hT : zT h a = (8, 29)) : zG d 828 187 L (.ref a :: st) h Q = zG d 828 190 L (.int (zI h a 16) :: st) h Q := g_gI rfl hT
theorem g828_190 : zG d 828 190 L (.int z :: .int x :: st) h Q = zG d 828 191 L (.int (x + z) :: st) h Q := g_b (f := fun x z => x + z) rfl
theorem g828_191 (hT : zT h a = (8, 29)) : zG d 828 191 L (.int x :: .ref a :: st) h Q = zG d 828 194 L st (wI h a 15 x) Q := g_pI rfl hT
theorem g828_194 : zG d 828 194 L [] h Q = Q none h := g_rV rfl
theorem k828 {x0 : Int32} : zCall (d + 1) 828 [.ref a, .int x0] h Q = zG d 828 0 [some (.ref a), some (.int x0), none, none] [] h Q := zCall_k (Nat.le_of_ble_eq_true rfl) rfl
theorem g829_0 : zG d 829 0 (some (.ref a) :: L) st h Q = zG d 829 1 (some (.ref a) :: L) (.ref a :: st) h Q := g_ldA rfl rfl
theorem g829_1 (hT : zT h a = (8, 29)) : zG d 829 1 L (.ref a :: st) h Q = zG d 829 4 L (.int (zI h a 9) :: st) h Q := g_gI rfl hT
theorem g829_4 : zG d 829 4 L st h Q = zG d 829 6 L (.int 6 :: st) h Q := g_c rfl
theorem g829_6 : zG d 829 6 L (.int z :: .int x :: st) h Q = if ¬ x = z then zG d 829 12 L st h Q else zG d 829 9 L st h Q := g_i2 (P := fun x z => ¬ x = z) rfl
theorem g829_9 : zG d 829 9 L st h Q = zG d 829 11 L (.int (-4) :: st) h Q := g_c rfl
theorem g829_11 : zG d 829 11 L [.int x] h Q = Q (some (.int x)) h := g_rI (ok := fun _ => True) rfl trivial
theorem g829_12 : zG d 829 12 (some (.ref a) :: L) st h Q = zG d 829 13 (some (.ref a) :: L) (.ref a :: st) h Q := g_ldA rfl rfl
theorem g829_13 : zG d 829 13 (some (.ref a) :: L) st h Q = zG d 829 14 (some (.ref a) :: L) (.ref a :: st) h Q := g_ldA rfl rfl
theorem g829_14 (hT : zT h a = (8, 29)) : zG d 829 14 L (.ref a :: st) h Q = zG d 829 17 L (.int (zI h a 6) :: st) h Q := g_gI rfl hT
theorem g829_17 (hT : zT h a = (8, 29)) : zG d 829 17 L (.int x :: .ref a :: st) h Q = zG d 829 20 L st (wI h a 11 x) Q := g_pI rfl hT
theorem g829_20 : zG d 829 20 L st h Q = zG d 829 21 L (.int 0 :: st) h Q := g_c rfl
theorem g829_21 : zG d 829 21 (l0 :: l1 :: L) (.int x :: st) h Q = zG d 829 22 (kl l0 :: some (.int x) :: L) st h Q := g_stI rfl (by simp) rfl
theorem g829_22 : zG d 829 22 (l0 :: some (.int x) :: L) st h Q = zG d 829 23 (l0 :: some (.int x) :: L) (.int x :: st) h Q := g_ldI rfl rfl
theorem g829_23 : zG d 829 23 (some (.ref a) :: L) st h Q = zG d 829 24 (some (.ref a) :: L) (.ref a :: st) h Q := g_ldA rfl rfl
theorem g829_24 (hT : zT h a = (8, 29)) : zG d 829 24 L (.ref a :: st) h Q = zG d 829 27 L (.int (zI h a 11) :: st) h Q := g_gI rfl hT
theorem g829_27 : zG d 829 27 L (.int z :: .int x :: st) h Q = if z ≤ x then zG d 829 48 L st h Q else zG d 829 30 L st h Q := g_i2 (P := fun x z => z ≤ x) rfl
theorem g829_30 : zG d 829 30 (some (.ref a) :: L) st h Q = zG d 829 31 (some (.ref a) :: L) (.ref a :: st) h Q := g_ldA rfl rfl
theorem g829_31 (hT : zT h a = (8, 29)) : zG d 829 31 L (.ref a :: st) h Q = zG d 829 34 L (zR h a 10 :: st) h Q := g_gR rfl hT
theorem g829_34 : zG d 829 34 (l0 :: some (.int x) :: L) st h Q = zG d 829 35 (l0 :: some (.int x) :: L) (.int x :: st) h Q := g_ldI rfl rfl
theorem g829_35 : zG d 829 35 (some (.ref a) :: L) st h Q = zG d 829 36 (some (.ref a) :: L) (.ref a :: st) h Q := g_ldA rfl rfl
theorem g829_36 (hT : zT h a = (8, 29)) : zG d 829 36 L (.ref a :: st) h Q = zG d 829 39 L (zR h a 5 :: st) h Q := g_gR rfl hT
theorem g829_39 : zG d 829 39 (l0 :: some (.int x) :: L) st h Q = zG d 829 40 (l0 :: some (.int x) :: L) (.int x :: st) h Q := g_ldI rfl rfl
theorem g829_40 (hT : (zT h b).1 = 20) (hi : zin i (zT h b).2) : zG d 829 40 L (.int i :: .ref b :: st) h Q = zG d 829 41 L (.int (zI h b i.toNatClampNeg) :: st) h Q := g_ia rfl hT hi
theorem g829_41 (hT : (zT h b).1 = 20) (hi : zin i (zT h b).2) : zG d 829 41 L (.int x :: .int i :: .ref b :: st) h Q = zG d 829 42 L st (wI h b i.toNatClampNeg (x)) Q := g_is (f1 := fun x => x) rfl hT hi
theorem g829_42 : zG d 829 42 (l0 :: some (.int x) :: L) st h Q = zG d 829 45 (kl l0 :: some (.int (x + 1)) :: L) st h Q := g_inc rfl rfl rfl
theorem g829_45 : zG d 829 45 L st h Q = zG d 829 22 L st h Q := g_go rfl
theorem g829_48 : zG d 829 48 (some (.ref a) :: L) st h Q = zG d 829 49 (some (.ref a) :: L) (.ref a :: st) h Q := g_ldA rfl rfl
theorem g829_49 : zG d 829 49 L st h Q = zG d 829 50 L (.int 0 :: st) h Q := g_c rfl
theorem g829_50 (hT : zT h a = (8, 29)) : zG d 829 50 L (.int x :: .ref a :: st) h Q = zG d 829 53 L st (wI h a 6 x) Q := g_pI rfl hT
theorem g829_53 : zG d 829 53 (some (.ref a) :: L) st h Q = zG d 829 54 (some (.ref a) :: L) (.ref a :: st) h Q := g_ldA rfl rfl
theorem g829_54 (hT : (zT h a).1 = 8) : zG d 829 54 L [.ref a] h Q = zCall d 827 [.ref a] h (fun v h1 => zG d 829 57 L (zpush v []) h1 Q) := g_cV rfl rfl rfl rfl (Nat.le_of_ble_eq_true rfl) hT
theorem g829_57 : zG d 829 57 L (.int x :: st) h Q = if ¬ x = 0 then zG d 829 68 L st h Q else zG d 829 60 L st h Q := g_i1 (P := fun x => ¬ x = 0) rfl
theorem g829_60 : zG d 829 60 L st h Q = zG d 829 62 L (.int (-10) :: st) h Q := g_c rfl
theorem g829_62 : zG d 829 62 (some (.ref a) :: L) st h Q = zG d 829 63 (some (.ref a) :: L) (.ref a :: st) h Q := g_ldA rfl rfl
theorem g829_63 (hT : zT h a = (8, 29)) : zG d 829 63 L (.ref a :: st) h Q = zG d 829 66 L (.int (zI h a 12) :: st) h Q := g_gI rfl hT
theorem g829_66 : zG d 829 66 L (.int z :: .int x :: st) h Q = zG d 829 67 L (.int (x - z) :: st) h Q := g_b (f := fun x z => x - z) rfl
theorem g829_67 : zG d 829 67 L [.int x] h Q = Q (some (.int x)) h := g_rI (ok := fun _ => True) rfl trivial
theorem g829_68 : zG d 829 68 L st h Q = zG d 829 69 L (.int 0 :: st) h Q := g_c rfl
theorem g829_69 : zG d 829 69 (l0 :: l1 :: L) (.int x :: st) h Q = zG d 829 70 (kl l0 :: some (.int x) :: L) st h Q := g_stI rfl (by simp) rfl
theorem g829_70 : zG d 829 70 (l0 :: some (.int x) :: L) st h Q = zG d 829 71 (l0 :: some (.int x) :: L) (.int x :: st) h Q := g_ldI rfl rfl
theorem g829_71 : zG d 829 71 (some (.ref a) :: L) st h Q = zG d 829 72 (some (.ref a) :: L) (.ref a :: st) h Q := g_ldA rfl rfl
theorem g829_72 (hT : zT h a = (8, 29)) : zG d 829 72 L (.ref a :: st) h Q = zG d 829 75 L (.int (zI h a 11) :: st) h Q := g_gI rfl hT
theorem g829_75 : zG d 829 75 L (.int z :: .int x :: st) h Q = if z ≤ x then zG d 829 104 L st h Q else zG d 829 78 L st h Q := g_i2 (P := fun x z => z ≤ x) rfl
theorem g829_78 : zG d 829 78 (some (.ref a) :: L) st h Q = zG d 829 79 (some (.ref a) :: L) (.ref a :: st) h Q := g_ldA rfl rfl
theorem g829_79 (hT : zT h a = (8, 29)) : zG d 829 79 L (.ref a :: st) h Q = zG d 829 82 L (zR h a 7 :: st) h Q := g_gR rfl hT
theorem g829_82 : zG d 829 82 L st h Q = zG d 829 84 L (.int 100 :: st) h Q := g_c rfl
theorem g829_84 : zG d 829 84 (some (.ref a) :: L) st h Q = zG d 829 85 (some (.ref a) :: L) (.ref a :: st) h Q := g_ldA rfl rfl
theorem g829_85 (hT : zT h a = (8, 29)) : zG d 829 85 L (.ref a :: st) h Q = zG d 829 88 L (.int (zI h a 9) :: st) h Q := g_gI rfl hT
theorem g829_88 : zG d 829 88 L (.int z :: .int x :: st) h Q = zG d 829 89 L (.int (x * z) :: st) h Q := g_b (f := fun x z => x * z) rfl
theorem g829_89 : zG d 829 89 (l0 :: some (.int x) :: L) st h Q = zG d 829 90 (l0 :: some (.int x) :: L) (.int x :: st) h Q := g_ldI rfl rfl
theorem g829_90 : zG d 829 90 L (.int z :: .int x :: st) h Q = zG d 829 91 L (.int (x + z) :: st) h Q := g_b (f := fun x z => x + z) rfl
theorem g829_91 : zG d 829 91 (some (.ref a) :: L) st h Q = zG d 829 92 (some (.ref a) :: L) (.ref a :: st) h Q := g_ldA rfl rfl
theorem g829_92 (hT : zT h a = (8, 29)) : zG d 829 92 L (.ref a :: st) h Q = zG d 829 95 L (zR h a 10 :: st) h Q := g_gR rfl hT
theorem g829_95 : zG d 829 95 (l0 :: some (.int x) :: L) st h Q = zG d 829 96 (l0 :: some (.int x) :: L) (.int x :: st) h Q := g_ldI rfl rfl
theorem g829_96 (hT : (zT h b).1 = 20) (hi : zin i (zT h b).2) : zG d 829 96 L (.int i :: .ref b :: st) h Q = zG d 829 97 L (.int (zI h b i.toNatClampNeg) :: st) h Q := g_ia rfl hT hi
theorem g829_97 (hT : (zT h b).1 = 20) (hi : zin i (zT h b).2) : zG d 829 97 L (.int x :: .int i :: .ref b :: st) h Q = zG d 829 98 L st (wI h b i.toNatClampNeg (x)) Q := g_is (f1 := fun x => x) rfl hT hi
theorem g829_98 : zG d 829 98 (l0 :: some (.int x) :: L) st h Q = zG d 829 101 (kl l0 :: some (.int (x + 1)) :: L) st h Q := g_inc rfl rfl rfl
theorem g829_101 : zG d 829 101 L st h Q = zG d 829 70 L st h Q := g_go rfl
theorem g829_104 : zG d 829 104 (some (.ref a) :: L) st h Q = zG d 829 105 (some (.ref a) :: L) (.ref a :: st) h Q := g_ldA rfl rfl
theorem g829_105 (hT : zT h a = (8, 29)) : zG d 829 105 L (.ref a :: st) h Q = zG d 829 108 L (zR h a 8 :: st) h Q := g_gR rfl hT
theorem g829_108 : zG d 829 108 (some (.ref a) :: L) st h Q = zG d 829 109 (some (.ref a) :: L) (.ref a :: st) h Q := g_ldA rfl rfl
theorem g829_109 (hT : zT h a = (8, 29)) : zG d 829 109 L (.ref a :: st) h Q = zG d 829 112 L (.int (zI h a 9) :: st) h Q := g_gI rfl hT
theorem g829_112 : zG d 829 112 (some (.ref a) :: L) st h Q = zG d 829 113 (some (.ref a) :: L) (.ref a :: st) h Q := g_ldA rfl rfl
theorem g829_113 (hT : zT h a = (8, 29)) : zG d 829 113 L (.ref a :: st) h Q = zG d 829 116 L (.int (zI h a 11) :: st) h Q := g_gI rfl hT
theorem g829_116 (hT : (zT h b).1 = 20) (hi : zin i (zT h b).2) : zG d 829 116 L (.int x :: .int i :: .ref b :: st) h Q = zG d 829 117 L st (wI h b i.toNatClampNeg (x)) Q := g_is (f1 := fun x => x) rfl hT hi
theorem g829_117 : zG d 829 117 (some (.ref a) :: L) st h Q = zG d 829 118 (some (.ref a) :: L) (.ref a :: st) h Q := g_ldA rfl rfl
theorem g829_118 : zG d 829 118 L (.ref a :: st) h Q = zG d 829 119 L (.ref a :: .ref a :: st) h Q := g_dupA rfl
theorem g829_119 (hT : zT h a = (8, 29)) : zG d 829 119 L (.ref a :: st) h Q = zG d 829 122 L (.int (zI h a 9) :: st) h Q := g_gI rfl hT
theorem g829_122 : zG d 829 122 L st h Q = zG d 829 123 L (.int 1 :: st) h Q := g_c rfl
theorem g829_123 : zG d 829 123 L (.int z :: .int x :: st) h Q = zG d 829 124 L (.int (x + z) :: st) h Q := g_b (f := fun x z => x + z) rfl
theorem g829_124 (hT : zT h a = (8, 29)) : zG d 829 124 L (.int x :: .ref a :: st) h Q = zG d 829 127 L st (wI h a 9 x) Q := g_pI rfl hT
theorem g829_127 : zG d 829 127 (some (.ref a) :: L) st h Q = zG d 829 128 (some (.ref a) :: L) (.ref a :: st) h Q := g_ldA rfl rfl
theorem g829_128 (hT : zT h a = (8, 29)) : zG d 829 128 L (.ref a :: st) h Q = zG d 829 131 L (zR h a 0 :: st) h Q := g_gR rfl hT
theorem g829_131 : zG d 829 131 L st h Q = zG d 829 133 L (.int 63 :: st) h Q := g_c rfl
theorem g829_133 : zG d 829 133 (some (.ref a) :: L) st h Q = zG d 829 134 (some (.ref a) :: L) (.ref a :: st) h Q := g_ldA rfl rfl
theorem g829_134 (hT : zT h a = (8, 29)) : zG d 829 134 L (.ref a :: st) h Q = zG d 829 137 L (.int (zI h a 9) :: st) h Q := g_gI rfl hT
theorem g829_137 (hT : (zT h b).1 = 20) (hi : zin i (zT h b).2) : zG d 829 137 L (.int x :: .int i :: .ref b :: st) h Q = zG d 829 138 L st (wI h b i.toNatClampNeg (x)) Q := g_is (f1 := fun x => x) rfl hT hi
theorem g829_138 : zG d 829 138 (some (.ref a) :: L) st h Q = zG d 829 139 (some (.ref a) :: L) (.ref a :: st) h Q := g_ldA rfl rfl
theorem g829_139 (hT : zT h a = (8, 29)) : zG d 829 139 L (.ref a :: st) h Q = zG d 829 142 L (.int (zI h a 9) :: st) h Q := g_gI rfl hT
theorem g829_142 : zG d 829 142 L st h Q = zG d 829 143 L (.int 1 :: st) h Q := g_c rfl
theorem g829_143 : zG d 829 143 L (.int z :: .int x :: st) h Q = zG d 829 144 L (.int (x - z) :: st) h Q := g_b (f := fun x z => x - z) rfl
theorem g829_144 : zG d 829 144 L [.int x] h Q = Q (some (.int x)) h := g_rI (ok := fun _ => True) rfl trivial
theorem k829  : zCall (d + 1) 829 [.ref a] h Q = zG d 829 0 [some (.ref a), none] [] h Q := zCall_k (Nat.le_of_ble_eq_true rfl) rfl
theorem g830_0 : zG d 830 0 L st h Q = zG d 830 1 L (.int 0 :: st) h Q := g_c rfl
theorem g830_1 : zG d 830 1 (l0 :: l1 :: l2 :: L) (.int x :: st) h Q = zG d 830 2 (l0 :: kl l1 :: some (.int x) :: L) st h Q := g_stI rfl (by simp) rfl
theorem g830_2 : zG d 830 2 L st h Q = zG d 830 3 L (.int 0 :: st) h Q := g_c rfl
theorem g830_3 : zG d 830 3 (l0 :: l1 :: l2 :: l3 :: L) (.int x :: st) h Q = zG d 830 4 (l0 :: l1 :: kl l2 :: some (.int x) :: L) st h Q := g_stI rfl (by simp) rfl
theorem g830_4 : zG d 830 4 (l0 :: l1 :: l2 :: some (.int x) :: L) st h Q = zG d 830 5 (l0 :: l1 :: l2 :: some (.int x) :: L) (.int x :: st) h Q := g_ldI rfl rfl
theorem g830_5 : zG d 830 5 (some (.ref a) :: L) st h Q = zG d 830 6 (some (.ref a) :: L) (.ref a :: st) h Q := g_ldA rfl rfl
theorem g830_6 (hT : zT h a = (8, 29)) : zG d 830 6 L (.ref a :: st) h Q = zG d 830 9 L (zR h a 0 :: st) h Q := g_gR rfl hT
theorem g830_9 : zG d 830 9 L st h Q = zG d 830 11 L (.int 60 :: st) h Q := g_c rfl
theorem g830_11 (hT : (zT h b).1 = 20) (hi : zin i (zT h b).2) : zG d 830 11 L (.int i :: .ref b :: st) h Q = zG d 830 12 L (.int (zI h b i.toNatClampNeg) :: st) h Q := g_ia rfl hT hi
theorem g830_12 : zG d 830 12 L (.int z :: .int x :: st) h Q = if z ≤ x then zG d 830 46 L st h Q else zG d 830 15 L st h Q := g_i2 (P := fun x z => z ≤ x) rfl
theorem g830_15 : zG d 830 15 (l0 :: l1 :: some (.int x) :: L) st h Q = zG d 830 16 (l0 :: l1 :: some (.int x) :: L) (.int x :: st) h Q := g_ldI rfl rfl
theorem g830_16 : zG d 830 16 L (.int x :: st) h Q = if ¬ x = 0 then zG d 830 34 L st h Q else zG d 830 19 L st h Q := g_i1 (P := fun x => ¬ x = 0) rfl
theorem g830_19 : zG d 830 19 (l0 :: l1 :: l2 :: some (.int x) :: L) st h Q = zG d 830 20 (l0 :: l1 :: l2 :: some (.int x) :: L) (.int x :: st) h Q := g_ldI rfl rfl
theorem g830_20 : zG d 830 20 (l0 :: some (.int x) :: L) st h Q = zG d 830 21 (l0 :: some (.int x) :: L) (.int x :: st) h Q := g_ldI rfl rfl
theorem g830_21 : zG d 830 21 L (.int z :: .int x :: st) h Q = if x = z then zG d 830 38 L st h Q else zG d 830 24 L st h Q := g_i2 (P := fun x z => x = z) rfl
theorem g830_24 : zG d 830 24 (some (.ref a) :: L) st h Q = zG d 830 25 (some (.ref a) :: L) (.ref a :: st) h Q := g_ldA rfl rfl
theorem g830_25 : zG d 830 25 (l0 :: l1 :: l2 :: some (.int x) :: L) st h Q = zG d 830 26 (l0 :: l1 :: l2 :: some (.int x) :: L) (.int x :: st) h Q := g_ldI rfl rfl
theorem g830_26 : zG d 830 26 L st h Q = zG d 830 27 L (.int 3 :: st) h Q := g_c rfl
theorem g830_27 (hT : (zT h a).1 = 8) : zG d 830 27 L [v1, v0, .ref a] h Q = zCall d 808 [.ref a, v0, v1] h (fun v h1 => zG d 830 30 L (zpush v []) h1 Q) := g_cV rfl rfl rfl rfl (Nat.le_of_ble_eq_true rfl) hT
theorem g830_30 : zG d 830 30 L st h Q = zG d 830 31 L (.int 5 :: st) h Q := g_c rfl
theorem g830_31 : zG d 830 31 L (.int z :: .int x :: st) h Q = if ¬ x = z then zG d 830 38 L st h Q else zG d 830 34 L st h Q := g_i2 (P := fun x z => ¬ x = z) rfl
theorem g830_34 : zG d 830 34 L st h Q = zG d 830 35 L (.int 1 :: st) h Q := g_c rfl
theorem g830_35 : zG d 830 35 L st h Q = zG d 830 39 L st h Q := g_go rfl
theorem g830_38 : zG d 830 38 L st h Q = zG d 830 39 L (.int 0 :: st) h Q := g_c rfl
theorem g830_39 : zG d 830 39 (l0 :: l1 :: l2 :: L) (.int x :: st) h Q = zG d 830 40 (l0 :: kl l1 :: some (.int x) :: L) st h Q := g_stI rfl (by simp) rfl
theorem g830_40 : zG d 830 40 (l0 :: l1 :: l2 :: some (.int x) :: L) st h Q = zG d 830 43 (l0 :: l1 :: kl l2 :: some (.int (x + 1)) :: L) st h Q := g_inc rfl rfl rfl
theorem g830_43 : zG d 830 43 L st h Q = zG d 830 4 L st h Q := g_go rfl
theorem g830_46 : zG d 830 46 (l0 :: l1 :: some (.int x) :: L) st h Q = zG d 830 47 (l0 :: l1 :: some (.int x) :: L) (.int x :: st) h Q := g_ldI rfl rfl
theorem g830_47 (hx : x = 0 ∨ x = 1) : zG d 830 47 L [.int x] h Q = Q (some (.int x)) h := g_rI (ok := fun x => x = 0 ∨ x = 1) rfl hx
theorem k830 {x0 : Int32} : zCall (d + 1) 830 [.ref a, .int x0] h Q = zG d 830 0 [some (.ref a), some (.int x0), none, none] [] h Q := zCall_k (Nat.le_of_ble_eq_true rfl) rfl
theorem g831_0 : zG d 831 0 (some (.ref a) :: L) st h Q = zG d 831 1 (some (.ref a) :: L) (.ref a :: st) h Q := g_ldA rfl rfl
theorem g831_1 : zG d 831 1 (l0 :: some (.int x) :: L) st h Q = zG d 831 2 (l0 :: some (.int x) :: L) (.int x :: st) h Q := g_ldI rfl rfl
theorem g831_2 (hT : (zT h a).1 = 8) : zG d 831 2 L [v0, .ref a] h Q = zCall d 828 [.ref a, v0] h (fun v h1 => zG d 831 5 L (zpush v []) h1 Q) := g_cV rfl rfl rfl rfl (Nat.le_of_ble_eq_true rfl) hT
theorem g831_5 : zG d 831 5 (some (.ref a) :: L) st h Q = zG d 831 6 (some (.ref a) :: L) (.ref a :: st) h Q := g_ldA rfl rfl
theorem g831_6 (hT : zT h a = (8, 29)) : zG d 831 6 L (.ref a :: st) h Q = zG d 831 9 L (.int (zI h a 15) :: st) h Q := g_gI rfl hT
theorem g831_9 : zG d 831 9 (some (.ref a) :: L) st h Q = zG d 831 10 (some (.ref a) :: L) (.ref a :: st) h Q := g_ldA rfl rfl
theorem g831_10 : zG d 831 10 (l0 :: some (.int x) :: L) st h Q = zG d 831 11 (l0 :: some (.int x) :: L) (.int x :: st) h Q := g_ldI rfl rfl
theorem g831_11 : zG d 831 11 L st h Q = zG d 831 12 L (.int 1 :: st) h Q := g_c rfl
theorem g831_12 {s0 : Int32} (hT : (zT h a).1 = 8) : zG d 831 12 L [v1, v0, .ref a, .int s0] h Q = zCall d 808 [.ref a, v0, v1] h (fun v h1 => zG d 831 15 L (zpush v [.int s0]) h1 Q) := g_cV rfl rfl rfl rfl (Nat.le_of_ble_eq_true rfl) hT
theorem g831_15 : zG d 831 15 L (.int z :: .int x :: st) h Q = zG d 831 16 L (.int (x + z) :: st) h Q := g_b (f := fun x z => x + z) rfl
theorem g831_16 : zG d 831 16 (l0 :: l1 :: l2 :: L) (.int x :: st) h Q = zG d 831 17 (l0 :: kl l1 :: some (.int x) :: L) st h Q := g_stI rfl (by simp) rfl
theorem g831_17 : zG d 831 17 (some (.ref a) :: L) st h Q = zG d 831 18 (some (.ref a) :: L) (.ref a :: st) h Q := g_ldA rfl rfl
theorem g831_18 (hT : zT h a = (8, 29)) : zG d 831 18 L (.ref a :: st) h Q = zG d 831 21 L (.int (zI h a 15) :: st) h Q := g_gI rfl hT
theorem g831_21 : zG d 831 21 L st h Q = zG d 831 23 L (.int 10 :: st) h Q := g_c rfl
theorem g831_23 : zG d 831 23 (some (.ref a) :: L) st h Q = zG d 831 24 (some (.ref a) :: L) (.ref a :: st) h Q := g_ldA rfl rfl
theorem g831_24 : zG d 831 24 (l0 :: some (.int x) :: L) st h Q = zG d 831 25 (l0 :: some (.int x) :: L) (.int x :: st) h Q := g_ldI rfl rfl
theorem g831_25 : zG d 831 25 L st h Q = zG d 831 26 L (.int 5 :: st) h Q := g_c rfl
theorem g831_26 {s0 s1 : Int32} (hT : (zT h a).1 = 8) : zG d 831 26 L [v1, v0, .ref a, .int s0, .int s1] h Q = zCall d 808 [.ref a, v0, v1] h (fun v h1 => zG d 831 29 L (zpush v [.int s0, .int s1]) h1 Q) := g_cV rfl rfl rfl rfl (Nat.le_of_ble_eq_true rfl) hT
theorem g831_29 (h4 : st.length ≤ 4) : zG d 831 29 L (.int z :: .int x :: st) h Q = zG d 831 32 L (.int (zmin x z) :: st) h Q := g_mm (f := fun x z => zmin x z) rfl h4
theorem g831_32 : zG d 831 32 L (.int z :: .int x :: st) h Q = zG d 831 33 L (.int (x - z) :: st) h Q := g_b (f := fun x z => x - z) rfl
theorem g831_33 : zG d 831 33 (l0 :: l1 :: l2 :: l3 :: L) (.int x :: st) h Q = zG d 831 34 (l0 :: l1 :: kl l2 :: some (.int x) :: L) st h Q := g_stI rfl (by simp) rfl
theorem g831_34 : zG d 831 34 (some (.ref a) :: L) st h Q = zG d 831 35 (some (.ref a) :: L) (.ref a :: st) h Q := g_ldA rfl rfl
theorem g831_35 : zG d 831 35 (l0 :: some (.int x) :: L) st h Q = zG d 831 36 (l0 :: some (.int x) :: L) (.int x :: st) h Q := g_ldI rfl rfl
theorem g831_36 : zG d 831 36 L st h Q = zG d 831 37 L (.int 0 :: st) h Q := g_c rfl
theorem g831_37 (hT : (zT h a).1 = 8) : zG d 831 37 L [v1, v0, .ref a] h Q = zCall d 808 [.ref a, v0, v1] h (fun v h1 => zG d 831 40 L (zpush v []) h1 Q) := g_cV rfl rfl rfl rfl (Nat.le_of_ble_eq_true rfl) hT
theorem g831_40 : zG d 831 40 L (.int x :: st) h Q = if x = 1 then zG d 831 80 L st h Q else if x = 2 then zG d 831 82 L st h Q else if x = 3 then zG d 831 89 L st h Q else if x = 4 then zG d 831 91 L st h Q else if x = 5 then zG d 831 107 L st h Q else if x = 6 then zG d 831 133 L st h Q else zG d 831 153 L st h Q := g_sw (c := 153) (ps := [(1, 80), (2, 82), (3, 89), (4, 91), (5, 107), (6, 133)]) rfl
theorem g831_80 : zG d 831 80 (l0 :: l1 :: some (.int x) :: L) st h Q = zG d 831 81 (l0 :: l1 :: some (.int x) :: L) (.int x :: st) h Q := g_ldI rfl rfl
theorem g831_81 : zG d 831 81 L [.int x] h Q = Q (some (.int x)) h := g_rI (ok := fun _ => True) rfl trivial
theorem g831_82 : zG d 831 82 (some (.ref a) :: L) st h Q = zG d 831 83 (some (.ref a) :: L) (.ref a :: st) h Q := g_ldA rfl rfl
theorem g831_83 (hT : zT h a = (8, 29)) : zG d 831 83 L (.ref a :: st) h Q = zG d 831 86 L (.int (zI h a 15) :: st) h Q := g_gI rfl hT
theorem g831_86 : zG d 831 86 L st h Q = zG d 831 87 L (.int 2 :: st) h Q := g_c rfl
theorem g831_87 (hz : ¬ z = 0) : zG d 831 87 L (.int z :: .int x :: st) h Q = zG d 831 88 L (.int (x / z) :: st) h Q := g_d (f := fun x z => x / z) rfl hz
theorem g831_88 : zG d 831 88 L [.int x] h Q = Q (some (.int x)) h := g_rI (ok := fun _ => True) rfl trivial
theorem g831_89 : zG d 831 89 (l0 :: l1 :: l2 :: some (.int x) :: L) st h Q = zG d 831 90 (l0 :: l1 :: l2 :: some (.int x) :: L) (.int x :: st) h Q := g_ldI rfl rfl
theorem g831_90 : zG d 831 90 L [.int x] h Q = Q (some (.int x)) h := g_rI (ok := fun _ => True) rfl trivial
theorem g831_91 : zG d 831 91 (some (.ref a) :: L) st h Q = zG d 831 92 (some (.ref a) :: L) (.ref a :: st) h Q := g_ldA rfl rfl
theorem g831_92 : zG d 831 92 (l0 :: some (.int x) :: L) st h Q = zG d 831 93 (l0 :: some (.int x) :: L) (.int x :: st) h Q := g_ldI rfl rfl
theorem g831_93 (hT : (zT h a).1 = 8) : zG d 831 93 L [v0, .ref a] h Q = zCall d 830 [.ref a, v0] h (fun v h1 => zG d 831 96 L (zpush v []) h1 Q) := g_cV rfl rfl rfl rfl (Nat.le_of_ble_eq_true rfl) hT
theorem g831_96 : zG d 831 96 L (.int x :: st) h Q = if x = 0 then zG d 831 105 L st h Q else zG d 831 99 L st h Q := g_i1 (P := fun x => x = 0) rfl
theorem g831_99 : zG d 831 99 L st h Q = zG d 831 100 L (.int 2 :: st) h Q := g_c rfl
theorem g831_100 : zG d 831 100 (l0 :: l1 :: some (.int x) :: L) st h Q = zG d 831 101 (l0 :: l1 :: some (.int x) :: L) (.int x :: st) h Q := g_ldI rfl rfl
theorem g831_101 : zG d 831 101 L (.int z :: .int x :: st) h Q = zG d 831 102 L (.int (x * z) :: st) h Q := g_b (f := fun x z => x * z) rfl
theorem g831_102 : zG d 831 102 L st h Q = zG d 831 106 L st h Q := g_go rfl
theorem g831_105 : zG d 831 105 (l0 :: l1 :: some (.int x) :: L) st h Q = zG d 831 106 (l0 :: l1 :: some (.int x) :: L) (.int x :: st) h Q := g_ldI rfl rfl
theorem g831_106 : zG d 831 106 L [.int x] h Q = Q (some (.int x)) h := g_rI (ok := fun _ => True) rfl trivial
theorem g831_107 : zG d 831 107 (some (.ref a) :: L) st h Q = zG d 831 108 (some (.ref a) :: L) (.ref a :: st) h Q := g_ldA rfl rfl
theorem g831_108 (hT : zT h a = (8, 29)) : zG d 831 108 L (.ref a :: st) h Q = zG d 831 111 L (.int (zI h a 15) :: st) h Q := g_gI rfl hT
theorem g831_111 : zG d 831 111 L st h Q = zG d 831 112 L (.int 2 :: st) h Q := g_c rfl
theorem g831_112 (hz : ¬ z = 0) : zG d 831 112 L (.int z :: .int x :: st) h Q = zG d 831 113 L (.int (x / z) :: st) h Q := g_d (f := fun x z => x / z) rfl hz
theorem g831_113 : zG d 831 113 (some (.ref a) :: L) st h Q = zG d 831 114 (some (.ref a) :: L) (.ref a :: st) h Q := g_ldA rfl rfl
theorem g831_114 (hT : zT h a = (8, 29)) : zG d 831 114 L (.ref a :: st) h Q = zG d 831 117 L (zR h a 0 :: st) h Q := g_gR rfl hT
theorem g831_117 : zG d 831 117 L st h Q = zG d 831 119 L (.int 62 :: st) h Q := g_c rfl
theorem g831_119 (hT : (zT h b).1 = 20) (hi : zin i (zT h b).2) : zG d 831 119 L (.int i :: .ref b :: st) h Q = zG d 831 120 L (.int (zI h b i.toNatClampNeg) :: st) h Q := g_ia rfl hT hi
theorem g831_120 : zG d 831 120 L st h Q = zG d 831 122 L (.int 7 :: st) h Q := g_c rfl
theorem g831_122 (hz : ¬ z = 0) : zG d 831 122 L (.int z :: .int x :: st) h Q = zG d 831 123 L (.int (x - x / z * z) :: st) h Q := g_d (f := fun x z => x - x / z * z) rfl hz
theorem g831_123 : zG d 831 123 L (.int x :: st) h Q = if ¬ x = 0 then zG d 831 130 L st h Q else zG d 831 126 L st h Q := g_i1 (P := fun x => ¬ x = 0) rfl
theorem g831_126 : zG d 831 126 L st h Q = zG d 831 127 L (.int 5 :: st) h Q := g_c rfl
theorem g831_127 : zG d 831 127 L st h Q = zG d 831 131 L st h Q := g_go rfl
theorem g831_130 : zG d 831 130 L st h Q = zG d 831 131 L (.int 0 :: st) h Q := g_c rfl
theorem g831_131 : zG d 831 131 L (.int z :: .int x :: st) h Q = zG d 831 132 L (.int (x + z) :: st) h Q := g_b (f := fun x z => x + z) rfl
theorem g831_132 : zG d 831 132 L [.int x] h Q = Q (some (.int x)) h := g_rI (ok := fun _ => True) rfl trivial
theorem g831_133 : zG d 831 133 (l0 :: l1 :: l2 :: some (.int x) :: L) st h Q = zG d 831 134 (l0 :: l1 :: l2 :: some (.int x) :: L) (.int x :: st) h Q := g_ldI rfl rfl
theorem g831_134 : zG d 831 134 (some (.ref a) :: L) st h Q = zG d 831 135 (some (.ref a) :: L) (.ref a :: st) h Q := g_ldA rfl rfl
theorem g831_135 : zG d 831 135 (l0 :: some (.int x) :: L) st h Q = zG d 831 136 (l0 :: some (.int x) :: L) (.int x :: st) h Q := g_ldI rfl rfl
theorem g831_136 : zG d 831 136 L st h Q = zG d 831 138 L (.int 6 :: st) h Q := g_c rfl
theorem g831_138 : zG d 831 138 (some (.ref a) :: L) st h Q = zG d 831 139 (some (.ref a) :: L) (.ref a :: st) h Q := g_ldA rfl rfl
theorem g831_139 (hT : zT h a = (8, 29)) : zG d 831 139 L (.ref a :: st) h Q = zG d 831 142 L (zR h a 0 :: st) h Q := g_gR rfl hT
theorem g831_142 : zG d 831 142 L st h Q = zG d 831 144 L (.int 62 :: st) h Q := g_c rfl
theorem g831_144 (hT : (zT h b).1 = 20) (hi : zin i (zT h b).2) : zG d 831 144 L (.int i :: .ref b :: st) h Q = zG d 831 145 L (.int (zI h b i.toNatClampNeg) :: st) h Q := g_ia rfl hT hi
theorem g831_145 : zG d 831 145 L st h Q = zG d 831 146 L (.int 4 :: st) h Q := g_c rfl
theorem g831_146 (hz : ¬ z = 0) : zG d 831 146 L (.int z :: .int x :: st) h Q = zG d 831 147 L (.int (x - x / z * z) :: st) h Q := g_d (f := fun x z => x - x / z * z) rfl hz
theorem g831_147 : zG d 831 147 L (.int z :: .int x :: st) h Q = zG d 831 148 L (.int (x + z) :: st) h Q := g_b (f := fun x z => x + z) rfl
theorem g831_148 {s0 : Int32} (hT : (zT h a).1 = 8) : zG d 831 148 L [v1, v0, .ref a, .int s0] h Q = zCall d 808 [.ref a, v0, v1] h (fun v h1 => zG d 831 151 L (zpush v [.int s0]) h1 Q) := g_cV rfl rfl rfl rfl (Nat.le_of_ble_eq_true rfl) hT
theorem g831_151 : zG d 831 151 L (.int z :: .int x :: st) h Q = zG d 831 152 L (.int (x + z) :: st) h Q := g_b (f := fun x z => x + z) rfl
theorem g831_152 : zG d 831 152 L [.int x] h Q = Q (some (.int x)) h := g_rI (ok := fun _ => True) rfl trivial
theorem g831_153 : zG d 831 153 (some (.ref a) :: L) st h Q = zG d 831 154 (some (.ref a) :: L) (.ref a :: st) h Q := g_ldA rfl rfl
theorem g831_154 (hT : zT h a = (8, 29)) : zG d 831 154 L (.ref a :: st) h Q = zG d 831 157 L (.int (zI h a 15) :: st) h Q := g_gI rfl hT
theorem g831_157 : zG d 831 157 L [.int x] h Q = Q (some (.int x)) h := g_rI (ok := fun _ => True) rfl trivial
theorem k831 {x0 : Int32} : zCall (d + 1) 831 [.ref a, .int x0] h Q = zG d 831 0 [some (.ref a), some (.int x0), none, none] [] h Q := zCall_k (Nat.le_of_ble_eq_true rfl) rfl
theorem g832_0 : zG d 832 0 (some (.ref a) :: L) st h Q = zG d 832 1 (some (.ref a) :: L) (.ref a :: st) h Q := g_ldA rfl rfl
theorem g832_1 : zG d 832 1 (l0 :: some (.int x) :: L) st h Q = zG d 832 2 (l0 :: some (.int x) :: L) (.int x :: st) h Q := g_ldI rfl rfl
theorem g832_2 : zG d 832 2 L st h Q = zG d 832 3 L (.int 3 :: st) h Q := g_c rfl
theorem g832_3 (hT : (zT h a).1 = 8) : zG d 832 3 L [v1, v0, .ref a] h Q = zCall d 808 [.ref a, v0, v1] h (fun v h1 => zG d 832 6 L (zpush v []) h1 Q) := g_cV rfl rfl rfl rfl (Nat.le_of_ble_eq_true rfl) hT
theorem g832_6 : zG d 832 6 (some (.ref a) :: L) st h Q = zG d 832 7 (some (.ref a) :: L) (.ref a :: st) h Q := g_ldA rfl rfl
theorem g832_7 : zG d 832 7 (l0 :: some (.int x) :: L) st h Q = zG d 832 8 (l0 :: some (.int x) :: L) (.int x :: st) h Q := g_ldI rfl rfl
theorem g832_8 : zG d 832 8 L st h Q = zG d 832 9 L (.int 4 :: st) h Q := g_c rfl
theorem g832_9 {s0 : Int32} (hT : (zT h a).1 = 8) : zG d 832 9 L [v1, v0, .ref a, .int s0] h Q = zCall d 808 [.ref a, v0, v1] h (fun v h1 => zG d 832 12 L (zpush v [.int s0]) h1 Q) := g_cV rfl rfl rfl rfl (Nat.le_of_ble_eq_true rfl) hT
theorem g832_12 : zG d 832 12 L st h Q = zG d 832 13 L (.int 1 :: st) h Q := g_c rfl
theorem g832_13 : zG d 832 13 L (.int z :: .int x :: st) h Q = if ¬ x = z then zG d 832 20 L st h Q else zG d 832 16 L st h Q := g_i2 (P := fun x z => ¬ x = z) rfl
theorem g832_16 : zG d 832 16 L st h Q = zG d 832 17 L (.int (-1) :: st) h Q := g_c rfl
theorem g832_17 : zG d 832 17 L st h Q = zG d 832 21 L st h Q := g_go rfl
theorem g832_20 : zG d 832 20 L st h Q = zG d 832 21 L (.int 1 :: st) h Q := g_c rfl
theorem g832_21 : zG d 832 21 L (.int z :: .int x :: st) h Q = zG d 832 22 L (.int (x + z) :: st) h Q := g_b (f := fun x z => x + z) rfl
theorem g832_22 : zG d 832 22 (l0 :: l1 :: l2 :: L) (.int x :: st) h Q = zG d 832 23 (l0 :: kl l1 :: some (.int x) :: L) st h Q := g_stI rfl (by simp) rfl
theorem g832_23 : zG d 832 23 (some (.ref a) :: L) st h Q = zG d 832 24 (some (.ref a) :: L) (.ref a :: st) h Q := g_ldA rfl rfl
theorem g832_24 : zG d 832 24 (l0 :: some (.int x) :: L) st h Q = zG d 832 25 (l0 :: some (.int x) :: L) (.int x :: st) h Q := g_ldI rfl rfl
theorem g832_25 : zG d 832 25 L st h Q = zG d 832 26 L (.int 3 :: st) h Q := g_c rfl
theorem g832_26 : zG d 832 26 (l0 :: l1 :: some (.int x) :: L) st h Q = zG d 832 27 (l0 :: l1 :: some (.int x) :: L) (.int x :: st) h Q := g_ldI rfl rfl
theorem g832_27 (hT : (zT h a).1 = 8) : zG d 832 27 L [v2, v1, v0, .ref a] h Q = zCall d 809 [.ref a, v0, v1, v2] h (fun v h1 => zG d 832 30 L (zpush v []) h1 Q) := g_cV rfl rfl rfl rfl (Nat.le_of_ble_eq_true rfl) hT
theorem g832_30 : zG d 832 30 L (.int x :: st) h Q = zG d 832 31 L st h Q := g_popI rfl
theorem g832_31 : zG d 832 31 (l0 :: l1 :: some (.int x) :: L) st h Q = zG d 832 32 (l0 :: l1 :: some (.int x) :: L) (.int x :: st) h Q := g_ldI rfl rfl
theorem g832_32 : zG d 832 32 L (.int x :: st) h Q = if ¬ x = 0 then zG d 832 43 L st h Q else zG d 832 35 L st h Q := g_i1 (P := fun x => ¬ x = 0) rfl
theorem g832_35 : zG d 832 35 (some (.ref a) :: L) st h Q = zG d 832 36 (some (.ref a) :: L) (.ref a :: st) h Q := g_ldA rfl rfl
theorem g832_36 : zG d 832 36 (l0 :: some (.int x) :: L) st h Q = zG d 832 37 (l0 :: some (.int x) :: L) (.int x :: st) h Q := g_ldI rfl rfl
theorem g832_37 : zG d 832 37 L st h Q = zG d 832 38 L (.int 4 :: st) h Q := g_c rfl
theorem g832_38 : zG d 832 38 L st h Q = zG d 832 39 L (.int 0 :: st) h Q := g_c rfl
theorem g832_39 (hT : (zT h a).1 = 8) : zG d 832 39 L [v2, v1, v0, .ref a] h Q = zCall d 809 [.ref a, v0, v1, v2] h (fun v h1 => zG d 832 42 L (zpush v []) h1 Q) := g_cV rfl rfl rfl rfl (Nat.le_of_ble_eq_true rfl) hT
theorem g832_42 : zG d 832 42 L (.int x :: st) h Q = zG d 832 43 L st h Q := g_popI rfl
theorem g832_43 : zG d 832 43 (l0 :: l1 :: some (.int x) :: L) st h Q = zG d 832 44 (l0 :: l1 :: some (.int x) :: L) (.int x :: st) h Q := g_ldI rfl rfl
theorem g832_44 : zG d 832 44 L st h Q = zG d 832 45 L (.int 5 :: st) h Q := g_c rfl
theorem g832_45 : zG d 832 45 L (.int z :: .int x :: st) h Q = if ¬ x = z then zG d 832 142 L st h Q else zG d 832 48 L st h Q := g_i2 (P := fun x z => ¬ x = z) rfl
theorem g832_48 : zG d 832 48 (some (.ref a) :: L) st h Q = zG d 832 49 (some (.ref a) :: L) (.ref a :: st) h Q := g_ldA rfl rfl
theorem g832_49 : zG d 832 49 (l0 :: some (.int x) :: L) st h Q = zG d 832 50 (l0 :: some (.int x) :: L) (.int x :: st) h Q := g_ldI rfl rfl
theorem g832_50 : zG d 832 50 L st h Q = zG d 832 51 L (.int 4 :: st) h Q := g_c rfl
theorem g832_51 (hT : (zT h a).1 = 8) : zG d 832 51 L [v1, v0, .ref a] h Q = zCall d 808 [.ref a, v0, v1] h (fun v h1 => zG d 832 54 L (zpush v []) h1 Q) := g_cV rfl rfl rfl rfl (Nat.le_of_ble_eq_true rfl) hT
theorem g832_54 : zG d 832 54 L (.int x :: st) h Q = if ¬ x = 0 then zG d 832 142 L st h Q else zG d 832 57 L st h Q := g_i1 (P := fun x => ¬ x = 0) rfl
theorem g832_57 : zG d 832 57 (some (.ref a) :: L) st h Q = zG d 832 58 (some (.ref a) :: L) (.ref a :: st) h Q := g_ldA rfl rfl
theorem g832_58 : zG d 832 58 (l0 :: some (.int x) :: L) st h Q = zG d 832 59 (l0 :: some (.int x) :: L) (.int x :: st) h Q := g_ldI rfl rfl
theorem g832_59 (hT : (zT h a).1 = 8) : zG d 832 59 L [v0, .ref a] h Q = zCall d 831 [.ref a, v0] h (fun v h1 => zG d 832 62 L (zpush v []) h1 Q) := g_cV rfl rfl rfl rfl (Nat.le_of_ble_eq_true rfl) hT
theorem g832_62 : zG d 832 62 (l0 :: l1 :: l2 :: l3 :: L) (.int x :: st) h Q = zG d 832 63 (l0 :: l1 :: kl l2 :: some (.int x) :: L) st h Q := g_stI rfl (by simp) rfl
theorem g832_63 : zG d 832 63 (l0 :: l1 :: l2 :: some (.int x) :: L) st h Q = zG d 832 64 (l0 :: l1 :: l2 :: some (.int x) :: L) (.int x :: st) h Q := g_ldI rfl rfl
theorem g832_64 : zG d 832 64 L (.int x :: st) h Q = if x ≤ 0 then zG d 832 142 L st h Q else zG d 832 67 L st h Q := g_i1 (P := fun x => x ≤ 0) rfl
theorem g832_67 : zG d 832 67 (l0 :: l1 :: l2 :: some (.int x) :: L) st h Q = zG d 832 68 (l0 :: l1 :: l2 :: some (.int x) :: L) (.int x :: st) h Q := g_ldI rfl rfl
theorem g832_68 : zG d 832 68 (some (.ref a) :: L) st h Q = zG d 832 69 (some (.ref a) :: L) (.ref a :: st) h Q := g_ldA rfl rfl
theorem g832_69 (hT : zT h a = (8, 29)) : zG d 832 69 L (.ref a :: st) h Q = zG d 832 72 L (zR h a 0 :: st) h Q := g_gR rfl hT
theorem g832_72 : zG d 832 72 L st h Q = zG d 832 74 L (.int 61 :: st) h Q := g_c rfl
theorem g832_74 (hT : (zT h b).1 = 20) (hi : zin i (zT h b).2) : zG d 832 74 L (.int i :: .ref b :: st) h Q = zG d 832 75 L (.int (zI h b i.toNatClampNeg) :: st) h Q := g_ia rfl hT hi
theorem g832_75 : zG d 832 75 L (.int z :: .int x :: st) h Q = if z < x then zG d 832 142 L st h Q else zG d 832 78 L st h Q := g_i2 (P := fun x z => z < x) rfl
theorem g832_78 : zG d 832 78 (l0 :: l1 :: l2 :: some (.int x) :: L) st h Q = zG d 832 79 (l0 :: l1 :: l2 :: some (.int x) :: L) (.int x :: st) h Q := g_ldI rfl rfl
theorem g832_79 : zG d 832 79 (some (.ref a) :: L) st h Q = zG d 832 80 (some (.ref a) :: L) (.ref a :: st) h Q := g_ldA rfl rfl
theorem g832_80 : zG d 832 80 (l0 :: some (.int x) :: L) st h Q = zG d 832 81 (l0 :: some (.int x) :: L) (.int x :: st) h Q := g_ldI rfl rfl
theorem g832_81 : zG d 832 81 L st h Q = zG d 832 82 L (.int 2 :: st) h Q := g_c rfl
theorem g832_82 {s0 : Int32} (hT : (zT h a).1 = 8) : zG d 832 82 L [v1, v0, .ref a, .int s0] h Q = zCall d 808 [.ref a, v0, v1] h (fun v h1 => zG d 832 85 L (zpush v [.int s0]) h1 Q) := g_cV rfl rfl rfl rfl (Nat.le_of_ble_eq_true rfl) hT
theorem g832_85 : zG d 832 85 L (.int z :: .int x :: st) h Q = if x < z then zG d 832 142 L st h Q else zG d 832 88 L st h Q := g_i2 (P := fun x z => x < z) rfl
theorem g832_88 : zG d 832 88 (some (.ref a) :: L) st h Q = zG d 832 89 (some (.ref a) :: L) (.ref a :: st) h Q := g_ldA rfl rfl
theorem g832_89 (hT : zT h a = (8, 29)) : zG d 832 89 L (.ref a :: st) h Q = zG d 832 92 L (zR h a 0 :: st) h Q := g_gR rfl hT
theorem g832_92 : zG d 832 92 L st h Q = zG d 832 94 L (.int 61 :: st) h Q := g_c rfl
theorem g832_94 : zG d 832 94 L (.int x :: .ref a :: st) h Q = zG d 832 95 L (.int x :: .ref a :: .int x :: .ref a :: st) h Q := g_dup2 rfl
theorem g832_95 (hT : (zT h b).1 = 20) (hi : zin i (zT h b).2) : zG d 832 95 L (.int i :: .ref b :: st) h Q = zG d 832 96 L (.int (zI h b i.toNatClampNeg) :: st) h Q := g_ia rfl hT hi
theorem g832_96 : zG d 832 96 (l0 :: l1 :: l2 :: some (.int x) :: L) st h Q = zG d 832 97 (l0 :: l1 :: l2 :: some (.int x) :: L) (.int x :: st) h Q := g_ldI rfl rfl
theorem g832_97 : zG d 832 97 L (.int z :: .int x :: st) h Q = zG d 832 98 L (.int (x - z) :: st) h Q := g_b (f := fun x z => x - z) rfl
theorem g832_98 (hT : (zT h b).1 = 20) (hi : zin i (zT h b).2) : zG d 832 98 L (.int x :: .int i :: .ref b :: st) h Q = zG d 832 99 L st (wI h b i.toNatClampNeg (x)) Q := g_is (f1 := fun x => x) rfl hT hi
theorem g832_99 : zG d 832 99 (some (.ref a) :: L) st h Q = zG d 832 100 (some (.ref a) :: L) (.ref a :: st) h Q := g_ldA rfl rfl
theorem g832_100 : zG d 832 100 (l0 :: some (.int x) :: L) st h Q = zG d 832 101 (l0 :: some (.int x) :: L) (.int x :: st) h Q := g_ldI rfl rfl
theorem g832_101 : zG d 832 101 L st h Q = zG d 832 102 L (.int 4 :: st) h Q := g_c rfl
theorem g832_102 : zG d 832 102 L st h Q = zG d 832 103 L (.int 1 :: st) h Q := g_c rfl
theorem g832_103 (hT : (zT h a).1 = 8) : zG d 832 103 L [v2, v1, v0, .ref a] h Q = zCall d 809 [.ref a, v0, v1, v2] h (fun v h1 => zG d 832 106 L (zpush v []) h1 Q) := g_cV rfl rfl rfl rfl (Nat.le_of_ble_eq_true rfl) hT
theorem g832_106 : zG d 832 106 L (.int x :: st) h Q = zG d 832 107 L st h Q := g_popI rfl
theorem g832_107 : zG d 832 107 (some (.ref a) :: L) st h Q = zG d 832 108 (some (.ref a) :: L) (.ref a :: st) h Q := g_ldA rfl rfl
theorem g832_108 : zG d 832 108 (l0 :: some (.int x) :: L) st h Q = zG d 832 109 (l0 :: some (.int x) :: L) (.int x :: st) h Q := g_ldI rfl rfl
theorem g832_109 : zG d 832 109 L st h Q = zG d 832 110 L (.int 5 :: st) h Q := g_c rfl
theorem g832_110 : zG d 832 110 (some (.ref a) :: L) st h Q = zG d 832 111 (some (.ref a) :: L) (.ref a :: st) h Q := g_ldA rfl rfl
theorem g832_111 : zG d 832 111 (l0 :: some (.int x) :: L) st h Q = zG d 832 112 (l0 :: some (.int x) :: L) (.int x :: st) h Q := g_ldI rfl rfl
theorem g832_112 : zG d 832 112 L st h Q = zG d 832 113 L (.int 5 :: st) h Q := g_c rfl
theorem g832_113 {s0 s1 : Int32} {s2 : Nat} (hT : (zT h a).1 = 8) : zG d 832 113 L [v1, v0, .ref a, .int s0, .int s1, .ref s2] h Q = zCall d 808 [.ref a, v0, v1] h (fun v h1 => zG d 832 116 L (zpush v [.int s0, .int s1, .ref s2]) h1 Q) := g_cV rfl rfl rfl rfl (Nat.le_of_ble_eq_true rfl) hT
theorem g832_116 : zG d 832 116 L st h Q = zG d 832 117 L (.int 1 :: st) h Q := g_c rfl
theorem g832_117 : zG d 832 117 L (.int z :: .int x :: st) h Q = zG d 832 118 L (.int (x + z) :: st) h Q := g_b (f := fun x z => x + z) rfl
theorem g832_118 (hT : (zT h a).1 = 8) : zG d 832 118 L [v2, v1, v0, .ref a] h Q = zCall d 809 [.ref a, v0, v1, v2] h (fun v h1 => zG d 832 121 L (zpush v []) h1 Q) := g_cV rfl rfl rfl rfl (Nat.le_of_ble_eq_true rfl) hT
theorem g832_121 : zG d 832 121 L (.int x :: st) h Q = zG d 832 122 L st h Q := g_popI rfl
theorem g832_122 : zG d 832 122 (some (.ref a) :: L) st h Q = zG d 832 123 (some (.ref a) :: L) (.ref a :: st) h Q := g_ldA rfl rfl
theorem g832_123 : zG d 832 123 (l0 :: some (.int x) :: L) st h Q = zG d 832 124 (l0 :: some (.int x) :: L) (.int x :: st) h Q := g_ldI rfl rfl
theorem g832_124 : zG d 832 124 L st h Q = zG d 832 125 L (.int 2 :: st) h Q := g_c rfl
theorem g832_125 : zG d 832 125 L st h Q = zG d 832 127 L (.int 99 :: st) h Q := g_c rfl
theorem g832_127 : zG d 832 127 (some (.ref a) :: L) st h Q = zG d 832 128 (some (.ref a) :: L) (.ref a :: st) h Q := g_ldA rfl rfl
theorem g832_128 : zG d 832 128 (l0 :: some (.int x) :: L) st h Q = zG d 832 129 (l0 :: some (.int x) :: L) (.int x :: st) h Q := g_ldI rfl rfl
theorem g832_129 : zG d 832 129 L st h Q = zG d 832 130 L (.int 2 :: st) h Q := g_c rfl
theorem g832_130 {s0 s1 s2 : Int32} {s3 : Nat} (hT : (zT h a).1 = 8) : zG d 832 130 L [v1, v0, .ref a, .int s0, .int s1, .int s2, .ref s3] h Q = zCall d 808 [.ref a, v0, v1] h (fun v h1 => zG d 832 133 L (zpush v [.int s0, .int s1, .int s2, .ref s3]) h1 Q) := g_cV rfl rfl rfl rfl (Nat.le_of_ble_eq_true rfl) hT
theorem g832_133 : zG d 832 133 L st h Q = zG d 832 134 L (.int 3 :: st) h Q := g_c rfl
theorem g832_134 : zG d 832 134 L (.int z :: .int x :: st) h Q = zG d 832 135 L (.int (x + z) :: st) h Q := g_b (f := fun x z => x + z) rfl
theorem g832_135 (h4 : st.length ≤ 4) : zG d 832 135 L (.int z :: .int x :: st) h Q = zG d 832 138 L (.int (zmin x z) :: st) h Q := g_mm (f := fun x z => zmin x z) rfl h4
theorem g832_138 (hT : (zT h a).1 = 8) : zG d 832 138 L [v2, v1, v0, .ref a] h Q = zCall d 809 [.ref a, v0, v1, v2] h (fun v h1 => zG d 832 141 L (zpush v []) h1 Q) := g_cV rfl rfl rfl rfl (Nat.le_of_ble_eq_true rfl) hT
theorem g832_141 : zG d 832 141 L (.int x :: st) h Q = zG d 832 142 L st h Q := g_popI rfl
theorem g832_142 : zG d 832 142 L [] h Q = Q none h := g_rV rfl
theorem k832 {x0 : Int32} : zCall (d + 1) 832 [.ref a, .int x0] h Q = zG d 832 0 [some (.ref a), some (.int x0), none, none] [] h Q := zCall_k (Nat.le_of_ble_eq_true rfl) rfl
theorem g833_0 : zG d 833 0 L st h Q = zG d 833 1 L (.int 0 :: st) h Q := g_c rfl
theorem g833_1 : zG d 833 1 (l0 :: l1 :: L) (.int x :: st) h Q = zG d 833 2 (kl l0 :: some (.int x) :: L) st h Q := g_stI rfl (by simp) rfl
theorem g833_2 : zG d 833 2 (l0 :: some (.int x) :: L) st h Q = zG d 833 3 (l0 :: some (.int x) :: L) (.int x :: st) h Q := g_ldI rfl rfl
theorem g833_3 : zG d 833 3 (some (.ref a) :: L) st h Q = zG d 833 4 (some (.ref a) :: L) (.ref a :: st) h Q := g_ldA rfl rfl
theorem g833_4 (hT : zT h a = (8, 29)) : zG d 833 4 L (.ref a :: st) h Q = zG d 833 7 L (zR h a 0 :: st) h Q := g_gR rfl hT
theorem g833_7 : zG d 833 7 L st h Q = zG d 833 9 L (.int 60 :: st) h Q := g_c rfl
theorem g833_9 (hT : (zT h b).1 = 20) (hi : zin i (zT h b).2) : zG d 833 9 L (.int i :: .ref b :: st) h Q = zG d 833 10 L (.int (zI h b i.toNatClampNeg) :: st) h Q := g_ia rfl hT hi
theorem g833_10 : zG d 833 10 L (.int z :: .int x :: st) h Q = if z ≤ x then zG d 833 35 L st h Q else zG d 833 13 L st h Q := g_i2 (P := fun x z => z ≤ x) rfl
theorem g833_13 : zG d 833 13 (some (.ref a) :: L) st h Q = zG d 833 14 (some (.ref a) :: L) (.ref a :: st) h Q := g_ldA rfl rfl
theorem g833_14 : zG d 833 14 (l0 :: some (.int x) :: L) st h Q = zG d 833 15 (l0 :: some (.int x) :: L) (.int x :: st) h Q := g_ldI rfl rfl
theorem g833_15 : zG d 833 15 L st h Q = zG d 833 16 L (.int 3 :: st) h Q := g_c rfl
theorem g833_16 (hT : (zT h a).1 = 8) : zG d 833 16 L [v1, v0, .ref a] h Q = zCall d 808 [.ref a, v0, v1] h (fun v h1 => zG d 833 19 L (zpush v []) h1 Q) := g_cV rfl rfl rfl rfl (Nat.le_of_ble_eq_true rfl) hT
theorem g833_19 : zG d 833 19 L st h Q = zG d 833 21 L (.int 10 :: st) h Q := g_c rfl
theorem g833_21 : zG d 833 21 L (.int z :: .int x :: st) h Q = if x = z then zG d 833 29 L st h Q else zG d 833 24 L st h Q := g_i2 (P := fun x z => x = z) rfl
theorem g833_24 : zG d 833 24 (some (.ref a) :: L) st h Q = zG d 833 25 (some (.ref a) :: L) (.ref a :: st) h Q := g_ldA rfl rfl
theorem g833_25 : zG d 833 25 (l0 :: some (.int x) :: L) st h Q = zG d 833 26 (l0 :: some (.int x) :: L) (.int x :: st) h Q := g_ldI rfl rfl
theorem g833_26 (hT : (zT h a).1 = 8) : zG d 833 26 L [v0, .ref a] h Q = zCall d 832 [.ref a, v0] h (fun v h1 => zG d 833 29 L (zpush v []) h1 Q) := g_cV rfl rfl rfl rfl (Nat.le_of_ble_eq_true rfl) hT
theorem g833_29 : zG d 833 29 (l0 :: some (.int x) :: L) st h Q = zG d 833 32 (kl l0 :: some (.int (x + 1)) :: L) st h Q := g_inc rfl rfl rfl
theorem g833_32 : zG d 833 32 L st h Q = zG d 833 2 L st h Q := g_go rfl
theorem g833_35 : zG d 833 35 (some (.ref a) :: L) st h Q = zG d 833 36 (some (.ref a) :: L) (.ref a :: st) h Q := g_ldA rfl rfl
theorem g833_36 (hT : zT h a = (8, 29)) : zG d 833 36 L (.ref a :: st) h Q = zG d 833 39 L (zR h a 0 :: st) h Q := g_gR rfl hT
theorem g833_39 : zG d 833 39 L st h Q = zG d 833 41 L (.int 62 :: st) h Q := g_c rfl
theorem g833_41 : zG d 833 41 L (.int x :: .ref a :: st) h Q = zG d 833 42 L (.int x :: .ref a :: .int x :: .ref a :: st) h Q := g_dup2 rfl
theorem g833_42 (hT : (zT h b).1 = 20) (hi : zin i (zT h b).2) : zG d 833 42 L (.int i :: .ref b :: st) h Q = zG d 833 43 L (.int (zI h b i.toNatClampNeg) :: st) h Q := g_ia rfl hT hi
theorem g833_43 : zG d 833 43 L st h Q = zG d 833 44 L (.int 1 :: st) h Q := g_c rfl
theorem g833_44 : zG d 833 44 L (.int z :: .int x :: st) h Q = zG d 833 45 L (.int (x + z) :: st) h Q := g_b (f := fun x z => x + z) rfl
theorem g833_45 (hT : (zT h b).1 = 20) (hi : zin i (zT h b).2) : zG d 833 45 L (.int x :: .int i :: .ref b :: st) h Q = zG d 833 46 L st (wI h b i.toNatClampNeg (x)) Q := g_is (f1 := fun x => x) rfl hT hi
theorem g833_46 : zG d 833 46 L [] h Q = Q none h := g_rV rfl
theorem k833  : zCall (d + 1) 833 [.ref a] h Q = zG d 833 0 [some (.ref a), none] [] h Q := zCall_k (Nat.le_of_ble_eq_true rfl) rfl
theorem g834_0 : zG d 834 0 L st h Q = zG d 834 1 L (.int 0 :: st) h Q := g_c rfl
theorem g834_1 : zG d 834 1 (l0 :: l1 :: l2 :: L) (.int x :: st) h Q = zG d 834 2 (l0 :: kl l1 :: some (.int x) :: L) st h Q := g_stI rfl (by simp) rfl
theorem g834_2 : zG d 834 2 (l0 :: l1 :: some (.int x) :: L) st h Q = zG d 834 3 (l0 :: l1 :: some (.int x) :: L) (.int x :: st) h Q := g_ldI rfl rfl
theorem g834_3 : zG d 834 3 (l0 :: some (.int x) :: L) st h Q = zG d 834 4 (l0 :: some (.int x) :: L) (.int x :: st) h Q := g_ldI rfl rfl
theorem g834_4 : zG d 834 4 L (.int z :: .int x :: st) h Q = if z ≤ x then zG d 834 17 L st h Q else zG d 834 7 L st h Q := g_i2 (P := fun x z => z ≤ x) rfl
theorem g834_7 : zG d 834 7 (some (.ref a) :: L) st h Q = zG d 834 8 (some (.ref a) :: L) (.ref a :: st) h Q := g_ldA rfl rfl
theorem g834_8 (hT : (zT h a).1 = 8) : zG d 834 8 L [.ref a] h Q = zCall d 833 [.ref a] h (fun v h1 => zG d 834 11 L (zpush v []) h1 Q) := g_cV rfl rfl rfl rfl (Nat.le_of_ble_eq_true rfl) hT
theorem g834_11 : zG d 834 11 (l0 :: l1 :: some (.int x) :: L) st h Q = zG d 834 14 (l0 :: kl l1 :: some (.int (x + 1)) :: L) st h Q := g_inc rfl rfl rfl
theorem g834_14 : zG d 834 14 L st h Q = zG d 834 2 L st h Q := g_go rfl
theorem g834_17 : zG d 834 17 L [] h Q = Q none h := g_rV rfl
theorem k834 {x0 : Int32} : zCall (d + 1) 834 [.ref a, .int x0] h Q = zG d 834 0 [some (.ref a), some (.int x0), none] [] h Q := zCall_k (Nat.le_of_ble_eq_true rfl) rfl
theorem g835_0 : zG d 835 0 L st h Q = zG d 835 1 L (.int 0 :: st) h Q := g_c rfl
theorem g835_1 : zG d 835 1 (l0 :: l1 :: l2 :: L) (.int x :: st) h Q = zG d 835 2 (l0 :: kl l1 :: some (.int x) :: L) st h Q := g_stI rfl (by simp) rfl
theorem g835_2 : zG d 835 2 L st h Q = zG d 835 3 L (.int 0 :: st) h Q := g_c rfl
theorem g835_3 : zG d 835 3 (l0 :: l1 :: l2 :: l3 :: L) (.int x :: st) h Q = zG d 835 4 (l0 :: l1 :: kl l2 :: some (.int x) :: L) st h Q := g_stI rfl (by simp) rfl
theorem g835_4 : zG d 835 4 (l0 :: l1 :: l2 :: some (.int x) :: L) st h Q = zG d 835 5 (l0 :: l1 :: l2 :: some (.int x) :: L) (.int x :: st) h Q := g_ldI rfl rfl
theorem g835_5 : zG d 835 5 (some (.ref a) :: L) st h Q = zG d 835 6 (some (.ref a) :: L) (.ref a :: st) h Q := g_ldA rfl rfl
theorem g835_6 (hT : zT h a = (8, 29)) : zG d 835 6 L (.ref a :: st) h Q = zG d 835 9 L (zR h a 0 :: st) h Q := g_gR rfl hT
theorem g835_9 : zG d 835 9 L st h Q = zG d 835 11 L (.int 60 :: st) h Q := g_c rfl
theorem g835_11 (hT : (zT h b).1 = 20) (hi : zin i (zT h b).2) : zG d 835 11 L (.int i :: .ref b :: st) h Q = zG d 835 12 L (.int (zI h b i.toNatClampNeg) :: st) h Q := g_ia rfl hT hi
theorem g835_12 : zG d 835 12 L (.int z :: .int x :: st) h Q = if z ≤ x then zG d 835 41 L st h Q else zG d 835 15 L st h Q := g_i2 (P := fun x z => z ≤ x) rfl
theorem g835_15 : zG d 835 15 (l0 :: l1 :: some (.int x) :: L) st h Q = zG d 835 16 (l0 :: l1 :: some (.int x) :: L) (.int x :: st) h Q := g_ldI rfl rfl
theorem g835_16 : zG d 835 16 (some (.ref a) :: L) st h Q = zG d 835 17 (some (.ref a) :: L) (.ref a :: st) h Q := g_ldA rfl rfl
theorem g835_17 : zG d 835 17 (l0 :: l1 :: l2 :: some (.int x) :: L) st h Q = zG d 835 18 (l0 :: l1 :: l2 :: some (.int x) :: L) (.int x :: st) h Q := g_ldI rfl rfl
theorem g835_18 : zG d 835 18 L st h Q = zG d 835 19 L (.int 3 :: st) h Q := g_c rfl
theorem g835_19 {s0 : Int32} (hT : (zT h a).1 = 8) : zG d 835 19 L [v1, v0, .ref a, .int s0] h Q = zCall d 808 [.ref a, v0, v1] h (fun v h1 => zG d 835 22 L (zpush v [.int s0]) h1 Q) := g_cV rfl rfl rfl rfl (Nat.le_of_ble_eq_true rfl) hT
theorem g835_22 : zG d 835 22 (l0 :: some (.int x) :: L) st h Q = zG d 835 23 (l0 :: some (.int x) :: L) (.int x :: st) h Q := g_ldI rfl rfl
theorem g835_23 : zG d 835 23 L (.int z :: .int x :: st) h Q = if ¬ x = z then zG d 835 32 L st h Q else zG d 835 26 L st h Q := g_i2 (P := fun x z => ¬ x = z) rfl
theorem g835_26 : zG d 835 26 L st h Q = zG d 835 27 L (.int 1 :: st) h Q := g_c rfl
theorem g835_27 : zG d 835 27 (l0 :: l1 :: l2 :: some (.int x) :: L) st h Q = zG d 835 28 (l0 :: l1 :: l2 :: some (.int x) :: L) (.int x :: st) h Q := g_ldI rfl rfl
theorem g835_28 : zG d 835 28 L (.int z :: .int x :: st) h Q = zG d 835 29 L (.int (x <<< (z &&& 31)) :: st) h Q := g_b (f := fun x z => x <<< (z &&& 31)) rfl
theorem g835_29 : zG d 835 29 L st h Q = zG d 835 33 L st h Q := g_go rfl
theorem g835_32 : zG d 835 32 L st h Q = zG d 835 33 L (.int 0 :: st) h Q := g_c rfl
theorem g835_33 : zG d 835 33 L (.int z :: .int x :: st) h Q = zG d 835 34 L (.int (x ||| z) :: st) h Q := g_b (f := fun x z => x ||| z) rfl
theorem g835_34 : zG d 835 34 (l0 :: l1 :: l2 :: L) (.int x :: st) h Q = zG d 835 35 (l0 :: kl l1 :: some (.int x) :: L) st h Q := g_stI rfl (by simp) rfl
theorem g835_35 : zG d 835 35 (l0 :: l1 :: l2 :: some (.int x) :: L) st h Q = zG d 835 38 (l0 :: l1 :: kl l2 :: some (.int (x + 1)) :: L) st h Q := g_inc rfl rfl rfl
theorem g835_38 : zG d 835 38 L st h Q = zG d 835 4 L st h Q := g_go rfl
theorem g835_41 : zG d 835 41 (l0 :: l1 :: some (.int x) :: L) st h Q = zG d 835 42 (l0 :: l1 :: some (.int x) :: L) (.int x :: st) h Q := g_ldI rfl rfl
theorem g835_42 : zG d 835 42 L [.int x] h Q = Q (some (.int x)) h := g_rI (ok := fun _ => True) rfl trivial
theorem k835 {x0 : Int32} : zCall (d + 1) 835 [.ref a, .int x0] h Q = zG d 835 0 [some (.ref a), some (.int x0), none, none] [] h Q := zCall_k (Nat.le_of_ble_eq_true rfl) rfl
theorem g836_0 : zG d 836 0 L st h Q = zG d 836 1 L (.int 0 :: st) h Q := g_c rfl
theorem g836_1 : zG d 836 1 (l0 :: l1 :: L) (.int x :: st) h Q = zG d 836 2 (kl l0 :: some (.int x) :: L) st h Q := g_stI rfl (by simp) rfl
theorem g836_2 : zG d 836 2 L st h Q = zG d 836 3 L (.int 0 :: st) h Q := g_c rfl
theorem g836_3 : zG d 836 3 (l0 :: l1 :: l2 :: L) (.int x :: st) h Q = zG d 836 4 (l0 :: kl l1 :: some (.int x) :: L) st h Q := g_stI rfl (by simp) rfl
theorem g836_4 : zG d 836 4 (l0 :: l1 :: some (.int x) :: L) st h Q = zG d 836 5 (l0 :: l1 :: some (.int x) :: L) (.int x :: st) h Q := g_ldI rfl rfl
theorem g836_5 : zG d 836 5 (some (.ref a) :: L) st h Q = zG d 836 6 (some (.ref a) :: L) (.ref a :: st) h Q := g_ldA rfl rfl
theorem g836_6 (hT : zT h a = (8, 29)) : zG d 836 6 L (.ref a :: st) h Q = zG d 836 9 L (zR h a 0 :: st) h Q := g_gR rfl hT
theorem g836_9 : zG d 836 9 L st h Q = zG d 836 11 L (.int 60 :: st) h Q := g_c rfl
theorem g836_11 (hT : (zT h b).1 = 20) (hi : zin i (zT h b).2) : zG d 836 11 L (.int i :: .ref b :: st) h Q = zG d 836 12 L (.int (zI h b i.toNatClampNeg) :: st) h Q := g_ia rfl hT hi
theorem g836_12 : zG d 836 12 L (.int z :: .int x :: st) h Q = if z ≤ x then zG d 836 32 L st h Q else zG d 836 15 L st h Q := g_i2 (P := fun x z => z ≤ x) rfl
theorem g836_15 : zG d 836 15 (l0 :: some (.int x) :: L) st h Q = zG d 836 16 (l0 :: some (.int x) :: L) (.int x :: st) h Q := g_ldI rfl rfl
theorem g836_16 : zG d 836 16 (some (.ref a) :: L) st h Q = zG d 836 17 (some (.ref a) :: L) (.ref a :: st) h Q := g_ldA rfl rfl
theorem g836_17 : zG d 836 17 (l0 :: l1 :: some (.int x) :: L) st h Q = zG d 836 18 (l0 :: l1 :: some (.int x) :: L) (.int x :: st) h Q := g_ldI rfl rfl
theorem g836_18 : zG d 836 18 L st h Q = zG d 836 19 L (.int 4 :: st) h Q := g_c rfl
theorem g836_19 {s0 : Int32} (hT : (zT h a).1 = 8) : zG d 836 19 L [v1, v0, .ref a, .int s0] h Q = zCall d 808 [.ref a, v0, v1] h (fun v h1 => zG d 836 22 L (zpush v [.int s0]) h1 Q) := g_cV rfl rfl rfl rfl (Nat.le_of_ble_eq_true rfl) hT
theorem g836_22 : zG d 836 22 (l0 :: l1 :: some (.int x) :: L) st h Q = zG d 836 23 (l0 :: l1 :: some (.int x) :: L) (.int x :: st) h Q := g_ldI rfl rfl
theorem g836_23 : zG d 836 23 L (.int z :: .int x :: st) h Q = zG d 836 24 L (.int (x <<< (z &&& 31)) :: st) h Q := g_b (f := fun x z => x <<< (z &&& 31)) rfl
theorem g836_24 : zG d 836 24 L (.int z :: .int x :: st) h Q = zG d 836 25 L (.int (x ||| z) :: st) h Q := g_b (f := fun x z => x ||| z) rfl
theorem g836_25 : zG d 836 25 (l0 :: l1 :: L) (.int x :: st) h Q = zG d 836 26 (kl l0 :: some (.int x) :: L) st h Q := g_stI rfl (by simp) rfl
theorem g836_26 : zG d 836 26 (l0 :: l1 :: some (.int x) :: L) st h Q = zG d 836 29 (l0 :: kl l1 :: some (.int (x + 1)) :: L) st h Q := g_inc rfl rfl rfl
theorem g836_29 : zG d 836 29 L st h Q = zG d 836 4 L st h Q := g_go rfl
theorem g836_32 : zG d 836 32 (l0 :: some (.int x) :: L) st h Q = zG d 836 33 (l0 :: some (.int x) :: L) (.int x :: st) h Q := g_ldI rfl rfl
theorem g836_33 : zG d 836 33 L [.int x] h Q = Q (some (.int x)) h := g_rI (ok := fun _ => True) rfl trivial
theorem k836  : zCall (d + 1) 836 [.ref a] h Q = zG d 836 0 [some (.ref a), none, none] [] h Q := zCall_k (Nat.le_of_ble_eq_true rfl) rfl
theorem g837_0 : zG d 837 0 (some (.ref a) :: L) st h Q = zG d 837 1 (some (.ref a) :: L) (.ref a :: st) h Q := g_ldA rfl rfl
theorem g837_1 (hT : zT h a = (8, 29)) : zG d 837 1 L (.ref a :: st) h Q = zG d 837 4 L (zR h a 0 :: st) h Q := g_gR rfl hT
theorem g837_4 : zG d 837 4 (some (.ref a) :: L) st h Q = zG d 837 5 (some (.ref a) :: L) (.ref a :: st) h Q := g_ldA rfl rfl
theorem g837_5 (hT : zT h a = (8, 29)) : zG d 837 5 L (.ref a :: st) h Q = zG d 837 8 L (zR h a 1 :: st) h Q := g_gR rfl hT
theorem g837_8 : zG d 837 8 L [v1, v0] h Q = zCall d 804 [v0, v1] h (fun v h1 => zG d 837 11 L (zpush v []) h1 Q) := g_cS rfl rfl (Nat.le_of_ble_eq_true rfl) rfl (Nat.le_of_ble_eq_true rfl)
theorem g837_11 : zG d 837 11 L st h Q = zG d 837 13 L (.int (-5) :: st) h Q := g_c rfl
theorem g837_13 : zG d 837 13 (l0 :: l1 :: l2 :: L) (.int x :: st) h Q = zG d 837 14 (l0 :: kl l1 :: some (.int x) :: L) st h Q := g_stI rfl (by simp) rfl
theorem g837_14 : zG d 837 14 L st h Q = zG d 837 15 L (.int 0 :: st) h Q := g_c rfl
theorem g837_15 : zG d 837 15 (l0 :: l1 :: l2 :: l3 :: L) (.int x :: st) h Q = zG d 837 16 (l0 :: l1 :: kl l2 :: some (.int x) :: L) st h Q := g_stI rfl (by simp) rfl
theorem g837_16 : zG d 837 16 (l0 :: l1 :: l2 :: some (.int x) :: L) st h Q = zG d 837 17 (l0 :: l1 :: l2 :: some (.int x) :: L) (.int x :: st) h Q := g_ldI rfl rfl
theorem g837_17 : zG d 837 17 L st h Q = zG d 837 19 L (.int 60 :: st) h Q := g_c rfl
theorem g837_19 : zG d 837 19 L (.int z :: .int x :: st) h Q = if z < x then zG d 837 56 L st h Q else zG d 837 22 L st h Q := g_i2 (P := fun x z => z < x) rfl
theorem g837_22 : zG d 837 22 (l0 :: l1 :: some (.int x) :: L) st h Q = zG d 837 23 (l0 :: l1 :: some (.int x) :: L) (.int x :: st) h Q := g_ldI rfl rfl
theorem g837_23 : zG d 837 23 L st h Q = zG d 837 25 L (.int (-5) :: st) h Q := g_c rfl
theorem g837_25 : zG d 837 25 L (.int z :: .int x :: st) h Q = if ¬ x = z then zG d 837 56 L st h Q else zG d 837 28 L st h Q := g_i2 (P := fun x z => ¬ x = z) rfl
theorem g837_28 : zG d 837 28 (some (.ref a) :: L) st h Q = zG d 837 29 (some (.ref a) :: L) (.ref a :: st) h Q := g_ldA rfl rfl
theorem g837_29 : zG d 837 29 (l0 :: some (.int x) :: L) st h Q = zG d 837 30 (l0 :: some (.int x) :: L) (.int x :: st) h Q := g_ldI rfl rfl
theorem g837_30 : zG d 837 30 L st h Q = zG d 837 31 L (.int 3 :: st) h Q := g_c rfl
theorem g837_31 (hT : (zT h a).1 = 8) : zG d 837 31 L [v1, v0, .ref a] h Q = zCall d 808 [.ref a, v0, v1] h (fun v h1 => zG d 837 34 L (zpush v []) h1 Q) := g_cV rfl rfl rfl rfl (Nat.le_of_ble_eq_true rfl) hT
theorem g837_34 : zG d 837 34 L st h Q = zG d 837 36 L (.int 10 :: st) h Q := g_c rfl
theorem g837_36 : zG d 837 36 L (.int z :: .int x :: st) h Q = if ¬ x = z then zG d 837 43 L st h Q else zG d 837 39 L st h Q := g_i2 (P := fun x z => ¬ x = z) rfl
theorem g837_39 : zG d 837 39 (l0 :: l1 :: l2 :: some (.int x) :: L) st h Q = zG d 837 40 (l0 :: l1 :: l2 :: some (.int x) :: L) (.int x :: st) h Q := g_ldI rfl rfl
theorem g837_40 : zG d 837 40 L st h Q = zG d 837 45 L st h Q := g_go rfl
theorem g837_43 : zG d 837 43 L st h Q = zG d 837 45 L (.int (-5) :: st) h Q := g_c rfl
theorem g837_45 : zG d 837 45 (l0 :: l1 :: l2 :: L) (.int x :: st) h Q = zG d 837 46 (l0 :: kl l1 :: some (.int x) :: L) st h Q := g_stI rfl (by simp) rfl
theorem g837_46 : zG d 837 46 (some (.ref a) :: L) st h Q = zG d 837 47 (some (.ref a) :: L) (.ref a :: st) h Q := g_ldA rfl rfl
theorem g837_47 (hT : (zT h a).1 = 8) : zG d 837 47 L [.ref a] h Q = zCall d 833 [.ref a] h (fun v h1 => zG d 837 50 L (zpush v []) h1 Q) := g_cV rfl rfl rfl rfl (Nat.le_of_ble_eq_true rfl) hT
theorem g837_50 : zG d 837 50 (l0 :: l1 :: l2 :: some (.int x) :: L) st h Q = zG d 837 53 (l0 :: l1 :: kl l2 :: some (.int (x + 1)) :: L) st h Q := g_inc rfl rfl rfl
theorem g837_53 : zG d 837 53 L st h Q = zG d 837 16 L st h Q := g_go rfl
theorem g837_56 : zG d 837 56 (some (.ref a) :: L) st h Q = zG d 837 57 (some (.ref a) :: L) (.ref a :: st) h Q := g_ldA rfl rfl
theorem g837_57 (hT : zT h a = (8, 29)) : zG d 837 57 L (.ref a :: st) h Q = zG d 837 60 L (zR h a 1 :: st) h Q := g_gR rfl hT
theorem g837_60 : zG d 837 60 (some (.ref a) :: L) st h Q = zG d 837 61 (some (.ref a) :: L) (.ref a :: st) h Q := g_ldA rfl rfl
theorem g837_61 (hT : zT h a = (8, 29)) : zG d 837 61 L (.ref a :: st) h Q = zG d 837 64 L (zR h a 0 :: st) h Q := g_gR rfl hT
theorem g837_64 : zG d 837 64 L [v1, v0] h Q = zCall d 804 [v0, v1] h (fun v h1 => zG d 837 67 L (zpush v []) h1 Q) := g_cS rfl rfl (Nat.le_of_ble_eq_true rfl) rfl (Nat.le_of_ble_eq_true rfl)
theorem g837_67 : zG d 837 67 (l0 :: l1 :: some (.int x) :: L) st h Q = zG d 837 68 (l0 :: l1 :: some (.int x) :: L) (.int x :: st) h Q := g_ldI rfl rfl
theorem g837_68 : zG d 837 68 L [.int x] h Q = Q (some (.int x)) h := g_rI (ok := fun _ => True) rfl trivial
theorem k837 {x0 : Int32} : zCall (d + 1) 837 [.ref a, .int x0] h Q = zG d 837 0 [some (.ref a), some (.int x0), none, none] [] h Q := zCall_k (Nat.le_of_ble_eq_true rfl) rfl
theorem g838_0 : zG d 838 0 (some (.ref a) :: L) st h Q = zG d 838 1 (some (.ref a) :: L) (.ref a :: st) h Q := g_ldA rfl rfl
theorem g838_1 : zG d 838 1 L st h Q = zG d 838 2 L (.int 0 :: st) h Q := g_c rfl
theorem g838_2 (hT : (zT h a).1 = 8) : zG d 838 2 L [v0, .ref a] h Q = zCall d 828 [.ref a, v0] h (fun v h1 => zG d 838 5 L (zpush v []) h1 Q) := g_cV rfl rfl rfl rfl (Nat.le_of_ble_eq_true rfl) hT
theorem g838_5 : zG d 838 5 (some (.ref a) :: L) st h Q = zG d 838 6 (some (.ref a) :: L) (.ref a :: st) h Q := g_ldA rfl rfl
theorem g838_6 (hT : zT h a = (8, 29)) : zG d 838 6 L (.ref a :: st) h Q = zG d 838 9 L (.int (zI h a 16) :: st) h Q := g_gI rfl hT
theorem g838_9 : zG d 838 9 L [.int x] h Q = Q (some (.int x)) h := g_rI (ok := fun _ => True) rfl trivial
theorem k838  : zCall (d + 1) 838 [.ref a] h Q = zG d 838 0 [some (.ref a)] [] h Q := zCall_k (Nat.le_of_ble_eq_true rfl) rfl
theorem g839_0 : zG d 839 0 (l0 :: some (.int x) :: L) st h Q = zG d 839 1 (l0 :: some (.int x) :: L) (.int x :: st) h Q := g_ldI rfl rfl
theorem g839_1 : zG d 839 1 L (.int x :: st) h Q = if x = 0 then zG d 839 40 L st h Q else if x = 1 then zG d 839 48 L st h Q else if x = 2 then zG d 839 53 L st h Q else if x = 3 then zG d 839 61 L st h Q else if x = 4 then zG d 839 68 L st h Q else if x = 5 then zG d 839 73 L st h Q else zG d 839 79 L st h Q := g_sw (c := 79) (ps := [(0, 40), (1, 48), (2, 53), (3, 61), (4, 68), (5, 73)]) rfl
theorem g839_40 : zG d 839 40 (some (.ref a) :: L) st h Q = zG d 839 41 (some (.ref a) :: L) (.ref a :: st) h Q := g_ldA rfl rfl
theorem g839_41 (hT : zT h a = (8, 29)) : zG d 839 41 L (.ref a :: st) h Q = zG d 839 44 L (zR h a 0 :: st) h Q := g_gR rfl hT
theorem g839_44 : zG d 839 44 L st h Q = zG d 839 46 L (.int 62 :: st) h Q := g_c rfl
theorem g839_46 (hT : (zT h b).1 = 20) (hi : zin i (zT h b).2) : zG d 839 46 L (.int i :: .ref b :: st) h Q = zG d 839 47 L (.int (zI h b i.toNatClampNeg) :: st) h Q := g_ia rfl hT hi
theorem g839_47 : zG d 839 47 L [.int x] h Q = Q (some (.int x)) h := g_rI (ok := fun _ => True) rfl trivial
theorem g839_48 : zG d 839 48 (some (.ref a) :: L) st h Q = zG d 839 49 (some (.ref a) :: L) (.ref a :: st) h Q := g_ldA rfl rfl
theorem g839_49 (hT : (zT h a).1 = 8) : zG d 839 49 L [.ref a] h Q = zCall d 838 [.ref a] h (fun v h1 => zG d 839 52 L (zpush v []) h1 Q) := g_cV rfl rfl rfl rfl (Nat.le_of_ble_eq_true rfl) hT
theorem g839_52 : zG d 839 52 L [.int x] h Q = Q (some (.int x)) h := g_rI (ok := fun _ => True) rfl trivial
theorem g839_53 : zG d 839 53 (some (.ref a) :: L) st h Q = zG d 839 54 (some (.ref a) :: L) (.ref a :: st) h Q := g_ldA rfl rfl
theorem g839_54 (hT : zT h a = (8, 29)) : zG d 839 54 L (.ref a :: st) h Q = zG d 839 57 L (zR h a 0 :: st) h Q := g_gR rfl hT
theorem g839_57 : zG d 839 57 L st h Q = zG d 839 59 L (.int 61 :: st) h Q := g_c rfl
theorem g839_59 (hT : (zT h b).1 = 20) (hi : zin i (zT h b).2) : zG d 839 59 L (.int i :: .ref b :: st) h Q = zG d 839 60 L (.int (zI h b i.toNatClampNeg) :: st) h Q := g_ia rfl hT hi
theorem g839_60 : zG d 839 60 L [.int x] h Q = Q (some (.int x)) h := g_rI (ok := fun _ => True) rfl trivial
theorem g839_61 : zG d 839 61 (some (.ref a) :: L) st h Q = zG d 839 62 (some (.ref a) :: L) (.ref a :: st) h Q := g_ldA rfl rfl
theorem g839_62 : zG d 839 62 L st h Q = zG d 839 64 L (.int 10 :: st) h Q := g_c rfl
theorem g839_64 (hT : (zT h a).1 = 8) : zG d 839 64 L [v0, .ref a] h Q = zCall d 835 [.ref a, v0] h (fun v h1 => zG d 839 67 L (zpush v []) h1 Q) := g_cV rfl rfl rfl rfl (Nat.le_of_ble_eq_true rfl) hT
theorem g839_67 : zG d 839 67 L [.int x] h Q = Q (some (.int x)) h := g_rI (ok := fun _ => True) rfl trivial
theorem g839_68 : zG d 839 68 (some (.ref a) :: L) st h Q = zG d 839 69 (some (.ref a) :: L) (.ref a :: st) h Q := g_ldA rfl rfl
theorem g839_69 (hT : (zT h a).1 = 8) : zG d 839 69 L [.ref a] h Q = zCall d 836 [.ref a] h (fun v h1 => zG d 839 72 L (zpush v []) h1 Q) := g_cV rfl rfl rfl rfl (Nat.le_of_ble_eq_true rfl) hT
theorem g839_72 : zG d 839 72 L [.int x] h Q = Q (some (.int x)) h := g_rI (ok := fun _ => True) rfl trivial
theorem g839_73 : zG d 839 73 (some (.ref a) :: L) st h Q = zG d 839 74 (some (.ref a) :: L) (.ref a :: st) h Q := g_ldA rfl rfl
theorem g839_74 : zG d 839 74 L st h Q = zG d 839 75 L (.int 5 :: st) h Q := g_c rfl
theorem g839_75 (hT : (zT h a).1 = 8) : zG d 839 75 L [v0, .ref a] h Q = zCall d 835 [.ref a, v0] h (fun v h1 => zG d 839 78 L (zpush v []) h1 Q) := g_cV rfl rfl rfl rfl (Nat.le_of_ble_eq_true rfl) hT
theorem g839_78 : zG d 839 78 L [.int x] h Q = Q (some (.int x)) h := g_rI (ok := fun _ => True) rfl trivial
theorem g839_79 : zG d 839 79 L st h Q = zG d 839 80 L (.int (-1) :: st) h Q := g_c rfl
theorem g839_80 : zG d 839 80 L [.int x] h Q = Q (some (.int x)) h := g_rI (ok := fun _ => True) rfl trivial
theorem k839 {x0 : Int32} : zCall (d + 1) 839 [.ref a, .int x0] h Q = zG d 839 0 [some (.ref a), some (.int x0)] [] h Q := zCall_k (Nat.le_of_ble_eq_true rfl) rfl
theorem g840_0 : zG d 840 0 (l0 :: some (.int x) :: L) st h Q = zG d 840 1 (l0 :: some (.int x) :: L) (.int x :: st) h Q := g_ldI rfl rfl
theorem g840_1 : zG d 840 1 L st h Q = zG d 840 2 L (.int 0 :: st) h Q := g_c rfl
theorem g840_2 : zG d 840 2 L st h Q = zG d 840 4 L (.int 60 :: st) h Q := g_c rfl
theorem g840_4 : zG d 840 4 L [v2, v1, v0] h Q = zCall d 802 [v0, v1, v2] h (fun v h1 => zG d 840 7 L (zpush v []) h1 Q) := g_cS rfl rfl (Nat.le_of_ble_eq_true rfl) rfl (Nat.le_of_ble_eq_true rfl)
theorem g840_7 : zG d 840 7 L (.int x :: st) h Q = if ¬ x = 0 then zG d 840 13 L st h Q else zG d 840 10 L st h Q := g_i1 (P := fun x => ¬ x = 0) rfl
theorem g840_10 : zG d 840 10 L st h Q = zG d 840 12 L (.int (-2) :: st) h Q := g_c rfl
theorem g840_12 : zG d 840 12 L [.int x] h Q = Q (some (.int x)) h := g_rI (ok := fun _ => True) rfl trivial
theorem g840_13 : zG d 840 13 (some (.ref a) :: L) st h Q = zG d 840 14 (some (.ref a) :: L) (.ref a :: st) h Q := g_ldA rfl rfl
theorem g840_14 (hT : zT h a = (8, 29)) : zG d 840 14 L (.ref a :: st) h Q = zG d 840 17 L (zR h a 0 :: st) h Q := g_gR rfl hT
theorem g840_17 : zG d 840 17 L st h Q = zG d 840 19 L (.int 62 :: st) h Q := g_c rfl
theorem g840_19 (hT : (zT h b).1 = 20) (hi : zin i (zT h b).2) : zG d 840 19 L (.int i :: .ref b :: st) h Q = zG d 840 20 L (.int (zI h b i.toNatClampNeg) :: st) h Q := g_ia rfl hT hi
theorem g840_20 : zG d 840 20 (l0 :: some (.int x) :: L) st h Q = zG d 840 21 (l0 :: some (.int x) :: L) (.int x :: st) h Q := g_ldI rfl rfl
theorem g840_21 : zG d 840 21 L (.int z :: .int x :: st) h Q = zG d 840 22 L (.int (x + z) :: st) h Q := g_b (f := fun x z => x + z) rfl
theorem g840_22 : zG d 840 22 L st h Q = zG d 840 25 L (.int 9999 :: st) h Q := g_c rfl
theorem g840_25 : zG d 840 25 L (.int z :: .int x :: st) h Q = if x ≤ z then zG d 840 31 L st h Q else zG d 840 28 L st h Q := g_i2 (P := fun x z => x ≤ z) rfl
theorem g840_28 : zG d 840 28 L st h Q = zG d 840 30 L (.int (-3) :: st) h Q := g_c rfl
theorem g840_30 : zG d 840 30 L [.int x] h Q = Q (some (.int x)) h := g_rI (ok := fun _ => True) rfl trivial
theorem g840_31 : zG d 840 31 (some (.ref a) :: L) st h Q = zG d 840 32 (some (.ref a) :: L) (.ref a :: st) h Q := g_ldA rfl rfl
theorem g840_32 : zG d 840 32 (l0 :: some (.int x) :: L) st h Q = zG d 840 33 (l0 :: some (.int x) :: L) (.int x :: st) h Q := g_ldI rfl rfl
theorem g840_33 (hT : (zT h a).1 = 8) : zG d 840 33 L [v0, .ref a] h Q = zCall d 834 [.ref a, v0] h (fun v h1 => zG d 840 36 L (zpush v []) h1 Q) := g_cV rfl rfl rfl rfl (Nat.le_of_ble_eq_true rfl) hT
theorem g840_36 : zG d 840 36 (some (.ref a) :: L) st h Q = zG d 840 37 (some (.ref a) :: L) (.ref a :: st) h Q := g_ldA rfl rfl
theorem g840_37 (hT : zT h a = (8, 29)) : zG d 840 37 L (.ref a :: st) h Q = zG d 840 40 L (zR h a 0 :: st) h Q := g_gR rfl hT
theorem g840_40 : zG d 840 40 L st h Q = zG d 840 42 L (.int 62 :: st) h Q := g_c rfl
theorem g840_42 (hT : (zT h b).1 = 20) (hi : zin i (zT h b).2) : zG d 840 42 L (.int i :: .ref b :: st) h Q = zG d 840 43 L (.int (zI h b i.toNatClampNeg) :: st) h Q := g_ia rfl hT hi
theorem g840_43 : zG d 840 43 L [.int x] h Q = Q (some (.int x)) h := g_rI (ok := fun _ => True) rfl trivial
theorem k840 {x0 : Int32} : zCall (d + 1) 840 [.ref a, .int x0] h Q = zG d 840 0 [some (.ref a), some (.int x0)] [] h Q := zCall_k (Nat.le_of_ble_eq_true rfl) rfl
theorem g841_0 : zG d 841 0 (l0 :: l1 :: some (.int x) :: L) st h Q = zG d 841 1 (l0 :: l1 :: some (.int x) :: L) (.int x :: st) h Q := g_ldI rfl rfl
theorem g841_1 : zG d 841 1 L st h Q = zG d 841 2 L (.int 0 :: st) h Q := g_c rfl
theorem g841_2 : zG d 841 2 L st h Q = zG d 841 3 L (.int 1 :: st) h Q := g_c rfl
theorem g841_3 : zG d 841 3 L [v2, v1, v0] h Q = zCall d 802 [v0, v1, v2] h (fun v h1 => zG d 841 6 L (zpush v []) h1 Q) := g_cS rfl rfl (Nat.le_of_ble_eq_true rfl) rfl (Nat.le_of_ble_eq_true rfl)
theorem g841_6 : zG d 841 6 L (.int x :: st) h Q = if ¬ x = 0 then zG d 841 33 L st h Q else zG d 841 9 L st h Q := g_i1 (P := fun x => ¬ x = 0) rfl
theorem g841_9 : zG d 841 9 (some (.ref a) :: L) st h Q = zG d 841 10 (some (.ref a) :: L) (.ref a :: st) h Q := g_ldA rfl rfl
theorem g841_10 : zG d 841 10 (l0 :: l1 :: some (.int x) :: L) st h Q = zG d 841 11 (l0 :: l1 :: some (.int x) :: L) (.int x :: st) h Q := g_ldI rfl rfl
theorem g841_11 : zG d 841 11 L st h Q = zG d 841 13 L (.int 10 :: st) h Q := g_c rfl
theorem g841_13 : zG d 841 13 L (.int z :: .int x :: st) h Q = zG d 841 14 L (.int (x - z) :: st) h Q := g_b (f := fun x z => x - z) rfl
theorem g841_14 (hT : (zT h a).1 = 8) : zG d 841 14 L [v0, .ref a] h Q = zCall d 807 [.ref a, v0] h (fun v h1 => zG d 841 17 L (zpush v []) h1 Q) := g_cV rfl rfl rfl rfl (Nat.le_of_ble_eq_true rfl) hT
theorem g841_17 : zG d 841 17 L (.int x :: st) h Q = if ¬ x = 0 then zG d 841 33 L st h Q else zG d 841 20 L st h Q := g_i1 (P := fun x => ¬ x = 0) rfl
theorem g841_20 : zG d 841 20 (some (.ref a) :: L) st h Q = zG d 841 21 (some (.ref a) :: L) (.ref a :: st) h Q := g_ldA rfl rfl
theorem g841_21 : zG d 841 21 (l0 :: l1 :: some (.int x) :: L) st h Q = zG d 841 22 (l0 :: l1 :: some (.int x) :: L) (.int x :: st) h Q := g_ldI rfl rfl
theorem g841_22 : zG d 841 22 L st h Q = zG d 841 24 L (.int 20 :: st) h Q := g_c rfl
theorem g841_24 : zG d 841 24 L (.int z :: .int x :: st) h Q = zG d 841 25 L (.int (x - z) :: st) h Q := g_b (f := fun x z => x - z) rfl
theorem g841_25 (hT : (zT h a).1 = 8) : zG d 841 25 L [v0, .ref a] h Q = zCall d 807 [.ref a, v0] h (fun v h1 => zG d 841 28 L (zpush v []) h1 Q) := g_cV rfl rfl rfl rfl (Nat.le_of_ble_eq_true rfl) hT
theorem g841_28 : zG d 841 28 L (.int x :: st) h Q = if ¬ x = 0 then zG d 841 33 L st h Q else zG d 841 31 L st h Q := g_i1 (P := fun x => ¬ x = 0) rfl
theorem g841_31 : zG d 841 31 L st h Q = zG d 841 32 L (.int (-1) :: st) h Q := g_c rfl
theorem g841_32 : zG d 841 32 L [.int x] h Q = Q (some (.int x)) h := g_rI (ok := fun _ => True) rfl trivial
theorem g841_33 : zG d 841 33 (l0 :: some (.int x) :: L) st h Q = zG d 841 34 (l0 :: some (.int x) :: L) (.int x :: st) h Q := g_ldI rfl rfl
theorem g841_34 : zG d 841 34 L st h Q = zG d 841 35 L (.int 0 :: st) h Q := g_c rfl
theorem g841_35 : zG d 841 35 L st h Q = zG d 841 37 L (.int 60 :: st) h Q := g_c rfl
theorem g841_37 : zG d 841 37 L [v2, v1, v0] h Q = zCall d 802 [v0, v1, v2] h (fun v h1 => zG d 841 40 L (zpush v []) h1 Q) := g_cS rfl rfl (Nat.le_of_ble_eq_true rfl) rfl (Nat.le_of_ble_eq_true rfl)
theorem g841_40 : zG d 841 40 L (.int x :: st) h Q = if ¬ x = 0 then zG d 841 46 L st h Q else zG d 841 43 L st h Q := g_i1 (P := fun x => ¬ x = 0) rfl
theorem g841_43 : zG d 841 43 L st h Q = zG d 841 45 L (.int (-2) :: st) h Q := g_c rfl
theorem g841_45 : zG d 841 45 L [.int x] h Q = Q (some (.int x)) h := g_rI (ok := fun _ => True) rfl trivial
theorem g841_46 : zG d 841 46 (some (.ref a) :: L) st h Q = zG d 841 47 (some (.ref a) :: L) (.ref a :: st) h Q := g_ldA rfl rfl
theorem g841_47 (hT : zT h a = (8, 29)) : zG d 841 47 L (.ref a :: st) h Q = zG d 841 50 L (zR h a 0 :: st) h Q := g_gR rfl hT
theorem g841_50 : zG d 841 50 (some (.ref a) :: L) st h Q = zG d 841 51 (some (.ref a) :: L) (.ref a :: st) h Q := g_ldA rfl rfl
theorem g841_51 (hT : zT h a = (8, 29)) : zG d 841 51 L (.ref a :: st) h Q = zG d 841 54 L (zR h a 1 :: st) h Q := g_gR rfl hT
theorem g841_54 : zG d 841 54 L [v1, v0] h Q = zCall d 804 [v0, v1] h (fun v h1 => zG d 841 57 L (zpush v []) h1 Q) := g_cS rfl rfl (Nat.le_of_ble_eq_true rfl) rfl (Nat.le_of_ble_eq_true rfl)
theorem g841_57 : zG d 841 57 (some (.ref a) :: L) st h Q = zG d 841 58 (some (.ref a) :: L) (.ref a :: st) h Q := g_ldA rfl rfl
theorem g841_58 : zG d 841 58 (l0 :: some (.int x) :: L) st h Q = zG d 841 59 (l0 :: some (.int x) :: L) (.int x :: st) h Q := g_ldI rfl rfl
theorem g841_59 (hT : (zT h a).1 = 8) : zG d 841 59 L [v0, .ref a] h Q = zCall d 834 [.ref a, v0] h (fun v h1 => zG d 841 62 L (zpush v []) h1 Q) := g_cV rfl rfl rfl rfl (Nat.le_of_ble_eq_true rfl) hT
theorem g841_62 : zG d 841 62 (l0 :: l1 :: some (.int x) :: L) st h Q = zG d 841 63 (l0 :: l1 :: some (.int x) :: L) (.int x :: st) h Q := g_ldI rfl rfl
theorem g841_63 : zG d 841 63 L (.int x :: st) h Q = if ¬ x = 0 then zG d 841 76 L st h Q else zG d 841 66 L st h Q := g_i1 (P := fun x => ¬ x = 0) rfl
theorem g841_66 : zG d 841 66 (some (.ref a) :: L) st h Q = zG d 841 67 (some (.ref a) :: L) (.ref a :: st) h Q := g_ldA rfl rfl
theorem g841_67 (hT : zT h a = (8, 29)) : zG d 841 67 L (.ref a :: st) h Q = zG d 841 70 L (zR h a 0 :: st) h Q := g_gR rfl hT
theorem g841_70 : zG d 841 70 L st h Q = zG d 841 72 L (.int 61 :: st) h Q := g_c rfl
theorem g841_72 (hT : (zT h b).1 = 20) (hi : zin i (zT h b).2) : zG d 841 72 L (.int i :: .ref b :: st) h Q = zG d 841 73 L (.int (zI h b i.toNatClampNeg) :: st) h Q := g_ia rfl hT hi
theorem g841_73 : zG d 841 73 L st h Q = zG d 841 117 L st h Q := g_go rfl
theorem g841_76 : zG d 841 76 (l0 :: l1 :: some (.int x) :: L) st h Q = zG d 841 77 (l0 :: l1 :: some (.int x) :: L) (.int x :: st) h Q := g_ldI rfl rfl
theorem g841_77 : zG d 841 77 L st h Q = zG d 841 78 L (.int 1 :: st) h Q := g_c rfl
theorem g841_78 : zG d 841 78 L (.int z :: .int x :: st) h Q = if ¬ x = z then zG d 841 90 L st h Q else zG d 841 81 L st h Q := g_i2 (P := fun x z => ¬ x = z) rfl
theorem g841_81 : zG d 841 81 (some (.ref a) :: L) st h Q = zG d 841 82 (some (.ref a) :: L) (.ref a :: st) h Q := g_ldA rfl rfl
theorem g841_82 : zG d 841 82 L st h Q = zG d 841 84 L (.int 10 :: st) h Q := g_c rfl
theorem g841_84 (hT : (zT h a).1 = 8) : zG d 841 84 L [v0, .ref a] h Q = zCall d 835 [.ref a, v0] h (fun v h1 => zG d 841 87 L (zpush v []) h1 Q) := g_cV rfl rfl rfl rfl (Nat.le_of_ble_eq_true rfl) hT
theorem g841_87 : zG d 841 87 L st h Q = zG d 841 117 L st h Q := g_go rfl
theorem g841_90 : zG d 841 90 (l0 :: l1 :: some (.int x) :: L) st h Q = zG d 841 91 (l0 :: l1 :: some (.int x) :: L) (.int x :: st) h Q := g_ldI rfl rfl
theorem g841_91 : zG d 841 91 L st h Q = zG d 841 93 L (.int 20 :: st) h Q := g_c rfl
theorem g841_93 : zG d 841 93 L (.int z :: .int x :: st) h Q = if z ≤ x then zG d 841 108 L st h Q else zG d 841 96 L st h Q := g_i2 (P := fun x z => z ≤ x) rfl
theorem g841_96 : zG d 841 96 (some (.ref a) :: L) st h Q = zG d 841 97 (some (.ref a) :: L) (.ref a :: st) h Q := g_ldA rfl rfl
theorem g841_97 : zG d 841 97 (l0 :: l1 :: some (.int x) :: L) st h Q = zG d 841 98 (l0 :: l1 :: some (.int x) :: L) (.int x :: st) h Q := g_ldI rfl rfl
theorem g841_98 : zG d 841 98 L st h Q = zG d 841 100 L (.int 10 :: st) h Q := g_c rfl
theorem g841_100 : zG d 841 100 L (.int z :: .int x :: st) h Q = zG d 841 101 L (.int (x - z) :: st) h Q := g_b (f := fun x z => x - z) rfl
theorem g841_101 : zG d 841 101 L st h Q = zG d 841 102 L (.int 3 :: st) h Q := g_c rfl
theorem g841_102 (hT : (zT h a).1 = 8) : zG d 841 102 L [v1, v0, .ref a] h Q = zCall d 808 [.ref a, v0, v1] h (fun v h1 => zG d 841 105 L (zpush v []) h1 Q) := g_cV rfl rfl rfl rfl (Nat.le_of_ble_eq_true rfl) hT
theorem g841_105 : zG d 841 105 L st h Q = zG d 841 117 L st h Q := g_go rfl
theorem g841_108 : zG d 841 108 (some (.ref a) :: L) st h Q = zG d 841 109 (some (.ref a) :: L) (.ref a :: st) h Q := g_ldA rfl rfl
theorem g841_109 : zG d 841 109 (l0 :: l1 :: some (.int x) :: L) st h Q = zG d 841 110 (l0 :: l1 :: some (.int x) :: L) (.int x :: st) h Q := g_ldI rfl rfl
theorem g841_110 : zG d 841 110 L st h Q = zG d 841 112 L (.int 20 :: st) h Q := g_c rfl
theorem g841_112 : zG d 841 112 L (.int z :: .int x :: st) h Q = zG d 841 113 L (.int (x - z) :: st) h Q := g_b (f := fun x z => x - z) rfl
theorem g841_113 : zG d 841 113 L st h Q = zG d 841 114 L (.int 5 :: st) h Q := g_c rfl
theorem g841_114 (hT : (zT h a).1 = 8) : zG d 841 114 L [v1, v0, .ref a] h Q = zCall d 808 [.ref a, v0, v1] h (fun v h1 => zG d 841 117 L (zpush v []) h1 Q) := g_cV rfl rfl rfl rfl (Nat.le_of_ble_eq_true rfl) hT
theorem g841_117 : zG d 841 117 (l0 :: l1 :: l2 :: l3 :: L) (.int x :: st) h Q = zG d 841 118 (l0 :: l1 :: kl l2 :: some (.int x) :: L) st h Q := g_stI rfl (by simp) rfl
theorem g841_118 : zG d 841 118 (some (.ref a) :: L) st h Q = zG d 841 119 (some (.ref a) :: L) (.ref a :: st) h Q := g_ldA rfl rfl
theorem g841_119 (hT : zT h a = (8, 29)) : zG d 841 119 L (.ref a :: st) h Q = zG d 841 122 L (zR h a 1 :: st) h Q := g_gR rfl hT
theorem g841_122 : zG d 841 122 (some (.ref a) :: L) st h Q = zG d 841 123 (some (.ref a) :: L) (.ref a :: st) h Q := g_ldA rfl rfl
theorem g841_123 (hT : zT h a = (8, 29)) : zG d 841 123 L (.ref a :: st) h Q = zG d 841 126 L (zR h a 0 :: st) h Q := g_gR rfl hT
theorem g841_126 : zG d 841 126 L [v1, v0] h Q = zCall d 804 [v0, v1] h (fun v h1 => zG d 841 129 L (zpush v []) h1 Q) := g_cS rfl rfl (Nat.le_of_ble_eq_true rfl) rfl (Nat.le_of_ble_eq_true rfl)
theorem g841_129 : zG d 841 129 (l0 :: l1 :: l2 :: some (.int x) :: L) st h Q = zG d 841 130 (l0 :: l1 :: l2 :: some (.int x) :: L) (.int x :: st) h Q := g_ldI rfl rfl
theorem g841_130 : zG d 841 130 L [.int x] h Q = Q (some (.int x)) h := g_rI (ok := fun _ => True) rfl trivial
theorem k841 {x0 : Int32} {x1 : Int32} : zCall (d + 1) 841 [.ref a, .int x0, .int x1] h Q = zG d 841 0 [some (.ref a), some (.int x0), some (.int x1), none] [] h Q := zCall_k (Nat.le_of_ble_eq_true rfl) rfl
theorem g842_0 : zG d 842 0 L st h Q = zG d 842 1 L (.int 0 :: st) h Q := g_c rfl
theorem g842_1 : zG d 842 1 (l0 :: l1 :: L) (.int x :: st) h Q = zG d 842 2 (kl l0 :: some (.int x) :: L) st h Q := g_stI rfl (by simp) rfl
theorem g842_2 : zG d 842 2 L st h Q = zG d 842 3 L (.int 0 :: st) h Q := g_c rfl
theorem g842_3 : zG d 842 3 (l0 :: l1 :: l2 :: L) (.int x :: st) h Q = zG d 842 4 (l0 :: kl l1 :: some (.int x) :: L) st h Q := g_stI rfl (by simp) rfl
theorem g842_4 : zG d 842 4 (l0 :: l1 :: some (.int x) :: L) st h Q = zG d 842 5 (l0 :: l1 :: some (.int x) :: L) (.int x :: st) h Q := g_ldI rfl rfl
theorem g842_5 : zG d 842 5 L st h Q = zG d 842 7 L (.int 6 :: st) h Q := g_c rfl
theorem g842_7 : zG d 842 7 L (.int z :: .int x :: st) h Q = if z ≤ x then zG d 842 24 L st h Q else zG d 842 10 L st h Q := g_i2 (P := fun x z => z ≤ x) rfl
theorem g842_10 : zG d 842 10 (l0 :: some (.int x) :: L) st h Q = zG d 842 11 (l0 :: some (.int x) :: L) (.int x :: st) h Q := g_ldI rfl rfl
theorem g842_11 : zG d 842 11 (some (.int x) :: L) st h Q = zG d 842 12 (some (.int x) :: L) (.int x :: st) h Q := g_ldI rfl rfl
theorem g842_12 : zG d 842 12 (l0 :: l1 :: some (.int x) :: L) st h Q = zG d 842 13 (l0 :: l1 :: some (.int x) :: L) (.int x :: st) h Q := g_ldI rfl rfl
theorem g842_13 : zG d 842 13 L (.int z :: .int x :: st) h Q = zG d 842 14 L (.int (x >>> (z &&& 31)) :: st) h Q := g_b (f := fun x z => x >>> (z &&& 31)) rfl
theorem g842_14 : zG d 842 14 L st h Q = zG d 842 15 L (.int 1 :: st) h Q := g_c rfl
theorem g842_15 : zG d 842 15 L (.int z :: .int x :: st) h Q = zG d 842 16 L (.int (x &&& z) :: st) h Q := g_b (f := fun x z => x &&& z) rfl
theorem g842_16 : zG d 842 16 L (.int z :: .int x :: st) h Q = zG d 842 17 L (.int (x + z) :: st) h Q := g_b (f := fun x z => x + z) rfl
theorem g842_17 : zG d 842 17 (l0 :: l1 :: L) (.int x :: st) h Q = zG d 842 18 (kl l0 :: some (.int x) :: L) st h Q := g_stI rfl (by simp) rfl
theorem g842_18 : zG d 842 18 (l0 :: l1 :: some (.int x) :: L) st h Q = zG d 842 21 (l0 :: kl l1 :: some (.int (x + 1)) :: L) st h Q := g_inc rfl rfl rfl
theorem g842_21 : zG d 842 21 L st h Q = zG d 842 4 L st h Q := g_go rfl
theorem g842_24 : zG d 842 24 (l0 :: some (.int x) :: L) st h Q = zG d 842 25 (l0 :: some (.int x) :: L) (.int x :: st) h Q := g_ldI rfl rfl
theorem g842_25 : zG d 842 25 L [.int x] h Q = Q (some (.int x)) h := g_rI (ok := fun _ => True) rfl trivial
theorem k842 {x0 : Int32} : zCall (d + 1) 842 [.int x0] h Q = zG d 842 0 [some (.int x0), none, none] [] h Q := zCall_k (Nat.le_of_ble_eq_true rfl) rfl
theorem g843_0 : zG d 843 0 L st h Q = zG d 843 1 L (.int 0 :: st) h Q := g_c rfl
theorem g843_1 : zG d 843 1 (l0 :: l1 :: l2 :: l3 :: L) (.int x :: st) h Q = zG d 843 2 (l0 :: l1 :: kl l2 :: some (.int x) :: L) st h Q := g_stI rfl (by simp) rfl
theorem g843_2 : zG d 843 2 L st h Q = zG d 843 4 L (.int 7 :: st) h Q := g_c rfl
theorem g843_4 : zG d 843 4 (l0 :: l1 :: l2 :: l3 :: l4 :: L) (.int x :: st) h Q = zG d 843 6 (l0 :: l1 :: l2 :: kl l3 :: some (.int x) :: L) st h Q := g_stI rfl (by simp) rfl
theorem g843_6 : zG d 843 6 L st h Q = zG d 843 7 L (.int 0 :: st) h Q := g_c rfl
theorem g843_7 : zG d 843 7 (l0 :: l1 :: l2 :: l3 :: l4 :: l5 :: L) (.int x :: st) h Q = zG d 843 9 (l0 :: l1 :: l2 :: l3 :: kl l4 :: some (.int x) :: L) st h Q := g_stI rfl (by simp) rfl
theorem g843_9 : zG d 843 9 (l0 :: l1 :: l2 :: l3 :: l4 :: some (.int x) :: L) st h Q = zG d 843 11 (l0 :: l1 :: l2 :: l3 :: l4 :: some (.int x) :: L) (.int x :: st) h Q := g_ldI rfl rfl
theorem g843_11 : zG d 843 11 L st h Q = zG d 843 13 L (.int 50 :: st) h Q := g_c rfl
theorem g843_13 : zG d 843 13 L (.int z :: .int x :: st) h Q = if z ≤ x then zG d 843 62 L st h Q else zG d 843 16 L st h Q := g_i2 (P := fun x z => z ≤ x) rfl
theorem g843_16 : zG d 843 16 (some (.ref a) :: L) st h Q = zG d 843 17 (some (.ref a) :: L) (.ref a :: st) h Q := g_ldA rfl rfl
theorem g843_17 : zG d 843 17 (l0 :: l1 :: l2 :: l3 :: l4 :: some (.int x) :: L) st h Q = zG d 843 19 (l0 :: l1 :: l2 :: l3 :: l4 :: some (.int x) :: L) (.int x :: st) h Q := g_ldI rfl rfl
theorem g843_19 (hT : zT h a = (8, 29)) : zG d 843 19 L (.int x :: .ref a :: st) h Q = zG d 843 22 L st (wI h a 4 x) Q := g_pI rfl hT
theorem g843_22 : zG d 843 22 (some (.ref a) :: L) st h Q = zG d 843 23 (some (.ref a) :: L) (.ref a :: st) h Q := g_ldA rfl rfl
theorem g843_23 : zG d 843 23 (l0 :: some (.int x) :: L) st h Q = zG d 843 24 (l0 :: some (.int x) :: L) (.int x :: st) h Q := g_ldI rfl rfl
theorem g843_24 : zG d 843 24 L st h Q = zG d 843 25 L (.int 1 :: st) h Q := g_c rfl
theorem g843_25 (hT : (zT h a).1 = 8) : zG d 843 25 L [v1, v0, .ref a] h Q = zCall d 841 [.ref a, v0, v1] h (fun v h1 => zG d 843 28 L (zpush v []) h1 Q) := g_cV rfl rfl rfl rfl (Nat.le_of_ble_eq_true rfl) hT
theorem g843_28 : zG d 843 28 L [v0] h Q = zCall d 842 [v0] h (fun v h1 => zG d 843 31 L (zpush v []) h1 Q) := g_cS rfl rfl (Nat.le_of_ble_eq_true rfl) rfl (Nat.le_of_ble_eq_true rfl)
theorem g843_31 : zG d 843 31 (l0 :: l1 :: l2 :: l3 :: l4 :: l5 :: l6 :: L) (.int x :: st) h Q = zG d 843 33 (l0 :: l1 :: l2 :: l3 :: l4 :: kl l5 :: some (.int x) :: L) st h Q := g_stI rfl (by simp) rfl
theorem g843_33 : zG d 843 33 (l0 :: l1 :: l2 :: l3 :: l4 :: l5 :: some (.int x) :: L) st h Q = zG d 843 35 (l0 :: l1 :: l2 :: l3 :: l4 :: l5 :: some (.int x) :: L) (.int x :: st) h Q := g_ldI rfl rfl
theorem g843_35 : zG d 843 35 (l0 :: l1 :: l2 :: l3 :: some (.int x) :: L) st h Q = zG d 843 37 (l0 :: l1 :: l2 :: l3 :: some (.int x) :: L) (.int x :: st) h Q := g_ldI rfl rfl
theorem g843_37 : zG d 843 37 L (.int z :: .int x :: st) h Q = if z ≤ x then zG d 843 45 L st h Q else zG d 843 40 L st h Q := g_i2 (P := fun x z => z ≤ x) rfl
theorem g843_40 : zG d 843 40 (l0 :: l1 :: l2 :: l3 :: l4 :: some (.int x) :: L) st h Q = zG d 843 42 (l0 :: l1 :: l2 :: l3 :: l4 :: some (.int x) :: L) (.int x :: st) h Q := g_ldI rfl rfl
theorem g843_42 : zG d 843 42 L st h Q = zG d 843 46 L st h Q := g_go rfl
theorem g843_45 : zG d 843 45 (l0 :: l1 :: l2 :: some (.int x) :: L) st h Q = zG d 843 46 (l0 :: l1 :: l2 :: some (.int x) :: L) (.int x :: st) h Q := g_ldI rfl rfl
theorem g843_46 : zG d 843 46 (l0 :: l1 :: l2 :: l3 :: L) (.int x :: st) h Q = zG d 843 47 (l0 :: l1 :: kl l2 :: some (.int x) :: L) st h Q := g_stI rfl (by simp) rfl
theorem g843_47 : zG d 843 47 (l0 :: l1 :: l2 :: l3 :: l4 :: l5 :: some (.int x) :: L) st h Q = zG d 843 49 (l0 :: l1 :: l2 :: l3 :: l4 :: l5 :: some (.int x) :: L) (.int x :: st) h Q := g_ldI rfl rfl
theorem g843_49 : zG d 843 49 (l0 :: l1 :: l2 :: l3 :: some (.int x) :: L) st h Q = zG d 843 51 (l0 :: l1 :: l2 :: l3 :: some (.int x) :: L) (.int x :: st) h Q := g_ldI rfl rfl
theorem g843_51 (h4 : st.length ≤ 4) : zG d 843 51 L (.int z :: .int x :: st) h Q = zG d 843 54 L (.int (zmin x z) :: st) h Q := g_mm (f := fun x z => zmin x z) rfl h4
theorem g843_54 : zG d 843 54 (l0 :: l1 :: l2 :: l3 :: l4 :: L) (.int x :: st) h Q = zG d 843 56 (l0 :: l1 :: l2 :: kl l3 :: some (.int x) :: L) st h Q := g_stI rfl (by simp) rfl
theorem g843_56 : zG d 843 56 (l0 :: l1 :: l2 :: l3 :: l4 :: some (.int x) :: L) st h Q = zG d 843 59 (l0 :: l1 :: l2 :: l3 :: kl l4 :: some (.int (x + 1)) :: L) st h Q := g_inc rfl rfl rfl
theorem g843_59 : zG d 843 59 L st h Q = zG d 843 9 L st h Q := g_go rfl
theorem g843_62 : zG d 843 62 (some (.ref a) :: L) st h Q = zG d 843 63 (some (.ref a) :: L) (.ref a :: st) h Q := g_ldA rfl rfl
theorem g843_63 : zG d 843 63 L st h Q = zG d 843 64 L (.int (-1) :: st) h Q := g_c rfl
theorem g843_64 (hT : zT h a = (8, 29)) : zG d 843 64 L (.int x :: .ref a :: st) h Q = zG d 843 67 L st (wI h a 4 x) Q := g_pI rfl hT
theorem g843_67 : zG d 843 67 (l0 :: l1 :: some (.int x) :: L) st h Q = zG d 843 68 (l0 :: l1 :: some (.int x) :: L) (.int x :: st) h Q := g_ldI rfl rfl
theorem g843_68 : zG d 843 68 L (.int x :: st) h Q = if x = 0 then zG d 843 76 L st h Q else zG d 843 71 L st h Q := g_i1 (P := fun x => x = 0) rfl
theorem g843_71 : zG d 843 71 (l0 :: l1 :: l2 :: l3 :: some (.int x) :: L) st h Q = zG d 843 73 (l0 :: l1 :: l2 :: l3 :: some (.int x) :: L) (.int x :: st) h Q := g_ldI rfl rfl
theorem g843_73 : zG d 843 73 L st h Q = zG d 843 77 L st h Q := g_go rfl
theorem g843_76 : zG d 843 76 (l0 :: l1 :: l2 :: some (.int x) :: L) st h Q = zG d 843 77 (l0 :: l1 :: l2 :: some (.int x) :: L) (.int x :: st) h Q := g_ldI rfl rfl
theorem g843_77 : zG d 843 77 L [.int x] h Q = Q (some (.int x)) h := g_rI (ok := fun _ => True) rfl trivial
theorem k843 {x0 : Int32} {x1 : Int32} : zCall (d + 1) 843 [.ref a, .int x0, .int x1] h Q = zG d 843 0 [some (.ref a), some (.int x0), some (.int x1), none, none, none, none] [] h Q := zCall_k (Nat.le_of_ble_eq_true rfl) rfl
theorem g844_0 : zG d 844 0 L st h Q = zG d 844 2 L (.int (-5) :: st) h Q := g_c rfl
theorem g844_2 : zG d 844 2 (l0 :: l1 :: l2 :: L) (.int x :: st) h Q = zG d 844 3 (l0 :: kl l1 :: some (.int x) :: L) st h Q := g_stI rfl (by simp) rfl
theorem g844_3 : zG d 844 3 L st h Q = zG d 844 4 L (.int 0 :: st) h Q := g_c rfl
theorem g844_4 : zG d 844 4 (l0 :: l1 :: l2 :: l3 :: L) (.int x :: st) h Q = zG d 844 5 (l0 :: l1 :: kl l2 :: some (.int x) :: L) st h Q := g_stI rfl (by simp) rfl
theorem g844_5 : zG d 844 5 (l0 :: l1 :: l2 :: some (.int x) :: L) st h Q = zG d 844 6 (l0 :: l1 :: l2 :: some (.int x) :: L) (.int x :: st) h Q := g_ldI rfl rfl
theorem g844_6 : zG d 844 6 L st h Q = zG d 844 8 L (.int 50 :: st) h Q := g_c rfl
theorem g844_8 : zG d 844 8 L (.int z :: .int x :: st) h Q = if z ≤ x then zG d 844 37 L st h Q else zG d 844 11 L st h Q := g_i2 (P := fun x z => z ≤ x) rfl
theorem g844_11 : zG d 844 11 (some (.ref a) :: L) st h Q = zG d 844 12 (some (.ref a) :: L) (.ref a :: st) h Q := g_ldA rfl rfl
theorem g844_12 : zG d 844 12 (l0 :: l1 :: l2 :: some (.int x) :: L) st h Q = zG d 844 13 (l0 :: l1 :: l2 :: some (.int x) :: L) (.int x :: st) h Q := g_ldI rfl rfl
theorem g844_13 (hT : zT h a = (8, 29)) : zG d 844 13 L (.int x :: .ref a :: st) h Q = zG d 844 16 L st (wI h a 4 x) Q := g_pI rfl hT
theorem g844_16 : zG d 844 16 (some (.ref a) :: L) st h Q = zG d 844 17 (some (.ref a) :: L) (.ref a :: st) h Q := g_ldA rfl rfl
theorem g844_17 : zG d 844 17 (l0 :: some (.int x) :: L) st h Q = zG d 844 18 (l0 :: some (.int x) :: L) (.int x :: st) h Q := g_ldI rfl rfl
theorem g844_18 : zG d 844 18 L st h Q = zG d 844 19 L (.int 0 :: st) h Q := g_c rfl
theorem g844_19 (hT : (zT h a).1 = 8) : zG d 844 19 L [v1, v0, .ref a] h Q = zCall d 841 [.ref a, v0, v1] h (fun v h1 => zG d 844 22 L (zpush v []) h1 Q) := g_cV rfl rfl rfl rfl (Nat.le_of_ble_eq_true rfl) hT
theorem g844_22 : zG d 844 22 L (.int x :: st) h Q = if x ≤ 0 then zG d 844 29 L st h Q else zG d 844 25 L st h Q := g_i1 (P := fun x => x ≤ 0) rfl
theorem g844_25 : zG d 844 25 (l0 :: l1 :: l2 :: some (.int x) :: L) st h Q = zG d 844 26 (l0 :: l1 :: l2 :: some (.int x) :: L) (.int x :: st) h Q := g_ldI rfl rfl
theorem g844_26 : zG d 844 26 L st h Q = zG d 844 30 L st h Q := g_go rfl
theorem g844_29 : zG d 844 29 (l0 :: l1 :: some (.int x) :: L) st h Q = zG d 844 30 (l0 :: l1 :: some (.int x) :: L) (.int x :: st) h Q := g_ldI rfl rfl
theorem g844_30 : zG d 844 30 (l0 :: l1 :: l2 :: L) (.int x :: st) h Q = zG d 844 31 (l0 :: kl l1 :: some (.int x) :: L) st h Q := g_stI rfl (by simp) rfl
theorem g844_31 : zG d 844 31 (l0 :: l1 :: l2 :: some (.int x) :: L) st h Q = zG d 844 34 (l0 :: l1 :: kl l2 :: some (.int (x + 1)) :: L) st h Q := g_inc rfl rfl rfl
theorem g844_34 : zG d 844 34 L st h Q = zG d 844 5 L st h Q := g_go rfl
theorem g844_37 : zG d 844 37 (some (.ref a) :: L) st h Q = zG d 844 38 (some (.ref a) :: L) (.ref a :: st) h Q := g_ldA rfl rfl
theorem g844_38 : zG d 844 38 L st h Q = zG d 844 39 L (.int (-1) :: st) h Q := g_c rfl
theorem g844_39 (hT : zT h a = (8, 29)) : zG d 844 39 L (.int x :: .ref a :: st) h Q = zG d 844 42 L st (wI h a 4 x) Q := g_pI rfl hT
theorem g844_42 : zG d 844 42 (l0 :: l1 :: some (.int x) :: L) st h Q = zG d 844 43 (l0 :: l1 :: some (.int x) :: L) (.int x :: st) h Q := g_ldI rfl rfl
theorem g844_43 : zG d 844 43 L [.int x] h Q = Q (some (.int x)) h := g_rI (ok := fun _ => True) rfl trivial
theorem k844 {x0 : Int32} : zCall (d + 1) 844 [.ref a, .int x0] h Q = zG d 844 0 [some (.ref a), some (.int x0), none, none] [] h Q := zCall_k (Nat.le_of_ble_eq_true rfl) rfl
theorem g845_0 : zG d 845 0 L st h Q = zG d 845 2 L (.int (-5) :: st) h Q := g_c rfl
theorem g845_2 : zG d 845 2 (l0 :: l1 :: l2 :: L) (.int x :: st) h Q = zG d 845 3 (l0 :: kl l1 :: some (.int x) :: L) st h Q := g_stI rfl (by simp) rfl
theorem g845_3 : zG d 845 3 L st h Q = zG d 845 4 L (.int 0 :: st) h Q := g_c rfl
theorem g845_4 : zG d 845 4 (l0 :: l1 :: l2 :: l3 :: L) (.int x :: st) h Q = zG d 845 5 (l0 :: l1 :: kl l2 :: some (.int x) :: L) st h Q := g_stI rfl (by simp) rfl
theorem g845_5 : zG d 845 5 (l0 :: l1 :: l2 :: some (.int x) :: L) st h Q = zG d 845 6 (l0 :: l1 :: l2 :: some (.int x) :: L) (.int x :: st) h Q := g_ldI rfl rfl
theorem g845_6 : zG d 845 6 L st h Q = zG d 845 7 L (.int 1 :: st) h Q := g_c rfl
theorem g845_7 : zG d 845 7 (some (.ref a) :: L) st h Q = zG d 845 8 (some (.ref a) :: L) (.ref a :: st) h Q := g_ldA rfl rfl
theorem g845_8 (hT : zT h a = (8, 29)) : zG d 845 8 L (.ref a :: st) h Q = zG d 845 11 L (zR h a 0 :: st) h Q := g_gR rfl hT
theorem g845_11 : zG d 845 11 L st h Q = zG d 845 13 L (.int 60 :: st) h Q := g_c rfl
theorem g845_13 (hT : (zT h b).1 = 20) (hi : zin i (zT h b).2) : zG d 845 13 L (.int i :: .ref b :: st) h Q = zG d 845 14 L (.int (zI h b i.toNatClampNeg) :: st) h Q := g_ia rfl hT hi
theorem g845_14 : zG d 845 14 L (.int z :: .int x :: st) h Q = zG d 845 15 L (.int (x <<< (z &&& 31)) :: st) h Q := g_b (f := fun x z => x <<< (z &&& 31)) rfl
theorem g845_15 : zG d 845 15 L (.int z :: .int x :: st) h Q = if z ≤ x then zG d 845 133 L st h Q else zG d 845 18 L st h Q := g_i2 (P := fun x z => z ≤ x) rfl
theorem g845_18 : zG d 845 18 (l0 :: l1 :: some (.int x) :: L) st h Q = zG d 845 19 (l0 :: l1 :: some (.int x) :: L) (.int x :: st) h Q := g_ldI rfl rfl
theorem g845_19 : zG d 845 19 L st h Q = zG d 845 21 L (.int (-5) :: st) h Q := g_c rfl
theorem g845_21 : zG d 845 21 L (.int z :: .int x :: st) h Q = if x = z then zG d 845 35 L st h Q else zG d 845 24 L st h Q := g_i2 (P := fun x z => x = z) rfl
theorem g845_24 : zG d 845 24 (l0 :: l1 :: l2 :: some (.int x) :: L) st h Q = zG d 845 25 (l0 :: l1 :: l2 :: some (.int x) :: L) (.int x :: st) h Q := g_ldI rfl rfl
theorem g845_25 : zG d 845 25 L [v0] h Q = zCall d 842 [v0] h (fun v h1 => zG d 845 28 L (zpush v []) h1 Q) := g_cS rfl rfl (Nat.le_of_ble_eq_true rfl) rfl (Nat.le_of_ble_eq_true rfl)
theorem g845_28 : zG d 845 28 (l0 :: l1 :: some (.int x) :: L) st h Q = zG d 845 29 (l0 :: l1 :: some (.int x) :: L) (.int x :: st) h Q := g_ldI rfl rfl
theorem g845_29 {s0 : Int32} : zG d 845 29 L [v0, .int s0] h Q = zCall d 842 [v0] h (fun v h1 => zG d 845 32 L (zpush v [.int s0]) h1 Q) := g_cS rfl rfl (Nat.le_of_ble_eq_true rfl) rfl (Nat.le_of_ble_eq_true rfl)
theorem g845_32 : zG d 845 32 L (.int z :: .int x :: st) h Q = if z ≤ x then zG d 845 127 L st h Q else zG d 845 35 L st h Q := g_i2 (P := fun x z => z ≤ x) rfl
theorem g845_35 : zG d 845 35 (some (.ref a) :: L) st h Q = zG d 845 36 (some (.ref a) :: L) (.ref a :: st) h Q := g_ldA rfl rfl
theorem g845_36 (hT : zT h a = (8, 29)) : zG d 845 36 L (.ref a :: st) h Q = zG d 845 39 L (zR h a 0 :: st) h Q := g_gR rfl hT
theorem g845_39 : zG d 845 39 (some (.ref a) :: L) st h Q = zG d 845 40 (some (.ref a) :: L) (.ref a :: st) h Q := g_ldA rfl rfl
theorem g845_40 (hT : zT h a = (8, 29)) : zG d 845 40 L (.ref a :: st) h Q = zG d 845 43 L (zR h a 1 :: st) h Q := g_gR rfl hT
theorem g845_43 : zG d 845 43 L [v1, v0] h Q = zCall d 804 [v0, v1] h (fun v h1 => zG d 845 46 L (zpush v []) h1 Q) := g_cS rfl rfl (Nat.le_of_ble_eq_true rfl) rfl (Nat.le_of_ble_eq_true rfl)
theorem g845_46 : zG d 845 46 L st h Q = zG d 845 47 L (.int 0 :: st) h Q := g_c rfl
theorem g845_47 : zG d 845 47 (l0 :: l1 :: l2 :: l3 :: l4 :: L) (.int x :: st) h Q = zG d 845 49 (l0 :: l1 :: l2 :: kl l3 :: some (.int x) :: L) st h Q := g_stI rfl (by simp) rfl
theorem g845_49 : zG d 845 49 (l0 :: l1 :: l2 :: l3 :: some (.int x) :: L) st h Q = zG d 845 51 (l0 :: l1 :: l2 :: l3 :: some (.int x) :: L) (.int x :: st) h Q := g_ldI rfl rfl
theorem g845_51 : zG d 845 51 (some (.ref a) :: L) st h Q = zG d 845 52 (some (.ref a) :: L) (.ref a :: st) h Q := g_ldA rfl rfl
theorem g845_52 (hT : zT h a = (8, 29)) : zG d 845 52 L (.ref a :: st) h Q = zG d 845 55 L (zR h a 0 :: st) h Q := g_gR rfl hT
theorem g845_55 : zG d 845 55 L st h Q = zG d 845 57 L (.int 60 :: st) h Q := g_c rfl
theorem g845_57 (hT : (zT h b).1 = 20) (hi : zin i (zT h b).2) : zG d 845 57 L (.int i :: .ref b :: st) h Q = zG d 845 58 L (.int (zI h b i.toNatClampNeg) :: st) h Q := g_ia rfl hT hi
theorem g845_58 : zG d 845 58 L (.int z :: .int x :: st) h Q = if z ≤ x then zG d 845 96 L st h Q else zG d 845 61 L st h Q := g_i2 (P := fun x z => z ≤ x) rfl
theorem g845_61 : zG d 845 61 (some (.ref a) :: L) st h Q = zG d 845 62 (some (.ref a) :: L) (.ref a :: st) h Q := g_ldA rfl rfl
theorem g845_62 : zG d 845 62 (l0 :: l1 :: l2 :: l3 :: some (.int x) :: L) st h Q = zG d 845 64 (l0 :: l1 :: l2 :: l3 :: some (.int x) :: L) (.int x :: st) h Q := g_ldI rfl rfl
theorem g845_64 : zG d 845 64 L st h Q = zG d 845 65 L (.int 2 :: st) h Q := g_c rfl
theorem g845_65 : zG d 845 65 (l0 :: l1 :: l2 :: some (.int x) :: L) st h Q = zG d 845 66 (l0 :: l1 :: l2 :: some (.int x) :: L) (.int x :: st) h Q := g_ldI rfl rfl
theorem g845_66 : zG d 845 66 (l0 :: l1 :: l2 :: l3 :: some (.int x) :: L) st h Q = zG d 845 68 (l0 :: l1 :: l2 :: l3 :: some (.int x) :: L) (.int x :: st) h Q := g_ldI rfl rfl
theorem g845_68 : zG d 845 68 L (.int z :: .int x :: st) h Q = zG d 845 69 L (.int (x >>> (z &&& 31)) :: st) h Q := g_b (f := fun x z => x >>> (z &&& 31)) rfl
theorem g845_69 : zG d 845 69 L st h Q = zG d 845 70 L (.int 1 :: st) h Q := g_c rfl
theorem g845_70 : zG d 845 70 L (.int z :: .int x :: st) h Q = zG d 845 71 L (.int (x &&& z) :: st) h Q := g_b (f := fun x z => x &&& z) rfl
theorem g845_71 : zG d 845 71 L st h Q = zG d 845 72 L (.int 1 :: st) h Q := g_c rfl
theorem g845_72 : zG d 845 72 L (.int z :: .int x :: st) h Q = if ¬ x = z then zG d 845 79 L st h Q else zG d 845 75 L st h Q := g_i2 (P := fun x z => ¬ x = z) rfl
theorem g845_75 : zG d 845 75 L st h Q = zG d 845 76 L (.int 0 :: st) h Q := g_c rfl
theorem g845_76 : zG d 845 76 L st h Q = zG d 845 86 L st h Q := g_go rfl
theorem g845_79 : zG d 845 79 (some (.ref a) :: L) st h Q = zG d 845 80 (some (.ref a) :: L) (.ref a :: st) h Q := g_ldA rfl rfl
theorem g845_80 : zG d 845 80 (l0 :: l1 :: l2 :: l3 :: some (.int x) :: L) st h Q = zG d 845 82 (l0 :: l1 :: l2 :: l3 :: some (.int x) :: L) (.int x :: st) h Q := g_ldI rfl rfl
theorem g845_82 : zG d 845 82 L st h Q = zG d 845 83 L (.int 2 :: st) h Q := g_c rfl
theorem g845_83 {s0 s1 : Int32} {s2 : Nat} (hT : (zT h a).1 = 8) : zG d 845 83 L [v1, v0, .ref a, .int s0, .int s1, .ref s2] h Q = zCall d 808 [.ref a, v0, v1] h (fun v h1 => zG d 845 86 L (zpush v [.int s0, .int s1, .ref s2]) h1 Q) := g_cV rfl rfl rfl rfl (Nat.le_of_ble_eq_true rfl) hT
theorem g845_86 (hT : (zT h a).1 = 8) : zG d 845 86 L [v2, v1, v0, .ref a] h Q = zCall d 809 [.ref a, v0, v1, v2] h (fun v h1 => zG d 845 89 L (zpush v []) h1 Q) := g_cV rfl rfl rfl rfl (Nat.le_of_ble_eq_true rfl) hT
theorem g845_89 : zG d 845 89 L (.int x :: st) h Q = zG d 845 90 L st h Q := g_popI rfl
theorem g845_90 : zG d 845 90 (l0 :: l1 :: l2 :: l3 :: some (.int x) :: L) st h Q = zG d 845 93 (l0 :: l1 :: l2 :: kl l3 :: some (.int (x + 1)) :: L) st h Q := g_inc rfl rfl rfl
theorem g845_93 : zG d 845 93 L st h Q = zG d 845 49 L st h Q := g_go rfl
theorem g845_96 : zG d 845 96 (some (.ref a) :: L) st h Q = zG d 845 97 (some (.ref a) :: L) (.ref a :: st) h Q := g_ldA rfl rfl
theorem g845_97 : zG d 845 97 (l0 :: some (.int x) :: L) st h Q = zG d 845 98 (l0 :: some (.int x) :: L) (.int x :: st) h Q := g_ldI rfl rfl
theorem g845_98 (hT : (zT h a).1 = 8) : zG d 845 98 L [v0, .ref a] h Q = zCall d 834 [.ref a, v0] h (fun v h1 => zG d 845 101 L (zpush v []) h1 Q) := g_cV rfl rfl rfl rfl (Nat.le_of_ble_eq_true rfl) hT
theorem g845_101 : zG d 845 101 (some (.ref a) :: L) st h Q = zG d 845 102 (some (.ref a) :: L) (.ref a :: st) h Q := g_ldA rfl rfl
theorem g845_102 : zG d 845 102 L st h Q = zG d 845 104 L (.int 10 :: st) h Q := g_c rfl
theorem g845_104 (hT : (zT h a).1 = 8) : zG d 845 104 L [v0, .ref a] h Q = zCall d 835 [.ref a, v0] h (fun v h1 => zG d 845 107 L (zpush v []) h1 Q) := g_cV rfl rfl rfl rfl (Nat.le_of_ble_eq_true rfl) hT
theorem g845_107 : zG d 845 107 L (.int x :: st) h Q = if ¬ x = 0 then zG d 845 114 L st h Q else zG d 845 110 L st h Q := g_i1 (P := fun x => ¬ x = 0) rfl
theorem g845_110 : zG d 845 110 (l0 :: l1 :: l2 :: some (.int x) :: L) st h Q = zG d 845 111 (l0 :: l1 :: l2 :: some (.int x) :: L) (.int x :: st) h Q := g_ldI rfl rfl
theorem g845_111 : zG d 845 111 L st h Q = zG d 845 115 L st h Q := g_go rfl
theorem g845_114 : zG d 845 114 (l0 :: l1 :: some (.int x) :: L) st h Q = zG d 845 115 (l0 :: l1 :: some (.int x) :: L) (.int x :: st) h Q := g_ldI rfl rfl
theorem g845_115 : zG d 845 115 (l0 :: l1 :: l2 :: L) (.int x :: st) h Q = zG d 845 116 (l0 :: kl l1 :: some (.int x) :: L) st h Q := g_stI rfl (by simp) rfl
theorem g845_116 : zG d 845 116 (some (.ref a) :: L) st h Q = zG d 845 117 (some (.ref a) :: L) (.ref a :: st) h Q := g_ldA rfl rfl
theorem g845_117 (hT : zT h a = (8, 29)) : zG d 845 117 L (.ref a :: st) h Q = zG d 845 120 L (zR h a 1 :: st) h Q := g_gR rfl hT
theorem g845_120 : zG d 845 120 (some (.ref a) :: L) st h Q = zG d 845 121 (some (.ref a) :: L) (.ref a :: st) h Q := g_ldA rfl rfl
theorem g845_121 (hT : zT h a = (8, 29)) : zG d 845 121 L (.ref a :: st) h Q = zG d 845 124 L (zR h a 0 :: st) h Q := g_gR rfl hT
theorem g845_124 : zG d 845 124 L [v1, v0] h Q = zCall d 804 [v0, v1] h (fun v h1 => zG d 845 127 L (zpush v []) h1 Q) := g_cS rfl rfl (Nat.le_of_ble_eq_true rfl) rfl (Nat.le_of_ble_eq_true rfl)
theorem g845_127 : zG d 845 127 (l0 :: l1 :: l2 :: some (.int x) :: L) st h Q = zG d 845 130 (l0 :: l1 :: kl l2 :: some (.int (x + 1)) :: L) st h Q := g_inc rfl rfl rfl
theorem g845_130 : zG d 845 130 L st h Q = zG d 845 5 L st h Q := g_go rfl
theorem g845_133 : zG d 845 133 (l0 :: l1 :: some (.int x) :: L) st h Q = zG d 845 134 (l0 :: l1 :: some (.int x) :: L) (.int x :: st) h Q := g_ldI rfl rfl
theorem g845_134 : zG d 845 134 L [.int x] h Q = Q (some (.int x)) h := g_rI (ok := fun _ => True) rfl trivial
theorem k845 {x0 : Int32} : zCall (d + 1) 845 [.ref a, .int x0] h Q = zG d 845 0 [some (.ref a), some (.int x0), none, none, none] [] h Q := zCall_k (Nat.le_of_ble_eq_true rfl) rfl
theorem g846_0 : zG d 846 0 (l0 :: l1 :: some (.int x) :: L) st h Q = zG d 846 1 (l0 :: l1 :: some (.int x) :: L) (.int x :: st) h Q := g_ldI rfl rfl
theorem g846_1 : zG d 846 1 L st h Q = zG d 846 2 L (.int 0 :: st) h Q := g_c rfl
theorem g846_2 : zG d 846 2 L st h Q = zG d 846 3 L (.int 3 :: st) h Q := g_c rfl
theorem g846_3 : zG d 846 3 L [v2, v1, v0] h Q = zCall d 802 [v0, v1, v2] h (fun v h1 => zG d 846 6 L (zpush v []) h1 Q) := g_cS rfl rfl (Nat.le_of_ble_eq_true rfl) rfl (Nat.le_of_ble_eq_true rfl)
theorem g846_6 : zG d 846 6 L (.int x :: st) h Q = if ¬ x = 0 then zG d 846 11 L st h Q else zG d 846 9 L st h Q := g_i1 (P := fun x => ¬ x = 0) rfl
theorem g846_9 : zG d 846 9 L st h Q = zG d 846 10 L (.int (-1) :: st) h Q := g_c rfl
theorem g846_10 : zG d 846 10 L [.int x] h Q = Q (some (.int x)) h := g_rI (ok := fun _ => True) rfl trivial
theorem g846_11 : zG d 846 11 (l0 :: some (.int x) :: L) st h Q = zG d 846 12 (l0 :: some (.int x) :: L) (.int x :: st) h Q := g_ldI rfl rfl
theorem g846_12 : zG d 846 12 L st h Q = zG d 846 13 L (.int 1 :: st) h Q := g_c rfl
theorem g846_13 : zG d 846 13 L st h Q = zG d 846 15 L (.int 20 :: st) h Q := g_c rfl
theorem g846_15 : zG d 846 15 L [v2, v1, v0] h Q = zCall d 802 [v0, v1, v2] h (fun v h1 => zG d 846 18 L (zpush v []) h1 Q) := g_cS rfl rfl (Nat.le_of_ble_eq_true rfl) rfl (Nat.le_of_ble_eq_true rfl)
theorem g846_18 : zG d 846 18 L (.int x :: st) h Q = if ¬ x = 0 then zG d 846 24 L st h Q else zG d 846 21 L st h Q := g_i1 (P := fun x => ¬ x = 0) rfl
theorem g846_21 : zG d 846 21 L st h Q = zG d 846 23 L (.int (-2) :: st) h Q := g_c rfl
theorem g846_23 : zG d 846 23 L [.int x] h Q = Q (some (.int x)) h := g_rI (ok := fun _ => True) rfl trivial
theorem g846_24 : zG d 846 24 (l0 :: l1 :: some (.int x) :: L) st h Q = zG d 846 25 (l0 :: l1 :: some (.int x) :: L) (.int x :: st) h Q := g_ldI rfl rfl
theorem g846_25 : zG d 846 25 L st h Q = zG d 846 26 L (.int 2 :: st) h Q := g_c rfl
theorem g846_26 : zG d 846 26 L (.int z :: .int x :: st) h Q = if z ≤ x then zG d 846 47 L st h Q else zG d 846 29 L st h Q := g_i2 (P := fun x z => z ≤ x) rfl
theorem g846_29 : zG d 846 29 (some (.ref a) :: L) st h Q = zG d 846 30 (some (.ref a) :: L) (.ref a :: st) h Q := g_ldA rfl rfl
theorem g846_30 : zG d 846 30 (l0 :: some (.int x) :: L) st h Q = zG d 846 31 (l0 :: some (.int x) :: L) (.int x :: st) h Q := g_ldI rfl rfl
theorem g846_31 : zG d 846 31 (l0 :: l1 :: some (.int x) :: L) st h Q = zG d 846 32 (l0 :: l1 :: some (.int x) :: L) (.int x :: st) h Q := g_ldI rfl rfl
theorem g846_32 : zG d 846 32 L st h Q = zG d 846 33 L (.int 1 :: st) h Q := g_c rfl
theorem g846_33 : zG d 846 33 L (.int z :: .int x :: st) h Q = if ¬ x = z then zG d 846 40 L st h Q else zG d 846 36 L st h Q := g_i2 (P := fun x z => ¬ x = z) rfl
theorem g846_36 : zG d 846 36 L st h Q = zG d 846 37 L (.int 1 :: st) h Q := g_c rfl
theorem g846_37 : zG d 846 37 L st h Q = zG d 846 41 L st h Q := g_go rfl
theorem g846_40 : zG d 846 40 L st h Q = zG d 846 41 L (.int 0 :: st) h Q := g_c rfl
theorem g846_41 (hT : (zT h a).1 = 8) : zG d 846 41 L [v1, v0, .ref a] h Q = zCall d 843 [.ref a, v0, v1] h (fun v h1 => zG d 846 44 L (zpush v []) h1 Q) := g_cV rfl rfl rfl rfl (Nat.le_of_ble_eq_true rfl) hT
theorem g846_44 : zG d 846 44 L st h Q = zG d 846 65 L st h Q := g_go rfl
theorem g846_47 : zG d 846 47 (l0 :: l1 :: some (.int x) :: L) st h Q = zG d 846 48 (l0 :: l1 :: some (.int x) :: L) (.int x :: st) h Q := g_ldI rfl rfl
theorem g846_48 : zG d 846 48 L st h Q = zG d 846 49 L (.int 2 :: st) h Q := g_c rfl
theorem g846_49 : zG d 846 49 L (.int z :: .int x :: st) h Q = if ¬ x = z then zG d 846 60 L st h Q else zG d 846 52 L st h Q := g_i2 (P := fun x z => ¬ x = z) rfl
theorem g846_52 : zG d 846 52 (some (.ref a) :: L) st h Q = zG d 846 53 (some (.ref a) :: L) (.ref a :: st) h Q := g_ldA rfl rfl
theorem g846_53 : zG d 846 53 (l0 :: some (.int x) :: L) st h Q = zG d 846 54 (l0 :: some (.int x) :: L) (.int x :: st) h Q := g_ldI rfl rfl
theorem g846_54 (hT : (zT h a).1 = 8) : zG d 846 54 L [v0, .ref a] h Q = zCall d 844 [.ref a, v0] h (fun v h1 => zG d 846 57 L (zpush v []) h1 Q) := g_cV rfl rfl rfl rfl (Nat.le_of_ble_eq_true rfl) hT
theorem g846_57 : zG d 846 57 L st h Q = zG d 846 65 L st h Q := g_go rfl
theorem g846_60 : zG d 846 60 (some (.ref a) :: L) st h Q = zG d 846 61 (some (.ref a) :: L) (.ref a :: st) h Q := g_ldA rfl rfl
theorem g846_61 : zG d 846 61 (l0 :: some (.int x) :: L) st h Q = zG d 846 62 (l0 :: some (.int x) :: L) (.int x :: st) h Q := g_ldI rfl rfl
theorem g846_62 (hT : (zT h a).1 = 8) : zG d 846 62 L [v0, .ref a] h Q = zCall d 845 [.ref a, v0] h (fun v h1 => zG d 846 65 L (zpush v []) h1 Q) := g_cV rfl rfl rfl rfl (Nat.le_of_ble_eq_true rfl) hT
theorem g846_65 : zG d 846 65 L [.int x] h Q = Q (some (.int x)) h := g_rI (ok := fun _ => True) rfl trivial
theorem k846 {x0 : Int32} {x1 : Int32} : zCall (d + 1) 846 [.ref a, .int x0, .int x1] h Q = zG d 846 0 [some (.ref a), some (.int x0), some (.int x1)] [] h Q := zCall_k (Nat.le_of_ble_eq_true rfl) rfl
theorem g847_0 : zG d 847 0 (l0 :: some (.int x) :: L) st h Q = zG d 847 1 (l0 :: some (.int x) :: L) (.int x :: st) h Q := g_ldI rfl rfl
theorem g847_1 : zG d 847 1 L st h Q = zG d 847 2 L (.int (-1) :: st) h Q := g_c rfl
theorem g847_2 : zG d 847 2 L (.int z :: .int x :: st) h Q = if ¬ x = z then zG d 847 15 L st h Q else zG d 847 5 L st h Q := g_i2 (P := fun x z => ¬ x = z) rfl
theorem g847_5 : zG d 847 5 (some (.ref a) :: L) st h Q = zG d 847 6 (some (.ref a) :: L) (.ref a :: st) h Q := g_ldA rfl rfl
theorem g847_6 (hT : zT h a = (8, 29)) : zG d 847 6 L (.ref a :: st) h Q = zG d 847 9 L (zR h a 0 :: st) h Q := g_gR rfl hT
theorem g847_9 : zG d 847 9 L st h Q = zG d 847 11 L (.int 64 :: st) h Q := g_c rfl
theorem g847_11 : zG d 847 11 L st h Q = zG d 847 12 L (.int 0 :: st) h Q := g_c rfl
theorem g847_12 (hT : (zT h b).1 = 20) (hi : zin i (zT h b).2) : zG d 847 12 L (.int x :: .int i :: .ref b :: st) h Q = zG d 847 13 L st (wI h b i.toNatClampNeg (x)) Q := g_is (f1 := fun x => x) rfl hT hi
theorem g847_13 : zG d 847 13 L st h Q = zG d 847 14 L (.int 0 :: st) h Q := g_c rfl
theorem g847_14 : zG d 847 14 L [.int x] h Q = Q (some (.int x)) h := g_rI (ok := fun _ => True) rfl trivial
theorem g847_15 : zG d 847 15 (some (.ref a) :: L) st h Q = zG d 847 16 (some (.ref a) :: L) (.ref a :: st) h Q := g_ldA rfl rfl
theorem g847_16 : zG d 847 16 (l0 :: some (.int x) :: L) st h Q = zG d 847 17 (l0 :: some (.int x) :: L) (.int x :: st) h Q := g_ldI rfl rfl
theorem g847_17 (hT : (zT h a).1 = 8) : zG d 847 17 L [v0, .ref a] h Q = zCall d 807 [.ref a, v0] h (fun v h1 => zG d 847 20 L (zpush v []) h1 Q) := g_cV rfl rfl rfl rfl (Nat.le_of_ble_eq_true rfl) hT
theorem g847_20 : zG d 847 20 L (.int x :: st) h Q = if x = 0 then zG d 847 33 L st h Q else zG d 847 23 L st h Q := g_i1 (P := fun x => x = 0) rfl
theorem g847_23 : zG d 847 23 (l0 :: l1 :: l2 :: some (.int x) :: L) st h Q = zG d 847 24 (l0 :: l1 :: l2 :: some (.int x) :: L) (.int x :: st) h Q := g_ldI rfl rfl
theorem g847_24 : zG d 847 24 L st h Q = zG d 847 25 L (.int 0 :: st) h Q := g_c rfl
theorem g847_25 : zG d 847 25 L st h Q = zG d 847 27 L (.int 10 :: st) h Q := g_c rfl
theorem g847_27 : zG d 847 27 L [v2, v1, v0] h Q = zCall d 802 [v0, v1, v2] h (fun v h1 => zG d 847 30 L (zpush v []) h1 Q) := g_cS rfl rfl (Nat.le_of_ble_eq_true rfl) rfl (Nat.le_of_ble_eq_true rfl)
theorem g847_30 : zG d 847 30 L (.int x :: st) h Q = if ¬ x = 0 then zG d 847 35 L st h Q else zG d 847 33 L st h Q := g_i1 (P := fun x => ¬ x = 0) rfl
theorem g847_33 : zG d 847 33 L st h Q = zG d 847 34 L (.int (-1) :: st) h Q := g_c rfl
theorem g847_34 : zG d 847 34 L [.int x] h Q = Q (some (.int x)) h := g_rI (ok := fun _ => True) rfl trivial
theorem g847_35 : zG d 847 35 (l0 :: l1 :: some (.int x) :: L) st h Q = zG d 847 36 (l0 :: l1 :: some (.int x) :: L) (.int x :: st) h Q := g_ldI rfl rfl
theorem g847_36 : zG d 847 36 L st h Q = zG d 847 37 L (.int 0 :: st) h Q := g_c rfl
theorem g847_37 : zG d 847 37 L st h Q = zG d 847 39 L (.int 12 :: st) h Q := g_c rfl
theorem g847_39 : zG d 847 39 L [v2, v1, v0] h Q = zCall d 802 [v0, v1, v2] h (fun v h1 => zG d 847 42 L (zpush v []) h1 Q) := g_cS rfl rfl (Nat.le_of_ble_eq_true rfl) rfl (Nat.le_of_ble_eq_true rfl)
theorem g847_42 : zG d 847 42 L (.int x :: st) h Q = if ¬ x = 0 then zG d 847 48 L st h Q else zG d 847 45 L st h Q := g_i1 (P := fun x => ¬ x = 0) rfl
theorem g847_45 : zG d 847 45 L st h Q = zG d 847 47 L (.int (-2) :: st) h Q := g_c rfl
theorem g847_47 : zG d 847 47 L [.int x] h Q = Q (some (.int x)) h := g_rI (ok := fun _ => True) rfl trivial
theorem g847_48 : zG d 847 48 (some (.ref a) :: L) st h Q = zG d 847 49 (some (.ref a) :: L) (.ref a :: st) h Q := g_ldA rfl rfl
theorem g847_49 (hT : zT h a = (8, 29)) : zG d 847 49 L (.ref a :: st) h Q = zG d 847 52 L (zR h a 0 :: st) h Q := g_gR rfl hT
theorem g847_52 : zG d 847 52 L st h Q = zG d 847 54 L (.int 64 :: st) h Q := g_c rfl
theorem g847_54 (hT : (zT h b).1 = 20) (hi : zin i (zT h b).2) : zG d 847 54 L (.int i :: .ref b :: st) h Q = zG d 847 55 L (.int (zI h b i.toNatClampNeg) :: st) h Q := g_ia rfl hT hi
theorem g847_55 : zG d 847 55 L st h Q = zG d 847 56 L (.int 5 :: st) h Q := g_c rfl
theorem g847_56 : zG d 847 56 L (.int z :: .int x :: st) h Q = if ¬ x = z then zG d 847 62 L st h Q else zG d 847 59 L st h Q := g_i2 (P := fun x z => ¬ x = z) rfl
theorem g847_59 : zG d 847 59 L st h Q = zG d 847 61 L (.int (-4) :: st) h Q := g_c rfl
theorem g847_61 : zG d 847 61 L [.int x] h Q = Q (some (.int x)) h := g_rI (ok := fun _ => True) rfl trivial
theorem g847_62 : zG d 847 62 L st h Q = zG d 847 64 L (.int 65 :: st) h Q := g_c rfl
theorem g847_64 : zG d 847 64 L st h Q = zG d 847 65 L (.int 3 :: st) h Q := g_c rfl
theorem g847_65 : zG d 847 65 (some (.ref a) :: L) st h Q = zG d 847 66 (some (.ref a) :: L) (.ref a :: st) h Q := g_ldA rfl rfl
theorem g847_66 (hT : zT h a = (8, 29)) : zG d 847 66 L (.ref a :: st) h Q = zG d 847 69 L (zR h a 0 :: st) h Q := g_gR rfl hT
theorem g847_69 : zG d 847 69 L st h Q = zG d 847 71 L (.int 64 :: st) h Q := g_c rfl
theorem g847_71 (hT : (zT h b).1 = 20) (hi : zin i (zT h b).2) : zG d 847 71 L (.int i :: .ref b :: st) h Q = zG d 847 72 L (.int (zI h b i.toNatClampNeg) :: st) h Q := g_ia rfl hT hi
theorem g847_72 : zG d 847 72 L (.int z :: .int x :: st) h Q = zG d 847 73 L (.int (x * z) :: st) h Q := g_b (f := fun x z => x * z) rfl
theorem g847_73 : zG d 847 73 L (.int z :: .int x :: st) h Q = zG d 847 74 L (.int (x + z) :: st) h Q := g_b (f := fun x z => x + z) rfl
theorem g847_74 : zG d 847 74 (l0 :: l1 :: l2 :: l3 :: l4 :: L) (.int x :: st) h Q = zG d 847 76 (l0 :: l1 :: l2 :: kl l3 :: some (.int x) :: L) st h Q := g_stI rfl (by simp) rfl
theorem g847_76 : zG d 847 76 (some (.ref a) :: L) st h Q = zG d 847 77 (some (.ref a) :: L) (.ref a :: st) h Q := g_ldA rfl rfl
theorem g847_77 (hT : zT h a = (8, 29)) : zG d 847 77 L (.ref a :: st) h Q = zG d 847 80 L (zR h a 0 :: st) h Q := g_gR rfl hT
theorem g847_80 : zG d 847 80 (l0 :: l1 :: l2 :: l3 :: some (.int x) :: L) st h Q = zG d 847 82 (l0 :: l1 :: l2 :: l3 :: some (.int x) :: L) (.int x :: st) h Q := g_ldI rfl rfl
theorem g847_82 : zG d 847 82 (l0 :: some (.int x) :: L) st h Q = zG d 847 83 (l0 :: some (.int x) :: L) (.int x :: st) h Q := g_ldI rfl rfl
theorem g847_83 (hT : (zT h b).1 = 20) (hi : zin i (zT h b).2) : zG d 847 83 L (.int x :: .int i :: .ref b :: st) h Q = zG d 847 84 L st (wI h b i.toNatClampNeg (x)) Q := g_is (f1 := fun x => x) rfl hT hi
theorem g847_84 : zG d 847 84 (some (.ref a) :: L) st h Q = zG d 847 85 (some (.ref a) :: L) (.ref a :: st) h Q := g_ldA rfl rfl
theorem g847_85 (hT : zT h a = (8, 29)) : zG d 847 85 L (.ref a :: st) h Q = zG d 847 88 L (zR h a 0 :: st) h Q := g_gR rfl hT
theorem g847_88 : zG d 847 88 (l0 :: l1 :: l2 :: l3 :: some (.int x) :: L) st h Q = zG d 847 90 (l0 :: l1 :: l2 :: l3 :: some (.int x) :: L) (.int x :: st) h Q := g_ldI rfl rfl
theorem g847_90 : zG d 847 90 L st h Q = zG d 847 91 L (.int 1 :: st) h Q := g_c rfl
theorem g847_91 : zG d 847 91 L (.int z :: .int x :: st) h Q = zG d 847 92 L (.int (x + z) :: st) h Q := g_b (f := fun x z => x + z) rfl
theorem g847_92 : zG d 847 92 (l0 :: l1 :: some (.int x) :: L) st h Q = zG d 847 93 (l0 :: l1 :: some (.int x) :: L) (.int x :: st) h Q := g_ldI rfl rfl
theorem g847_93 (hT : (zT h b).1 = 20) (hi : zin i (zT h b).2) : zG d 847 93 L (.int x :: .int i :: .ref b :: st) h Q = zG d 847 94 L st (wI h b i.toNatClampNeg (x)) Q := g_is (f1 := fun x => x) rfl hT hi
theorem g847_94 : zG d 847 94 (some (.ref a) :: L) st h Q = zG d 847 95 (some (.ref a) :: L) (.ref a :: st) h Q := g_ldA rfl rfl
theorem g847_95 (hT : zT h a = (8, 29)) : zG d 847 95 L (.ref a :: st) h Q = zG d 847 98 L (zR h a 0 :: st) h Q := g_gR rfl hT
theorem g847_98 : zG d 847 98 (l0 :: l1 :: l2 :: l3 :: some (.int x) :: L) st h Q = zG d 847 100 (l0 :: l1 :: l2 :: l3 :: some (.int x) :: L) (.int x :: st) h Q := g_ldI rfl rfl
theorem g847_100 : zG d 847 100 L st h Q = zG d 847 101 L (.int 2 :: st) h Q := g_c rfl
theorem g847_101 : zG d 847 101 L (.int z :: .int x :: st) h Q = zG d 847 102 L (.int (x + z) :: st) h Q := g_b (f := fun x z => x + z) rfl
theorem g847_102 : zG d 847 102 (l0 :: l1 :: l2 :: some (.int x) :: L) st h Q = zG d 847 103 (l0 :: l1 :: l2 :: some (.int x) :: L) (.int x :: st) h Q := g_ldI rfl rfl
theorem g847_103 (hT : (zT h b).1 = 20) (hi : zin i (zT h b).2) : zG d 847 103 L (.int x :: .int i :: .ref b :: st) h Q = zG d 847 104 L st (wI h b i.toNatClampNeg (x)) Q := g_is (f1 := fun x => x) rfl hT hi
theorem g847_104 : zG d 847 104 (some (.ref a) :: L) st h Q = zG d 847 105 (some (.ref a) :: L) (.ref a :: st) h Q := g_ldA rfl rfl
theorem g847_105 (hT : zT h a = (8, 29)) : zG d 847 105 L (.ref a :: st) h Q = zG d 847 108 L (zR h a 0 :: st) h Q := g_gR rfl hT
theorem g847_108 : zG d 847 108 L st h Q = zG d 847 110 L (.int 64 :: st) h Q := g_c rfl
theorem g847_110 : zG d 847 110 L (.int x :: .ref a :: st) h Q = zG d 847 111 L (.int x :: .ref a :: .int x :: .ref a :: st) h Q := g_dup2 rfl
theorem g847_111 (hT : (zT h b).1 = 20) (hi : zin i (zT h b).2) : zG d 847 111 L (.int i :: .ref b :: st) h Q = zG d 847 112 L (.int (zI h b i.toNatClampNeg) :: st) h Q := g_ia rfl hT hi
theorem g847_112 : zG d 847 112 L st h Q = zG d 847 113 L (.int 1 :: st) h Q := g_c rfl
theorem g847_113 : zG d 847 113 L (.int z :: .int x :: st) h Q = zG d 847 114 L (.int (x + z) :: st) h Q := g_b (f := fun x z => x + z) rfl
theorem g847_114 (hT : (zT h b).1 = 20) (hi : zin i (zT h b).2) : zG d 847 114 L (.int x :: .int i :: .ref b :: st) h Q = zG d 847 115 L st (wI h b i.toNatClampNeg (x)) Q := g_is (f1 := fun x => x) rfl hT hi
theorem g847_115 : zG d 847 115 (some (.ref a) :: L) st h Q = zG d 847 116 (some (.ref a) :: L) (.ref a :: st) h Q := g_ldA rfl rfl
theorem g847_116 (hT : zT h a = (8, 29)) : zG d 847 116 L (.ref a :: st) h Q = zG d 847 119 L (zR h a 0 :: st) h Q := g_gR rfl hT
theorem g847_119 : zG d 847 119 L st h Q = zG d 847 121 L (.int 64 :: st) h Q := g_c rfl
theorem g847_121 (hT : (zT h b).1 = 20) (hi : zin i (zT h b).2) : zG d 847 121 L (.int i :: .ref b :: st) h Q = zG d 847 122 L (.int (zI h b i.toNatClampNeg) :: st) h Q := g_ia rfl hT hi
theorem g847_122 : zG d 847 122 L [.int x] h Q = Q (some (.int x)) h := g_rI (ok := fun _ => True) rfl trivial
theorem k847 {x0 : Int32} {x1 : Int32} {x2 : Int32} : zCall (d + 1) 847 [.ref a, .int x0, .int x1, .int x2] h Q = zG d 847 0 [some (.ref a), some (.int x0), some (.int x1), some (.int x2), none] [] h Q := zCall_k (Nat.le_of_ble_eq_true rfl) rfl
theorem g848_0 : zG d 848 0 (some (.ref a) :: L) st h Q = zG d 848 1 (some (.ref a) :: L) (.ref a :: st) h Q := g_ldA rfl rfl
theorem g848_1 (hT : zT h a = (8, 29)) : zG d 848 1 L (.ref a :: st) h Q = zG d 848 4 L (zR h a 0 :: st) h Q := g_gR rfl hT
theorem g848_4 : zG d 848 4 (some (.ref a) :: L) st h Q = zG d 848 5 (some (.ref a) :: L) (.ref a :: st) h Q := g_ldA rfl rfl
theorem g848_5 (hT : zT h a = (8, 29)) : zG d 848 5 L (.ref a :: st) h Q = zG d 848 8 L (zR h a 1 :: st) h Q := g_gR rfl hT
theorem g848_8 : zG d 848 8 L [v1, v0] h Q = zCall d 804 [v0, v1] h (fun v h1 => zG d 848 11 L (zpush v []) h1 Q) := g_cS rfl rfl (Nat.le_of_ble_eq_true rfl) rfl (Nat.le_of_ble_eq_true rfl)
theorem g848_11 : zG d 848 11 L st h Q = zG d 848 12 L (.int 1 :: st) h Q := g_c rfl
theorem g848_12 : zG d 848 12 (l0 :: l1 :: L) (.int x :: st) h Q = zG d 848 13 (kl l0 :: some (.int x) :: L) st h Q := g_stI rfl (by simp) rfl
theorem g848_13 : zG d 848 13 L st h Q = zG d 848 14 L (.int 0 :: st) h Q := g_c rfl
theorem g848_14 : zG d 848 14 (l0 :: l1 :: l2 :: L) (.int x :: st) h Q = zG d 848 15 (l0 :: kl l1 :: some (.int x) :: L) st h Q := g_stI rfl (by simp) rfl
theorem g848_15 : zG d 848 15 (l0 :: l1 :: some (.int x) :: L) st h Q = zG d 848 16 (l0 :: l1 :: some (.int x) :: L) (.int x :: st) h Q := g_ldI rfl rfl
theorem g848_16 : zG d 848 16 L st h Q = zG d 848 18 L (.int 12 :: st) h Q := g_c rfl
theorem g848_18 : zG d 848 18 L (.int z :: .int x :: st) h Q = if z < x then zG d 848 109 L st h Q else zG d 848 21 L st h Q := g_i2 (P := fun x z => z < x) rfl
theorem g848_21 : zG d 848 21 (l0 :: some (.int x) :: L) st h Q = zG d 848 22 (l0 :: some (.int x) :: L) (.int x :: st) h Q := g_ldI rfl rfl
theorem g848_22 : zG d 848 22 L (.int x :: st) h Q = if x = 0 then zG d 848 109 L st h Q else zG d 848 25 L st h Q := g_i1 (P := fun x => x = 0) rfl
theorem g848_25 : zG d 848 25 L st h Q = zG d 848 26 L (.int 0 :: st) h Q := g_c rfl
theorem g848_26 : zG d 848 26 (l0 :: l1 :: l2 :: l3 :: L) (.int x :: st) h Q = zG d 848 27 (l0 :: l1 :: kl l2 :: some (.int x) :: L) st h Q := g_stI rfl (by simp) rfl
theorem g848_27 : zG d 848 27 (l0 :: l1 :: l2 :: some (.int x) :: L) st h Q = zG d 848 28 (l0 :: l1 :: l2 :: some (.int x) :: L) (.int x :: st) h Q := g_ldI rfl rfl
theorem g848_28 : zG d 848 28 (some (.ref a) :: L) st h Q = zG d 848 29 (some (.ref a) :: L) (.ref a :: st) h Q := g_ldA rfl rfl
theorem g848_29 (hT : zT h a = (8, 29)) : zG d 848 29 L (.ref a :: st) h Q = zG d 848 32 L (zR h a 0 :: st) h Q := g_gR rfl hT
theorem g848_32 : zG d 848 32 L st h Q = zG d 848 34 L (.int 64 :: st) h Q := g_c rfl
theorem g848_34 (hT : (zT h b).1 = 20) (hi : zin i (zT h b).2) : zG d 848 34 L (.int i :: .ref b :: st) h Q = zG d 848 35 L (.int (zI h b i.toNatClampNeg) :: st) h Q := g_ia rfl hT hi
theorem g848_35 : zG d 848 35 L (.int z :: .int x :: st) h Q = if z ≤ x then zG d 848 99 L st h Q else zG d 848 38 L st h Q := g_i2 (P := fun x z => z ≤ x) rfl
theorem g848_38 : zG d 848 38 L st h Q = zG d 848 40 L (.int 65 :: st) h Q := g_c rfl
theorem g848_40 : zG d 848 40 L st h Q = zG d 848 41 L (.int 3 :: st) h Q := g_c rfl
theorem g848_41 : zG d 848 41 (l0 :: l1 :: l2 :: some (.int x) :: L) st h Q = zG d 848 42 (l0 :: l1 :: l2 :: some (.int x) :: L) (.int x :: st) h Q := g_ldI rfl rfl
theorem g848_42 : zG d 848 42 L (.int z :: .int x :: st) h Q = zG d 848 43 L (.int (x * z) :: st) h Q := g_b (f := fun x z => x * z) rfl
theorem g848_43 : zG d 848 43 L (.int z :: .int x :: st) h Q = zG d 848 44 L (.int (x + z) :: st) h Q := g_b (f := fun x z => x + z) rfl
theorem g848_44 : zG d 848 44 (l0 :: l1 :: l2 :: l3 :: l4 :: L) (.int x :: st) h Q = zG d 848 46 (l0 :: l1 :: l2 :: kl l3 :: some (.int x) :: L) st h Q := g_stI rfl (by simp) rfl
theorem g848_46 : zG d 848 46 (l0 :: some (.int x) :: L) st h Q = zG d 848 47 (l0 :: some (.int x) :: L) (.int x :: st) h Q := g_ldI rfl rfl
theorem g848_47 : zG d 848 47 L (.int x :: st) h Q = if x = 0 then zG d 848 91 L st h Q else zG d 848 50 L st h Q := g_i1 (P := fun x => x = 0) rfl
theorem g848_50 : zG d 848 50 (some (.ref a) :: L) st h Q = zG d 848 51 (some (.ref a) :: L) (.ref a :: st) h Q := g_ldA rfl rfl
theorem g848_51 (hT : zT h a = (8, 29)) : zG d 848 51 L (.ref a :: st) h Q = zG d 848 54 L (zR h a 0 :: st) h Q := g_gR rfl hT
theorem g848_54 : zG d 848 54 (l0 :: l1 :: l2 :: l3 :: some (.int x) :: L) st h Q = zG d 848 56 (l0 :: l1 :: l2 :: l3 :: some (.int x) :: L) (.int x :: st) h Q := g_ldI rfl rfl
theorem g848_56 : zG d 848 56 L st h Q = zG d 848 57 L (.int 1 :: st) h Q := g_c rfl
theorem g848_57 : zG d 848 57 L (.int z :: .int x :: st) h Q = zG d 848 58 L (.int (x + z) :: st) h Q := g_b (f := fun x z => x + z) rfl
theorem g848_58 (hT : (zT h b).1 = 20) (hi : zin i (zT h b).2) : zG d 848 58 L (.int i :: .ref b :: st) h Q = zG d 848 59 L (.int (zI h b i.toNatClampNeg) :: st) h Q := g_ia rfl hT hi
theorem g848_59 : zG d 848 59 (l0 :: l1 :: some (.int x) :: L) st h Q = zG d 848 60 (l0 :: l1 :: some (.int x) :: L) (.int x :: st) h Q := g_ldI rfl rfl
theorem g848_60 : zG d 848 60 L (.int z :: .int x :: st) h Q = if ¬ x = z then zG d 848 87 L st h Q else zG d 848 63 L st h Q := g_i2 (P := fun x z => ¬ x = z) rfl
theorem g848_63 : zG d 848 63 (some (.ref a) :: L) st h Q = zG d 848 64 (some (.ref a) :: L) (.ref a :: st) h Q := g_ldA rfl rfl
theorem g848_64 : zG d 848 64 (some (.ref a) :: L) st h Q = zG d 848 65 (some (.ref a) :: L) (.ref a :: st) h Q := g_ldA rfl rfl
theorem g848_65 (hT : zT h a = (8, 29)) : zG d 848 65 L (.ref a :: st) h Q = zG d 848 68 L (zR h a 0 :: st) h Q := g_gR rfl hT
theorem g848_68 : zG d 848 68 (l0 :: l1 :: l2 :: l3 :: some (.int x) :: L) st h Q = zG d 848 70 (l0 :: l1 :: l2 :: l3 :: some (.int x) :: L) (.int x :: st) h Q := g_ldI rfl rfl
theorem g848_70 (hT : (zT h b).1 = 20) (hi : zin i (zT h b).2) : zG d 848 70 L (.int i :: .ref b :: st) h Q = zG d 848 71 L (.int (zI h b i.toNatClampNeg) :: st) h Q := g_ia rfl hT hi
theorem g848_71 : zG d 848 71 L st h Q = zG d 848 72 L (.int 3 :: st) h Q := g_c rfl
theorem g848_72 (hT : (zT h a).1 = 8) : zG d 848 72 L [v1, v0, .ref a] h Q = zCall d 808 [.ref a, v0, v1] h (fun v h1 => zG d 848 75 L (zpush v []) h1 Q) := g_cV rfl rfl rfl rfl (Nat.le_of_ble_eq_true rfl) hT
theorem g848_75 : zG d 848 75 (some (.ref a) :: L) st h Q = zG d 848 76 (some (.ref a) :: L) (.ref a :: st) h Q := g_ldA rfl rfl
theorem g848_76 (hT : zT h a = (8, 29)) : zG d 848 76 L (.ref a :: st) h Q = zG d 848 79 L (zR h a 0 :: st) h Q := g_gR rfl hT
theorem g848_79 : zG d 848 79 (l0 :: l1 :: l2 :: l3 :: some (.int x) :: L) st h Q = zG d 848 81 (l0 :: l1 :: l2 :: l3 :: some (.int x) :: L) (.int x :: st) h Q := g_ldI rfl rfl
theorem g848_81 : zG d 848 81 L st h Q = zG d 848 82 L (.int 2 :: st) h Q := g_c rfl
theorem g848_82 : zG d 848 82 L (.int z :: .int x :: st) h Q = zG d 848 83 L (.int (x + z) :: st) h Q := g_b (f := fun x z => x + z) rfl
theorem g848_83 (hT : (zT h b).1 = 20) (hi : zin i (zT h b).2) : zG d 848 83 L (.int i :: .ref b :: st) h Q = zG d 848 84 L (.int (zI h b i.toNatClampNeg) :: st) h Q := g_ia rfl hT hi
theorem g848_84 : zG d 848 84 L (.int z :: .int x :: st) h Q = if ¬ x = z then zG d 848 91 L st h Q else zG d 848 87 L st h Q := g_i2 (P := fun x z => ¬ x = z) rfl
theorem g848_87 : zG d 848 87 L st h Q = zG d 848 88 L (.int 1 :: st) h Q := g_c rfl
theorem g848_88 : zG d 848 88 L st h Q = zG d 848 92 L st h Q := g_go rfl
theorem g848_91 : zG d 848 91 L st h Q = zG d 848 92 L (.int 0 :: st) h Q := g_c rfl
theorem g848_92 : zG d 848 92 (l0 :: l1 :: L) (.int x :: st) h Q = zG d 848 93 (kl l0 :: some (.int x) :: L) st h Q := g_stI rfl (by simp) rfl
theorem g848_93 : zG d 848 93 (l0 :: l1 :: l2 :: some (.int x) :: L) st h Q = zG d 848 96 (l0 :: l1 :: kl l2 :: some (.int (x + 1)) :: L) st h Q := g_inc rfl rfl rfl
theorem g848_96 : zG d 848 96 L st h Q = zG d 848 27 L st h Q := g_go rfl
theorem g848_99 : zG d 848 99 (some (.ref a) :: L) st h Q = zG d 848 100 (some (.ref a) :: L) (.ref a :: st) h Q := g_ldA rfl rfl
theorem g848_100 (hT : (zT h a).1 = 8) : zG d 848 100 L [.ref a] h Q = zCall d 833 [.ref a] h (fun v h1 => zG d 848 103 L (zpush v []) h1 Q) := g_cV rfl rfl rfl rfl (Nat.le_of_ble_eq_true rfl) hT
theorem g848_103 : zG d 848 103 (l0 :: l1 :: some (.int x) :: L) st h Q = zG d 848 106 (l0 :: kl l1 :: some (.int (x + 1)) :: L) st h Q := g_inc rfl rfl rfl
theorem g848_106 : zG d 848 106 L st h Q = zG d 848 15 L st h Q := g_go rfl
theorem g848_109 : zG d 848 109 (some (.ref a) :: L) st h Q = zG d 848 110 (some (.ref a) :: L) (.ref a :: st) h Q := g_ldA rfl rfl
theorem g848_110 (hT : zT h a = (8, 29)) : zG d 848 110 L (.ref a :: st) h Q = zG d 848 113 L (zR h a 1 :: st) h Q := g_gR rfl hT
theorem g848_113 : zG d 848 113 (some (.ref a) :: L) st h Q = zG d 848 114 (some (.ref a) :: L) (.ref a :: st) h Q := g_ldA rfl rfl
theorem g848_114 (hT : zT h a = (8, 29)) : zG d 848 114 L (.ref a :: st) h Q = zG d 848 117 L (zR h a 0 :: st) h Q := g_gR rfl hT
theorem g848_117 : zG d 848 117 L [v1, v0] h Q = zCall d 804 [v0, v1] h (fun v h1 => zG d 848 120 L (zpush v []) h1 Q) := g_cS rfl rfl (Nat.le_of_ble_eq_true rfl) rfl (Nat.le_of_ble_eq_true rfl)
theorem g848_120 : zG d 848 120 (l0 :: some (.int x) :: L) st h Q = zG d 848 121 (l0 :: some (.int x) :: L) (.int x :: st) h Q := g_ldI rfl rfl
theorem g848_121 (hx : x = 0 ∨ x = 1) : zG d 848 121 L [.int x] h Q = Q (some (.int x)) h := g_rI (ok := fun x => x = 0 ∨ x = 1) rfl hx
theorem k848  : zCall (d + 1) 848 [.ref a] h Q = zG d 848 0 [some (.ref a), none, none, none, none] [] h Q := zCall_k (Nat.le_of_ble_eq_true rfl) rfl
theorem g849_0 : zG d 849 0 (some (.ref a) :: L) st h Q = zG d 849 1 (some (.ref a) :: L) (.ref a :: st) h Q := g_ldA rfl rfl
theorem g849_1 : zG d 849 1 (l0 :: some (.int x) :: L) st h Q = zG d 849 2 (l0 :: some (.int x) :: L) (.int x :: st) h Q := g_ldI rfl rfl
theorem g849_2 : zG d 849 2 (l0 :: l1 :: some (.int x) :: L) st h Q = zG d 849 3 (l0 :: l1 :: some (.int x) :: L) (.int x :: st) h Q := g_ldI rfl rfl
theorem g849_3 (hT : (zT h a).1 = 8) : zG d 849 3 L [v1, v0, .ref a] h Q = zCall d 808 [.ref a, v0, v1] h (fun v h1 => zG d 849 6 L (zpush v []) h1 Q) := g_cV rfl rfl rfl rfl (Nat.le_of_ble_eq_true rfl) hT
theorem g849_6 : zG d 849 6 (l0 :: l1 :: l2 :: l3 :: l4 :: l5 :: L) (.int x :: st) h Q = zG d 849 8 (l0 :: l1 :: l2 :: l3 :: kl l4 :: some (.int x) :: L) st h Q := g_stI rfl (by simp) rfl
theorem g849_8 : zG d 849 8 L st h Q = zG d 849 9 L (.int 0 :: st) h Q := g_c rfl
theorem g849_9 : zG d 849 9 (l0 :: l1 :: l2 :: l3 :: l4 :: l5 :: l6 :: L) (.int x :: st) h Q = zG d 849 11 (l0 :: l1 :: l2 :: l3 :: l4 :: kl l5 :: some (.int x) :: L) st h Q := g_stI rfl (by simp) rfl
theorem g849_11 : zG d 849 11 L st h Q = zG d 849 13 L (.int (-5) :: st) h Q := g_c rfl
theorem g849_13 : zG d 849 13 (l0 :: l1 :: l2 :: l3 :: l4 :: l5 :: l6 :: l7 :: L) (.int x :: st) h Q = zG d 849 15 (l0 :: l1 :: l2 :: l3 :: l4 :: l5 :: kl l6 :: some (.int x) :: L) st h Q := g_stI rfl (by simp) rfl
theorem g849_15 : zG d 849 15 (l0 :: l1 :: l2 :: some (.int x) :: L) st h Q = zG d 849 16 (l0 :: l1 :: l2 :: some (.int x) :: L) (.int x :: st) h Q := g_ldI rfl rfl
theorem g849_16 : zG d 849 16 (l0 :: l1 :: l2 :: l3 :: l4 :: l5 :: l6 :: l7 :: l8 :: L) (.int x :: st) h Q = zG d 849 18 (l0 :: l1 :: l2 :: l3 :: l4 :: l5 :: l6 :: kl l7 :: some (.int x) :: L) st h Q := g_stI rfl (by simp) rfl
theorem g849_18 : zG d 849 18 (l0 :: l1 :: l2 :: l3 :: l4 :: l5 :: l6 :: l7 :: some (.int x) :: L) st h Q = zG d 849 20 (l0 :: l1 :: l2 :: l3 :: l4 :: l5 :: l6 :: l7 :: some (.int x) :: L) (.int x :: st) h Q := g_ldI rfl rfl
theorem g849_20 : zG d 849 20 L (.int x :: st) h Q = if x < 0 then zG d 849 73 L st h Q else zG d 849 23 L st h Q := g_i1 (P := fun x => x < 0) rfl
theorem g849_23 : zG d 849 23 (some (.ref a) :: L) st h Q = zG d 849 24 (some (.ref a) :: L) (.ref a :: st) h Q := g_ldA rfl rfl
theorem g849_24 : zG d 849 24 (l0 :: some (.int x) :: L) st h Q = zG d 849 25 (l0 :: some (.int x) :: L) (.int x :: st) h Q := g_ldI rfl rfl
theorem g849_25 : zG d 849 25 (l0 :: l1 :: some (.int x) :: L) st h Q = zG d 849 26 (l0 :: l1 :: some (.int x) :: L) (.int x :: st) h Q := g_ldI rfl rfl
theorem g849_26 : zG d 849 26 (l0 :: l1 :: l2 :: l3 :: l4 :: l5 :: l6 :: l7 :: some (.int x) :: L) st h Q = zG d 849 28 (l0 :: l1 :: l2 :: l3 :: l4 :: l5 :: l6 :: l7 :: some (.int x) :: L) (.int x :: st) h Q := g_ldI rfl rfl
theorem g849_28 (hT : (zT h a).1 = 8) : zG d 849 28 L [v2, v1, v0, .ref a] h Q = zCall d 809 [.ref a, v0, v1, v2] h (fun v h1 => zG d 849 31 L (zpush v []) h1 Q) := g_cV rfl rfl rfl rfl (Nat.le_of_ble_eq_true rfl) hT
theorem g849_31 : zG d 849 31 L (.int x :: st) h Q = zG d 849 32 L st h Q := g_popI rfl
theorem g849_32 : zG d 849 32 (some (.ref a) :: L) st h Q = zG d 849 33 (some (.ref a) :: L) (.ref a :: st) h Q := g_ldA rfl rfl
theorem g849_33 (hT : (zT h a).1 = 8) : zG d 849 33 L [.ref a] h Q = zCall d 848 [.ref a] h (fun v h1 => zG d 849 36 L (zpush v []) h1 Q) := g_cV rfl rfl rfl rfl (Nat.le_of_ble_eq_true rfl) hT
theorem g849_36 : zG d 849 36 (l0 :: l1 :: l2 :: l3 :: l4 :: l5 :: l6 :: l7 :: l8 :: l9 :: L) (.int x :: st) h Q = zG d 849 38 (l0 :: l1 :: l2 :: l3 :: l4 :: l5 :: l6 :: l7 :: kl l8 :: some (.int x) :: L) st h Q := g_stI rfl (by simp) rfl
theorem g849_38 : zG d 849 38 (l0 :: l1 :: l2 :: l3 :: l4 :: l5 :: some (.int x) :: L) st h Q = zG d 849 40 (l0 :: l1 :: l2 :: l3 :: l4 :: l5 :: some (.int x) :: L) (.int x :: st) h Q := g_ldI rfl rfl
theorem g849_40 : zG d 849 40 (l0 :: l1 :: l2 :: l3 :: l4 :: l5 :: l6 :: l7 :: l8 :: some (.int x) :: L) st h Q = zG d 849 42 (l0 :: l1 :: l2 :: l3 :: l4 :: l5 :: l6 :: l7 :: l8 :: some (.int x) :: L) (.int x :: st) h Q := g_ldI rfl rfl
theorem g849_42 : zG d 849 42 L (.int x :: st) h Q = if x = 0 then zG d 849 49 L st h Q else zG d 849 45 L st h Q := g_i1 (P := fun x => x = 0) rfl
theorem g849_45 : zG d 849 45 L st h Q = zG d 849 46 L (.int 1 :: st) h Q := g_c rfl
theorem g849_46 : zG d 849 46 L st h Q = zG d 849 50 L st h Q := g_go rfl
theorem g849_49 : zG d 849 49 L st h Q = zG d 849 50 L (.int 0 :: st) h Q := g_c rfl
theorem g849_50 : zG d 849 50 L (.int z :: .int x :: st) h Q = zG d 849 51 L (.int (x + z) :: st) h Q := g_b (f := fun x z => x + z) rfl
theorem g849_51 : zG d 849 51 (l0 :: l1 :: l2 :: l3 :: l4 :: l5 :: l6 :: L) (.int x :: st) h Q = zG d 849 53 (l0 :: l1 :: l2 :: l3 :: l4 :: kl l5 :: some (.int x) :: L) st h Q := g_stI rfl (by simp) rfl
theorem g849_53 : zG d 849 53 (l0 :: l1 :: l2 :: l3 :: l4 :: l5 :: l6 :: l7 :: l8 :: some (.int x) :: L) st h Q = zG d 849 55 (l0 :: l1 :: l2 :: l3 :: l4 :: l5 :: l6 :: l7 :: l8 :: some (.int x) :: L) (.int x :: st) h Q := g_ldI rfl rfl
theorem g849_55 : zG d 849 55 L (.int x :: st) h Q = if x = 0 then zG d 849 63 L st h Q else zG d 849 58 L st h Q := g_i1 (P := fun x => x = 0) rfl
theorem g849_58 : zG d 849 58 (l0 :: l1 :: l2 :: l3 :: l4 :: l5 :: l6 :: l7 :: some (.int x) :: L) st h Q = zG d 849 60 (l0 :: l1 :: l2 :: l3 :: l4 :: l5 :: l6 :: l7 :: some (.int x) :: L) (.int x :: st) h Q := g_ldI rfl rfl
theorem g849_60 : zG d 849 60 L st h Q = zG d 849 65 L st h Q := g_go rfl
theorem g849_63 : zG d 849 63 (l0 :: l1 :: l2 :: l3 :: l4 :: l5 :: l6 :: some (.int x) :: L) st h Q = zG d 849 65 (l0 :: l1 :: l2 :: l3 :: l4 :: l5 :: l6 :: some (.int x) :: L) (.int x :: st) h Q := g_ldI rfl rfl
theorem g849_65 : zG d 849 65 (l0 :: l1 :: l2 :: l3 :: l4 :: l5 :: l6 :: l7 :: L) (.int x :: st) h Q = zG d 849 67 (l0 :: l1 :: l2 :: l3 :: l4 :: l5 :: kl l6 :: some (.int x) :: L) st h Q := g_stI rfl (by simp) rfl
theorem g849_67 : zG d 849 67 (l0 :: l1 :: l2 :: l3 :: l4 :: l5 :: l6 :: l7 :: some (.int x) :: L) st h Q = zG d 849 70 (l0 :: l1 :: l2 :: l3 :: l4 :: l5 :: l6 :: kl l7 :: some (.int (x + (-1))) :: L) st h Q := g_inc rfl rfl rfl
theorem g849_70 : zG d 849 70 L st h Q = zG d 849 18 L st h Q := g_go rfl
theorem g849_73 : zG d 849 73 (some (.ref a) :: L) st h Q = zG d 849 74 (some (.ref a) :: L) (.ref a :: st) h Q := g_ldA rfl rfl
theorem g849_74 : zG d 849 74 (l0 :: some (.int x) :: L) st h Q = zG d 849 75 (l0 :: some (.int x) :: L) (.int x :: st) h Q := g_ldI rfl rfl
theorem g849_75 : zG d 849 75 (l0 :: l1 :: some (.int x) :: L) st h Q = zG d 849 76 (l0 :: l1 :: some (.int x) :: L) (.int x :: st) h Q := g_ldI rfl rfl
theorem g849_76 : zG d 849 76 (l0 :: l1 :: l2 :: l3 :: l4 :: some (.int x) :: L) st h Q = zG d 849 78 (l0 :: l1 :: l2 :: l3 :: l4 :: some (.int x) :: L) (.int x :: st) h Q := g_ldI rfl rfl
theorem g849_78 (hT : (zT h a).1 = 8) : zG d 849 78 L [v2, v1, v0, .ref a] h Q = zCall d 809 [.ref a, v0, v1, v2] h (fun v h1 => zG d 849 81 L (zpush v []) h1 Q) := g_cV rfl rfl rfl rfl (Nat.le_of_ble_eq_true rfl) hT
theorem g849_81 : zG d 849 81 L (.int x :: st) h Q = zG d 849 82 L st h Q := g_popI rfl
theorem g849_82 : zG d 849 82 (l0 :: l1 :: l2 :: l3 :: some (.int x) :: L) st h Q = zG d 849 84 (l0 :: l1 :: l2 :: l3 :: some (.int x) :: L) (.int x :: st) h Q := g_ldI rfl rfl
theorem g849_84 : zG d 849 84 L (.int x :: st) h Q = if ¬ x = 0 then zG d 849 92 L st h Q else zG d 849 87 L st h Q := g_i1 (P := fun x => ¬ x = 0) rfl
theorem g849_87 : zG d 849 87 (l0 :: l1 :: l2 :: l3 :: l4 :: l5 :: some (.int x) :: L) st h Q = zG d 849 89 (l0 :: l1 :: l2 :: l3 :: l4 :: l5 :: some (.int x) :: L) (.int x :: st) h Q := g_ldI rfl rfl
theorem g849_89 : zG d 849 89 L st h Q = zG d 849 94 L st h Q := g_go rfl
theorem g849_92 : zG d 849 92 (l0 :: l1 :: l2 :: l3 :: l4 :: l5 :: l6 :: some (.int x) :: L) st h Q = zG d 849 94 (l0 :: l1 :: l2 :: l3 :: l4 :: l5 :: l6 :: some (.int x) :: L) (.int x :: st) h Q := g_ldI rfl rfl
theorem g849_94 : zG d 849 94 L [.int x] h Q = Q (some (.int x)) h := g_rI (ok := fun _ => True) rfl trivial
theorem k849 {x0 : Int32} {x1 : Int32} {x2 : Int32} {x3 : Int32} : zCall (d + 1) 849 [.ref a, .int x0, .int x1, .int x2, .int x3] h Q = zG d 849 0 [some (.ref a), some (.int x0), some (.int x1), some (.int x2), some (.int x3), none, none, none, none, none] [] h Q := zCall_k (Nat.le_of_ble_eq_true rfl) rfl
theorem g850_0 : zG d 850 0 (some (.ref a) :: L) st h Q = zG d 850 1 (some (.ref a) :: L) (.ref a :: st) h Q := g_ldA rfl rfl
theorem g850_1 : zG d 850 1 (l0 :: some (.int x) :: L) st h Q = zG d 850 2 (l0 :: some (.int x) :: L) (.int x :: st) h Q := g_ldI rfl rfl
theorem g850_2 (hT : (zT h a).1 = 8) : zG d 850 2 L [v0, .ref a] h Q = zCall d 807 [.ref a, v0] h (fun v h1 => zG d 850 5 L (zpush v []) h1 Q) := g_cV rfl rfl rfl rfl (Nat.le_of_ble_eq_true rfl) hT
theorem g850_5 : zG d 850 5 L (.int x :: st) h Q = if x = 0 then zG d 850 26 L st h Q else zG d 850 8 L st h Q := g_i1 (P := fun x => x = 0) rfl
theorem g850_8 : zG d 850 8 (l0 :: l1 :: some (.int x) :: L) st h Q = zG d 850 9 (l0 :: l1 :: some (.int x) :: L) (.int x :: st) h Q := g_ldI rfl rfl
theorem g850_9 : zG d 850 9 L st h Q = zG d 850 10 L (.int 0 :: st) h Q := g_c rfl
theorem g850_10 : zG d 850 10 L st h Q = zG d 850 11 L (.int 1 :: st) h Q := g_c rfl
theorem g850_11 : zG d 850 11 L [v2, v1, v0] h Q = zCall d 802 [v0, v1, v2] h (fun v h1 => zG d 850 14 L (zpush v []) h1 Q) := g_cS rfl rfl (Nat.le_of_ble_eq_true rfl) rfl (Nat.le_of_ble_eq_true rfl)
theorem g850_14 : zG d 850 14 L (.int x :: st) h Q = if x = 0 then zG d 850 26 L st h Q else zG d 850 17 L st h Q := g_i1 (P := fun x => x = 0) rfl
theorem g850_17 : zG d 850 17 (l0 :: l1 :: l2 :: some (.int x) :: L) st h Q = zG d 850 18 (l0 :: l1 :: l2 :: some (.int x) :: L) (.int x :: st) h Q := g_ldI rfl rfl
theorem g850_18 : zG d 850 18 L st h Q = zG d 850 19 L (.int 0 :: st) h Q := g_c rfl
theorem g850_19 : zG d 850 19 L st h Q = zG d 850 20 L (.int 1 :: st) h Q := g_c rfl
theorem g850_20 : zG d 850 20 L [v2, v1, v0] h Q = zCall d 802 [v0, v1, v2] h (fun v h1 => zG d 850 23 L (zpush v []) h1 Q) := g_cS rfl rfl (Nat.le_of_ble_eq_true rfl) rfl (Nat.le_of_ble_eq_true rfl)
theorem g850_23 : zG d 850 23 L (.int x :: st) h Q = if ¬ x = 0 then zG d 850 28 L st h Q else zG d 850 26 L st h Q := g_i1 (P := fun x => ¬ x = 0) rfl
theorem g850_26 : zG d 850 26 L st h Q = zG d 850 27 L (.int (-1) :: st) h Q := g_c rfl
theorem g850_27 : zG d 850 27 L [.int x] h Q = Q (some (.int x)) h := g_rI (ok := fun _ => True) rfl trivial
theorem g850_28 : zG d 850 28 (l0 :: l1 :: some (.int x) :: L) st h Q = zG d 850 29 (l0 :: l1 :: some (.int x) :: L) (.int x :: st) h Q := g_ldI rfl rfl
theorem g850_29 : zG d 850 29 L (.int x :: st) h Q = if ¬ x = 0 then zG d 850 44 L st h Q else zG d 850 32 L st h Q := g_i1 (P := fun x => ¬ x = 0) rfl
theorem g850_32 : zG d 850 32 (some (.ref a) :: L) st h Q = zG d 850 33 (some (.ref a) :: L) (.ref a :: st) h Q := g_ldA rfl rfl
theorem g850_33 : zG d 850 33 (l0 :: some (.int x) :: L) st h Q = zG d 850 34 (l0 :: some (.int x) :: L) (.int x :: st) h Q := g_ldI rfl rfl
theorem g850_34 : zG d 850 34 L st h Q = zG d 850 35 L (.int 2 :: st) h Q := g_c rfl
theorem g850_35 : zG d 850 35 L st h Q = zG d 850 37 L (.int 99 :: st) h Q := g_c rfl
theorem g850_37 : zG d 850 37 (l0 :: l1 :: l2 :: some (.int x) :: L) st h Q = zG d 850 38 (l0 :: l1 :: l2 :: some (.int x) :: L) (.int x :: st) h Q := g_ldI rfl rfl
theorem g850_38 (hT : (zT h a).1 = 8) : zG d 850 38 L [v3, v2, v1, v0, .ref a] h Q = zCall d 849 [.ref a, v0, v1, v2, v3] h (fun v h1 => zG d 850 41 L (zpush v []) h1 Q) := g_cV rfl rfl rfl rfl (Nat.le_of_ble_eq_true rfl) hT
theorem g850_41 : zG d 850 41 L st h Q = zG d 850 53 L st h Q := g_go rfl
theorem g850_44 : zG d 850 44 (some (.ref a) :: L) st h Q = zG d 850 45 (some (.ref a) :: L) (.ref a :: st) h Q := g_ldA rfl rfl
theorem g850_45 : zG d 850 45 (l0 :: some (.int x) :: L) st h Q = zG d 850 46 (l0 :: some (.int x) :: L) (.int x :: st) h Q := g_ldI rfl rfl
theorem g850_46 : zG d 850 46 L st h Q = zG d 850 47 L (.int 1 :: st) h Q := g_c rfl
theorem g850_47 : zG d 850 47 L st h Q = zG d 850 49 L (.int 9 :: st) h Q := g_c rfl
theorem g850_49 : zG d 850 49 (l0 :: l1 :: l2 :: some (.int x) :: L) st h Q = zG d 850 50 (l0 :: l1 :: l2 :: some (.int x) :: L) (.int x :: st) h Q := g_ldI rfl rfl
theorem g850_50 (hT : (zT h a).1 = 8) : zG d 850 50 L [v3, v2, v1, v0, .ref a] h Q = zCall d 849 [.ref a, v0, v1, v2, v3] h (fun v h1 => zG d 850 53 L (zpush v []) h1 Q) := g_cV rfl rfl rfl rfl (Nat.le_of_ble_eq_true rfl) hT
theorem g850_53 : zG d 850 53 L [.int x] h Q = Q (some (.int x)) h := g_rI (ok := fun _ => True) rfl trivial
theorem k850 {x0 : Int32} {x1 : Int32} {x2 : Int32} : zCall (d + 1) 850 [.ref a, .int x0, .int x1, .int x2] h Q = zG d 850 0 [some (.ref a), some (.int x0), some (.int x1), some (.int x2)] [] h Q := zCall_k (Nat.le_of_ble_eq_true rfl) rfl
theorem g851_0 : zG d 851 0 (some (.ref a) :: L) st h Q = zG d 851 1 (some (.ref a) :: L) (.ref a :: st) h Q := g_ldA rfl rfl
theorem g851_1 : zG d 851 1 (l0 :: some (.int x) :: L) st h Q = zG d 851 2 (l0 :: some (.int x) :: L) (.int x :: st) h Q := g_ldI rfl rfl
theorem g851_2 (hT : (zT h a).1 = 8) : zG d 851 2 L [v0, .ref a] h Q = zCall d 807 [.ref a, v0] h (fun v h1 => zG d 851 5 L (zpush v []) h1 Q) := g_cV rfl rfl rfl rfl (Nat.le_of_ble_eq_true rfl) hT
theorem g851_5 : zG d 851 5 L (.int x :: st) h Q = if ¬ x = 0 then zG d 851 10 L st h Q else zG d 851 8 L st h Q := g_i1 (P := fun x => ¬ x = 0) rfl
theorem g851_8 : zG d 851 8 L st h Q = zG d 851 9 L (.int (-1) :: st) h Q := g_c rfl
theorem g851_9 : zG d 851 9 L [.int x] h Q = Q (some (.int x)) h := g_rI (ok := fun _ => True) rfl trivial
theorem g851_10 : zG d 851 10 (some (.ref a) :: L) st h Q = zG d 851 11 (some (.ref a) :: L) (.ref a :: st) h Q := g_ldA rfl rfl
theorem g851_11 : zG d 851 11 (l0 :: some (.int x) :: L) st h Q = zG d 851 12 (l0 :: some (.int x) :: L) (.int x :: st) h Q := g_ldI rfl rfl
theorem g851_12 : zG d 851 12 L st h Q = zG d 851 13 L (.int 3 :: st) h Q := g_c rfl
theorem g851_13 (hT : (zT h a).1 = 8) : zG d 851 13 L [v1, v0, .ref a] h Q = zCall d 808 [.ref a, v0, v1] h (fun v h1 => zG d 851 16 L (zpush v []) h1 Q) := g_cV rfl rfl rfl rfl (Nat.le_of_ble_eq_true rfl) hT
theorem g851_16 : zG d 851 16 (l0 :: l1 :: l2 :: L) (.int x :: st) h Q = zG d 851 17 (l0 :: kl l1 :: some (.int x) :: L) st h Q := g_stI rfl (by simp) rfl
theorem g851_17 : zG d 851 17 (some (.ref a) :: L) st h Q = zG d 851 18 (some (.ref a) :: L) (.ref a :: st) h Q := g_ldA rfl rfl
theorem g851_18 : zG d 851 18 (l0 :: some (.int x) :: L) st h Q = zG d 851 19 (l0 :: some (.int x) :: L) (.int x :: st) h Q := g_ldI rfl rfl
theorem g851_19 : zG d 851 19 L st h Q = zG d 851 20 L (.int 4 :: st) h Q := g_c rfl
theorem g851_20 : zG d 851 20 L st h Q = zG d 851 21 L (.int 0 :: st) h Q := g_c rfl
theorem g851_21 (hT : (zT h a).1 = 8) : zG d 851 21 L [v2, v1, v0, .ref a] h Q = zCall d 809 [.ref a, v0, v1, v2] h (fun v h1 => zG d 851 24 L (zpush v []) h1 Q) := g_cV rfl rfl rfl rfl (Nat.le_of_ble_eq_true rfl) hT
theorem g851_24 : zG d 851 24 (l0 :: l1 :: l2 :: l3 :: L) (.int x :: st) h Q = zG d 851 25 (l0 :: l1 :: kl l2 :: some (.int x) :: L) st h Q := g_stI rfl (by simp) rfl
theorem g851_25 : zG d 851 25 L st h Q = zG d 851 26 L (.int 0 :: st) h Q := g_c rfl
theorem g851_26 : zG d 851 26 (l0 :: l1 :: l2 :: l3 :: l4 :: L) (.int x :: st) h Q = zG d 851 28 (l0 :: l1 :: l2 :: kl l3 :: some (.int x) :: L) st h Q := g_stI rfl (by simp) rfl
theorem g851_28 : zG d 851 28 L st h Q = zG d 851 29 L (.int 0 :: st) h Q := g_c rfl
theorem g851_29 : zG d 851 29 (l0 :: l1 :: l2 :: l3 :: l4 :: l5 :: L) (.int x :: st) h Q = zG d 851 31 (l0 :: l1 :: l2 :: l3 :: kl l4 :: some (.int x) :: L) st h Q := g_stI rfl (by simp) rfl
theorem g851_31 : zG d 851 31 (l0 :: l1 :: l2 :: l3 :: l4 :: some (.int x) :: L) st h Q = zG d 851 33 (l0 :: l1 :: l2 :: l3 :: l4 :: some (.int x) :: L) (.int x :: st) h Q := g_ldI rfl rfl
theorem g851_33 : zG d 851 33 L st h Q = zG d 851 35 L (.int 10 :: st) h Q := g_c rfl
theorem g851_35 : zG d 851 35 L (.int z :: .int x :: st) h Q = if z < x then zG d 851 73 L st h Q else zG d 851 38 L st h Q := g_i2 (P := fun x z => z < x) rfl
theorem g851_38 : zG d 851 38 (some (.ref a) :: L) st h Q = zG d 851 39 (some (.ref a) :: L) (.ref a :: st) h Q := g_ldA rfl rfl
theorem g851_39 : zG d 851 39 (l0 :: some (.int x) :: L) st h Q = zG d 851 40 (l0 :: some (.int x) :: L) (.int x :: st) h Q := g_ldI rfl rfl
theorem g851_40 : zG d 851 40 L st h Q = zG d 851 41 L (.int 3 :: st) h Q := g_c rfl
theorem g851_41 : zG d 851 41 (l0 :: l1 :: l2 :: l3 :: l4 :: some (.int x) :: L) st h Q = zG d 851 43 (l0 :: l1 :: l2 :: l3 :: l4 :: some (.int x) :: L) (.int x :: st) h Q := g_ldI rfl rfl
theorem g851_43 (hT : (zT h a).1 = 8) : zG d 851 43 L [v2, v1, v0, .ref a] h Q = zCall d 809 [.ref a, v0, v1, v2] h (fun v h1 => zG d 851 46 L (zpush v []) h1 Q) := g_cV rfl rfl rfl rfl (Nat.le_of_ble_eq_true rfl) hT
theorem g851_46 : zG d 851 46 L (.int x :: st) h Q = zG d 851 47 L st h Q := g_popI rfl
theorem g851_47 : zG d 851 47 (l0 :: l1 :: l2 :: l3 :: some (.int x) :: L) st h Q = zG d 851 49 (l0 :: l1 :: l2 :: l3 :: some (.int x) :: L) (.int x :: st) h Q := g_ldI rfl rfl
theorem g851_49 : zG d 851 49 (some (.ref a) :: L) st h Q = zG d 851 50 (some (.ref a) :: L) (.ref a :: st) h Q := g_ldA rfl rfl
theorem g851_50 {s0 : Int32} (hT : (zT h a).1 = 8) : zG d 851 50 L [.ref a, .int s0] h Q = zCall d 848 [.ref a] h (fun v h1 => zG d 851 53 L (zpush v [.int s0]) h1 Q) := g_cV rfl rfl rfl rfl (Nat.le_of_ble_eq_true rfl) hT
theorem g851_53 : zG d 851 53 L (.int x :: st) h Q = if x = 0 then zG d 851 63 L st h Q else zG d 851 56 L st h Q := g_i1 (P := fun x => x = 0) rfl
theorem g851_56 : zG d 851 56 L st h Q = zG d 851 57 L (.int 1 :: st) h Q := g_c rfl
theorem g851_57 : zG d 851 57 (l0 :: l1 :: l2 :: l3 :: l4 :: some (.int x) :: L) st h Q = zG d 851 59 (l0 :: l1 :: l2 :: l3 :: l4 :: some (.int x) :: L) (.int x :: st) h Q := g_ldI rfl rfl
theorem g851_59 : zG d 851 59 L (.int z :: .int x :: st) h Q = zG d 851 60 L (.int (x <<< (z &&& 31)) :: st) h Q := g_b (f := fun x z => x <<< (z &&& 31)) rfl
theorem g851_60 : zG d 851 60 L st h Q = zG d 851 64 L st h Q := g_go rfl
theorem g851_63 : zG d 851 63 L st h Q = zG d 851 64 L (.int 0 :: st) h Q := g_c rfl
theorem g851_64 : zG d 851 64 L (.int z :: .int x :: st) h Q = zG d 851 65 L (.int (x ||| z) :: st) h Q := g_b (f := fun x z => x ||| z) rfl
theorem g851_65 : zG d 851 65 (l0 :: l1 :: l2 :: l3 :: l4 :: L) (.int x :: st) h Q = zG d 851 67 (l0 :: l1 :: l2 :: kl l3 :: some (.int x) :: L) st h Q := g_stI rfl (by simp) rfl
theorem g851_67 : zG d 851 67 (l0 :: l1 :: l2 :: l3 :: l4 :: some (.int x) :: L) st h Q = zG d 851 70 (l0 :: l1 :: l2 :: l3 :: kl l4 :: some (.int (x + 1)) :: L) st h Q := g_inc rfl rfl rfl
theorem g851_70 : zG d 851 70 L st h Q = zG d 851 31 L st h Q := g_go rfl
theorem g851_73 : zG d 851 73 (some (.ref a) :: L) st h Q = zG d 851 74 (some (.ref a) :: L) (.ref a :: st) h Q := g_ldA rfl rfl
theorem g851_74 : zG d 851 74 (l0 :: some (.int x) :: L) st h Q = zG d 851 75 (l0 :: some (.int x) :: L) (.int x :: st) h Q := g_ldI rfl rfl
theorem g851_75 : zG d 851 75 L st h Q = zG d 851 76 L (.int 3 :: st) h Q := g_c rfl
theorem g851_76 : zG d 851 76 (l0 :: l1 :: some (.int x) :: L) st h Q = zG d 851 77 (l0 :: l1 :: some (.int x) :: L) (.int x :: st) h Q := g_ldI rfl rfl
theorem g851_77 (hT : (zT h a).1 = 8) : zG d 851 77 L [v2, v1, v0, .ref a] h Q = zCall d 809 [.ref a, v0, v1, v2] h (fun v h1 => zG d 851 80 L (zpush v []) h1 Q) := g_cV rfl rfl rfl rfl (Nat.le_of_ble_eq_true rfl) hT
theorem g851_80 : zG d 851 80 L (.int x :: st) h Q = zG d 851 81 L st h Q := g_popI rfl
theorem g851_81 : zG d 851 81 (some (.ref a) :: L) st h Q = zG d 851 82 (some (.ref a) :: L) (.ref a :: st) h Q := g_ldA rfl rfl
theorem g851_82 : zG d 851 82 (l0 :: some (.int x) :: L) st h Q = zG d 851 83 (l0 :: some (.int x) :: L) (.int x :: st) h Q := g_ldI rfl rfl
theorem g851_83 : zG d 851 83 L st h Q = zG d 851 84 L (.int 4 :: st) h Q := g_c rfl
theorem g851_84 : zG d 851 84 (l0 :: l1 :: l2 :: some (.int x) :: L) st h Q = zG d 851 85 (l0 :: l1 :: l2 :: some (.int x) :: L) (.int x :: st) h Q := g_ldI rfl rfl
theorem g851_85 (hT : (zT h a).1 = 8) : zG d 851 85 L [v2, v1, v0, .ref a] h Q = zCall d 809 [.ref a, v0, v1, v2] h (fun v h1 => zG d 851 88 L (zpush v []) h1 Q) := g_cV rfl rfl rfl rfl (Nat.le_of_ble_eq_true rfl) hT
theorem g851_88 : zG d 851 88 L (.int x :: st) h Q = zG d 851 89 L st h Q := g_popI rfl
theorem g851_89 : zG d 851 89 (l0 :: l1 :: l2 :: l3 :: some (.int x) :: L) st h Q = zG d 851 91 (l0 :: l1 :: l2 :: l3 :: some (.int x) :: L) (.int x :: st) h Q := g_ldI rfl rfl
theorem g851_91 : zG d 851 91 L [.int x] h Q = Q (some (.int x)) h := g_rI (ok := fun _ => True) rfl trivial
theorem k851 {x0 : Int32} : zCall (d + 1) 851 [.ref a, .int x0] h Q = zG d 851 0 [some (.ref a), some (.int x0), none, none, none, none] [] h Q := zCall_k (Nat.le_of_ble_eq_true rfl) rfl
theorem g852_0 : zG d 852 0 (some (.long u) :: L) st h Q = zG d 852 1 (some (.long u) :: L) (.long u :: st) h Q := g_ldJ rfl rfl
theorem g852_1 : zG d 852 1 (l0 :: l1 :: l2 :: l3 :: l4 :: l5 :: l6 :: L) (.long u :: st) h Q = zG d 852 3 (l0 :: l1 :: l2 :: l3 :: kl l4 :: some (.long u) :: none :: L) st h Q := g_stJ rfl (by simp) rfl
theorem g852_3 : zG d 852 3 (l0 :: l1 :: some (.long u) :: L) st h Q = zG d 852 4 (l0 :: l1 :: some (.long u) :: L) (.long u :: st) h Q := g_ldJ rfl rfl
theorem g852_4 : zG d 852 4 (l0 :: l1 :: l2 :: l3 :: l4 :: l5 :: l6 :: l7 :: l8 :: L) (.long u :: st) h Q = zG d 852 6 (l0 :: l1 :: l2 :: l3 :: l4 :: l5 :: kl l6 :: some (.long u) :: none :: L) st h Q := g_stJ rfl (by simp) rfl
theorem g852_6 : zG d 852 6 (l0 :: l1 :: l2 :: l3 :: l4 :: l5 :: l6 :: some (.long u) :: L) st h Q = zG d 852 8 (l0 :: l1 :: l2 :: l3 :: l4 :: l5 :: l6 :: some (.long u) :: L) (.long u :: st) h Q := g_ldJ rfl rfl
theorem g852_8 : zG d 852 8 L st h Q = zG d 852 9 L (.long 0 :: st) h Q := g_c rfl
theorem g852_9 : zG d 852 9 L (.long w :: .long u :: st) h Q = zG d 852 10 L (.int (zcmp u w) :: st) h Q := g_lcmp rfl
theorem g852_10 : zG d 852 10 L (.int x :: st) h Q = if x = 0 then zG d 852 31 L st h Q else zG d 852 13 L st h Q := g_i1 (P := fun x => x = 0) rfl
theorem g852_13 : zG d 852 13 (l0 :: l1 :: l2 :: l3 :: l4 :: some (.long u) :: L) st h Q = zG d 852 15 (l0 :: l1 :: l2 :: l3 :: l4 :: some (.long u) :: L) (.long u :: st) h Q := g_ldJ rfl rfl
theorem g852_15 : zG d 852 15 (l0 :: l1 :: l2 :: l3 :: l4 :: l5 :: l6 :: some (.long u) :: L) st h Q = zG d 852 17 (l0 :: l1 :: l2 :: l3 :: l4 :: l5 :: l6 :: some (.long u) :: L) (.long u :: st) h Q := g_ldJ rfl rfl
theorem g852_17 (hz : ¬ w = 0) : zG d 852 17 L (.long w :: .long u :: st) h Q = zG d 852 18 L (.long (u - u / w * w) :: st) h Q := g_ldv (fl := fun u w => u - u / w * w) rfl hz
theorem g852_18 : zG d 852 18 (l0 :: l1 :: l2 :: l3 :: l4 :: l5 :: l6 :: l7 :: l8 :: l9 :: l10 :: L) (.long u :: st) h Q = zG d 852 20 (l0 :: l1 :: l2 :: l3 :: l4 :: l5 :: l6 :: l7 :: kl l8 :: some (.long u) :: none :: L) st h Q := g_stJ rfl (by simp) rfl
theorem g852_20 : zG d 852 20 (l0 :: l1 :: l2 :: l3 :: l4 :: l5 :: l6 :: some (.long u) :: L) st h Q = zG d 852 22 (l0 :: l1 :: l2 :: l3 :: l4 :: l5 :: l6 :: some (.long u) :: L) (.long u :: st) h Q := g_ldJ rfl rfl
theorem g852_22 : zG d 852 22 (l0 :: l1 :: l2 :: l3 :: l4 :: l5 :: l6 :: L) (.long u :: st) h Q = zG d 852 24 (l0 :: l1 :: l2 :: l3 :: kl l4 :: some (.long u) :: none :: L) st h Q := g_stJ rfl (by simp) rfl
theorem g852_24 : zG d 852 24 (l0 :: l1 :: l2 :: l3 :: l4 :: l5 :: l6 :: l7 :: l8 :: some (.long u) :: L) st h Q = zG d 852 26 (l0 :: l1 :: l2 :: l3 :: l4 :: l5 :: l6 :: l7 :: l8 :: some (.long u) :: L) (.long u :: st) h Q := g_ldJ rfl rfl
theorem g852_26 : zG d 852 26 (l0 :: l1 :: l2 :: l3 :: l4 :: l5 :: l6 :: l7 :: l8 :: L) (.long u :: st) h Q = zG d 852 28 (l0 :: l1 :: l2 :: l3 :: l4 :: l5 :: kl l6 :: some (.long u) :: none :: L) st h Q := g_stJ rfl (by simp) rfl
theorem g852_28 : zG d 852 28 L st h Q = zG d 852 6 L st h Q := g_go rfl
theorem g852_31 : zG d 852 31 (l0 :: l1 :: l2 :: l3 :: some (.int x) :: L) st h Q = zG d 852 33 (l0 :: l1 :: l2 :: l3 :: some (.int x) :: L) (.int x :: st) h Q := g_ldI rfl rfl
theorem g852_33 : zG d 852 33 L (.int x :: st) h Q = if ¬ x = 0 then zG d 852 43 L st h Q else zG d 852 36 L st h Q := g_i1 (P := fun x => ¬ x = 0) rfl
theorem g852_36 : zG d 852 36 (some (.long u) :: L) st h Q = zG d 852 37 (some (.long u) :: L) (.long u :: st) h Q := g_ldJ rfl rfl
theorem g852_37 : zG d 852 37 (l0 :: l1 :: l2 :: l3 :: l4 :: some (.long u) :: L) st h Q = zG d 852 39 (l0 :: l1 :: l2 :: l3 :: l4 :: some (.long u) :: L) (.long u :: st) h Q := g_ldJ rfl rfl
theorem g852_39 (hz : ¬ w = 0) : zG d 852 39 L (.long w :: .long u :: st) h Q = zG d 852 40 L (.long (u / w) :: st) h Q := g_ldv (fl := fun u w => u / w) rfl hz
theorem g852_40 : zG d 852 40 L st h Q = zG d 852 47 L st h Q := g_go rfl
theorem g852_43 : zG d 852 43 (l0 :: l1 :: some (.long u) :: L) st h Q = zG d 852 44 (l0 :: l1 :: some (.long u) :: L) (.long u :: st) h Q := g_ldJ rfl rfl
theorem g852_44 : zG d 852 44 (l0 :: l1 :: l2 :: l3 :: l4 :: some (.long u) :: L) st h Q = zG d 852 46 (l0 :: l1 :: l2 :: l3 :: l4 :: some (.long u) :: L) (.long u :: st) h Q := g_ldJ rfl rfl
theorem g852_46 (hz : ¬ w = 0) : zG d 852 46 L (.long w :: .long u :: st) h Q = zG d 852 47 L (.long (u / w) :: st) h Q := g_ldv (fl := fun u w => u / w) rfl hz
theorem g852_47 : zG d 852 47 L [.long u] h Q = Q (some (.long u)) h := g_rJ rfl
theorem k852 {x0 : Int64} {x1 : Int64} {x2 : Int32} : zCall (d + 1) 852 [.long x0, .long x1, .int x2] h Q = zG d 852 0 [some (.long x0), none, some (.long x1), none, some (.int x2), none, none, none, none, none, none] [] h Q := zCall_k (Nat.le_of_ble_eq_true rfl) rfl
theorem g853_0 : zG d 853 0 (some (.ref a) :: L) st h Q = zG d 853 1 (some (.ref a) :: L) (.ref a :: st) h Q := g_ldA rfl rfl
theorem g853_1 : zG d 853 1 (l0 :: some (.int x) :: L) st h Q = zG d 853 2 (l0 :: some (.int x) :: L) (.int x :: st) h Q := g_ldI rfl rfl
theorem g853_2 (hT : (zT h a).1 = 8) : zG d 853 2 L [v0, .ref a] h Q = zCall d 807 [.ref a, v0] h (fun v h1 => zG d 853 5 L (zpush v []) h1 Q) := g_cV rfl rfl rfl rfl (Nat.le_of_ble_eq_true rfl) hT
theorem g853_5 : zG d 853 5 L (.int x :: st) h Q = if x = 0 then zG d 853 27 L st h Q else zG d 853 8 L st h Q := g_i1 (P := fun x => x = 0) rfl
theorem g853_8 : zG d 853 8 (l0 :: l1 :: some (.int x) :: L) st h Q = zG d 853 9 (l0 :: l1 :: some (.int x) :: L) (.int x :: st) h Q := g_ldI rfl rfl
theorem g853_9 : zG d 853 9 L st h Q = zG d 853 10 L (.int 0 :: st) h Q := g_c rfl
theorem g853_10 : zG d 853 10 L st h Q = zG d 853 12 L (.int 60 :: st) h Q := g_c rfl
theorem g853_12 : zG d 853 12 L [v2, v1, v0] h Q = zCall d 802 [v0, v1, v2] h (fun v h1 => zG d 853 15 L (zpush v []) h1 Q) := g_cS rfl rfl (Nat.le_of_ble_eq_true rfl) rfl (Nat.le_of_ble_eq_true rfl)
theorem g853_15 : zG d 853 15 L (.int x :: st) h Q = if x = 0 then zG d 853 27 L st h Q else zG d 853 18 L st h Q := g_i1 (P := fun x => x = 0) rfl
theorem g853_18 : zG d 853 18 (l0 :: l1 :: l2 :: some (.int x) :: L) st h Q = zG d 853 19 (l0 :: l1 :: l2 :: some (.int x) :: L) (.int x :: st) h Q := g_ldI rfl rfl
theorem g853_19 : zG d 853 19 L st h Q = zG d 853 20 L (.int 0 :: st) h Q := g_c rfl
theorem g853_20 : zG d 853 20 L st h Q = zG d 853 21 L (.int 1 :: st) h Q := g_c rfl
theorem g853_21 : zG d 853 21 L [v2, v1, v0] h Q = zCall d 802 [v0, v1, v2] h (fun v h1 => zG d 853 24 L (zpush v []) h1 Q) := g_cS rfl rfl (Nat.le_of_ble_eq_true rfl) rfl (Nat.le_of_ble_eq_true rfl)
theorem g853_24 : zG d 853 24 L (.int x :: st) h Q = if ¬ x = 0 then zG d 853 31 L st h Q else zG d 853 27 L st h Q := g_i1 (P := fun x => ¬ x = 0) rfl
theorem g853_27 : zG d 853 27 L st h Q = zG d 853 30 L (.long (-9223372036854775808) :: st) h Q := g_c rfl
theorem g853_30 : zG d 853 30 L [.long u] h Q = Q (some (.long u)) h := g_rJ rfl
theorem g853_31 : zG d 853 31 L st h Q = zG d 853 32 L (.int 0 :: st) h Q := g_c rfl
theorem g853_32 : zG d 853 32 (l0 :: l1 :: l2 :: l3 :: l4 :: L) (.int x :: st) h Q = zG d 853 34 (l0 :: l1 :: l2 :: kl l3 :: some (.int x) :: L) st h Q := g_stI rfl (by simp) rfl
theorem g853_34 : zG d 853 34 L st h Q = zG d 853 35 L (.int 0 :: st) h Q := g_c rfl
theorem g853_35 : zG d 853 35 (l0 :: l1 :: l2 :: l3 :: l4 :: l5 :: L) (.int x :: st) h Q = zG d 853 37 (l0 :: l1 :: l2 :: l3 :: kl l4 :: some (.int x) :: L) st h Q := g_stI rfl (by simp) rfl
theorem g853_37 : zG d 853 37 (l0 :: l1 :: l2 :: l3 :: l4 :: some (.int x) :: L) st h Q = zG d 853 39 (l0 :: l1 :: l2 :: l3 :: l4 :: some (.int x) :: L) (.int x :: st) h Q := g_ldI rfl rfl
theorem g853_39 : zG d 853 39 L st h Q = zG d 853 41 L (.int 20 :: st) h Q := g_c rfl
theorem g853_41 : zG d 853 41 L (.int z :: .int x :: st) h Q = if z < x then zG d 853 71 L st h Q else zG d 853 44 L st h Q := g_i2 (P := fun x z => z < x) rfl
theorem g853_44 : zG d 853 44 (some (.ref a) :: L) st h Q = zG d 853 45 (some (.ref a) :: L) (.ref a :: st) h Q := g_ldA rfl rfl
theorem g853_45 : zG d 853 45 (l0 :: l1 :: l2 :: l3 :: l4 :: some (.int x) :: L) st h Q = zG d 853 47 (l0 :: l1 :: l2 :: l3 :: l4 :: some (.int x) :: L) (.int x :: st) h Q := g_ldI rfl rfl
theorem g853_47 (hT : zT h a = (8, 29)) : zG d 853 47 L (.int x :: .ref a :: st) h Q = zG d 853 50 L st (wI h a 4 x) Q := g_pI rfl hT
theorem g853_50 : zG d 853 50 (l0 :: l1 :: l2 :: l3 :: some (.int x) :: L) st h Q = zG d 853 52 (l0 :: l1 :: l2 :: l3 :: some (.int x) :: L) (.int x :: st) h Q := g_ldI rfl rfl
theorem g853_52 : zG d 853 52 (some (.ref a) :: L) st h Q = zG d 853 53 (some (.ref a) :: L) (.ref a :: st) h Q := g_ldA rfl rfl
theorem g853_53 : zG d 853 53 (l0 :: l1 :: some (.int x) :: L) st h Q = zG d 853 54 (l0 :: l1 :: some (.int x) :: L) (.int x :: st) h Q := g_ldI rfl rfl
theorem g853_54 : zG d 853 54 L st h Q = zG d 853 55 L (.int 1 :: st) h Q := g_c rfl
theorem g853_55 {s0 : Int32} (hT : (zT h a).1 = 8) : zG d 853 55 L [v1, v0, .ref a, .int s0] h Q = zCall d 841 [.ref a, v0, v1] h (fun v h1 => zG d 853 58 L (zpush v [.int s0]) h1 Q) := g_cV rfl rfl rfl rfl (Nat.le_of_ble_eq_true rfl) hT
theorem g853_58 : zG d 853 58 (l0 :: some (.int x) :: L) st h Q = zG d 853 59 (l0 :: some (.int x) :: L) (.int x :: st) h Q := g_ldI rfl rfl
theorem g853_59 : zG d 853 59 L (.int z :: .int x :: st) h Q = zG d 853 60 L (.int (x >>> (z &&& 31)) :: st) h Q := g_b (f := fun x z => x >>> (z &&& 31)) rfl
theorem g853_60 : zG d 853 60 L st h Q = zG d 853 61 L (.int 1 :: st) h Q := g_c rfl
theorem g853_61 : zG d 853 61 L (.int z :: .int x :: st) h Q = zG d 853 62 L (.int (x &&& z) :: st) h Q := g_b (f := fun x z => x &&& z) rfl
theorem g853_62 : zG d 853 62 L (.int z :: .int x :: st) h Q = zG d 853 63 L (.int (x + z) :: st) h Q := g_b (f := fun x z => x + z) rfl
theorem g853_63 : zG d 853 63 (l0 :: l1 :: l2 :: l3 :: l4 :: L) (.int x :: st) h Q = zG d 853 65 (l0 :: l1 :: l2 :: kl l3 :: some (.int x) :: L) st h Q := g_stI rfl (by simp) rfl
theorem g853_65 : zG d 853 65 (l0 :: l1 :: l2 :: l3 :: l4 :: some (.int x) :: L) st h Q = zG d 853 68 (l0 :: l1 :: l2 :: l3 :: kl l4 :: some (.int (x + 1)) :: L) st h Q := g_inc rfl rfl rfl
theorem g853_68 : zG d 853 68 L st h Q = zG d 853 37 L st h Q := g_go rfl
theorem g853_71 : zG d 853 71 (some (.ref a) :: L) st h Q = zG d 853 72 (some (.ref a) :: L) (.ref a :: st) h Q := g_ldA rfl rfl
theorem g853_72 : zG d 853 72 L st h Q = zG d 853 73 L (.int (-1) :: st) h Q := g_c rfl
theorem g853_73 (hT : zT h a = (8, 29)) : zG d 853 73 L (.int x :: .ref a :: st) h Q = zG d 853 76 L st (wI h a 4 x) Q := g_pI rfl hT
theorem g853_76 : zG d 853 76 (l0 :: l1 :: l2 :: l3 :: some (.int x) :: L) st h Q = zG d 853 78 (l0 :: l1 :: l2 :: l3 :: some (.int x) :: L) (.int x :: st) h Q := g_ldI rfl rfl
theorem g853_78 : zG d 853 78 L (.int x :: st) h Q = zG d 853 79 L (.long x.toInt64 :: st) h Q := g_i2l rfl
theorem g853_79 : zG d 853 79 L st h Q = zG d 853 82 L (.long 21 :: st) h Q := g_c rfl
theorem g853_82 : zG d 853 82 (l0 :: l1 :: l2 :: some (.int x) :: L) st h Q = zG d 853 83 (l0 :: l1 :: l2 :: some (.int x) :: L) (.int x :: st) h Q := g_ldI rfl rfl
theorem g853_83 : zG d 853 83 L [v2, v1, v0] h Q = zCall d 852 [v0, v1, v2] h (fun v h1 => zG d 853 86 L (zpush v []) h1 Q) := g_cS rfl rfl (Nat.le_of_ble_eq_true rfl) rfl (Nat.le_of_ble_eq_true rfl)
theorem g853_86 : zG d 853 86 L [.long u] h Q = Q (some (.long u)) h := g_rJ rfl
theorem k853 {x0 : Int32} {x1 : Int32} {x2 : Int32} : zCall (d + 1) 853 [.ref a, .int x0, .int x1, .int x2] h Q = zG d 853 0 [some (.ref a), some (.int x0), some (.int x1), some (.int x2), none, none] [] h Q := zCall_k (Nat.le_of_ble_eq_true rfl) rfl
theorem g854_0 : zG d 854 0 (l0 :: some (.int x) :: L) st h Q = zG d 854 1 (l0 :: some (.int x) :: L) (.int x :: st) h Q := g_ldI rfl rfl
theorem g854_1 : zG d 854 1 L st h Q = zG d 854 2 L (.int 0 :: st) h Q := g_c rfl
theorem g854_2 : zG d 854 2 L st h Q = zG d 854 4 L (.int 60 :: st) h Q := g_c rfl
theorem g854_4 : zG d 854 4 L [v2, v1, v0] h Q = zCall d 802 [v0, v1, v2] h (fun v h1 => zG d 854 7 L (zpush v []) h1 Q) := g_cS rfl rfl (Nat.le_of_ble_eq_true rfl) rfl (Nat.le_of_ble_eq_true rfl)
theorem g854_7 : zG d 854 7 L (.int x :: st) h Q = if x = 0 then zG d 854 29 L st h Q else zG d 854 10 L st h Q := g_i1 (P := fun x => x = 0) rfl
theorem g854_10 : zG d 854 10 (l0 :: l1 :: some (.int x) :: L) st h Q = zG d 854 11 (l0 :: l1 :: some (.int x) :: L) (.int x :: st) h Q := g_ldI rfl rfl
theorem g854_11 : zG d 854 11 L st h Q = zG d 854 12 L (.int 0 :: st) h Q := g_c rfl
theorem g854_12 : zG d 854 12 L st h Q = zG d 854 13 L (.int 1 :: st) h Q := g_c rfl
theorem g854_13 : zG d 854 13 L [v2, v1, v0] h Q = zCall d 802 [v0, v1, v2] h (fun v h1 => zG d 854 16 L (zpush v []) h1 Q) := g_cS rfl rfl (Nat.le_of_ble_eq_true rfl) rfl (Nat.le_of_ble_eq_true rfl)
theorem g854_16 : zG d 854 16 L (.int x :: st) h Q = if x = 0 then zG d 854 29 L st h Q else zG d 854 19 L st h Q := g_i1 (P := fun x => x = 0) rfl
theorem g854_19 : zG d 854 19 (some (.ref a) :: L) st h Q = zG d 854 20 (some (.ref a) :: L) (.ref a :: st) h Q := g_ldA rfl rfl
theorem g854_20 (hT : zT h a = (8, 29)) : zG d 854 20 L (.ref a :: st) h Q = zG d 854 23 L (zR h a 0 :: st) h Q := g_gR rfl hT
theorem g854_23 : zG d 854 23 L st h Q = zG d 854 25 L (.int 60 :: st) h Q := g_c rfl
theorem g854_25 (hT : (zT h b).1 = 20) (hi : zin i (zT h b).2) : zG d 854 25 L (.int i :: .ref b :: st) h Q = zG d 854 26 L (.int (zI h b i.toNatClampNeg) :: st) h Q := g_ia rfl hT hi
theorem g854_26 : zG d 854 26 L (.int x :: st) h Q = if ¬ x = 0 then zG d 854 33 L st h Q else zG d 854 29 L st h Q := g_i1 (P := fun x => ¬ x = 0) rfl
theorem g854_29 : zG d 854 29 L st h Q = zG d 854 32 L (.long (-9223372036854775808) :: st) h Q := g_c rfl
theorem g854_32 : zG d 854 32 L [.long u] h Q = Q (some (.long u)) h := g_rJ rfl
theorem g854_33 : zG d 854 33 L st h Q = zG d 854 34 L (.int 0 :: st) h Q := g_c rfl
theorem g854_34 : zG d 854 34 (l0 :: l1 :: l2 :: l3 :: L) (.int x :: st) h Q = zG d 854 35 (l0 :: l1 :: kl l2 :: some (.int x) :: L) st h Q := g_stI rfl (by simp) rfl
theorem g854_35 : zG d 854 35 L st h Q = zG d 854 36 L (.int 0 :: st) h Q := g_c rfl
theorem g854_36 : zG d 854 36 (l0 :: l1 :: l2 :: l3 :: l4 :: L) (.int x :: st) h Q = zG d 854 38 (l0 :: l1 :: l2 :: kl l3 :: some (.int x) :: L) st h Q := g_stI rfl (by simp) rfl
theorem g854_38 : zG d 854 38 (l0 :: l1 :: l2 :: l3 :: some (.int x) :: L) st h Q = zG d 854 40 (l0 :: l1 :: l2 :: l3 :: some (.int x) :: L) (.int x :: st) h Q := g_ldI rfl rfl
theorem g854_40 : zG d 854 40 (some (.ref a) :: L) st h Q = zG d 854 41 (some (.ref a) :: L) (.ref a :: st) h Q := g_ldA rfl rfl
theorem g854_41 (hT : zT h a = (8, 29)) : zG d 854 41 L (.ref a :: st) h Q = zG d 854 44 L (zR h a 0 :: st) h Q := g_gR rfl hT
theorem g854_44 : zG d 854 44 L st h Q = zG d 854 46 L (.int 60 :: st) h Q := g_c rfl
theorem g854_46 (hT : (zT h b).1 = 20) (hi : zin i (zT h b).2) : zG d 854 46 L (.int i :: .ref b :: st) h Q = zG d 854 47 L (.int (zI h b i.toNatClampNeg) :: st) h Q := g_ia rfl hT hi
theorem g854_47 : zG d 854 47 L (.int z :: .int x :: st) h Q = if z ≤ x then zG d 854 69 L st h Q else zG d 854 50 L st h Q := g_i2 (P := fun x z => z ≤ x) rfl
theorem g854_50 : zG d 854 50 (l0 :: l1 :: l2 :: some (.int x) :: L) st h Q = zG d 854 51 (l0 :: l1 :: l2 :: some (.int x) :: L) (.int x :: st) h Q := g_ldI rfl rfl
theorem g854_51 : zG d 854 51 (some (.ref a) :: L) st h Q = zG d 854 52 (some (.ref a) :: L) (.ref a :: st) h Q := g_ldA rfl rfl
theorem g854_52 : zG d 854 52 (l0 :: some (.int x) :: L) st h Q = zG d 854 53 (l0 :: some (.int x) :: L) (.int x :: st) h Q := g_ldI rfl rfl
theorem g854_53 : zG d 854 53 L st h Q = zG d 854 55 L (.int 20 :: st) h Q := g_c rfl
theorem g854_55 : zG d 854 55 (l0 :: l1 :: l2 :: l3 :: some (.int x) :: L) st h Q = zG d 854 57 (l0 :: l1 :: l2 :: l3 :: some (.int x) :: L) (.int x :: st) h Q := g_ldI rfl rfl
theorem g854_57 : zG d 854 57 L (.int z :: .int x :: st) h Q = zG d 854 58 L (.int (x + z) :: st) h Q := g_b (f := fun x z => x + z) rfl
theorem g854_58 {s0 : Int32} (hT : (zT h a).1 = 8) : zG d 854 58 L [v1, v0, .ref a, .int s0] h Q = zCall d 841 [.ref a, v0, v1] h (fun v h1 => zG d 854 61 L (zpush v [.int s0]) h1 Q) := g_cV rfl rfl rfl rfl (Nat.le_of_ble_eq_true rfl) hT
theorem g854_61 : zG d 854 61 L (.int z :: .int x :: st) h Q = zG d 854 62 L (.int (x + z) :: st) h Q := g_b (f := fun x z => x + z) rfl
theorem g854_62 : zG d 854 62 (l0 :: l1 :: l2 :: l3 :: L) (.int x :: st) h Q = zG d 854 63 (l0 :: l1 :: kl l2 :: some (.int x) :: L) st h Q := g_stI rfl (by simp) rfl
theorem g854_63 : zG d 854 63 (l0 :: l1 :: l2 :: l3 :: some (.int x) :: L) st h Q = zG d 854 66 (l0 :: l1 :: l2 :: kl l3 :: some (.int (x + 1)) :: L) st h Q := g_inc rfl rfl rfl
theorem g854_66 : zG d 854 66 L st h Q = zG d 854 38 L st h Q := g_go rfl
theorem g854_69 : zG d 854 69 (l0 :: l1 :: l2 :: some (.int x) :: L) st h Q = zG d 854 70 (l0 :: l1 :: l2 :: some (.int x) :: L) (.int x :: st) h Q := g_ldI rfl rfl
theorem g854_70 : zG d 854 70 L (.int x :: st) h Q = zG d 854 71 L (.long x.toInt64 :: st) h Q := g_i2l rfl
theorem g854_71 : zG d 854 71 (some (.ref a) :: L) st h Q = zG d 854 72 (some (.ref a) :: L) (.ref a :: st) h Q := g_ldA rfl rfl
theorem g854_72 (hT : zT h a = (8, 29)) : zG d 854 72 L (.ref a :: st) h Q = zG d 854 75 L (zR h a 0 :: st) h Q := g_gR rfl hT
theorem g854_75 : zG d 854 75 L st h Q = zG d 854 77 L (.int 60 :: st) h Q := g_c rfl
theorem g854_77 (hT : (zT h b).1 = 20) (hi : zin i (zT h b).2) : zG d 854 77 L (.int i :: .ref b :: st) h Q = zG d 854 78 L (.int (zI h b i.toNatClampNeg) :: st) h Q := g_ia rfl hT hi
theorem g854_78 : zG d 854 78 L (.int x :: st) h Q = zG d 854 79 L (.long x.toInt64 :: st) h Q := g_i2l rfl
theorem g854_79 : zG d 854 79 (l0 :: l1 :: some (.int x) :: L) st h Q = zG d 854 80 (l0 :: l1 :: some (.int x) :: L) (.int x :: st) h Q := g_ldI rfl rfl
theorem g854_80 : zG d 854 80 L [v2, v1, v0] h Q = zCall d 852 [v0, v1, v2] h (fun v h1 => zG d 854 83 L (zpush v []) h1 Q) := g_cS rfl rfl (Nat.le_of_ble_eq_true rfl) rfl (Nat.le_of_ble_eq_true rfl)
theorem g854_83 : zG d 854 83 L [.long u] h Q = Q (some (.long u)) h := g_rJ rfl
theorem k854 {x0 : Int32} {x1 : Int32} : zCall (d + 1) 854 [.ref a, .int x0, .int x1] h Q = zG d 854 0 [some (.ref a), some (.int x0), some (.int x1), none, none] [] h Q := zCall_k (Nat.le_of_ble_eq_true rfl) rfl
theorem g855_0 : zG d 855 0 (l0 :: some (.int x) :: L) st h Q = zG d 855 1 (l0 :: some (.int x) :: L) (.int x :: st) h Q := g_ldI rfl rfl
theorem g855_1 : zG d 855 1 L st h Q = zG d 855 2 L (.int (-1) :: st) h Q := g_c rfl
theorem g855_2 : zG d 855 2 L (.int z :: .int x :: st) h Q = if ¬ x = z then zG d 855 15 L st h Q else zG d 855 5 L st h Q := g_i2 (P := fun x z => ¬ x = z) rfl
theorem g855_5 : zG d 855 5 (some (.ref a) :: L) st h Q = zG d 855 6 (some (.ref a) :: L) (.ref a :: st) h Q := g_ldA rfl rfl
theorem g855_6 (hT : zT h a = (8, 29)) : zG d 855 6 L (.ref a :: st) h Q = zG d 855 9 L (zR h a 0 :: st) h Q := g_gR rfl hT
theorem g855_9 : zG d 855 9 L st h Q = zG d 855 11 L (.int 80 :: st) h Q := g_c rfl
theorem g855_11 : zG d 855 11 L st h Q = zG d 855 12 L (.int 0 :: st) h Q := g_c rfl
theorem g855_12 (hT : (zT h b).1 = 20) (hi : zin i (zT h b).2) : zG d 855 12 L (.int x :: .int i :: .ref b :: st) h Q = zG d 855 13 L st (wI h b i.toNatClampNeg (x)) Q := g_is (f1 := fun x => x) rfl hT hi
theorem g855_13 : zG d 855 13 L st h Q = zG d 855 14 L (.int 0 :: st) h Q := g_c rfl
theorem g855_14 : zG d 855 14 L [.int x] h Q = Q (some (.int x)) h := g_rI (ok := fun _ => True) rfl trivial
theorem g855_15 : zG d 855 15 (l0 :: some (.int x) :: L) st h Q = zG d 855 16 (l0 :: some (.int x) :: L) (.int x :: st) h Q := g_ldI rfl rfl
theorem g855_16 : zG d 855 16 L st h Q = zG d 855 17 L (.int 0 :: st) h Q := g_c rfl
theorem g855_17 : zG d 855 17 L st h Q = zG d 855 18 L (.int 3 :: st) h Q := g_c rfl
theorem g855_18 : zG d 855 18 L [v2, v1, v0] h Q = zCall d 802 [v0, v1, v2] h (fun v h1 => zG d 855 21 L (zpush v []) h1 Q) := g_cS rfl rfl (Nat.le_of_ble_eq_true rfl) rfl (Nat.le_of_ble_eq_true rfl)
theorem g855_21 : zG d 855 21 L (.int x :: st) h Q = if x = 0 then zG d 855 36 L st h Q else zG d 855 24 L st h Q := g_i1 (P := fun x => x = 0) rfl
theorem g855_24 : zG d 855 24 (l0 :: some (.int x) :: L) st h Q = zG d 855 25 (l0 :: some (.int x) :: L) (.int x :: st) h Q := g_ldI rfl rfl
theorem g855_25 : zG d 855 25 L (.int x :: st) h Q = if x ≤ 0 then zG d 855 38 L st h Q else zG d 855 28 L st h Q := g_i1 (P := fun x => x ≤ 0) rfl
theorem g855_28 : zG d 855 28 (some (.ref a) :: L) st h Q = zG d 855 29 (some (.ref a) :: L) (.ref a :: st) h Q := g_ldA rfl rfl
theorem g855_29 : zG d 855 29 (l0 :: l1 :: some (.int x) :: L) st h Q = zG d 855 30 (l0 :: l1 :: some (.int x) :: L) (.int x :: st) h Q := g_ldI rfl rfl
theorem g855_30 (hT : (zT h a).1 = 8) : zG d 855 30 L [v0, .ref a] h Q = zCall d 807 [.ref a, v0] h (fun v h1 => zG d 855 33 L (zpush v []) h1 Q) := g_cV rfl rfl rfl rfl (Nat.le_of_ble_eq_true rfl) hT
theorem g855_33 : zG d 855 33 L (.int x :: st) h Q = if ¬ x = 0 then zG d 855 38 L st h Q else zG d 855 36 L st h Q := g_i1 (P := fun x => ¬ x = 0) rfl
theorem g855_36 : zG d 855 36 L st h Q = zG d 855 37 L (.int (-1) :: st) h Q := g_c rfl
theorem g855_37 : zG d 855 37 L [.int x] h Q = Q (some (.int x)) h := g_rI (ok := fun _ => True) rfl trivial
theorem g855_38 : zG d 855 38 (some (.ref a) :: L) st h Q = zG d 855 39 (some (.ref a) :: L) (.ref a :: st) h Q := g_ldA rfl rfl
theorem g855_39 (hT : zT h a = (8, 29)) : zG d 855 39 L (.ref a :: st) h Q = zG d 855 42 L (zR h a 0 :: st) h Q := g_gR rfl hT
theorem g855_42 : zG d 855 42 L st h Q = zG d 855 44 L (.int 80 :: st) h Q := g_c rfl
theorem g855_44 (hT : (zT h b).1 = 20) (hi : zin i (zT h b).2) : zG d 855 44 L (.int i :: .ref b :: st) h Q = zG d 855 45 L (.int (zI h b i.toNatClampNeg) :: st) h Q := g_ia rfl hT hi
theorem g855_45 : zG d 855 45 L st h Q = zG d 855 47 L (.int 10 :: st) h Q := g_c rfl
theorem g855_47 : zG d 855 47 L (.int z :: .int x :: st) h Q = if ¬ x = z then zG d 855 53 L st h Q else zG d 855 50 L st h Q := g_i2 (P := fun x z => ¬ x = z) rfl
theorem g855_50 : zG d 855 50 L st h Q = zG d 855 52 L (.int (-4) :: st) h Q := g_c rfl
theorem g855_52 : zG d 855 52 L [.int x] h Q = Q (some (.int x)) h := g_rI (ok := fun _ => True) rfl trivial
theorem g855_53 : zG d 855 53 (some (.ref a) :: L) st h Q = zG d 855 54 (some (.ref a) :: L) (.ref a :: st) h Q := g_ldA rfl rfl
theorem g855_54 (hT : zT h a = (8, 29)) : zG d 855 54 L (.ref a :: st) h Q = zG d 855 57 L (zR h a 0 :: st) h Q := g_gR rfl hT
theorem g855_57 : zG d 855 57 L st h Q = zG d 855 59 L (.int 81 :: st) h Q := g_c rfl
theorem g855_59 : zG d 855 59 L st h Q = zG d 855 60 L (.int 2 :: st) h Q := g_c rfl
theorem g855_60 : zG d 855 60 (some (.ref a) :: L) st h Q = zG d 855 61 (some (.ref a) :: L) (.ref a :: st) h Q := g_ldA rfl rfl
theorem g855_61 (hT : zT h a = (8, 29)) : zG d 855 61 L (.ref a :: st) h Q = zG d 855 64 L (zR h a 0 :: st) h Q := g_gR rfl hT
theorem g855_64 : zG d 855 64 L st h Q = zG d 855 66 L (.int 80 :: st) h Q := g_c rfl
theorem g855_66 (hT : (zT h b).1 = 20) (hi : zin i (zT h b).2) : zG d 855 66 L (.int i :: .ref b :: st) h Q = zG d 855 67 L (.int (zI h b i.toNatClampNeg) :: st) h Q := g_ia rfl hT hi
theorem g855_67 : zG d 855 67 L (.int z :: .int x :: st) h Q = zG d 855 68 L (.int (x * z) :: st) h Q := g_b (f := fun x z => x * z) rfl
theorem g855_68 : zG d 855 68 L (.int z :: .int x :: st) h Q = zG d 855 69 L (.int (x + z) :: st) h Q := g_b (f := fun x z => x + z) rfl
theorem g855_69 : zG d 855 69 (l0 :: some (.int x) :: L) st h Q = zG d 855 70 (l0 :: some (.int x) :: L) (.int x :: st) h Q := g_ldI rfl rfl
theorem g855_70 (hT : (zT h b).1 = 20) (hi : zin i (zT h b).2) : zG d 855 70 L (.int x :: .int i :: .ref b :: st) h Q = zG d 855 71 L st (wI h b i.toNatClampNeg (x)) Q := g_is (f1 := fun x => x) rfl hT hi
theorem g855_71 : zG d 855 71 (some (.ref a) :: L) st h Q = zG d 855 72 (some (.ref a) :: L) (.ref a :: st) h Q := g_ldA rfl rfl
theorem g855_72 (hT : zT h a = (8, 29)) : zG d 855 72 L (.ref a :: st) h Q = zG d 855 75 L (zR h a 0 :: st) h Q := g_gR rfl hT
theorem g855_75 : zG d 855 75 L st h Q = zG d 855 77 L (.int 82 :: st) h Q := g_c rfl
theorem g855_77 : zG d 855 77 L st h Q = zG d 855 78 L (.int 2 :: st) h Q := g_c rfl
theorem g855_78 : zG d 855 78 (some (.ref a) :: L) st h Q = zG d 855 79 (some (.ref a) :: L) (.ref a :: st) h Q := g_ldA rfl rfl
theorem g855_79 (hT : zT h a = (8, 29)) : zG d 855 79 L (.ref a :: st) h Q = zG d 855 82 L (zR h a 0 :: st) h Q := g_gR rfl hT
theorem g855_82 : zG d 855 82 L st h Q = zG d 855 84 L (.int 80 :: st) h Q := g_c rfl
theorem g855_84 (hT : (zT h b).1 = 20) (hi : zin i (zT h b).2) : zG d 855 84 L (.int i :: .ref b :: st) h Q = zG d 855 85 L (.int (zI h b i.toNatClampNeg) :: st) h Q := g_ia rfl hT hi
theorem g855_85 : zG d 855 85 L (.int z :: .int x :: st) h Q = zG d 855 86 L (.int (x * z) :: st) h Q := g_b (f := fun x z => x * z) rfl
theorem g855_86 : zG d 855 86 L (.int z :: .int x :: st) h Q = zG d 855 87 L (.int (x + z) :: st) h Q := g_b (f := fun x z => x + z) rfl
theorem g855_87 : zG d 855 87 (l0 :: l1 :: some (.int x) :: L) st h Q = zG d 855 88 (l0 :: l1 :: some (.int x) :: L) (.int x :: st) h Q := g_ldI rfl rfl
theorem g855_88 (hT : (zT h b).1 = 20) (hi : zin i (zT h b).2) : zG d 855 88 L (.int x :: .int i :: .ref b :: st) h Q = zG d 855 89 L st (wI h b i.toNatClampNeg (x)) Q := g_is (f1 := fun x => x) rfl hT hi
theorem g855_89 : zG d 855 89 (some (.ref a) :: L) st h Q = zG d 855 90 (some (.ref a) :: L) (.ref a :: st) h Q := g_ldA rfl rfl
theorem g855_90 (hT : zT h a = (8, 29)) : zG d 855 90 L (.ref a :: st) h Q = zG d 855 93 L (zR h a 0 :: st) h Q := g_gR rfl hT
theorem g855_93 : zG d 855 93 L st h Q = zG d 855 95 L (.int 80 :: st) h Q := g_c rfl
theorem g855_95 : zG d 855 95 L (.int x :: .ref a :: st) h Q = zG d 855 96 L (.int x :: .ref a :: .int x :: .ref a :: st) h Q := g_dup2 rfl
theorem g855_96 (hT : (zT h b).1 = 20) (hi : zin i (zT h b).2) : zG d 855 96 L (.int i :: .ref b :: st) h Q = zG d 855 97 L (.int (zI h b i.toNatClampNeg) :: st) h Q := g_ia rfl hT hi
theorem g855_97 : zG d 855 97 L st h Q = zG d 855 98 L (.int 1 :: st) h Q := g_c rfl
theorem g855_98 : zG d 855 98 L (.int z :: .int x :: st) h Q = zG d 855 99 L (.int (x + z) :: st) h Q := g_b (f := fun x z => x + z) rfl
theorem g855_99 (hT : (zT h b).1 = 20) (hi : zin i (zT h b).2) : zG d 855 99 L (.int x :: .int i :: .ref b :: st) h Q = zG d 855 100 L st (wI h b i.toNatClampNeg (x)) Q := g_is (f1 := fun x => x) rfl hT hi
theorem g855_100 : zG d 855 100 (some (.ref a) :: L) st h Q = zG d 855 101 (some (.ref a) :: L) (.ref a :: st) h Q := g_ldA rfl rfl
theorem g855_101 (hT : zT h a = (8, 29)) : zG d 855 101 L (.ref a :: st) h Q = zG d 855 104 L (zR h a 0 :: st) h Q := g_gR rfl hT
theorem g855_104 : zG d 855 104 L st h Q = zG d 855 106 L (.int 80 :: st) h Q := g_c rfl
theorem g855_106 (hT : (zT h b).1 = 20) (hi : zin i (zT h b).2) : zG d 855 106 L (.int i :: .ref b :: st) h Q = zG d 855 107 L (.int (zI h b i.toNatClampNeg) :: st) h Q := g_ia rfl hT hi
theorem g855_107 : zG d 855 107 L [.int x] h Q = Q (some (.int x)) h := g_rI (ok := fun _ => True) rfl trivial
theorem k855 {x0 : Int32} {x1 : Int32} : zCall (d + 1) 855 [.ref a, .int x0, .int x1] h Q = zG d 855 0 [some (.ref a), some (.int x0), some (.int x1)] [] h Q := zCall_k (Nat.le_of_ble_eq_true rfl) rfl
theorem g856_0 : zG d 856 0 (l0 :: some (.int x) :: L) st h Q = zG d 856 1 (l0 :: some (.int x) :: L) (.int x :: st) h Q := g_ldI rfl rfl
theorem g856_1 : zG d 856 1 L (.int x :: st) h Q = if ¬ x = 0 then zG d 856 11 L st h Q else zG d 856 4 L st h Q := g_i1 (P := fun x => ¬ x = 0) rfl
theorem g856_4 : zG d 856 4 (some (.ref a) :: L) st h Q = zG d 856 5 (some (.ref a) :: L) (.ref a :: st) h Q := g_ldA rfl rfl
theorem g856_5 (hT : (zT h a).1 = 8) : zG d 856 5 L [.ref a] h Q = zCall d 833 [.ref a] h (fun v h1 => zG d 856 8 L (zpush v []) h1 Q) := g_cV rfl rfl rfl rfl (Nat.le_of_ble_eq_true rfl) hT
theorem g856_8 : zG d 856 8 L st h Q = zG d 856 80 L st h Q := g_go rfl
theorem g856_11 : zG d 856 11 (l0 :: some (.int x) :: L) st h Q = zG d 856 12 (l0 :: some (.int x) :: L) (.int x :: st) h Q := g_ldI rfl rfl
theorem g856_12 : zG d 856 12 L st h Q = zG d 856 13 L (.int 1 :: st) h Q := g_c rfl
theorem g856_13 : zG d 856 13 L (.int z :: .int x :: st) h Q = if ¬ x = z then zG d 856 35 L st h Q else zG d 856 16 L st h Q := g_i2 (P := fun x z => ¬ x = z) rfl
theorem g856_16 : zG d 856 16 (some (.ref a) :: L) st h Q = zG d 856 17 (some (.ref a) :: L) (.ref a :: st) h Q := g_ldA rfl rfl
theorem g856_17 : zG d 856 17 (l0 :: l1 :: some (.int x) :: L) st h Q = zG d 856 18 (l0 :: l1 :: some (.int x) :: L) (.int x :: st) h Q := g_ldI rfl rfl
theorem g856_18 : zG d 856 18 L st h Q = zG d 856 19 L (.int 3 :: st) h Q := g_c rfl
theorem g856_19 : zG d 856 19 L st h Q = zG d 856 20 L (.int 0 :: st) h Q := g_c rfl
theorem g856_20 (hT : (zT h a).1 = 8) : zG d 856 20 L [v2, v1, v0, .ref a] h Q = zCall d 809 [.ref a, v0, v1, v2] h (fun v h1 => zG d 856 23 L (zpush v []) h1 Q) := g_cV rfl rfl rfl rfl (Nat.le_of_ble_eq_true rfl) hT
theorem g856_23 : zG d 856 23 L (.int x :: st) h Q = zG d 856 24 L st h Q := g_popI rfl
theorem g856_24 : zG d 856 24 (some (.ref a) :: L) st h Q = zG d 856 25 (some (.ref a) :: L) (.ref a :: st) h Q := g_ldA rfl rfl
theorem g856_25 : zG d 856 25 (l0 :: l1 :: some (.int x) :: L) st h Q = zG d 856 26 (l0 :: l1 :: some (.int x) :: L) (.int x :: st) h Q := g_ldI rfl rfl
theorem g856_26 : zG d 856 26 L st h Q = zG d 856 27 L (.int 4 :: st) h Q := g_c rfl
theorem g856_27 : zG d 856 27 L st h Q = zG d 856 28 L (.int 0 :: st) h Q := g_c rfl
theorem g856_28 (hT : (zT h a).1 = 8) : zG d 856 28 L [v2, v1, v0, .ref a] h Q = zCall d 809 [.ref a, v0, v1, v2] h (fun v h1 => zG d 856 31 L (zpush v []) h1 Q) := g_cV rfl rfl rfl rfl (Nat.le_of_ble_eq_true rfl) hT
theorem g856_31 : zG d 856 31 L (.int x :: st) h Q = zG d 856 32 L st h Q := g_popI rfl
theorem g856_32 : zG d 856 32 L st h Q = zG d 856 80 L st h Q := g_go rfl
theorem g856_35 : zG d 856 35 (l0 :: some (.int x) :: L) st h Q = zG d 856 36 (l0 :: some (.int x) :: L) (.int x :: st) h Q := g_ldI rfl rfl
theorem g856_36 : zG d 856 36 L st h Q = zG d 856 37 L (.int 2 :: st) h Q := g_c rfl
theorem g856_37 : zG d 856 37 L (.int z :: .int x :: st) h Q = if ¬ x = z then zG d 856 64 L st h Q else zG d 856 40 L st h Q := g_i2 (P := fun x z => ¬ x = z) rfl
theorem g856_40 : zG d 856 40 (some (.ref a) :: L) st h Q = zG d 856 41 (some (.ref a) :: L) (.ref a :: st) h Q := g_ldA rfl rfl
theorem g856_41 : zG d 856 41 (l0 :: l1 :: some (.int x) :: L) st h Q = zG d 856 42 (l0 :: l1 :: some (.int x) :: L) (.int x :: st) h Q := g_ldI rfl rfl
theorem g856_42 : zG d 856 42 L st h Q = zG d 856 43 L (.int 2 :: st) h Q := g_c rfl
theorem g856_43 : zG d 856 43 L st h Q = zG d 856 45 L (.int 99 :: st) h Q := g_c rfl
theorem g856_45 : zG d 856 45 (some (.ref a) :: L) st h Q = zG d 856 46 (some (.ref a) :: L) (.ref a :: st) h Q := g_ldA rfl rfl
theorem g856_46 : zG d 856 46 (l0 :: l1 :: some (.int x) :: L) st h Q = zG d 856 47 (l0 :: l1 :: some (.int x) :: L) (.int x :: st) h Q := g_ldI rfl rfl
theorem g856_47 : zG d 856 47 L st h Q = zG d 856 48 L (.int 2 :: st) h Q := g_c rfl
theorem g856_48 {s0 s1 s2 : Int32} {s3 : Nat} (hT : (zT h a).1 = 8) : zG d 856 48 L [v1, v0, .ref a, .int s0, .int s1, .int s2, .ref s3] h Q = zCall d 808 [.ref a, v0, v1] h (fun v h1 => zG d 856 51 L (zpush v [.int s0, .int s1, .int s2, .ref s3]) h1 Q) := g_cV rfl rfl rfl rfl (Nat.le_of_ble_eq_true rfl) hT
theorem g856_51 : zG d 856 51 L st h Q = zG d 856 53 L (.int 10 :: st) h Q := g_c rfl
theorem g856_53 : zG d 856 53 L (.int z :: .int x :: st) h Q = zG d 856 54 L (.int (x + z) :: st) h Q := g_b (f := fun x z => x + z) rfl
theorem g856_54 (h4 : st.length ≤ 4) : zG d 856 54 L (.int z :: .int x :: st) h Q = zG d 856 57 L (.int (zmin x z) :: st) h Q := g_mm (f := fun x z => zmin x z) rfl h4
theorem g856_57 (hT : (zT h a).1 = 8) : zG d 856 57 L [v2, v1, v0, .ref a] h Q = zCall d 809 [.ref a, v0, v1, v2] h (fun v h1 => zG d 856 60 L (zpush v []) h1 Q) := g_cV rfl rfl rfl rfl (Nat.le_of_ble_eq_true rfl) hT
theorem g856_60 : zG d 856 60 L (.int x :: st) h Q = zG d 856 61 L st h Q := g_popI rfl
theorem g856_61 : zG d 856 61 L st h Q = zG d 856 80 L st h Q := g_go rfl
theorem g856_64 : zG d 856 64 (some (.ref a) :: L) st h Q = zG d 856 65 (some (.ref a) :: L) (.ref a :: st) h Q := g_ldA rfl rfl
theorem g856_65 : zG d 856 65 (l0 :: l1 :: some (.int x) :: L) st h Q = zG d 856 66 (l0 :: l1 :: some (.int x) :: L) (.int x :: st) h Q := g_ldI rfl rfl
theorem g856_66 (hT : (zT h a).1 = 8) : zG d 856 66 L [v0, .ref a] h Q = zCall d 813 [.ref a, v0] h (fun v h1 => zG d 856 69 L (zpush v []) h1 Q) := g_cV rfl rfl rfl rfl (Nat.le_of_ble_eq_true rfl) hT
theorem g856_69 : zG d 856 69 L (.int x :: st) h Q = if x = 0 then zG d 856 80 L st h Q else zG d 856 72 L st h Q := g_i1 (P := fun x => x = 0) rfl
theorem g856_72 : zG d 856 72 (some (.ref a) :: L) st h Q = zG d 856 73 (some (.ref a) :: L) (.ref a :: st) h Q := g_ldA rfl rfl
theorem g856_73 : zG d 856 73 (l0 :: l1 :: some (.int x) :: L) st h Q = zG d 856 74 (l0 :: l1 :: some (.int x) :: L) (.int x :: st) h Q := g_ldI rfl rfl
theorem g856_74 : zG d 856 74 L st h Q = zG d 856 75 L (.int 4 :: st) h Q := g_c rfl
theorem g856_75 : zG d 856 75 L st h Q = zG d 856 76 L (.int 1 :: st) h Q := g_c rfl
theorem g856_76 (hT : (zT h a).1 = 8) : zG d 856 76 L [v2, v1, v0, .ref a] h Q = zCall d 809 [.ref a, v0, v1, v2] h (fun v h1 => zG d 856 79 L (zpush v []) h1 Q) := g_cV rfl rfl rfl rfl (Nat.le_of_ble_eq_true rfl) hT
theorem g856_79 : zG d 856 79 L (.int x :: st) h Q = zG d 856 80 L st h Q := g_popI rfl
theorem g856_80 : zG d 856 80 L [] h Q = Q none h := g_rV rfl
theorem k856 {x0 : Int32} {x1 : Int32} : zCall (d + 1) 856 [.ref a, .int x0, .int x1] h Q = zG d 856 0 [some (.ref a), some (.int x0), some (.int x1)] [] h Q := zCall_k (Nat.le_of_ble_eq_true rfl) rfl
theorem g857_0 : zG d 857 0 (l0 :: some (.int x) :: L) st h Q = zG d 857 1 (l0 :: some (.int x) :: L) (.int x :: st) h Q := g_ldI rfl rfl
theorem g857_1 : zG d 857 1 L st h Q = zG d 857 2 L (.int 0 :: st) h Q := g_c rfl
theorem g857_2 : zG d 857 2 L st h Q = zG d 857 3 L (.int 1 :: st) h Q := g_c rfl
theorem g857_3 : zG d 857 3 L [v2, v1, v0] h Q = zCall d 802 [v0, v1, v2] h (fun v h1 => zG d 857 6 L (zpush v []) h1 Q) := g_cS rfl rfl (Nat.le_of_ble_eq_true rfl) rfl (Nat.le_of_ble_eq_true rfl)
theorem g857_6 : zG d 857 6 L (.int x :: st) h Q = if ¬ x = 0 then zG d 857 11 L st h Q else zG d 857 9 L st h Q := g_i1 (P := fun x => ¬ x = 0) rfl
theorem g857_9 : zG d 857 9 L st h Q = zG d 857 10 L (.int (-1) :: st) h Q := g_c rfl
theorem g857_10 : zG d 857 10 L [.int x] h Q = Q (some (.int x)) h := g_rI (ok := fun _ => True) rfl trivial
theorem g857_11 : zG d 857 11 (some (.ref a) :: L) st h Q = zG d 857 12 (some (.ref a) :: L) (.ref a :: st) h Q := g_ldA rfl rfl
theorem g857_12 (hT : zT h a = (8, 29)) : zG d 857 12 L (.ref a :: st) h Q = zG d 857 15 L (zR h a 0 :: st) h Q := g_gR rfl hT
theorem g857_15 : zG d 857 15 (some (.ref a) :: L) st h Q = zG d 857 16 (some (.ref a) :: L) (.ref a :: st) h Q := g_ldA rfl rfl
theorem g857_16 (hT : zT h a = (8, 29)) : zG d 857 16 L (.ref a :: st) h Q = zG d 857 19 L (zR h a 1 :: st) h Q := g_gR rfl hT
theorem g857_19 : zG d 857 19 L [v1, v0] h Q = zCall d 804 [v0, v1] h (fun v h1 => zG d 857 22 L (zpush v []) h1 Q) := g_cS rfl rfl (Nat.le_of_ble_eq_true rfl) rfl (Nat.le_of_ble_eq_true rfl)
theorem g857_22 : zG d 857 22 L st h Q = zG d 857 23 L (.int 0 :: st) h Q := g_c rfl
theorem g857_23 : zG d 857 23 (l0 :: l1 :: l2 :: L) (.int x :: st) h Q = zG d 857 24 (l0 :: kl l1 :: some (.int x) :: L) st h Q := g_stI rfl (by simp) rfl
theorem g857_24 : zG d 857 24 (l0 :: l1 :: some (.int x) :: L) st h Q = zG d 857 25 (l0 :: l1 :: some (.int x) :: L) (.int x :: st) h Q := g_ldI rfl rfl
theorem g857_25 : zG d 857 25 (some (.ref a) :: L) st h Q = zG d 857 26 (some (.ref a) :: L) (.ref a :: st) h Q := g_ldA rfl rfl
theorem g857_26 (hT : zT h a = (8, 29)) : zG d 857 26 L (.ref a :: st) h Q = zG d 857 29 L (zR h a 0 :: st) h Q := g_gR rfl hT
theorem g857_29 : zG d 857 29 L st h Q = zG d 857 31 L (.int 80 :: st) h Q := g_c rfl
theorem g857_31 (hT : (zT h b).1 = 20) (hi : zin i (zT h b).2) : zG d 857 31 L (.int i :: .ref b :: st) h Q = zG d 857 32 L (.int (zI h b i.toNatClampNeg) :: st) h Q := g_ia rfl hT hi
theorem g857_32 : zG d 857 32 L (.int z :: .int x :: st) h Q = if z ≤ x then zG d 857 67 L st h Q else zG d 857 35 L st h Q := g_i2 (P := fun x z => z ≤ x) rfl
theorem g857_35 : zG d 857 35 (some (.ref a) :: L) st h Q = zG d 857 36 (some (.ref a) :: L) (.ref a :: st) h Q := g_ldA rfl rfl
theorem g857_36 : zG d 857 36 (some (.ref a) :: L) st h Q = zG d 857 37 (some (.ref a) :: L) (.ref a :: st) h Q := g_ldA rfl rfl
theorem g857_37 (hT : zT h a = (8, 29)) : zG d 857 37 L (.ref a :: st) h Q = zG d 857 40 L (zR h a 0 :: st) h Q := g_gR rfl hT
theorem g857_40 : zG d 857 40 L st h Q = zG d 857 42 L (.int 81 :: st) h Q := g_c rfl
theorem g857_42 : zG d 857 42 L st h Q = zG d 857 43 L (.int 2 :: st) h Q := g_c rfl
theorem g857_43 : zG d 857 43 (l0 :: l1 :: some (.int x) :: L) st h Q = zG d 857 44 (l0 :: l1 :: some (.int x) :: L) (.int x :: st) h Q := g_ldI rfl rfl
theorem g857_44 : zG d 857 44 L (.int z :: .int x :: st) h Q = zG d 857 45 L (.int (x * z) :: st) h Q := g_b (f := fun x z => x * z) rfl
theorem g857_45 : zG d 857 45 L (.int z :: .int x :: st) h Q = zG d 857 46 L (.int (x + z) :: st) h Q := g_b (f := fun x z => x + z) rfl
theorem g857_46 (hT : (zT h b).1 = 20) (hi : zin i (zT h b).2) : zG d 857 46 L (.int i :: .ref b :: st) h Q = zG d 857 47 L (.int (zI h b i.toNatClampNeg) :: st) h Q := g_ia rfl hT hi
theorem g857_47 : zG d 857 47 (some (.ref a) :: L) st h Q = zG d 857 48 (some (.ref a) :: L) (.ref a :: st) h Q := g_ldA rfl rfl
theorem g857_48 (hT : zT h a = (8, 29)) : zG d 857 48 L (.ref a :: st) h Q = zG d 857 51 L (zR h a 0 :: st) h Q := g_gR rfl hT
theorem g857_51 : zG d 857 51 L st h Q = zG d 857 53 L (.int 82 :: st) h Q := g_c rfl
theorem g857_53 : zG d 857 53 L st h Q = zG d 857 54 L (.int 2 :: st) h Q := g_c rfl
theorem g857_54 : zG d 857 54 (l0 :: l1 :: some (.int x) :: L) st h Q = zG d 857 55 (l0 :: l1 :: some (.int x) :: L) (.int x :: st) h Q := g_ldI rfl rfl
theorem g857_55 : zG d 857 55 L (.int z :: .int x :: st) h Q = zG d 857 56 L (.int (x * z) :: st) h Q := g_b (f := fun x z => x * z) rfl
theorem g857_56 : zG d 857 56 L (.int z :: .int x :: st) h Q = zG d 857 57 L (.int (x + z) :: st) h Q := g_b (f := fun x z => x + z) rfl
theorem g857_57 (hT : (zT h b).1 = 20) (hi : zin i (zT h b).2) : zG d 857 57 L (.int i :: .ref b :: st) h Q = zG d 857 58 L (.int (zI h b i.toNatClampNeg) :: st) h Q := g_ia rfl hT hi
theorem g857_58 (hT : (zT h a).1 = 8) : zG d 857 58 L [v1, v0, .ref a] h Q = zCall d 856 [.ref a, v0, v1] h (fun v h1 => zG d 857 61 L (zpush v []) h1 Q) := g_cV rfl rfl rfl rfl (Nat.le_of_ble_eq_true rfl) hT
theorem g857_61 : zG d 857 61 (l0 :: l1 :: some (.int x) :: L) st h Q = zG d 857 64 (l0 :: kl l1 :: some (.int (x + 1)) :: L) st h Q := g_inc rfl rfl rfl
theorem g857_64 : zG d 857 64 L st h Q = zG d 857 24 L st h Q := g_go rfl
theorem g857_67 : zG d 857 67 (l0 :: some (.int x) :: L) st h Q = zG d 857 68 (l0 :: some (.int x) :: L) (.int x :: st) h Q := g_ldI rfl rfl
theorem g857_68 : zG d 857 68 L (.int x :: st) h Q = if ¬ x = 0 then zG d 857 81 L st h Q else zG d 857 71 L st h Q := g_i1 (P := fun x => ¬ x = 0) rfl
theorem g857_71 : zG d 857 71 (some (.ref a) :: L) st h Q = zG d 857 72 (some (.ref a) :: L) (.ref a :: st) h Q := g_ldA rfl rfl
theorem g857_72 (hT : zT h a = (8, 29)) : zG d 857 72 L (.ref a :: st) h Q = zG d 857 75 L (zR h a 0 :: st) h Q := g_gR rfl hT
theorem g857_75 : zG d 857 75 L st h Q = zG d 857 77 L (.int 61 :: st) h Q := g_c rfl
theorem g857_77 (hT : (zT h b).1 = 20) (hi : zin i (zT h b).2) : zG d 857 77 L (.int i :: .ref b :: st) h Q = zG d 857 78 L (.int (zI h b i.toNatClampNeg) :: st) h Q := g_ia rfl hT hi
theorem g857_78 : zG d 857 78 L st h Q = zG d 857 87 L st h Q := g_go rfl
theorem g857_81 : zG d 857 81 (some (.ref a) :: L) st h Q = zG d 857 82 (some (.ref a) :: L) (.ref a :: st) h Q := g_ldA rfl rfl
theorem g857_82 : zG d 857 82 L st h Q = zG d 857 84 L (.int 10 :: st) h Q := g_c rfl
theorem g857_84 (hT : (zT h a).1 = 8) : zG d 857 84 L [v0, .ref a] h Q = zCall d 835 [.ref a, v0] h (fun v h1 => zG d 857 87 L (zpush v []) h1 Q) := g_cV rfl rfl rfl rfl (Nat.le_of_ble_eq_true rfl) hT
theorem g857_87 : zG d 857 87 (l0 :: l1 :: l2 :: L) (.int x :: st) h Q = zG d 857 88 (l0 :: kl l1 :: some (.int x) :: L) st h Q := g_stI rfl (by simp) rfl
theorem g857_88 : zG d 857 88 (some (.ref a) :: L) st h Q = zG d 857 89 (some (.ref a) :: L) (.ref a :: st) h Q := g_ldA rfl rfl
theorem g857_89 (hT : zT h a = (8, 29)) : zG d 857 89 L (.ref a :: st) h Q = zG d 857 92 L (zR h a 1 :: st) h Q := g_gR rfl hT
theorem g857_92 : zG d 857 92 (some (.ref a) :: L) st h Q = zG d 857 93 (some (.ref a) :: L) (.ref a :: st) h Q := g_ldA rfl rfl
theorem g857_93 (hT : zT h a = (8, 29)) : zG d 857 93 L (.ref a :: st) h Q = zG d 857 96 L (zR h a 0 :: st) h Q := g_gR rfl hT
theorem g857_96 : zG d 857 96 L [v1, v0] h Q = zCall d 804 [v0, v1] h (fun v h1 => zG d 857 99 L (zpush v []) h1 Q) := g_cS rfl rfl (Nat.le_of_ble_eq_true rfl) rfl (Nat.le_of_ble_eq_true rfl)
theorem g857_99 : zG d 857 99 (l0 :: l1 :: some (.int x) :: L) st h Q = zG d 857 100 (l0 :: l1 :: some (.int x) :: L) (.int x :: st) h Q := g_ldI rfl rfl
theorem g857_100 : zG d 857 100 L [.int x] h Q = Q (some (.int x)) h := g_rI (ok := fun _ => True) rfl trivial
theorem k857 {x0 : Int32} : zCall (d + 1) 857 [.ref a, .int x0] h Q = zG d 857 0 [some (.ref a), some (.int x0), none] [] h Q := zCall_k (Nat.le_of_ble_eq_true rfl) rfl
theorem g858_0 : zG d 858 0 (l0 :: some (.int x) :: L) st h Q = zG d 858 1 (l0 :: some (.int x) :: L) (.int x :: st) h Q := g_ldI rfl rfl
theorem g858_1 : zG d 858 1 L st h Q = zG d 858 2 L (.int (-1) :: st) h Q := g_c rfl
theorem g858_2 : zG d 858 2 L (.int z :: .int x :: st) h Q = if ¬ x = z then zG d 858 15 L st h Q else zG d 858 5 L st h Q := g_i2 (P := fun x z => ¬ x = z) rfl
theorem g858_5 : zG d 858 5 (some (.ref a) :: L) st h Q = zG d 858 6 (some (.ref a) :: L) (.ref a :: st) h Q := g_ldA rfl rfl
theorem g858_6 (hT : zT h a = (8, 29)) : zG d 858 6 L (.ref a :: st) h Q = zG d 858 9 L (zR h a 0 :: st) h Q := g_gR rfl hT
theorem g858_9 : zG d 858 9 L st h Q = zG d 858 11 L (.int 101 :: st) h Q := g_c rfl
theorem g858_11 : zG d 858 11 L st h Q = zG d 858 12 L (.int 0 :: st) h Q := g_c rfl
theorem g858_12 (hT : (zT h b).1 = 20) (hi : zin i (zT h b).2) : zG d 858 12 L (.int x :: .int i :: .ref b :: st) h Q = zG d 858 13 L st (wI h b i.toNatClampNeg (x)) Q := g_is (f1 := fun x => x) rfl hT hi
theorem g858_13 : zG d 858 13 L st h Q = zG d 858 14 L (.int 0 :: st) h Q := g_c rfl
theorem g858_14 : zG d 858 14 L [.int x] h Q = Q (some (.int x)) h := g_rI (ok := fun _ => True) rfl trivial
theorem g858_15 : zG d 858 15 (some (.ref a) :: L) st h Q = zG d 858 16 (some (.ref a) :: L) (.ref a :: st) h Q := g_ldA rfl rfl
theorem g858_16 : zG d 858 16 (l0 :: some (.int x) :: L) st h Q = zG d 858 17 (l0 :: some (.int x) :: L) (.int x :: st) h Q := g_ldI rfl rfl
theorem g858_17 (hT : (zT h a).1 = 8) : zG d 858 17 L [v0, .ref a] h Q = zCall d 807 [.ref a, v0] h (fun v h1 => zG d 858 20 L (zpush v []) h1 Q) := g_cV rfl rfl rfl rfl (Nat.le_of_ble_eq_true rfl) hT
theorem g858_20 : zG d 858 20 L (.int x :: st) h Q = if x = 0 then zG d 858 33 L st h Q else zG d 858 23 L st h Q := g_i1 (P := fun x => x = 0) rfl
theorem g858_23 : zG d 858 23 (l0 :: l1 :: some (.int x) :: L) st h Q = zG d 858 24 (l0 :: l1 :: some (.int x) :: L) (.int x :: st) h Q := g_ldI rfl rfl
theorem g858_24 : zG d 858 24 L st h Q = zG d 858 25 L (.int 0 :: st) h Q := g_c rfl
theorem g858_25 : zG d 858 25 L st h Q = zG d 858 27 L (.int 10 :: st) h Q := g_c rfl
theorem g858_27 : zG d 858 27 L [v2, v1, v0] h Q = zCall d 802 [v0, v1, v2] h (fun v h1 => zG d 858 30 L (zpush v []) h1 Q) := g_cS rfl rfl (Nat.le_of_ble_eq_true rfl) rfl (Nat.le_of_ble_eq_true rfl)
theorem g858_30 : zG d 858 30 L (.int x :: st) h Q = if ¬ x = 0 then zG d 858 35 L st h Q else zG d 858 33 L st h Q := g_i1 (P := fun x => ¬ x = 0) rfl
theorem g858_33 : zG d 858 33 L st h Q = zG d 858 34 L (.int (-1) :: st) h Q := g_c rfl
theorem g858_34 : zG d 858 34 L [.int x] h Q = Q (some (.int x)) h := g_rI (ok := fun _ => True) rfl trivial
theorem g858_35 : zG d 858 35 (some (.ref a) :: L) st h Q = zG d 858 36 (some (.ref a) :: L) (.ref a :: st) h Q := g_ldA rfl rfl
theorem g858_36 (hT : zT h a = (8, 29)) : zG d 858 36 L (.ref a :: st) h Q = zG d 858 39 L (zR h a 0 :: st) h Q := g_gR rfl hT
theorem g858_39 : zG d 858 39 L st h Q = zG d 858 41 L (.int 101 :: st) h Q := g_c rfl
theorem g858_41 (hT : (zT h b).1 = 20) (hi : zin i (zT h b).2) : zG d 858 41 L (.int i :: .ref b :: st) h Q = zG d 858 42 L (.int (zI h b i.toNatClampNeg) :: st) h Q := g_ia rfl hT hi
theorem g858_42 : zG d 858 42 L st h Q = zG d 858 44 L (.int 8 :: st) h Q := g_c rfl
theorem g858_44 : zG d 858 44 L (.int z :: .int x :: st) h Q = if ¬ x = z then zG d 858 50 L st h Q else zG d 858 47 L st h Q := g_i2 (P := fun x z => ¬ x = z) rfl
theorem g858_47 : zG d 858 47 L st h Q = zG d 858 49 L (.int (-4) :: st) h Q := g_c rfl
theorem g858_49 : zG d 858 49 L [.int x] h Q = Q (some (.int x)) h := g_rI (ok := fun _ => True) rfl trivial
theorem g858_50 : zG d 858 50 (some (.ref a) :: L) st h Q = zG d 858 51 (some (.ref a) :: L) (.ref a :: st) h Q := g_ldA rfl rfl
theorem g858_51 (hT : zT h a = (8, 29)) : zG d 858 51 L (.ref a :: st) h Q = zG d 858 54 L (zR h a 0 :: st) h Q := g_gR rfl hT
theorem g858_54 : zG d 858 54 L st h Q = zG d 858 56 L (.int 102 :: st) h Q := g_c rfl
theorem g858_56 : zG d 858 56 L st h Q = zG d 858 57 L (.int 2 :: st) h Q := g_c rfl
theorem g858_57 : zG d 858 57 (some (.ref a) :: L) st h Q = zG d 858 58 (some (.ref a) :: L) (.ref a :: st) h Q := g_ldA rfl rfl
theorem g858_58 (hT : zT h a = (8, 29)) : zG d 858 58 L (.ref a :: st) h Q = zG d 858 61 L (zR h a 0 :: st) h Q := g_gR rfl hT
theorem g858_61 : zG d 858 61 L st h Q = zG d 858 63 L (.int 101 :: st) h Q := g_c rfl
theorem g858_63 (hT : (zT h b).1 = 20) (hi : zin i (zT h b).2) : zG d 858 63 L (.int i :: .ref b :: st) h Q = zG d 858 64 L (.int (zI h b i.toNatClampNeg) :: st) h Q := g_ia rfl hT hi
theorem g858_64 : zG d 858 64 L (.int z :: .int x :: st) h Q = zG d 858 65 L (.int (x * z) :: st) h Q := g_b (f := fun x z => x * z) rfl
theorem g858_65 : zG d 858 65 L (.int z :: .int x :: st) h Q = zG d 858 66 L (.int (x + z) :: st) h Q := g_b (f := fun x z => x + z) rfl
theorem g858_66 : zG d 858 66 (l0 :: some (.int x) :: L) st h Q = zG d 858 67 (l0 :: some (.int x) :: L) (.int x :: st) h Q := g_ldI rfl rfl
theorem g858_67 (hT : (zT h b).1 = 20) (hi : zin i (zT h b).2) : zG d 858 67 L (.int x :: .int i :: .ref b :: st) h Q = zG d 858 68 L st (wI h b i.toNatClampNeg (x)) Q := g_is (f1 := fun x => x) rfl hT hi
theorem g858_68 : zG d 858 68 (some (.ref a) :: L) st h Q = zG d 858 69 (some (.ref a) :: L) (.ref a :: st) h Q := g_ldA rfl rfl
theorem g858_69 (hT : zT h a = (8, 29)) : zG d 858 69 L (.ref a :: st) h Q = zG d 858 72 L (zR h a 0 :: st) h Q := g_gR rfl hT
theorem g858_72 : zG d 858 72 L st h Q = zG d 858 74 L (.int 103 :: st) h Q := g_c rfl
theorem g858_74 : zG d 858 74 L st h Q = zG d 858 75 L (.int 2 :: st) h Q := g_c rfl
theorem g858_75 : zG d 858 75 (some (.ref a) :: L) st h Q = zG d 858 76 (some (.ref a) :: L) (.ref a :: st) h Q := g_ldA rfl rfl
theorem g858_76 (hT : zT h a = (8, 29)) : zG d 858 76 L (.ref a :: st) h Q = zG d 858 79 L (zR h a 0 :: st) h Q := g_gR rfl hT
theorem g858_79 : zG d 858 79 L st h Q = zG d 858 81 L (.int 101 :: st) h Q := g_c rfl
theorem g858_81 (hT : (zT h b).1 = 20) (hi : zin i (zT h b).2) : zG d 858 81 L (.int i :: .ref b :: st) h Q = zG d 858 82 L (.int (zI h b i.toNatClampNeg) :: st) h Q := g_ia rfl hT hi
theorem g858_82 : zG d 858 82 L (.int z :: .int x :: st) h Q = zG d 858 83 L (.int (x * z) :: st) h Q := g_b (f := fun x z => x * z) rfl
theorem g858_83 : zG d 858 83 L (.int z :: .int x :: st) h Q = zG d 858 84 L (.int (x + z) :: st) h Q := g_b (f := fun x z => x + z) rfl
theorem g858_84 : zG d 858 84 (l0 :: l1 :: some (.int x) :: L) st h Q = zG d 858 85 (l0 :: l1 :: some (.int x) :: L) (.int x :: st) h Q := g_ldI rfl rfl
theorem g858_85 (hT : (zT h b).1 = 20) (hi : zin i (zT h b).2) : zG d 858 85 L (.int x :: .int i :: .ref b :: st) h Q = zG d 858 86 L st (wI h b i.toNatClampNeg (x)) Q := g_is (f1 := fun x => x) rfl hT hi
theorem g858_86 : zG d 858 86 (some (.ref a) :: L) st h Q = zG d 858 87 (some (.ref a) :: L) (.ref a :: st) h Q := g_ldA rfl rfl
theorem g858_87 (hT : zT h a = (8, 29)) : zG d 858 87 L (.ref a :: st) h Q = zG d 858 90 L (zR h a 0 :: st) h Q := g_gR rfl hT
theorem g858_90 : zG d 858 90 L st h Q = zG d 858 92 L (.int 101 :: st) h Q := g_c rfl
theorem g858_92 : zG d 858 92 L (.int x :: .ref a :: st) h Q = zG d 858 93 L (.int x :: .ref a :: .int x :: .ref a :: st) h Q := g_dup2 rfl
theorem g858_93 (hT : (zT h b).1 = 20) (hi : zin i (zT h b).2) : zG d 858 93 L (.int i :: .ref b :: st) h Q = zG d 858 94 L (.int (zI h b i.toNatClampNeg) :: st) h Q := g_ia rfl hT hi
theorem g858_94 : zG d 858 94 L st h Q = zG d 858 95 L (.int 1 :: st) h Q := g_c rfl
theorem g858_95 : zG d 858 95 L (.int z :: .int x :: st) h Q = zG d 858 96 L (.int (x + z) :: st) h Q := g_b (f := fun x z => x + z) rfl
theorem g858_96 (hT : (zT h b).1 = 20) (hi : zin i (zT h b).2) : zG d 858 96 L (.int x :: .int i :: .ref b :: st) h Q = zG d 858 97 L st (wI h b i.toNatClampNeg (x)) Q := g_is (f1 := fun x => x) rfl hT hi
theorem g858_97 : zG d 858 97 (some (.ref a) :: L) st h Q = zG d 858 98 (some (.ref a) :: L) (.ref a :: st) h Q := g_ldA rfl rfl
theorem g858_98 (hT : zT h a = (8, 29)) : zG d 858 98 L (.ref a :: st) h Q = zG d 858 101 L (zR h a 0 :: st) h Q := g_gR rfl hT
theorem g858_101 : zG d 858 101 L st h Q = zG d 858 103 L (.int 101 :: st) h Q := g_c rfl
theorem g858_103 (hT : (zT h b).1 = 20) (hi : zin i (zT h b).2) : zG d 858 103 L (.int i :: .ref b :: st) h Q = zG d 858 104 L (.int (zI h b i.toNatClampNeg) :: st) h Q := g_ia rfl hT hi
theorem g858_104 : zG d 858 104 L [.int x] h Q = Q (some (.int x)) h := g_rI (ok := fun _ => True) rfl trivial
theorem k858 {x0 : Int32} {x1 : Int32} : zCall (d + 1) 858 [.ref a, .int x0, .int x1] h Q = zG d 858 0 [some (.ref a), some (.int x0), some (.int x1)] [] h Q := zCall_k (Nat.le_of_ble_eq_true rfl) rfl
theorem g859_0 : zG d 859 0 L st h Q = zG d 859 1 L (.int 0 :: st) h Q := g_c rfl
theorem g859_1 : zG d 859 1 (l0 :: l1 :: L) (.int x :: st) h Q = zG d 859 2 (kl l0 :: some (.int x) :: L) st h Q := g_stI rfl (by simp) rfl
theorem g859_2 : zG d 859 2 (l0 :: some (.int x) :: L) st h Q = zG d 859 3 (l0 :: some (.int x) :: L) (.int x :: st) h Q := g_ldI rfl rfl
theorem g859_3 : zG d 859 3 (some (.ref a) :: L) st h Q = zG d 859 4 (some (.ref a) :: L) (.ref a :: st) h Q := g_ldA rfl rfl
theorem g859_4 (hT : zT h a = (8, 29)) : zG d 859 4 L (.ref a :: st) h Q = zG d 859 7 L (zR h a 0 :: st) h Q := g_gR rfl hT
theorem g859_7 : zG d 859 7 L st h Q = zG d 859 9 L (.int 101 :: st) h Q := g_c rfl
theorem g859_9 (hT : (zT h b).1 = 20) (hi : zin i (zT h b).2) : zG d 859 9 L (.int i :: .ref b :: st) h Q = zG d 859 10 L (.int (zI h b i.toNatClampNeg) :: st) h Q := g_ia rfl hT hi
theorem g859_10 : zG d 859 10 L (.int z :: .int x :: st) h Q = if z ≤ x then zG d 859 51 L st h Q else zG d 859 13 L st h Q := g_i2 (P := fun x z => z ≤ x) rfl
theorem g859_13 : zG d 859 13 (some (.ref a) :: L) st h Q = zG d 859 14 (some (.ref a) :: L) (.ref a :: st) h Q := g_ldA rfl rfl
theorem g859_14 : zG d 859 14 (some (.ref a) :: L) st h Q = zG d 859 15 (some (.ref a) :: L) (.ref a :: st) h Q := g_ldA rfl rfl
theorem g859_15 (hT : zT h a = (8, 29)) : zG d 859 15 L (.ref a :: st) h Q = zG d 859 18 L (zR h a 0 :: st) h Q := g_gR rfl hT
theorem g859_18 : zG d 859 18 L st h Q = zG d 859 20 L (.int 102 :: st) h Q := g_c rfl
theorem g859_20 : zG d 859 20 L st h Q = zG d 859 21 L (.int 2 :: st) h Q := g_c rfl
theorem g859_21 : zG d 859 21 (l0 :: some (.int x) :: L) st h Q = zG d 859 22 (l0 :: some (.int x) :: L) (.int x :: st) h Q := g_ldI rfl rfl
theorem g859_22 : zG d 859 22 L (.int z :: .int x :: st) h Q = zG d 859 23 L (.int (x * z) :: st) h Q := g_b (f := fun x z => x * z) rfl
theorem g859_23 : zG d 859 23 L (.int z :: .int x :: st) h Q = zG d 859 24 L (.int (x + z) :: st) h Q := g_b (f := fun x z => x + z) rfl
theorem g859_24 (hT : (zT h b).1 = 20) (hi : zin i (zT h b).2) : zG d 859 24 L (.int i :: .ref b :: st) h Q = zG d 859 25 L (.int (zI h b i.toNatClampNeg) :: st) h Q := g_ia rfl hT hi
theorem g859_25 : zG d 859 25 L st h Q = zG d 859 26 L (.int 3 :: st) h Q := g_c rfl
theorem g859_26 (hT : (zT h a).1 = 8) : zG d 859 26 L [v1, v0, .ref a] h Q = zCall d 808 [.ref a, v0, v1] h (fun v h1 => zG d 859 29 L (zpush v []) h1 Q) := g_cV rfl rfl rfl rfl (Nat.le_of_ble_eq_true rfl) hT
theorem g859_29 : zG d 859 29 (some (.ref a) :: L) st h Q = zG d 859 30 (some (.ref a) :: L) (.ref a :: st) h Q := g_ldA rfl rfl
theorem g859_30 (hT : zT h a = (8, 29)) : zG d 859 30 L (.ref a :: st) h Q = zG d 859 33 L (zR h a 0 :: st) h Q := g_gR rfl hT
theorem g859_33 : zG d 859 33 L st h Q = zG d 859 35 L (.int 103 :: st) h Q := g_c rfl
theorem g859_35 : zG d 859 35 L st h Q = zG d 859 36 L (.int 2 :: st) h Q := g_c rfl
theorem g859_36 : zG d 859 36 (l0 :: some (.int x) :: L) st h Q = zG d 859 37 (l0 :: some (.int x) :: L) (.int x :: st) h Q := g_ldI rfl rfl
theorem g859_37 : zG d 859 37 L (.int z :: .int x :: st) h Q = zG d 859 38 L (.int (x * z) :: st) h Q := g_b (f := fun x z => x * z) rfl
theorem g859_38 : zG d 859 38 L (.int z :: .int x :: st) h Q = zG d 859 39 L (.int (x + z) :: st) h Q := g_b (f := fun x z => x + z) rfl
theorem g859_39 (hT : (zT h b).1 = 20) (hi : zin i (zT h b).2) : zG d 859 39 L (.int i :: .ref b :: st) h Q = zG d 859 40 L (.int (zI h b i.toNatClampNeg) :: st) h Q := g_ia rfl hT hi
theorem g859_40 : zG d 859 40 L (.int z :: .int x :: st) h Q = if x = z then zG d 859 45 L st h Q else zG d 859 43 L st h Q := g_i2 (P := fun x z => x = z) rfl
theorem g859_43 : zG d 859 43 (l0 :: some (.int x) :: L) st h Q = zG d 859 44 (l0 :: some (.int x) :: L) (.int x :: st) h Q := g_ldI rfl rfl
theorem g859_44 : zG d 859 44 L [.int x] h Q = Q (some (.int x)) h := g_rI (ok := fun _ => True) rfl trivial
theorem g859_45 : zG d 859 45 (l0 :: some (.int x) :: L) st h Q = zG d 859 48 (kl l0 :: some (.int (x + 1)) :: L) st h Q := g_inc rfl rfl rfl
theorem g859_48 : zG d 859 48 L st h Q = zG d 859 2 L st h Q := g_go rfl
theorem g859_51 : zG d 859 51 L st h Q = zG d 859 53 L (.int (-5) :: st) h Q := g_c rfl
theorem g859_53 : zG d 859 53 L [.int x] h Q = Q (some (.int x)) h := g_rI (ok := fun _ => True) rfl trivial
theorem k859  : zCall (d + 1) 859 [.ref a] h Q = zG d 859 0 [some (.ref a), none] [] h Q := zCall_k (Nat.le_of_ble_eq_true rfl) rfl
theorem g860_0 : zG d 860 0 (some (.ref a) :: L) st h Q = zG d 860 1 (some (.ref a) :: L) (.ref a :: st) h Q := g_ldA rfl rfl
theorem g860_1 (hT : zT h a = (8, 29)) : zG d 860 1 L (.ref a :: st) h Q = zG d 860 4 L (.int (zI h a 24) :: st) h Q := g_gI rfl hT
theorem g860_4 : zG d 860 4 L st h Q = zG d 860 6 L (.int 20 :: st) h Q := g_c rfl
theorem g860_6 : zG d 860 6 L (.int z :: .int x :: st) h Q = if z ≤ x then zG d 860 19 L st h Q else zG d 860 9 L st h Q := g_i2 (P := fun x z => z ≤ x) rfl
theorem g860_9 : zG d 860 9 (some (.ref a) :: L) st h Q = zG d 860 10 (some (.ref a) :: L) (.ref a :: st) h Q := g_ldA rfl rfl
theorem g860_10 (hT : zT h a = (8, 29)) : zG d 860 10 L (.ref a :: st) h Q = zG d 860 13 L (zR h a 23 :: st) h Q := g_gR rfl hT
theorem g860_13 : zG d 860 13 (some (.ref a) :: L) st h Q = zG d 860 14 (some (.ref a) :: L) (.ref a :: st) h Q := g_ldA rfl rfl
theorem g860_14 (hT : zT h a = (8, 29)) : zG d 860 14 L (.ref a :: st) h Q = zG d 860 17 L (.int (zI h a 24) :: st) h Q := g_gI rfl hT
theorem g860_17 : zG d 860 17 (l0 :: some (.int x) :: L) st h Q = zG d 860 18 (l0 :: some (.int x) :: L) (.int x :: st) h Q := g_ldI rfl rfl
theorem g860_18 (hT : (zT h b).1 = 20) (hi : zin i (zT h b).2) : zG d 860 18 L (.int x :: .int i :: .ref b :: st) h Q = zG d 860 19 L st (wI h b i.toNatClampNeg (x)) Q := g_is (f1 := fun x => x) rfl hT hi
theorem g860_19 : zG d 860 19 (some (.ref a) :: L) st h Q = zG d 860 20 (some (.ref a) :: L) (.ref a :: st) h Q := g_ldA rfl rfl
theorem g860_20 : zG d 860 20 L (.ref a :: st) h Q = zG d 860 21 L (.ref a :: .ref a :: st) h Q := g_dupA rfl
theorem g860_21 (hT : zT h a = (8, 29)) : zG d 860 21 L (.ref a :: st) h Q = zG d 860 24 L (.int (zI h a 24) :: st) h Q := g_gI rfl hT
theorem g860_24 : zG d 860 24 L st h Q = zG d 860 25 L (.int 1 :: st) h Q := g_c rfl
theorem g860_25 : zG d 860 25 L (.int z :: .int x :: st) h Q = zG d 860 26 L (.int (x + z) :: st) h Q := g_b (f := fun x z => x + z) rfl
theorem g860_26 (hT : zT h a = (8, 29)) : zG d 860 26 L (.int x :: .ref a :: st) h Q = zG d 860 29 L st (wI h a 24 x) Q := g_pI rfl hT
theorem g860_29 : zG d 860 29 (l0 :: some (.int x) :: L) st h Q = zG d 860 30 (l0 :: some (.int x) :: L) (.int x :: st) h Q := g_ldI rfl rfl
theorem g860_30 : zG d 860 30 L [.int x] h Q = Q (some (.int x)) h := g_rI (ok := fun _ => True) rfl trivial
theorem k860 {x0 : Int32} : zCall (d + 1) 860 [.ref a, .int x0] h Q = zG d 860 0 [some (.ref a), some (.int x0)] [] h Q := zCall_k (Nat.le_of_ble_eq_true rfl) rfl
theorem g861_0 : zG d 861 0 (some (.ref a) :: L) st h Q = zG d 861 1 (some (.ref a) :: L) (.ref a :: st) h Q := g_ldA rfl rfl
theorem g861_1 : zG d 861 1 (some (.ref a) :: L) st h Q = zG d 861 2 (some (.ref a) :: L) (.ref a :: st) h Q := g_ldA rfl rfl
theorem g861_2 : zG d 861 2 (l0 :: some (.int x) :: L) st h Q = zG d 861 3 (l0 :: some (.int x) :: L) (.int x :: st) h Q := g_ldI rfl rfl
theorem g861_3 : zG d 861 3 L st h Q = zG d 861 4 L (.int 0 :: st) h Q := g_c rfl
theorem g861_4 {s0 : Nat} (hT : (zT h a).1 = 8) : zG d 861 4 L [v1, v0, .ref a, .ref s0] h Q = zCall d 808 [.ref a, v0, v1] h (fun v h1 => zG d 861 7 L (zpush v [.ref s0]) h1 Q) := g_cV rfl rfl rfl rfl (Nat.le_of_ble_eq_true rfl) hT
theorem g861_7 : zG d 861 7 (l0 :: some (.int x) :: L) st h Q = zG d 861 8 (l0 :: some (.int x) :: L) (.int x :: st) h Q := g_ldI rfl rfl
theorem g861_8 : zG d 861 8 (l0 :: l1 :: some (.int x) :: L) st h Q = zG d 861 9 (l0 :: l1 :: some (.int x) :: L) (.int x :: st) h Q := g_ldI rfl rfl
theorem g861_9 : zG d 861 9 (l0 :: l1 :: l2 :: some (.int x) :: L) st h Q = zG d 861 10 (l0 :: l1 :: l2 :: some (.int x) :: L) (.int x :: st) h Q := g_ldI rfl rfl
theorem g861_10 (hT : (zT h a).1 = 8) : zG d 861 10 L [v3, v2, v1, v0, .ref a] h Q = zCall d 862 [.ref a, v0, v1, v2, v3] h (fun v h1 => zG d 861 13 L (zpush v []) h1 Q) := g_cV rfl rfl rfl rfl (Nat.le_of_ble_eq_true rfl) hT
theorem g861_13 : zG d 861 13 L [.int x] h Q = Q (some (.int x)) h := g_rI (ok := fun _ => True) rfl trivial
theorem k861 {x0 : Int32} {x1 : Int32} {x2 : Int32} : zCall (d + 1) 861 [.ref a, .int x0, .int x1, .int x2] h Q = zG d 861 0 [some (.ref a), some (.int x0), some (.int x1), some (.int x2)] [] h Q := zCall_k (Nat.le_of_ble_eq_true rfl) rfl
theorem g862_0 : zG d 862 0 (l0 :: some (.int x) :: L) st h Q = zG d 862 1 (l0 :: some (.int x) :: L) (.int x :: st) h Q := g_ldI rfl rfl
theorem g862_1 : zG d 862 1 (l0 :: l1 :: l2 :: l3 :: l4 :: l5 :: L) (.int x :: st) h Q = zG d 862 3 (l0 :: l1 :: l2 :: l3 :: kl l4 :: some (.int x) :: L) st h Q := g_stI rfl (by simp) rfl
theorem g862_3 : zG d 862 3 (some (.ref a) :: L) st h Q = zG d 862 4 (some (.ref a) :: L) (.ref a :: st) h Q := g_ldA rfl rfl
theorem g862_4 (hT : zT h a = (8, 29)) : zG d 862 4 L (.ref a :: st) h Q = zG d 862 7 L (zR h a 22 :: st) h Q := g_gR rfl hT
theorem g862_7 : zG d 862 7 L st h Q = zG d 862 8 L (.int 3 :: st) h Q := g_c rfl
theorem g862_8 : zG d 862 8 (l0 :: l1 :: l2 :: l3 :: l4 :: some (.int x) :: L) st h Q = zG d 862 10 (l0 :: l1 :: l2 :: l3 :: l4 :: some (.int x) :: L) (.int x :: st) h Q := g_ldI rfl rfl
theorem g862_10 : zG d 862 10 L (.int z :: .int x :: st) h Q = zG d 862 11 L (.int (x * z) :: st) h Q := g_b (f := fun x z => x * z) rfl
theorem g862_11 : zG d 862 11 (l0 :: l1 :: l2 :: some (.int x) :: L) st h Q = zG d 862 12 (l0 :: l1 :: l2 :: some (.int x) :: L) (.int x :: st) h Q := g_ldI rfl rfl
theorem g862_12 : zG d 862 12 L (.int z :: .int x :: st) h Q = zG d 862 13 L (.int (x + z) :: st) h Q := g_b (f := fun x z => x + z) rfl
theorem g862_13 (hT : (zT h b).1 = 20) (hi : zin i (zT h b).2) : zG d 862 13 L (.int i :: .ref b :: st) h Q = zG d 862 14 L (.int (zI h b i.toNatClampNeg) :: st) h Q := g_ia rfl hT hi
theorem g862_14 : zG d 862 14 L (.int x :: st) h Q = if ¬ x = 0 then zG d 862 29 L st h Q else zG d 862 17 L st h Q := g_i1 (P := fun x => ¬ x = 0) rfl
theorem g862_17 : zG d 862 17 (some (.ref a) :: L) st h Q = zG d 862 18 (some (.ref a) :: L) (.ref a :: st) h Q := g_ldA rfl rfl
theorem g862_18 (hT : zT h a = (8, 29)) : zG d 862 18 L (.ref a :: st) h Q = zG d 862 21 L (zR h a 21 :: st) h Q := g_gR rfl hT
theorem g862_21 : zG d 862 21 (l0 :: l1 :: l2 :: l3 :: l4 :: some (.int x) :: L) st h Q = zG d 862 23 (l0 :: l1 :: l2 :: l3 :: l4 :: some (.int x) :: L) (.int x :: st) h Q := g_ldI rfl rfl
theorem g862_23 (hT : (zT h b).1 = 20) (hi : zin i (zT h b).2) : zG d 862 23 L (.int i :: .ref b :: st) h Q = zG d 862 24 L (.int (zI h b i.toNatClampNeg) :: st) h Q := g_ia rfl hT hi
theorem g862_24 : zG d 862 24 (l0 :: l1 :: l2 :: l3 :: l4 :: l5 :: L) (.int x :: st) h Q = zG d 862 26 (l0 :: l1 :: l2 :: l3 :: kl l4 :: some (.int x) :: L) st h Q := g_stI rfl (by simp) rfl
theorem g862_26 : zG d 862 26 L st h Q = zG d 862 3 L st h Q := g_go rfl
theorem g862_29 : zG d 862 29 (some (.ref a) :: L) st h Q = zG d 862 30 (some (.ref a) :: L) (.ref a :: st) h Q := g_ldA rfl rfl
theorem g862_30 (hT : zT h a = (8, 29)) : zG d 862 30 L (.ref a :: st) h Q = zG d 862 33 L (zR h a 21 :: st) h Q := g_gR rfl hT
theorem g862_33 : zG d 862 33 (l0 :: l1 :: l2 :: l3 :: l4 :: some (.int x) :: L) st h Q = zG d 862 35 (l0 :: l1 :: l2 :: l3 :: l4 :: some (.int x) :: L) (.int x :: st) h Q := g_ldI rfl rfl
theorem g862_35 (hT : (zT h b).1 = 20) (hi : zin i (zT h b).2) : zG d 862 35 L (.int i :: .ref b :: st) h Q = zG d 862 36 L (.int (zI h b i.toNatClampNeg) :: st) h Q := g_ia rfl hT hi
theorem g862_36 : zG d 862 36 (l0 :: l1 :: l2 :: l3 :: l4 :: l5 :: l6 :: L) (.int x :: st) h Q = zG d 862 38 (l0 :: l1 :: l2 :: l3 :: l4 :: kl l5 :: some (.int x) :: L) st h Q := g_stI rfl (by simp) rfl
theorem g862_38 : zG d 862 38 (some (.ref a) :: L) st h Q = zG d 862 39 (some (.ref a) :: L) (.ref a :: st) h Q := g_ldA rfl rfl
theorem g862_39 : zG d 862 39 (some (.ref a) :: L) st h Q = zG d 862 40 (some (.ref a) :: L) (.ref a :: st) h Q := g_ldA rfl rfl
theorem g862_40 (hT : zT h a = (8, 29)) : zG d 862 40 L (.ref a :: st) h Q = zG d 862 43 L (zR h a 22 :: st) h Q := g_gR rfl hT
theorem g862_43 : zG d 862 43 L st h Q = zG d 862 44 L (.int 3 :: st) h Q := g_c rfl
theorem g862_44 : zG d 862 44 (l0 :: l1 :: l2 :: l3 :: l4 :: some (.int x) :: L) st h Q = zG d 862 46 (l0 :: l1 :: l2 :: l3 :: l4 :: some (.int x) :: L) (.int x :: st) h Q := g_ldI rfl rfl
theorem g862_46 : zG d 862 46 L (.int z :: .int x :: st) h Q = zG d 862 47 L (.int (x * z) :: st) h Q := g_b (f := fun x z => x * z) rfl
theorem g862_47 : zG d 862 47 (l0 :: l1 :: l2 :: some (.int x) :: L) st h Q = zG d 862 48 (l0 :: l1 :: l2 :: some (.int x) :: L) (.int x :: st) h Q := g_ldI rfl rfl
theorem g862_48 : zG d 862 48 L (.int z :: .int x :: st) h Q = zG d 862 49 L (.int (x + z) :: st) h Q := g_b (f := fun x z => x + z) rfl
theorem g862_49 (hT : (zT h b).1 = 20) (hi : zin i (zT h b).2) : zG d 862 49 L (.int i :: .ref b :: st) h Q = zG d 862 50 L (.int (zI h b i.toNatClampNeg) :: st) h Q := g_ia rfl hT hi
theorem g862_50 (hT : (zT h a).1 = 8) : zG d 862 50 L [v0, .ref a] h Q = zCall d 860 [.ref a, v0] h (fun v h1 => zG d 862 53 L (zpush v []) h1 Q) := g_cV rfl rfl rfl rfl (Nat.le_of_ble_eq_true rfl) hT
theorem g862_53 : zG d 862 53 L (.int x :: st) h Q = if x = 10 then zG d 862 144 L st h Q else if x = 11 then zG d 862 149 L st h Q else if x = 12 then zG d 862 165 L st h Q else if x = 20 then zG d 862 176 L st h Q else if x = 30 then zG d 862 190 L st h Q else if x = 40 then zG d 862 203 L st h Q else if x = 50 then zG d 862 222 L st h Q else if x = 51 then zG d 862 234 L st h Q else if x = 60 then zG d 862 247 L st h Q else if x = 70 then zG d 862 260 L st h Q else zG d 862 281 L st h Q := g_sw (c := 281) (ps := [(10, 144), (11, 149), (12, 165), (20, 176), (30, 190), (40, 203), (50, 222), (51, 234), (60, 247), (70, 260)]) rfl
theorem g862_144 : zG d 862 144 (l0 :: l1 :: l2 :: l3 :: some (.int x) :: L) st h Q = zG d 862 146 (l0 :: l1 :: l2 :: l3 :: some (.int x) :: L) (.int x :: st) h Q := g_ldI rfl rfl
theorem g862_146 : zG d 862 146 (l0 :: l1 :: some (.int x) :: L) st h Q = zG d 862 147 (l0 :: l1 :: some (.int x) :: L) (.int x :: st) h Q := g_ldI rfl rfl
theorem g862_147 : zG d 862 147 L (.int z :: .int x :: st) h Q = zG d 862 148 L (.int (x + z) :: st) h Q := g_b (f := fun x z => x + z) rfl
theorem g862_148 : zG d 862 148 L [.int x] h Q = Q (some (.int x)) h := g_rI (ok := fun _ => True) rfl trivial
theorem g862_149 : zG d 862 149 (some (.ref a) :: L) st h Q = zG d 862 150 (some (.ref a) :: L) (.ref a :: st) h Q := g_ldA rfl rfl
theorem g862_150 : zG d 862 150 (l0 :: l1 :: some (.int x) :: L) st h Q = zG d 862 151 (l0 :: l1 :: some (.int x) :: L) (.int x :: st) h Q := g_ldI rfl rfl
theorem g862_151 : zG d 862 151 L st h Q = zG d 862 152 L (.int 0 :: st) h Q := g_c rfl
theorem g862_152 : zG d 862 152 (l0 :: l1 :: l2 :: l3 :: some (.int x) :: L) st h Q = zG d 862 154 (l0 :: l1 :: l2 :: l3 :: some (.int x) :: L) (.int x :: st) h Q := g_ldI rfl rfl
theorem g862_154 (hT : (zT h a).1 = 8) : zG d 862 154 L [v2, v1, v0, .ref a] h Q = zCall d 861 [.ref a, v0, v1, v2] h (fun v h1 => zG d 862 157 L (zpush v []) h1 Q) := g_cV rfl rfl rfl rfl (Nat.le_of_ble_eq_true rfl) hT
theorem g862_157 : zG d 862 157 (some (.ref a) :: L) st h Q = zG d 862 158 (some (.ref a) :: L) (.ref a :: st) h Q := g_ldA rfl rfl
theorem g862_158 : zG d 862 158 (l0 :: l1 :: some (.int x) :: L) st h Q = zG d 862 159 (l0 :: l1 :: some (.int x) :: L) (.int x :: st) h Q := g_ldI rfl rfl
theorem g862_159 : zG d 862 159 L st h Q = zG d 862 160 L (.int 1 :: st) h Q := g_c rfl
theorem g862_160 {s0 : Int32} (hT : (zT h a).1 = 8) : zG d 862 160 L [v1, v0, .ref a, .int s0] h Q = zCall d 808 [.ref a, v0, v1] h (fun v h1 => zG d 862 163 L (zpush v [.int s0]) h1 Q) := g_cV rfl rfl rfl rfl (Nat.le_of_ble_eq_true rfl) hT
theorem g862_163 : zG d 862 163 L (.int z :: .int x :: st) h Q = zG d 862 164 L (.int (x - z) :: st) h Q := g_b (f := fun x z => x - z) rfl
theorem g862_164 : zG d 862 164 L [.int x] h Q = Q (some (.int x)) h := g_rI (ok := fun _ => True) rfl trivial
theorem g862_165 : zG d 862 165 (some (.ref a) :: L) st h Q = zG d 862 166 (some (.ref a) :: L) (.ref a :: st) h Q := g_ldA rfl rfl
theorem g862_166 : zG d 862 166 (l0 :: l1 :: some (.int x) :: L) st h Q = zG d 862 167 (l0 :: l1 :: some (.int x) :: L) (.int x :: st) h Q := g_ldI rfl rfl
theorem g862_167 : zG d 862 167 L st h Q = zG d 862 168 L (.int 1 :: st) h Q := g_c rfl
theorem g862_168 : zG d 862 168 (l0 :: l1 :: l2 :: l3 :: some (.int x) :: L) st h Q = zG d 862 170 (l0 :: l1 :: l2 :: l3 :: some (.int x) :: L) (.int x :: st) h Q := g_ldI rfl rfl
theorem g862_170 (hT : (zT h a).1 = 8) : zG d 862 170 L [v2, v1, v0, .ref a] h Q = zCall d 861 [.ref a, v0, v1, v2] h (fun v h1 => zG d 862 173 L (zpush v []) h1 Q) := g_cV rfl rfl rfl rfl (Nat.le_of_ble_eq_true rfl) hT
theorem g862_173 : zG d 862 173 L st h Q = zG d 862 174 L (.int 2 :: st) h Q := g_c rfl
theorem g862_174 : zG d 862 174 L (.int z :: .int x :: st) h Q = zG d 862 175 L (.int (x * z) :: st) h Q := g_b (f := fun x z => x * z) rfl
theorem g862_175 : zG d 862 175 L [.int x] h Q = Q (some (.int x)) h := g_rI (ok := fun _ => True) rfl trivial
theorem g862_176 : zG d 862 176 (some (.ref a) :: L) st h Q = zG d 862 177 (some (.ref a) :: L) (.ref a :: st) h Q := g_ldA rfl rfl
theorem g862_177 : zG d 862 177 (l0 :: l1 :: l2 :: l3 :: l4 :: l5 :: some (.int x) :: L) st h Q = zG d 862 179 (l0 :: l1 :: l2 :: l3 :: l4 :: l5 :: some (.int x) :: L) (.int x :: st) h Q := g_ldI rfl rfl
theorem g862_179 : zG d 862 179 (l0 :: l1 :: some (.int x) :: L) st h Q = zG d 862 180 (l0 :: l1 :: some (.int x) :: L) (.int x :: st) h Q := g_ldI rfl rfl
theorem g862_180 : zG d 862 180 L st h Q = zG d 862 181 L (.int 1 :: st) h Q := g_c rfl
theorem g862_181 : zG d 862 181 (l0 :: l1 :: l2 :: l3 :: some (.int x) :: L) st h Q = zG d 862 183 (l0 :: l1 :: l2 :: l3 :: some (.int x) :: L) (.int x :: st) h Q := g_ldI rfl rfl
theorem g862_183 (hT : (zT h a).1 = 8) : zG d 862 183 L [v3, v2, v1, v0, .ref a] h Q = zCall d 862 [.ref a, v0, v1, v2, v3] h (fun v h1 => zG d 862 186 L (zpush v []) h1 Q) := g_cV rfl rfl rfl rfl (Nat.le_of_ble_eq_true rfl) hT
theorem g862_186 : zG d 862 186 L st h Q = zG d 862 188 L (.int 6 :: st) h Q := g_c rfl
theorem g862_188 : zG d 862 188 L (.int z :: .int x :: st) h Q = zG d 862 189 L (.int (x ^^^ z) :: st) h Q := g_b (f := fun x z => x ^^^ z) rfl
theorem g862_189 : zG d 862 189 L [.int x] h Q = Q (some (.int x)) h := g_rI (ok := fun _ => True) rfl trivial
theorem g862_190 : zG d 862 190 (some (.ref a) :: L) st h Q = zG d 862 191 (some (.ref a) :: L) (.ref a :: st) h Q := g_ldA rfl rfl
theorem g862_191 : zG d 862 191 (l0 :: l1 :: l2 :: l3 :: l4 :: l5 :: some (.int x) :: L) st h Q = zG d 862 193 (l0 :: l1 :: l2 :: l3 :: l4 :: l5 :: some (.int x) :: L) (.int x :: st) h Q := g_ldI rfl rfl
theorem g862_193 : zG d 862 193 (l0 :: l1 :: some (.int x) :: L) st h Q = zG d 862 194 (l0 :: l1 :: some (.int x) :: L) (.int x :: st) h Q := g_ldI rfl rfl
theorem g862_194 : zG d 862 194 L st h Q = zG d 862 195 L (.int 0 :: st) h Q := g_c rfl
theorem g862_195 : zG d 862 195 (l0 :: l1 :: l2 :: l3 :: some (.int x) :: L) st h Q = zG d 862 197 (l0 :: l1 :: l2 :: l3 :: some (.int x) :: L) (.int x :: st) h Q := g_ldI rfl rfl
theorem g862_197 : zG d 862 197 L st h Q = zG d 862 198 L (.int 3 :: st) h Q := g_c rfl
theorem g862_198 : zG d 862 198 L (.int z :: .int x :: st) h Q = zG d 862 199 L (.int (x * z) :: st) h Q := g_b (f := fun x z => x * z) rfl
theorem g862_199 (hT : (zT h a).1 = 8) : zG d 862 199 L [v3, v2, v1, v0, .ref a] h Q = zCall d 862 [.ref a, v0, v1, v2, v3] h (fun v h1 => zG d 862 202 L (zpush v []) h1 Q) := g_cV rfl rfl rfl rfl (Nat.le_of_ble_eq_true rfl) hT
theorem g862_202 : zG d 862 202 L [.int x] h Q = Q (some (.int x)) h := g_rI (ok := fun _ => True) rfl trivial
theorem g862_203 : zG d 862 203 (some (.ref a) :: L) st h Q = zG d 862 204 (some (.ref a) :: L) (.ref a :: st) h Q := g_ldA rfl rfl
theorem g862_204 : zG d 862 204 (l0 :: l1 :: l2 :: l3 :: l4 :: l5 :: some (.int x) :: L) st h Q = zG d 862 206 (l0 :: l1 :: l2 :: l3 :: l4 :: l5 :: some (.int x) :: L) (.int x :: st) h Q := g_ldI rfl rfl
theorem g862_206 : zG d 862 206 (l0 :: l1 :: some (.int x) :: L) st h Q = zG d 862 207 (l0 :: l1 :: some (.int x) :: L) (.int x :: st) h Q := g_ldI rfl rfl
theorem g862_207 : zG d 862 207 L st h Q = zG d 862 208 L (.int 2 :: st) h Q := g_c rfl
theorem g862_208 : zG d 862 208 (l0 :: l1 :: l2 :: l3 :: some (.int x) :: L) st h Q = zG d 862 210 (l0 :: l1 :: l2 :: l3 :: some (.int x) :: L) (.int x :: st) h Q := g_ldI rfl rfl
theorem g862_210 (hT : (zT h a).1 = 8) : zG d 862 210 L [v3, v2, v1, v0, .ref a] h Q = zCall d 862 [.ref a, v0, v1, v2, v3] h (fun v h1 => zG d 862 213 L (zpush v []) h1 Q) := g_cV rfl rfl rfl rfl (Nat.le_of_ble_eq_true rfl) hT
theorem g862_213 : zG d 862 213 (some (.ref a) :: L) st h Q = zG d 862 214 (some (.ref a) :: L) (.ref a :: st) h Q := g_ldA rfl rfl
theorem g862_214 : zG d 862 214 (l0 :: l1 :: some (.int x) :: L) st h Q = zG d 862 215 (l0 :: l1 :: some (.int x) :: L) (.int x :: st) h Q := g_ldI rfl rfl
theorem g862_215 : zG d 862 215 L st h Q = zG d 862 216 L (.int 1 :: st) h Q := g_c rfl
theorem g862_216 : zG d 862 216 L st h Q = zG d 862 217 L (.int 1 :: st) h Q := g_c rfl
theorem g862_217 {s0 : Int32} (hT : (zT h a).1 = 8) : zG d 862 217 L [v2, v1, v0, .ref a, .int s0] h Q = zCall d 861 [.ref a, v0, v1, v2] h (fun v h1 => zG d 862 220 L (zpush v [.int s0]) h1 Q) := g_cV rfl rfl rfl rfl (Nat.le_of_ble_eq_true rfl) hT
theorem g862_220 : zG d 862 220 L (.int z :: .int x :: st) h Q = zG d 862 221 L (.int (x + z) :: st) h Q := g_b (f := fun x z => x + z) rfl
theorem g862_221 : zG d 862 221 L [.int x] h Q = Q (some (.int x)) h := g_rI (ok := fun _ => True) rfl trivial
theorem g862_222 : zG d 862 222 (some (.ref a) :: L) st h Q = zG d 862 223 (some (.ref a) :: L) (.ref a :: st) h Q := g_ldA rfl rfl
theorem g862_223 : zG d 862 223 (l0 :: l1 :: l2 :: l3 :: l4 :: l5 :: some (.int x) :: L) st h Q = zG d 862 225 (l0 :: l1 :: l2 :: l3 :: l4 :: l5 :: some (.int x) :: L) (.int x :: st) h Q := g_ldI rfl rfl
theorem g862_225 : zG d 862 225 (l0 :: l1 :: some (.int x) :: L) st h Q = zG d 862 226 (l0 :: l1 :: some (.int x) :: L) (.int x :: st) h Q := g_ldI rfl rfl
theorem g862_226 : zG d 862 226 L st h Q = zG d 862 227 L (.int 0 :: st) h Q := g_c rfl
theorem g862_227 : zG d 862 227 (l0 :: l1 :: l2 :: l3 :: some (.int x) :: L) st h Q = zG d 862 229 (l0 :: l1 :: l2 :: l3 :: some (.int x) :: L) (.int x :: st) h Q := g_ldI rfl rfl
theorem g862_229 (hT : (zT h a).1 = 8) : zG d 862 229 L [v3, v2, v1, v0, .ref a] h Q = zCall d 862 [.ref a, v0, v1, v2, v3] h (fun v h1 => zG d 862 232 L (zpush v []) h1 Q) := g_cV rfl rfl rfl rfl (Nat.le_of_ble_eq_true rfl) hT
theorem g862_232 : zG d 862 232 L (.int x :: st) h Q = zG d 862 233 L (.int (-x) :: st) h Q := g_u (f1 := fun x => -x) rfl
theorem g862_233 : zG d 862 233 L [.int x] h Q = Q (some (.int x)) h := g_rI (ok := fun _ => True) rfl trivial
theorem g862_234 : zG d 862 234 (some (.ref a) :: L) st h Q = zG d 862 235 (some (.ref a) :: L) (.ref a :: st) h Q := g_ldA rfl rfl
theorem g862_235 : zG d 862 235 (l0 :: l1 :: l2 :: l3 :: l4 :: l5 :: some (.int x) :: L) st h Q = zG d 862 237 (l0 :: l1 :: l2 :: l3 :: l4 :: l5 :: some (.int x) :: L) (.int x :: st) h Q := g_ldI rfl rfl
theorem g862_237 : zG d 862 237 (l0 :: l1 :: some (.int x) :: L) st h Q = zG d 862 238 (l0 :: l1 :: some (.int x) :: L) (.int x :: st) h Q := g_ldI rfl rfl
theorem g862_238 : zG d 862 238 L st h Q = zG d 862 239 L (.int 1 :: st) h Q := g_c rfl
theorem g862_239 : zG d 862 239 (l0 :: l1 :: l2 :: l3 :: some (.int x) :: L) st h Q = zG d 862 241 (l0 :: l1 :: l2 :: l3 :: some (.int x) :: L) (.int x :: st) h Q := g_ldI rfl rfl
theorem g862_241 : zG d 862 241 L st h Q = zG d 862 242 L (.int 1 :: st) h Q := g_c rfl
theorem g862_242 : zG d 862 242 L (.int z :: .int x :: st) h Q = zG d 862 243 L (.int (x + z) :: st) h Q := g_b (f := fun x z => x + z) rfl
theorem g862_243 (hT : (zT h a).1 = 8) : zG d 862 243 L [v3, v2, v1, v0, .ref a] h Q = zCall d 862 [.ref a, v0, v1, v2, v3] h (fun v h1 => zG d 862 246 L (zpush v []) h1 Q) := g_cV rfl rfl rfl rfl (Nat.le_of_ble_eq_true rfl) hT
theorem g862_246 : zG d 862 246 L [.int x] h Q = Q (some (.int x)) h := g_rI (ok := fun _ => True) rfl trivial
theorem g862_247 : zG d 862 247 (some (.ref a) :: L) st h Q = zG d 862 248 (some (.ref a) :: L) (.ref a :: st) h Q := g_ldA rfl rfl
theorem g862_248 : zG d 862 248 (l0 :: l1 :: l2 :: l3 :: l4 :: l5 :: some (.int x) :: L) st h Q = zG d 862 250 (l0 :: l1 :: l2 :: l3 :: l4 :: l5 :: some (.int x) :: L) (.int x :: st) h Q := g_ldI rfl rfl
theorem g862_250 : zG d 862 250 (l0 :: l1 :: some (.int x) :: L) st h Q = zG d 862 251 (l0 :: l1 :: some (.int x) :: L) (.int x :: st) h Q := g_ldI rfl rfl
theorem g862_251 : zG d 862 251 L st h Q = zG d 862 252 L (.int 2 :: st) h Q := g_c rfl
theorem g862_252 : zG d 862 252 (l0 :: l1 :: l2 :: l3 :: some (.int x) :: L) st h Q = zG d 862 254 (l0 :: l1 :: l2 :: l3 :: some (.int x) :: L) (.int x :: st) h Q := g_ldI rfl rfl
theorem g862_254 : zG d 862 254 (l0 :: l1 :: some (.int x) :: L) st h Q = zG d 862 255 (l0 :: l1 :: some (.int x) :: L) (.int x :: st) h Q := g_ldI rfl rfl
theorem g862_255 : zG d 862 255 L (.int z :: .int x :: st) h Q = zG d 862 256 L (.int (x - z) :: st) h Q := g_b (f := fun x z => x - z) rfl
theorem g862_256 (hT : (zT h a).1 = 8) : zG d 862 256 L [v3, v2, v1, v0, .ref a] h Q = zCall d 862 [.ref a, v0, v1, v2, v3] h (fun v h1 => zG d 862 259 L (zpush v []) h1 Q) := g_cV rfl rfl rfl rfl (Nat.le_of_ble_eq_true rfl) hT
theorem g862_259 : zG d 862 259 L [.int x] h Q = Q (some (.int x)) h := g_rI (ok := fun _ => True) rfl trivial
theorem g862_260 : zG d 862 260 (some (.ref a) :: L) st h Q = zG d 862 261 (some (.ref a) :: L) (.ref a :: st) h Q := g_ldA rfl rfl
theorem g862_261 : zG d 862 261 (l0 :: l1 :: l2 :: l3 :: l4 :: l5 :: some (.int x) :: L) st h Q = zG d 862 263 (l0 :: l1 :: l2 :: l3 :: l4 :: l5 :: some (.int x) :: L) (.int x :: st) h Q := g_ldI rfl rfl
theorem g862_263 : zG d 862 263 (l0 :: l1 :: some (.int x) :: L) st h Q = zG d 862 264 (l0 :: l1 :: some (.int x) :: L) (.int x :: st) h Q := g_ldI rfl rfl
theorem g862_264 : zG d 862 264 L st h Q = zG d 862 265 L (.int 1 :: st) h Q := g_c rfl
theorem g862_265 : zG d 862 265 (l0 :: l1 :: l2 :: l3 :: some (.int x) :: L) st h Q = zG d 862 267 (l0 :: l1 :: l2 :: l3 :: some (.int x) :: L) (.int x :: st) h Q := g_ldI rfl rfl
theorem g862_267 (hT : (zT h a).1 = 8) : zG d 862 267 L [v3, v2, v1, v0, .ref a] h Q = zCall d 862 [.ref a, v0, v1, v2, v3] h (fun v h1 => zG d 862 270 L (zpush v []) h1 Q) := g_cV rfl rfl rfl rfl (Nat.le_of_ble_eq_true rfl) hT
theorem g862_270 : zG d 862 270 (some (.ref a) :: L) st h Q = zG d 862 271 (some (.ref a) :: L) (.ref a :: st) h Q := g_ldA rfl rfl
theorem g862_271 : zG d 862 271 (l0 :: l1 :: l2 :: l3 :: l4 :: l5 :: some (.int x) :: L) st h Q = zG d 862 273 (l0 :: l1 :: l2 :: l3 :: l4 :: l5 :: some (.int x) :: L) (.int x :: st) h Q := g_ldI rfl rfl
theorem g862_273 : zG d 862 273 (l0 :: l1 :: some (.int x) :: L) st h Q = zG d 862 274 (l0 :: l1 :: some (.int x) :: L) (.int x :: st) h Q := g_ldI rfl rfl
theorem g862_274 : zG d 862 274 L st h Q = zG d 862 275 L (.int 0 :: st) h Q := g_c rfl
theorem g862_275 : zG d 862 275 L st h Q = zG d 862 276 L (.int 2 :: st) h Q := g_c rfl
theorem g862_276 {s0 : Int32} (hT : (zT h a).1 = 8) : zG d 862 276 L [v3, v2, v1, v0, .ref a, .int s0] h Q = zCall d 862 [.ref a, v0, v1, v2, v3] h (fun v h1 => zG d 862 279 L (zpush v [.int s0]) h1 Q) := g_cV rfl rfl rfl rfl (Nat.le_of_ble_eq_true rfl) hT
theorem g862_279 : zG d 862 279 L (.int z :: .int x :: st) h Q = zG d 862 280 L (.int (x + z) :: st) h Q := g_b (f := fun x z => x + z) rfl
theorem g862_280 : zG d 862 280 L [.int x] h Q = Q (some (.int x)) h := g_rI (ok := fun _ => True) rfl trivial
theorem g862_281 : zG d 862 281 (some (.ref a) :: L) st h Q = zG d 862 282 (some (.ref a) :: L) (.ref a :: st) h Q := g_ldA rfl rfl
theorem g862_282 : zG d 862 282 (l0 :: l1 :: l2 :: l3 :: l4 :: l5 :: some (.int x) :: L) st h Q = zG d 862 284 (l0 :: l1 :: l2 :: l3 :: l4 :: l5 :: some (.int x) :: L) (.int x :: st) h Q := g_ldI rfl rfl
theorem g862_284 : zG d 862 284 (l0 :: l1 :: some (.int x) :: L) st h Q = zG d 862 285 (l0 :: l1 :: some (.int x) :: L) (.int x :: st) h Q := g_ldI rfl rfl
theorem g862_285 : zG d 862 285 L st h Q = zG d 862 286 L (.int 0 :: st) h Q := g_c rfl
theorem g862_286 : zG d 862 286 (l0 :: l1 :: l2 :: l3 :: some (.int x) :: L) st h Q = zG d 862 288 (l0 :: l1 :: l2 :: l3 :: some (.int x) :: L) (.int x :: st) h Q := g_ldI rfl rfl
theorem g862_288 (hT : (zT h a).1 = 8) : zG d 862 288 L [v3, v2, v1, v0, .ref a] h Q = zCall d 862 [.ref a, v0, v1, v2, v3] h (fun v h1 => zG d 862 291 L (zpush v []) h1 Q) := g_cV rfl rfl rfl rfl (Nat.le_of_ble_eq_true rfl) hT
theorem g862_291 : zG d 862 291 (some (.ref a) :: L) st h Q = zG d 862 292 (some (.ref a) :: L) (.ref a :: st) h Q := g_ldA rfl rfl
theorem g862_292 : zG d 862 292 (l0 :: l1 :: some (.int x) :: L) st h Q = zG d 862 293 (l0 :: l1 :: some (.int x) :: L) (.int x :: st) h Q := g_ldI rfl rfl
theorem g862_293 : zG d 862 293 L st h Q = zG d 862 294 L (.int 1 :: st) h Q := g_c rfl
theorem g862_294 {s0 : Int32} (hT : (zT h a).1 = 8) : zG d 862 294 L [v1, v0, .ref a, .int s0] h Q = zCall d 808 [.ref a, v0, v1] h (fun v h1 => zG d 862 297 L (zpush v [.int s0]) h1 Q) := g_cV rfl rfl rfl rfl (Nat.le_of_ble_eq_true rfl) hT
theorem g862_297 : zG d 862 297 L (.int z :: .int x :: st) h Q = zG d 862 298 L (.int (x ^^^ z) :: st) h Q := g_b (f := fun x z => x ^^^ z) rfl
theorem g862_298 : zG d 862 298 L [.int x] h Q = Q (some (.int x)) h := g_rI (ok := fun _ => True) rfl trivial
theorem k862 {x0 : Int32} {x1 : Int32} {x2 : Int32} {x3 : Int32} : zCall (d + 1) 862 [.ref a, .int x0, .int x1, .int x2, .int x3] h Q = zG d 862 0 [some (.ref a), some (.int x0), some (.int x1), some (.int x2), some (.int x3), none, none] [] h Q := zCall_k (Nat.le_of_ble_eq_true rfl) rfl
theorem g863_0 : zG d 863 0 (some (.ref a) :: L) st h Q = zG d 863 1 (some (.ref a) :: L) (.ref a :: st) h Q := g_ldA rfl rfl
theorem g863_1 : zG d 863 1 L st h Q = zG d 863 2 L (.int 0 :: st) h Q := g_c rfl
theorem g863_2 (hT : zT h a = (8, 29)) : zG d 863 2 L (.int x :: .ref a :: st) h Q = zG d 863 5 L st (wI h a 24 x) Q := g_pI rfl hT
theorem g863_5 : zG d 863 5 (some (.ref a) :: L) st h Q = zG d 863 6 (some (.ref a) :: L) (.ref a :: st) h Q := g_ldA rfl rfl
theorem g863_6 : zG d 863 6 (l0 :: some (.int x) :: L) st h Q = zG d 863 7 (l0 :: some (.int x) :: L) (.int x :: st) h Q := g_ldI rfl rfl
theorem g863_7 (hT : (zT h a).1 = 8) : zG d 863 7 L [v0, .ref a] h Q = zCall d 807 [.ref a, v0] h (fun v h1 => zG d 863 10 L (zpush v []) h1 Q) := g_cV rfl rfl rfl rfl (Nat.le_of_ble_eq_true rfl) hT
theorem g863_10 : zG d 863 10 L (.int x :: st) h Q = if x = 0 then zG d 863 32 L st h Q else zG d 863 13 L st h Q := g_i1 (P := fun x => x = 0) rfl
theorem g863_13 : zG d 863 13 (l0 :: l1 :: some (.int x) :: L) st h Q = zG d 863 14 (l0 :: l1 :: some (.int x) :: L) (.int x :: st) h Q := g_ldI rfl rfl
theorem g863_14 : zG d 863 14 L st h Q = zG d 863 15 L (.int 0 :: st) h Q := g_c rfl
theorem g863_15 : zG d 863 15 L st h Q = zG d 863 16 L (.int 2 :: st) h Q := g_c rfl
theorem g863_16 : zG d 863 16 L [v2, v1, v0] h Q = zCall d 802 [v0, v1, v2] h (fun v h1 => zG d 863 19 L (zpush v []) h1 Q) := g_cS rfl rfl (Nat.le_of_ble_eq_true rfl) rfl (Nat.le_of_ble_eq_true rfl)
theorem g863_19 : zG d 863 19 L (.int x :: st) h Q = if x = 0 then zG d 863 32 L st h Q else zG d 863 22 L st h Q := g_i1 (P := fun x => x = 0) rfl
theorem g863_22 : zG d 863 22 (some (.ref a) :: L) st h Q = zG d 863 23 (some (.ref a) :: L) (.ref a :: st) h Q := g_ldA rfl rfl
theorem g863_23 : zG d 863 23 (l0 :: some (.int x) :: L) st h Q = zG d 863 24 (l0 :: some (.int x) :: L) (.int x :: st) h Q := g_ldI rfl rfl
theorem g863_24 : zG d 863 24 (l0 :: l1 :: some (.int x) :: L) st h Q = zG d 863 25 (l0 :: l1 :: some (.int x) :: L) (.int x :: st) h Q := g_ldI rfl rfl
theorem g863_25 : zG d 863 25 (l0 :: l1 :: l2 :: some (.int x) :: L) st h Q = zG d 863 26 (l0 :: l1 :: l2 :: some (.int x) :: L) (.int x :: st) h Q := g_ldI rfl rfl
theorem g863_26 (hT : (zT h a).1 = 8) : zG d 863 26 L [v2, v1, v0, .ref a] h Q = zCall d 861 [.ref a, v0, v1, v2] h (fun v h1 => zG d 863 29 L (zpush v []) h1 Q) := g_cV rfl rfl rfl rfl (Nat.le_of_ble_eq_true rfl) hT
theorem g863_29 : zG d 863 29 L st h Q = zG d 863 33 L st h Q := g_go rfl
theorem g863_32 : zG d 863 32 L st h Q = zG d 863 33 L (.int 0 :: st) h Q := g_c rfl
theorem g863_33 : zG d 863 33 L [.int x] h Q = Q (some (.int x)) h := g_rI (ok := fun _ => True) rfl trivial
theorem k863 {x0 : Int32} {x1 : Int32} {x2 : Int32} : zCall (d + 1) 863 [.ref a, .int x0, .int x1, .int x2] h Q = zG d 863 0 [some (.ref a), some (.int x0), some (.int x1), some (.int x2)] [] h Q := zCall_k (Nat.le_of_ble_eq_true rfl) rfl
theorem g864_0 : zG d 864 0 (l0 :: some (.int x) :: L) st h Q = zG d 864 1 (l0 :: some (.int x) :: L) (.int x :: st) h Q := g_ldI rfl rfl
theorem g864_1 : zG d 864 1 L st h Q = zG d 864 2 L (.int 0 :: st) h Q := g_c rfl
theorem g864_2 : zG d 864 2 L st h Q = zG d 864 4 L (.int 20 :: st) h Q := g_c rfl
theorem g864_4 : zG d 864 4 (some (.ref a) :: L) st h Q = zG d 864 5 (some (.ref a) :: L) (.ref a :: st) h Q := g_ldA rfl rfl
theorem g864_5 (hT : zT h a = (8, 29)) : zG d 864 5 L (.ref a :: st) h Q = zG d 864 8 L (.int (zI h a 24) :: st) h Q := g_gI rfl hT
theorem g864_8 (h4 : st.length ≤ 4) : zG d 864 8 L (.int z :: .int x :: st) h Q = zG d 864 11 L (.int (zmin x z) :: st) h Q := g_mm (f := fun x z => zmin x z) rfl h4
theorem g864_11 : zG d 864 11 L st h Q = zG d 864 12 L (.int 1 :: st) h Q := g_c rfl
theorem g864_12 : zG d 864 12 L (.int z :: .int x :: st) h Q = zG d 864 13 L (.int (x - z) :: st) h Q := g_b (f := fun x z => x - z) rfl
theorem g864_13 : zG d 864 13 L [v2, v1, v0] h Q = zCall d 802 [v0, v1, v2] h (fun v h1 => zG d 864 16 L (zpush v []) h1 Q) := g_cS rfl rfl (Nat.le_of_ble_eq_true rfl) rfl (Nat.le_of_ble_eq_true rfl)
theorem g864_16 : zG d 864 16 L (.int x :: st) h Q = if x = 0 then zG d 864 28 L st h Q else zG d 864 19 L st h Q := g_i1 (P := fun x => x = 0) rfl
theorem g864_19 : zG d 864 19 (some (.ref a) :: L) st h Q = zG d 864 20 (some (.ref a) :: L) (.ref a :: st) h Q := g_ldA rfl rfl
theorem g864_20 (hT : zT h a = (8, 29)) : zG d 864 20 L (.ref a :: st) h Q = zG d 864 23 L (zR h a 23 :: st) h Q := g_gR rfl hT
theorem g864_23 : zG d 864 23 (l0 :: some (.int x) :: L) st h Q = zG d 864 24 (l0 :: some (.int x) :: L) (.int x :: st) h Q := g_ldI rfl rfl
theorem g864_24 (hT : (zT h b).1 = 20) (hi : zin i (zT h b).2) : zG d 864 24 L (.int i :: .ref b :: st) h Q = zG d 864 25 L (.int (zI h b i.toNatClampNeg) :: st) h Q := g_ia rfl hT hi
theorem g864_25 : zG d 864 25 L st h Q = zG d 864 29 L st h Q := g_go rfl
theorem g864_28 : zG d 864 28 L st h Q = zG d 864 29 L (.int (-1) :: st) h Q := g_c rfl
theorem g864_29 : zG d 864 29 L [.int x] h Q = Q (some (.int x)) h := g_rI (ok := fun _ => True) rfl trivial
theorem k864 {x0 : Int32} : zCall (d + 1) 864 [.ref a, .int x0] h Q = zG d 864 0 [some (.ref a), some (.int x0)] [] h Q := zCall_k (Nat.le_of_ble_eq_true rfl) rfl
theorem g865_0 : zG d 865 0 (l0 :: l1 :: some (.int x) :: L) st h Q = zG d 865 1 (l0 :: l1 :: some (.int x) :: L) (.int x :: st) h Q := g_ldI rfl rfl
theorem g865_1 : zG d 865 1 L st h Q = zG d 865 2 L (.int 0 :: st) h Q := g_c rfl
theorem g865_2 : zG d 865 2 L st h Q = zG d 865 4 L (.int 6 :: st) h Q := g_c rfl
theorem g865_4 : zG d 865 4 L [v2, v1, v0] h Q = zCall d 802 [v0, v1, v2] h (fun v h1 => zG d 865 7 L (zpush v []) h1 Q) := g_cS rfl rfl (Nat.le_of_ble_eq_true rfl) rfl (Nat.le_of_ble_eq_true rfl)
theorem g865_7 : zG d 865 7 L (.int x :: st) h Q = if ¬ x = 0 then zG d 865 13 L st h Q else zG d 865 10 L st h Q := g_i1 (P := fun x => ¬ x = 0) rfl
theorem g865_10 : zG d 865 10 L st h Q = zG d 865 12 L (.int (-2) :: st) h Q := g_c rfl
theorem g865_12 : zG d 865 12 L [.int x] h Q = Q (some (.int x)) h := g_rI (ok := fun _ => True) rfl trivial
theorem g865_13 : zG d 865 13 (some (.ref a) :: L) st h Q = zG d 865 14 (some (.ref a) :: L) (.ref a :: st) h Q := g_ldA rfl rfl
theorem g865_14 : zG d 865 14 (l0 :: some (.int x) :: L) st h Q = zG d 865 15 (l0 :: some (.int x) :: L) (.int x :: st) h Q := g_ldI rfl rfl
theorem g865_15 (hT : (zT h a).1 = 8) : zG d 865 15 L [v0, .ref a] h Q = zCall d 807 [.ref a, v0] h (fun v h1 => zG d 865 18 L (zpush v []) h1 Q) := g_cV rfl rfl rfl rfl (Nat.le_of_ble_eq_true rfl) hT
theorem g865_18 : zG d 865 18 L (.int x :: st) h Q = if ¬ x = 0 then zG d 865 24 L st h Q else zG d 865 21 L st h Q := g_i1 (P := fun x => ¬ x = 0) rfl
theorem g865_21 : zG d 865 21 L st h Q = zG d 865 23 L (.int (-11) :: st) h Q := g_c rfl
theorem g865_23 : zG d 865 23 L [.int x] h Q = Q (some (.int x)) h := g_rI (ok := fun _ => True) rfl trivial
theorem g865_24 : zG d 865 24 (some (.ref a) :: L) st h Q = zG d 865 25 (some (.ref a) :: L) (.ref a :: st) h Q := g_ldA rfl rfl
theorem g865_25 : zG d 865 25 (l0 :: some (.int x) :: L) st h Q = zG d 865 26 (l0 :: some (.int x) :: L) (.int x :: st) h Q := g_ldI rfl rfl
theorem g865_26 : zG d 865 26 L st h Q = zG d 865 27 L (.int 0 :: st) h Q := g_c rfl
theorem g865_27 (hT : (zT h a).1 = 8) : zG d 865 27 L [v1, v0, .ref a] h Q = zCall d 808 [.ref a, v0, v1] h (fun v h1 => zG d 865 30 L (zpush v []) h1 Q) := g_cV rfl rfl rfl rfl (Nat.le_of_ble_eq_true rfl) hT
theorem g865_30 : zG d 865 30 (l0 :: l1 :: l2 :: l3 :: L) (.int x :: st) h Q = zG d 865 31 (l0 :: l1 :: kl l2 :: some (.int x) :: L) st h Q := g_stI rfl (by simp) rfl
theorem g865_31 : zG d 865 31 (l0 :: l1 :: l2 :: some (.int x) :: L) st h Q = zG d 865 32 (l0 :: l1 :: l2 :: some (.int x) :: L) (.int x :: st) h Q := g_ldI rfl rfl
theorem g865_32 : zG d 865 32 L st h Q = zG d 865 33 L (.int (-1) :: st) h Q := g_c rfl
theorem g865_33 : zG d 865 33 L (.int z :: .int x :: st) h Q = if x = z then zG d 865 51 L st h Q else zG d 865 36 L st h Q := g_i2 (P := fun x z => x = z) rfl
theorem g865_36 : zG d 865 36 (l0 :: l1 :: l2 :: some (.int x) :: L) st h Q = zG d 865 37 (l0 :: l1 :: l2 :: some (.int x) :: L) (.int x :: st) h Q := g_ldI rfl rfl
theorem g865_37 : zG d 865 37 (l0 :: l1 :: some (.int x) :: L) st h Q = zG d 865 38 (l0 :: l1 :: some (.int x) :: L) (.int x :: st) h Q := g_ldI rfl rfl
theorem g865_38 : zG d 865 38 L (.int z :: .int x :: st) h Q = if x = z then zG d 865 51 L st h Q else zG d 865 41 L st h Q := g_i2 (P := fun x z => x = z) rfl
theorem g865_41 : zG d 865 41 (some (.ref a) :: L) st h Q = zG d 865 42 (some (.ref a) :: L) (.ref a :: st) h Q := g_ldA rfl rfl
theorem g865_42 (hT : zT h a = (8, 29)) : zG d 865 42 L (.ref a :: st) h Q = zG d 865 45 L (zR h a 21 :: st) h Q := g_gR rfl hT
theorem g865_45 : zG d 865 45 (l0 :: l1 :: l2 :: some (.int x) :: L) st h Q = zG d 865 46 (l0 :: l1 :: l2 :: some (.int x) :: L) (.int x :: st) h Q := g_ldI rfl rfl
theorem g865_46 (hT : (zT h b).1 = 20) (hi : zin i (zT h b).2) : zG d 865 46 L (.int i :: .ref b :: st) h Q = zG d 865 47 L (.int (zI h b i.toNatClampNeg) :: st) h Q := g_ia rfl hT hi
theorem g865_47 : zG d 865 47 (l0 :: l1 :: l2 :: l3 :: L) (.int x :: st) h Q = zG d 865 48 (l0 :: l1 :: kl l2 :: some (.int x) :: L) st h Q := g_stI rfl (by simp) rfl
theorem g865_48 : zG d 865 48 L st h Q = zG d 865 31 L st h Q := g_go rfl
theorem g865_51 : zG d 865 51 (l0 :: l1 :: l2 :: some (.int x) :: L) st h Q = zG d 865 52 (l0 :: l1 :: l2 :: some (.int x) :: L) (.int x :: st) h Q := g_ldI rfl rfl
theorem g865_52 : zG d 865 52 (l0 :: l1 :: some (.int x) :: L) st h Q = zG d 865 53 (l0 :: l1 :: some (.int x) :: L) (.int x :: st) h Q := g_ldI rfl rfl
theorem g865_53 : zG d 865 53 L (.int z :: .int x :: st) h Q = if ¬ x = z then zG d 865 65 L st h Q else zG d 865 56 L st h Q := g_i2 (P := fun x z => ¬ x = z) rfl
theorem g865_56 : zG d 865 56 (some (.ref a) :: L) st h Q = zG d 865 57 (some (.ref a) :: L) (.ref a :: st) h Q := g_ldA rfl rfl
theorem g865_57 : zG d 865 57 (l0 :: some (.int x) :: L) st h Q = zG d 865 58 (l0 :: some (.int x) :: L) (.int x :: st) h Q := g_ldI rfl rfl
theorem g865_58 : zG d 865 58 L st h Q = zG d 865 59 L (.int 0 :: st) h Q := g_c rfl
theorem g865_59 (hT : (zT h a).1 = 8) : zG d 865 59 L [v1, v0, .ref a] h Q = zCall d 808 [.ref a, v0, v1] h (fun v h1 => zG d 865 62 L (zpush v []) h1 Q) := g_cV rfl rfl rfl rfl (Nat.le_of_ble_eq_true rfl) hT
theorem g865_62 : zG d 865 62 L st h Q = zG d 865 67 L st h Q := g_go rfl
theorem g865_65 : zG d 865 65 L st h Q = zG d 865 67 L (.int (-12) :: st) h Q := g_c rfl
theorem g865_67 : zG d 865 67 L [.int x] h Q = Q (some (.int x)) h := g_rI (ok := fun _ => True) rfl trivial
theorem k865 {x0 : Int32} {x1 : Int32} : zCall (d + 1) 865 [.ref a, .int x0, .int x1] h Q = zG d 865 0 [some (.ref a), some (.int x0), some (.int x1), none] [] h Q := zCall_k (Nat.le_of_ble_eq_true rfl) rfl
theorem g866_0 : zG d 866 0 (l0 :: some (.int x) :: L) st h Q = zG d 866 1 (l0 :: some (.int x) :: L) (.int x :: st) h Q := g_ldI rfl rfl
theorem g866_1 : zG d 866 1 L (.int x :: st) h Q = if x = 0 then zG d 866 44 L st h Q else if x = 1 then zG d 866 52 L st h Q else if x = 2 then zG d 866 57 L st h Q else if x = 3 then zG d 866 65 L st h Q else if x = 4 then zG d 866 73 L st h Q else if x = 5 then zG d 866 81 L st h Q else if x = 6 then zG d 866 86 L st h Q else zG d 866 91 L st h Q := g_sw (c := 91) (ps := [(0, 44), (1, 52), (2, 57), (3, 65), (4, 73), (5, 81), (6, 86)]) rfl
theorem g866_44 : zG d 866 44 (some (.ref a) :: L) st h Q = zG d 866 45 (some (.ref a) :: L) (.ref a :: st) h Q := g_ldA rfl rfl
theorem g866_45 (hT : zT h a = (8, 29)) : zG d 866 45 L (.ref a :: st) h Q = zG d 866 48 L (zR h a 0 :: st) h Q := g_gR rfl hT
theorem g866_48 : zG d 866 48 L st h Q = zG d 866 50 L (.int 60 :: st) h Q := g_c rfl
theorem g866_50 (hT : (zT h b).1 = 20) (hi : zin i (zT h b).2) : zG d 866 50 L (.int i :: .ref b :: st) h Q = zG d 866 51 L (.int (zI h b i.toNatClampNeg) :: st) h Q := g_ia rfl hT hi
theorem g866_51 : zG d 866 51 L [.int x] h Q = Q (some (.int x)) h := g_rI (ok := fun _ => True) rfl trivial
theorem g866_52 : zG d 866 52 (some (.ref a) :: L) st h Q = zG d 866 53 (some (.ref a) :: L) (.ref a :: st) h Q := g_ldA rfl rfl
theorem g866_53 (hT : zT h a = (8, 29)) : zG d 866 53 L (.ref a :: st) h Q = zG d 866 56 L (.int (zI h a 9) :: st) h Q := g_gI rfl hT
theorem g866_56 : zG d 866 56 L [.int x] h Q = Q (some (.int x)) h := g_rI (ok := fun _ => True) rfl trivial
theorem g866_57 : zG d 866 57 (some (.ref a) :: L) st h Q = zG d 866 58 (some (.ref a) :: L) (.ref a :: st) h Q := g_ldA rfl rfl
theorem g866_58 (hT : zT h a = (8, 29)) : zG d 866 58 L (.ref a :: st) h Q = zG d 866 61 L (zR h a 0 :: st) h Q := g_gR rfl hT
theorem g866_61 : zG d 866 61 L st h Q = zG d 866 63 L (.int 64 :: st) h Q := g_c rfl
theorem g866_63 (hT : (zT h b).1 = 20) (hi : zin i (zT h b).2) : zG d 866 63 L (.int i :: .ref b :: st) h Q = zG d 866 64 L (.int (zI h b i.toNatClampNeg) :: st) h Q := g_ia rfl hT hi
theorem g866_64 : zG d 866 64 L [.int x] h Q = Q (some (.int x)) h := g_rI (ok := fun _ => True) rfl trivial
theorem g866_65 : zG d 866 65 (some (.ref a) :: L) st h Q = zG d 866 66 (some (.ref a) :: L) (.ref a :: st) h Q := g_ldA rfl rfl
theorem g866_66 (hT : zT h a = (8, 29)) : zG d 866 66 L (.ref a :: st) h Q = zG d 866 69 L (zR h a 0 :: st) h Q := g_gR rfl hT
theorem g866_69 : zG d 866 69 L st h Q = zG d 866 71 L (.int 80 :: st) h Q := g_c rfl
theorem g866_71 (hT : (zT h b).1 = 20) (hi : zin i (zT h b).2) : zG d 866 71 L (.int i :: .ref b :: st) h Q = zG d 866 72 L (.int (zI h b i.toNatClampNeg) :: st) h Q := g_ia rfl hT hi
theorem g866_72 : zG d 866 72 L [.int x] h Q = Q (some (.int x)) h := g_rI (ok := fun _ => True) rfl trivial
theorem g866_73 : zG d 866 73 (some (.ref a) :: L) st h Q = zG d 866 74 (some (.ref a) :: L) (.ref a :: st) h Q := g_ldA rfl rfl
theorem g866_74 (hT : zT h a = (8, 29)) : zG d 866 74 L (.ref a :: st) h Q = zG d 866 77 L (zR h a 0 :: st) h Q := g_gR rfl hT
theorem g866_77 : zG d 866 77 L st h Q = zG d 866 79 L (.int 101 :: st) h Q := g_c rfl
theorem g866_79 (hT : (zT h b).1 = 20) (hi : zin i (zT h b).2) : zG d 866 79 L (.int i :: .ref b :: st) h Q = zG d 866 80 L (.int (zI h b i.toNatClampNeg) :: st) h Q := g_ia rfl hT hi
theorem g866_80 : zG d 866 80 L [.int x] h Q = Q (some (.int x)) h := g_rI (ok := fun _ => True) rfl trivial
theorem g866_81 : zG d 866 81 (some (.ref a) :: L) st h Q = zG d 866 82 (some (.ref a) :: L) (.ref a :: st) h Q := g_ldA rfl rfl
theorem g866_82 (hT : zT h a = (8, 29)) : zG d 866 82 L (.ref a :: st) h Q = zG d 866 85 L (.int (zI h a 6) :: st) h Q := g_gI rfl hT
theorem g866_85 : zG d 866 85 L [.int x] h Q = Q (some (.int x)) h := g_rI (ok := fun _ => True) rfl trivial
theorem g866_86 : zG d 866 86 (some (.ref a) :: L) st h Q = zG d 866 87 (some (.ref a) :: L) (.ref a :: st) h Q := g_ldA rfl rfl
theorem g866_87 (hT : zT h a = (8, 29)) : zG d 866 87 L (.ref a :: st) h Q = zG d 866 90 L (.int (zI h a 24) :: st) h Q := g_gI rfl hT
theorem g866_90 : zG d 866 90 L [.int x] h Q = Q (some (.int x)) h := g_rI (ok := fun _ => True) rfl trivial
theorem g866_91 : zG d 866 91 L st h Q = zG d 866 93 L (.int (-2) :: st) h Q := g_c rfl
theorem g866_93 : zG d 866 93 L [.int x] h Q = Q (some (.int x)) h := g_rI (ok := fun _ => True) rfl trivial
theorem k866 {x0 : Int32} : zCall (d + 1) 866 [.ref a, .int x0] h Q = zG d 866 0 [some (.ref a), some (.int x0)] [] h Q := zCall_k (Nat.le_of_ble_eq_true rfl) rfl
theorem g867_0 : zG d 867 0 (some (.int x) :: L) st h Q = zG d 867 1 (some (.int x) :: L) (.int x :: st) h Q := g_ldI rfl rfl
theorem g867_1 : zG d 867 1 L st h Q = zG d 867 2 L (.int 0 :: st) h Q := g_c rfl
theorem g867_2 : zG d 867 2 L st h Q = zG d 867 3 L (.int 5 :: st) h Q := g_c rfl
theorem g867_3 : zG d 867 3 L [v2, v1, v0] h Q = zCall d 802 [v0, v1, v2] h (fun v h1 => zG d 867 6 L (zpush v []) h1 Q) := g_cS rfl rfl (Nat.le_of_ble_eq_true rfl) rfl (Nat.le_of_ble_eq_true rfl)
theorem g867_6 (hx : x = 0 ∨ x = 1) : zG d 867 6 L [.int x] h Q = Q (some (.int x)) h := g_rI (ok := fun x => x = 0 ∨ x = 1) rfl hx
theorem k867 {x0 : Int32} : zCall (d + 1) 867 [.int x0] h Q = zG d 867 0 [some (.int x0)] [] h Q := zCall_k (Nat.le_of_ble_eq_true rfl) rfl
theorem g868_0 : zG d 868 0 (l0 :: some (.int x) :: L) st h Q = zG d 868 1 (l0 :: some (.int x) :: L) (.int x :: st) h Q := g_ldI rfl rfl
theorem g868_1 : zG d 868 1 L [v0] h Q = zCall d 867 [v0] h (fun v h1 => zG d 868 4 L (zpush v []) h1 Q) := g_cS rfl rfl (Nat.le_of_ble_eq_true rfl) rfl (Nat.le_of_ble_eq_true rfl)
theorem g868_4 : zG d 868 4 L (.int x :: st) h Q = if ¬ x = 0 then zG d 868 9 L st h Q else zG d 868 7 L st h Q := g_i1 (P := fun x => ¬ x = 0) rfl
theorem g868_7 : zG d 868 7 L st h Q = zG d 868 8 L (.int (-1) :: st) h Q := g_c rfl
theorem g868_8 : zG d 868 8 L [.int x] h Q = Q (some (.int x)) h := g_rI (ok := fun _ => True) rfl trivial
theorem g868_9 : zG d 868 9 (l0 :: l1 :: some (.int x) :: L) st h Q = zG d 868 10 (l0 :: l1 :: some (.int x) :: L) (.int x :: st) h Q := g_ldI rfl rfl
theorem g868_10 : zG d 868 10 L st h Q = zG d 868 11 L (.int (-1) :: st) h Q := g_c rfl
theorem g868_11 : zG d 868 11 L st h Q = zG d 868 12 L (.int 4 :: st) h Q := g_c rfl
theorem g868_12 : zG d 868 12 L [v2, v1, v0] h Q = zCall d 802 [v0, v1, v2] h (fun v h1 => zG d 868 15 L (zpush v []) h1 Q) := g_cS rfl rfl (Nat.le_of_ble_eq_true rfl) rfl (Nat.le_of_ble_eq_true rfl)
theorem g868_15 : zG d 868 15 L (.int x :: st) h Q = if x = 0 then zG d 868 28 L st h Q else zG d 868 18 L st h Q := g_i1 (P := fun x => x = 0) rfl
theorem g868_18 : zG d 868 18 (l0 :: l1 :: some (.int x) :: L) st h Q = zG d 868 19 (l0 :: l1 :: some (.int x) :: L) (.int x :: st) h Q := g_ldI rfl rfl
theorem g868_19 : zG d 868 19 L (.int x :: st) h Q = if x < 0 then zG d 868 31 L st h Q else zG d 868 22 L st h Q := g_i1 (P := fun x => x < 0) rfl
theorem g868_22 : zG d 868 22 (l0 :: l1 :: l2 :: some (.int x) :: L) st h Q = zG d 868 23 (l0 :: l1 :: l2 :: some (.int x) :: L) (.int x :: st) h Q := g_ldI rfl rfl
theorem g868_23 : zG d 868 23 L st h Q = zG d 868 25 L (.int 60 :: st) h Q := g_c rfl
theorem g868_25 : zG d 868 25 L (.int z :: .int x :: st) h Q = if x ≤ z then zG d 868 31 L st h Q else zG d 868 28 L st h Q := g_i2 (P := fun x z => x ≤ z) rfl
theorem g868_28 : zG d 868 28 L st h Q = zG d 868 30 L (.int (-2) :: st) h Q := g_c rfl
theorem g868_30 : zG d 868 30 L [.int x] h Q = Q (some (.int x)) h := g_rI (ok := fun _ => True) rfl trivial
theorem g868_31 : zG d 868 31 (l0 :: l1 :: some (.int x) :: L) st h Q = zG d 868 32 (l0 :: l1 :: some (.int x) :: L) (.int x :: st) h Q := g_ldI rfl rfl
theorem g868_32 : zG d 868 32 L (.int x :: st) h Q = if x < 0 then zG d 868 42 L st h Q else zG d 868 35 L st h Q := g_i1 (P := fun x => x < 0) rfl
theorem g868_35 : zG d 868 35 (l0 :: l1 :: l2 :: some (.int x) :: L) st h Q = zG d 868 36 (l0 :: l1 :: l2 :: some (.int x) :: L) (.int x :: st) h Q := g_ldI rfl rfl
theorem g868_36 : zG d 868 36 L (.int x :: st) h Q = if 0 ≤ x then zG d 868 42 L st h Q else zG d 868 39 L st h Q := g_i1 (P := fun x => 0 ≤ x) rfl
theorem g868_39 : zG d 868 39 L st h Q = zG d 868 41 L (.int (-14) :: st) h Q := g_c rfl
theorem g868_41 : zG d 868 41 L [.int x] h Q = Q (some (.int x)) h := g_rI (ok := fun _ => True) rfl trivial
theorem g868_42 : zG d 868 42 (some (.ref a) :: L) st h Q = zG d 868 43 (some (.ref a) :: L) (.ref a :: st) h Q := g_ldA rfl rfl
theorem g868_43 (hT : zT h a = (8, 29)) : zG d 868 43 L (.ref a :: st) h Q = zG d 868 46 L (zR h a 25 :: st) h Q := g_gR rfl hT
theorem g868_46 : zG d 868 46 (l0 :: some (.int x) :: L) st h Q = zG d 868 47 (l0 :: some (.int x) :: L) (.int x :: st) h Q := g_ldI rfl rfl
theorem g868_47 : zG d 868 47 (l0 :: l1 :: some (.int x) :: L) st h Q = zG d 868 48 (l0 :: l1 :: some (.int x) :: L) (.int x :: st) h Q := g_ldI rfl rfl
theorem g868_48 (hT : (zT h b).1 = 20) (hi : zin i (zT h b).2) : zG d 868 48 L (.int x :: .int i :: .ref b :: st) h Q = zG d 868 49 L st (wI h b i.toNatClampNeg (x)) Q := g_is (f1 := fun x => x) rfl hT hi
theorem g868_49 : zG d 868 49 (some (.ref a) :: L) st h Q = zG d 868 50 (some (.ref a) :: L) (.ref a :: st) h Q := g_ldA rfl rfl
theorem g868_50 (hT : zT h a = (8, 29)) : zG d 868 50 L (.ref a :: st) h Q = zG d 868 53 L (zR h a 26 :: st) h Q := g_gR rfl hT
theorem g868_53 : zG d 868 53 (l0 :: some (.int x) :: L) st h Q = zG d 868 54 (l0 :: some (.int x) :: L) (.int x :: st) h Q := g_ldI rfl rfl
theorem g868_54 : zG d 868 54 (l0 :: l1 :: some (.int x) :: L) st h Q = zG d 868 55 (l0 :: l1 :: some (.int x) :: L) (.int x :: st) h Q := g_ldI rfl rfl
theorem g868_55 : zG d 868 55 L (.int x :: st) h Q = if 0 ≤ x then zG d 868 62 L st h Q else zG d 868 58 L st h Q := g_i1 (P := fun x => 0 ≤ x) rfl
theorem g868_58 : zG d 868 58 L st h Q = zG d 868 59 L (.int 0 :: st) h Q := g_c rfl
theorem g868_59 : zG d 868 59 L st h Q = zG d 868 63 L st h Q := g_go rfl
theorem g868_62 : zG d 868 62 (l0 :: l1 :: l2 :: some (.int x) :: L) st h Q = zG d 868 63 (l0 :: l1 :: l2 :: some (.int x) :: L) (.int x :: st) h Q := g_ldI rfl rfl
theorem g868_63 (hT : (zT h b).1 = 20) (hi : zin i (zT h b).2) : zG d 868 63 L (.int x :: .int i :: .ref b :: st) h Q = zG d 868 64 L st (wI h b i.toNatClampNeg (x)) Q := g_is (f1 := fun x => x) rfl hT hi
theorem g868_64 : zG d 868 64 L st h Q = zG d 868 65 L (.int 0 :: st) h Q := g_c rfl
theorem g868_65 : zG d 868 65 (l0 :: l1 :: l2 :: l3 :: l4 :: L) (.int x :: st) h Q = zG d 868 67 (l0 :: l1 :: l2 :: kl l3 :: some (.int x) :: L) st h Q := g_stI rfl (by simp) rfl
theorem g868_67 : zG d 868 67 (l0 :: l1 :: l2 :: l3 :: some (.int x) :: L) st h Q = zG d 868 69 (l0 :: l1 :: l2 :: l3 :: some (.int x) :: L) (.int x :: st) h Q := g_ldI rfl rfl
theorem g868_69 : zG d 868 69 L st h Q = zG d 868 71 L (.int 60 :: st) h Q := g_c rfl
theorem g868_71 : zG d 868 71 L (.int z :: .int x :: st) h Q = if z ≤ x then zG d 868 93 L st h Q else zG d 868 74 L st h Q := g_i2 (P := fun x z => z ≤ x) rfl
theorem g868_74 : zG d 868 74 (some (.ref a) :: L) st h Q = zG d 868 75 (some (.ref a) :: L) (.ref a :: st) h Q := g_ldA rfl rfl
theorem g868_75 (hT : zT h a = (8, 29)) : zG d 868 75 L (.ref a :: st) h Q = zG d 868 78 L (zR h a 27 :: st) h Q := g_gR rfl hT
theorem g868_78 : zG d 868 78 L st h Q = zG d 868 80 L (.int 60 :: st) h Q := g_c rfl
theorem g868_80 : zG d 868 80 (l0 :: some (.int x) :: L) st h Q = zG d 868 81 (l0 :: some (.int x) :: L) (.int x :: st) h Q := g_ldI rfl rfl
theorem g868_81 : zG d 868 81 L (.int z :: .int x :: st) h Q = zG d 868 82 L (.int (x * z) :: st) h Q := g_b (f := fun x z => x * z) rfl
theorem g868_82 : zG d 868 82 (l0 :: l1 :: l2 :: l3 :: some (.int x) :: L) st h Q = zG d 868 84 (l0 :: l1 :: l2 :: l3 :: some (.int x) :: L) (.int x :: st) h Q := g_ldI rfl rfl
theorem g868_84 : zG d 868 84 L (.int z :: .int x :: st) h Q = zG d 868 85 L (.int (x + z) :: st) h Q := g_b (f := fun x z => x + z) rfl
theorem g868_85 : zG d 868 85 L st h Q = zG d 868 86 L (.long 0 :: st) h Q := g_c rfl
theorem g868_86 (hT : (zT h b).1 = 24) (hi : zin i (zT h b).2) : zG d 868 86 L (.long u :: .int i :: .ref b :: st) h Q = zG d 868 87 L st (wJ h b i.toNatClampNeg u) Q := g_js rfl hT hi
theorem g868_87 : zG d 868 87 (l0 :: l1 :: l2 :: l3 :: some (.int x) :: L) st h Q = zG d 868 90 (l0 :: l1 :: l2 :: kl l3 :: some (.int (x + 1)) :: L) st h Q := g_inc rfl rfl rfl
theorem g868_90 : zG d 868 90 L st h Q = zG d 868 67 L st h Q := g_go rfl
theorem g868_93 : zG d 868 93 L st h Q = zG d 868 94 L (.int 1 :: st) h Q := g_c rfl
theorem g868_94 : zG d 868 94 L [.int x] h Q = Q (some (.int x)) h := g_rI (ok := fun _ => True) rfl trivial
theorem k868 {x0 : Int32} {x1 : Int32} {x2 : Int32} : zCall (d + 1) 868 [.ref a, .int x0, .int x1, .int x2] h Q = zG d 868 0 [some (.ref a), some (.int x0), some (.int x1), some (.int x2), none] [] h Q := zCall_k (Nat.le_of_ble_eq_true rfl) rfl
theorem g869_0 : zG d 869 0 (l0 :: some (.int x) :: L) st h Q = zG d 869 1 (l0 :: some (.int x) :: L) (.int x :: st) h Q := g_ldI rfl rfl
theorem g869_1 : zG d 869 1 L [v0] h Q = zCall d 867 [v0] h (fun v h1 => zG d 869 4 L (zpush v []) h1 Q) := g_cS rfl rfl (Nat.le_of_ble_eq_true rfl) rfl (Nat.le_of_ble_eq_true rfl)
theorem g869_4 : zG d 869 4 L (.int x :: st) h Q = if ¬ x = 0 then zG d 869 9 L st h Q else zG d 869 7 L st h Q := g_i1 (P := fun x => ¬ x = 0) rfl
theorem g869_7 : zG d 869 7 L st h Q = zG d 869 8 L (.int (-1) :: st) h Q := g_c rfl
theorem g869_8 : zG d 869 8 L [.int x] h Q = Q (some (.int x)) h := g_rI (ok := fun _ => True) rfl trivial
theorem g869_9 : zG d 869 9 (some (.ref a) :: L) st h Q = zG d 869 10 (some (.ref a) :: L) (.ref a :: st) h Q := g_ldA rfl rfl
theorem g869_10 (hT : zT h a = (8, 29)) : zG d 869 10 L (.ref a :: st) h Q = zG d 869 13 L (zR h a 25 :: st) h Q := g_gR rfl hT
theorem g869_13 : zG d 869 13 (l0 :: some (.int x) :: L) st h Q = zG d 869 14 (l0 :: some (.int x) :: L) (.int x :: st) h Q := g_ldI rfl rfl
theorem g869_14 (hT : (zT h b).1 = 20) (hi : zin i (zT h b).2) : zG d 869 14 L (.int i :: .ref b :: st) h Q = zG d 869 15 L (.int (zI h b i.toNatClampNeg) :: st) h Q := g_ia rfl hT hi
theorem g869_15 : zG d 869 15 L (.int x :: st) h Q = if 0 ≤ x then zG d 869 21 L st h Q else zG d 869 18 L st h Q := g_i1 (P := fun x => 0 ≤ x) rfl
theorem g869_18 : zG d 869 18 L st h Q = zG d 869 20 L (.int (-11) :: st) h Q := g_c rfl
theorem g869_20 : zG d 869 20 L [.int x] h Q = Q (some (.int x)) h := g_rI (ok := fun _ => True) rfl trivial
theorem g869_21 : zG d 869 21 (l0 :: l1 :: some (.int x) :: L) st h Q = zG d 869 22 (l0 :: l1 :: some (.int x) :: L) (.int x :: st) h Q := g_ldI rfl rfl
theorem g869_22 : zG d 869 22 L st h Q = zG d 869 23 L (.int 0 :: st) h Q := g_c rfl
theorem g869_23 : zG d 869 23 (some (.ref a) :: L) st h Q = zG d 869 24 (some (.ref a) :: L) (.ref a :: st) h Q := g_ldA rfl rfl
theorem g869_24 (hT : zT h a = (8, 29)) : zG d 869 24 L (.ref a :: st) h Q = zG d 869 27 L (zR h a 26 :: st) h Q := g_gR rfl hT
theorem g869_27 : zG d 869 27 (l0 :: some (.int x) :: L) st h Q = zG d 869 28 (l0 :: some (.int x) :: L) (.int x :: st) h Q := g_ldI rfl rfl
theorem g869_28 (hT : (zT h b).1 = 20) (hi : zin i (zT h b).2) : zG d 869 28 L (.int i :: .ref b :: st) h Q = zG d 869 29 L (.int (zI h b i.toNatClampNeg) :: st) h Q := g_ia rfl hT hi
theorem g869_29 : zG d 869 29 L st h Q = zG d 869 30 L (.int 1 :: st) h Q := g_c rfl
theorem g869_30 : zG d 869 30 L (.int z :: .int x :: st) h Q = zG d 869 31 L (.int (x - z) :: st) h Q := g_b (f := fun x z => x - z) rfl
theorem g869_31 : zG d 869 31 L [v2, v1, v0] h Q = zCall d 802 [v0, v1, v2] h (fun v h1 => zG d 869 34 L (zpush v []) h1 Q) := g_cS rfl rfl (Nat.le_of_ble_eq_true rfl) rfl (Nat.le_of_ble_eq_true rfl)
theorem g869_34 : zG d 869 34 L (.int x :: st) h Q = if ¬ x = 0 then zG d 869 40 L st h Q else zG d 869 37 L st h Q := g_i1 (P := fun x => ¬ x = 0) rfl
theorem g869_37 : zG d 869 37 L st h Q = zG d 869 39 L (.int (-13) :: st) h Q := g_c rfl
theorem g869_39 : zG d 869 39 L [.int x] h Q = Q (some (.int x)) h := g_rI (ok := fun _ => True) rfl trivial
theorem g869_40 : zG d 869 40 (some (.ref a) :: L) st h Q = zG d 869 41 (some (.ref a) :: L) (.ref a :: st) h Q := g_ldA rfl rfl
theorem g869_41 (hT : zT h a = (8, 29)) : zG d 869 41 L (.ref a :: st) h Q = zG d 869 44 L (zR h a 25 :: st) h Q := g_gR rfl hT
theorem g869_44 : zG d 869 44 (l0 :: some (.int x) :: L) st h Q = zG d 869 45 (l0 :: some (.int x) :: L) (.int x :: st) h Q := g_ldI rfl rfl
theorem g869_45 (hT : (zT h b).1 = 20) (hi : zin i (zT h b).2) : zG d 869 45 L (.int i :: .ref b :: st) h Q = zG d 869 46 L (.int (zI h b i.toNatClampNeg) :: st) h Q := g_ia rfl hT hi
theorem g869_46 : zG d 869 46 (l0 :: l1 :: l2 :: l3 :: l4 :: l5 :: L) (.int x :: st) h Q = zG d 869 48 (l0 :: l1 :: l2 :: l3 :: kl l4 :: some (.int x) :: L) st h Q := g_stI rfl (by simp) rfl
theorem g869_48 : zG d 869 48 (some (.ref a) :: L) st h Q = zG d 869 49 (some (.ref a) :: L) (.ref a :: st) h Q := g_ldA rfl rfl
theorem g869_49 (hT : zT h a = (8, 29)) : zG d 869 49 L (.ref a :: st) h Q = zG d 869 52 L (zR h a 27 :: st) h Q := g_gR rfl hT
theorem g869_52 : zG d 869 52 L st h Q = zG d 869 54 L (.int 60 :: st) h Q := g_c rfl
theorem g869_54 : zG d 869 54 (l0 :: some (.int x) :: L) st h Q = zG d 869 55 (l0 :: some (.int x) :: L) (.int x :: st) h Q := g_ldI rfl rfl
theorem g869_55 : zG d 869 55 L (.int z :: .int x :: st) h Q = zG d 869 56 L (.int (x * z) :: st) h Q := g_b (f := fun x z => x * z) rfl
theorem g869_56 : zG d 869 56 (l0 :: l1 :: some (.int x) :: L) st h Q = zG d 869 57 (l0 :: l1 :: some (.int x) :: L) (.int x :: st) h Q := g_ldI rfl rfl
theorem g869_57 : zG d 869 57 L (.int z :: .int x :: st) h Q = zG d 869 58 L (.int (x + z) :: st) h Q := g_b (f := fun x z => x + z) rfl
theorem g869_58 : zG d 869 58 (l0 :: l1 :: l2 :: l3 :: l4 :: some (.int x) :: L) st h Q = zG d 869 60 (l0 :: l1 :: l2 :: l3 :: l4 :: some (.int x) :: L) (.int x :: st) h Q := g_ldI rfl rfl
theorem g869_60 : zG d 869 60 L (.int x :: st) h Q = if ¬ x = 0 then zG d 869 70 L st h Q else zG d 869 63 L st h Q := g_i1 (P := fun x => ¬ x = 0) rfl
theorem g869_63 : zG d 869 63 (l0 :: l1 :: l2 :: some (.long u) :: L) st h Q = zG d 869 64 (l0 :: l1 :: l2 :: some (.long u) :: L) (.long u :: st) h Q := g_ldJ rfl rfl
theorem g869_64 : zG d 869 64 L (.long u :: st) h Q = zG d 869 65 L (.int u.toInt32 :: st) h Q := g_l2i rfl
theorem g869_65 : zG d 869 65 L (.int x :: st) h Q = zG d 869 66 L (.int (x.toInt8.toInt32) :: st) h Q := g_u (f1 := fun x => x.toInt8.toInt32) rfl
theorem g869_66 : zG d 869 66 L (.int x :: st) h Q = zG d 869 67 L (.long x.toInt64 :: st) h Q := g_i2l rfl
theorem g869_67 : zG d 869 67 L st h Q = zG d 869 116 L st h Q := g_go rfl
theorem g869_70 : zG d 869 70 (l0 :: l1 :: l2 :: l3 :: l4 :: some (.int x) :: L) st h Q = zG d 869 72 (l0 :: l1 :: l2 :: l3 :: l4 :: some (.int x) :: L) (.int x :: st) h Q := g_ldI rfl rfl
theorem g869_72 : zG d 869 72 L st h Q = zG d 869 73 L (.int 1 :: st) h Q := g_c rfl
theorem g869_73 : zG d 869 73 L (.int z :: .int x :: st) h Q = if ¬ x = z then zG d 869 83 L st h Q else zG d 869 76 L st h Q := g_i2 (P := fun x z => ¬ x = z) rfl
theorem g869_76 : zG d 869 76 (l0 :: l1 :: l2 :: some (.long u) :: L) st h Q = zG d 869 77 (l0 :: l1 :: l2 :: some (.long u) :: L) (.long u :: st) h Q := g_ldJ rfl rfl
theorem g869_77 : zG d 869 77 L (.long u :: st) h Q = zG d 869 78 L (.int u.toInt32 :: st) h Q := g_l2i rfl
theorem g869_78 : zG d 869 78 L (.int x :: st) h Q = zG d 869 79 L (.int (x.toInt16.toInt32) :: st) h Q := g_u (f1 := fun x => x.toInt16.toInt32) rfl
theorem g869_79 : zG d 869 79 L (.int x :: st) h Q = zG d 869 80 L (.long x.toInt64 :: st) h Q := g_i2l rfl
theorem g869_80 : zG d 869 80 L st h Q = zG d 869 116 L st h Q := g_go rfl
theorem g869_83 : zG d 869 83 (l0 :: l1 :: l2 :: l3 :: l4 :: some (.int x) :: L) st h Q = zG d 869 85 (l0 :: l1 :: l2 :: l3 :: l4 :: some (.int x) :: L) (.int x :: st) h Q := g_ldI rfl rfl
theorem g869_85 : zG d 869 85 L st h Q = zG d 869 86 L (.int 2 :: st) h Q := g_c rfl
theorem g869_86 : zG d 869 86 L (.int z :: .int x :: st) h Q = if ¬ x = z then zG d 869 95 L st h Q else zG d 869 89 L st h Q := g_i2 (P := fun x z => ¬ x = z) rfl
theorem g869_89 : zG d 869 89 (l0 :: l1 :: l2 :: some (.long u) :: L) st h Q = zG d 869 90 (l0 :: l1 :: l2 :: some (.long u) :: L) (.long u :: st) h Q := g_ldJ rfl rfl
theorem g869_90 : zG d 869 90 L (.long u :: st) h Q = zG d 869 91 L (.int u.toInt32 :: st) h Q := g_l2i rfl
theorem g869_91 : zG d 869 91 L (.int x :: st) h Q = zG d 869 92 L (.long x.toInt64 :: st) h Q := g_i2l rfl
theorem g869_92 : zG d 869 92 L st h Q = zG d 869 116 L st h Q := g_go rfl
theorem g869_95 : zG d 869 95 (l0 :: l1 :: l2 :: l3 :: l4 :: some (.int x) :: L) st h Q = zG d 869 97 (l0 :: l1 :: l2 :: l3 :: l4 :: some (.int x) :: L) (.int x :: st) h Q := g_ldI rfl rfl
theorem g869_97 : zG d 869 97 L st h Q = zG d 869 98 L (.int 3 :: st) h Q := g_c rfl
theorem g869_98 : zG d 869 98 L (.int z :: .int x :: st) h Q = if ¬ x = z then zG d 869 105 L st h Q else zG d 869 101 L st h Q := g_i2 (P := fun x z => ¬ x = z) rfl
theorem g869_101 : zG d 869 101 (l0 :: l1 :: l2 :: some (.long u) :: L) st h Q = zG d 869 102 (l0 :: l1 :: l2 :: some (.long u) :: L) (.long u :: st) h Q := g_ldJ rfl rfl
theorem g869_102 : zG d 869 102 L st h Q = zG d 869 116 L st h Q := g_go rfl
theorem g869_105 : zG d 869 105 (l0 :: l1 :: l2 :: some (.long u) :: L) st h Q = zG d 869 106 (l0 :: l1 :: l2 :: some (.long u) :: L) (.long u :: st) h Q := g_ldJ rfl rfl
theorem g869_106 : zG d 869 106 L st h Q = zG d 869 107 L (.long 0 :: st) h Q := g_c rfl
theorem g869_107 : zG d 869 107 L (.long w :: .long u :: st) h Q = zG d 869 108 L (.int (zcmp u w) :: st) h Q := g_lcmp rfl
theorem g869_108 : zG d 869 108 L (.int x :: st) h Q = if x = 0 then zG d 869 115 L st h Q else zG d 869 111 L st h Q := g_i1 (P := fun x => x = 0) rfl
theorem g869_111 : zG d 869 111 L st h Q = zG d 869 112 L (.long 1 :: st) h Q := g_c rfl
theorem g869_112 : zG d 869 112 L st h Q = zG d 869 116 L st h Q := g_go rfl
theorem g869_115 : zG d 869 115 L st h Q = zG d 869 116 L (.long 0 :: st) h Q := g_c rfl
theorem g869_116 (hT : (zT h b).1 = 24) (hi : zin i (zT h b).2) : zG d 869 116 L (.long u :: .int i :: .ref b :: st) h Q = zG d 869 117 L st (wJ h b i.toNatClampNeg u) Q := g_js rfl hT hi
theorem g869_117 : zG d 869 117 L st h Q = zG d 869 118 L (.int 1 :: st) h Q := g_c rfl
theorem g869_118 : zG d 869 118 L [.int x] h Q = Q (some (.int x)) h := g_rI (ok := fun _ => True) rfl trivial
theorem k869 {x0 : Int32} {x1 : Int32} {x2 : Int64} : zCall (d + 1) 869 [.ref a, .int x0, .int x1, .long x2] h Q = zG d 869 0 [some (.ref a), some (.int x0), some (.int x1), some (.long x2), none, none] [] h Q := zCall_k (Nat.le_of_ble_eq_true rfl) rfl
theorem g870_0 : zG d 870 0 (l0 :: some (.int x) :: L) st h Q = zG d 870 1 (l0 :: some (.int x) :: L) (.int x :: st) h Q := g_ldI rfl rfl
theorem g870_1 : zG d 870 1 L [v0] h Q = zCall d 867 [v0] h (fun v h1 => zG d 870 4 L (zpush v []) h1 Q) := g_cS rfl rfl (Nat.le_of_ble_eq_true rfl) rfl (Nat.le_of_ble_eq_true rfl)
theorem g870_4 : zG d 870 4 L (.int x :: st) h Q = if x = 0 then zG d 870 37 L st h Q else zG d 870 7 L st h Q := g_i1 (P := fun x => x = 0) rfl
theorem g870_7 : zG d 870 7 (l0 :: l1 :: some (.int x) :: L) st h Q = zG d 870 8 (l0 :: l1 :: some (.int x) :: L) (.int x :: st) h Q := g_ldI rfl rfl
theorem g870_8 : zG d 870 8 L st h Q = zG d 870 9 L (.int 0 :: st) h Q := g_c rfl
theorem g870_9 : zG d 870 9 (some (.ref a) :: L) st h Q = zG d 870 10 (some (.ref a) :: L) (.ref a :: st) h Q := g_ldA rfl rfl
theorem g870_10 (hT : zT h a = (8, 29)) : zG d 870 10 L (.ref a :: st) h Q = zG d 870 13 L (zR h a 26 :: st) h Q := g_gR rfl hT
theorem g870_13 : zG d 870 13 (l0 :: some (.int x) :: L) st h Q = zG d 870 14 (l0 :: some (.int x) :: L) (.int x :: st) h Q := g_ldI rfl rfl
theorem g870_14 (hT : (zT h b).1 = 20) (hi : zin i (zT h b).2) : zG d 870 14 L (.int i :: .ref b :: st) h Q = zG d 870 15 L (.int (zI h b i.toNatClampNeg) :: st) h Q := g_ia rfl hT hi
theorem g870_15 : zG d 870 15 L st h Q = zG d 870 16 L (.int 1 :: st) h Q := g_c rfl
theorem g870_16 : zG d 870 16 L (.int z :: .int x :: st) h Q = zG d 870 17 L (.int (x - z) :: st) h Q := g_b (f := fun x z => x - z) rfl
theorem g870_17 : zG d 870 17 L [v2, v1, v0] h Q = zCall d 802 [v0, v1, v2] h (fun v h1 => zG d 870 20 L (zpush v []) h1 Q) := g_cS rfl rfl (Nat.le_of_ble_eq_true rfl) rfl (Nat.le_of_ble_eq_true rfl)
theorem g870_20 : zG d 870 20 L (.int x :: st) h Q = if x = 0 then zG d 870 37 L st h Q else zG d 870 23 L st h Q := g_i1 (P := fun x => x = 0) rfl
theorem g870_23 : zG d 870 23 (some (.ref a) :: L) st h Q = zG d 870 24 (some (.ref a) :: L) (.ref a :: st) h Q := g_ldA rfl rfl
theorem g870_24 (hT : zT h a = (8, 29)) : zG d 870 24 L (.ref a :: st) h Q = zG d 870 27 L (zR h a 27 :: st) h Q := g_gR rfl hT
theorem g870_27 : zG d 870 27 L st h Q = zG d 870 29 L (.int 60 :: st) h Q := g_c rfl
theorem g870_29 : zG d 870 29 (l0 :: some (.int x) :: L) st h Q = zG d 870 30 (l0 :: some (.int x) :: L) (.int x :: st) h Q := g_ldI rfl rfl
theorem g870_30 : zG d 870 30 L (.int z :: .int x :: st) h Q = zG d 870 31 L (.int (x * z) :: st) h Q := g_b (f := fun x z => x * z) rfl
theorem g870_31 : zG d 870 31 (l0 :: l1 :: some (.int x) :: L) st h Q = zG d 870 32 (l0 :: l1 :: some (.int x) :: L) (.int x :: st) h Q := g_ldI rfl rfl
theorem g870_32 : zG d 870 32 L (.int z :: .int x :: st) h Q = zG d 870 33 L (.int (x + z) :: st) h Q := g_b (f := fun x z => x + z) rfl
theorem g870_33 (hT : (zT h b).1 = 24) (hi : zin i (zT h b).2) : zG d 870 33 L (.int i :: .ref b :: st) h Q = zG d 870 34 L (.long (zJ h b i.toNatClampNeg) :: st) h Q := g_ja rfl hT hi
theorem g870_34 : zG d 870 34 L st h Q = zG d 870 40 L st h Q := g_go rfl
theorem g870_37 : zG d 870 37 L st h Q = zG d 870 40 L (.long (-9223372036854775808) :: st) h Q := g_c rfl
theorem g870_40 : zG d 870 40 L [.long u] h Q = Q (some (.long u)) h := g_rJ rfl
theorem k870 {x0 : Int32} {x1 : Int32} : zCall (d + 1) 870 [.ref a, .int x0, .int x1] h Q = zG d 870 0 [some (.ref a), some (.int x0), some (.int x1)] [] h Q := zCall_k (Nat.le_of_ble_eq_true rfl) rfl
theorem g871_0 : zG d 871 0 (l0 :: some (.int x) :: L) st h Q = zG d 871 1 (l0 :: some (.int x) :: L) (.int x :: st) h Q := g_ldI rfl rfl
theorem g871_1 : zG d 871 1 L [v0] h Q = zCall d 867 [v0] h (fun v h1 => zG d 871 4 L (zpush v []) h1 Q) := g_cS rfl rfl (Nat.le_of_ble_eq_true rfl) rfl (Nat.le_of_ble_eq_true rfl)
theorem g871_4 : zG d 871 4 L (.int x :: st) h Q = if x = 0 then zG d 871 14 L st h Q else zG d 871 7 L st h Q := g_i1 (P := fun x => x = 0) rfl
theorem g871_7 : zG d 871 7 (l0 :: l1 :: l2 :: some (.int x) :: L) st h Q = zG d 871 8 (l0 :: l1 :: l2 :: some (.int x) :: L) (.int x :: st) h Q := g_ldI rfl rfl
theorem g871_8 : zG d 871 8 L [v0] h Q = zCall d 867 [v0] h (fun v h1 => zG d 871 11 L (zpush v []) h1 Q) := g_cS rfl rfl (Nat.le_of_ble_eq_true rfl) rfl (Nat.le_of_ble_eq_true rfl)
theorem g871_11 : zG d 871 11 L (.int x :: st) h Q = if ¬ x = 0 then zG d 871 16 L st h Q else zG d 871 14 L st h Q := g_i1 (P := fun x => ¬ x = 0) rfl
theorem g871_14 : zG d 871 14 L st h Q = zG d 871 15 L (.int (-1) :: st) h Q := g_c rfl
theorem g871_15 : zG d 871 15 L [.int x] h Q = Q (some (.int x)) h := g_rI (ok := fun _ => True) rfl trivial
theorem g871_16 : zG d 871 16 (some (.ref a) :: L) st h Q = zG d 871 17 (some (.ref a) :: L) (.ref a :: st) h Q := g_ldA rfl rfl
theorem g871_17 (hT : zT h a = (8, 29)) : zG d 871 17 L (.ref a :: st) h Q = zG d 871 20 L (zR h a 25 :: st) h Q := g_gR rfl hT
theorem g871_20 : zG d 871 20 (l0 :: some (.int x) :: L) st h Q = zG d 871 21 (l0 :: some (.int x) :: L) (.int x :: st) h Q := g_ldI rfl rfl
theorem g871_21 (hT : (zT h b).1 = 20) (hi : zin i (zT h b).2) : zG d 871 21 L (.int i :: .ref b :: st) h Q = zG d 871 22 L (.int (zI h b i.toNatClampNeg) :: st) h Q := g_ia rfl hT hi
theorem g871_22 : zG d 871 22 L (.int x :: st) h Q = if x < 0 then zG d 871 34 L st h Q else zG d 871 25 L st h Q := g_i1 (P := fun x => x < 0) rfl
theorem g871_25 : zG d 871 25 (some (.ref a) :: L) st h Q = zG d 871 26 (some (.ref a) :: L) (.ref a :: st) h Q := g_ldA rfl rfl
theorem g871_26 (hT : zT h a = (8, 29)) : zG d 871 26 L (.ref a :: st) h Q = zG d 871 29 L (zR h a 25 :: st) h Q := g_gR rfl hT
theorem g871_29 : zG d 871 29 (l0 :: l1 :: l2 :: some (.int x) :: L) st h Q = zG d 871 30 (l0 :: l1 :: l2 :: some (.int x) :: L) (.int x :: st) h Q := g_ldI rfl rfl
theorem g871_30 (hT : (zT h b).1 = 20) (hi : zin i (zT h b).2) : zG d 871 30 L (.int i :: .ref b :: st) h Q = zG d 871 31 L (.int (zI h b i.toNatClampNeg) :: st) h Q := g_ia rfl hT hi
theorem g871_31 : zG d 871 31 L (.int x :: st) h Q = if 0 ≤ x then zG d 871 37 L st h Q else zG d 871 34 L st h Q := g_i1 (P := fun x => 0 ≤ x) rfl
theorem g871_34 : zG d 871 34 L st h Q = zG d 871 36 L (.int (-11) :: st) h Q := g_c rfl
theorem g871_36 : zG d 871 36 L [.int x] h Q = Q (some (.int x)) h := g_rI (ok := fun _ => True) rfl trivial
theorem g871_37 : zG d 871 37 (some (.ref a) :: L) st h Q = zG d 871 38 (some (.ref a) :: L) (.ref a :: st) h Q := g_ldA rfl rfl
theorem g871_38 (hT : zT h a = (8, 29)) : zG d 871 38 L (.ref a :: st) h Q = zG d 871 41 L (zR h a 25 :: st) h Q := g_gR rfl hT
theorem g871_41 : zG d 871 41 (l0 :: some (.int x) :: L) st h Q = zG d 871 42 (l0 :: some (.int x) :: L) (.int x :: st) h Q := g_ldI rfl rfl
theorem g871_42 (hT : (zT h b).1 = 20) (hi : zin i (zT h b).2) : zG d 871 42 L (.int i :: .ref b :: st) h Q = zG d 871 43 L (.int (zI h b i.toNatClampNeg) :: st) h Q := g_ia rfl hT hi
theorem g871_43 : zG d 871 43 (some (.ref a) :: L) st h Q = zG d 871 44 (some (.ref a) :: L) (.ref a :: st) h Q := g_ldA rfl rfl
theorem g871_44 (hT : zT h a = (8, 29)) : zG d 871 44 L (.ref a :: st) h Q = zG d 871 47 L (zR h a 25 :: st) h Q := g_gR rfl hT
theorem g871_47 : zG d 871 47 (l0 :: l1 :: l2 :: some (.int x) :: L) st h Q = zG d 871 48 (l0 :: l1 :: l2 :: some (.int x) :: L) (.int x :: st) h Q := g_ldI rfl rfl
theorem g871_48 (hT : (zT h b).1 = 20) (hi : zin i (zT h b).2) : zG d 871 48 L (.int i :: .ref b :: st) h Q = zG d 871 49 L (.int (zI h b i.toNatClampNeg) :: st) h Q := g_ia rfl hT hi
theorem g871_49 : zG d 871 49 L (.int z :: .int x :: st) h Q = if x = z then zG d 871 55 L st h Q else zG d 871 52 L st h Q := g_i2 (P := fun x z => x = z) rfl
theorem g871_52 : zG d 871 52 L st h Q = zG d 871 54 L (.int (-12) :: st) h Q := g_c rfl
theorem g871_54 : zG d 871 54 L [.int x] h Q = Q (some (.int x)) h := g_rI (ok := fun _ => True) rfl trivial
theorem g871_55 : zG d 871 55 (l0 :: l1 :: l2 :: l3 :: l4 :: some (.int x) :: L) st h Q = zG d 871 57 (l0 :: l1 :: l2 :: l3 :: l4 :: some (.int x) :: L) (.int x :: st) h Q := g_ldI rfl rfl
theorem g871_57 : zG d 871 57 L (.int x :: st) h Q = if x < 0 then zG d 871 96 L st h Q else zG d 871 60 L st h Q := g_i1 (P := fun x => x < 0) rfl
theorem g871_60 : zG d 871 60 (l0 :: l1 :: some (.int x) :: L) st h Q = zG d 871 61 (l0 :: l1 :: some (.int x) :: L) (.int x :: st) h Q := g_ldI rfl rfl
theorem g871_61 : zG d 871 61 L (.int x :: st) h Q = if x < 0 then zG d 871 96 L st h Q else zG d 871 64 L st h Q := g_i1 (P := fun x => x < 0) rfl
theorem g871_64 : zG d 871 64 (l0 :: l1 :: l2 :: l3 :: some (.int x) :: L) st h Q = zG d 871 66 (l0 :: l1 :: l2 :: l3 :: some (.int x) :: L) (.int x :: st) h Q := g_ldI rfl rfl
theorem g871_66 : zG d 871 66 L (.int x :: st) h Q = if x < 0 then zG d 871 96 L st h Q else zG d 871 69 L st h Q := g_i1 (P := fun x => x < 0) rfl
theorem g871_69 : zG d 871 69 (l0 :: l1 :: l2 :: l3 :: l4 :: some (.int x) :: L) st h Q = zG d 871 71 (l0 :: l1 :: l2 :: l3 :: l4 :: some (.int x) :: L) (.int x :: st) h Q := g_ldI rfl rfl
theorem g871_71 : zG d 871 71 (some (.ref a) :: L) st h Q = zG d 871 72 (some (.ref a) :: L) (.ref a :: st) h Q := g_ldA rfl rfl
theorem g871_72 (hT : zT h a = (8, 29)) : zG d 871 72 L (.ref a :: st) h Q = zG d 871 75 L (zR h a 26 :: st) h Q := g_gR rfl hT
theorem g871_75 : zG d 871 75 (l0 :: some (.int x) :: L) st h Q = zG d 871 76 (l0 :: some (.int x) :: L) (.int x :: st) h Q := g_ldI rfl rfl
theorem g871_76 (hT : (zT h b).1 = 20) (hi : zin i (zT h b).2) : zG d 871 76 L (.int i :: .ref b :: st) h Q = zG d 871 77 L (.int (zI h b i.toNatClampNeg) :: st) h Q := g_ia rfl hT hi
theorem g871_77 : zG d 871 77 (l0 :: l1 :: some (.int x) :: L) st h Q = zG d 871 78 (l0 :: l1 :: some (.int x) :: L) (.int x :: st) h Q := g_ldI rfl rfl
theorem g871_78 : zG d 871 78 L (.int z :: .int x :: st) h Q = zG d 871 79 L (.int (x - z) :: st) h Q := g_b (f := fun x z => x - z) rfl
theorem g871_79 : zG d 871 79 L (.int z :: .int x :: st) h Q = if z < x then zG d 871 96 L st h Q else zG d 871 82 L st h Q := g_i2 (P := fun x z => z < x) rfl
theorem g871_82 : zG d 871 82 (l0 :: l1 :: l2 :: l3 :: l4 :: some (.int x) :: L) st h Q = zG d 871 84 (l0 :: l1 :: l2 :: l3 :: l4 :: some (.int x) :: L) (.int x :: st) h Q := g_ldI rfl rfl
theorem g871_84 : zG d 871 84 (some (.ref a) :: L) st h Q = zG d 871 85 (some (.ref a) :: L) (.ref a :: st) h Q := g_ldA rfl rfl
theorem g871_85 (hT : zT h a = (8, 29)) : zG d 871 85 L (.ref a :: st) h Q = zG d 871 88 L (zR h a 26 :: st) h Q := g_gR rfl hT
theorem g871_88 : zG d 871 88 (l0 :: l1 :: l2 :: some (.int x) :: L) st h Q = zG d 871 89 (l0 :: l1 :: l2 :: some (.int x) :: L) (.int x :: st) h Q := g_ldI rfl rfl
theorem g871_89 (hT : (zT h b).1 = 20) (hi : zin i (zT h b).2) : zG d 871 89 L (.int i :: .ref b :: st) h Q = zG d 871 90 L (.int (zI h b i.toNatClampNeg) :: st) h Q := g_ia rfl hT hi
theorem g871_90 : zG d 871 90 (l0 :: l1 :: l2 :: l3 :: some (.int x) :: L) st h Q = zG d 871 92 (l0 :: l1 :: l2 :: l3 :: some (.int x) :: L) (.int x :: st) h Q := g_ldI rfl rfl
theorem g871_92 : zG d 871 92 L (.int z :: .int x :: st) h Q = zG d 871 93 L (.int (x - z) :: st) h Q := g_b (f := fun x z => x - z) rfl
theorem g871_93 : zG d 871 93 L (.int z :: .int x :: st) h Q = if x ≤ z then zG d 871 99 L st h Q else zG d 871 96 L st h Q := g_i2 (P := fun x z => x ≤ z) rfl
theorem g871_96 : zG d 871 96 L st h Q = zG d 871 98 L (.int (-13) :: st) h Q := g_c rfl
theorem g871_98 : zG d 871 98 L [.int x] h Q = Q (some (.int x)) h := g_rI (ok := fun _ => True) rfl trivial
theorem g871_99 : zG d 871 99 L st h Q = zG d 871 100 L (.int 0 :: st) h Q := g_c rfl
theorem g871_100 : zG d 871 100 (l0 :: l1 :: l2 :: l3 :: l4 :: l5 :: l6 :: L) (.int x :: st) h Q = zG d 871 102 (l0 :: l1 :: l2 :: l3 :: l4 :: kl l5 :: some (.int x) :: L) st h Q := g_stI rfl (by simp) rfl
theorem g871_102 : zG d 871 102 (l0 :: l1 :: l2 :: l3 :: l4 :: l5 :: some (.int x) :: L) st h Q = zG d 871 104 (l0 :: l1 :: l2 :: l3 :: l4 :: l5 :: some (.int x) :: L) (.int x :: st) h Q := g_ldI rfl rfl
theorem g871_104 : zG d 871 104 (l0 :: l1 :: l2 :: l3 :: l4 :: some (.int x) :: L) st h Q = zG d 871 106 (l0 :: l1 :: l2 :: l3 :: l4 :: some (.int x) :: L) (.int x :: st) h Q := g_ldI rfl rfl
theorem g871_106 : zG d 871 106 L (.int z :: .int x :: st) h Q = if z ≤ x then zG d 871 136 L st h Q else zG d 871 109 L st h Q := g_i2 (P := fun x z => z ≤ x) rfl
theorem g871_109 : zG d 871 109 (some (.ref a) :: L) st h Q = zG d 871 110 (some (.ref a) :: L) (.ref a :: st) h Q := g_ldA rfl rfl
theorem g871_110 (hT : zT h a = (8, 29)) : zG d 871 110 L (.ref a :: st) h Q = zG d 871 113 L (zR h a 28 :: st) h Q := g_gR rfl hT
theorem g871_113 : zG d 871 113 (l0 :: l1 :: l2 :: l3 :: l4 :: l5 :: some (.int x) :: L) st h Q = zG d 871 115 (l0 :: l1 :: l2 :: l3 :: l4 :: l5 :: some (.int x) :: L) (.int x :: st) h Q := g_ldI rfl rfl
theorem g871_115 : zG d 871 115 (some (.ref a) :: L) st h Q = zG d 871 116 (some (.ref a) :: L) (.ref a :: st) h Q := g_ldA rfl rfl
theorem g871_116 (hT : zT h a = (8, 29)) : zG d 871 116 L (.ref a :: st) h Q = zG d 871 119 L (zR h a 27 :: st) h Q := g_gR rfl hT
theorem g871_119 : zG d 871 119 L st h Q = zG d 871 121 L (.int 60 :: st) h Q := g_c rfl
theorem g871_121 : zG d 871 121 (l0 :: some (.int x) :: L) st h Q = zG d 871 122 (l0 :: some (.int x) :: L) (.int x :: st) h Q := g_ldI rfl rfl
theorem g871_122 : zG d 871 122 L (.int z :: .int x :: st) h Q = zG d 871 123 L (.int (x * z) :: st) h Q := g_b (f := fun x z => x * z) rfl
theorem g871_123 : zG d 871 123 (l0 :: l1 :: some (.int x) :: L) st h Q = zG d 871 124 (l0 :: l1 :: some (.int x) :: L) (.int x :: st) h Q := g_ldI rfl rfl
theorem g871_124 : zG d 871 124 L (.int z :: .int x :: st) h Q = zG d 871 125 L (.int (x + z) :: st) h Q := g_b (f := fun x z => x + z) rfl
theorem g871_125 : zG d 871 125 (l0 :: l1 :: l2 :: l3 :: l4 :: l5 :: some (.int x) :: L) st h Q = zG d 871 127 (l0 :: l1 :: l2 :: l3 :: l4 :: l5 :: some (.int x) :: L) (.int x :: st) h Q := g_ldI rfl rfl
theorem g871_127 : zG d 871 127 L (.int z :: .int x :: st) h Q = zG d 871 128 L (.int (x + z) :: st) h Q := g_b (f := fun x z => x + z) rfl
theorem g871_128 (hT : (zT h b).1 = 24) (hi : zin i (zT h b).2) : zG d 871 128 L (.int i :: .ref b :: st) h Q = zG d 871 129 L (.long (zJ h b i.toNatClampNeg) :: st) h Q := g_ja rfl hT hi
theorem g871_129 (hT : (zT h b).1 = 24) (hi : zin i (zT h b).2) : zG d 871 129 L (.long u :: .int i :: .ref b :: st) h Q = zG d 871 130 L st (wJ h b i.toNatClampNeg u) Q := g_js rfl hT hi
theorem g871_130 : zG d 871 130 (l0 :: l1 :: l2 :: l3 :: l4 :: l5 :: some (.int x) :: L) st h Q = zG d 871 133 (l0 :: l1 :: l2 :: l3 :: l4 :: kl l5 :: some (.int (x + 1)) :: L) st h Q := g_inc rfl rfl rfl
theorem g871_133 : zG d 871 133 L st h Q = zG d 871 102 L st h Q := g_go rfl
theorem g871_136 : zG d 871 136 L st h Q = zG d 871 137 L (.int 0 :: st) h Q := g_c rfl
theorem g871_137 : zG d 871 137 (l0 :: l1 :: l2 :: l3 :: l4 :: l5 :: l6 :: L) (.int x :: st) h Q = zG d 871 139 (l0 :: l1 :: l2 :: l3 :: l4 :: kl l5 :: some (.int x) :: L) st h Q := g_stI rfl (by simp) rfl
theorem g871_139 : zG d 871 139 (l0 :: l1 :: l2 :: l3 :: l4 :: l5 :: some (.int x) :: L) st h Q = zG d 871 141 (l0 :: l1 :: l2 :: l3 :: l4 :: l5 :: some (.int x) :: L) (.int x :: st) h Q := g_ldI rfl rfl
theorem g871_141 : zG d 871 141 (l0 :: l1 :: l2 :: l3 :: l4 :: some (.int x) :: L) st h Q = zG d 871 143 (l0 :: l1 :: l2 :: l3 :: l4 :: some (.int x) :: L) (.int x :: st) h Q := g_ldI rfl rfl
theorem g871_143 : zG d 871 143 L (.int z :: .int x :: st) h Q = if z ≤ x then zG d 871 174 L st h Q else zG d 871 146 L st h Q := g_i2 (P := fun x z => z ≤ x) rfl
theorem g871_146 : zG d 871 146 (some (.ref a) :: L) st h Q = zG d 871 147 (some (.ref a) :: L) (.ref a :: st) h Q := g_ldA rfl rfl
theorem g871_147 (hT : zT h a = (8, 29)) : zG d 871 147 L (.ref a :: st) h Q = zG d 871 150 L (zR h a 27 :: st) h Q := g_gR rfl hT
theorem g871_150 : zG d 871 150 L st h Q = zG d 871 152 L (.int 60 :: st) h Q := g_c rfl
theorem g871_152 : zG d 871 152 (l0 :: l1 :: l2 :: some (.int x) :: L) st h Q = zG d 871 153 (l0 :: l1 :: l2 :: some (.int x) :: L) (.int x :: st) h Q := g_ldI rfl rfl
theorem g871_153 : zG d 871 153 L (.int z :: .int x :: st) h Q = zG d 871 154 L (.int (x * z) :: st) h Q := g_b (f := fun x z => x * z) rfl
theorem g871_154 : zG d 871 154 (l0 :: l1 :: l2 :: l3 :: some (.int x) :: L) st h Q = zG d 871 156 (l0 :: l1 :: l2 :: l3 :: some (.int x) :: L) (.int x :: st) h Q := g_ldI rfl rfl
theorem g871_156 : zG d 871 156 L (.int z :: .int x :: st) h Q = zG d 871 157 L (.int (x + z) :: st) h Q := g_b (f := fun x z => x + z) rfl
theorem g871_157 : zG d 871 157 (l0 :: l1 :: l2 :: l3 :: l4 :: l5 :: some (.int x) :: L) st h Q = zG d 871 159 (l0 :: l1 :: l2 :: l3 :: l4 :: l5 :: some (.int x) :: L) (.int x :: st) h Q := g_ldI rfl rfl
theorem g871_159 : zG d 871 159 L (.int z :: .int x :: st) h Q = zG d 871 160 L (.int (x + z) :: st) h Q := g_b (f := fun x z => x + z) rfl
theorem g871_160 : zG d 871 160 (some (.ref a) :: L) st h Q = zG d 871 161 (some (.ref a) :: L) (.ref a :: st) h Q := g_ldA rfl rfl
theorem g871_161 (hT : zT h a = (8, 29)) : zG d 871 161 L (.ref a :: st) h Q = zG d 871 164 L (zR h a 28 :: st) h Q := g_gR rfl hT
theorem g871_164 : zG d 871 164 (l0 :: l1 :: l2 :: l3 :: l4 :: l5 :: some (.int x) :: L) st h Q = zG d 871 166 (l0 :: l1 :: l2 :: l3 :: l4 :: l5 :: some (.int x) :: L) (.int x :: st) h Q := g_ldI rfl rfl
theorem g871_166 (hT : (zT h b).1 = 24) (hi : zin i (zT h b).2) : zG d 871 166 L (.int i :: .ref b :: st) h Q = zG d 871 167 L (.long (zJ h b i.toNatClampNeg) :: st) h Q := g_ja rfl hT hi
theorem g871_167 (hT : (zT h b).1 = 24) (hi : zin i (zT h b).2) : zG d 871 167 L (.long u :: .int i :: .ref b :: st) h Q = zG d 871 168 L st (wJ h b i.toNatClampNeg u) Q := g_js rfl hT hi
theorem g871_168 : zG d 871 168 (l0 :: l1 :: l2 :: l3 :: l4 :: l5 :: some (.int x) :: L) st h Q = zG d 871 171 (l0 :: l1 :: l2 :: l3 :: l4 :: kl l5 :: some (.int (x + 1)) :: L) st h Q := g_inc rfl rfl rfl
theorem g871_171 : zG d 871 171 L st h Q = zG d 871 139 L st h Q := g_go rfl
theorem g871_174 : zG d 871 174 (l0 :: l1 :: l2 :: l3 :: l4 :: some (.int x) :: L) st h Q = zG d 871 176 (l0 :: l1 :: l2 :: l3 :: l4 :: some (.int x) :: L) (.int x :: st) h Q := g_ldI rfl rfl
theorem g871_176 : zG d 871 176 L [.int x] h Q = Q (some (.int x)) h := g_rI (ok := fun _ => True) rfl trivial
theorem k871 {x0 : Int32} {x1 : Int32} {x2 : Int32} {x3 : Int32} {x4 : Int32} : zCall (d + 1) 871 [.ref a, .int x0, .int x1, .int x2, .int x3, .int x4] h Q = zG d 871 0 [some (.ref a), some (.int x0), some (.int x1), some (.int x2), some (.int x3), some (.int x4), none] [] h Q := zCall_k (Nat.le_of_ble_eq_true rfl) rfl
theorem g872_0 : zG d 872 0 (l0 :: some (.int x) :: L) st h Q = zG d 872 1 (l0 :: some (.int x) :: L) (.int x :: st) h Q := g_ldI rfl rfl
theorem g872_1 : zG d 872 1 L [v0] h Q = zCall d 867 [v0] h (fun v h1 => zG d 872 4 L (zpush v []) h1 Q) := g_cS rfl rfl (Nat.le_of_ble_eq_true rfl) rfl (Nat.le_of_ble_eq_true rfl)
theorem g872_4 : zG d 872 4 L (.int x :: st) h Q = if ¬ x = 0 then zG d 872 9 L st h Q else zG d 872 7 L st h Q := g_i1 (P := fun x => ¬ x = 0) rfl
theorem g872_7 : zG d 872 7 L st h Q = zG d 872 8 L (.int (-1) :: st) h Q := g_c rfl
theorem g872_8 : zG d 872 8 L [.int x] h Q = Q (some (.int x)) h := g_rI (ok := fun _ => True) rfl trivial
theorem g872_9 : zG d 872 9 (some (.ref a) :: L) st h Q = zG d 872 10 (some (.ref a) :: L) (.ref a :: st) h Q := g_ldA rfl rfl
theorem g872_10 (hT : zT h a = (8, 29)) : zG d 872 10 L (.ref a :: st) h Q = zG d 872 13 L (zR h a 25 :: st) h Q := g_gR rfl hT
theorem g872_13 : zG d 872 13 (l0 :: some (.int x) :: L) st h Q = zG d 872 14 (l0 :: some (.int x) :: L) (.int x :: st) h Q := g_ldI rfl rfl
theorem g872_14 (hT : (zT h b).1 = 20) (hi : zin i (zT h b).2) : zG d 872 14 L (.int i :: .ref b :: st) h Q = zG d 872 15 L (.int (zI h b i.toNatClampNeg) :: st) h Q := g_ia rfl hT hi
theorem g872_15 : zG d 872 15 L st h Q = zG d 872 16 L (.int (-1) :: st) h Q := g_c rfl
theorem g872_16 : zG d 872 16 L (.int z :: .int x :: st) h Q = if x = z then zG d 872 32 L st h Q else zG d 872 19 L st h Q := g_i2 (P := fun x z => x = z) rfl
theorem g872_19 : zG d 872 19 (some (.ref a) :: L) st h Q = zG d 872 20 (some (.ref a) :: L) (.ref a :: st) h Q := g_ldA rfl rfl
theorem g872_20 (hT : zT h a = (8, 29)) : zG d 872 20 L (.ref a :: st) h Q = zG d 872 23 L (zR h a 25 :: st) h Q := g_gR rfl hT
theorem g872_23 : zG d 872 23 (l0 :: some (.int x) :: L) st h Q = zG d 872 24 (l0 :: some (.int x) :: L) (.int x :: st) h Q := g_ldI rfl rfl
theorem g872_24 (hT : (zT h b).1 = 20) (hi : zin i (zT h b).2) : zG d 872 24 L (.int i :: .ref b :: st) h Q = zG d 872 25 L (.int (zI h b i.toNatClampNeg) :: st) h Q := g_ia rfl hT hi
theorem g872_25 : zG d 872 25 L st h Q = zG d 872 26 L (.int 4 :: st) h Q := g_c rfl
theorem g872_26 : zG d 872 26 L (.int z :: .int x :: st) h Q = if x = z then zG d 872 32 L st h Q else zG d 872 29 L st h Q := g_i2 (P := fun x z => x = z) rfl
theorem g872_29 : zG d 872 29 L st h Q = zG d 872 31 L (.int (-12) :: st) h Q := g_c rfl
theorem g872_31 : zG d 872 31 L [.int x] h Q = Q (some (.int x)) h := g_rI (ok := fun _ => True) rfl trivial
theorem g872_32 : zG d 872 32 L st h Q = zG d 872 33 L (.int 0 :: st) h Q := g_c rfl
theorem g872_33 : zG d 872 33 (l0 :: l1 :: l2 :: l3 :: L) (.int x :: st) h Q = zG d 872 34 (l0 :: l1 :: kl l2 :: some (.int x) :: L) st h Q := g_stI rfl (by simp) rfl
theorem g872_34 : zG d 872 34 (l0 :: l1 :: l2 :: some (.int x) :: L) st h Q = zG d 872 35 (l0 :: l1 :: l2 :: some (.int x) :: L) (.int x :: st) h Q := g_ldI rfl rfl
theorem g872_35 : zG d 872 35 (some (.ref a) :: L) st h Q = zG d 872 36 (some (.ref a) :: L) (.ref a :: st) h Q := g_ldA rfl rfl
theorem g872_36 (hT : zT h a = (8, 29)) : zG d 872 36 L (.ref a :: st) h Q = zG d 872 39 L (zR h a 0 :: st) h Q := g_gR rfl hT
theorem g872_39 : zG d 872 39 L st h Q = zG d 872 41 L (.int 60 :: st) h Q := g_c rfl
theorem g872_41 (hT : (zT h b).1 = 20) (hi : zin i (zT h b).2) : zG d 872 41 L (.int i :: .ref b :: st) h Q = zG d 872 42 L (.int (zI h b i.toNatClampNeg) :: st) h Q := g_ia rfl hT hi
theorem g872_42 : zG d 872 42 L (.int z :: .int x :: st) h Q = if z ≤ x then zG d 872 106 L st h Q else zG d 872 45 L st h Q := g_i2 (P := fun x z => z ≤ x) rfl
theorem g872_45 : zG d 872 45 (l0 :: l1 :: some (.int x) :: L) st h Q = zG d 872 46 (l0 :: l1 :: some (.int x) :: L) (.int x :: st) h Q := g_ldI rfl rfl
theorem g872_46 : zG d 872 46 L (.int x :: st) h Q = zG d 872 47 L (.long x.toInt64 :: st) h Q := g_i2l rfl
theorem g872_47 : zG d 872 47 (l0 :: l1 :: l2 :: some (.int x) :: L) st h Q = zG d 872 48 (l0 :: l1 :: l2 :: some (.int x) :: L) (.int x :: st) h Q := g_ldI rfl rfl
theorem g872_48 : zG d 872 48 L (.int x :: st) h Q = zG d 872 49 L (.long x.toInt64 :: st) h Q := g_i2l rfl
theorem g872_49 : zG d 872 49 L (.long w :: .long u :: st) h Q = zG d 872 50 L (.long (u + w) :: st) h Q := g_lb (fl := fun u w => u + w) rfl
theorem g872_50 : zG d 872 50 (l0 :: l1 :: l2 :: l3 :: l4 :: l5 :: L) (.long u :: st) h Q = zG d 872 52 (l0 :: l1 :: l2 :: kl l3 :: some (.long u) :: none :: L) st h Q := g_stJ rfl (by simp) rfl
theorem g872_52 : zG d 872 52 (l0 :: l1 :: some (.int x) :: L) st h Q = zG d 872 53 (l0 :: l1 :: some (.int x) :: L) (.int x :: st) h Q := g_ldI rfl rfl
theorem g872_53 : zG d 872 53 L (.int x :: st) h Q = if x < 0 then zG d 872 69 L st h Q else zG d 872 56 L st h Q := g_i1 (P := fun x => x < 0) rfl
theorem g872_56 : zG d 872 56 (l0 :: l1 :: l2 :: l3 :: some (.long u) :: L) st h Q = zG d 872 58 (l0 :: l1 :: l2 :: l3 :: some (.long u) :: L) (.long u :: st) h Q := g_ldJ rfl rfl
theorem g872_58 : zG d 872 58 (some (.ref a) :: L) st h Q = zG d 872 59 (some (.ref a) :: L) (.ref a :: st) h Q := g_ldA rfl rfl
theorem g872_59 (hT : zT h a = (8, 29)) : zG d 872 59 L (.ref a :: st) h Q = zG d 872 62 L (zR h a 26 :: st) h Q := g_gR rfl hT
theorem g872_62 : zG d 872 62 (l0 :: some (.int x) :: L) st h Q = zG d 872 63 (l0 :: some (.int x) :: L) (.int x :: st) h Q := g_ldI rfl rfl
theorem g872_63 (hT : (zT h b).1 = 20) (hi : zin i (zT h b).2) : zG d 872 63 L (.int i :: .ref b :: st) h Q = zG d 872 64 L (.int (zI h b i.toNatClampNeg) :: st) h Q := g_ia rfl hT hi
theorem g872_64 : zG d 872 64 L (.int x :: st) h Q = zG d 872 65 L (.long x.toInt64 :: st) h Q := g_i2l rfl
theorem g872_65 : zG d 872 65 L (.long w :: .long u :: st) h Q = zG d 872 66 L (.int (zcmp u w) :: st) h Q := g_lcmp rfl
theorem g872_66 : zG d 872 66 L (.int x :: st) h Q = if x < 0 then zG d 872 74 L st h Q else zG d 872 69 L st h Q := g_i1 (P := fun x => x < 0) rfl
theorem g872_69 : zG d 872 69 L st h Q = zG d 872 71 L (.int 100 :: st) h Q := g_c rfl
theorem g872_71 : zG d 872 71 (l0 :: l1 :: l2 :: some (.int x) :: L) st h Q = zG d 872 72 (l0 :: l1 :: l2 :: some (.int x) :: L) (.int x :: st) h Q := g_ldI rfl rfl
theorem g872_72 : zG d 872 72 L (.int z :: .int x :: st) h Q = zG d 872 73 L (.int (x + z) :: st) h Q := g_b (f := fun x z => x + z) rfl
theorem g872_73 : zG d 872 73 L [.int x] h Q = Q (some (.int x)) h := g_rI (ok := fun _ => True) rfl trivial
theorem g872_74 : zG d 872 74 (some (.ref a) :: L) st h Q = zG d 872 75 (some (.ref a) :: L) (.ref a :: st) h Q := g_ldA rfl rfl
theorem g872_75 (hT : zT h a = (8, 29)) : zG d 872 75 L (.ref a :: st) h Q = zG d 872 78 L (zR h a 27 :: st) h Q := g_gR rfl hT
theorem g872_78 : zG d 872 78 L st h Q = zG d 872 80 L (.int 60 :: st) h Q := g_c rfl
theorem g872_80 : zG d 872 80 (l0 :: some (.int x) :: L) st h Q = zG d 872 81 (l0 :: some (.int x) :: L) (.int x :: st) h Q := g_ldI rfl rfl
theorem g872_81 : zG d 872 81 L (.int z :: .int x :: st) h Q = zG d 872 82 L (.int (x * z) :: st) h Q := g_b (f := fun x z => x * z) rfl
theorem g872_82 : zG d 872 82 (l0 :: l1 :: l2 :: l3 :: some (.long u) :: L) st h Q = zG d 872 84 (l0 :: l1 :: l2 :: l3 :: some (.long u) :: L) (.long u :: st) h Q := g_ldJ rfl rfl
theorem g872_84 : zG d 872 84 L (.long u :: st) h Q = zG d 872 85 L (.int u.toInt32 :: st) h Q := g_l2i rfl
theorem g872_85 : zG d 872 85 L (.int z :: .int x :: st) h Q = zG d 872 86 L (.int (x + z) :: st) h Q := g_b (f := fun x z => x + z) rfl
theorem g872_86 (hT : (zT h b).1 = 24) (hi : zin i (zT h b).2) : zG d 872 86 L (.int i :: .ref b :: st) h Q = zG d 872 87 L (.long (zJ h b i.toNatClampNeg) :: st) h Q := g_ja rfl hT hi
theorem g872_87 : zG d 872 87 (some (.ref a) :: L) st h Q = zG d 872 88 (some (.ref a) :: L) (.ref a :: st) h Q := g_ldA rfl rfl
theorem g872_88 : zG d 872 88 (l0 :: l1 :: l2 :: some (.int x) :: L) st h Q = zG d 872 89 (l0 :: l1 :: l2 :: some (.int x) :: L) (.int x :: st) h Q := g_ldI rfl rfl
theorem g872_89 : zG d 872 89 L st h Q = zG d 872 90 L (.int 4 :: st) h Q := g_c rfl
theorem g872_90 {s0 : Int64} (hT : (zT h a).1 = 8) : zG d 872 90 L [v1, v0, .ref a, .long s0] h Q = zCall d 808 [.ref a, v0, v1] h (fun v h1 => zG d 872 93 L (zpush v [.long s0]) h1 Q) := g_cV rfl rfl rfl rfl (Nat.le_of_ble_eq_true rfl) hT
theorem g872_93 : zG d 872 93 L (.int x :: st) h Q = zG d 872 94 L (.long x.toInt64 :: st) h Q := g_i2l rfl
theorem g872_94 : zG d 872 94 L (.long w :: .long u :: st) h Q = zG d 872 95 L (.int (zcmp u w) :: st) h Q := g_lcmp rfl
theorem g872_95 : zG d 872 95 L (.int x :: st) h Q = if x = 0 then zG d 872 100 L st h Q else zG d 872 98 L st h Q := g_i1 (P := fun x => x = 0) rfl
theorem g872_98 : zG d 872 98 (l0 :: l1 :: l2 :: some (.int x) :: L) st h Q = zG d 872 99 (l0 :: l1 :: l2 :: some (.int x) :: L) (.int x :: st) h Q := g_ldI rfl rfl
theorem g872_99 : zG d 872 99 L [.int x] h Q = Q (some (.int x)) h := g_rI (ok := fun _ => True) rfl trivial
theorem g872_100 : zG d 872 100 (l0 :: l1 :: l2 :: some (.int x) :: L) st h Q = zG d 872 103 (l0 :: l1 :: kl l2 :: some (.int (x + 1)) :: L) st h Q := g_inc rfl rfl rfl
theorem g872_103 : zG d 872 103 L st h Q = zG d 872 34 L st h Q := g_go rfl
theorem g872_106 : zG d 872 106 L st h Q = zG d 872 108 L (.int (-5) :: st) h Q := g_c rfl
theorem g872_108 : zG d 872 108 L [.int x] h Q = Q (some (.int x)) h := g_rI (ok := fun _ => True) rfl trivial
theorem k872 {x0 : Int32} {x1 : Int32} : zCall (d + 1) 872 [.ref a, .int x0, .int x1] h Q = zG d 872 0 [some (.ref a), some (.int x0), some (.int x1), none, none, none] [] h Q := zCall_k (Nat.le_of_ble_eq_true rfl) rfl
