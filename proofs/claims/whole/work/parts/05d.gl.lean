/-! one instruction as an equation, method by method -/
variable {d a b : Nat} {L : zL} {st : List Value} {h : zH} {Q : zQq} {x z i : Int32} {u w : Int64} {v0 v1 v2 v3 v4 v5 : Value} {l0 l1 l2 l3 l4 l5 l6 l7 l8 l9 l10 l11 l12 : Option Value}
theorem g1301_0 : zG d 1301 0 L st h Q = zG d 1301 3 L (.ref (zN h) :: st) (wN h (7, 10)) Q := g_new rfl
theorem g1301_3 : zG d 1301 3 L (.ref a :: st) h Q = zG d 1301 4 L (.ref a :: .ref a :: st) h Q := g_dupA rfl
theorem g1301_4 {s0 : Nat} (hT : (zT h a).1 < 20) : zG d 1301 4 L [.ref a, .ref s0] h Q = zCall d 701 [.ref a] h (fun v h1 => zG d 1301 7 L (zpush v [.ref s0]) h1 Q) := g_cI rfl rfl rfl rfl (Nat.le_of_ble_eq_true rfl) hT
theorem g1301_7 : zG d 1301 7 (l0 :: l1 :: L) (.ref a :: st) h Q = zG d 1301 8 (kl l0 :: some (.ref a) :: L) st h Q := g_stA rfl (by simp) rfl
theorem g1301_8 : zG d 1301 8 L st h Q = zG d 1301 11 L (.ref (zN h) :: st) (wN h (8, 29)) Q := g_new rfl
theorem g1301_11 : zG d 1301 11 L (.ref a :: st) h Q = zG d 1301 12 L (.ref a :: .ref a :: st) h Q := g_dupA rfl
theorem g1301_12 {s0 : Nat} (hT : (zT h a).1 < 20) : zG d 1301 12 L [.ref a, .ref s0] h Q = zCall d 801 [.ref a] h (fun v h1 => zG d 1301 15 L (zpush v [.ref s0]) h1 Q) := g_cI rfl rfl rfl rfl (Nat.le_of_ble_eq_true rfl) hT
theorem g1301_15 : zG d 1301 15 (l0 :: l1 :: l2 :: L) (.ref a :: st) h Q = zG d 1301 16 (l0 :: kl l1 :: some (.ref a) :: L) st h Q := g_stA rfl (by simp) rfl
theorem g1301_16 : zG d 1301 16 L st h Q = zG d 1301 17 L (.int 0 :: st) h Q := g_c rfl
theorem g1301_17 : zG d 1301 17 (l0 :: l1 :: l2 :: l3 :: L) (.int x :: st) h Q = zG d 1301 18 (l0 :: l1 :: kl l2 :: some (.int x) :: L) st h Q := g_stI rfl (by simp) rfl
theorem g1301_18 : zG d 1301 18 (l0 :: l1 :: l2 :: some (.int x) :: L) st h Q = zG d 1301 19 (l0 :: l1 :: l2 :: some (.int x) :: L) (.int x :: st) h Q := g_ldI rfl rfl
theorem g1301_19 : zG d 1301 19 (some (.ref a) :: L) st h Q = zG d 1301 20 (some (.ref a) :: L) (.ref a :: st) h Q := g_ldA rfl rfl
theorem g1301_20 (hT : (zT h b).1 = 30) : zG d 1301 20 L (.ref b :: st) h Q = zG d 1301 21 L (.int (Int32.ofNat (zT h b).2) :: st) h Q := g_len rfl hT
theorem g1301_21 : zG d 1301 21 L st h Q = zG d 1301 23 L (.int 6 :: st) h Q := g_c rfl
theorem g1301_23 : zG d 1301 23 L (.int z :: .int x :: st) h Q = zG d 1301 24 L (.int (x - z) :: st) h Q := g_b (f := fun x z => x - z) rfl
theorem g1301_24 : zG d 1301 24 L (.int z :: .int x :: st) h Q = if z < x then zG d 1301 1257 L st h Q else zG d 1301 27 L st h Q := g_i2 (P := fun x z => z < x) rfl
theorem g1301_27 : zG d 1301 27 (some (.ref a) :: L) st h Q = zG d 1301 28 (some (.ref a) :: L) (.ref a :: st) h Q := g_ldA rfl rfl
theorem g1301_28 : zG d 1301 28 (l0 :: l1 :: l2 :: some (.int x) :: L) st h Q = zG d 1301 29 (l0 :: l1 :: l2 :: some (.int x) :: L) (.int x :: st) h Q := g_ldI rfl rfl
theorem g1301_29 (hT : (zT h b).1 = 30) (hi : zin i (zT h b).2) : zG d 1301 29 L (.int i :: .ref b :: st) h Q = zG d 1301 30 L (.int (zI h b i.toNatClampNeg) :: st) h Q := g_ia rfl hT hi
theorem g1301_30 : zG d 1301 30 L st h Q = zG d 1301 32 L (.int 31 :: st) h Q := g_c rfl
theorem g1301_32 : zG d 1301 32 L (.int z :: .int x :: st) h Q = zG d 1301 33 L (.int (x &&& z) :: st) h Q := g_b (f := fun x z => x &&& z) rfl
theorem g1301_33 : zG d 1301 33 L (.int x :: st) h Q = if x = 0 then zG d 1301 176 L st h Q else if x = 1 then zG d 1301 229 L st h Q else if x = 2 then zG d 1301 262 L st h Q else if x = 3 then zG d 1301 305 L st h Q else if x = 4 then zG d 1301 354 L st h Q else if x = 5 then zG d 1301 377 L st h Q else if x = 6 then zG d 1301 420 L st h Q else if x = 7 then zG d 1301 443 L st h Q else if x = 8 then zG d 1301 456 L st h Q else if x = 9 then zG d 1301 479 L st h Q else if x = 10 then zG d 1301 502 L st h Q else if x = 11 then zG d 1301 535 L st h Q else if x = 12 then zG d 1301 568 L st h Q else if x = 13 then zG d 1301 611 L st h Q else if x = 14 then zG d 1301 654 L st h Q else if x = 15 then zG d 1301 677 L st h Q else if x = 16 then zG d 1301 721 L st h Q else if x = 17 then zG d 1301 755 L st h Q else if x = 18 then zG d 1301 788 L st h Q else if x = 19 then zG d 1301 811 L st h Q else if x = 20 then zG d 1301 844 L st h Q else if x = 21 then zG d 1301 857 L st h Q else if x = 22 then zG d 1301 890 L st h Q else if x = 23 then zG d 1301 903 L st h Q else if x = 24 then zG d 1301 916 L st h Q else if x = 25 then zG d 1301 959 L st h Q else if x = 26 then zG d 1301 982 L st h Q else if x = 27 then zG d 1301 1015 L st h Q else if x = 28 then zG d 1301 1038 L st h Q else if x = 29 then zG d 1301 1081 L st h Q else if x = 30 then zG d 1301 1154 L st h Q else if x = 31 then zG d 1301 1188 L st h Q else zG d 1301 1251 L st h Q := g_sw (c := 1251) (ps := [(0, 176), (1, 229), (2, 262), (3, 305), (4, 354), (5, 377), (6, 420), (7, 443), (8, 456), (9, 479), (10, 502), (11, 535), (12, 568), (13, 611), (14, 654), (15, 677), (16, 721), (17, 755), (18, 788), (19, 811), (20, 844), (21, 857), (22, 890), (23, 903), (24, 916), (25, 959), (26, 982), (27, 1015), (28, 1038), (29, 1081), (30, 1154), (31, 1188)]) rfl
theorem g1301_176 : zG d 1301 176 (l0 :: some (.ref a) :: L) st h Q = zG d 1301 177 (l0 :: some (.ref a) :: L) (.ref a :: st) h Q := g_ldA rfl rfl
theorem g1301_177 : zG d 1301 177 (some (.ref a) :: L) st h Q = zG d 1301 178 (some (.ref a) :: L) (.ref a :: st) h Q := g_ldA rfl rfl
theorem g1301_178 : zG d 1301 178 (l0 :: l1 :: l2 :: some (.int x) :: L) st h Q = zG d 1301 179 (l0 :: l1 :: l2 :: some (.int x) :: L) (.int x :: st) h Q := g_ldI rfl rfl
theorem g1301_179 : zG d 1301 179 L st h Q = zG d 1301 180 L (.int 1 :: st) h Q := g_c rfl
theorem g1301_180 : zG d 1301 180 L (.int z :: .int x :: st) h Q = zG d 1301 181 L (.int (x + z) :: st) h Q := g_b (f := fun x z => x + z) rfl
theorem g1301_181 (hT : (zT h b).1 = 30) (hi : zin i (zT h b).2) : zG d 1301 181 L (.int i :: .ref b :: st) h Q = zG d 1301 182 L (.int (zI h b i.toNatClampNeg) :: st) h Q := g_ia rfl hT hi
theorem g1301_182 : zG d 1301 182 (some (.ref a) :: L) st h Q = zG d 1301 183 (some (.ref a) :: L) (.ref a :: st) h Q := g_ldA rfl rfl
theorem g1301_183 : zG d 1301 183 (l0 :: l1 :: l2 :: some (.int x) :: L) st h Q = zG d 1301 184 (l0 :: l1 :: l2 :: some (.int x) :: L) (.int x :: st) h Q := g_ldI rfl rfl
theorem g1301_184 : zG d 1301 184 L st h Q = zG d 1301 185 L (.int 2 :: st) h Q := g_c rfl
theorem g1301_185 : zG d 1301 185 L (.int z :: .int x :: st) h Q = zG d 1301 186 L (.int (x + z) :: st) h Q := g_b (f := fun x z => x + z) rfl
theorem g1301_186 (hT : (zT h b).1 = 30) (hi : zin i (zT h b).2) : zG d 1301 186 L (.int i :: .ref b :: st) h Q = zG d 1301 187 L (.int (zI h b i.toNatClampNeg) :: st) h Q := g_ia rfl hT hi
theorem g1301_187 : zG d 1301 187 (some (.ref a) :: L) st h Q = zG d 1301 188 (some (.ref a) :: L) (.ref a :: st) h Q := g_ldA rfl rfl
theorem g1301_188 : zG d 1301 188 (l0 :: l1 :: l2 :: some (.int x) :: L) st h Q = zG d 1301 189 (l0 :: l1 :: l2 :: some (.int x) :: L) (.int x :: st) h Q := g_ldI rfl rfl
theorem g1301_189 : zG d 1301 189 L st h Q = zG d 1301 190 L (.int 3 :: st) h Q := g_c rfl
theorem g1301_190 : zG d 1301 190 L (.int z :: .int x :: st) h Q = zG d 1301 191 L (.int (x + z) :: st) h Q := g_b (f := fun x z => x + z) rfl
theorem g1301_191 (hT : (zT h b).1 = 30) (hi : zin i (zT h b).2) : zG d 1301 191 L (.int i :: .ref b :: st) h Q = zG d 1301 192 L (.int (zI h b i.toNatClampNeg) :: st) h Q := g_ia rfl hT hi
theorem g1301_192 : zG d 1301 192 (some (.ref a) :: L) st h Q = zG d 1301 193 (some (.ref a) :: L) (.ref a :: st) h Q := g_ldA rfl rfl
theorem g1301_193 : zG d 1301 193 (l0 :: l1 :: l2 :: some (.int x) :: L) st h Q = zG d 1301 194 (l0 :: l1 :: l2 :: some (.int x) :: L) (.int x :: st) h Q := g_ldI rfl rfl
theorem g1301_194 : zG d 1301 194 L st h Q = zG d 1301 195 L (.int 4 :: st) h Q := g_c rfl
theorem g1301_195 : zG d 1301 195 L (.int z :: .int x :: st) h Q = zG d 1301 196 L (.int (x + z) :: st) h Q := g_b (f := fun x z => x + z) rfl
theorem g1301_196 (hT : (zT h b).1 = 30) (hi : zin i (zT h b).2) : zG d 1301 196 L (.int i :: .ref b :: st) h Q = zG d 1301 197 L (.int (zI h b i.toNatClampNeg) :: st) h Q := g_ia rfl hT hi
theorem g1301_197 (hT : (zT h a).1 = 7) : zG d 1301 197 L [v3, v2, v1, v0, .ref a] h Q = zCall d 702 [.ref a, v0, v1, v2, v3] h (fun v h1 => zG d 1301 200 L (zpush v []) h1 Q) := g_cV rfl rfl rfl rfl (Nat.le_of_ble_eq_true rfl) hT
theorem g1301_200 : zG d 1301 200 (l0 :: l1 :: some (.ref a) :: L) st h Q = zG d 1301 201 (l0 :: l1 :: some (.ref a) :: L) (.ref a :: st) h Q := g_ldA rfl rfl
theorem g1301_201 : zG d 1301 201 (some (.ref a) :: L) st h Q = zG d 1301 202 (some (.ref a) :: L) (.ref a :: st) h Q := g_ldA rfl rfl
theorem g1301_202 : zG d 1301 202 (l0 :: l1 :: l2 :: some (.int x) :: L) st h Q = zG d 1301 203 (l0 :: l1 :: l2 :: some (.int x) :: L) (.int x :: st) h Q := g_ldI rfl rfl
theorem g1301_203 : zG d 1301 203 L st h Q = zG d 1301 204 L (.int 1 :: st) h Q := g_c rfl
theorem g1301_204 : zG d 1301 204 L (.int z :: .int x :: st) h Q = zG d 1301 205 L (.int (x + z) :: st) h Q := g_b (f := fun x z => x + z) rfl
theorem g1301_205 (hT : (zT h b).1 = 30) (hi : zin i (zT h b).2) : zG d 1301 205 L (.int i :: .ref b :: st) h Q = zG d 1301 206 L (.int (zI h b i.toNatClampNeg) :: st) h Q := g_ia rfl hT hi
theorem g1301_206 : zG d 1301 206 (some (.ref a) :: L) st h Q = zG d 1301 207 (some (.ref a) :: L) (.ref a :: st) h Q := g_ldA rfl rfl
theorem g1301_207 : zG d 1301 207 (l0 :: l1 :: l2 :: some (.int x) :: L) st h Q = zG d 1301 208 (l0 :: l1 :: l2 :: some (.int x) :: L) (.int x :: st) h Q := g_ldI rfl rfl
theorem g1301_208 : zG d 1301 208 L st h Q = zG d 1301 209 L (.int 2 :: st) h Q := g_c rfl
theorem g1301_209 : zG d 1301 209 L (.int z :: .int x :: st) h Q = zG d 1301 210 L (.int (x + z) :: st) h Q := g_b (f := fun x z => x + z) rfl
theorem g1301_210 (hT : (zT h b).1 = 30) (hi : zin i (zT h b).2) : zG d 1301 210 L (.int i :: .ref b :: st) h Q = zG d 1301 211 L (.int (zI h b i.toNatClampNeg) :: st) h Q := g_ia rfl hT hi
theorem g1301_211 : zG d 1301 211 (some (.ref a) :: L) st h Q = zG d 1301 212 (some (.ref a) :: L) (.ref a :: st) h Q := g_ldA rfl rfl
theorem g1301_212 : zG d 1301 212 (l0 :: l1 :: l2 :: some (.int x) :: L) st h Q = zG d 1301 213 (l0 :: l1 :: l2 :: some (.int x) :: L) (.int x :: st) h Q := g_ldI rfl rfl
theorem g1301_213 : zG d 1301 213 L st h Q = zG d 1301 214 L (.int 3 :: st) h Q := g_c rfl
theorem g1301_214 : zG d 1301 214 L (.int z :: .int x :: st) h Q = zG d 1301 215 L (.int (x + z) :: st) h Q := g_b (f := fun x z => x + z) rfl
theorem g1301_215 (hT : (zT h b).1 = 30) (hi : zin i (zT h b).2) : zG d 1301 215 L (.int i :: .ref b :: st) h Q = zG d 1301 216 L (.int (zI h b i.toNatClampNeg) :: st) h Q := g_ia rfl hT hi
theorem g1301_216 : zG d 1301 216 (some (.ref a) :: L) st h Q = zG d 1301 217 (some (.ref a) :: L) (.ref a :: st) h Q := g_ldA rfl rfl
theorem g1301_217 : zG d 1301 217 (l0 :: l1 :: l2 :: some (.int x) :: L) st h Q = zG d 1301 218 (l0 :: l1 :: l2 :: some (.int x) :: L) (.int x :: st) h Q := g_ldI rfl rfl
theorem g1301_218 : zG d 1301 218 L st h Q = zG d 1301 219 L (.int 4 :: st) h Q := g_c rfl
theorem g1301_219 : zG d 1301 219 L (.int z :: .int x :: st) h Q = zG d 1301 220 L (.int (x + z) :: st) h Q := g_b (f := fun x z => x + z) rfl
theorem g1301_220 (hT : (zT h b).1 = 30) (hi : zin i (zT h b).2) : zG d 1301 220 L (.int i :: .ref b :: st) h Q = zG d 1301 221 L (.int (zI h b i.toNatClampNeg) :: st) h Q := g_ia rfl hT hi
theorem g1301_221 {s0 : Int32} (hT : (zT h a).1 = 8) : zG d 1301 221 L [v3, v2, v1, v0, .ref a, .int s0] h Q = zCall d 810 [.ref a, v0, v1, v2, v3] h (fun v h1 => zG d 1301 224 L (zpush v [.int s0]) h1 Q) := g_cV rfl rfl rfl rfl (Nat.le_of_ble_eq_true rfl) hT
theorem g1301_224 : zG d 1301 224 L (.int z :: .int x :: st) h Q = if x = z then zG d 1301 1251 L st h Q else zG d 1301 227 L st h Q := g_i2 (P := fun x z => x = z) rfl
theorem g1301_227 : zG d 1301 227 L st h Q = zG d 1301 228 L (.int 0 :: st) h Q := g_c rfl
theorem g1301_228 (hx : x = 0 ∨ x = 1) : zG d 1301 228 L [.int x] h Q = Q (some (.int x)) h := g_rI (ok := fun x => x = 0 ∨ x = 1) rfl hx
theorem g1301_229 : zG d 1301 229 (l0 :: some (.ref a) :: L) st h Q = zG d 1301 230 (l0 :: some (.ref a) :: L) (.ref a :: st) h Q := g_ldA rfl rfl
theorem g1301_230 : zG d 1301 230 (some (.ref a) :: L) st h Q = zG d 1301 231 (some (.ref a) :: L) (.ref a :: st) h Q := g_ldA rfl rfl
theorem g1301_231 : zG d 1301 231 (l0 :: l1 :: l2 :: some (.int x) :: L) st h Q = zG d 1301 232 (l0 :: l1 :: l2 :: some (.int x) :: L) (.int x :: st) h Q := g_ldI rfl rfl
theorem g1301_232 : zG d 1301 232 L st h Q = zG d 1301 233 L (.int 1 :: st) h Q := g_c rfl
theorem g1301_233 : zG d 1301 233 L (.int z :: .int x :: st) h Q = zG d 1301 234 L (.int (x + z) :: st) h Q := g_b (f := fun x z => x + z) rfl
theorem g1301_234 (hT : (zT h b).1 = 30) (hi : zin i (zT h b).2) : zG d 1301 234 L (.int i :: .ref b :: st) h Q = zG d 1301 235 L (.int (zI h b i.toNatClampNeg) :: st) h Q := g_ia rfl hT hi
theorem g1301_235 : zG d 1301 235 (some (.ref a) :: L) st h Q = zG d 1301 236 (some (.ref a) :: L) (.ref a :: st) h Q := g_ldA rfl rfl
theorem g1301_236 : zG d 1301 236 (l0 :: l1 :: l2 :: some (.int x) :: L) st h Q = zG d 1301 237 (l0 :: l1 :: l2 :: some (.int x) :: L) (.int x :: st) h Q := g_ldI rfl rfl
theorem g1301_237 : zG d 1301 237 L st h Q = zG d 1301 238 L (.int 2 :: st) h Q := g_c rfl
theorem g1301_238 : zG d 1301 238 L (.int z :: .int x :: st) h Q = zG d 1301 239 L (.int (x + z) :: st) h Q := g_b (f := fun x z => x + z) rfl
theorem g1301_239 (hT : (zT h b).1 = 30) (hi : zin i (zT h b).2) : zG d 1301 239 L (.int i :: .ref b :: st) h Q = zG d 1301 240 L (.int (zI h b i.toNatClampNeg) :: st) h Q := g_ia rfl hT hi
theorem g1301_240 (hT : (zT h a).1 = 7) : zG d 1301 240 L [v1, v0, .ref a] h Q = zCall d 703 [.ref a, v0, v1] h (fun v h1 => zG d 1301 243 L (zpush v []) h1 Q) := g_cV rfl rfl rfl rfl (Nat.le_of_ble_eq_true rfl) hT
theorem g1301_243 : zG d 1301 243 (l0 :: l1 :: some (.ref a) :: L) st h Q = zG d 1301 244 (l0 :: l1 :: some (.ref a) :: L) (.ref a :: st) h Q := g_ldA rfl rfl
theorem g1301_244 : zG d 1301 244 (some (.ref a) :: L) st h Q = zG d 1301 245 (some (.ref a) :: L) (.ref a :: st) h Q := g_ldA rfl rfl
theorem g1301_245 : zG d 1301 245 (l0 :: l1 :: l2 :: some (.int x) :: L) st h Q = zG d 1301 246 (l0 :: l1 :: l2 :: some (.int x) :: L) (.int x :: st) h Q := g_ldI rfl rfl
theorem g1301_246 : zG d 1301 246 L st h Q = zG d 1301 247 L (.int 1 :: st) h Q := g_c rfl
theorem g1301_247 : zG d 1301 247 L (.int z :: .int x :: st) h Q = zG d 1301 248 L (.int (x + z) :: st) h Q := g_b (f := fun x z => x + z) rfl
theorem g1301_248 (hT : (zT h b).1 = 30) (hi : zin i (zT h b).2) : zG d 1301 248 L (.int i :: .ref b :: st) h Q = zG d 1301 249 L (.int (zI h b i.toNatClampNeg) :: st) h Q := g_ia rfl hT hi
theorem g1301_249 : zG d 1301 249 (some (.ref a) :: L) st h Q = zG d 1301 250 (some (.ref a) :: L) (.ref a :: st) h Q := g_ldA rfl rfl
theorem g1301_250 : zG d 1301 250 (l0 :: l1 :: l2 :: some (.int x) :: L) st h Q = zG d 1301 251 (l0 :: l1 :: l2 :: some (.int x) :: L) (.int x :: st) h Q := g_ldI rfl rfl
theorem g1301_251 : zG d 1301 251 L st h Q = zG d 1301 252 L (.int 2 :: st) h Q := g_c rfl
theorem g1301_252 : zG d 1301 252 L (.int z :: .int x :: st) h Q = zG d 1301 253 L (.int (x + z) :: st) h Q := g_b (f := fun x z => x + z) rfl
theorem g1301_253 (hT : (zT h b).1 = 30) (hi : zin i (zT h b).2) : zG d 1301 253 L (.int i :: .ref b :: st) h Q = zG d 1301 254 L (.int (zI h b i.toNatClampNeg) :: st) h Q := g_ia rfl hT hi
theorem g1301_254 {s0 : Int32} (hT : (zT h a).1 = 8) : zG d 1301 254 L [v1, v0, .ref a, .int s0] h Q = zCall d 811 [.ref a, v0, v1] h (fun v h1 => zG d 1301 257 L (zpush v [.int s0]) h1 Q) := g_cV rfl rfl rfl rfl (Nat.le_of_ble_eq_true rfl) hT
theorem g1301_257 : zG d 1301 257 L (.int z :: .int x :: st) h Q = if x = z then zG d 1301 1251 L st h Q else zG d 1301 260 L st h Q := g_i2 (P := fun x z => x = z) rfl
theorem g1301_260 : zG d 1301 260 L st h Q = zG d 1301 261 L (.int 0 :: st) h Q := g_c rfl
theorem g1301_261 (hx : x = 0 ∨ x = 1) : zG d 1301 261 L [.int x] h Q = Q (some (.int x)) h := g_rI (ok := fun x => x = 0 ∨ x = 1) rfl hx
theorem g1301_262 : zG d 1301 262 (l0 :: some (.ref a) :: L) st h Q = zG d 1301 263 (l0 :: some (.ref a) :: L) (.ref a :: st) h Q := g_ldA rfl rfl
theorem g1301_263 : zG d 1301 263 (some (.ref a) :: L) st h Q = zG d 1301 264 (some (.ref a) :: L) (.ref a :: st) h Q := g_ldA rfl rfl
theorem g1301_264 : zG d 1301 264 (l0 :: l1 :: l2 :: some (.int x) :: L) st h Q = zG d 1301 265 (l0 :: l1 :: l2 :: some (.int x) :: L) (.int x :: st) h Q := g_ldI rfl rfl
theorem g1301_265 : zG d 1301 265 L st h Q = zG d 1301 266 L (.int 1 :: st) h Q := g_c rfl
theorem g1301_266 : zG d 1301 266 L (.int z :: .int x :: st) h Q = zG d 1301 267 L (.int (x + z) :: st) h Q := g_b (f := fun x z => x + z) rfl
theorem g1301_267 (hT : (zT h b).1 = 30) (hi : zin i (zT h b).2) : zG d 1301 267 L (.int i :: .ref b :: st) h Q = zG d 1301 268 L (.int (zI h b i.toNatClampNeg) :: st) h Q := g_ia rfl hT hi
theorem g1301_268 : zG d 1301 268 (some (.ref a) :: L) st h Q = zG d 1301 269 (some (.ref a) :: L) (.ref a :: st) h Q := g_ldA rfl rfl
theorem g1301_269 : zG d 1301 269 (l0 :: l1 :: l2 :: some (.int x) :: L) st h Q = zG d 1301 270 (l0 :: l1 :: l2 :: some (.int x) :: L) (.int x :: st) h Q := g_ldI rfl rfl
theorem g1301_270 : zG d 1301 270 L st h Q = zG d 1301 271 L (.int 2 :: st) h Q := g_c rfl
theorem g1301_271 : zG d 1301 271 L (.int z :: .int x :: st) h Q = zG d 1301 272 L (.int (x + z) :: st) h Q := g_b (f := fun x z => x + z) rfl
theorem g1301_272 (hT : (zT h b).1 = 30) (hi : zin i (zT h b).2) : zG d 1301 272 L (.int i :: .ref b :: st) h Q = zG d 1301 273 L (.int (zI h b i.toNatClampNeg) :: st) h Q := g_ia rfl hT hi
theorem g1301_273 : zG d 1301 273 (some (.ref a) :: L) st h Q = zG d 1301 274 (some (.ref a) :: L) (.ref a :: st) h Q := g_ldA rfl rfl
theorem g1301_274 : zG d 1301 274 (l0 :: l1 :: l2 :: some (.int x) :: L) st h Q = zG d 1301 275 (l0 :: l1 :: l2 :: some (.int x) :: L) (.int x :: st) h Q := g_ldI rfl rfl
theorem g1301_275 : zG d 1301 275 L st h Q = zG d 1301 276 L (.int 3 :: st) h Q := g_c rfl
theorem g1301_276 : zG d 1301 276 L (.int z :: .int x :: st) h Q = zG d 1301 277 L (.int (x + z) :: st) h Q := g_b (f := fun x z => x + z) rfl
theorem g1301_277 (hT : (zT h b).1 = 30) (hi : zin i (zT h b).2) : zG d 1301 277 L (.int i :: .ref b :: st) h Q = zG d 1301 278 L (.int (zI h b i.toNatClampNeg) :: st) h Q := g_ia rfl hT hi
theorem g1301_278 (hT : (zT h a).1 = 7) : zG d 1301 278 L [v2, v1, v0, .ref a] h Q = zCall d 704 [.ref a, v0, v1, v2] h (fun v h1 => zG d 1301 281 L (zpush v []) h1 Q) := g_cV rfl rfl rfl rfl (Nat.le_of_ble_eq_true rfl) hT
theorem g1301_281 : zG d 1301 281 (l0 :: l1 :: some (.ref a) :: L) st h Q = zG d 1301 282 (l0 :: l1 :: some (.ref a) :: L) (.ref a :: st) h Q := g_ldA rfl rfl
theorem g1301_282 : zG d 1301 282 (some (.ref a) :: L) st h Q = zG d 1301 283 (some (.ref a) :: L) (.ref a :: st) h Q := g_ldA rfl rfl
theorem g1301_283 : zG d 1301 283 (l0 :: l1 :: l2 :: some (.int x) :: L) st h Q = zG d 1301 284 (l0 :: l1 :: l2 :: some (.int x) :: L) (.int x :: st) h Q := g_ldI rfl rfl
theorem g1301_284 : zG d 1301 284 L st h Q = zG d 1301 285 L (.int 1 :: st) h Q := g_c rfl
theorem g1301_285 : zG d 1301 285 L (.int z :: .int x :: st) h Q = zG d 1301 286 L (.int (x + z) :: st) h Q := g_b (f := fun x z => x + z) rfl
theorem g1301_286 (hT : (zT h b).1 = 30) (hi : zin i (zT h b).2) : zG d 1301 286 L (.int i :: .ref b :: st) h Q = zG d 1301 287 L (.int (zI h b i.toNatClampNeg) :: st) h Q := g_ia rfl hT hi
theorem g1301_287 : zG d 1301 287 (some (.ref a) :: L) st h Q = zG d 1301 288 (some (.ref a) :: L) (.ref a :: st) h Q := g_ldA rfl rfl
theorem g1301_288 : zG d 1301 288 (l0 :: l1 :: l2 :: some (.int x) :: L) st h Q = zG d 1301 289 (l0 :: l1 :: l2 :: some (.int x) :: L) (.int x :: st) h Q := g_ldI rfl rfl
theorem g1301_289 : zG d 1301 289 L st h Q = zG d 1301 290 L (.int 2 :: st) h Q := g_c rfl
theorem g1301_290 : zG d 1301 290 L (.int z :: .int x :: st) h Q = zG d 1301 291 L (.int (x + z) :: st) h Q := g_b (f := fun x z => x + z) rfl
theorem g1301_291 (hT : (zT h b).1 = 30) (hi : zin i (zT h b).2) : zG d 1301 291 L (.int i :: .ref b :: st) h Q = zG d 1301 292 L (.int (zI h b i.toNatClampNeg) :: st) h Q := g_ia rfl hT hi
theorem g1301_292 : zG d 1301 292 (some (.ref a) :: L) st h Q = zG d 1301 293 (some (.ref a) :: L) (.ref a :: st) h Q := g_ldA rfl rfl
theorem g1301_293 : zG d 1301 293 (l0 :: l1 :: l2 :: some (.int x) :: L) st h Q = zG d 1301 294 (l0 :: l1 :: l2 :: some (.int x) :: L) (.int x :: st) h Q := g_ldI rfl rfl
theorem g1301_294 : zG d 1301 294 L st h Q = zG d 1301 295 L (.int 3 :: st) h Q := g_c rfl
theorem g1301_295 : zG d 1301 295 L (.int z :: .int x :: st) h Q = zG d 1301 296 L (.int (x + z) :: st) h Q := g_b (f := fun x z => x + z) rfl
theorem g1301_296 (hT : (zT h b).1 = 30) (hi : zin i (zT h b).2) : zG d 1301 296 L (.int i :: .ref b :: st) h Q = zG d 1301 297 L (.int (zI h b i.toNatClampNeg) :: st) h Q := g_ia rfl hT hi
theorem g1301_297 {s0 : Int32} (hT : (zT h a).1 = 8) : zG d 1301 297 L [v2, v1, v0, .ref a, .int s0] h Q = zCall d 812 [.ref a, v0, v1, v2] h (fun v h1 => zG d 1301 300 L (zpush v [.int s0]) h1 Q) := g_cV rfl rfl rfl rfl (Nat.le_of_ble_eq_true rfl) hT
theorem g1301_300 : zG d 1301 300 L (.int z :: .int x :: st) h Q = if x = z then zG d 1301 1251 L st h Q else zG d 1301 303 L st h Q := g_i2 (P := fun x z => x = z) rfl
theorem g1301_303 : zG d 1301 303 L st h Q = zG d 1301 304 L (.int 0 :: st) h Q := g_c rfl
theorem g1301_304 (hx : x = 0 ∨ x = 1) : zG d 1301 304 L [.int x] h Q = Q (some (.int x)) h := g_rI (ok := fun x => x = 0 ∨ x = 1) rfl hx
theorem g1301_305 : zG d 1301 305 (l0 :: some (.ref a) :: L) st h Q = zG d 1301 306 (l0 :: some (.ref a) :: L) (.ref a :: st) h Q := g_ldA rfl rfl
theorem g1301_306 : zG d 1301 306 (some (.ref a) :: L) st h Q = zG d 1301 307 (some (.ref a) :: L) (.ref a :: st) h Q := g_ldA rfl rfl
theorem g1301_307 : zG d 1301 307 (l0 :: l1 :: l2 :: some (.int x) :: L) st h Q = zG d 1301 308 (l0 :: l1 :: l2 :: some (.int x) :: L) (.int x :: st) h Q := g_ldI rfl rfl
theorem g1301_308 : zG d 1301 308 L st h Q = zG d 1301 309 L (.int 1 :: st) h Q := g_c rfl
theorem g1301_309 : zG d 1301 309 L (.int z :: .int x :: st) h Q = zG d 1301 310 L (.int (x + z) :: st) h Q := g_b (f := fun x z => x + z) rfl
theorem g1301_310 (hT : (zT h b).1 = 30) (hi : zin i (zT h b).2) : zG d 1301 310 L (.int i :: .ref b :: st) h Q = zG d 1301 311 L (.int (zI h b i.toNatClampNeg) :: st) h Q := g_ia rfl hT hi
theorem g1301_311 : zG d 1301 311 (some (.ref a) :: L) st h Q = zG d 1301 312 (some (.ref a) :: L) (.ref a :: st) h Q := g_ldA rfl rfl
theorem g1301_312 : zG d 1301 312 (l0 :: l1 :: l2 :: some (.int x) :: L) st h Q = zG d 1301 313 (l0 :: l1 :: l2 :: some (.int x) :: L) (.int x :: st) h Q := g_ldI rfl rfl
theorem g1301_313 : zG d 1301 313 L st h Q = zG d 1301 314 L (.int 2 :: st) h Q := g_c rfl
theorem g1301_314 : zG d 1301 314 L (.int z :: .int x :: st) h Q = zG d 1301 315 L (.int (x + z) :: st) h Q := g_b (f := fun x z => x + z) rfl
theorem g1301_315 (hT : (zT h b).1 = 30) (hi : zin i (zT h b).2) : zG d 1301 315 L (.int i :: .ref b :: st) h Q = zG d 1301 316 L (.int (zI h b i.toNatClampNeg) :: st) h Q := g_ia rfl hT hi
theorem g1301_316 : zG d 1301 316 L (.int x :: st) h Q = if x = 0 then zG d 1301 323 L st h Q else zG d 1301 319 L st h Q := g_i1 (P := fun x => x = 0) rfl
theorem g1301_319 : zG d 1301 319 L st h Q = zG d 1301 320 L (.int 1 :: st) h Q := g_c rfl
theorem g1301_320 : zG d 1301 320 L st h Q = zG d 1301 324 L st h Q := g_go rfl
theorem g1301_323 : zG d 1301 323 L st h Q = zG d 1301 324 L (.int 0 :: st) h Q := g_c rfl
theorem g1301_324 (hT : (zT h a).1 = 7) : zG d 1301 324 L [v1, v0, .ref a] h Q = zCall d 705 [.ref a, v0, v1] h (fun v h1 => zG d 1301 327 L (zpush v []) h1 Q) := g_cV rfl rfl rfl rfl (Nat.le_of_ble_eq_true rfl) hT
theorem g1301_327 : zG d 1301 327 (l0 :: l1 :: some (.ref a) :: L) st h Q = zG d 1301 328 (l0 :: l1 :: some (.ref a) :: L) (.ref a :: st) h Q := g_ldA rfl rfl
theorem g1301_328 : zG d 1301 328 (some (.ref a) :: L) st h Q = zG d 1301 329 (some (.ref a) :: L) (.ref a :: st) h Q := g_ldA rfl rfl
theorem g1301_329 : zG d 1301 329 (l0 :: l1 :: l2 :: some (.int x) :: L) st h Q = zG d 1301 330 (l0 :: l1 :: l2 :: some (.int x) :: L) (.int x :: st) h Q := g_ldI rfl rfl
theorem g1301_330 : zG d 1301 330 L st h Q = zG d 1301 331 L (.int 1 :: st) h Q := g_c rfl
theorem g1301_331 : zG d 1301 331 L (.int z :: .int x :: st) h Q = zG d 1301 332 L (.int (x + z) :: st) h Q := g_b (f := fun x z => x + z) rfl
theorem g1301_332 (hT : (zT h b).1 = 30) (hi : zin i (zT h b).2) : zG d 1301 332 L (.int i :: .ref b :: st) h Q = zG d 1301 333 L (.int (zI h b i.toNatClampNeg) :: st) h Q := g_ia rfl hT hi
theorem g1301_333 : zG d 1301 333 (some (.ref a) :: L) st h Q = zG d 1301 334 (some (.ref a) :: L) (.ref a :: st) h Q := g_ldA rfl rfl
theorem g1301_334 : zG d 1301 334 (l0 :: l1 :: l2 :: some (.int x) :: L) st h Q = zG d 1301 335 (l0 :: l1 :: l2 :: some (.int x) :: L) (.int x :: st) h Q := g_ldI rfl rfl
theorem g1301_335 : zG d 1301 335 L st h Q = zG d 1301 336 L (.int 2 :: st) h Q := g_c rfl
theorem g1301_336 : zG d 1301 336 L (.int z :: .int x :: st) h Q = zG d 1301 337 L (.int (x + z) :: st) h Q := g_b (f := fun x z => x + z) rfl
theorem g1301_337 (hT : (zT h b).1 = 30) (hi : zin i (zT h b).2) : zG d 1301 337 L (.int i :: .ref b :: st) h Q = zG d 1301 338 L (.int (zI h b i.toNatClampNeg) :: st) h Q := g_ia rfl hT hi
theorem g1301_338 : zG d 1301 338 L (.int x :: st) h Q = if x = 0 then zG d 1301 345 L st h Q else zG d 1301 341 L st h Q := g_i1 (P := fun x => x = 0) rfl
theorem g1301_341 : zG d 1301 341 L st h Q = zG d 1301 342 L (.int 1 :: st) h Q := g_c rfl
theorem g1301_342 : zG d 1301 342 L st h Q = zG d 1301 346 L st h Q := g_go rfl
theorem g1301_345 : zG d 1301 345 L st h Q = zG d 1301 346 L (.int 0 :: st) h Q := g_c rfl
theorem g1301_346 {s0 : Int32} (hT : (zT h a).1 = 8) : zG d 1301 346 L [v1, v0, .ref a, .int s0] h Q = zCall d 814 [.ref a, v0, v1] h (fun v h1 => zG d 1301 349 L (zpush v [.int s0]) h1 Q) := g_cV rfl rfl rfl rfl (Nat.le_of_ble_eq_true rfl) hT
theorem g1301_349 : zG d 1301 349 L (.int z :: .int x :: st) h Q = if x = z then zG d 1301 1251 L st h Q else zG d 1301 352 L st h Q := g_i2 (P := fun x z => x = z) rfl
theorem g1301_352 : zG d 1301 352 L st h Q = zG d 1301 353 L (.int 0 :: st) h Q := g_c rfl
theorem g1301_353 (hx : x = 0 ∨ x = 1) : zG d 1301 353 L [.int x] h Q = Q (some (.int x)) h := g_rI (ok := fun x => x = 0 ∨ x = 1) rfl hx
theorem g1301_354 : zG d 1301 354 (l0 :: some (.ref a) :: L) st h Q = zG d 1301 355 (l0 :: some (.ref a) :: L) (.ref a :: st) h Q := g_ldA rfl rfl
theorem g1301_355 : zG d 1301 355 (some (.ref a) :: L) st h Q = zG d 1301 356 (some (.ref a) :: L) (.ref a :: st) h Q := g_ldA rfl rfl
theorem g1301_356 : zG d 1301 356 (l0 :: l1 :: l2 :: some (.int x) :: L) st h Q = zG d 1301 357 (l0 :: l1 :: l2 :: some (.int x) :: L) (.int x :: st) h Q := g_ldI rfl rfl
theorem g1301_357 : zG d 1301 357 L st h Q = zG d 1301 358 L (.int 1 :: st) h Q := g_c rfl
theorem g1301_358 : zG d 1301 358 L (.int z :: .int x :: st) h Q = zG d 1301 359 L (.int (x + z) :: st) h Q := g_b (f := fun x z => x + z) rfl
theorem g1301_359 (hT : (zT h b).1 = 30) (hi : zin i (zT h b).2) : zG d 1301 359 L (.int i :: .ref b :: st) h Q = zG d 1301 360 L (.int (zI h b i.toNatClampNeg) :: st) h Q := g_ia rfl hT hi
theorem g1301_360 (hT : (zT h a).1 = 7) : zG d 1301 360 L [v0, .ref a] h Q = zCall d 706 [.ref a, v0] h (fun v h1 => zG d 1301 363 L (zpush v []) h1 Q) := g_cV rfl rfl rfl rfl (Nat.le_of_ble_eq_true rfl) hT
theorem g1301_363 : zG d 1301 363 (l0 :: l1 :: some (.ref a) :: L) st h Q = zG d 1301 364 (l0 :: l1 :: some (.ref a) :: L) (.ref a :: st) h Q := g_ldA rfl rfl
theorem g1301_364 : zG d 1301 364 (some (.ref a) :: L) st h Q = zG d 1301 365 (some (.ref a) :: L) (.ref a :: st) h Q := g_ldA rfl rfl
theorem g1301_365 : zG d 1301 365 (l0 :: l1 :: l2 :: some (.int x) :: L) st h Q = zG d 1301 366 (l0 :: l1 :: l2 :: some (.int x) :: L) (.int x :: st) h Q := g_ldI rfl rfl
theorem g1301_366 : zG d 1301 366 L st h Q = zG d 1301 367 L (.int 1 :: st) h Q := g_c rfl
theorem g1301_367 : zG d 1301 367 L (.int z :: .int x :: st) h Q = zG d 1301 368 L (.int (x + z) :: st) h Q := g_b (f := fun x z => x + z) rfl
theorem g1301_368 (hT : (zT h b).1 = 30) (hi : zin i (zT h b).2) : zG d 1301 368 L (.int i :: .ref b :: st) h Q = zG d 1301 369 L (.int (zI h b i.toNatClampNeg) :: st) h Q := g_ia rfl hT hi
theorem g1301_369 {s0 : Int32} (hT : (zT h a).1 = 8) : zG d 1301 369 L [v0, .ref a, .int s0] h Q = zCall d 815 [.ref a, v0] h (fun v h1 => zG d 1301 372 L (zpush v [.int s0]) h1 Q) := g_cV rfl rfl rfl rfl (Nat.le_of_ble_eq_true rfl) hT
theorem g1301_372 : zG d 1301 372 L (.int z :: .int x :: st) h Q = if x = z then zG d 1301 1251 L st h Q else zG d 1301 375 L st h Q := g_i2 (P := fun x z => x = z) rfl
theorem g1301_375 : zG d 1301 375 L st h Q = zG d 1301 376 L (.int 0 :: st) h Q := g_c rfl
theorem g1301_376 (hx : x = 0 ∨ x = 1) : zG d 1301 376 L [.int x] h Q = Q (some (.int x)) h := g_rI (ok := fun x => x = 0 ∨ x = 1) rfl hx
theorem g1301_377 : zG d 1301 377 (l0 :: some (.ref a) :: L) st h Q = zG d 1301 378 (l0 :: some (.ref a) :: L) (.ref a :: st) h Q := g_ldA rfl rfl
theorem g1301_378 : zG d 1301 378 (some (.ref a) :: L) st h Q = zG d 1301 379 (some (.ref a) :: L) (.ref a :: st) h Q := g_ldA rfl rfl
theorem g1301_379 : zG d 1301 379 (l0 :: l1 :: l2 :: some (.int x) :: L) st h Q = zG d 1301 380 (l0 :: l1 :: l2 :: some (.int x) :: L) (.int x :: st) h Q := g_ldI rfl rfl
theorem g1301_380 : zG d 1301 380 L st h Q = zG d 1301 381 L (.int 1 :: st) h Q := g_c rfl
theorem g1301_381 : zG d 1301 381 L (.int z :: .int x :: st) h Q = zG d 1301 382 L (.int (x + z) :: st) h Q := g_b (f := fun x z => x + z) rfl
theorem g1301_382 (hT : (zT h b).1 = 30) (hi : zin i (zT h b).2) : zG d 1301 382 L (.int i :: .ref b :: st) h Q = zG d 1301 383 L (.int (zI h b i.toNatClampNeg) :: st) h Q := g_ia rfl hT hi
theorem g1301_383 : zG d 1301 383 (some (.ref a) :: L) st h Q = zG d 1301 384 (some (.ref a) :: L) (.ref a :: st) h Q := g_ldA rfl rfl
theorem g1301_384 : zG d 1301 384 (l0 :: l1 :: l2 :: some (.int x) :: L) st h Q = zG d 1301 385 (l0 :: l1 :: l2 :: some (.int x) :: L) (.int x :: st) h Q := g_ldI rfl rfl
theorem g1301_385 : zG d 1301 385 L st h Q = zG d 1301 386 L (.int 2 :: st) h Q := g_c rfl
theorem g1301_386 : zG d 1301 386 L (.int z :: .int x :: st) h Q = zG d 1301 387 L (.int (x + z) :: st) h Q := g_b (f := fun x z => x + z) rfl
theorem g1301_387 (hT : (zT h b).1 = 30) (hi : zin i (zT h b).2) : zG d 1301 387 L (.int i :: .ref b :: st) h Q = zG d 1301 388 L (.int (zI h b i.toNatClampNeg) :: st) h Q := g_ia rfl hT hi
theorem g1301_388 : zG d 1301 388 (some (.ref a) :: L) st h Q = zG d 1301 389 (some (.ref a) :: L) (.ref a :: st) h Q := g_ldA rfl rfl
theorem g1301_389 : zG d 1301 389 (l0 :: l1 :: l2 :: some (.int x) :: L) st h Q = zG d 1301 390 (l0 :: l1 :: l2 :: some (.int x) :: L) (.int x :: st) h Q := g_ldI rfl rfl
theorem g1301_390 : zG d 1301 390 L st h Q = zG d 1301 391 L (.int 3 :: st) h Q := g_c rfl
theorem g1301_391 : zG d 1301 391 L (.int z :: .int x :: st) h Q = zG d 1301 392 L (.int (x + z) :: st) h Q := g_b (f := fun x z => x + z) rfl
theorem g1301_392 (hT : (zT h b).1 = 30) (hi : zin i (zT h b).2) : zG d 1301 392 L (.int i :: .ref b :: st) h Q = zG d 1301 393 L (.int (zI h b i.toNatClampNeg) :: st) h Q := g_ia rfl hT hi
theorem g1301_393 (hT : (zT h a).1 = 7) : zG d 1301 393 L [v2, v1, v0, .ref a] h Q = zCall d 707 [.ref a, v0, v1, v2] h (fun v h1 => zG d 1301 396 L (zpush v []) h1 Q) := g_cV rfl rfl rfl rfl (Nat.le_of_ble_eq_true rfl) hT
theorem g1301_396 : zG d 1301 396 (l0 :: l1 :: some (.ref a) :: L) st h Q = zG d 1301 397 (l0 :: l1 :: some (.ref a) :: L) (.ref a :: st) h Q := g_ldA rfl rfl
theorem g1301_397 : zG d 1301 397 (some (.ref a) :: L) st h Q = zG d 1301 398 (some (.ref a) :: L) (.ref a :: st) h Q := g_ldA rfl rfl
theorem g1301_398 : zG d 1301 398 (l0 :: l1 :: l2 :: some (.int x) :: L) st h Q = zG d 1301 399 (l0 :: l1 :: l2 :: some (.int x) :: L) (.int x :: st) h Q := g_ldI rfl rfl
theorem g1301_399 : zG d 1301 399 L st h Q = zG d 1301 400 L (.int 1 :: st) h Q := g_c rfl
theorem g1301_400 : zG d 1301 400 L (.int z :: .int x :: st) h Q = zG d 1301 401 L (.int (x + z) :: st) h Q := g_b (f := fun x z => x + z) rfl
theorem g1301_401 (hT : (zT h b).1 = 30) (hi : zin i (zT h b).2) : zG d 1301 401 L (.int i :: .ref b :: st) h Q = zG d 1301 402 L (.int (zI h b i.toNatClampNeg) :: st) h Q := g_ia rfl hT hi
theorem g1301_402 : zG d 1301 402 (some (.ref a) :: L) st h Q = zG d 1301 403 (some (.ref a) :: L) (.ref a :: st) h Q := g_ldA rfl rfl
theorem g1301_403 : zG d 1301 403 (l0 :: l1 :: l2 :: some (.int x) :: L) st h Q = zG d 1301 404 (l0 :: l1 :: l2 :: some (.int x) :: L) (.int x :: st) h Q := g_ldI rfl rfl
theorem g1301_404 : zG d 1301 404 L st h Q = zG d 1301 405 L (.int 2 :: st) h Q := g_c rfl
theorem g1301_405 : zG d 1301 405 L (.int z :: .int x :: st) h Q = zG d 1301 406 L (.int (x + z) :: st) h Q := g_b (f := fun x z => x + z) rfl
theorem g1301_406 (hT : (zT h b).1 = 30) (hi : zin i (zT h b).2) : zG d 1301 406 L (.int i :: .ref b :: st) h Q = zG d 1301 407 L (.int (zI h b i.toNatClampNeg) :: st) h Q := g_ia rfl hT hi
theorem g1301_407 : zG d 1301 407 (some (.ref a) :: L) st h Q = zG d 1301 408 (some (.ref a) :: L) (.ref a :: st) h Q := g_ldA rfl rfl
theorem g1301_408 : zG d 1301 408 (l0 :: l1 :: l2 :: some (.int x) :: L) st h Q = zG d 1301 409 (l0 :: l1 :: l2 :: some (.int x) :: L) (.int x :: st) h Q := g_ldI rfl rfl
theorem g1301_409 : zG d 1301 409 L st h Q = zG d 1301 410 L (.int 3 :: st) h Q := g_c rfl
theorem g1301_410 : zG d 1301 410 L (.int z :: .int x :: st) h Q = zG d 1301 411 L (.int (x + z) :: st) h Q := g_b (f := fun x z => x + z) rfl
theorem g1301_411 (hT : (zT h b).1 = 30) (hi : zin i (zT h b).2) : zG d 1301 411 L (.int i :: .ref b :: st) h Q = zG d 1301 412 L (.int (zI h b i.toNatClampNeg) :: st) h Q := g_ia rfl hT hi
theorem g1301_412 {s0 : Int32} (hT : (zT h a).1 = 8) : zG d 1301 412 L [v2, v1, v0, .ref a, .int s0] h Q = zCall d 816 [.ref a, v0, v1, v2] h (fun v h1 => zG d 1301 415 L (zpush v [.int s0]) h1 Q) := g_cV rfl rfl rfl rfl (Nat.le_of_ble_eq_true rfl) hT
theorem g1301_415 : zG d 1301 415 L (.int z :: .int x :: st) h Q = if x = z then zG d 1301 1251 L st h Q else zG d 1301 418 L st h Q := g_i2 (P := fun x z => x = z) rfl
theorem g1301_418 : zG d 1301 418 L st h Q = zG d 1301 419 L (.int 0 :: st) h Q := g_c rfl
theorem g1301_419 (hx : x = 0 ∨ x = 1) : zG d 1301 419 L [.int x] h Q = Q (some (.int x)) h := g_rI (ok := fun x => x = 0 ∨ x = 1) rfl hx
theorem g1301_420 : zG d 1301 420 (l0 :: some (.ref a) :: L) st h Q = zG d 1301 421 (l0 :: some (.ref a) :: L) (.ref a :: st) h Q := g_ldA rfl rfl
theorem g1301_421 : zG d 1301 421 (some (.ref a) :: L) st h Q = zG d 1301 422 (some (.ref a) :: L) (.ref a :: st) h Q := g_ldA rfl rfl
theorem g1301_422 : zG d 1301 422 (l0 :: l1 :: l2 :: some (.int x) :: L) st h Q = zG d 1301 423 (l0 :: l1 :: l2 :: some (.int x) :: L) (.int x :: st) h Q := g_ldI rfl rfl
theorem g1301_423 : zG d 1301 423 L st h Q = zG d 1301 424 L (.int 1 :: st) h Q := g_c rfl
theorem g1301_424 : zG d 1301 424 L (.int z :: .int x :: st) h Q = zG d 1301 425 L (.int (x + z) :: st) h Q := g_b (f := fun x z => x + z) rfl
theorem g1301_425 (hT : (zT h b).1 = 30) (hi : zin i (zT h b).2) : zG d 1301 425 L (.int i :: .ref b :: st) h Q = zG d 1301 426 L (.int (zI h b i.toNatClampNeg) :: st) h Q := g_ia rfl hT hi
theorem g1301_426 (hT : (zT h a).1 = 7) : zG d 1301 426 L [v0, .ref a] h Q = zCall d 708 [.ref a, v0] h (fun v h1 => zG d 1301 429 L (zpush v []) h1 Q) := g_cV rfl rfl rfl rfl (Nat.le_of_ble_eq_true rfl) hT
theorem g1301_429 : zG d 1301 429 (l0 :: l1 :: some (.ref a) :: L) st h Q = zG d 1301 430 (l0 :: l1 :: some (.ref a) :: L) (.ref a :: st) h Q := g_ldA rfl rfl
theorem g1301_430 : zG d 1301 430 (some (.ref a) :: L) st h Q = zG d 1301 431 (some (.ref a) :: L) (.ref a :: st) h Q := g_ldA rfl rfl
theorem g1301_431 : zG d 1301 431 (l0 :: l1 :: l2 :: some (.int x) :: L) st h Q = zG d 1301 432 (l0 :: l1 :: l2 :: some (.int x) :: L) (.int x :: st) h Q := g_ldI rfl rfl
theorem g1301_432 : zG d 1301 432 L st h Q = zG d 1301 433 L (.int 1 :: st) h Q := g_c rfl
theorem g1301_433 : zG d 1301 433 L (.int z :: .int x :: st) h Q = zG d 1301 434 L (.int (x + z) :: st) h Q := g_b (f := fun x z => x + z) rfl
theorem g1301_434 (hT : (zT h b).1 = 30) (hi : zin i (zT h b).2) : zG d 1301 434 L (.int i :: .ref b :: st) h Q = zG d 1301 435 L (.int (zI h b i.toNatClampNeg) :: st) h Q := g_ia rfl hT hi
theorem g1301_435 {s0 : Int32} (hT : (zT h a).1 = 8) : zG d 1301 435 L [v0, .ref a, .int s0] h Q = zCall d 817 [.ref a, v0] h (fun v h1 => zG d 1301 438 L (zpush v [.int s0]) h1 Q) := g_cV rfl rfl rfl rfl (Nat.le_of_ble_eq_true rfl) hT
theorem g1301_438 : zG d 1301 438 L (.int z :: .int x :: st) h Q = if x = z then zG d 1301 1251 L st h Q else zG d 1301 441 L st h Q := g_i2 (P := fun x z => x = z) rfl
theorem g1301_441 : zG d 1301 441 L st h Q = zG d 1301 442 L (.int 0 :: st) h Q := g_c rfl
theorem g1301_442 (hx : x = 0 ∨ x = 1) : zG d 1301 442 L [.int x] h Q = Q (some (.int x)) h := g_rI (ok := fun x => x = 0 ∨ x = 1) rfl hx
theorem g1301_443 : zG d 1301 443 (l0 :: some (.ref a) :: L) st h Q = zG d 1301 444 (l0 :: some (.ref a) :: L) (.ref a :: st) h Q := g_ldA rfl rfl
theorem g1301_444 (hT : (zT h a).1 = 7) : zG d 1301 444 L [.ref a] h Q = zCall d 709 [.ref a] h (fun v h1 => zG d 1301 447 L (zpush v []) h1 Q) := g_cV rfl rfl rfl rfl (Nat.le_of_ble_eq_true rfl) hT
theorem g1301_447 : zG d 1301 447 (l0 :: l1 :: some (.ref a) :: L) st h Q = zG d 1301 448 (l0 :: l1 :: some (.ref a) :: L) (.ref a :: st) h Q := g_ldA rfl rfl
theorem g1301_448 {s0 : Int32} (hT : (zT h a).1 = 8) : zG d 1301 448 L [.ref a, .int s0] h Q = zCall d 829 [.ref a] h (fun v h1 => zG d 1301 451 L (zpush v [.int s0]) h1 Q) := g_cV rfl rfl rfl rfl (Nat.le_of_ble_eq_true rfl) hT
theorem g1301_451 : zG d 1301 451 L (.int z :: .int x :: st) h Q = if x = z then zG d 1301 1251 L st h Q else zG d 1301 454 L st h Q := g_i2 (P := fun x z => x = z) rfl
theorem g1301_454 : zG d 1301 454 L st h Q = zG d 1301 455 L (.int 0 :: st) h Q := g_c rfl
theorem g1301_455 (hx : x = 0 ∨ x = 1) : zG d 1301 455 L [.int x] h Q = Q (some (.int x)) h := g_rI (ok := fun x => x = 0 ∨ x = 1) rfl hx
theorem g1301_456 : zG d 1301 456 (l0 :: some (.ref a) :: L) st h Q = zG d 1301 457 (l0 :: some (.ref a) :: L) (.ref a :: st) h Q := g_ldA rfl rfl
theorem g1301_457 : zG d 1301 457 (some (.ref a) :: L) st h Q = zG d 1301 458 (some (.ref a) :: L) (.ref a :: st) h Q := g_ldA rfl rfl
theorem g1301_458 : zG d 1301 458 (l0 :: l1 :: l2 :: some (.int x) :: L) st h Q = zG d 1301 459 (l0 :: l1 :: l2 :: some (.int x) :: L) (.int x :: st) h Q := g_ldI rfl rfl
theorem g1301_459 : zG d 1301 459 L st h Q = zG d 1301 460 L (.int 1 :: st) h Q := g_c rfl
theorem g1301_460 : zG d 1301 460 L (.int z :: .int x :: st) h Q = zG d 1301 461 L (.int (x + z) :: st) h Q := g_b (f := fun x z => x + z) rfl
theorem g1301_461 (hT : (zT h b).1 = 30) (hi : zin i (zT h b).2) : zG d 1301 461 L (.int i :: .ref b :: st) h Q = zG d 1301 462 L (.int (zI h b i.toNatClampNeg) :: st) h Q := g_ia rfl hT hi
theorem g1301_462 (hT : (zT h a).1 = 7) : zG d 1301 462 L [v0, .ref a] h Q = zCall d 710 [.ref a, v0] h (fun v h1 => zG d 1301 465 L (zpush v []) h1 Q) := g_cV rfl rfl rfl rfl (Nat.le_of_ble_eq_true rfl) hT
theorem g1301_465 : zG d 1301 465 (l0 :: l1 :: some (.ref a) :: L) st h Q = zG d 1301 466 (l0 :: l1 :: some (.ref a) :: L) (.ref a :: st) h Q := g_ldA rfl rfl
theorem g1301_466 : zG d 1301 466 (some (.ref a) :: L) st h Q = zG d 1301 467 (some (.ref a) :: L) (.ref a :: st) h Q := g_ldA rfl rfl
theorem g1301_467 : zG d 1301 467 (l0 :: l1 :: l2 :: some (.int x) :: L) st h Q = zG d 1301 468 (l0 :: l1 :: l2 :: some (.int x) :: L) (.int x :: st) h Q := g_ldI rfl rfl
theorem g1301_468 : zG d 1301 468 L st h Q = zG d 1301 469 L (.int 1 :: st) h Q := g_c rfl
theorem g1301_469 : zG d 1301 469 L (.int z :: .int x :: st) h Q = zG d 1301 470 L (.int (x + z) :: st) h Q := g_b (f := fun x z => x + z) rfl
theorem g1301_470 (hT : (zT h b).1 = 30) (hi : zin i (zT h b).2) : zG d 1301 470 L (.int i :: .ref b :: st) h Q = zG d 1301 471 L (.int (zI h b i.toNatClampNeg) :: st) h Q := g_ia rfl hT hi
theorem g1301_471 {s0 : Int32} (hT : (zT h a).1 = 8) : zG d 1301 471 L [v0, .ref a, .int s0] h Q = zCall d 839 [.ref a, v0] h (fun v h1 => zG d 1301 474 L (zpush v [.int s0]) h1 Q) := g_cV rfl rfl rfl rfl (Nat.le_of_ble_eq_true rfl) hT
theorem g1301_474 : zG d 1301 474 L (.int z :: .int x :: st) h Q = if x = z then zG d 1301 1251 L st h Q else zG d 1301 477 L st h Q := g_i2 (P := fun x z => x = z) rfl
theorem g1301_477 : zG d 1301 477 L st h Q = zG d 1301 478 L (.int 0 :: st) h Q := g_c rfl
theorem g1301_478 (hx : x = 0 ∨ x = 1) : zG d 1301 478 L [.int x] h Q = Q (some (.int x)) h := g_rI (ok := fun x => x = 0 ∨ x = 1) rfl hx
theorem g1301_479 : zG d 1301 479 (l0 :: some (.ref a) :: L) st h Q = zG d 1301 480 (l0 :: some (.ref a) :: L) (.ref a :: st) h Q := g_ldA rfl rfl
theorem g1301_480 : zG d 1301 480 (some (.ref a) :: L) st h Q = zG d 1301 481 (some (.ref a) :: L) (.ref a :: st) h Q := g_ldA rfl rfl
theorem g1301_481 : zG d 1301 481 (l0 :: l1 :: l2 :: some (.int x) :: L) st h Q = zG d 1301 482 (l0 :: l1 :: l2 :: some (.int x) :: L) (.int x :: st) h Q := g_ldI rfl rfl
theorem g1301_482 : zG d 1301 482 L st h Q = zG d 1301 483 L (.int 1 :: st) h Q := g_c rfl
theorem g1301_483 : zG d 1301 483 L (.int z :: .int x :: st) h Q = zG d 1301 484 L (.int (x + z) :: st) h Q := g_b (f := fun x z => x + z) rfl
theorem g1301_484 (hT : (zT h b).1 = 30) (hi : zin i (zT h b).2) : zG d 1301 484 L (.int i :: .ref b :: st) h Q = zG d 1301 485 L (.int (zI h b i.toNatClampNeg) :: st) h Q := g_ia rfl hT hi
theorem g1301_485 (hT : (zT h a).1 = 7) : zG d 1301 485 L [v0, .ref a] h Q = zCall d 711 [.ref a, v0] h (fun v h1 => zG d 1301 488 L (zpush v []) h1 Q) := g_cV rfl rfl rfl rfl (Nat.le_of_ble_eq_true rfl) hT
theorem g1301_488 : zG d 1301 488 (l0 :: l1 :: some (.ref a) :: L) st h Q = zG d 1301 489 (l0 :: l1 :: some (.ref a) :: L) (.ref a :: st) h Q := g_ldA rfl rfl
theorem g1301_489 : zG d 1301 489 (some (.ref a) :: L) st h Q = zG d 1301 490 (some (.ref a) :: L) (.ref a :: st) h Q := g_ldA rfl rfl
theorem g1301_490 : zG d 1301 490 (l0 :: l1 :: l2 :: some (.int x) :: L) st h Q = zG d 1301 491 (l0 :: l1 :: l2 :: some (.int x) :: L) (.int x :: st) h Q := g_ldI rfl rfl
theorem g1301_491 : zG d 1301 491 L st h Q = zG d 1301 492 L (.int 1 :: st) h Q := g_c rfl
theorem g1301_492 : zG d 1301 492 L (.int z :: .int x :: st) h Q = zG d 1301 493 L (.int (x + z) :: st) h Q := g_b (f := fun x z => x + z) rfl
theorem g1301_493 (hT : (zT h b).1 = 30) (hi : zin i (zT h b).2) : zG d 1301 493 L (.int i :: .ref b :: st) h Q = zG d 1301 494 L (.int (zI h b i.toNatClampNeg) :: st) h Q := g_ia rfl hT hi
theorem g1301_494 {s0 : Int32} (hT : (zT h a).1 = 8) : zG d 1301 494 L [v0, .ref a, .int s0] h Q = zCall d 840 [.ref a, v0] h (fun v h1 => zG d 1301 497 L (zpush v [.int s0]) h1 Q) := g_cV rfl rfl rfl rfl (Nat.le_of_ble_eq_true rfl) hT
theorem g1301_497 : zG d 1301 497 L (.int z :: .int x :: st) h Q = if x = z then zG d 1301 1251 L st h Q else zG d 1301 500 L st h Q := g_i2 (P := fun x z => x = z) rfl
theorem g1301_500 : zG d 1301 500 L st h Q = zG d 1301 501 L (.int 0 :: st) h Q := g_c rfl
theorem g1301_501 (hx : x = 0 ∨ x = 1) : zG d 1301 501 L [.int x] h Q = Q (some (.int x)) h := g_rI (ok := fun x => x = 0 ∨ x = 1) rfl hx
theorem g1301_502 : zG d 1301 502 (l0 :: some (.ref a) :: L) st h Q = zG d 1301 503 (l0 :: some (.ref a) :: L) (.ref a :: st) h Q := g_ldA rfl rfl
theorem g1301_503 : zG d 1301 503 (some (.ref a) :: L) st h Q = zG d 1301 504 (some (.ref a) :: L) (.ref a :: st) h Q := g_ldA rfl rfl
theorem g1301_504 : zG d 1301 504 (l0 :: l1 :: l2 :: some (.int x) :: L) st h Q = zG d 1301 505 (l0 :: l1 :: l2 :: some (.int x) :: L) (.int x :: st) h Q := g_ldI rfl rfl
theorem g1301_505 : zG d 1301 505 L st h Q = zG d 1301 506 L (.int 1 :: st) h Q := g_c rfl
theorem g1301_506 : zG d 1301 506 L (.int z :: .int x :: st) h Q = zG d 1301 507 L (.int (x + z) :: st) h Q := g_b (f := fun x z => x + z) rfl
theorem g1301_507 (hT : (zT h b).1 = 30) (hi : zin i (zT h b).2) : zG d 1301 507 L (.int i :: .ref b :: st) h Q = zG d 1301 508 L (.int (zI h b i.toNatClampNeg) :: st) h Q := g_ia rfl hT hi
theorem g1301_508 : zG d 1301 508 (some (.ref a) :: L) st h Q = zG d 1301 509 (some (.ref a) :: L) (.ref a :: st) h Q := g_ldA rfl rfl
theorem g1301_509 : zG d 1301 509 (l0 :: l1 :: l2 :: some (.int x) :: L) st h Q = zG d 1301 510 (l0 :: l1 :: l2 :: some (.int x) :: L) (.int x :: st) h Q := g_ldI rfl rfl
theorem g1301_510 : zG d 1301 510 L st h Q = zG d 1301 511 L (.int 2 :: st) h Q := g_c rfl
theorem g1301_511 : zG d 1301 511 L (.int z :: .int x :: st) h Q = zG d 1301 512 L (.int (x + z) :: st) h Q := g_b (f := fun x z => x + z) rfl
theorem g1301_512 (hT : (zT h b).1 = 30) (hi : zin i (zT h b).2) : zG d 1301 512 L (.int i :: .ref b :: st) h Q = zG d 1301 513 L (.int (zI h b i.toNatClampNeg) :: st) h Q := g_ia rfl hT hi
theorem g1301_513 (hT : (zT h a).1 = 7) : zG d 1301 513 L [v1, v0, .ref a] h Q = zCall d 712 [.ref a, v0, v1] h (fun v h1 => zG d 1301 516 L (zpush v []) h1 Q) := g_cV rfl rfl rfl rfl (Nat.le_of_ble_eq_true rfl) hT
theorem g1301_516 : zG d 1301 516 (l0 :: l1 :: some (.ref a) :: L) st h Q = zG d 1301 517 (l0 :: l1 :: some (.ref a) :: L) (.ref a :: st) h Q := g_ldA rfl rfl
theorem g1301_517 : zG d 1301 517 (some (.ref a) :: L) st h Q = zG d 1301 518 (some (.ref a) :: L) (.ref a :: st) h Q := g_ldA rfl rfl
theorem g1301_518 : zG d 1301 518 (l0 :: l1 :: l2 :: some (.int x) :: L) st h Q = zG d 1301 519 (l0 :: l1 :: l2 :: some (.int x) :: L) (.int x :: st) h Q := g_ldI rfl rfl
theorem g1301_519 : zG d 1301 519 L st h Q = zG d 1301 520 L (.int 1 :: st) h Q := g_c rfl
theorem g1301_520 : zG d 1301 520 L (.int z :: .int x :: st) h Q = zG d 1301 521 L (.int (x + z) :: st) h Q := g_b (f := fun x z => x + z) rfl
theorem g1301_521 (hT : (zT h b).1 = 30) (hi : zin i (zT h b).2) : zG d 1301 521 L (.int i :: .ref b :: st) h Q = zG d 1301 522 L (.int (zI h b i.toNatClampNeg) :: st) h Q := g_ia rfl hT hi
theorem g1301_522 : zG d 1301 522 (some (.ref a) :: L) st h Q = zG d 1301 523 (some (.ref a) :: L) (.ref a :: st) h Q := g_ldA rfl rfl
theorem g1301_523 : zG d 1301 523 (l0 :: l1 :: l2 :: some (.int x) :: L) st h Q = zG d 1301 524 (l0 :: l1 :: l2 :: some (.int x) :: L) (.int x :: st) h Q := g_ldI rfl rfl
theorem g1301_524 : zG d 1301 524 L st h Q = zG d 1301 525 L (.int 2 :: st) h Q := g_c rfl
theorem g1301_525 : zG d 1301 525 L (.int z :: .int x :: st) h Q = zG d 1301 526 L (.int (x + z) :: st) h Q := g_b (f := fun x z => x + z) rfl
theorem g1301_526 (hT : (zT h b).1 = 30) (hi : zin i (zT h b).2) : zG d 1301 526 L (.int i :: .ref b :: st) h Q = zG d 1301 527 L (.int (zI h b i.toNatClampNeg) :: st) h Q := g_ia rfl hT hi
theorem g1301_527 {s0 : Int32} (hT : (zT h a).1 = 8) : zG d 1301 527 L [v1, v0, .ref a, .int s0] h Q = zCall d 841 [.ref a, v0, v1] h (fun v h1 => zG d 1301 530 L (zpush v [.int s0]) h1 Q) := g_cV rfl rfl rfl rfl (Nat.le_of_ble_eq_true rfl) hT
theorem g1301_530 : zG d 1301 530 L (.int z :: .int x :: st) h Q = if x = z then zG d 1301 1251 L st h Q else zG d 1301 533 L st h Q := g_i2 (P := fun x z => x = z) rfl
theorem g1301_533 : zG d 1301 533 L st h Q = zG d 1301 534 L (.int 0 :: st) h Q := g_c rfl
theorem g1301_534 (hx : x = 0 ∨ x = 1) : zG d 1301 534 L [.int x] h Q = Q (some (.int x)) h := g_rI (ok := fun x => x = 0 ∨ x = 1) rfl hx
theorem g1301_535 : zG d 1301 535 (l0 :: some (.ref a) :: L) st h Q = zG d 1301 536 (l0 :: some (.ref a) :: L) (.ref a :: st) h Q := g_ldA rfl rfl
theorem g1301_536 : zG d 1301 536 (some (.ref a) :: L) st h Q = zG d 1301 537 (some (.ref a) :: L) (.ref a :: st) h Q := g_ldA rfl rfl
theorem g1301_537 : zG d 1301 537 (l0 :: l1 :: l2 :: some (.int x) :: L) st h Q = zG d 1301 538 (l0 :: l1 :: l2 :: some (.int x) :: L) (.int x :: st) h Q := g_ldI rfl rfl
theorem g1301_538 : zG d 1301 538 L st h Q = zG d 1301 539 L (.int 1 :: st) h Q := g_c rfl
theorem g1301_539 : zG d 1301 539 L (.int z :: .int x :: st) h Q = zG d 1301 540 L (.int (x + z) :: st) h Q := g_b (f := fun x z => x + z) rfl
theorem g1301_540 (hT : (zT h b).1 = 30) (hi : zin i (zT h b).2) : zG d 1301 540 L (.int i :: .ref b :: st) h Q = zG d 1301 541 L (.int (zI h b i.toNatClampNeg) :: st) h Q := g_ia rfl hT hi
theorem g1301_541 : zG d 1301 541 (some (.ref a) :: L) st h Q = zG d 1301 542 (some (.ref a) :: L) (.ref a :: st) h Q := g_ldA rfl rfl
theorem g1301_542 : zG d 1301 542 (l0 :: l1 :: l2 :: some (.int x) :: L) st h Q = zG d 1301 543 (l0 :: l1 :: l2 :: some (.int x) :: L) (.int x :: st) h Q := g_ldI rfl rfl
theorem g1301_543 : zG d 1301 543 L st h Q = zG d 1301 544 L (.int 2 :: st) h Q := g_c rfl
theorem g1301_544 : zG d 1301 544 L (.int z :: .int x :: st) h Q = zG d 1301 545 L (.int (x + z) :: st) h Q := g_b (f := fun x z => x + z) rfl
theorem g1301_545 (hT : (zT h b).1 = 30) (hi : zin i (zT h b).2) : zG d 1301 545 L (.int i :: .ref b :: st) h Q = zG d 1301 546 L (.int (zI h b i.toNatClampNeg) :: st) h Q := g_ia rfl hT hi
theorem g1301_546 (hT : (zT h a).1 = 7) : zG d 1301 546 L [v1, v0, .ref a] h Q = zCall d 714 [.ref a, v0, v1] h (fun v h1 => zG d 1301 549 L (zpush v []) h1 Q) := g_cV rfl rfl rfl rfl (Nat.le_of_ble_eq_true rfl) hT
theorem g1301_549 : zG d 1301 549 (l0 :: l1 :: some (.ref a) :: L) st h Q = zG d 1301 550 (l0 :: l1 :: some (.ref a) :: L) (.ref a :: st) h Q := g_ldA rfl rfl
theorem g1301_550 : zG d 1301 550 (some (.ref a) :: L) st h Q = zG d 1301 551 (some (.ref a) :: L) (.ref a :: st) h Q := g_ldA rfl rfl
theorem g1301_551 : zG d 1301 551 (l0 :: l1 :: l2 :: some (.int x) :: L) st h Q = zG d 1301 552 (l0 :: l1 :: l2 :: some (.int x) :: L) (.int x :: st) h Q := g_ldI rfl rfl
theorem g1301_552 : zG d 1301 552 L st h Q = zG d 1301 553 L (.int 1 :: st) h Q := g_c rfl
theorem g1301_553 : zG d 1301 553 L (.int z :: .int x :: st) h Q = zG d 1301 554 L (.int (x + z) :: st) h Q := g_b (f := fun x z => x + z) rfl
theorem g1301_554 (hT : (zT h b).1 = 30) (hi : zin i (zT h b).2) : zG d 1301 554 L (.int i :: .ref b :: st) h Q = zG d 1301 555 L (.int (zI h b i.toNatClampNeg) :: st) h Q := g_ia rfl hT hi
theorem g1301_555 : zG d 1301 555 (some (.ref a) :: L) st h Q = zG d 1301 556 (some (.ref a) :: L) (.ref a :: st) h Q := g_ldA rfl rfl
theorem g1301_556 : zG d 1301 556 (l0 :: l1 :: l2 :: some (.int x) :: L) st h Q = zG d 1301 557 (l0 :: l1 :: l2 :: some (.int x) :: L) (.int x :: st) h Q := g_ldI rfl rfl
theorem g1301_557 : zG d 1301 557 L st h Q = zG d 1301 558 L (.int 2 :: st) h Q := g_c rfl
theorem g1301_558 : zG d 1301 558 L (.int z :: .int x :: st) h Q = zG d 1301 559 L (.int (x + z) :: st) h Q := g_b (f := fun x z => x + z) rfl
theorem g1301_559 (hT : (zT h b).1 = 30) (hi : zin i (zT h b).2) : zG d 1301 559 L (.int i :: .ref b :: st) h Q = zG d 1301 560 L (.int (zI h b i.toNatClampNeg) :: st) h Q := g_ia rfl hT hi
theorem g1301_560 {s0 : Int32} (hT : (zT h a).1 = 8) : zG d 1301 560 L [v1, v0, .ref a, .int s0] h Q = zCall d 846 [.ref a, v0, v1] h (fun v h1 => zG d 1301 563 L (zpush v [.int s0]) h1 Q) := g_cV rfl rfl rfl rfl (Nat.le_of_ble_eq_true rfl) hT
theorem g1301_563 : zG d 1301 563 L (.int z :: .int x :: st) h Q = if x = z then zG d 1301 1251 L st h Q else zG d 1301 566 L st h Q := g_i2 (P := fun x z => x = z) rfl
theorem g1301_566 : zG d 1301 566 L st h Q = zG d 1301 567 L (.int 0 :: st) h Q := g_c rfl
theorem g1301_567 (hx : x = 0 ∨ x = 1) : zG d 1301 567 L [.int x] h Q = Q (some (.int x)) h := g_rI (ok := fun x => x = 0 ∨ x = 1) rfl hx
theorem g1301_568 : zG d 1301 568 (l0 :: some (.ref a) :: L) st h Q = zG d 1301 569 (l0 :: some (.ref a) :: L) (.ref a :: st) h Q := g_ldA rfl rfl
theorem g1301_569 : zG d 1301 569 (some (.ref a) :: L) st h Q = zG d 1301 570 (some (.ref a) :: L) (.ref a :: st) h Q := g_ldA rfl rfl
theorem g1301_570 : zG d 1301 570 (l0 :: l1 :: l2 :: some (.int x) :: L) st h Q = zG d 1301 571 (l0 :: l1 :: l2 :: some (.int x) :: L) (.int x :: st) h Q := g_ldI rfl rfl
theorem g1301_571 : zG d 1301 571 L st h Q = zG d 1301 572 L (.int 1 :: st) h Q := g_c rfl
theorem g1301_572 : zG d 1301 572 L (.int z :: .int x :: st) h Q = zG d 1301 573 L (.int (x + z) :: st) h Q := g_b (f := fun x z => x + z) rfl
theorem g1301_573 (hT : (zT h b).1 = 30) (hi : zin i (zT h b).2) : zG d 1301 573 L (.int i :: .ref b :: st) h Q = zG d 1301 574 L (.int (zI h b i.toNatClampNeg) :: st) h Q := g_ia rfl hT hi
theorem g1301_574 : zG d 1301 574 (some (.ref a) :: L) st h Q = zG d 1301 575 (some (.ref a) :: L) (.ref a :: st) h Q := g_ldA rfl rfl
theorem g1301_575 : zG d 1301 575 (l0 :: l1 :: l2 :: some (.int x) :: L) st h Q = zG d 1301 576 (l0 :: l1 :: l2 :: some (.int x) :: L) (.int x :: st) h Q := g_ldI rfl rfl
theorem g1301_576 : zG d 1301 576 L st h Q = zG d 1301 577 L (.int 2 :: st) h Q := g_c rfl
theorem g1301_577 : zG d 1301 577 L (.int z :: .int x :: st) h Q = zG d 1301 578 L (.int (x + z) :: st) h Q := g_b (f := fun x z => x + z) rfl
theorem g1301_578 (hT : (zT h b).1 = 30) (hi : zin i (zT h b).2) : zG d 1301 578 L (.int i :: .ref b :: st) h Q = zG d 1301 579 L (.int (zI h b i.toNatClampNeg) :: st) h Q := g_ia rfl hT hi
theorem g1301_579 : zG d 1301 579 (some (.ref a) :: L) st h Q = zG d 1301 580 (some (.ref a) :: L) (.ref a :: st) h Q := g_ldA rfl rfl
theorem g1301_580 : zG d 1301 580 (l0 :: l1 :: l2 :: some (.int x) :: L) st h Q = zG d 1301 581 (l0 :: l1 :: l2 :: some (.int x) :: L) (.int x :: st) h Q := g_ldI rfl rfl
theorem g1301_581 : zG d 1301 581 L st h Q = zG d 1301 582 L (.int 3 :: st) h Q := g_c rfl
theorem g1301_582 : zG d 1301 582 L (.int z :: .int x :: st) h Q = zG d 1301 583 L (.int (x + z) :: st) h Q := g_b (f := fun x z => x + z) rfl
theorem g1301_583 (hT : (zT h b).1 = 30) (hi : zin i (zT h b).2) : zG d 1301 583 L (.int i :: .ref b :: st) h Q = zG d 1301 584 L (.int (zI h b i.toNatClampNeg) :: st) h Q := g_ia rfl hT hi
theorem g1301_584 (hT : (zT h a).1 = 7) : zG d 1301 584 L [v2, v1, v0, .ref a] h Q = zCall d 720 [.ref a, v0, v1, v2] h (fun v h1 => zG d 1301 587 L (zpush v []) h1 Q) := g_cV rfl rfl rfl rfl (Nat.le_of_ble_eq_true rfl) hT
theorem g1301_587 : zG d 1301 587 (l0 :: l1 :: some (.ref a) :: L) st h Q = zG d 1301 588 (l0 :: l1 :: some (.ref a) :: L) (.ref a :: st) h Q := g_ldA rfl rfl
theorem g1301_588 : zG d 1301 588 (some (.ref a) :: L) st h Q = zG d 1301 589 (some (.ref a) :: L) (.ref a :: st) h Q := g_ldA rfl rfl
theorem g1301_589 : zG d 1301 589 (l0 :: l1 :: l2 :: some (.int x) :: L) st h Q = zG d 1301 590 (l0 :: l1 :: l2 :: some (.int x) :: L) (.int x :: st) h Q := g_ldI rfl rfl
theorem g1301_590 : zG d 1301 590 L st h Q = zG d 1301 591 L (.int 1 :: st) h Q := g_c rfl
theorem g1301_591 : zG d 1301 591 L (.int z :: .int x :: st) h Q = zG d 1301 592 L (.int (x + z) :: st) h Q := g_b (f := fun x z => x + z) rfl
theorem g1301_592 (hT : (zT h b).1 = 30) (hi : zin i (zT h b).2) : zG d 1301 592 L (.int i :: .ref b :: st) h Q = zG d 1301 593 L (.int (zI h b i.toNatClampNeg) :: st) h Q := g_ia rfl hT hi
theorem g1301_593 : zG d 1301 593 (some (.ref a) :: L) st h Q = zG d 1301 594 (some (.ref a) :: L) (.ref a :: st) h Q := g_ldA rfl rfl
theorem g1301_594 : zG d 1301 594 (l0 :: l1 :: l2 :: some (.int x) :: L) st h Q = zG d 1301 595 (l0 :: l1 :: l2 :: some (.int x) :: L) (.int x :: st) h Q := g_ldI rfl rfl
theorem g1301_595 : zG d 1301 595 L st h Q = zG d 1301 596 L (.int 2 :: st) h Q := g_c rfl
theorem g1301_596 : zG d 1301 596 L (.int z :: .int x :: st) h Q = zG d 1301 597 L (.int (x + z) :: st) h Q := g_b (f := fun x z => x + z) rfl
theorem g1301_597 (hT : (zT h b).1 = 30) (hi : zin i (zT h b).2) : zG d 1301 597 L (.int i :: .ref b :: st) h Q = zG d 1301 598 L (.int (zI h b i.toNatClampNeg) :: st) h Q := g_ia rfl hT hi
theorem g1301_598 : zG d 1301 598 (some (.ref a) :: L) st h Q = zG d 1301 599 (some (.ref a) :: L) (.ref a :: st) h Q := g_ldA rfl rfl
theorem g1301_599 : zG d 1301 599 (l0 :: l1 :: l2 :: some (.int x) :: L) st h Q = zG d 1301 600 (l0 :: l1 :: l2 :: some (.int x) :: L) (.int x :: st) h Q := g_ldI rfl rfl
theorem g1301_600 : zG d 1301 600 L st h Q = zG d 1301 601 L (.int 3 :: st) h Q := g_c rfl
theorem g1301_601 : zG d 1301 601 L (.int z :: .int x :: st) h Q = zG d 1301 602 L (.int (x + z) :: st) h Q := g_b (f := fun x z => x + z) rfl
theorem g1301_602 (hT : (zT h b).1 = 30) (hi : zin i (zT h b).2) : zG d 1301 602 L (.int i :: .ref b :: st) h Q = zG d 1301 603 L (.int (zI h b i.toNatClampNeg) :: st) h Q := g_ia rfl hT hi
theorem g1301_603 {s0 : Int32} (hT : (zT h a).1 = 8) : zG d 1301 603 L [v2, v1, v0, .ref a, .int s0] h Q = zCall d 847 [.ref a, v0, v1, v2] h (fun v h1 => zG d 1301 606 L (zpush v [.int s0]) h1 Q) := g_cV rfl rfl rfl rfl (Nat.le_of_ble_eq_true rfl) hT
theorem g1301_606 : zG d 1301 606 L (.int z :: .int x :: st) h Q = if x = z then zG d 1301 1251 L st h Q else zG d 1301 609 L st h Q := g_i2 (P := fun x z => x = z) rfl
theorem g1301_609 : zG d 1301 609 L st h Q = zG d 1301 610 L (.int 0 :: st) h Q := g_c rfl
theorem g1301_610 (hx : x = 0 ∨ x = 1) : zG d 1301 610 L [.int x] h Q = Q (some (.int x)) h := g_rI (ok := fun x => x = 0 ∨ x = 1) rfl hx
theorem g1301_611 : zG d 1301 611 (l0 :: some (.ref a) :: L) st h Q = zG d 1301 612 (l0 :: some (.ref a) :: L) (.ref a :: st) h Q := g_ldA rfl rfl
theorem g1301_612 : zG d 1301 612 (some (.ref a) :: L) st h Q = zG d 1301 613 (some (.ref a) :: L) (.ref a :: st) h Q := g_ldA rfl rfl
theorem g1301_613 : zG d 1301 613 (l0 :: l1 :: l2 :: some (.int x) :: L) st h Q = zG d 1301 614 (l0 :: l1 :: l2 :: some (.int x) :: L) (.int x :: st) h Q := g_ldI rfl rfl
theorem g1301_614 : zG d 1301 614 L st h Q = zG d 1301 615 L (.int 1 :: st) h Q := g_c rfl
theorem g1301_615 : zG d 1301 615 L (.int z :: .int x :: st) h Q = zG d 1301 616 L (.int (x + z) :: st) h Q := g_b (f := fun x z => x + z) rfl
theorem g1301_616 (hT : (zT h b).1 = 30) (hi : zin i (zT h b).2) : zG d 1301 616 L (.int i :: .ref b :: st) h Q = zG d 1301 617 L (.int (zI h b i.toNatClampNeg) :: st) h Q := g_ia rfl hT hi
theorem g1301_617 : zG d 1301 617 (some (.ref a) :: L) st h Q = zG d 1301 618 (some (.ref a) :: L) (.ref a :: st) h Q := g_ldA rfl rfl
theorem g1301_618 : zG d 1301 618 (l0 :: l1 :: l2 :: some (.int x) :: L) st h Q = zG d 1301 619 (l0 :: l1 :: l2 :: some (.int x) :: L) (.int x :: st) h Q := g_ldI rfl rfl
theorem g1301_619 : zG d 1301 619 L st h Q = zG d 1301 620 L (.int 2 :: st) h Q := g_c rfl
theorem g1301_620 : zG d 1301 620 L (.int z :: .int x :: st) h Q = zG d 1301 621 L (.int (x + z) :: st) h Q := g_b (f := fun x z => x + z) rfl
theorem g1301_621 (hT : (zT h b).1 = 30) (hi : zin i (zT h b).2) : zG d 1301 621 L (.int i :: .ref b :: st) h Q = zG d 1301 622 L (.int (zI h b i.toNatClampNeg) :: st) h Q := g_ia rfl hT hi
theorem g1301_622 : zG d 1301 622 (some (.ref a) :: L) st h Q = zG d 1301 623 (some (.ref a) :: L) (.ref a :: st) h Q := g_ldA rfl rfl
theorem g1301_623 : zG d 1301 623 (l0 :: l1 :: l2 :: some (.int x) :: L) st h Q = zG d 1301 624 (l0 :: l1 :: l2 :: some (.int x) :: L) (.int x :: st) h Q := g_ldI rfl rfl
theorem g1301_624 : zG d 1301 624 L st h Q = zG d 1301 625 L (.int 3 :: st) h Q := g_c rfl
theorem g1301_625 : zG d 1301 625 L (.int z :: .int x :: st) h Q = zG d 1301 626 L (.int (x + z) :: st) h Q := g_b (f := fun x z => x + z) rfl
theorem g1301_626 (hT : (zT h b).1 = 30) (hi : zin i (zT h b).2) : zG d 1301 626 L (.int i :: .ref b :: st) h Q = zG d 1301 627 L (.int (zI h b i.toNatClampNeg) :: st) h Q := g_ia rfl hT hi
theorem g1301_627 (hT : (zT h a).1 = 7) : zG d 1301 627 L [v2, v1, v0, .ref a] h Q = zCall d 721 [.ref a, v0, v1, v2] h (fun v h1 => zG d 1301 630 L (zpush v []) h1 Q) := g_cV rfl rfl rfl rfl (Nat.le_of_ble_eq_true rfl) hT
theorem g1301_630 : zG d 1301 630 (l0 :: l1 :: some (.ref a) :: L) st h Q = zG d 1301 631 (l0 :: l1 :: some (.ref a) :: L) (.ref a :: st) h Q := g_ldA rfl rfl
theorem g1301_631 : zG d 1301 631 (some (.ref a) :: L) st h Q = zG d 1301 632 (some (.ref a) :: L) (.ref a :: st) h Q := g_ldA rfl rfl
theorem g1301_632 : zG d 1301 632 (l0 :: l1 :: l2 :: some (.int x) :: L) st h Q = zG d 1301 633 (l0 :: l1 :: l2 :: some (.int x) :: L) (.int x :: st) h Q := g_ldI rfl rfl
theorem g1301_633 : zG d 1301 633 L st h Q = zG d 1301 634 L (.int 1 :: st) h Q := g_c rfl
theorem g1301_634 : zG d 1301 634 L (.int z :: .int x :: st) h Q = zG d 1301 635 L (.int (x + z) :: st) h Q := g_b (f := fun x z => x + z) rfl
theorem g1301_635 (hT : (zT h b).1 = 30) (hi : zin i (zT h b).2) : zG d 1301 635 L (.int i :: .ref b :: st) h Q = zG d 1301 636 L (.int (zI h b i.toNatClampNeg) :: st) h Q := g_ia rfl hT hi
theorem g1301_636 : zG d 1301 636 (some (.ref a) :: L) st h Q = zG d 1301 637 (some (.ref a) :: L) (.ref a :: st) h Q := g_ldA rfl rfl
theorem g1301_637 : zG d 1301 637 (l0 :: l1 :: l2 :: some (.int x) :: L) st h Q = zG d 1301 638 (l0 :: l1 :: l2 :: some (.int x) :: L) (.int x :: st) h Q := g_ldI rfl rfl
theorem g1301_638 : zG d 1301 638 L st h Q = zG d 1301 639 L (.int 2 :: st) h Q := g_c rfl
theorem g1301_639 : zG d 1301 639 L (.int z :: .int x :: st) h Q = zG d 1301 640 L (.int (x + z) :: st) h Q := g_b (f := fun x z => x + z) rfl
theorem g1301_640 (hT : (zT h b).1 = 30) (hi : zin i (zT h b).2) : zG d 1301 640 L (.int i :: .ref b :: st) h Q = zG d 1301 641 L (.int (zI h b i.toNatClampNeg) :: st) h Q := g_ia rfl hT hi
theorem g1301_641 : zG d 1301 641 (some (.ref a) :: L) st h Q = zG d 1301 642 (some (.ref a) :: L) (.ref a :: st) h Q := g_ldA rfl rfl
theorem g1301_642 : zG d 1301 642 (l0 :: l1 :: l2 :: some (.int x) :: L) st h Q = zG d 1301 643 (l0 :: l1 :: l2 :: some (.int x) :: L) (.int x :: st) h Q := g_ldI rfl rfl
theorem g1301_643 : zG d 1301 643 L st h Q = zG d 1301 644 L (.int 3 :: st) h Q := g_c rfl
theorem g1301_644 : zG d 1301 644 L (.int z :: .int x :: st) h Q = zG d 1301 645 L (.int (x + z) :: st) h Q := g_b (f := fun x z => x + z) rfl
theorem g1301_645 (hT : (zT h b).1 = 30) (hi : zin i (zT h b).2) : zG d 1301 645 L (.int i :: .ref b :: st) h Q = zG d 1301 646 L (.int (zI h b i.toNatClampNeg) :: st) h Q := g_ia rfl hT hi
theorem g1301_646 {s0 : Int32} (hT : (zT h a).1 = 8) : zG d 1301 646 L [v2, v1, v0, .ref a, .int s0] h Q = zCall d 850 [.ref a, v0, v1, v2] h (fun v h1 => zG d 1301 649 L (zpush v [.int s0]) h1 Q) := g_cV rfl rfl rfl rfl (Nat.le_of_ble_eq_true rfl) hT
theorem g1301_649 : zG d 1301 649 L (.int z :: .int x :: st) h Q = if x = z then zG d 1301 1251 L st h Q else zG d 1301 652 L st h Q := g_i2 (P := fun x z => x = z) rfl
theorem g1301_652 : zG d 1301 652 L st h Q = zG d 1301 653 L (.int 0 :: st) h Q := g_c rfl
theorem g1301_653 (hx : x = 0 ∨ x = 1) : zG d 1301 653 L [.int x] h Q = Q (some (.int x)) h := g_rI (ok := fun x => x = 0 ∨ x = 1) rfl hx
theorem g1301_654 : zG d 1301 654 (l0 :: some (.ref a) :: L) st h Q = zG d 1301 655 (l0 :: some (.ref a) :: L) (.ref a :: st) h Q := g_ldA rfl rfl
theorem g1301_655 : zG d 1301 655 (some (.ref a) :: L) st h Q = zG d 1301 656 (some (.ref a) :: L) (.ref a :: st) h Q := g_ldA rfl rfl
theorem g1301_656 : zG d 1301 656 (l0 :: l1 :: l2 :: some (.int x) :: L) st h Q = zG d 1301 657 (l0 :: l1 :: l2 :: some (.int x) :: L) (.int x :: st) h Q := g_ldI rfl rfl
theorem g1301_657 : zG d 1301 657 L st h Q = zG d 1301 658 L (.int 1 :: st) h Q := g_c rfl
theorem g1301_658 : zG d 1301 658 L (.int z :: .int x :: st) h Q = zG d 1301 659 L (.int (x + z) :: st) h Q := g_b (f := fun x z => x + z) rfl
theorem g1301_659 (hT : (zT h b).1 = 30) (hi : zin i (zT h b).2) : zG d 1301 659 L (.int i :: .ref b :: st) h Q = zG d 1301 660 L (.int (zI h b i.toNatClampNeg) :: st) h Q := g_ia rfl hT hi
theorem g1301_660 (hT : (zT h a).1 = 7) : zG d 1301 660 L [v0, .ref a] h Q = zCall d 722 [.ref a, v0] h (fun v h1 => zG d 1301 663 L (zpush v []) h1 Q) := g_cV rfl rfl rfl rfl (Nat.le_of_ble_eq_true rfl) hT
theorem g1301_663 : zG d 1301 663 (l0 :: l1 :: some (.ref a) :: L) st h Q = zG d 1301 664 (l0 :: l1 :: some (.ref a) :: L) (.ref a :: st) h Q := g_ldA rfl rfl
theorem g1301_664 : zG d 1301 664 (some (.ref a) :: L) st h Q = zG d 1301 665 (some (.ref a) :: L) (.ref a :: st) h Q := g_ldA rfl rfl
theorem g1301_665 : zG d 1301 665 (l0 :: l1 :: l2 :: some (.int x) :: L) st h Q = zG d 1301 666 (l0 :: l1 :: l2 :: some (.int x) :: L) (.int x :: st) h Q := g_ldI rfl rfl
theorem g1301_666 : zG d 1301 666 L st h Q = zG d 1301 667 L (.int 1 :: st) h Q := g_c rfl
theorem g1301_667 : zG d 1301 667 L (.int z :: .int x :: st) h Q = zG d 1301 668 L (.int (x + z) :: st) h Q := g_b (f := fun x z => x + z) rfl
theorem g1301_668 (hT : (zT h b).1 = 30) (hi : zin i (zT h b).2) : zG d 1301 668 L (.int i :: .ref b :: st) h Q = zG d 1301 669 L (.int (zI h b i.toNatClampNeg) :: st) h Q := g_ia rfl hT hi
theorem g1301_669 {s0 : Int32} (hT : (zT h a).1 = 8) : zG d 1301 669 L [v0, .ref a, .int s0] h Q = zCall d 851 [.ref a, v0] h (fun v h1 => zG d 1301 672 L (zpush v [.int s0]) h1 Q) := g_cV rfl rfl rfl rfl (Nat.le_of_ble_eq_true rfl) hT
theorem g1301_672 : zG d 1301 672 L (.int z :: .int x :: st) h Q = if x = z then zG d 1301 1251 L st h Q else zG d 1301 675 L st h Q := g_i2 (P := fun x z => x = z) rfl
theorem g1301_675 : zG d 1301 675 L st h Q = zG d 1301 676 L (.int 0 :: st) h Q := g_c rfl
theorem g1301_676 (hx : x = 0 ∨ x = 1) : zG d 1301 676 L [.int x] h Q = Q (some (.int x)) h := g_rI (ok := fun x => x = 0 ∨ x = 1) rfl hx
theorem g1301_677 : zG d 1301 677 (l0 :: some (.ref a) :: L) st h Q = zG d 1301 678 (l0 :: some (.ref a) :: L) (.ref a :: st) h Q := g_ldA rfl rfl
theorem g1301_678 : zG d 1301 678 (some (.ref a) :: L) st h Q = zG d 1301 679 (some (.ref a) :: L) (.ref a :: st) h Q := g_ldA rfl rfl
theorem g1301_679 : zG d 1301 679 (l0 :: l1 :: l2 :: some (.int x) :: L) st h Q = zG d 1301 680 (l0 :: l1 :: l2 :: some (.int x) :: L) (.int x :: st) h Q := g_ldI rfl rfl
theorem g1301_680 : zG d 1301 680 L st h Q = zG d 1301 681 L (.int 1 :: st) h Q := g_c rfl
theorem g1301_681 : zG d 1301 681 L (.int z :: .int x :: st) h Q = zG d 1301 682 L (.int (x + z) :: st) h Q := g_b (f := fun x z => x + z) rfl
theorem g1301_682 (hT : (zT h b).1 = 30) (hi : zin i (zT h b).2) : zG d 1301 682 L (.int i :: .ref b :: st) h Q = zG d 1301 683 L (.int (zI h b i.toNatClampNeg) :: st) h Q := g_ia rfl hT hi
theorem g1301_683 : zG d 1301 683 (some (.ref a) :: L) st h Q = zG d 1301 684 (some (.ref a) :: L) (.ref a :: st) h Q := g_ldA rfl rfl
theorem g1301_684 : zG d 1301 684 (l0 :: l1 :: l2 :: some (.int x) :: L) st h Q = zG d 1301 685 (l0 :: l1 :: l2 :: some (.int x) :: L) (.int x :: st) h Q := g_ldI rfl rfl
theorem g1301_685 : zG d 1301 685 L st h Q = zG d 1301 686 L (.int 2 :: st) h Q := g_c rfl
theorem g1301_686 : zG d 1301 686 L (.int z :: .int x :: st) h Q = zG d 1301 687 L (.int (x + z) :: st) h Q := g_b (f := fun x z => x + z) rfl
theorem g1301_687 (hT : (zT h b).1 = 30) (hi : zin i (zT h b).2) : zG d 1301 687 L (.int i :: .ref b :: st) h Q = zG d 1301 688 L (.int (zI h b i.toNatClampNeg) :: st) h Q := g_ia rfl hT hi
theorem g1301_688 : zG d 1301 688 (some (.ref a) :: L) st h Q = zG d 1301 689 (some (.ref a) :: L) (.ref a :: st) h Q := g_ldA rfl rfl
theorem g1301_689 : zG d 1301 689 (l0 :: l1 :: l2 :: some (.int x) :: L) st h Q = zG d 1301 690 (l0 :: l1 :: l2 :: some (.int x) :: L) (.int x :: st) h Q := g_ldI rfl rfl
theorem g1301_690 : zG d 1301 690 L st h Q = zG d 1301 691 L (.int 3 :: st) h Q := g_c rfl
theorem g1301_691 : zG d 1301 691 L (.int z :: .int x :: st) h Q = zG d 1301 692 L (.int (x + z) :: st) h Q := g_b (f := fun x z => x + z) rfl
theorem g1301_692 (hT : (zT h b).1 = 30) (hi : zin i (zT h b).2) : zG d 1301 692 L (.int i :: .ref b :: st) h Q = zG d 1301 693 L (.int (zI h b i.toNatClampNeg) :: st) h Q := g_ia rfl hT hi
theorem g1301_693 (hT : (zT h a).1 = 7) : zG d 1301 693 L [v2, v1, v0, .ref a] h Q = zCall d 724 [.ref a, v0, v1, v2] h (fun v h1 => zG d 1301 696 L (zpush v []) h1 Q) := g_cV rfl rfl rfl rfl (Nat.le_of_ble_eq_true rfl) hT
theorem g1301_696 : zG d 1301 696 (l0 :: l1 :: some (.ref a) :: L) st h Q = zG d 1301 697 (l0 :: l1 :: some (.ref a) :: L) (.ref a :: st) h Q := g_ldA rfl rfl
theorem g1301_697 : zG d 1301 697 (some (.ref a) :: L) st h Q = zG d 1301 698 (some (.ref a) :: L) (.ref a :: st) h Q := g_ldA rfl rfl
theorem g1301_698 : zG d 1301 698 (l0 :: l1 :: l2 :: some (.int x) :: L) st h Q = zG d 1301 699 (l0 :: l1 :: l2 :: some (.int x) :: L) (.int x :: st) h Q := g_ldI rfl rfl
theorem g1301_699 : zG d 1301 699 L st h Q = zG d 1301 700 L (.int 1 :: st) h Q := g_c rfl
theorem g1301_700 : zG d 1301 700 L (.int z :: .int x :: st) h Q = zG d 1301 701 L (.int (x + z) :: st) h Q := g_b (f := fun x z => x + z) rfl
theorem g1301_701 (hT : (zT h b).1 = 30) (hi : zin i (zT h b).2) : zG d 1301 701 L (.int i :: .ref b :: st) h Q = zG d 1301 702 L (.int (zI h b i.toNatClampNeg) :: st) h Q := g_ia rfl hT hi
theorem g1301_702 : zG d 1301 702 (some (.ref a) :: L) st h Q = zG d 1301 703 (some (.ref a) :: L) (.ref a :: st) h Q := g_ldA rfl rfl
theorem g1301_703 : zG d 1301 703 (l0 :: l1 :: l2 :: some (.int x) :: L) st h Q = zG d 1301 704 (l0 :: l1 :: l2 :: some (.int x) :: L) (.int x :: st) h Q := g_ldI rfl rfl
theorem g1301_704 : zG d 1301 704 L st h Q = zG d 1301 705 L (.int 2 :: st) h Q := g_c rfl
theorem g1301_705 : zG d 1301 705 L (.int z :: .int x :: st) h Q = zG d 1301 706 L (.int (x + z) :: st) h Q := g_b (f := fun x z => x + z) rfl
theorem g1301_706 (hT : (zT h b).1 = 30) (hi : zin i (zT h b).2) : zG d 1301 706 L (.int i :: .ref b :: st) h Q = zG d 1301 707 L (.int (zI h b i.toNatClampNeg) :: st) h Q := g_ia rfl hT hi
theorem g1301_707 : zG d 1301 707 (some (.ref a) :: L) st h Q = zG d 1301 708 (some (.ref a) :: L) (.ref a :: st) h Q := g_ldA rfl rfl
theorem g1301_708 : zG d 1301 708 (l0 :: l1 :: l2 :: some (.int x) :: L) st h Q = zG d 1301 709 (l0 :: l1 :: l2 :: some (.int x) :: L) (.int x :: st) h Q := g_ldI rfl rfl
theorem g1301_709 : zG d 1301 709 L st h Q = zG d 1301 710 L (.int 3 :: st) h Q := g_c rfl
theorem g1301_710 : zG d 1301 710 L (.int z :: .int x :: st) h Q = zG d 1301 711 L (.int (x + z) :: st) h Q := g_b (f := fun x z => x + z) rfl
theorem g1301_711 (hT : (zT h b).1 = 30) (hi : zin i (zT h b).2) : zG d 1301 711 L (.int i :: .ref b :: st) h Q = zG d 1301 712 L (.int (zI h b i.toNatClampNeg) :: st) h Q := g_ia rfl hT hi
theorem g1301_712 {s0 : Int64} (hT : (zT h a).1 = 8) : zG d 1301 712 L [v2, v1, v0, .ref a, .long s0] h Q = zCall d 853 [.ref a, v0, v1, v2] h (fun v h1 => zG d 1301 715 L (zpush v [.long s0]) h1 Q) := g_cV rfl rfl rfl rfl (Nat.le_of_ble_eq_true rfl) hT
theorem g1301_715 : zG d 1301 715 L (.long w :: .long u :: st) h Q = zG d 1301 716 L (.int (zcmp u w) :: st) h Q := g_lcmp rfl
theorem g1301_716 : zG d 1301 716 L (.int x :: st) h Q = if x = 0 then zG d 1301 1251 L st h Q else zG d 1301 719 L st h Q := g_i1 (P := fun x => x = 0) rfl
theorem g1301_719 : zG d 1301 719 L st h Q = zG d 1301 720 L (.int 0 :: st) h Q := g_c rfl
theorem g1301_720 (hx : x = 0 ∨ x = 1) : zG d 1301 720 L [.int x] h Q = Q (some (.int x)) h := g_rI (ok := fun x => x = 0 ∨ x = 1) rfl hx
theorem g1301_721 : zG d 1301 721 (l0 :: some (.ref a) :: L) st h Q = zG d 1301 722 (l0 :: some (.ref a) :: L) (.ref a :: st) h Q := g_ldA rfl rfl
theorem g1301_722 : zG d 1301 722 (some (.ref a) :: L) st h Q = zG d 1301 723 (some (.ref a) :: L) (.ref a :: st) h Q := g_ldA rfl rfl
theorem g1301_723 : zG d 1301 723 (l0 :: l1 :: l2 :: some (.int x) :: L) st h Q = zG d 1301 724 (l0 :: l1 :: l2 :: some (.int x) :: L) (.int x :: st) h Q := g_ldI rfl rfl
theorem g1301_724 : zG d 1301 724 L st h Q = zG d 1301 725 L (.int 1 :: st) h Q := g_c rfl
theorem g1301_725 : zG d 1301 725 L (.int z :: .int x :: st) h Q = zG d 1301 726 L (.int (x + z) :: st) h Q := g_b (f := fun x z => x + z) rfl
theorem g1301_726 (hT : (zT h b).1 = 30) (hi : zin i (zT h b).2) : zG d 1301 726 L (.int i :: .ref b :: st) h Q = zG d 1301 727 L (.int (zI h b i.toNatClampNeg) :: st) h Q := g_ia rfl hT hi
theorem g1301_727 : zG d 1301 727 (some (.ref a) :: L) st h Q = zG d 1301 728 (some (.ref a) :: L) (.ref a :: st) h Q := g_ldA rfl rfl
theorem g1301_728 : zG d 1301 728 (l0 :: l1 :: l2 :: some (.int x) :: L) st h Q = zG d 1301 729 (l0 :: l1 :: l2 :: some (.int x) :: L) (.int x :: st) h Q := g_ldI rfl rfl
theorem g1301_729 : zG d 1301 729 L st h Q = zG d 1301 730 L (.int 2 :: st) h Q := g_c rfl
theorem g1301_730 : zG d 1301 730 L (.int z :: .int x :: st) h Q = zG d 1301 731 L (.int (x + z) :: st) h Q := g_b (f := fun x z => x + z) rfl
theorem g1301_731 (hT : (zT h b).1 = 30) (hi : zin i (zT h b).2) : zG d 1301 731 L (.int i :: .ref b :: st) h Q = zG d 1301 732 L (.int (zI h b i.toNatClampNeg) :: st) h Q := g_ia rfl hT hi
theorem g1301_732 (hT : (zT h a).1 = 7) : zG d 1301 732 L [v1, v0, .ref a] h Q = zCall d 725 [.ref a, v0, v1] h (fun v h1 => zG d 1301 735 L (zpush v []) h1 Q) := g_cV rfl rfl rfl rfl (Nat.le_of_ble_eq_true rfl) hT
theorem g1301_735 : zG d 1301 735 (l0 :: l1 :: some (.ref a) :: L) st h Q = zG d 1301 736 (l0 :: l1 :: some (.ref a) :: L) (.ref a :: st) h Q := g_ldA rfl rfl
theorem g1301_736 : zG d 1301 736 (some (.ref a) :: L) st h Q = zG d 1301 737 (some (.ref a) :: L) (.ref a :: st) h Q := g_ldA rfl rfl
theorem g1301_737 : zG d 1301 737 (l0 :: l1 :: l2 :: some (.int x) :: L) st h Q = zG d 1301 738 (l0 :: l1 :: l2 :: some (.int x) :: L) (.int x :: st) h Q := g_ldI rfl rfl
theorem g1301_738 : zG d 1301 738 L st h Q = zG d 1301 739 L (.int 1 :: st) h Q := g_c rfl
theorem g1301_739 : zG d 1301 739 L (.int z :: .int x :: st) h Q = zG d 1301 740 L (.int (x + z) :: st) h Q := g_b (f := fun x z => x + z) rfl
theorem g1301_740 (hT : (zT h b).1 = 30) (hi : zin i (zT h b).2) : zG d 1301 740 L (.int i :: .ref b :: st) h Q = zG d 1301 741 L (.int (zI h b i.toNatClampNeg) :: st) h Q := g_ia rfl hT hi
theorem g1301_741 : zG d 1301 741 (some (.ref a) :: L) st h Q = zG d 1301 742 (some (.ref a) :: L) (.ref a :: st) h Q := g_ldA rfl rfl
theorem g1301_742 : zG d 1301 742 (l0 :: l1 :: l2 :: some (.int x) :: L) st h Q = zG d 1301 743 (l0 :: l1 :: l2 :: some (.int x) :: L) (.int x :: st) h Q := g_ldI rfl rfl
theorem g1301_743 : zG d 1301 743 L st h Q = zG d 1301 744 L (.int 2 :: st) h Q := g_c rfl
theorem g1301_744 : zG d 1301 744 L (.int z :: .int x :: st) h Q = zG d 1301 745 L (.int (x + z) :: st) h Q := g_b (f := fun x z => x + z) rfl
theorem g1301_745 (hT : (zT h b).1 = 30) (hi : zin i (zT h b).2) : zG d 1301 745 L (.int i :: .ref b :: st) h Q = zG d 1301 746 L (.int (zI h b i.toNatClampNeg) :: st) h Q := g_ia rfl hT hi
theorem g1301_746 {s0 : Int64} (hT : (zT h a).1 = 8) : zG d 1301 746 L [v1, v0, .ref a, .long s0] h Q = zCall d 854 [.ref a, v0, v1] h (fun v h1 => zG d 1301 749 L (zpush v [.long s0]) h1 Q) := g_cV rfl rfl rfl rfl (Nat.le_of_ble_eq_true rfl) hT
theorem g1301_749 : zG d 1301 749 L (.long w :: .long u :: st) h Q = zG d 1301 750 L (.int (zcmp u w) :: st) h Q := g_lcmp rfl
theorem g1301_750 : zG d 1301 750 L (.int x :: st) h Q = if x = 0 then zG d 1301 1251 L st h Q else zG d 1301 753 L st h Q := g_i1 (P := fun x => x = 0) rfl
theorem g1301_753 : zG d 1301 753 L st h Q = zG d 1301 754 L (.int 0 :: st) h Q := g_c rfl
theorem g1301_754 (hx : x = 0 ∨ x = 1) : zG d 1301 754 L [.int x] h Q = Q (some (.int x)) h := g_rI (ok := fun x => x = 0 ∨ x = 1) rfl hx
theorem g1301_755 : zG d 1301 755 (l0 :: some (.ref a) :: L) st h Q = zG d 1301 756 (l0 :: some (.ref a) :: L) (.ref a :: st) h Q := g_ldA rfl rfl
theorem g1301_756 : zG d 1301 756 (some (.ref a) :: L) st h Q = zG d 1301 757 (some (.ref a) :: L) (.ref a :: st) h Q := g_ldA rfl rfl
theorem g1301_757 : zG d 1301 757 (l0 :: l1 :: l2 :: some (.int x) :: L) st h Q = zG d 1301 758 (l0 :: l1 :: l2 :: some (.int x) :: L) (.int x :: st) h Q := g_ldI rfl rfl
theorem g1301_758 : zG d 1301 758 L st h Q = zG d 1301 759 L (.int 1 :: st) h Q := g_c rfl
theorem g1301_759 : zG d 1301 759 L (.int z :: .int x :: st) h Q = zG d 1301 760 L (.int (x + z) :: st) h Q := g_b (f := fun x z => x + z) rfl
theorem g1301_760 (hT : (zT h b).1 = 30) (hi : zin i (zT h b).2) : zG d 1301 760 L (.int i :: .ref b :: st) h Q = zG d 1301 761 L (.int (zI h b i.toNatClampNeg) :: st) h Q := g_ia rfl hT hi
theorem g1301_761 : zG d 1301 761 (some (.ref a) :: L) st h Q = zG d 1301 762 (some (.ref a) :: L) (.ref a :: st) h Q := g_ldA rfl rfl
theorem g1301_762 : zG d 1301 762 (l0 :: l1 :: l2 :: some (.int x) :: L) st h Q = zG d 1301 763 (l0 :: l1 :: l2 :: some (.int x) :: L) (.int x :: st) h Q := g_ldI rfl rfl
theorem g1301_763 : zG d 1301 763 L st h Q = zG d 1301 764 L (.int 2 :: st) h Q := g_c rfl
theorem g1301_764 : zG d 1301 764 L (.int z :: .int x :: st) h Q = zG d 1301 765 L (.int (x + z) :: st) h Q := g_b (f := fun x z => x + z) rfl
theorem g1301_765 (hT : (zT h b).1 = 30) (hi : zin i (zT h b).2) : zG d 1301 765 L (.int i :: .ref b :: st) h Q = zG d 1301 766 L (.int (zI h b i.toNatClampNeg) :: st) h Q := g_ia rfl hT hi
theorem g1301_766 (hT : (zT h a).1 = 7) : zG d 1301 766 L [v1, v0, .ref a] h Q = zCall d 727 [.ref a, v0, v1] h (fun v h1 => zG d 1301 769 L (zpush v []) h1 Q) := g_cV rfl rfl rfl rfl (Nat.le_of_ble_eq_true rfl) hT
theorem g1301_769 : zG d 1301 769 (l0 :: l1 :: some (.ref a) :: L) st h Q = zG d 1301 770 (l0 :: l1 :: some (.ref a) :: L) (.ref a :: st) h Q := g_ldA rfl rfl
theorem g1301_770 : zG d 1301 770 (some (.ref a) :: L) st h Q = zG d 1301 771 (some (.ref a) :: L) (.ref a :: st) h Q := g_ldA rfl rfl
theorem g1301_771 : zG d 1301 771 (l0 :: l1 :: l2 :: some (.int x) :: L) st h Q = zG d 1301 772 (l0 :: l1 :: l2 :: some (.int x) :: L) (.int x :: st) h Q := g_ldI rfl rfl
theorem g1301_772 : zG d 1301 772 L st h Q = zG d 1301 773 L (.int 1 :: st) h Q := g_c rfl
theorem g1301_773 : zG d 1301 773 L (.int z :: .int x :: st) h Q = zG d 1301 774 L (.int (x + z) :: st) h Q := g_b (f := fun x z => x + z) rfl
theorem g1301_774 (hT : (zT h b).1 = 30) (hi : zin i (zT h b).2) : zG d 1301 774 L (.int i :: .ref b :: st) h Q = zG d 1301 775 L (.int (zI h b i.toNatClampNeg) :: st) h Q := g_ia rfl hT hi
theorem g1301_775 : zG d 1301 775 (some (.ref a) :: L) st h Q = zG d 1301 776 (some (.ref a) :: L) (.ref a :: st) h Q := g_ldA rfl rfl
theorem g1301_776 : zG d 1301 776 (l0 :: l1 :: l2 :: some (.int x) :: L) st h Q = zG d 1301 777 (l0 :: l1 :: l2 :: some (.int x) :: L) (.int x :: st) h Q := g_ldI rfl rfl
theorem g1301_777 : zG d 1301 777 L st h Q = zG d 1301 778 L (.int 2 :: st) h Q := g_c rfl
theorem g1301_778 : zG d 1301 778 L (.int z :: .int x :: st) h Q = zG d 1301 779 L (.int (x + z) :: st) h Q := g_b (f := fun x z => x + z) rfl
theorem g1301_779 (hT : (zT h b).1 = 30) (hi : zin i (zT h b).2) : zG d 1301 779 L (.int i :: .ref b :: st) h Q = zG d 1301 780 L (.int (zI h b i.toNatClampNeg) :: st) h Q := g_ia rfl hT hi
theorem g1301_780 {s0 : Int32} (hT : (zT h a).1 = 8) : zG d 1301 780 L [v1, v0, .ref a, .int s0] h Q = zCall d 855 [.ref a, v0, v1] h (fun v h1 => zG d 1301 783 L (zpush v [.int s0]) h1 Q) := g_cV rfl rfl rfl rfl (Nat.le_of_ble_eq_true rfl) hT
theorem g1301_783 : zG d 1301 783 L (.int z :: .int x :: st) h Q = if x = z then zG d 1301 1251 L st h Q else zG d 1301 786 L st h Q := g_i2 (P := fun x z => x = z) rfl
theorem g1301_786 : zG d 1301 786 L st h Q = zG d 1301 787 L (.int 0 :: st) h Q := g_c rfl
theorem g1301_787 (hx : x = 0 ∨ x = 1) : zG d 1301 787 L [.int x] h Q = Q (some (.int x)) h := g_rI (ok := fun x => x = 0 ∨ x = 1) rfl hx
theorem g1301_788 : zG d 1301 788 (l0 :: some (.ref a) :: L) st h Q = zG d 1301 789 (l0 :: some (.ref a) :: L) (.ref a :: st) h Q := g_ldA rfl rfl
theorem g1301_789 : zG d 1301 789 (some (.ref a) :: L) st h Q = zG d 1301 790 (some (.ref a) :: L) (.ref a :: st) h Q := g_ldA rfl rfl
theorem g1301_790 : zG d 1301 790 (l0 :: l1 :: l2 :: some (.int x) :: L) st h Q = zG d 1301 791 (l0 :: l1 :: l2 :: some (.int x) :: L) (.int x :: st) h Q := g_ldI rfl rfl
theorem g1301_791 : zG d 1301 791 L st h Q = zG d 1301 792 L (.int 1 :: st) h Q := g_c rfl
theorem g1301_792 : zG d 1301 792 L (.int z :: .int x :: st) h Q = zG d 1301 793 L (.int (x + z) :: st) h Q := g_b (f := fun x z => x + z) rfl
theorem g1301_793 (hT : (zT h b).1 = 30) (hi : zin i (zT h b).2) : zG d 1301 793 L (.int i :: .ref b :: st) h Q = zG d 1301 794 L (.int (zI h b i.toNatClampNeg) :: st) h Q := g_ia rfl hT hi
theorem g1301_794 (hT : (zT h a).1 = 7) : zG d 1301 794 L [v0, .ref a] h Q = zCall d 728 [.ref a, v0] h (fun v h1 => zG d 1301 797 L (zpush v []) h1 Q) := g_cV rfl rfl rfl rfl (Nat.le_of_ble_eq_true rfl) hT
theorem g1301_797 : zG d 1301 797 (l0 :: l1 :: some (.ref a) :: L) st h Q = zG d 1301 798 (l0 :: l1 :: some (.ref a) :: L) (.ref a :: st) h Q := g_ldA rfl rfl
theorem g1301_798 : zG d 1301 798 (some (.ref a) :: L) st h Q = zG d 1301 799 (some (.ref a) :: L) (.ref a :: st) h Q := g_ldA rfl rfl
theorem g1301_799 : zG d 1301 799 (l0 :: l1 :: l2 :: some (.int x) :: L) st h Q = zG d 1301 800 (l0 :: l1 :: l2 :: some (.int x) :: L) (.int x :: st) h Q := g_ldI rfl rfl
theorem g1301_800 : zG d 1301 800 L st h Q = zG d 1301 801 L (.int 1 :: st) h Q := g_c rfl
theorem g1301_801 : zG d 1301 801 L (.int z :: .int x :: st) h Q = zG d 1301 802 L (.int (x + z) :: st) h Q := g_b (f := fun x z => x + z) rfl
theorem g1301_802 (hT : (zT h b).1 = 30) (hi : zin i (zT h b).2) : zG d 1301 802 L (.int i :: .ref b :: st) h Q = zG d 1301 803 L (.int (zI h b i.toNatClampNeg) :: st) h Q := g_ia rfl hT hi
theorem g1301_803 {s0 : Int32} (hT : (zT h a).1 = 8) : zG d 1301 803 L [v0, .ref a, .int s0] h Q = zCall d 857 [.ref a, v0] h (fun v h1 => zG d 1301 806 L (zpush v [.int s0]) h1 Q) := g_cV rfl rfl rfl rfl (Nat.le_of_ble_eq_true rfl) hT
theorem g1301_806 : zG d 1301 806 L (.int z :: .int x :: st) h Q = if x = z then zG d 1301 1251 L st h Q else zG d 1301 809 L st h Q := g_i2 (P := fun x z => x = z) rfl
theorem g1301_809 : zG d 1301 809 L st h Q = zG d 1301 810 L (.int 0 :: st) h Q := g_c rfl
theorem g1301_810 (hx : x = 0 ∨ x = 1) : zG d 1301 810 L [.int x] h Q = Q (some (.int x)) h := g_rI (ok := fun x => x = 0 ∨ x = 1) rfl hx
theorem g1301_811 : zG d 1301 811 (l0 :: some (.ref a) :: L) st h Q = zG d 1301 812 (l0 :: some (.ref a) :: L) (.ref a :: st) h Q := g_ldA rfl rfl
theorem g1301_812 : zG d 1301 812 (some (.ref a) :: L) st h Q = zG d 1301 813 (some (.ref a) :: L) (.ref a :: st) h Q := g_ldA rfl rfl
theorem g1301_813 : zG d 1301 813 (l0 :: l1 :: l2 :: some (.int x) :: L) st h Q = zG d 1301 814 (l0 :: l1 :: l2 :: some (.int x) :: L) (.int x :: st) h Q := g_ldI rfl rfl
theorem g1301_814 : zG d 1301 814 L st h Q = zG d 1301 815 L (.int 1 :: st) h Q := g_c rfl
theorem g1301_815 : zG d 1301 815 L (.int z :: .int x :: st) h Q = zG d 1301 816 L (.int (x + z) :: st) h Q := g_b (f := fun x z => x + z) rfl
theorem g1301_816 (hT : (zT h b).1 = 30) (hi : zin i (zT h b).2) : zG d 1301 816 L (.int i :: .ref b :: st) h Q = zG d 1301 817 L (.int (zI h b i.toNatClampNeg) :: st) h Q := g_ia rfl hT hi
theorem g1301_817 : zG d 1301 817 (some (.ref a) :: L) st h Q = zG d 1301 818 (some (.ref a) :: L) (.ref a :: st) h Q := g_ldA rfl rfl
theorem g1301_818 : zG d 1301 818 (l0 :: l1 :: l2 :: some (.int x) :: L) st h Q = zG d 1301 819 (l0 :: l1 :: l2 :: some (.int x) :: L) (.int x :: st) h Q := g_ldI rfl rfl
theorem g1301_819 : zG d 1301 819 L st h Q = zG d 1301 820 L (.int 2 :: st) h Q := g_c rfl
theorem g1301_820 : zG d 1301 820 L (.int z :: .int x :: st) h Q = zG d 1301 821 L (.int (x + z) :: st) h Q := g_b (f := fun x z => x + z) rfl
theorem g1301_821 (hT : (zT h b).1 = 30) (hi : zin i (zT h b).2) : zG d 1301 821 L (.int i :: .ref b :: st) h Q = zG d 1301 822 L (.int (zI h b i.toNatClampNeg) :: st) h Q := g_ia rfl hT hi
theorem g1301_822 (hT : (zT h a).1 = 7) : zG d 1301 822 L [v1, v0, .ref a] h Q = zCall d 730 [.ref a, v0, v1] h (fun v h1 => zG d 1301 825 L (zpush v []) h1 Q) := g_cV rfl rfl rfl rfl (Nat.le_of_ble_eq_true rfl) hT
theorem g1301_825 : zG d 1301 825 (l0 :: l1 :: some (.ref a) :: L) st h Q = zG d 1301 826 (l0 :: l1 :: some (.ref a) :: L) (.ref a :: st) h Q := g_ldA rfl rfl
theorem g1301_826 : zG d 1301 826 (some (.ref a) :: L) st h Q = zG d 1301 827 (some (.ref a) :: L) (.ref a :: st) h Q := g_ldA rfl rfl
theorem g1301_827 : zG d 1301 827 (l0 :: l1 :: l2 :: some (.int x) :: L) st h Q = zG d 1301 828 (l0 :: l1 :: l2 :: some (.int x) :: L) (.int x :: st) h Q := g_ldI rfl rfl
theorem g1301_828 : zG d 1301 828 L st h Q = zG d 1301 829 L (.int 1 :: st) h Q := g_c rfl
theorem g1301_829 : zG d 1301 829 L (.int z :: .int x :: st) h Q = zG d 1301 830 L (.int (x + z) :: st) h Q := g_b (f := fun x z => x + z) rfl
theorem g1301_830 (hT : (zT h b).1 = 30) (hi : zin i (zT h b).2) : zG d 1301 830 L (.int i :: .ref b :: st) h Q = zG d 1301 831 L (.int (zI h b i.toNatClampNeg) :: st) h Q := g_ia rfl hT hi
theorem g1301_831 : zG d 1301 831 (some (.ref a) :: L) st h Q = zG d 1301 832 (some (.ref a) :: L) (.ref a :: st) h Q := g_ldA rfl rfl
theorem g1301_832 : zG d 1301 832 (l0 :: l1 :: l2 :: some (.int x) :: L) st h Q = zG d 1301 833 (l0 :: l1 :: l2 :: some (.int x) :: L) (.int x :: st) h Q := g_ldI rfl rfl
theorem g1301_833 : zG d 1301 833 L st h Q = zG d 1301 834 L (.int 2 :: st) h Q := g_c rfl
theorem g1301_834 : zG d 1301 834 L (.int z :: .int x :: st) h Q = zG d 1301 835 L (.int (x + z) :: st) h Q := g_b (f := fun x z => x + z) rfl
theorem g1301_835 (hT : (zT h b).1 = 30) (hi : zin i (zT h b).2) : zG d 1301 835 L (.int i :: .ref b :: st) h Q = zG d 1301 836 L (.int (zI h b i.toNatClampNeg) :: st) h Q := g_ia rfl hT hi
theorem g1301_836 {s0 : Int32} (hT : (zT h a).1 = 8) : zG d 1301 836 L [v1, v0, .ref a, .int s0] h Q = zCall d 858 [.ref a, v0, v1] h (fun v h1 => zG d 1301 839 L (zpush v [.int s0]) h1 Q) := g_cV rfl rfl rfl rfl (Nat.le_of_ble_eq_true rfl) hT
theorem g1301_839 : zG d 1301 839 L (.int z :: .int x :: st) h Q = if x = z then zG d 1301 1251 L st h Q else zG d 1301 842 L st h Q := g_i2 (P := fun x z => x = z) rfl
theorem g1301_842 : zG d 1301 842 L st h Q = zG d 1301 843 L (.int 0 :: st) h Q := g_c rfl
theorem g1301_843 (hx : x = 0 ∨ x = 1) : zG d 1301 843 L [.int x] h Q = Q (some (.int x)) h := g_rI (ok := fun x => x = 0 ∨ x = 1) rfl hx
theorem g1301_844 : zG d 1301 844 (l0 :: some (.ref a) :: L) st h Q = zG d 1301 845 (l0 :: some (.ref a) :: L) (.ref a :: st) h Q := g_ldA rfl rfl
theorem g1301_845 (hT : (zT h a).1 = 7) : zG d 1301 845 L [.ref a] h Q = zCall d 731 [.ref a] h (fun v h1 => zG d 1301 848 L (zpush v []) h1 Q) := g_cV rfl rfl rfl rfl (Nat.le_of_ble_eq_true rfl) hT
theorem g1301_848 : zG d 1301 848 (l0 :: l1 :: some (.ref a) :: L) st h Q = zG d 1301 849 (l0 :: l1 :: some (.ref a) :: L) (.ref a :: st) h Q := g_ldA rfl rfl
theorem g1301_849 {s0 : Int32} (hT : (zT h a).1 = 8) : zG d 1301 849 L [.ref a, .int s0] h Q = zCall d 859 [.ref a] h (fun v h1 => zG d 1301 852 L (zpush v [.int s0]) h1 Q) := g_cV rfl rfl rfl rfl (Nat.le_of_ble_eq_true rfl) hT
theorem g1301_852 : zG d 1301 852 L (.int z :: .int x :: st) h Q = if x = z then zG d 1301 1251 L st h Q else zG d 1301 855 L st h Q := g_i2 (P := fun x z => x = z) rfl
theorem g1301_855 : zG d 1301 855 L st h Q = zG d 1301 856 L (.int 0 :: st) h Q := g_c rfl
theorem g1301_856 (hx : x = 0 ∨ x = 1) : zG d 1301 856 L [.int x] h Q = Q (some (.int x)) h := g_rI (ok := fun x => x = 0 ∨ x = 1) rfl hx
theorem g1301_857 : zG d 1301 857 (l0 :: some (.ref a) :: L) st h Q = zG d 1301 858 (l0 :: some (.ref a) :: L) (.ref a :: st) h Q := g_ldA rfl rfl
theorem g1301_858 : zG d 1301 858 (some (.ref a) :: L) st h Q = zG d 1301 859 (some (.ref a) :: L) (.ref a :: st) h Q := g_ldA rfl rfl
theorem g1301_859 : zG d 1301 859 (l0 :: l1 :: l2 :: some (.int x) :: L) st h Q = zG d 1301 860 (l0 :: l1 :: l2 :: some (.int x) :: L) (.int x :: st) h Q := g_ldI rfl rfl
theorem g1301_860 : zG d 1301 860 L st h Q = zG d 1301 861 L (.int 1 :: st) h Q := g_c rfl
theorem g1301_861 : zG d 1301 861 L (.int z :: .int x :: st) h Q = zG d 1301 862 L (.int (x + z) :: st) h Q := g_b (f := fun x z => x + z) rfl
theorem g1301_862 (hT : (zT h b).1 = 30) (hi : zin i (zT h b).2) : zG d 1301 862 L (.int i :: .ref b :: st) h Q = zG d 1301 863 L (.int (zI h b i.toNatClampNeg) :: st) h Q := g_ia rfl hT hi
theorem g1301_863 : zG d 1301 863 (some (.ref a) :: L) st h Q = zG d 1301 864 (some (.ref a) :: L) (.ref a :: st) h Q := g_ldA rfl rfl
theorem g1301_864 : zG d 1301 864 (l0 :: l1 :: l2 :: some (.int x) :: L) st h Q = zG d 1301 865 (l0 :: l1 :: l2 :: some (.int x) :: L) (.int x :: st) h Q := g_ldI rfl rfl
theorem g1301_865 : zG d 1301 865 L st h Q = zG d 1301 866 L (.int 2 :: st) h Q := g_c rfl
theorem g1301_866 : zG d 1301 866 L (.int z :: .int x :: st) h Q = zG d 1301 867 L (.int (x + z) :: st) h Q := g_b (f := fun x z => x + z) rfl
theorem g1301_867 (hT : (zT h b).1 = 30) (hi : zin i (zT h b).2) : zG d 1301 867 L (.int i :: .ref b :: st) h Q = zG d 1301 868 L (.int (zI h b i.toNatClampNeg) :: st) h Q := g_ia rfl hT hi
theorem g1301_868 (hT : (zT h a).1 = 7) : zG d 1301 868 L [v1, v0, .ref a] h Q = zCall d 732 [.ref a, v0, v1] h (fun v h1 => zG d 1301 871 L (zpush v []) h1 Q) := g_cV rfl rfl rfl rfl (Nat.le_of_ble_eq_true rfl) hT
theorem g1301_871 : zG d 1301 871 (l0 :: l1 :: some (.ref a) :: L) st h Q = zG d 1301 872 (l0 :: l1 :: some (.ref a) :: L) (.ref a :: st) h Q := g_ldA rfl rfl
theorem g1301_872 : zG d 1301 872 (some (.ref a) :: L) st h Q = zG d 1301 873 (some (.ref a) :: L) (.ref a :: st) h Q := g_ldA rfl rfl
theorem g1301_873 : zG d 1301 873 (l0 :: l1 :: l2 :: some (.int x) :: L) st h Q = zG d 1301 874 (l0 :: l1 :: l2 :: some (.int x) :: L) (.int x :: st) h Q := g_ldI rfl rfl
theorem g1301_874 : zG d 1301 874 L st h Q = zG d 1301 875 L (.int 1 :: st) h Q := g_c rfl
theorem g1301_875 : zG d 1301 875 L (.int z :: .int x :: st) h Q = zG d 1301 876 L (.int (x + z) :: st) h Q := g_b (f := fun x z => x + z) rfl
theorem g1301_876 (hT : (zT h b).1 = 30) (hi : zin i (zT h b).2) : zG d 1301 876 L (.int i :: .ref b :: st) h Q = zG d 1301 877 L (.int (zI h b i.toNatClampNeg) :: st) h Q := g_ia rfl hT hi
theorem g1301_877 : zG d 1301 877 (some (.ref a) :: L) st h Q = zG d 1301 878 (some (.ref a) :: L) (.ref a :: st) h Q := g_ldA rfl rfl
theorem g1301_878 : zG d 1301 878 (l0 :: l1 :: l2 :: some (.int x) :: L) st h Q = zG d 1301 879 (l0 :: l1 :: l2 :: some (.int x) :: L) (.int x :: st) h Q := g_ldI rfl rfl
theorem g1301_879 : zG d 1301 879 L st h Q = zG d 1301 880 L (.int 2 :: st) h Q := g_c rfl
theorem g1301_880 : zG d 1301 880 L (.int z :: .int x :: st) h Q = zG d 1301 881 L (.int (x + z) :: st) h Q := g_b (f := fun x z => x + z) rfl
theorem g1301_881 (hT : (zT h b).1 = 30) (hi : zin i (zT h b).2) : zG d 1301 881 L (.int i :: .ref b :: st) h Q = zG d 1301 882 L (.int (zI h b i.toNatClampNeg) :: st) h Q := g_ia rfl hT hi
theorem g1301_882 {s0 : Int32} (hT : (zT h a).1 = 8) : zG d 1301 882 L [v1, v0, .ref a, .int s0] h Q = zCall d 872 [.ref a, v0, v1] h (fun v h1 => zG d 1301 885 L (zpush v [.int s0]) h1 Q) := g_cV rfl rfl rfl rfl (Nat.le_of_ble_eq_true rfl) hT
theorem g1301_885 : zG d 1301 885 L (.int z :: .int x :: st) h Q = if x = z then zG d 1301 1251 L st h Q else zG d 1301 888 L st h Q := g_i2 (P := fun x z => x = z) rfl
theorem g1301_888 : zG d 1301 888 L st h Q = zG d 1301 889 L (.int 0 :: st) h Q := g_c rfl
theorem g1301_889 (hx : x = 0 ∨ x = 1) : zG d 1301 889 L [.int x] h Q = Q (some (.int x)) h := g_rI (ok := fun x => x = 0 ∨ x = 1) rfl hx
theorem g1301_890 : zG d 1301 890 (l0 :: some (.ref a) :: L) st h Q = zG d 1301 891 (l0 :: some (.ref a) :: L) (.ref a :: st) h Q := g_ldA rfl rfl
theorem g1301_891 (hT : (zT h a).1 = 7) : zG d 1301 891 L [.ref a] h Q = zCall d 733 [.ref a] h (fun v h1 => zG d 1301 894 L (zpush v []) h1 Q) := g_cV rfl rfl rfl rfl (Nat.le_of_ble_eq_true rfl) hT
theorem g1301_894 : zG d 1301 894 (l0 :: l1 :: some (.ref a) :: L) st h Q = zG d 1301 895 (l0 :: l1 :: some (.ref a) :: L) (.ref a :: st) h Q := g_ldA rfl rfl
theorem g1301_895 {s0 : Int32} (hT : (zT h a).1 = 8) : zG d 1301 895 L [.ref a, .int s0] h Q = zCall d 805 [.ref a] h (fun v h1 => zG d 1301 898 L (zpush v [.int s0]) h1 Q) := g_cV rfl rfl rfl rfl (Nat.le_of_ble_eq_true rfl) hT
theorem g1301_898 : zG d 1301 898 L (.int z :: .int x :: st) h Q = if x = z then zG d 1301 1251 L st h Q else zG d 1301 901 L st h Q := g_i2 (P := fun x z => x = z) rfl
theorem g1301_901 : zG d 1301 901 L st h Q = zG d 1301 902 L (.int 0 :: st) h Q := g_c rfl
theorem g1301_902 (hx : x = 0 ∨ x = 1) : zG d 1301 902 L [.int x] h Q = Q (some (.int x)) h := g_rI (ok := fun x => x = 0 ∨ x = 1) rfl hx
theorem g1301_903 : zG d 1301 903 (l0 :: some (.ref a) :: L) st h Q = zG d 1301 904 (l0 :: some (.ref a) :: L) (.ref a :: st) h Q := g_ldA rfl rfl
theorem g1301_904 (hT : (zT h a).1 = 7) : zG d 1301 904 L [.ref a] h Q = zCall d 734 [.ref a] h (fun v h1 => zG d 1301 907 L (zpush v []) h1 Q) := g_cV rfl rfl rfl rfl (Nat.le_of_ble_eq_true rfl) hT
theorem g1301_907 : zG d 1301 907 (l0 :: l1 :: some (.ref a) :: L) st h Q = zG d 1301 908 (l0 :: l1 :: some (.ref a) :: L) (.ref a :: st) h Q := g_ldA rfl rfl
theorem g1301_908 {s0 : Int32} (hT : (zT h a).1 = 8) : zG d 1301 908 L [.ref a, .int s0] h Q = zCall d 806 [.ref a] h (fun v h1 => zG d 1301 911 L (zpush v [.int s0]) h1 Q) := g_cV rfl rfl rfl rfl (Nat.le_of_ble_eq_true rfl) hT
theorem g1301_911 : zG d 1301 911 L (.int z :: .int x :: st) h Q = if x = z then zG d 1301 1251 L st h Q else zG d 1301 914 L st h Q := g_i2 (P := fun x z => x = z) rfl
theorem g1301_914 : zG d 1301 914 L st h Q = zG d 1301 915 L (.int 0 :: st) h Q := g_c rfl
theorem g1301_915 (hx : x = 0 ∨ x = 1) : zG d 1301 915 L [.int x] h Q = Q (some (.int x)) h := g_rI (ok := fun x => x = 0 ∨ x = 1) rfl hx
theorem g1301_916 : zG d 1301 916 (l0 :: some (.ref a) :: L) st h Q = zG d 1301 917 (l0 :: some (.ref a) :: L) (.ref a :: st) h Q := g_ldA rfl rfl
theorem g1301_917 : zG d 1301 917 (some (.ref a) :: L) st h Q = zG d 1301 918 (some (.ref a) :: L) (.ref a :: st) h Q := g_ldA rfl rfl
theorem g1301_918 : zG d 1301 918 (l0 :: l1 :: l2 :: some (.int x) :: L) st h Q = zG d 1301 919 (l0 :: l1 :: l2 :: some (.int x) :: L) (.int x :: st) h Q := g_ldI rfl rfl
theorem g1301_919 : zG d 1301 919 L st h Q = zG d 1301 920 L (.int 1 :: st) h Q := g_c rfl
theorem g1301_920 : zG d 1301 920 L (.int z :: .int x :: st) h Q = zG d 1301 921 L (.int (x + z) :: st) h Q := g_b (f := fun x z => x + z) rfl
theorem g1301_921 (hT : (zT h b).1 = 30) (hi : zin i (zT h b).2) : zG d 1301 921 L (.int i :: .ref b :: st) h Q = zG d 1301 922 L (.int (zI h b i.toNatClampNeg) :: st) h Q := g_ia rfl hT hi
theorem g1301_922 : zG d 1301 922 (some (.ref a) :: L) st h Q = zG d 1301 923 (some (.ref a) :: L) (.ref a :: st) h Q := g_ldA rfl rfl
theorem g1301_923 : zG d 1301 923 (l0 :: l1 :: l2 :: some (.int x) :: L) st h Q = zG d 1301 924 (l0 :: l1 :: l2 :: some (.int x) :: L) (.int x :: st) h Q := g_ldI rfl rfl
theorem g1301_924 : zG d 1301 924 L st h Q = zG d 1301 925 L (.int 2 :: st) h Q := g_c rfl
theorem g1301_925 : zG d 1301 925 L (.int z :: .int x :: st) h Q = zG d 1301 926 L (.int (x + z) :: st) h Q := g_b (f := fun x z => x + z) rfl
theorem g1301_926 (hT : (zT h b).1 = 30) (hi : zin i (zT h b).2) : zG d 1301 926 L (.int i :: .ref b :: st) h Q = zG d 1301 927 L (.int (zI h b i.toNatClampNeg) :: st) h Q := g_ia rfl hT hi
theorem g1301_927 : zG d 1301 927 (some (.ref a) :: L) st h Q = zG d 1301 928 (some (.ref a) :: L) (.ref a :: st) h Q := g_ldA rfl rfl
theorem g1301_928 : zG d 1301 928 (l0 :: l1 :: l2 :: some (.int x) :: L) st h Q = zG d 1301 929 (l0 :: l1 :: l2 :: some (.int x) :: L) (.int x :: st) h Q := g_ldI rfl rfl
theorem g1301_929 : zG d 1301 929 L st h Q = zG d 1301 930 L (.int 3 :: st) h Q := g_c rfl
theorem g1301_930 : zG d 1301 930 L (.int z :: .int x :: st) h Q = zG d 1301 931 L (.int (x + z) :: st) h Q := g_b (f := fun x z => x + z) rfl
theorem g1301_931 (hT : (zT h b).1 = 30) (hi : zin i (zT h b).2) : zG d 1301 931 L (.int i :: .ref b :: st) h Q = zG d 1301 932 L (.int (zI h b i.toNatClampNeg) :: st) h Q := g_ia rfl hT hi
theorem g1301_932 (hT : (zT h a).1 = 7) : zG d 1301 932 L [v2, v1, v0, .ref a] h Q = zCall d 735 [.ref a, v0, v1, v2] h (fun v h1 => zG d 1301 935 L (zpush v []) h1 Q) := g_cV rfl rfl rfl rfl (Nat.le_of_ble_eq_true rfl) hT
theorem g1301_935 : zG d 1301 935 (l0 :: l1 :: some (.ref a) :: L) st h Q = zG d 1301 936 (l0 :: l1 :: some (.ref a) :: L) (.ref a :: st) h Q := g_ldA rfl rfl
theorem g1301_936 : zG d 1301 936 (some (.ref a) :: L) st h Q = zG d 1301 937 (some (.ref a) :: L) (.ref a :: st) h Q := g_ldA rfl rfl
theorem g1301_937 : zG d 1301 937 (l0 :: l1 :: l2 :: some (.int x) :: L) st h Q = zG d 1301 938 (l0 :: l1 :: l2 :: some (.int x) :: L) (.int x :: st) h Q := g_ldI rfl rfl
theorem g1301_938 : zG d 1301 938 L st h Q = zG d 1301 939 L (.int 1 :: st) h Q := g_c rfl
theorem g1301_939 : zG d 1301 939 L (.int z :: .int x :: st) h Q = zG d 1301 940 L (.int (x + z) :: st) h Q := g_b (f := fun x z => x + z) rfl
theorem g1301_940 (hT : (zT h b).1 = 30) (hi : zin i (zT h b).2) : zG d 1301 940 L (.int i :: .ref b :: st) h Q = zG d 1301 941 L (.int (zI h b i.toNatClampNeg) :: st) h Q := g_ia rfl hT hi
theorem g1301_941 : zG d 1301 941 (some (.ref a) :: L) st h Q = zG d 1301 942 (some (.ref a) :: L) (.ref a :: st) h Q := g_ldA rfl rfl
theorem g1301_942 : zG d 1301 942 (l0 :: l1 :: l2 :: some (.int x) :: L) st h Q = zG d 1301 943 (l0 :: l1 :: l2 :: some (.int x) :: L) (.int x :: st) h Q := g_ldI rfl rfl
theorem g1301_943 : zG d 1301 943 L st h Q = zG d 1301 944 L (.int 2 :: st) h Q := g_c rfl
theorem g1301_944 : zG d 1301 944 L (.int z :: .int x :: st) h Q = zG d 1301 945 L (.int (x + z) :: st) h Q := g_b (f := fun x z => x + z) rfl
theorem g1301_945 (hT : (zT h b).1 = 30) (hi : zin i (zT h b).2) : zG d 1301 945 L (.int i :: .ref b :: st) h Q = zG d 1301 946 L (.int (zI h b i.toNatClampNeg) :: st) h Q := g_ia rfl hT hi
theorem g1301_946 : zG d 1301 946 (some (.ref a) :: L) st h Q = zG d 1301 947 (some (.ref a) :: L) (.ref a :: st) h Q := g_ldA rfl rfl
theorem g1301_947 : zG d 1301 947 (l0 :: l1 :: l2 :: some (.int x) :: L) st h Q = zG d 1301 948 (l0 :: l1 :: l2 :: some (.int x) :: L) (.int x :: st) h Q := g_ldI rfl rfl
theorem g1301_948 : zG d 1301 948 L st h Q = zG d 1301 949 L (.int 3 :: st) h Q := g_c rfl
theorem g1301_949 : zG d 1301 949 L (.int z :: .int x :: st) h Q = zG d 1301 950 L (.int (x + z) :: st) h Q := g_b (f := fun x z => x + z) rfl
theorem g1301_950 (hT : (zT h b).1 = 30) (hi : zin i (zT h b).2) : zG d 1301 950 L (.int i :: .ref b :: st) h Q = zG d 1301 951 L (.int (zI h b i.toNatClampNeg) :: st) h Q := g_ia rfl hT hi
theorem g1301_951 {s0 : Int32} (hT : (zT h a).1 = 8) : zG d 1301 951 L [v2, v1, v0, .ref a, .int s0] h Q = zCall d 863 [.ref a, v0, v1, v2] h (fun v h1 => zG d 1301 954 L (zpush v [.int s0]) h1 Q) := g_cV rfl rfl rfl rfl (Nat.le_of_ble_eq_true rfl) hT
theorem g1301_954 : zG d 1301 954 L (.int z :: .int x :: st) h Q = if x = z then zG d 1301 1251 L st h Q else zG d 1301 957 L st h Q := g_i2 (P := fun x z => x = z) rfl
theorem g1301_957 : zG d 1301 957 L st h Q = zG d 1301 958 L (.int 0 :: st) h Q := g_c rfl
theorem g1301_958 (hx : x = 0 ∨ x = 1) : zG d 1301 958 L [.int x] h Q = Q (some (.int x)) h := g_rI (ok := fun x => x = 0 ∨ x = 1) rfl hx
theorem g1301_959 : zG d 1301 959 (l0 :: some (.ref a) :: L) st h Q = zG d 1301 960 (l0 :: some (.ref a) :: L) (.ref a :: st) h Q := g_ldA rfl rfl
theorem g1301_960 : zG d 1301 960 (some (.ref a) :: L) st h Q = zG d 1301 961 (some (.ref a) :: L) (.ref a :: st) h Q := g_ldA rfl rfl
theorem g1301_961 : zG d 1301 961 (l0 :: l1 :: l2 :: some (.int x) :: L) st h Q = zG d 1301 962 (l0 :: l1 :: l2 :: some (.int x) :: L) (.int x :: st) h Q := g_ldI rfl rfl
theorem g1301_962 : zG d 1301 962 L st h Q = zG d 1301 963 L (.int 1 :: st) h Q := g_c rfl
theorem g1301_963 : zG d 1301 963 L (.int z :: .int x :: st) h Q = zG d 1301 964 L (.int (x + z) :: st) h Q := g_b (f := fun x z => x + z) rfl
theorem g1301_964 (hT : (zT h b).1 = 30) (hi : zin i (zT h b).2) : zG d 1301 964 L (.int i :: .ref b :: st) h Q = zG d 1301 965 L (.int (zI h b i.toNatClampNeg) :: st) h Q := g_ia rfl hT hi
theorem g1301_965 (hT : (zT h a).1 = 7) : zG d 1301 965 L [v0, .ref a] h Q = zCall d 736 [.ref a, v0] h (fun v h1 => zG d 1301 968 L (zpush v []) h1 Q) := g_cV rfl rfl rfl rfl (Nat.le_of_ble_eq_true rfl) hT
theorem g1301_968 : zG d 1301 968 (l0 :: l1 :: some (.ref a) :: L) st h Q = zG d 1301 969 (l0 :: l1 :: some (.ref a) :: L) (.ref a :: st) h Q := g_ldA rfl rfl
theorem g1301_969 : zG d 1301 969 (some (.ref a) :: L) st h Q = zG d 1301 970 (some (.ref a) :: L) (.ref a :: st) h Q := g_ldA rfl rfl
theorem g1301_970 : zG d 1301 970 (l0 :: l1 :: l2 :: some (.int x) :: L) st h Q = zG d 1301 971 (l0 :: l1 :: l2 :: some (.int x) :: L) (.int x :: st) h Q := g_ldI rfl rfl
theorem g1301_971 : zG d 1301 971 L st h Q = zG d 1301 972 L (.int 1 :: st) h Q := g_c rfl
theorem g1301_972 : zG d 1301 972 L (.int z :: .int x :: st) h Q = zG d 1301 973 L (.int (x + z) :: st) h Q := g_b (f := fun x z => x + z) rfl
theorem g1301_973 (hT : (zT h b).1 = 30) (hi : zin i (zT h b).2) : zG d 1301 973 L (.int i :: .ref b :: st) h Q = zG d 1301 974 L (.int (zI h b i.toNatClampNeg) :: st) h Q := g_ia rfl hT hi
theorem g1301_974 {s0 : Int32} (hT : (zT h a).1 = 8) : zG d 1301 974 L [v0, .ref a, .int s0] h Q = zCall d 864 [.ref a, v0] h (fun v h1 => zG d 1301 977 L (zpush v [.int s0]) h1 Q) := g_cV rfl rfl rfl rfl (Nat.le_of_ble_eq_true rfl) hT
theorem g1301_977 : zG d 1301 977 L (.int z :: .int x :: st) h Q = if x = z then zG d 1301 1251 L st h Q else zG d 1301 980 L st h Q := g_i2 (P := fun x z => x = z) rfl
theorem g1301_980 : zG d 1301 980 L st h Q = zG d 1301 981 L (.int 0 :: st) h Q := g_c rfl
theorem g1301_981 (hx : x = 0 ∨ x = 1) : zG d 1301 981 L [.int x] h Q = Q (some (.int x)) h := g_rI (ok := fun x => x = 0 ∨ x = 1) rfl hx
theorem g1301_982 : zG d 1301 982 (l0 :: some (.ref a) :: L) st h Q = zG d 1301 983 (l0 :: some (.ref a) :: L) (.ref a :: st) h Q := g_ldA rfl rfl
theorem g1301_983 : zG d 1301 983 (some (.ref a) :: L) st h Q = zG d 1301 984 (some (.ref a) :: L) (.ref a :: st) h Q := g_ldA rfl rfl
theorem g1301_984 : zG d 1301 984 (l0 :: l1 :: l2 :: some (.int x) :: L) st h Q = zG d 1301 985 (l0 :: l1 :: l2 :: some (.int x) :: L) (.int x :: st) h Q := g_ldI rfl rfl
theorem g1301_985 : zG d 1301 985 L st h Q = zG d 1301 986 L (.int 1 :: st) h Q := g_c rfl
theorem g1301_986 : zG d 1301 986 L (.int z :: .int x :: st) h Q = zG d 1301 987 L (.int (x + z) :: st) h Q := g_b (f := fun x z => x + z) rfl
theorem g1301_987 (hT : (zT h b).1 = 30) (hi : zin i (zT h b).2) : zG d 1301 987 L (.int i :: .ref b :: st) h Q = zG d 1301 988 L (.int (zI h b i.toNatClampNeg) :: st) h Q := g_ia rfl hT hi
theorem g1301_988 : zG d 1301 988 (some (.ref a) :: L) st h Q = zG d 1301 989 (some (.ref a) :: L) (.ref a :: st) h Q := g_ldA rfl rfl
theorem g1301_989 : zG d 1301 989 (l0 :: l1 :: l2 :: some (.int x) :: L) st h Q = zG d 1301 990 (l0 :: l1 :: l2 :: some (.int x) :: L) (.int x :: st) h Q := g_ldI rfl rfl
theorem g1301_990 : zG d 1301 990 L st h Q = zG d 1301 991 L (.int 2 :: st) h Q := g_c rfl
theorem g1301_991 : zG d 1301 991 L (.int z :: .int x :: st) h Q = zG d 1301 992 L (.int (x + z) :: st) h Q := g_b (f := fun x z => x + z) rfl
theorem g1301_992 (hT : (zT h b).1 = 30) (hi : zin i (zT h b).2) : zG d 1301 992 L (.int i :: .ref b :: st) h Q = zG d 1301 993 L (.int (zI h b i.toNatClampNeg) :: st) h Q := g_ia rfl hT hi
theorem g1301_993 (hT : (zT h a).1 = 7) : zG d 1301 993 L [v1, v0, .ref a] h Q = zCall d 737 [.ref a, v0, v1] h (fun v h1 => zG d 1301 996 L (zpush v []) h1 Q) := g_cV rfl rfl rfl rfl (Nat.le_of_ble_eq_true rfl) hT
theorem g1301_996 : zG d 1301 996 (l0 :: l1 :: some (.ref a) :: L) st h Q = zG d 1301 997 (l0 :: l1 :: some (.ref a) :: L) (.ref a :: st) h Q := g_ldA rfl rfl
theorem g1301_997 : zG d 1301 997 (some (.ref a) :: L) st h Q = zG d 1301 998 (some (.ref a) :: L) (.ref a :: st) h Q := g_ldA rfl rfl
theorem g1301_998 : zG d 1301 998 (l0 :: l1 :: l2 :: some (.int x) :: L) st h Q = zG d 1301 999 (l0 :: l1 :: l2 :: some (.int x) :: L) (.int x :: st) h Q := g_ldI rfl rfl
theorem g1301_999 : zG d 1301 999 L st h Q = zG d 1301 1000 L (.int 1 :: st) h Q := g_c rfl
theorem g1301_1000 : zG d 1301 1000 L (.int z :: .int x :: st) h Q = zG d 1301 1001 L (.int (x + z) :: st) h Q := g_b (f := fun x z => x + z) rfl
theorem g1301_1001 (hT : (zT h b).1 = 30) (hi : zin i (zT h b).2) : zG d 1301 1001 L (.int i :: .ref b :: st) h Q = zG d 1301 1002 L (.int (zI h b i.toNatClampNeg) :: st) h Q := g_ia rfl hT hi
theorem g1301_1002 : zG d 1301 1002 (some (.ref a) :: L) st h Q = zG d 1301 1003 (some (.ref a) :: L) (.ref a :: st) h Q := g_ldA rfl rfl
theorem g1301_1003 : zG d 1301 1003 (l0 :: l1 :: l2 :: some (.int x) :: L) st h Q = zG d 1301 1004 (l0 :: l1 :: l2 :: some (.int x) :: L) (.int x :: st) h Q := g_ldI rfl rfl
theorem g1301_1004 : zG d 1301 1004 L st h Q = zG d 1301 1005 L (.int 2 :: st) h Q := g_c rfl
theorem g1301_1005 : zG d 1301 1005 L (.int z :: .int x :: st) h Q = zG d 1301 1006 L (.int (x + z) :: st) h Q := g_b (f := fun x z => x + z) rfl
theorem g1301_1006 (hT : (zT h b).1 = 30) (hi : zin i (zT h b).2) : zG d 1301 1006 L (.int i :: .ref b :: st) h Q = zG d 1301 1007 L (.int (zI h b i.toNatClampNeg) :: st) h Q := g_ia rfl hT hi
theorem g1301_1007 {s0 : Int32} (hT : (zT h a).1 = 8) : zG d 1301 1007 L [v1, v0, .ref a, .int s0] h Q = zCall d 865 [.ref a, v0, v1] h (fun v h1 => zG d 1301 1010 L (zpush v [.int s0]) h1 Q) := g_cV rfl rfl rfl rfl (Nat.le_of_ble_eq_true rfl) hT
theorem g1301_1010 : zG d 1301 1010 L (.int z :: .int x :: st) h Q = if x = z then zG d 1301 1251 L st h Q else zG d 1301 1013 L st h Q := g_i2 (P := fun x z => x = z) rfl
theorem g1301_1013 : zG d 1301 1013 L st h Q = zG d 1301 1014 L (.int 0 :: st) h Q := g_c rfl
theorem g1301_1014 (hx : x = 0 ∨ x = 1) : zG d 1301 1014 L [.int x] h Q = Q (some (.int x)) h := g_rI (ok := fun x => x = 0 ∨ x = 1) rfl hx
theorem g1301_1015 : zG d 1301 1015 (l0 :: some (.ref a) :: L) st h Q = zG d 1301 1016 (l0 :: some (.ref a) :: L) (.ref a :: st) h Q := g_ldA rfl rfl
theorem g1301_1016 : zG d 1301 1016 (some (.ref a) :: L) st h Q = zG d 1301 1017 (some (.ref a) :: L) (.ref a :: st) h Q := g_ldA rfl rfl
theorem g1301_1017 : zG d 1301 1017 (l0 :: l1 :: l2 :: some (.int x) :: L) st h Q = zG d 1301 1018 (l0 :: l1 :: l2 :: some (.int x) :: L) (.int x :: st) h Q := g_ldI rfl rfl
theorem g1301_1018 : zG d 1301 1018 L st h Q = zG d 1301 1019 L (.int 1 :: st) h Q := g_c rfl
theorem g1301_1019 : zG d 1301 1019 L (.int z :: .int x :: st) h Q = zG d 1301 1020 L (.int (x + z) :: st) h Q := g_b (f := fun x z => x + z) rfl
theorem g1301_1020 (hT : (zT h b).1 = 30) (hi : zin i (zT h b).2) : zG d 1301 1020 L (.int i :: .ref b :: st) h Q = zG d 1301 1021 L (.int (zI h b i.toNatClampNeg) :: st) h Q := g_ia rfl hT hi
theorem g1301_1021 (hT : (zT h a).1 = 7) : zG d 1301 1021 L [v0, .ref a] h Q = zCall d 738 [.ref a, v0] h (fun v h1 => zG d 1301 1024 L (zpush v []) h1 Q) := g_cV rfl rfl rfl rfl (Nat.le_of_ble_eq_true rfl) hT
theorem g1301_1024 : zG d 1301 1024 (l0 :: l1 :: some (.ref a) :: L) st h Q = zG d 1301 1025 (l0 :: l1 :: some (.ref a) :: L) (.ref a :: st) h Q := g_ldA rfl rfl
theorem g1301_1025 : zG d 1301 1025 (some (.ref a) :: L) st h Q = zG d 1301 1026 (some (.ref a) :: L) (.ref a :: st) h Q := g_ldA rfl rfl
theorem g1301_1026 : zG d 1301 1026 (l0 :: l1 :: l2 :: some (.int x) :: L) st h Q = zG d 1301 1027 (l0 :: l1 :: l2 :: some (.int x) :: L) (.int x :: st) h Q := g_ldI rfl rfl
theorem g1301_1027 : zG d 1301 1027 L st h Q = zG d 1301 1028 L (.int 1 :: st) h Q := g_c rfl
theorem g1301_1028 : zG d 1301 1028 L (.int z :: .int x :: st) h Q = zG d 1301 1029 L (.int (x + z) :: st) h Q := g_b (f := fun x z => x + z) rfl
theorem g1301_1029 (hT : (zT h b).1 = 30) (hi : zin i (zT h b).2) : zG d 1301 1029 L (.int i :: .ref b :: st) h Q = zG d 1301 1030 L (.int (zI h b i.toNatClampNeg) :: st) h Q := g_ia rfl hT hi
theorem g1301_1030 {s0 : Int32} (hT : (zT h a).1 = 8) : zG d 1301 1030 L [v0, .ref a, .int s0] h Q = zCall d 866 [.ref a, v0] h (fun v h1 => zG d 1301 1033 L (zpush v [.int s0]) h1 Q) := g_cV rfl rfl rfl rfl (Nat.le_of_ble_eq_true rfl) hT
theorem g1301_1033 : zG d 1301 1033 L (.int z :: .int x :: st) h Q = if x = z then zG d 1301 1251 L st h Q else zG d 1301 1036 L st h Q := g_i2 (P := fun x z => x = z) rfl
theorem g1301_1036 : zG d 1301 1036 L st h Q = zG d 1301 1037 L (.int 0 :: st) h Q := g_c rfl
theorem g1301_1037 (hx : x = 0 ∨ x = 1) : zG d 1301 1037 L [.int x] h Q = Q (some (.int x)) h := g_rI (ok := fun x => x = 0 ∨ x = 1) rfl hx
theorem g1301_1038 : zG d 1301 1038 (l0 :: some (.ref a) :: L) st h Q = zG d 1301 1039 (l0 :: some (.ref a) :: L) (.ref a :: st) h Q := g_ldA rfl rfl
theorem g1301_1039 : zG d 1301 1039 (some (.ref a) :: L) st h Q = zG d 1301 1040 (some (.ref a) :: L) (.ref a :: st) h Q := g_ldA rfl rfl
theorem g1301_1040 : zG d 1301 1040 (l0 :: l1 :: l2 :: some (.int x) :: L) st h Q = zG d 1301 1041 (l0 :: l1 :: l2 :: some (.int x) :: L) (.int x :: st) h Q := g_ldI rfl rfl
theorem g1301_1041 : zG d 1301 1041 L st h Q = zG d 1301 1042 L (.int 1 :: st) h Q := g_c rfl
theorem g1301_1042 : zG d 1301 1042 L (.int z :: .int x :: st) h Q = zG d 1301 1043 L (.int (x + z) :: st) h Q := g_b (f := fun x z => x + z) rfl
theorem g1301_1043 (hT : (zT h b).1 = 30) (hi : zin i (zT h b).2) : zG d 1301 1043 L (.int i :: .ref b :: st) h Q = zG d 1301 1044 L (.int (zI h b i.toNatClampNeg) :: st) h Q := g_ia rfl hT hi
theorem g1301_1044 : zG d 1301 1044 (some (.ref a) :: L) st h Q = zG d 1301 1045 (some (.ref a) :: L) (.ref a :: st) h Q := g_ldA rfl rfl
theorem g1301_1045 : zG d 1301 1045 (l0 :: l1 :: l2 :: some (.int x) :: L) st h Q = zG d 1301 1046 (l0 :: l1 :: l2 :: some (.int x) :: L) (.int x :: st) h Q := g_ldI rfl rfl
theorem g1301_1046 : zG d 1301 1046 L st h Q = zG d 1301 1047 L (.int 2 :: st) h Q := g_c rfl
theorem g1301_1047 : zG d 1301 1047 L (.int z :: .int x :: st) h Q = zG d 1301 1048 L (.int (x + z) :: st) h Q := g_b (f := fun x z => x + z) rfl
theorem g1301_1048 (hT : (zT h b).1 = 30) (hi : zin i (zT h b).2) : zG d 1301 1048 L (.int i :: .ref b :: st) h Q = zG d 1301 1049 L (.int (zI h b i.toNatClampNeg) :: st) h Q := g_ia rfl hT hi
theorem g1301_1049 : zG d 1301 1049 (some (.ref a) :: L) st h Q = zG d 1301 1050 (some (.ref a) :: L) (.ref a :: st) h Q := g_ldA rfl rfl
theorem g1301_1050 : zG d 1301 1050 (l0 :: l1 :: l2 :: some (.int x) :: L) st h Q = zG d 1301 1051 (l0 :: l1 :: l2 :: some (.int x) :: L) (.int x :: st) h Q := g_ldI rfl rfl
theorem g1301_1051 : zG d 1301 1051 L st h Q = zG d 1301 1052 L (.int 3 :: st) h Q := g_c rfl
theorem g1301_1052 : zG d 1301 1052 L (.int z :: .int x :: st) h Q = zG d 1301 1053 L (.int (x + z) :: st) h Q := g_b (f := fun x z => x + z) rfl
theorem g1301_1053 (hT : (zT h b).1 = 30) (hi : zin i (zT h b).2) : zG d 1301 1053 L (.int i :: .ref b :: st) h Q = zG d 1301 1054 L (.int (zI h b i.toNatClampNeg) :: st) h Q := g_ia rfl hT hi
theorem g1301_1054 (hT : (zT h a).1 = 7) : zG d 1301 1054 L [v2, v1, v0, .ref a] h Q = zCall d 739 [.ref a, v0, v1, v2] h (fun v h1 => zG d 1301 1057 L (zpush v []) h1 Q) := g_cV rfl rfl rfl rfl (Nat.le_of_ble_eq_true rfl) hT
theorem g1301_1057 : zG d 1301 1057 (l0 :: l1 :: some (.ref a) :: L) st h Q = zG d 1301 1058 (l0 :: l1 :: some (.ref a) :: L) (.ref a :: st) h Q := g_ldA rfl rfl
theorem g1301_1058 : zG d 1301 1058 (some (.ref a) :: L) st h Q = zG d 1301 1059 (some (.ref a) :: L) (.ref a :: st) h Q := g_ldA rfl rfl
theorem g1301_1059 : zG d 1301 1059 (l0 :: l1 :: l2 :: some (.int x) :: L) st h Q = zG d 1301 1060 (l0 :: l1 :: l2 :: some (.int x) :: L) (.int x :: st) h Q := g_ldI rfl rfl
theorem g1301_1060 : zG d 1301 1060 L st h Q = zG d 1301 1061 L (.int 1 :: st) h Q := g_c rfl
theorem g1301_1061 : zG d 1301 1061 L (.int z :: .int x :: st) h Q = zG d 1301 1062 L (.int (x + z) :: st) h Q := g_b (f := fun x z => x + z) rfl
theorem g1301_1062 (hT : (zT h b).1 = 30) (hi : zin i (zT h b).2) : zG d 1301 1062 L (.int i :: .ref b :: st) h Q = zG d 1301 1063 L (.int (zI h b i.toNatClampNeg) :: st) h Q := g_ia rfl hT hi
theorem g1301_1063 : zG d 1301 1063 (some (.ref a) :: L) st h Q = zG d 1301 1064 (some (.ref a) :: L) (.ref a :: st) h Q := g_ldA rfl rfl
theorem g1301_1064 : zG d 1301 1064 (l0 :: l1 :: l2 :: some (.int x) :: L) st h Q = zG d 1301 1065 (l0 :: l1 :: l2 :: some (.int x) :: L) (.int x :: st) h Q := g_ldI rfl rfl
theorem g1301_1065 : zG d 1301 1065 L st h Q = zG d 1301 1066 L (.int 2 :: st) h Q := g_c rfl
theorem g1301_1066 : zG d 1301 1066 L (.int z :: .int x :: st) h Q = zG d 1301 1067 L (.int (x + z) :: st) h Q := g_b (f := fun x z => x + z) rfl
theorem g1301_1067 (hT : (zT h b).1 = 30) (hi : zin i (zT h b).2) : zG d 1301 1067 L (.int i :: .ref b :: st) h Q = zG d 1301 1068 L (.int (zI h b i.toNatClampNeg) :: st) h Q := g_ia rfl hT hi
theorem g1301_1068 : zG d 1301 1068 (some (.ref a) :: L) st h Q = zG d 1301 1069 (some (.ref a) :: L) (.ref a :: st) h Q := g_ldA rfl rfl
theorem g1301_1069 : zG d 1301 1069 (l0 :: l1 :: l2 :: some (.int x) :: L) st h Q = zG d 1301 1070 (l0 :: l1 :: l2 :: some (.int x) :: L) (.int x :: st) h Q := g_ldI rfl rfl
theorem g1301_1070 : zG d 1301 1070 L st h Q = zG d 1301 1071 L (.int 3 :: st) h Q := g_c rfl
theorem g1301_1071 : zG d 1301 1071 L (.int z :: .int x :: st) h Q = zG d 1301 1072 L (.int (x + z) :: st) h Q := g_b (f := fun x z => x + z) rfl
theorem g1301_1072 (hT : (zT h b).1 = 30) (hi : zin i (zT h b).2) : zG d 1301 1072 L (.int i :: .ref b :: st) h Q = zG d 1301 1073 L (.int (zI h b i.toNatClampNeg) :: st) h Q := g_ia rfl hT hi
theorem g1301_1073 {s0 : Int32} (hT : (zT h a).1 = 8) : zG d 1301 1073 L [v2, v1, v0, .ref a, .int s0] h Q = zCall d 868 [.ref a, v0, v1, v2] h (fun v h1 => zG d 1301 1076 L (zpush v [.int s0]) h1 Q) := g_cV rfl rfl rfl rfl (Nat.le_of_ble_eq_true rfl) hT
theorem g1301_1076 : zG d 1301 1076 L (.int z :: .int x :: st) h Q = if x = z then zG d 1301 1251 L st h Q else zG d 1301 1079 L st h Q := g_i2 (P := fun x z => x = z) rfl
theorem g1301_1079 : zG d 1301 1079 L st h Q = zG d 1301 1080 L (.int 0 :: st) h Q := g_c rfl
theorem g1301_1080 (hx : x = 0 ∨ x = 1) : zG d 1301 1080 L [.int x] h Q = Q (some (.int x)) h := g_rI (ok := fun x => x = 0 ∨ x = 1) rfl hx
theorem g1301_1081 : zG d 1301 1081 (l0 :: some (.ref a) :: L) st h Q = zG d 1301 1082 (l0 :: some (.ref a) :: L) (.ref a :: st) h Q := g_ldA rfl rfl
theorem g1301_1082 : zG d 1301 1082 (some (.ref a) :: L) st h Q = zG d 1301 1083 (some (.ref a) :: L) (.ref a :: st) h Q := g_ldA rfl rfl
theorem g1301_1083 : zG d 1301 1083 (l0 :: l1 :: l2 :: some (.int x) :: L) st h Q = zG d 1301 1084 (l0 :: l1 :: l2 :: some (.int x) :: L) (.int x :: st) h Q := g_ldI rfl rfl
theorem g1301_1084 : zG d 1301 1084 L st h Q = zG d 1301 1085 L (.int 1 :: st) h Q := g_c rfl
theorem g1301_1085 : zG d 1301 1085 L (.int z :: .int x :: st) h Q = zG d 1301 1086 L (.int (x + z) :: st) h Q := g_b (f := fun x z => x + z) rfl
theorem g1301_1086 (hT : (zT h b).1 = 30) (hi : zin i (zT h b).2) : zG d 1301 1086 L (.int i :: .ref b :: st) h Q = zG d 1301 1087 L (.int (zI h b i.toNatClampNeg) :: st) h Q := g_ia rfl hT hi
theorem g1301_1087 : zG d 1301 1087 (some (.ref a) :: L) st h Q = zG d 1301 1088 (some (.ref a) :: L) (.ref a :: st) h Q := g_ldA rfl rfl
theorem g1301_1088 : zG d 1301 1088 (l0 :: l1 :: l2 :: some (.int x) :: L) st h Q = zG d 1301 1089 (l0 :: l1 :: l2 :: some (.int x) :: L) (.int x :: st) h Q := g_ldI rfl rfl
theorem g1301_1089 : zG d 1301 1089 L st h Q = zG d 1301 1090 L (.int 2 :: st) h Q := g_c rfl
theorem g1301_1090 : zG d 1301 1090 L (.int z :: .int x :: st) h Q = zG d 1301 1091 L (.int (x + z) :: st) h Q := g_b (f := fun x z => x + z) rfl
theorem g1301_1091 (hT : (zT h b).1 = 30) (hi : zin i (zT h b).2) : zG d 1301 1091 L (.int i :: .ref b :: st) h Q = zG d 1301 1092 L (.int (zI h b i.toNatClampNeg) :: st) h Q := g_ia rfl hT hi
theorem g1301_1092 : zG d 1301 1092 (some (.ref a) :: L) st h Q = zG d 1301 1093 (some (.ref a) :: L) (.ref a :: st) h Q := g_ldA rfl rfl
theorem g1301_1093 : zG d 1301 1093 (l0 :: l1 :: l2 :: some (.int x) :: L) st h Q = zG d 1301 1094 (l0 :: l1 :: l2 :: some (.int x) :: L) (.int x :: st) h Q := g_ldI rfl rfl
theorem g1301_1094 : zG d 1301 1094 L st h Q = zG d 1301 1095 L (.int 3 :: st) h Q := g_c rfl
theorem g1301_1095 : zG d 1301 1095 L (.int z :: .int x :: st) h Q = zG d 1301 1096 L (.int (x + z) :: st) h Q := g_b (f := fun x z => x + z) rfl
theorem g1301_1096 (hT : (zT h b).1 = 30) (hi : zin i (zT h b).2) : zG d 1301 1096 L (.int i :: .ref b :: st) h Q = zG d 1301 1097 L (.int (zI h b i.toNatClampNeg) :: st) h Q := g_ia rfl hT hi
theorem g1301_1097 : zG d 1301 1097 L (.int x :: st) h Q = zG d 1301 1098 L (.long x.toInt64 :: st) h Q := g_i2l rfl
theorem g1301_1098 : zG d 1301 1098 L st h Q = zG d 1301 1100 L (.int 32 :: st) h Q := g_c rfl
theorem g1301_1100 : zG d 1301 1100 L (.int z :: .long u :: st) h Q = zG d 1301 1101 L (.long (u <<< (z.toInt64 &&& 63)) :: st) h Q := g_lsh (fs := fun u z => u <<< (z.toInt64 &&& 63)) rfl
theorem g1301_1101 : zG d 1301 1101 (some (.ref a) :: L) st h Q = zG d 1301 1102 (some (.ref a) :: L) (.ref a :: st) h Q := g_ldA rfl rfl
theorem g1301_1102 : zG d 1301 1102 (l0 :: l1 :: l2 :: some (.int x) :: L) st h Q = zG d 1301 1103 (l0 :: l1 :: l2 :: some (.int x) :: L) (.int x :: st) h Q := g_ldI rfl rfl
theorem g1301_1103 : zG d 1301 1103 L st h Q = zG d 1301 1104 L (.int 4 :: st) h Q := g_c rfl
theorem g1301_1104 : zG d 1301 1104 L (.int z :: .int x :: st) h Q = zG d 1301 1105 L (.int (x + z) :: st) h Q := g_b (f := fun x z => x + z) rfl
theorem g1301_1105 (hT : (zT h b).1 = 30) (hi : zin i (zT h b).2) : zG d 1301 1105 L (.int i :: .ref b :: st) h Q = zG d 1301 1106 L (.int (zI h b i.toNatClampNeg) :: st) h Q := g_ia rfl hT hi
theorem g1301_1106 : zG d 1301 1106 L (.int x :: st) h Q = zG d 1301 1107 L (.long x.toInt64 :: st) h Q := g_i2l rfl
theorem g1301_1107 : zG d 1301 1107 L st h Q = zG d 1301 1110 L (.long 4294967295 :: st) h Q := g_c rfl
theorem g1301_1110 : zG d 1301 1110 L (.long w :: .long u :: st) h Q = zG d 1301 1111 L (.long (u &&& w) :: st) h Q := g_lb (fl := fun u w => u &&& w) rfl
theorem g1301_1111 : zG d 1301 1111 L (.long w :: .long u :: st) h Q = zG d 1301 1112 L (.long (u ||| w) :: st) h Q := g_lb (fl := fun u w => u ||| w) rfl
theorem g1301_1112 (hT : (zT h a).1 = 7) : zG d 1301 1112 L [v2, v1, v0, .ref a] h Q = zCall d 740 [.ref a, v0, v1, v2] h (fun v h1 => zG d 1301 1115 L (zpush v []) h1 Q) := g_cV rfl rfl rfl rfl (Nat.le_of_ble_eq_true rfl) hT
theorem g1301_1115 : zG d 1301 1115 (l0 :: l1 :: some (.ref a) :: L) st h Q = zG d 1301 1116 (l0 :: l1 :: some (.ref a) :: L) (.ref a :: st) h Q := g_ldA rfl rfl
theorem g1301_1116 : zG d 1301 1116 (some (.ref a) :: L) st h Q = zG d 1301 1117 (some (.ref a) :: L) (.ref a :: st) h Q := g_ldA rfl rfl
theorem g1301_1117 : zG d 1301 1117 (l0 :: l1 :: l2 :: some (.int x) :: L) st h Q = zG d 1301 1118 (l0 :: l1 :: l2 :: some (.int x) :: L) (.int x :: st) h Q := g_ldI rfl rfl
theorem g1301_1118 : zG d 1301 1118 L st h Q = zG d 1301 1119 L (.int 1 :: st) h Q := g_c rfl
theorem g1301_1119 : zG d 1301 1119 L (.int z :: .int x :: st) h Q = zG d 1301 1120 L (.int (x + z) :: st) h Q := g_b (f := fun x z => x + z) rfl
theorem g1301_1120 (hT : (zT h b).1 = 30) (hi : zin i (zT h b).2) : zG d 1301 1120 L (.int i :: .ref b :: st) h Q = zG d 1301 1121 L (.int (zI h b i.toNatClampNeg) :: st) h Q := g_ia rfl hT hi
theorem g1301_1121 : zG d 1301 1121 (some (.ref a) :: L) st h Q = zG d 1301 1122 (some (.ref a) :: L) (.ref a :: st) h Q := g_ldA rfl rfl
theorem g1301_1122 : zG d 1301 1122 (l0 :: l1 :: l2 :: some (.int x) :: L) st h Q = zG d 1301 1123 (l0 :: l1 :: l2 :: some (.int x) :: L) (.int x :: st) h Q := g_ldI rfl rfl
theorem g1301_1123 : zG d 1301 1123 L st h Q = zG d 1301 1124 L (.int 2 :: st) h Q := g_c rfl
theorem g1301_1124 : zG d 1301 1124 L (.int z :: .int x :: st) h Q = zG d 1301 1125 L (.int (x + z) :: st) h Q := g_b (f := fun x z => x + z) rfl
theorem g1301_1125 (hT : (zT h b).1 = 30) (hi : zin i (zT h b).2) : zG d 1301 1125 L (.int i :: .ref b :: st) h Q = zG d 1301 1126 L (.int (zI h b i.toNatClampNeg) :: st) h Q := g_ia rfl hT hi
theorem g1301_1126 : zG d 1301 1126 (some (.ref a) :: L) st h Q = zG d 1301 1127 (some (.ref a) :: L) (.ref a :: st) h Q := g_ldA rfl rfl
theorem g1301_1127 : zG d 1301 1127 (l0 :: l1 :: l2 :: some (.int x) :: L) st h Q = zG d 1301 1128 (l0 :: l1 :: l2 :: some (.int x) :: L) (.int x :: st) h Q := g_ldI rfl rfl
theorem g1301_1128 : zG d 1301 1128 L st h Q = zG d 1301 1129 L (.int 3 :: st) h Q := g_c rfl
theorem g1301_1129 : zG d 1301 1129 L (.int z :: .int x :: st) h Q = zG d 1301 1130 L (.int (x + z) :: st) h Q := g_b (f := fun x z => x + z) rfl
theorem g1301_1130 (hT : (zT h b).1 = 30) (hi : zin i (zT h b).2) : zG d 1301 1130 L (.int i :: .ref b :: st) h Q = zG d 1301 1131 L (.int (zI h b i.toNatClampNeg) :: st) h Q := g_ia rfl hT hi
theorem g1301_1131 : zG d 1301 1131 L (.int x :: st) h Q = zG d 1301 1132 L (.long x.toInt64 :: st) h Q := g_i2l rfl
theorem g1301_1132 : zG d 1301 1132 L st h Q = zG d 1301 1134 L (.int 32 :: st) h Q := g_c rfl
theorem g1301_1134 : zG d 1301 1134 L (.int z :: .long u :: st) h Q = zG d 1301 1135 L (.long (u <<< (z.toInt64 &&& 63)) :: st) h Q := g_lsh (fs := fun u z => u <<< (z.toInt64 &&& 63)) rfl
theorem g1301_1135 : zG d 1301 1135 (some (.ref a) :: L) st h Q = zG d 1301 1136 (some (.ref a) :: L) (.ref a :: st) h Q := g_ldA rfl rfl
theorem g1301_1136 : zG d 1301 1136 (l0 :: l1 :: l2 :: some (.int x) :: L) st h Q = zG d 1301 1137 (l0 :: l1 :: l2 :: some (.int x) :: L) (.int x :: st) h Q := g_ldI rfl rfl
theorem g1301_1137 : zG d 1301 1137 L st h Q = zG d 1301 1138 L (.int 4 :: st) h Q := g_c rfl
theorem g1301_1138 : zG d 1301 1138 L (.int z :: .int x :: st) h Q = zG d 1301 1139 L (.int (x + z) :: st) h Q := g_b (f := fun x z => x + z) rfl
theorem g1301_1139 (hT : (zT h b).1 = 30) (hi : zin i (zT h b).2) : zG d 1301 1139 L (.int i :: .ref b :: st) h Q = zG d 1301 1140 L (.int (zI h b i.toNatClampNeg) :: st) h Q := g_ia rfl hT hi
theorem g1301_1140 : zG d 1301 1140 L (.int x :: st) h Q = zG d 1301 1141 L (.long x.toInt64 :: st) h Q := g_i2l rfl
theorem g1301_1141 : zG d 1301 1141 L st h Q = zG d 1301 1144 L (.long 4294967295 :: st) h Q := g_c rfl
theorem g1301_1144 : zG d 1301 1144 L (.long w :: .long u :: st) h Q = zG d 1301 1145 L (.long (u &&& w) :: st) h Q := g_lb (fl := fun u w => u &&& w) rfl
theorem g1301_1145 : zG d 1301 1145 L (.long w :: .long u :: st) h Q = zG d 1301 1146 L (.long (u ||| w) :: st) h Q := g_lb (fl := fun u w => u ||| w) rfl
theorem g1301_1146 {s0 : Int32} (hT : (zT h a).1 = 8) : zG d 1301 1146 L [v2, v1, v0, .ref a, .int s0] h Q = zCall d 869 [.ref a, v0, v1, v2] h (fun v h1 => zG d 1301 1149 L (zpush v [.int s0]) h1 Q) := g_cV rfl rfl rfl rfl (Nat.le_of_ble_eq_true rfl) hT
theorem g1301_1149 : zG d 1301 1149 L (.int z :: .int x :: st) h Q = if x = z then zG d 1301 1251 L st h Q else zG d 1301 1152 L st h Q := g_i2 (P := fun x z => x = z) rfl
theorem g1301_1152 : zG d 1301 1152 L st h Q = zG d 1301 1153 L (.int 0 :: st) h Q := g_c rfl
theorem g1301_1153 (hx : x = 0 ∨ x = 1) : zG d 1301 1153 L [.int x] h Q = Q (some (.int x)) h := g_rI (ok := fun x => x = 0 ∨ x = 1) rfl hx
theorem g1301_1154 : zG d 1301 1154 (l0 :: some (.ref a) :: L) st h Q = zG d 1301 1155 (l0 :: some (.ref a) :: L) (.ref a :: st) h Q := g_ldA rfl rfl
theorem g1301_1155 : zG d 1301 1155 (some (.ref a) :: L) st h Q = zG d 1301 1156 (some (.ref a) :: L) (.ref a :: st) h Q := g_ldA rfl rfl
theorem g1301_1156 : zG d 1301 1156 (l0 :: l1 :: l2 :: some (.int x) :: L) st h Q = zG d 1301 1157 (l0 :: l1 :: l2 :: some (.int x) :: L) (.int x :: st) h Q := g_ldI rfl rfl
theorem g1301_1157 : zG d 1301 1157 L st h Q = zG d 1301 1158 L (.int 1 :: st) h Q := g_c rfl
theorem g1301_1158 : zG d 1301 1158 L (.int z :: .int x :: st) h Q = zG d 1301 1159 L (.int (x + z) :: st) h Q := g_b (f := fun x z => x + z) rfl
theorem g1301_1159 (hT : (zT h b).1 = 30) (hi : zin i (zT h b).2) : zG d 1301 1159 L (.int i :: .ref b :: st) h Q = zG d 1301 1160 L (.int (zI h b i.toNatClampNeg) :: st) h Q := g_ia rfl hT hi
theorem g1301_1160 : zG d 1301 1160 (some (.ref a) :: L) st h Q = zG d 1301 1161 (some (.ref a) :: L) (.ref a :: st) h Q := g_ldA rfl rfl
theorem g1301_1161 : zG d 1301 1161 (l0 :: l1 :: l2 :: some (.int x) :: L) st h Q = zG d 1301 1162 (l0 :: l1 :: l2 :: some (.int x) :: L) (.int x :: st) h Q := g_ldI rfl rfl
theorem g1301_1162 : zG d 1301 1162 L st h Q = zG d 1301 1163 L (.int 2 :: st) h Q := g_c rfl
theorem g1301_1163 : zG d 1301 1163 L (.int z :: .int x :: st) h Q = zG d 1301 1164 L (.int (x + z) :: st) h Q := g_b (f := fun x z => x + z) rfl
theorem g1301_1164 (hT : (zT h b).1 = 30) (hi : zin i (zT h b).2) : zG d 1301 1164 L (.int i :: .ref b :: st) h Q = zG d 1301 1165 L (.int (zI h b i.toNatClampNeg) :: st) h Q := g_ia rfl hT hi
theorem g1301_1165 (hT : (zT h a).1 = 7) : zG d 1301 1165 L [v1, v0, .ref a] h Q = zCall d 741 [.ref a, v0, v1] h (fun v h1 => zG d 1301 1168 L (zpush v []) h1 Q) := g_cV rfl rfl rfl rfl (Nat.le_of_ble_eq_true rfl) hT
theorem g1301_1168 : zG d 1301 1168 (l0 :: l1 :: some (.ref a) :: L) st h Q = zG d 1301 1169 (l0 :: l1 :: some (.ref a) :: L) (.ref a :: st) h Q := g_ldA rfl rfl
theorem g1301_1169 : zG d 1301 1169 (some (.ref a) :: L) st h Q = zG d 1301 1170 (some (.ref a) :: L) (.ref a :: st) h Q := g_ldA rfl rfl
theorem g1301_1170 : zG d 1301 1170 (l0 :: l1 :: l2 :: some (.int x) :: L) st h Q = zG d 1301 1171 (l0 :: l1 :: l2 :: some (.int x) :: L) (.int x :: st) h Q := g_ldI rfl rfl
theorem g1301_1171 : zG d 1301 1171 L st h Q = zG d 1301 1172 L (.int 1 :: st) h Q := g_c rfl
theorem g1301_1172 : zG d 1301 1172 L (.int z :: .int x :: st) h Q = zG d 1301 1173 L (.int (x + z) :: st) h Q := g_b (f := fun x z => x + z) rfl
theorem g1301_1173 (hT : (zT h b).1 = 30) (hi : zin i (zT h b).2) : zG d 1301 1173 L (.int i :: .ref b :: st) h Q = zG d 1301 1174 L (.int (zI h b i.toNatClampNeg) :: st) h Q := g_ia rfl hT hi
theorem g1301_1174 : zG d 1301 1174 (some (.ref a) :: L) st h Q = zG d 1301 1175 (some (.ref a) :: L) (.ref a :: st) h Q := g_ldA rfl rfl
theorem g1301_1175 : zG d 1301 1175 (l0 :: l1 :: l2 :: some (.int x) :: L) st h Q = zG d 1301 1176 (l0 :: l1 :: l2 :: some (.int x) :: L) (.int x :: st) h Q := g_ldI rfl rfl
theorem g1301_1176 : zG d 1301 1176 L st h Q = zG d 1301 1177 L (.int 2 :: st) h Q := g_c rfl
theorem g1301_1177 : zG d 1301 1177 L (.int z :: .int x :: st) h Q = zG d 1301 1178 L (.int (x + z) :: st) h Q := g_b (f := fun x z => x + z) rfl
theorem g1301_1178 (hT : (zT h b).1 = 30) (hi : zin i (zT h b).2) : zG d 1301 1178 L (.int i :: .ref b :: st) h Q = zG d 1301 1179 L (.int (zI h b i.toNatClampNeg) :: st) h Q := g_ia rfl hT hi
theorem g1301_1179 {s0 : Int64} (hT : (zT h a).1 = 8) : zG d 1301 1179 L [v1, v0, .ref a, .long s0] h Q = zCall d 870 [.ref a, v0, v1] h (fun v h1 => zG d 1301 1182 L (zpush v [.long s0]) h1 Q) := g_cV rfl rfl rfl rfl (Nat.le_of_ble_eq_true rfl) hT
theorem g1301_1182 : zG d 1301 1182 L (.long w :: .long u :: st) h Q = zG d 1301 1183 L (.int (zcmp u w) :: st) h Q := g_lcmp rfl
theorem g1301_1183 : zG d 1301 1183 L (.int x :: st) h Q = if x = 0 then zG d 1301 1251 L st h Q else zG d 1301 1186 L st h Q := g_i1 (P := fun x => x = 0) rfl
theorem g1301_1186 : zG d 1301 1186 L st h Q = zG d 1301 1187 L (.int 0 :: st) h Q := g_c rfl
theorem g1301_1187 (hx : x = 0 ∨ x = 1) : zG d 1301 1187 L [.int x] h Q = Q (some (.int x)) h := g_rI (ok := fun x => x = 0 ∨ x = 1) rfl hx
theorem g1301_1188 : zG d 1301 1188 (l0 :: some (.ref a) :: L) st h Q = zG d 1301 1189 (l0 :: some (.ref a) :: L) (.ref a :: st) h Q := g_ldA rfl rfl
theorem g1301_1189 : zG d 1301 1189 (some (.ref a) :: L) st h Q = zG d 1301 1190 (some (.ref a) :: L) (.ref a :: st) h Q := g_ldA rfl rfl
theorem g1301_1190 : zG d 1301 1190 (l0 :: l1 :: l2 :: some (.int x) :: L) st h Q = zG d 1301 1191 (l0 :: l1 :: l2 :: some (.int x) :: L) (.int x :: st) h Q := g_ldI rfl rfl
theorem g1301_1191 : zG d 1301 1191 L st h Q = zG d 1301 1192 L (.int 1 :: st) h Q := g_c rfl
theorem g1301_1192 : zG d 1301 1192 L (.int z :: .int x :: st) h Q = zG d 1301 1193 L (.int (x + z) :: st) h Q := g_b (f := fun x z => x + z) rfl
theorem g1301_1193 (hT : (zT h b).1 = 30) (hi : zin i (zT h b).2) : zG d 1301 1193 L (.int i :: .ref b :: st) h Q = zG d 1301 1194 L (.int (zI h b i.toNatClampNeg) :: st) h Q := g_ia rfl hT hi
theorem g1301_1194 : zG d 1301 1194 (some (.ref a) :: L) st h Q = zG d 1301 1195 (some (.ref a) :: L) (.ref a :: st) h Q := g_ldA rfl rfl
theorem g1301_1195 : zG d 1301 1195 (l0 :: l1 :: l2 :: some (.int x) :: L) st h Q = zG d 1301 1196 (l0 :: l1 :: l2 :: some (.int x) :: L) (.int x :: st) h Q := g_ldI rfl rfl
theorem g1301_1196 : zG d 1301 1196 L st h Q = zG d 1301 1197 L (.int 2 :: st) h Q := g_c rfl
theorem g1301_1197 : zG d 1301 1197 L (.int z :: .int x :: st) h Q = zG d 1301 1198 L (.int (x + z) :: st) h Q := g_b (f := fun x z => x + z) rfl
theorem g1301_1198 (hT : (zT h b).1 = 30) (hi : zin i (zT h b).2) : zG d 1301 1198 L (.int i :: .ref b :: st) h Q = zG d 1301 1199 L (.int (zI h b i.toNatClampNeg) :: st) h Q := g_ia rfl hT hi
theorem g1301_1199 : zG d 1301 1199 (some (.ref a) :: L) st h Q = zG d 1301 1200 (some (.ref a) :: L) (.ref a :: st) h Q := g_ldA rfl rfl
theorem g1301_1200 : zG d 1301 1200 (l0 :: l1 :: l2 :: some (.int x) :: L) st h Q = zG d 1301 1201 (l0 :: l1 :: l2 :: some (.int x) :: L) (.int x :: st) h Q := g_ldI rfl rfl
theorem g1301_1201 : zG d 1301 1201 L st h Q = zG d 1301 1202 L (.int 3 :: st) h Q := g_c rfl
theorem g1301_1202 : zG d 1301 1202 L (.int z :: .int x :: st) h Q = zG d 1301 1203 L (.int (x + z) :: st) h Q := g_b (f := fun x z => x + z) rfl
theorem g1301_1203 (hT : (zT h b).1 = 30) (hi : zin i (zT h b).2) : zG d 1301 1203 L (.int i :: .ref b :: st) h Q = zG d 1301 1204 L (.int (zI h b i.toNatClampNeg) :: st) h Q := g_ia rfl hT hi
theorem g1301_1204 : zG d 1301 1204 (some (.ref a) :: L) st h Q = zG d 1301 1205 (some (.ref a) :: L) (.ref a :: st) h Q := g_ldA rfl rfl
theorem g1301_1205 : zG d 1301 1205 (l0 :: l1 :: l2 :: some (.int x) :: L) st h Q = zG d 1301 1206 (l0 :: l1 :: l2 :: some (.int x) :: L) (.int x :: st) h Q := g_ldI rfl rfl
theorem g1301_1206 : zG d 1301 1206 L st h Q = zG d 1301 1207 L (.int 4 :: st) h Q := g_c rfl
theorem g1301_1207 : zG d 1301 1207 L (.int z :: .int x :: st) h Q = zG d 1301 1208 L (.int (x + z) :: st) h Q := g_b (f := fun x z => x + z) rfl
theorem g1301_1208 (hT : (zT h b).1 = 30) (hi : zin i (zT h b).2) : zG d 1301 1208 L (.int i :: .ref b :: st) h Q = zG d 1301 1209 L (.int (zI h b i.toNatClampNeg) :: st) h Q := g_ia rfl hT hi
theorem g1301_1209 : zG d 1301 1209 (some (.ref a) :: L) st h Q = zG d 1301 1210 (some (.ref a) :: L) (.ref a :: st) h Q := g_ldA rfl rfl
theorem g1301_1210 : zG d 1301 1210 (l0 :: l1 :: l2 :: some (.int x) :: L) st h Q = zG d 1301 1211 (l0 :: l1 :: l2 :: some (.int x) :: L) (.int x :: st) h Q := g_ldI rfl rfl
theorem g1301_1211 : zG d 1301 1211 L st h Q = zG d 1301 1212 L (.int 5 :: st) h Q := g_c rfl
theorem g1301_1212 : zG d 1301 1212 L (.int z :: .int x :: st) h Q = zG d 1301 1213 L (.int (x + z) :: st) h Q := g_b (f := fun x z => x + z) rfl
theorem g1301_1213 (hT : (zT h b).1 = 30) (hi : zin i (zT h b).2) : zG d 1301 1213 L (.int i :: .ref b :: st) h Q = zG d 1301 1214 L (.int (zI h b i.toNatClampNeg) :: st) h Q := g_ia rfl hT hi
theorem g1301_1214 (hT : (zT h a).1 = 7) : zG d 1301 1214 L [v4, v3, v2, v1, v0, .ref a] h Q = zCall d 742 [.ref a, v0, v1, v2, v3, v4] h (fun v h1 => zG d 1301 1217 L (zpush v []) h1 Q) := g_cV rfl rfl rfl rfl (Nat.le_of_ble_eq_true rfl) hT
theorem g1301_1217 : zG d 1301 1217 (l0 :: l1 :: some (.ref a) :: L) st h Q = zG d 1301 1218 (l0 :: l1 :: some (.ref a) :: L) (.ref a :: st) h Q := g_ldA rfl rfl
theorem g1301_1218 : zG d 1301 1218 (some (.ref a) :: L) st h Q = zG d 1301 1219 (some (.ref a) :: L) (.ref a :: st) h Q := g_ldA rfl rfl
theorem g1301_1219 : zG d 1301 1219 (l0 :: l1 :: l2 :: some (.int x) :: L) st h Q = zG d 1301 1220 (l0 :: l1 :: l2 :: some (.int x) :: L) (.int x :: st) h Q := g_ldI rfl rfl
theorem g1301_1220 : zG d 1301 1220 L st h Q = zG d 1301 1221 L (.int 1 :: st) h Q := g_c rfl
theorem g1301_1221 : zG d 1301 1221 L (.int z :: .int x :: st) h Q = zG d 1301 1222 L (.int (x + z) :: st) h Q := g_b (f := fun x z => x + z) rfl
theorem g1301_1222 (hT : (zT h b).1 = 30) (hi : zin i (zT h b).2) : zG d 1301 1222 L (.int i :: .ref b :: st) h Q = zG d 1301 1223 L (.int (zI h b i.toNatClampNeg) :: st) h Q := g_ia rfl hT hi
theorem g1301_1223 : zG d 1301 1223 (some (.ref a) :: L) st h Q = zG d 1301 1224 (some (.ref a) :: L) (.ref a :: st) h Q := g_ldA rfl rfl
theorem g1301_1224 : zG d 1301 1224 (l0 :: l1 :: l2 :: some (.int x) :: L) st h Q = zG d 1301 1225 (l0 :: l1 :: l2 :: some (.int x) :: L) (.int x :: st) h Q := g_ldI rfl rfl
theorem g1301_1225 : zG d 1301 1225 L st h Q = zG d 1301 1226 L (.int 2 :: st) h Q := g_c rfl
theorem g1301_1226 : zG d 1301 1226 L (.int z :: .int x :: st) h Q = zG d 1301 1227 L (.int (x + z) :: st) h Q := g_b (f := fun x z => x + z) rfl
theorem g1301_1227 (hT : (zT h b).1 = 30) (hi : zin i (zT h b).2) : zG d 1301 1227 L (.int i :: .ref b :: st) h Q = zG d 1301 1228 L (.int (zI h b i.toNatClampNeg) :: st) h Q := g_ia rfl hT hi
theorem g1301_1228 : zG d 1301 1228 (some (.ref a) :: L) st h Q = zG d 1301 1229 (some (.ref a) :: L) (.ref a :: st) h Q := g_ldA rfl rfl
theorem g1301_1229 : zG d 1301 1229 (l0 :: l1 :: l2 :: some (.int x) :: L) st h Q = zG d 1301 1230 (l0 :: l1 :: l2 :: some (.int x) :: L) (.int x :: st) h Q := g_ldI rfl rfl
theorem g1301_1230 : zG d 1301 1230 L st h Q = zG d 1301 1231 L (.int 3 :: st) h Q := g_c rfl
theorem g1301_1231 : zG d 1301 1231 L (.int z :: .int x :: st) h Q = zG d 1301 1232 L (.int (x + z) :: st) h Q := g_b (f := fun x z => x + z) rfl
theorem g1301_1232 (hT : (zT h b).1 = 30) (hi : zin i (zT h b).2) : zG d 1301 1232 L (.int i :: .ref b :: st) h Q = zG d 1301 1233 L (.int (zI h b i.toNatClampNeg) :: st) h Q := g_ia rfl hT hi
theorem g1301_1233 : zG d 1301 1233 (some (.ref a) :: L) st h Q = zG d 1301 1234 (some (.ref a) :: L) (.ref a :: st) h Q := g_ldA rfl rfl
theorem g1301_1234 : zG d 1301 1234 (l0 :: l1 :: l2 :: some (.int x) :: L) st h Q = zG d 1301 1235 (l0 :: l1 :: l2 :: some (.int x) :: L) (.int x :: st) h Q := g_ldI rfl rfl
theorem g1301_1235 : zG d 1301 1235 L st h Q = zG d 1301 1236 L (.int 4 :: st) h Q := g_c rfl
theorem g1301_1236 : zG d 1301 1236 L (.int z :: .int x :: st) h Q = zG d 1301 1237 L (.int (x + z) :: st) h Q := g_b (f := fun x z => x + z) rfl
theorem g1301_1237 (hT : (zT h b).1 = 30) (hi : zin i (zT h b).2) : zG d 1301 1237 L (.int i :: .ref b :: st) h Q = zG d 1301 1238 L (.int (zI h b i.toNatClampNeg) :: st) h Q := g_ia rfl hT hi
theorem g1301_1238 : zG d 1301 1238 (some (.ref a) :: L) st h Q = zG d 1301 1239 (some (.ref a) :: L) (.ref a :: st) h Q := g_ldA rfl rfl
theorem g1301_1239 : zG d 1301 1239 (l0 :: l1 :: l2 :: some (.int x) :: L) st h Q = zG d 1301 1240 (l0 :: l1 :: l2 :: some (.int x) :: L) (.int x :: st) h Q := g_ldI rfl rfl
theorem g1301_1240 : zG d 1301 1240 L st h Q = zG d 1301 1241 L (.int 5 :: st) h Q := g_c rfl
theorem g1301_1241 : zG d 1301 1241 L (.int z :: .int x :: st) h Q = zG d 1301 1242 L (.int (x + z) :: st) h Q := g_b (f := fun x z => x + z) rfl
theorem g1301_1242 (hT : (zT h b).1 = 30) (hi : zin i (zT h b).2) : zG d 1301 1242 L (.int i :: .ref b :: st) h Q = zG d 1301 1243 L (.int (zI h b i.toNatClampNeg) :: st) h Q := g_ia rfl hT hi
theorem g1301_1243 {s0 : Int32} (hT : (zT h a).1 = 8) : zG d 1301 1243 L [v4, v3, v2, v1, v0, .ref a, .int s0] h Q = zCall d 871 [.ref a, v0, v1, v2, v3, v4] h (fun v h1 => zG d 1301 1246 L (zpush v [.int s0]) h1 Q) := g_cV rfl rfl rfl rfl (Nat.le_of_ble_eq_true rfl) hT
theorem g1301_1246 : zG d 1301 1246 L (.int z :: .int x :: st) h Q = if x = z then zG d 1301 1251 L st h Q else zG d 1301 1249 L st h Q := g_i2 (P := fun x z => x = z) rfl
theorem g1301_1249 : zG d 1301 1249 L st h Q = zG d 1301 1250 L (.int 0 :: st) h Q := g_c rfl
theorem g1301_1250 (hx : x = 0 ∨ x = 1) : zG d 1301 1250 L [.int x] h Q = Q (some (.int x)) h := g_rI (ok := fun x => x = 0 ∨ x = 1) rfl hx
theorem g1301_1251 : zG d 1301 1251 (l0 :: l1 :: l2 :: some (.int x) :: L) st h Q = zG d 1301 1254 (l0 :: l1 :: kl l2 :: some (.int (x + 6)) :: L) st h Q := g_inc rfl rfl rfl
theorem g1301_1254 : zG d 1301 1254 L st h Q = zG d 1301 18 L st h Q := g_go rfl
theorem g1301_1257 : zG d 1301 1257 L st h Q = zG d 1301 1258 L (.int 1 :: st) h Q := g_c rfl
theorem g1301_1258 (hx : x = 0 ∨ x = 1) : zG d 1301 1258 L [.int x] h Q = Q (some (.int x)) h := g_rI (ok := fun x => x = 0 ∨ x = 1) rfl hx
theorem k1301 {x0 : Nat} : zCall (d + 1) 1301 [.ref x0] h Q = zG d 1301 0 [some (.ref x0), none, none, none] [] h Q := zCall_k (Nat.le_of_ble_eq_true rfl) rfl
