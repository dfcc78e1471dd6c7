-- needs 30.p1
/-! the class reads a text -/
def kS (k : Nat) : List Int32 := if k = 0 then [112, 97, 121, 32] else if k = 1 then [109, 111, 114, 101, 32] else if k = 2 then [108, 101, 115, 115, 32] else if k = 3 then [112, 107, 118, 119, 116, 100] else [60, 61, 62]
def KS (h : zH) : Prop := zT h 1000001 = (30, 7) ∧ (∀ j, j < 7 → zI h 1000001 j = (mcK 100).getD j 0) ∧ zT h 1000002 = (30, 21) ∧ (∀ j, j < 21 → zI h 1000002 j = (mcK 101).getD j 0) ∧ (∀ k, k < 5 → zT h (1000003 + k) = (31, 0) ∧ zR h (1000003 + k) 0 = .ref (1000008 + k)) ∧ ∀ k, k < 5 → zT h (1000008 + k) = (32, (kS k).length) ∧ ∀ j, j < (kS k).length → zI h (1000008 + k) j = (kS k).getD j 0
def CP (h : zH) (x : zW0) (s g cc : Nat) : Prop := KS h ∧ zT h 69 = (5, 4) ∧ zR h 69 0 = .ref 70 ∧ zT h 70 = (21, 100) ∧ zR h 69 1 = .ref g ∧ zT h g = (4, 3) ∧ zR h g 0 = .ref cc ∧ zT h cc = (20, 100) ∧ zI h 69 3 = nI s ∧ s ≤ 100 ∧ (∀ k, k < s → zI h 70 k = x k ∧ ∃ j, j ≤ 127 ∧ x k = nI j) ∧ 71 ≤ g ∧ 71 ≤ cc ∧ g < 1000000 ∧ cc < 1000000 ∧ ¬ g = cc
def SQ (g cc b k : Nat) : Prop := (b = 69 ∧ k = 2) ∨ (b = g ∧ 1 ≤ k) ∨ b = cc
def S69 (b k : Nat) : Prop := b = 69 ∧ k = 2
def Dr (h : zH) (g cc : Nat) (cs : List Int32) : Prop := zI h g 1 = nI cs.length ∧ ∀ i, i < cs.length → zI h cc i = cs.getD i 0
variable {d a b n t D K s p q g cc k : Nat} {h h1 : zH} {w x nm : zW0} {c v r : Int32} {F : Nat → Nat × Option pE} {cs : List Int32}
theorem KS_f {S : Nat → Nat → Prop} (f : FS S h h1) (hS : ∀ b k, S b k → b < 1000000) (m : KS h) : KS h1 := by
  have eI : ∀ b k, 1000000 ≤ b → zI h1 b k = zI h b k := fun b k hb => f.2.2.2.2.1 _ _ (fun z => by have := hS _ _ z; omega)
  have eR : ∀ b k, 1000000 ≤ b → zR h1 b k = zR h b k := fun b k hb => f.2.2.2.2.2 _ _ (fun z => by have := hS _ _ z; omega)
  obtain ⟨m1, m2, m3, m4, m5, m6⟩ := m
  refine ⟨by rw [f.1]; exact m1, fun j hj => by rw [eI _ _ (by omega)]; exact m2 j hj, by rw [f.1]; exact m3, fun j hj => by rw [eI _ _ (by omega)]; exact m4 j hj, fun k hk => by rw [f.1, eR _ _ (by omega)]; exact m5 k hk, fun k hk => ⟨by rw [f.1]; exact (m6 k hk).1, fun j hj => by rw [eI _ _ (by omega)]; exact (m6 k hk).2 j hj⟩⟩
theorem CP_f (m : CP h x s g cc) (f : FS (SQ g cc) h h1) : CP h1 x s g cc := by
  obtain ⟨m1, m2, m3, m4, m5, m6, m7, m8, m9, m10, m11, m12, m13, m14, m15, m16⟩ := m
  have eI : ∀ b k, ¬ SQ g cc b k → zI h1 b k = zI h b k := f.2.2.2.2.1
  have eR : ∀ b k, ¬ SQ g cc b k → zR h1 b k = zR h b k := f.2.2.2.2.2
  refine ⟨KS_f f (fun b k z => by unfold SQ at z; omega) m1, by rw [f.1]; exact m2, by rw [eR _ _ (by unfold SQ; omega)]; exact m3, by rw [f.1]; exact m4, by rw [eR _ _ (by unfold SQ; omega)]; exact m5, by rw [f.1]; exact m6, by rw [eR _ _ (by unfold SQ; omega)]; exact m7, by rw [f.1]; exact m8, by rw [eI _ _ (by unfold SQ; omega)]; exact m9, m10, fun k hk => by rw [eI _ _ (by unfold SQ; omega)]; exact m11 k hk, m12, m13, m14, m15, m16⟩
theorem S69_Q (b k : Nat) : S69 b k → SQ g cc b k := fun z => Or.inl z
/-- only the reader's place is other -/
def At (h h1 : zH) (q : Nat) : Prop := FS S69 h h1 ∧ zI h1 69 2 = nI q
theorem At_Q (f : At h h1 q) : FS (SQ g cc) h h1 := FS_m S69_Q f.1
theorem At_C (m : CP h x s g cc) (f : At h h1 q) : CP h1 x s g cc := CP_f m (At_Q f)
theorem At_g (m : CP h x s g cc) (f : At h h1 q) (k : Nat) : zI h1 g k = zI h g k := f.1.2.2.2.2.1 _ _ (by have := m.2.2.2.2.2.2.2.2.2.2.2.1; unfold S69; omega)
theorem At_D (m : CP h x s g cc) (f : At h h1 q) (hd : Dr h g cc cs) : Dr h1 g cc cs := by
  have hc := m.2.2.2.2.2.2.2.2.2.2.2.2.1
  exact ⟨by rw [At_g m f]; exact hd.1, fun i hi => by rw [f.1.2.2.2.2.1 _ _ (by unfold S69; omega)]; exact hd.2 i hi⟩
theorem At_r (e : zI h 69 2 = nI p) : At h h p := ⟨FS_r _ _, e⟩
theorem At_w (q : Nat) : At h (wI h 69 2 (nI q)) q := ⟨FS_I _ ⟨rfl, rfl⟩, by rw [zI_wI, if_pos rfl, up_s]⟩
theorem At_t {h2 : zH} {q2 : Nat} (f : At h h1 q) (f2 : At h1 h2 q2) : At h h2 q2 := ⟨FS_t f.1 f2.1, f2.2⟩
/-! strings -/
theorem shr0 : ∀ n, n ≤ 6 → nI n >>> (0 &&& 31) = nI n := by decide +kernel
theorem kS_len (k : Nat) : (kS k).length ≤ 6 := by unfold kS; repeat' split <;> try decide
theorem kS_ch : ∀ k, k < 5 → ∀ j, j < (kS k).length → (((kS k).getD j 0 &&& 255).toUInt32 % 65536).toInt32 = (kS k).getD j 0 ∧ vp_nar .char ((kS k).getD j 0) = (kS k).getD j 0 := by decide +kernel
theorem kS_pos : ∀ k, k < 5 → ∀ j, j < (kS k).length → ¬ (kS k).getD j 0 = -1 := by decide +kernel
theorem c_len (m : KS h) (hk : k < 5) (Q : zQq) : zCall (d + 2) 1001 [.ref (1000003 + k)] h Q = Q (some (.int (nI (kS k).length))) h := by
  obtain ⟨m1, m2⟩ := m.2.2.2.2.1 k hk
  obtain ⟨m3, m4⟩ := m.2.2.2.2.2 k hk
  have e := shr0 _ (kS_len k)
  have e2 : ∀ n, Int32.ofNat n = nI n := fun n => rfl
  simp +decide only [Nat.reduceEqDiff, Nat.add_eq_left, Nat.left_eq_add, Nat.reduceAdd, Nat.reduceLeDiff, Nat.reduceMul, Nat.reduceSub, Nat.reduceLT, zlt8, zlt8_, zlt8n, zlt8n_, List.length_cons, List.length_nil, true_or, or_true, false_or, or_false, and_self, and_true, true_and, and_false, false_and, not_false_eq_true, not_true_eq_false, ite_true, ite_false, if_true, if_false, ite_not, zin, zpush_s, zpush_n, kl_int, kl_ref, kl_none, kl_kl, kl_long, kl_null, zT_wI, zT_wJ, zT_wR, zT_wIr, zT_wJr, zT_wRr, zI_wJ, zI_wR, zI_wJr, zI_wRr, zJ_wI, zJ_wR, zJ_wIr, zJ_wRr, zR_wI, zR_wJ, zR_wIr, zR_wJr, zN_wI, zN_wJ, zN_wR, zN_wIr, zN_wJr, zN_wRr, zZ_wI, zZ_wJ, zZ_wR, zZ_wIr, zZ_wJr, zZ_wRr, zI_wI, zJ_wJ, zR_wR, zI_wIr, zJ_wJr, zR_wRr, k1001, g1001_0, g1001_1, g1001_4, g1001_5, g1001_6, g1001_9, g1001_10, m1, m2, m3, k1003, g1003_0, g1003_3, g1003_6, g1003_7, g1003_10, g1003_13, g1003_14, e2, e, show vp_nar .byte 0 = 0 by decide]
theorem c_charAt (m : KS h) (hk : k < 5) {j : Nat} (hj : j < (kS k).length) (Q : zQq) : zCall (d + 4) 1002 [.ref (1000003 + k), .int (nI j)] h Q = Q (some (.int ((kS k).getD j 0))) h := by
  obtain ⟨m1, m2⟩ := m.2.2.2.2.1 k hk
  obtain ⟨m3, m4⟩ := m.2.2.2.2.2 k hk
  obtain ⟨e1, e3⟩ := kS_ch k hk j hj
  have hl := kS_len k
  have e2 : ∀ n, Int32.ofNat n = nI n := fun n => rfl
  have z1 := nI_pos (n := j) (by omega)
  have z2 := nI_clamp (n := j) (by omega)
  have z3 := nI_lt (a := j) (b := (kS k).length) hj (by omega)
  have e4 := m4 j hj
  simp +decide only [Nat.reduceEqDiff, Nat.add_eq_left, Nat.left_eq_add, Nat.reduceAdd, Nat.reduceLeDiff, Nat.reduceMul, Nat.reduceSub, Nat.reduceLT, zlt8, zlt8_, zlt8n, zlt8n_, List.length_cons, List.length_nil, true_or, or_true, false_or, or_false, and_self, and_true, true_and, and_false, false_and, not_false_eq_true, not_true_eq_false, ite_true, ite_false, if_true, if_false, ite_not, zin, zpush_s, zpush_n, kl_int, kl_ref, kl_none, kl_kl, kl_long, kl_null, zT_wI, zT_wJ, zT_wR, zT_wIr, zT_wJr, zT_wRr, zI_wJ, zI_wR, zI_wJr, zI_wRr, zJ_wI, zJ_wR, zJ_wIr, zJ_wRr, zR_wI, zR_wJ, zR_wIr, zR_wJr, zN_wI, zN_wJ, zN_wR, zN_wIr, zN_wJr, zN_wRr, zZ_wI, zZ_wJ, zZ_wR, zZ_wIr, zZ_wJr, zZ_wRr, zI_wI, zJ_wJ, zR_wR, zI_wIr, zJ_wJr, zR_wRr, k1002, g1002_0, g1002_1, g1002_4, g1002_7, g1002_8, g1002_11, g1002_12, g1002_15, g1002_16, g1002_17, g1002_20, m1, m2, m3, k1004, g1004_0, g1004_3, g1004_6, g1004_7, g1004_10, g1004_13, g1004_14, g1004_17, g1004_18, k1101, g1101_0, g1101_1, g1101_2, g1101_3, g1101_6, g1101_7, g1101_8, g1101_9, g1101_12, g1101_13, g1101_14, k1005, g1005_0, g1005_1, g1005_2, g1005_5, g1005_8, g1005_9, k1201, g1201_0, g1201_1, g1201_4, g1201_5, g1201_6, g1201_9, g1201_10, g1201_11, g1201_16, g1201_17, e1, e2, e3, e4, z1, z2, z3, hj]
/-! the reader's place -/
def pk (x : zW0) (s p : Nat) : Int32 := if p < s then x p else -1
theorem pk_tk (hc : ¬ c = -1) : (pk x s p = c) = (tk x s c p = true) := by
  unfold pk
  by_cases q : p < s
  · rw [if_pos q]
    refine propext ⟨fun e => tk_t q e, fun e => (tk_i.mp e).2⟩
  · rw [if_neg q, tk_f1 q]
    refine propext ⟨fun e => absurd e.symm hc, fun e => by simp at e⟩
theorem c_peek (m : CP h x s g cc) (e : zI h 69 2 = nI p) (hp : p ≤ s) (Q : zQq) : zCall (d + 1) 513 [.ref 69] h Q = Q (some (.int (pk x s p))) h := by
  obtain ⟨m1, m2, m3, m4, m5, m6, m7, m8, m9, m10, m11, m12, m13, m14, m15, m16⟩ := m
  unfold pk
  by_cases q : p < s
  · have z1 := nI_lt q (show s < 2 ^ 31 by omega)
    have z2 := nI_pos (n := p) (by omega)
    have z3 := nI_clamp (n := p) (by omega)
    have e2 := (m11 p q).1
    simp +decide only [Nat.reduceEqDiff, Nat.add_eq_left, Nat.left_eq_add, Nat.reduceAdd, Nat.reduceLeDiff, Nat.reduceMul, Nat.reduceSub, Nat.reduceLT, zlt8, zlt8_, zlt8n, zlt8n_, List.length_cons, List.length_nil, true_or, or_true, false_or, or_false, and_self, and_true, true_and, and_false, false_and, not_false_eq_true, not_true_eq_false, ite_true, ite_false, if_true, if_false, ite_not, zin, zpush_s, zpush_n, kl_int, kl_ref, kl_none, kl_kl, kl_long, kl_null, zT_wI, zT_wJ, zT_wR, zT_wIr, zT_wJr, zT_wRr, zI_wJ, zI_wR, zI_wJr, zI_wRr, zJ_wI, zJ_wR, zJ_wIr, zJ_wRr, zR_wI, zR_wJ, zR_wIr, zR_wJr, zN_wI, zN_wJ, zN_wR, zN_wIr, zN_wJr, zN_wRr, zZ_wI, zZ_wJ, zZ_wR, zZ_wIr, zZ_wJr, zZ_wRr, zI_wI, zJ_wJ, zR_wR, zI_wIr, zJ_wJr, zR_wRr, k513, g513_0, g513_1, g513_4, g513_5, g513_8, g513_11, g513_12, g513_15, g513_16, g513_19, g513_20, g513_23, g513_24, m2, m3, m4, m9, e, i_le, z1, z2, z3, e2, q, show p < 100 by omega]
  · have z1 := nI_nlt (show s ≤ p by omega) (show p < 2 ^ 31 by omega)
    simp +decide only [Nat.reduceEqDiff, Nat.add_eq_left, Nat.left_eq_add, Nat.reduceAdd, Nat.reduceLeDiff, Nat.reduceMul, Nat.reduceSub, Nat.reduceLT, zlt8, zlt8_, zlt8n, zlt8n_, List.length_cons, List.length_nil, true_or, or_true, false_or, or_false, and_self, and_true, true_and, and_false, false_and, not_false_eq_true, not_true_eq_false, ite_true, ite_false, if_true, if_false, ite_not, zin, zpush_s, zpush_n, kl_int, kl_ref, kl_none, kl_kl, kl_long, kl_null, zT_wI, zT_wJ, zT_wR, zT_wIr, zT_wJr, zT_wRr, zI_wJ, zI_wR, zI_wJr, zI_wRr, zJ_wI, zJ_wR, zJ_wIr, zJ_wRr, zR_wI, zR_wJ, zR_wIr, zR_wJr, zN_wI, zN_wJ, zN_wR, zN_wIr, zN_wJr, zN_wRr, zZ_wI, zZ_wJ, zZ_wR, zZ_wIr, zZ_wJr, zZ_wRr, zI_wI, zJ_wJ, zR_wR, zI_wIr, zJ_wJr, zR_wRr, k513, g513_0, g513_1, g513_4, g513_5, g513_8, g513_11, g513_12, g513_15, g513_16, g513_19, g513_20, g513_23, g513_24, m2, m3, m4, m9, e, i_le, z1, q]
theorem c_pass (m : CP h x s g cc) (e : zI h 69 2 = nI p) (hp : p ≤ s) (hc : ¬ c = -1) (Q : zQq) : zCall (d + 2) 512 [.ref 69, .int c] h Q = Q (some (.int (bB (tk x s c p)))) (if tk x s c p = true then wI h 69 2 (nI (p + 1)) else h) := by
  have cp : ∀ Q, zCall (d + 1) 513 [.ref 69] h Q = Q (some (.int (pk x s p))) h := fun Q => c_peek m e hp Q
  have et := pk_tk (x := x) (s := s) (p := p) hc
  obtain ⟨m1, m2, m3, m4, m5, m6, m7, m8, m9, m10, m11, m12, m13, m14, m15, m16⟩ := m
  cases q : tk x s c p <;> rw [q] at et <;> simp only [eq_iff_iff, Bool.false_eq_true, iff_false, iff_true] at et <;> simp +decide only [Nat.reduceEqDiff, Nat.add_eq_left, Nat.left_eq_add, Nat.reduceAdd, Nat.reduceLeDiff, Nat.reduceMul, Nat.reduceSub, Nat.reduceLT, zlt8, zlt8_, zlt8n, zlt8n_, List.length_cons, List.length_nil, true_or, or_true, false_or, or_false, and_self, and_true, true_and, and_false, false_and, not_false_eq_true, not_true_eq_false, ite_true, ite_false, if_true, if_false, ite_not, zin, zpush_s, zpush_n, kl_int, kl_ref, kl_none, kl_kl, kl_long, kl_null, zT_wI, zT_wJ, zT_wR, zT_wIr, zT_wJr, zT_wRr, zI_wJ, zI_wR, zI_wJr, zI_wRr, zJ_wI, zJ_wR, zJ_wIr, zJ_wRr, zR_wI, zR_wJ, zR_wIr, zR_wJr, zN_wI, zN_wJ, zN_wR, zN_wIr, zN_wJr, zN_wRr, zZ_wI, zZ_wJ, zZ_wR, zZ_wIr, zZ_wJr, zZ_wRr, zI_wI, zJ_wJ, zR_wR, zI_wIr, zJ_wJr, zR_wRr, k512, g512_0, g512_1, g512_4, g512_5, g512_8, g512_9, g512_10, g512_11, g512_12, g512_15, g512_16, g512_17, g512_20, g512_21, m2, e, cp, et, bB_t, bB_f, Bool.false_eq_true, nI_1]
theorem pass_At (e : zI h 69 2 = nI p) (o : Bool) : At h (if o = true then wI h 69 2 (nI (p + 1)) else h) (if o = true then p + 1 else p) := by
  cases o with
  | false => simp only [Bool.false_eq_true, if_false]; exact At_r e
  | true => simp only [if_true]; exact At_w _
theorem pWord_le (l : List Int32) : ∀ p, p ≤ s → p ≤ (pWord x s l p).1 ∧ (pWord x s l p).1 ≤ s := by
  induction l with
  | nil => exact fun p hp => ⟨Nat.le_refl _, hp⟩
  | cons c l ih =>
    intro p hp
    show p ≤ (if tk x s c p = true then pWord x s l (p + 1) else (p, false)).1 ∧ (if tk x s c p = true then pWord x s l (p + 1) else (p, false)).1 ≤ s
    split
    · next q =>
      have := (tk_i.mp q).1
      have := ih (p + 1) (by omega)
      omega
    · exact ⟨Nat.le_refl _, hp⟩
theorem c_word_lp (hk : k < 5) : ∀ (l : List Int32) (i : Nat) (h : zH) (p : Nat), (∀ j, l.getD j 0 = (kS k).getD (i + j) 0) → i + l.length = (kS k).length → CP h x s g cc → zI h 69 2 = nI p → p ≤ s → ∃ h1, At h h1 (pWord x s l p).1 ∧ ∀ Q, zG (d + 4) 511 2 [some (.ref 69), some (.ref (1000003 + k)), some (.int (nI i))] [] h Q = Q (some (.int (bB (pWord x s l p).2))) h1
  | [], i, h, p, hl, e, m, ep, hp => by
    have hlen := kS_len k
    have cl : ∀ Q, zCall (d + 4) 1001 [.ref (1000003 + k)] h Q = Q (some (.int (nI (kS k).length))) h := fun Q => c_len m.1 hk Q
    have e : i = (kS k).length := by simpa using e
    subst e
    have k1 := (m.1.2.2.2.2.1 k hk).1
    refine ⟨h, At_r ep, fun Q => ?_⟩
    rw [g511_2]
    simp +decide only [Nat.reduceEqDiff, Nat.add_eq_left, Nat.left_eq_add, Nat.reduceAdd, Nat.reduceLeDiff, Nat.reduceMul, Nat.reduceSub, Nat.reduceLT, zlt8, zlt8_, zlt8n, zlt8n_, List.length_cons, List.length_nil, true_or, or_true, false_or, or_false, and_self, and_true, true_and, and_false, false_and, not_false_eq_true, not_true_eq_false, ite_true, ite_false, if_true, if_false, ite_not, zin, zpush_s, zpush_n, kl_int, kl_ref, kl_none, kl_kl, kl_long, kl_null, zT_wI, zT_wJ, zT_wR, zT_wIr, zT_wJr, zT_wRr, zI_wJ, zI_wR, zI_wJr, zI_wRr, zJ_wI, zJ_wR, zJ_wIr, zJ_wRr, zR_wI, zR_wJ, zR_wIr, zR_wJr, zN_wI, zN_wJ, zN_wR, zN_wIr, zN_wJr, zN_wRr, zZ_wI, zZ_wJ, zZ_wR, zZ_wIr, zZ_wJr, zZ_wRr, zI_wI, zJ_wJ, zR_wR, zI_wIr, zJ_wJr, zR_wRr, g511_0, g511_1, g511_3, g511_4, g511_7, g511_10, g511_11, g511_12, g511_13, g511_16, g511_19, g511_22, g511_23, g511_24, g511_27, g511_30, g511_31, k1, cl, i_le, Int32.lt_irrefl]
    rfl
  | c :: l, i, h, p, hl, e, m, ep, hp => by
    have hlen := kS_len k
    have hi : i < (kS k).length := by simp at e; omega
    have ec : (kS k).getD i 0 = c := by have := hl 0; simpa using this.symm
    have cl : ∀ Q, zCall (d + 4) 1001 [.ref (1000003 + k)] h Q = Q (some (.int (nI (kS k).length))) h := fun Q => c_len m.1 hk Q
    have ca : ∀ Q, zCall (d + 4) 1002 [.ref (1000003 + k), .int (nI i)] h Q = Q (some (.int c)) h := fun Q => by rw [← ec]; exact c_charAt m.1 hk hi Q
    have hc : ¬ c = -1 := by rw [← ec]; exact kS_pos k hk i hi
    have cp : ∀ Q, zCall (d + 4) 512 [.ref 69, .int c] h Q = Q (some (.int (bB (tk x s c p)))) (if tk x s c p = true then wI h 69 2 (nI (p + 1)) else h) := fun Q => c_pass m ep hp hc Q
    have z1 := nI_lt (a := i) (b := (kS k).length) hi (by omega)
    have k1 := (m.1.2.2.2.2.1 k hk).1
    have m69 := m.2.1
    have ki : nI i + 1 = nI (i + 1) := nI_1 i
    cases q : tk x s c p with
    | false =>
      rw [q] at cp
      have e2 : pWord x s (c :: l) p = (p, false) := by rw [pWord, q]; rfl
      rw [e2]
      refine ⟨h, At_r ep, fun Q => ?_⟩
      rw [g511_2]
      simp +decide only [Nat.reduceEqDiff, Nat.add_eq_left, Nat.left_eq_add, Nat.reduceAdd, Nat.reduceLeDiff, Nat.reduceMul, Nat.reduceSub, Nat.reduceLT, zlt8, zlt8_, zlt8n, zlt8n_, List.length_cons, List.length_nil, true_or, or_true, false_or, or_false, and_self, and_true, true_and, and_false, false_and, not_false_eq_true, not_true_eq_false, ite_true, ite_false, if_true, if_false, ite_not, zin, zpush_s, zpush_n, kl_int, kl_ref, kl_none, kl_kl, kl_long, kl_null, zT_wI, zT_wJ, zT_wR, zT_wIr, zT_wJr, zT_wRr, zI_wJ, zI_wR, zI_wJr, zI_wRr, zJ_wI, zJ_wR, zJ_wIr, zJ_wRr, zR_wI, zR_wJ, zR_wIr, zR_wJr, zN_wI, zN_wJ, zN_wR, zN_wIr, zN_wJr, zN_wRr, zZ_wI, zZ_wJ, zZ_wR, zZ_wIr, zZ_wJr, zZ_wRr, zI_wI, zJ_wJ, zR_wR, zI_wIr, zJ_wJr, zR_wRr, g511_0, g511_1, g511_3, g511_4, g511_7, g511_10, g511_11, g511_12, g511_13, g511_16, g511_19, g511_22, g511_23, g511_24, g511_27, g511_30, g511_31, k1, m69, cl, ca, cp, i_le, z1, bB_f, Bool.false_eq_true]
    | true =>
      rw [q] at cp
      have e2 : pWord x s (c :: l) p = pWord x s l (p + 1) := by rw [pWord, q]; rfl
      have ps := (tk_i.mp q).1
      obtain ⟨h2, f2, g2⟩ := c_word_lp hk l (i + 1) (wI h 69 2 (nI (p + 1))) (p + 1) (fun j => by
        have := hl (j + 1)
        rw [List.getD_cons_succ] at this
        rw [this, show i + 1 + j = i + (j + 1) by omega]) (by simp at e; omega) (At_C m (At_w (p + 1))) (At_w (p + 1)).2 (by omega)
      rw [e2]
      refine ⟨h2, At_t (At_w (p + 1)) f2, fun Q => ?_⟩
      rw [g511_2, ← g2 Q]
      simp +decide only [Nat.reduceEqDiff, Nat.add_eq_left, Nat.left_eq_add, Nat.reduceAdd, Nat.reduceLeDiff, Nat.reduceMul, Nat.reduceSub, Nat.reduceLT, zlt8, zlt8_, zlt8n, zlt8n_, List.length_cons, List.length_nil, true_or, or_true, false_or, or_false, and_self, and_true, true_and, and_false, false_and, not_false_eq_true, not_true_eq_false, ite_true, ite_false, if_true, if_false, ite_not, zin, zpush_s, zpush_n, kl_int, kl_ref, kl_none, kl_kl, kl_long, kl_null, zT_wI, zT_wJ, zT_wR, zT_wIr, zT_wJr, zT_wRr, zI_wJ, zI_wR, zI_wJr, zI_wRr, zJ_wI, zJ_wR, zJ_wIr, zJ_wRr, zR_wI, zR_wJ, zR_wIr, zR_wJr, zN_wI, zN_wJ, zN_wR, zN_wIr, zN_wJr, zN_wRr, zZ_wI, zZ_wJ, zZ_wR, zZ_wIr, zZ_wJr, zZ_wRr, zI_wI, zJ_wJ, zR_wR, zI_wIr, zJ_wJr, zR_wRr, g511_0, g511_1, g511_3, g511_4, g511_7, g511_10, g511_11, g511_12, g511_13, g511_16, g511_19, g511_22, g511_23, g511_24, g511_27, g511_30, g511_31, k1, m69, cl, ca, cp, i_le, z1, bB_t, ki]
theorem c_word (m : CP h x s g cc) (e : zI h 69 2 = nI p) (hp : p ≤ s) (hk : k < 5) : ∃ h1, At h h1 (pWord x s (kS k) p).1 ∧ ∀ Q, zCall (d + 5) 511 [.ref 69, .ref (1000003 + k)] h Q = Q (some (.int (bB (pWord x s (kS k) p).2))) h1 := by
  obtain ⟨h1, f1, g1⟩ := c_word_lp (d := d) hk (kS k) 0 h p (fun j => by rw [Nat.zero_add]) (by omega) m e hp
  refine ⟨h1, f1, fun Q => ?_⟩
  rw [← g1 Q]
  simp +decide only [Nat.reduceEqDiff, Nat.add_eq_left, Nat.left_eq_add, Nat.reduceAdd, Nat.reduceLeDiff, Nat.reduceMul, Nat.reduceSub, Nat.reduceLT, zlt8, zlt8_, zlt8n, zlt8n_, List.length_cons, List.length_nil, true_or, or_true, false_or, or_false, and_self, and_true, true_and, and_false, false_and, not_false_eq_true, not_true_eq_false, ite_true, ite_false, if_true, if_false, ite_not, zin, zpush_s, zpush_n, kl_int, kl_ref, kl_none, kl_kl, kl_long, kl_null, zT_wI, zT_wJ, zT_wR, zT_wIr, zT_wJr, zT_wRr, zI_wJ, zI_wR, zI_wJr, zI_wRr, zJ_wI, zJ_wR, zJ_wIr, zJ_wRr, zR_wI, zR_wJ, zR_wIr, zR_wJr, zN_wI, zN_wJ, zN_wR, zN_wIr, zN_wJr, zN_wRr, zZ_wI, zZ_wJ, zZ_wR, zZ_wIr, zZ_wJr, zZ_wRr, zI_wI, zJ_wJ, zR_wR, zI_wIr, zJ_wJr, zR_wRr, k511, g511_0, g511_1, g511_3, g511_4, g511_7, g511_10, g511_11, g511_12, g511_13, g511_16, g511_19, g511_22, g511_23, g511_24, g511_27, g511_30, g511_31]
  rfl
theorem c_oneOf_lp (m : KS h) (hk : k < 5) (c : Int32) (Q : zQq) : ∀ (l : List Int32) (i : Nat), (∀ j, l.getD j 0 = (kS k).getD (i + j) 0) → i + l.length = (kS k).length → zG (d + 4) 514 2 [some (.int c), some (.ref (1000003 + k)), some (.int (nI i))] [] h Q = Q (some (.int (bB (decide (c ∈ l))))) h
  | [], i, hl, e => by
    have cl : ∀ Q, zCall (d + 4) 1001 [.ref (1000003 + k)] h Q = Q (some (.int (nI (kS k).length))) h := fun Q => c_len m hk Q
    have e : i = (kS k).length := by simpa using e
    subst e
    have k1 := (m.2.2.2.2.1 k hk).1
    rw [g514_2]
    simp +decide only [Nat.reduceEqDiff, Nat.add_eq_left, Nat.left_eq_add, Nat.reduceAdd, Nat.reduceLeDiff, Nat.reduceMul, Nat.reduceSub, Nat.reduceLT, zlt8, zlt8_, zlt8n, zlt8n_, List.length_cons, List.length_nil, true_or, or_true, false_or, or_false, and_self, and_true, true_and, and_false, false_and, not_false_eq_true, not_true_eq_false, ite_true, ite_false, if_true, if_false, ite_not, zin, zpush_s, zpush_n, kl_int, kl_ref, kl_none, kl_kl, kl_long, kl_null, zT_wI, zT_wJ, zT_wR, zT_wIr, zT_wJr, zT_wRr, zI_wJ, zI_wR, zI_wJr, zI_wRr, zJ_wI, zJ_wR, zJ_wIr, zJ_wRr, zR_wI, zR_wJ, zR_wIr, zR_wJr, zN_wI, zN_wJ, zN_wR, zN_wIr, zN_wJr, zN_wRr, zZ_wI, zZ_wJ, zZ_wR, zZ_wIr, zZ_wJr, zZ_wRr, zI_wI, zJ_wJ, zR_wR, zI_wIr, zJ_wJr, zR_wRr, g514_0, g514_1, g514_3, g514_4, g514_7, g514_10, g514_11, g514_12, g514_15, g514_16, g514_19, g514_20, g514_21, g514_24, g514_27, g514_28, k1, cl, i_le, Int32.lt_irrefl]
    rfl
  | c' :: l, i, hl, e => by
    have hlen := kS_len k
    have hi : i < (kS k).length := by simp at e; omega
    have ec : (kS k).getD i 0 = c' := by have := hl 0; simpa using this.symm
    have ih := c_oneOf_lp m hk c Q l (i + 1) (fun j => by
        have := hl (j + 1)
        rw [List.getD_cons_succ] at this
        rw [this, show i + 1 + j = i + (j + 1) by omega]) (by simp at e; omega)
    have cl : ∀ Q, zCall (d + 4) 1001 [.ref (1000003 + k)] h Q = Q (some (.int (nI (kS k).length))) h := fun Q => c_len m hk Q
    have ca : ∀ Q, zCall (d + 4) 1002 [.ref (1000003 + k), .int (nI i)] h Q = Q (some (.int c')) h := fun Q => by rw [← ec]; exact c_charAt m hk hi Q
    have z1 := nI_lt (a := i) (b := (kS k).length) hi (by omega)
    have k1 := (m.2.2.2.2.1 k hk).1
    have ki : nI i + 1 = nI (i + 1) := nI_1 i
    rw [g514_2]
    by_cases q : c' = c
    · have e1 : decide (c ∈ c' :: l) = true := by simp [q]
      rw [e1]
      simp +decide only [Nat.reduceEqDiff, Nat.add_eq_left, Nat.left_eq_add, Nat.reduceAdd, Nat.reduceLeDiff, Nat.reduceMul, Nat.reduceSub, Nat.reduceLT, zlt8, zlt8_, zlt8n, zlt8n_, List.length_cons, List.length_nil, true_or, or_true, false_or, or_false, and_self, and_true, true_and, and_false, false_and, not_false_eq_true, not_true_eq_false, ite_true, ite_false, if_true, if_false, ite_not, zin, zpush_s, zpush_n, kl_int, kl_ref, kl_none, kl_kl, kl_long, kl_null, zT_wI, zT_wJ, zT_wR, zT_wIr, zT_wJr, zT_wRr, zI_wJ, zI_wR, zI_wJr, zI_wRr, zJ_wI, zJ_wR, zJ_wIr, zJ_wRr, zR_wI, zR_wJ, zR_wIr, zR_wJr, zN_wI, zN_wJ, zN_wR, zN_wIr, zN_wJr, zN_wRr, zZ_wI, zZ_wJ, zZ_wR, zZ_wIr, zZ_wJr, zZ_wRr, zI_wI, zJ_wJ, zR_wR, zI_wIr, zJ_wJr, zR_wRr, g514_0, g514_1, g514_3, g514_4, g514_7, g514_10, g514_11, g514_12, g514_15, g514_16, g514_19, g514_20, g514_21, g514_24, g514_27, g514_28, k1, cl, ca, i_le, z1, q, bB_t]
    · have e1 : decide (c ∈ c' :: l) = decide (c ∈ l) := by
        have : ¬ c = c' := fun z => q z.symm
        simp [this]
      rw [e1, ← ih]
      simp +decide only [Nat.reduceEqDiff, Nat.add_eq_left, Nat.left_eq_add, Nat.reduceAdd, Nat.reduceLeDiff, Nat.reduceMul, Nat.reduceSub, Nat.reduceLT, zlt8, zlt8_, zlt8n, zlt8n_, List.length_cons, List.length_nil, true_or, or_true, false_or, or_false, and_self, and_true, true_and, and_false, false_and, not_false_eq_true, not_true_eq_false, ite_true, ite_false, if_true, if_false, ite_not, zin, zpush_s, zpush_n, kl_int, kl_ref, kl_none, kl_kl, kl_long, kl_null, zT_wI, zT_wJ, zT_wR, zT_wIr, zT_wJr, zT_wRr, zI_wJ, zI_wR, zI_wJr, zI_wRr, zJ_wI, zJ_wR, zJ_wIr, zJ_wRr, zR_wI, zR_wJ, zR_wIr, zR_wJr, zN_wI, zN_wJ, zN_wR, zN_wIr, zN_wJr, zN_wRr, zZ_wI, zZ_wJ, zZ_wR, zZ_wIr, zZ_wJr, zZ_wRr, zI_wI, zJ_wJ, zR_wR, zI_wIr, zJ_wJr, zR_wRr, g514_0, g514_1, g514_3, g514_4, g514_7, g514_10, g514_11, g514_12, g514_15, g514_16, g514_19, g514_20, g514_21, g514_24, g514_27, g514_28, k1, cl, ca, i_le, z1, q, ki]
theorem c_oneOf (m : KS h) (hk : k < 5) (c : Int32) (Q : zQq) : zCall (d + 5) 514 [.int c, .ref (1000003 + k)] h Q = Q (some (.int (bB (decide (c ∈ kS k))))) h := by
  rw [← c_oneOf_lp (d := d) m hk c Q (kS k) 0 (fun j => by rw [Nat.zero_add]) (by omega)]
  simp +decide only [Nat.reduceEqDiff, Nat.add_eq_left, Nat.left_eq_add, Nat.reduceAdd, Nat.reduceLeDiff, Nat.reduceMul, Nat.reduceSub, Nat.reduceLT, zlt8, zlt8_, zlt8n, zlt8n_, List.length_cons, List.length_nil, true_or, or_true, false_or, or_false, and_self, and_true, true_and, and_false, false_and, not_false_eq_true, not_true_eq_false, ite_true, ite_false, if_true, if_false, ite_not, zin, zpush_s, zpush_n, kl_int, kl_ref, kl_none, kl_kl, kl_long, kl_null, zT_wI, zT_wJ, zT_wR, zT_wIr, zT_wJr, zT_wRr, zI_wJ, zI_wR, zI_wJr, zI_wRr, zJ_wI, zJ_wR, zJ_wIr, zJ_wRr, zR_wI, zR_wJ, zR_wIr, zR_wJr, zN_wI, zN_wJ, zN_wR, zN_wIr, zN_wJr, zN_wRr, zZ_wI, zZ_wJ, zZ_wR, zZ_wIr, zZ_wJr, zZ_wRr, zI_wI, zJ_wJ, zR_wR, zI_wIr, zJ_wJr, zR_wRr, k514, g514_0, g514_1, g514_3, g514_4, g514_7, g514_10, g514_11, g514_12, g514_15, g514_16, g514_19, g514_20, g514_21, g514_24, g514_27, g514_28]
  rfl
