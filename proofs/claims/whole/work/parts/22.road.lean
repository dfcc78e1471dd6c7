-- needs 21.spec
/-! the class's Road, at any of its places: shape, values -/
def RS (h : zH) (a : Nat) : Prop := zT h a = (2, 12) ∧ zT h (a + 1) = (20, 6) ∧ zT h (a + 2) = (20, 6) ∧ zT h (a + 3) = (20, 6) ∧ zT h (a + 4) = (20, 6) ∧ zT h (a + 5) = (20, 6) ∧ zT h (a + 6) = (23, 6) ∧ zT h (a + 7) = (26, 6) ∧ zR h a 0 = .ref (a + 1) ∧ zR h a 1 = .ref (a + 2) ∧ zR h a 2 = .ref (a + 3) ∧ zR h a 3 = .ref (a + 4) ∧ zR h a 4 = .ref (a + 5) ∧ zR h a 5 = .ref (a + 6) ∧ zR h a 6 = .ref (a + 7) ∧ ∀ t, t < 6 → zR h (a + 7) t = .ref (a + 8 + t) ∧ zT h (a + 8 + t) = (20, 4)
/-- one traveller's numbers -/
def Rt (h : zH) (a : Nat) (w : zW0) (t : Nat) : Prop := zI h (a + 1) t = w (10 * t) ∧ zI h (a + 2) t = w (10 * t + 1) ∧ zI h (a + 3) t = w (10 * t + 2) ∧ zI h (a + 4) t = w (10 * t + 3) ∧ zI h (a + 6) t = w (10 * t + 4) ∧ zI h (a + 5) t = w (10 * t + 5) ∧ ∀ j, j < 4 → zI h (a + 8 + t) j = w (10 * t + 6 + j)
def Rv (h : zH) (a n : Nat) (w : zW0) (fp : Int32) (sv : Value) : Prop := zI h a 7 = nI n ∧ zI h a 8 = w 61 ∧ zI h a 9 = w 62 ∧ zI h a 11 = fp ∧ zR h a 10 = sv ∧ ∀ t, t < n → Rt h a w t
/-- only what S names is other -/
def FS (S : Nat → Nat → Prop) (h h1 : zH) : Prop := zT h1 = zT h ∧ zJ h1 = zJ h ∧ zN h1 = zN h ∧ zZ h1 = zZ h ∧ (∀ b k, ¬ S b k → zI h1 b k = zI h b k) ∧ (∀ b k, ¬ S b k → zR h1 b k = zR h b k)
theorem FS_r (S : Nat → Nat → Prop) (h : zH) : FS S h h := ⟨rfl, rfl, rfl, rfl, fun _ _ _ => rfl, fun _ _ _ => rfl⟩
theorem FS_t {S : Nat → Nat → Prop} {h h1 h2 : zH} (f : FS S h h1) (g : FS S h1 h2) : FS S h h2 := ⟨g.1.trans f.1, g.2.1.trans f.2.1, g.2.2.1.trans f.2.2.1, g.2.2.2.1.trans f.2.2.2.1, fun b k q => (g.2.2.2.2.1 b k q).trans (f.2.2.2.2.1 b k q), fun b k q => (g.2.2.2.2.2 b k q).trans (f.2.2.2.2.2 b k q)⟩
theorem FS_m {S S' : Nat → Nat → Prop} {h h1 : zH} (hS : ∀ b k, S b k → S' b k) (f : FS S h h1) : FS S' h h1 := ⟨f.1, f.2.1, f.2.2.1, f.2.2.2.1, fun b k q => f.2.2.2.2.1 b k (fun z => q (hS b k z)), fun b k q => f.2.2.2.2.2 b k (fun z => q (hS b k z))⟩
theorem FS_I {S : Nat → Nat → Prop} {h : zH} {a k : Nat} (x : Int32) (hS : S a k) : FS S h (wI h a k x) := ⟨rfl, rfl, rfl, rfl, fun b j q => by
  rw [zI_wI]
  split
  · next e => subst e; rw [up_a]; split
              · next e => subst e; exact absurd hS q
              · rfl
  · rfl, fun _ _ _ => rfl⟩
theorem FS_R {S : Nat → Nat → Prop} {h : zH} {a k : Nat} (x : Value) (hS : S a k) : FS S h (wR h a k x) := ⟨rfl, rfl, rfl, rfl, fun _ _ _ => rfl, fun b j q => by
  rw [zR_wR]
  split
  · next e => subst e; rw [up_a]; split
              · next e => subst e; exact absurd hS q
              · rfl
  · rfl⟩
/-- the numbers of a road that a day may change -/
def SR (a b k : Nat) : Prop := (b = a ∧ (k = 8 ∨ k = 9)) ∨ b = a + 3 ∨ b = a + 4 ∨ b = a + 5 ∨ b = a + 6
theorem RS_f {S : Nat → Nat → Prop} {h h1 : zH} {a : Nat} (hS : ∀ b, a ≤ b → b ≤ a + 7 → ∀ k, S b k → ¬ b = a + 7 ∧ (b = a → 7 ≤ k)) (f : FS S h h1) (r : RS h a) : RS h1 a := by
  obtain ⟨f1, -, -, -, -, f2⟩ := f
  unfold RS at r ⊢
  rw [f1]
  have e : ∀ k, k < 7 → zR h1 a k = zR h a k := fun k hk => f2 _ _ (fun z => by have := (hS a (by omega) (by omega) k z).2 rfl; omega)
  have e7 : ∀ k, zR h1 (a + 7) k = zR h (a + 7) k := fun k => f2 _ _ (fun z => (hS (a + 7) (by omega) (by omega) k z).1 rfl)
  rw [e 0 (by omega), e 1 (by omega), e 2 (by omega), e 3 (by omega), e 4 (by omega), e 5 (by omega), e 6 (by omega)]
  simp only [e7]
  exact r
theorem RS_R {h h1 : zH} {a b : Nat} (f : FS (SR a) h h1) (r : RS h b) (hb : b = a ∨ b + 8 ≤ a ∨ a + 8 ≤ b) : RS h1 b := RS_f (fun c h1 h2 k z => by unfold SR at z; omega) f r
variable {d a n t : Nat} {h : zH} {w : zW0} {fp x y z : Int32} {sv : Value}
theorem c_put (hS : RS h a) (ht : t < 6) (Q : zQq) : zCall (d + 1) 204 [.ref a, .int (nI t), .int x] h Q = Q none (wI (wI h (a + 4) t x) (a + 6) t 0) := by
  obtain ⟨q0, q1, q2, q3, q4, q5, q6, q7, r0, r1, r2, r3, r4, r5, r6, r7⟩ := hS
  have z1 := nI_pos (n := t) (by omega)
  have z2 := nI_clamp (n := t) (by omega)
  simp +decide only [Nat.reduceEqDiff, Nat.add_eq_left, Nat.left_eq_add, Nat.reduceAdd, Nat.reduceLeDiff, Nat.reduceMul, Nat.reduceSub, Nat.reduceLT, zlt8, zlt8_, zlt8n, zlt8n_, List.length_cons, List.length_nil, true_or, or_true, false_or, or_false, and_self, and_true, true_and, and_false, false_and, not_false_eq_true, not_true_eq_false, ite_true, ite_false, if_true, if_false, ite_not, zin, zpush_s, zpush_n, kl_int, kl_ref, kl_none, kl_kl, kl_long, kl_null, zT_wI, zT_wJ, zT_wR, zT_wIr, zT_wJr, zT_wRr, zI_wJ, zI_wR, zI_wJr, zI_wRr, zJ_wI, zJ_wR, zJ_wIr, zJ_wRr, zR_wI, zR_wJ, zR_wIr, zR_wJr, zN_wI, zN_wJ, zN_wR, zN_wIr, zN_wJr, zN_wRr, zZ_wI, zZ_wJ, zZ_wR, zZ_wIr, zZ_wJr, zZ_wRr, zI_wI, zJ_wJ, zR_wR, zI_wIr, zJ_wJr, zR_wRr, k204, g204_0, g204_1, g204_4, g204_5, g204_6, g204_7, g204_8, g204_11, g204_12, g204_13, g204_14, q0, q4, q6, r3, r5, z1, z2, ht, show vp_nar .boolean 0 = 0 by decide]
theorem c_esteem (hS : RS h a) (ht : t < 6) (Q : zQq) : zCall (d + 1) 205 [.ref a, .int (nI t), .int x] h Q = Q none (wI h (a + 3) t (zmin (zI h (a + 3) t + x) 99)) := by
  obtain ⟨q0, q1, q2, q3, q4, q5, q6, q7, r0, r1, r2, r3, r4, r5, r6, r7⟩ := hS
  have z1 := nI_pos (n := t) (by omega)
  have z2 := nI_clamp (n := t) (by omega)
  simp +decide only [Nat.reduceEqDiff, Nat.add_eq_left, Nat.left_eq_add, Nat.reduceAdd, Nat.reduceLeDiff, Nat.reduceMul, Nat.reduceSub, Nat.reduceLT, zlt8, zlt8_, zlt8n, zlt8n_, List.length_cons, List.length_nil, true_or, or_true, false_or, or_false, and_self, and_true, true_and, and_false, false_and, not_false_eq_true, not_true_eq_false, ite_true, ite_false, if_true, if_false, ite_not, zin, zpush_s, zpush_n, kl_int, kl_ref, kl_none, kl_kl, kl_long, kl_null, zT_wI, zT_wJ, zT_wR, zT_wIr, zT_wJr, zT_wRr, zI_wJ, zI_wR, zI_wJr, zI_wRr, zJ_wI, zJ_wR, zJ_wIr, zJ_wRr, zR_wI, zR_wJ, zR_wIr, zR_wJr, zN_wI, zN_wJ, zN_wR, zN_wIr, zN_wJr, zN_wRr, zZ_wI, zZ_wJ, zZ_wR, zZ_wIr, zZ_wJr, zZ_wRr, zI_wI, zJ_wJ, zR_wR, zI_wIr, zJ_wJr, zR_wRr, k205, g205_0, g205_1, g205_4, g205_5, g205_6, g205_9, g205_10, g205_11, g205_12, g205_13, g205_15, g205_18, g205_19, q0, q3, r2, z1, z2, ht]
theorem c_bitsAt_lp (hS : RS h a) (hv : Rv h a n w fp sv) (hn : n ≤ 6) (Q : zQq) : ∀ (m t : Nat) (s : Int32), t + m = n → zG d 208 4 [some (.ref a), some (.int x), some (.int s), some (.int (nI t))] [] h Q = Q (some (.int (lp (fun t s => if w (10 * t + 3) = x then s ||| iShl 1 (nI t) else s) m t s))) h
  | 0, t, s, e => by
    obtain ⟨q0, q1, q2, q3, q4, q5, q6, q7, r0, r1, r2, r3, r4, r5, r6, r7⟩ := hS
    obtain ⟨v1, v2, v3, v4, v5, v6⟩ := hv
    have e : n = t := by omega
    subst e
    simp +decide only [Nat.reduceEqDiff, Nat.add_eq_left, Nat.left_eq_add, Nat.reduceAdd, Nat.reduceLeDiff, Nat.reduceMul, Nat.reduceSub, Nat.reduceLT, zlt8, zlt8_, zlt8n, zlt8n_, List.length_cons, List.length_nil, true_or, or_true, false_or, or_false, and_self, and_true, true_and, and_false, false_and, not_false_eq_true, not_true_eq_false, ite_true, ite_false, if_true, if_false, ite_not, zin, zpush_s, zpush_n, kl_int, kl_ref, kl_none, kl_kl, kl_long, kl_null, zT_wI, zT_wJ, zT_wR, zT_wIr, zT_wJr, zT_wRr, zI_wJ, zI_wR, zI_wJr, zI_wRr, zJ_wI, zJ_wR, zJ_wIr, zJ_wRr, zR_wI, zR_wJ, zR_wIr, zR_wJr, zN_wI, zN_wJ, zN_wR, zN_wIr, zN_wJr, zN_wRr, zZ_wI, zZ_wJ, zZ_wR, zZ_wIr, zZ_wJr, zZ_wRr, zI_wI, zJ_wJ, zR_wR, zI_wIr, zJ_wJr, zR_wRr, g208_0, g208_1, g208_2, g208_3, g208_4, g208_5, g208_6, g208_9, g208_12, g208_13, g208_16, g208_17, g208_18, g208_19, g208_22, g208_23, g208_24, g208_25, g208_26, g208_27, g208_28, g208_31, g208_34, g208_35, q0, v1, i_le, Int32.lt_irrefl, lp_0]
  | m + 1, t, s, e => by
    have ih := c_bitsAt_lp hS hv hn Q m (t + 1)
    obtain ⟨q0, q1, q2, q3, q4, q5, q6, q7, r0, r1, r2, r3, r4, r5, r6, r7⟩ := hS
    obtain ⟨v1, v2, v3, v4, v5, v6⟩ := hv
    obtain ⟨u1, u2, u3, u4, u5, u6, u7⟩ := v6 t (by omega)
    have z1 := nI_pos (n := t) (by omega)
    have z2 := nI_clamp (n := t) (by omega)
    have z3 := nI_lt (a := t) (b := n) (by omega) (by omega)
    rw [g208_4]
    by_cases c : w (10 * t + 3) = x <;> simp +decide only [Nat.reduceEqDiff, Nat.add_eq_left, Nat.left_eq_add, Nat.reduceAdd, Nat.reduceLeDiff, Nat.reduceMul, Nat.reduceSub, Nat.reduceLT, zlt8, zlt8_, zlt8n, zlt8n_, List.length_cons, List.length_nil, true_or, or_true, false_or, or_false, and_self, and_true, true_and, and_false, false_and, not_false_eq_true, not_true_eq_false, ite_true, ite_false, if_true, if_false, ite_not, zin, zpush_s, zpush_n, kl_int, kl_ref, kl_none, kl_kl, kl_long, kl_null, zT_wI, zT_wJ, zT_wR, zT_wIr, zT_wJr, zT_wRr, zI_wJ, zI_wR, zI_wJr, zI_wRr, zJ_wI, zJ_wR, zJ_wIr, zJ_wRr, zR_wI, zR_wJ, zR_wIr, zR_wJr, zN_wI, zN_wJ, zN_wR, zN_wIr, zN_wJr, zN_wRr, zZ_wI, zZ_wJ, zZ_wR, zZ_wIr, zZ_wJr, zZ_wRr, zI_wI, zJ_wJ, zR_wR, zI_wIr, zJ_wJr, zR_wRr, g208_0, g208_1, g208_2, g208_3, g208_5, g208_6, g208_9, g208_12, g208_13, g208_16, g208_17, g208_18, g208_19, g208_22, g208_23, g208_24, g208_25, g208_26, g208_27, g208_28, g208_31, g208_34, g208_35, q0, q4, r3, v1, u4, z1, z2, z3, i_le, show t < 6 by omega, c, nI_1, lp_s] <;> exact ih _ (by omega)
theorem c_bitsAt (hS : RS h a) (hv : Rv h a n w fp sv) (hn : n ≤ 6) (Q : zQq) : zCall (d + 1) 208 [.ref a, .int x] h Q = Q (some (.int (sAt w n x))) h := by
  have := c_bitsAt_lp (d := d) (x := x) hS hv hn Q n 0 0 (by omega)
  simp only [k208, g208_0, g208_1, g208_2, g208_3, g208_5, g208_6, g208_9, g208_12, g208_13, g208_16, g208_17, g208_18, g208_19, g208_22, g208_23, g208_24, g208_25, g208_26, g208_27, g208_28, g208_31, g208_34, g208_35, Nat.reduceEqDiff, Nat.add_eq_left, Nat.left_eq_add, Nat.reduceAdd, Nat.reduceLeDiff, Nat.reduceMul, Nat.reduceSub, Nat.reduceLT, zlt8, zlt8_, zlt8n, zlt8n_, List.length_cons, List.length_nil, true_or, or_true, false_or, or_false, and_self, and_true, true_and, and_false, false_and, not_false_eq_true, not_true_eq_false, ite_true, ite_false, if_true, if_false, ite_not, zin, zpush_s, zpush_n, kl_int, kl_ref, kl_none, kl_kl, kl_long, kl_null]
  exact this
