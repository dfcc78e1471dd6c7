-- needs 30.p2
variable {d a b n t D K s p wv : Nat} {h h1 : zH} {w x nm : zW0} {c : Int32} {ok : Bool} {F : Nat → Nat × Option pE}
theorem onOk_f {α : Type} (F : Nat → Nat × Option α) (p : Nat) : onOk false F p = (p, none) := rfl
theorem onOk_t {α : Type} (F : Nat → Nat × Option α) (p : Nat) : onOk true F p = F p := rfl
theorem S4_88 (f : FS S4 h h1) (m : zT h 88 = (8, 29)) : zT h1 88 = (8, 29) := by rw [f.1]; exact m
theorem r_and_lp (hG : Imp x nm s 823 (D + 1) wv (F)) : ∀ (m : Nat) (h : zH) (p : Nat) (ok : Bool) (e : pE) (b : Bool) (l2 : Option Value), s ≤ p + m → PQ h x s nm → St h p ok wv → p ≤ s → (ok = true → b = e.2 nm) → ∃ h1 b1, FS S4 h h1 ∧ St h1 (onOk ok (pAnd x s F m e) p).1 (onOk ok (pAnd x s F m e) p).2.isSome wv ∧ p ≤ (onOk ok (pAnd x s F m e) p).1 ∧ (onOk ok (pAnd x s F m e) p).1 ≤ s ∧ (∀ e', (onOk ok (pAnd x s F m e) p).2 = some e' → b1 = e'.2 nm) ∧ ∀ Q, zG (d + (D + 1)) 824 5 [some (.ref 88), some (.int (bB b)), l2] [] h Q = Q (some (.int (bB b1))) h1
  | m, h, p, ok, e, b, l2, hm, hq, h0, hp, hb => by
    have m88 := hq.1.1.1
    have ci : ∀ Q, zCall (d + (D + 1)) 818 [.ref 88, .int 38] h Q = Q (some (.int (bB (ok && tk x s 38 p)))) h := fun Q => r_isAt (d := d + D) hq h0 hp Q
    cases q : (ok && tk x s 38 p) with
    | false =>
      rw [q] at ci
      have hz := bB_z b
      have ec : ∀ Q, zG (d + (D + 1)) 824 5 [some (.ref 88), some (.int (bB b)), l2] [] h Q = Q (some (.int (bB b))) h := fun Q => by
        rw [g824_5]
        simp +decide only [Nat.reduceEqDiff, Nat.add_eq_left, Nat.left_eq_add, Nat.reduceAdd, Nat.reduceLeDiff, Nat.reduceMul, Nat.reduceSub, Nat.reduceLT, zlt8, zlt8_, zlt8n, zlt8n_, List.length_cons, List.length_nil, true_or, or_true, false_or, or_false, and_self, and_true, true_and, and_false, false_and, not_false_eq_true, not_true_eq_false, ite_true, ite_false, if_true, if_false, ite_not, zin, zpush_s, zpush_n, kl_int, kl_ref, kl_none, kl_kl, kl_long, kl_null, zT_wI, zT_wJ, zT_wR, zT_wIr, zT_wJr, zT_wRr, zI_wJ, zI_wR, zI_wJr, zI_wRr, zJ_wI, zJ_wR, zJ_wIr, zJ_wRr, zR_wI, zR_wJ, zR_wIr, zR_wJr, zN_wI, zN_wJ, zN_wR, zN_wIr, zN_wJr, zN_wRr, zZ_wI, zZ_wJ, zZ_wR, zZ_wIr, zZ_wJr, zZ_wRr, zI_wI, zJ_wJ, zR_wR, zI_wIr, zJ_wJr, zR_wRr, g824_0, g824_1, g824_4, g824_6, g824_8, g824_11, g824_14, g824_15, g824_16, g824_19, g824_20, g824_21, g824_24, g824_25, g824_28, g824_29, g824_30, g824_33, g824_34, g824_37, g824_38, g824_41, g824_42, g824_43, g824_46, g824_47, m88, ci, bB_f, hz]
      cases ok with
      | false => exact ⟨h, b, FS_r _ _, h0, Nat.le_refl _, hp, fun e' he => by simp [onOk_f] at he, ec⟩
      | true =>
        rw [Bool.true_and] at q
        have e1 : pAnd x s F m e p = (p, some e) := by
          cases m with
          | zero => rfl
          | succ m => unfold pAnd; rw [q]; rfl
        rw [onOk_t, e1]
        exact ⟨h, b, FS_r _ _, h0, Nat.le_refl _, hp, fun e' he => by simp at he; rw [← he]; exact hb rfl, ec⟩
    | true =>
      rw [q] at ci
      obtain ⟨rfl, q2⟩ := Bool.and_eq_true_iff.mp q
      have ps := (tk_i.mp q2).1
      obtain ⟨m', rfl⟩ : ∃ m', m = m' + 1 := ⟨m - 1, by omega⟩
      have f1 : FS S4 h (wI h 88 12 (nI (p + 1))) := f4 12 (nI (p + 1)) (by omega)
      have t1 := St_at h0 (p + 1)
      have m1 := PQ_4 f1 hq
      obtain ⟨h2, b2, f2, t2, u1, u2, v2, g2⟩ := hG d _ (p + 1) true m1 t1 (by omega)
      rw [onOk_t] at t2 u1 u2 v2
      have m2 := PQ_4 f2 m1
      have s1 := h0.1
      have k88 := m2.1.1.1
      have bz : ∀ Q, zG (d + (D + 1)) 824 5 [some (.ref 88), some (.int (bB b)), l2] [] h Q = zG (d + (D + 1)) 824 5 [some (.ref 88), some (.int (bB (b && b2))), some (.int (bB b2))] [] h2 Q := fun Q => by
        rw [g824_5]
        cases b <;> cases b2 <;> simp +decide only [Nat.reduceEqDiff, Nat.add_eq_left, Nat.left_eq_add, Nat.reduceAdd, Nat.reduceLeDiff, Nat.reduceMul, Nat.reduceSub, Nat.reduceLT, zlt8, zlt8_, zlt8n, zlt8n_, List.length_cons, List.length_nil, true_or, or_true, false_or, or_false, and_self, and_true, true_and, and_false, false_and, not_false_eq_true, not_true_eq_false, ite_true, ite_false, if_true, if_false, ite_not, zin, zpush_s, zpush_n, kl_int, kl_ref, kl_none, kl_kl, kl_long, kl_null, zT_wI, zT_wJ, zT_wR, zT_wIr, zT_wJr, zT_wRr, zI_wJ, zI_wR, zI_wJr, zI_wRr, zJ_wI, zJ_wR, zJ_wIr, zJ_wRr, zR_wI, zR_wJ, zR_wIr, zR_wJr, zN_wI, zN_wJ, zN_wR, zN_wIr, zN_wJr, zN_wRr, zZ_wI, zZ_wJ, zZ_wR, zZ_wIr, zZ_wJr, zZ_wRr, zI_wI, zJ_wJ, zR_wR, zI_wIr, zJ_wJr, zR_wRr, g824_0, g824_1, g824_4, g824_6, g824_8, g824_11, g824_14, g824_15, g824_16, g824_19, g824_20, g824_21, g824_24, g824_25, g824_28, g824_29, g824_30, g824_33, g824_34, g824_37, g824_38, g824_41, g824_42, g824_43, g824_46, g824_47, m88, k88, ci, s1, nI_1, g2, bB_t, bB_f, Bool.true_and, Bool.false_and, Bool.true_or, Bool.false_or]
      rw [onOk_t]
      have eP : pAnd x s F (m' + 1) e p = (match F (p + 1) with
          | (q, some e2) => pAnd x s F m' (e.1 ++ e2.1 ++ [pCode 38 0 0], fun nm => e.2 nm && e2.2 nm) q
          | (q, none) => (q, none)) := by
        rw [pAnd, q2]; rfl
      rw [eP]
      revert t2 u1 u2 v2
      rcases F (p + 1) with ⟨q', _ | e2⟩
      · intro t2 u1 u2 v2
        obtain ⟨h3, b3, f3, t3, w1, w2, w3, g3⟩ := r_and_lp hG m' h2 q' false e (b && b2) (some (.int (bB b2))) (by simp only at u1; omega) m2 t2 u2 (fun z => by simp at z)
        exact ⟨h3, b3, FS_t f1 (FS_t f2 f3), t3, by simp only at u1 ⊢; omega, u2, fun e' he => by simp at he, fun Q => by rw [bz, g3]⟩
      · intro t2 u1 u2 v2
        obtain ⟨h3, b3, f3, t3, w1, w2, w3, g3⟩ := r_and_lp hG m' h2 q' true (e.1 ++ e2.1 ++ [pCode 38 0 0], fun nm => e.2 nm && e2.2 nm) (b && b2) (some (.int (bB b2))) (by simp only at u1; omega) m2 t2 u2 (fun _ => by rw [hb rfl, v2 e2 rfl])
        rw [onOk_t] at t3 w1 w2 w3
        exact ⟨h3, b3, FS_t f1 (FS_t f2 f3), t3, by simp only at u1 w1 ⊢; omega, w2, w3, fun Q => by rw [bz, g3]⟩
theorem r_and (hG : Imp x nm s 823 (D + 1) wv (F)) : Imp x nm s 824 (D + 2) wv (pBoth x s F) := by
  intro d h p ok m h0 hp
  obtain ⟨h1, b, f1, t1, u1, u2, v1, g1⟩ := hG d h p ok m h0 hp
  have m1 := PQ_4 f1 m
  have m88 := m.1.1.1
  have key : ∀ (e : pE) (ok1 : Bool) (q : Nat), (onOk ok (F) p).1 = q → (onOk ok (F) p).2.isSome = ok1 → (ok1 = true → b = e.2 nm) → onOk ok (pBoth x s F) p = onOk ok1 (pAnd x s F s e) q → ∃ h1 b, FS S4 h h1 ∧ St h1 (onOk ok (pBoth x s F) p).1 (onOk ok (pBoth x s F) p).2.isSome wv ∧ p ≤ (onOk ok (pBoth x s F) p).1 ∧ (onOk ok (pBoth x s F) p).1 ≤ s ∧ (∀ e, (onOk ok (pBoth x s F) p).2 = some e → b = e.2 nm) ∧ ∀ Q, zCall (d + (D + 2)) 824 [.ref 88] h Q = Q (some (.int (bB b))) h1 := by
    intro e ok1 q hq ho he eR
    rw [hq] at t1 u1 u2
    rw [ho] at t1
    obtain ⟨h2, b2, f2, t2, w1, w2, w3, g2⟩ := r_and_lp (d := d) hG s h1 q ok1 e b none (by omega) m1 t1 u2 he
    rw [eR]
    refine ⟨h2, b2, FS_t f1 f2, t2, by omega, w2, w3, fun Q => ?_⟩
    rw [← g2 Q, show d + (D + 2) = d + (D + 1) + 1 from rfl]
    simp +decide only [Nat.reduceEqDiff, Nat.add_eq_left, Nat.left_eq_add, Nat.reduceAdd, Nat.reduceLeDiff, Nat.reduceMul, Nat.reduceSub, Nat.reduceLT, zlt8, zlt8_, zlt8n, zlt8n_, List.length_cons, List.length_nil, true_or, or_true, false_or, or_false, and_self, and_true, true_and, and_false, false_and, not_false_eq_true, not_true_eq_false, ite_true, ite_false, if_true, if_false, ite_not, zin, zpush_s, zpush_n, kl_int, kl_ref, kl_none, kl_kl, kl_long, kl_null, zT_wI, zT_wJ, zT_wR, zT_wIr, zT_wJr, zT_wRr, zI_wJ, zI_wR, zI_wJr, zI_wRr, zJ_wI, zJ_wR, zJ_wIr, zJ_wRr, zR_wI, zR_wJ, zR_wIr, zR_wJr, zN_wI, zN_wJ, zN_wR, zN_wIr, zN_wJr, zN_wRr, zZ_wI, zZ_wJ, zZ_wR, zZ_wIr, zZ_wJr, zZ_wRr, zI_wI, zJ_wJ, zR_wR, zI_wIr, zJ_wJr, zR_wRr, k824, g824_0, g824_1, g824_4, m88, g1]
  cases ok with
  | false => exact key ([], fun _ => false) false p rfl rfl (fun z => by simp at z) rfl
  | true =>
    rw [onOk_t] at v1
    rcases hF : F p with ⟨q, _ | e⟩
    · exact key ([], fun _ => false) false q (by rw [onOk_t, hF]) (by rw [onOk_t, hF]; rfl) (fun z => by simp at z) (by rw [onOk_t, onOk_f, pBoth, hF])
    · exact key e true q (by rw [onOk_t, hF]) (by rw [onOk_t, hF]; rfl) (fun _ => v1 e (by rw [hF])) (by rw [onOk_t, onOk_t, pBoth, hF])
theorem r_or_lp (hG : Imp x nm s 824 (D + 1) wv (pBoth x s F)) : ∀ (m : Nat) (h : zH) (p : Nat) (ok : Bool) (e : pE) (b : Bool) (l2 : Option Value), s ≤ p + m → PQ h x s nm → St h p ok wv → p ≤ s → (ok = true → b = e.2 nm) → ∃ h1 b1, FS S4 h h1 ∧ St h1 (onOk ok (pOr x s F m e) p).1 (onOk ok (pOr x s F m e) p).2.isSome wv ∧ p ≤ (onOk ok (pOr x s F m e) p).1 ∧ (onOk ok (pOr x s F m e) p).1 ≤ s ∧ (∀ e', (onOk ok (pOr x s F m e) p).2 = some e' → b1 = e'.2 nm) ∧ ∀ Q, zG (d + (D + 1)) 825 5 [some (.ref 88), some (.int (bB b)), l2] [] h Q = Q (some (.int (bB b1))) h1
  | m, h, p, ok, e, b, l2, hm, hq, h0, hp, hb => by
    have m88 := hq.1.1.1
    have ci : ∀ Q, zCall (d + (D + 1)) 818 [.ref 88, .int 124] h Q = Q (some (.int (bB (ok && tk x s 124 p)))) h := fun Q => r_isAt (d := d + D) hq h0 hp Q
    cases q : (ok && tk x s 124 p) with
    | false =>
      rw [q] at ci
      have hz := bB_z b
      have ec : ∀ Q, zG (d + (D + 1)) 825 5 [some (.ref 88), some (.int (bB b)), l2] [] h Q = Q (some (.int (bB b))) h := fun Q => by
        rw [g825_5]
        simp +decide only [Nat.reduceEqDiff, Nat.add_eq_left, Nat.left_eq_add, Nat.reduceAdd, Nat.reduceLeDiff, Nat.reduceMul, Nat.reduceSub, Nat.reduceLT, zlt8, zlt8_, zlt8n, zlt8n_, List.length_cons, List.length_nil, true_or, or_true, false_or, or_false, and_self, and_true, true_and, and_false, false_and, not_false_eq_true, not_true_eq_false, ite_true, ite_false, if_true, if_false, ite_not, zin, zpush_s, zpush_n, kl_int, kl_ref, kl_none, kl_kl, kl_long, kl_null, zT_wI, zT_wJ, zT_wR, zT_wIr, zT_wJr, zT_wRr, zI_wJ, zI_wR, zI_wJr, zI_wRr, zJ_wI, zJ_wR, zJ_wIr, zJ_wRr, zR_wI, zR_wJ, zR_wIr, zR_wJr, zN_wI, zN_wJ, zN_wR, zN_wIr, zN_wJr, zN_wRr, zZ_wI, zZ_wJ, zZ_wR, zZ_wIr, zZ_wJr, zZ_wRr, zI_wI, zJ_wJ, zR_wR, zI_wIr, zJ_wJr, zR_wRr, g825_0, g825_1, g825_4, g825_6, g825_8, g825_11, g825_14, g825_15, g825_16, g825_19, g825_20, g825_21, g825_24, g825_25, g825_28, g825_29, g825_30, g825_33, g825_34, g825_37, g825_38, g825_41, g825_42, g825_43, g825_46, g825_47, m88, ci, bB_f, hz]
      cases ok with
      | false => exact ⟨h, b, FS_r _ _, h0, Nat.le_refl _, hp, fun e' he => by simp [onOk_f] at he, ec⟩
      | true =>
        rw [Bool.true_and] at q
        have e1 : pOr x s F m e p = (p, some e) := by
          cases m with
          | zero => rfl
          | succ m => unfold pOr; rw [q]; rfl
        rw [onOk_t, e1]
        exact ⟨h, b, FS_r _ _, h0, Nat.le_refl _, hp, fun e' he => by simp at he; rw [← he]; exact hb rfl, ec⟩
    | true =>
      rw [q] at ci
      obtain ⟨rfl, q2⟩ := Bool.and_eq_true_iff.mp q
      have ps := (tk_i.mp q2).1
      obtain ⟨m', rfl⟩ : ∃ m', m = m' + 1 := ⟨m - 1, by omega⟩
      have f1 : FS S4 h (wI h 88 12 (nI (p + 1))) := f4 12 (nI (p + 1)) (by omega)
      have t1 := St_at h0 (p + 1)
      have m1 := PQ_4 f1 hq
      obtain ⟨h2, b2, f2, t2, u1, u2, v2, g2⟩ := hG d _ (p + 1) true m1 t1 (by omega)
      rw [onOk_t] at t2 u1 u2 v2
      have m2 := PQ_4 f2 m1
      have s1 := h0.1
      have k88 := m2.1.1.1
      have bz : ∀ Q, zG (d + (D + 1)) 825 5 [some (.ref 88), some (.int (bB b)), l2] [] h Q = zG (d + (D + 1)) 825 5 [some (.ref 88), some (.int (bB (b || b2))), some (.int (bB b2))] [] h2 Q := fun Q => by
        rw [g825_5]
        cases b <;> cases b2 <;> simp +decide only [Nat.reduceEqDiff, Nat.add_eq_left, Nat.left_eq_add, Nat.reduceAdd, Nat.reduceLeDiff, Nat.reduceMul, Nat.reduceSub, Nat.reduceLT, zlt8, zlt8_, zlt8n, zlt8n_, List.length_cons, List.length_nil, true_or, or_true, false_or, or_false, and_self, and_true, true_and, and_false, false_and, not_false_eq_true, not_true_eq_false, ite_true, ite_false, if_true, if_false, ite_not, zin, zpush_s, zpush_n, kl_int, kl_ref, kl_none, kl_kl, kl_long, kl_null, zT_wI, zT_wJ, zT_wR, zT_wIr, zT_wJr, zT_wRr, zI_wJ, zI_wR, zI_wJr, zI_wRr, zJ_wI, zJ_wR, zJ_wIr, zJ_wRr, zR_wI, zR_wJ, zR_wIr, zR_wJr, zN_wI, zN_wJ, zN_wR, zN_wIr, zN_wJr, zN_wRr, zZ_wI, zZ_wJ, zZ_wR, zZ_wIr, zZ_wJr, zZ_wRr, zI_wI, zJ_wJ, zR_wR, zI_wIr, zJ_wJr, zR_wRr, g825_0, g825_1, g825_4, g825_6, g825_8, g825_11, g825_14, g825_15, g825_16, g825_19, g825_20, g825_21, g825_24, g825_25, g825_28, g825_29, g825_30, g825_33, g825_34, g825_37, g825_38, g825_41, g825_42, g825_43, g825_46, g825_47, m88, k88, ci, s1, nI_1, g2, bB_t, bB_f, Bool.true_and, Bool.false_and, Bool.true_or, Bool.false_or]
      rw [onOk_t]
      have eP : pOr x s F (m' + 1) e p = (match pBoth x s F (p + 1) with
          | (q, some e2) => pOr x s F m' (e.1 ++ e2.1 ++ [pCode 124 0 0], fun nm => e.2 nm || e2.2 nm) q
          | (q, none) => (q, none)) := by
        rw [pOr, q2]; rfl
      rw [eP]
      revert t2 u1 u2 v2
      rcases pBoth x s F (p + 1) with ⟨q', _ | e2⟩
      · intro t2 u1 u2 v2
        obtain ⟨h3, b3, f3, t3, w1, w2, w3, g3⟩ := r_or_lp hG m' h2 q' false e (b || b2) (some (.int (bB b2))) (by simp only at u1; omega) m2 t2 u2 (fun z => by simp at z)
        exact ⟨h3, b3, FS_t f1 (FS_t f2 f3), t3, by simp only at u1 ⊢; omega, u2, fun e' he => by simp at he, fun Q => by rw [bz, g3]⟩
      · intro t2 u1 u2 v2
        obtain ⟨h3, b3, f3, t3, w1, w2, w3, g3⟩ := r_or_lp hG m' h2 q' true (e.1 ++ e2.1 ++ [pCode 124 0 0], fun nm => e.2 nm || e2.2 nm) (b || b2) (some (.int (bB b2))) (by simp only at u1; omega) m2 t2 u2 (fun _ => by rw [hb rfl, v2 e2 rfl])
        rw [onOk_t] at t3 w1 w2 w3
        exact ⟨h3, b3, FS_t f1 (FS_t f2 f3), t3, by simp only at u1 w1 ⊢; omega, w2, w3, fun Q => by rw [bz, g3]⟩
theorem r_or (hG : Imp x nm s 824 (D + 1) wv (pBoth x s F)) : Imp x nm s 825 (D + 2) wv (pAny x s F) := by
  intro d h p ok m h0 hp
  obtain ⟨h1, b, f1, t1, u1, u2, v1, g1⟩ := hG d h p ok m h0 hp
  have m1 := PQ_4 f1 m
  have m88 := m.1.1.1
  have key : ∀ (e : pE) (ok1 : Bool) (q : Nat), (onOk ok (pBoth x s F) p).1 = q → (onOk ok (pBoth x s F) p).2.isSome = ok1 → (ok1 = true → b = e.2 nm) → onOk ok (pAny x s F) p = onOk ok1 (pOr x s F s e) q → ∃ h1 b, FS S4 h h1 ∧ St h1 (onOk ok (pAny x s F) p).1 (onOk ok (pAny x s F) p).2.isSome wv ∧ p ≤ (onOk ok (pAny x s F) p).1 ∧ (onOk ok (pAny x s F) p).1 ≤ s ∧ (∀ e, (onOk ok (pAny x s F) p).2 = some e → b = e.2 nm) ∧ ∀ Q, zCall (d + (D + 2)) 825 [.ref 88] h Q = Q (some (.int (bB b))) h1 := by
    intro e ok1 q hq ho he eR
    rw [hq] at t1 u1 u2
    rw [ho] at t1
    obtain ⟨h2, b2, f2, t2, w1, w2, w3, g2⟩ := r_or_lp (d := d) hG s h1 q ok1 e b none (by omega) m1 t1 u2 he
    rw [eR]
    refine ⟨h2, b2, FS_t f1 f2, t2, by omega, w2, w3, fun Q => ?_⟩
    rw [← g2 Q, show d + (D + 2) = d + (D + 1) + 1 from rfl]
    simp +decide only [Nat.reduceEqDiff, Nat.add_eq_left, Nat.left_eq_add, Nat.reduceAdd, Nat.reduceLeDiff, Nat.reduceMul, Nat.reduceSub, Nat.reduceLT, zlt8, zlt8_, zlt8n, zlt8n_, List.length_cons, List.length_nil, true_or, or_true, false_or, or_false, and_self, and_true, true_and, and_false, false_and, not_false_eq_true, not_true_eq_false, ite_true, ite_false, if_true, if_false, ite_not, zin, zpush_s, zpush_n, kl_int, kl_ref, kl_none, kl_kl, kl_long, kl_null, zT_wI, zT_wJ, zT_wR, zT_wIr, zT_wJr, zT_wRr, zI_wJ, zI_wR, zI_wJr, zI_wRr, zJ_wI, zJ_wR, zJ_wIr, zJ_wRr, zR_wI, zR_wJ, zR_wIr, zR_wJr, zN_wI, zN_wJ, zN_wR, zN_wIr, zN_wJr, zN_wRr, zZ_wI, zZ_wJ, zZ_wR, zZ_wIr, zZ_wJr, zZ_wRr, zI_wI, zJ_wJ, zR_wR, zI_wIr, zJ_wJr, zR_wRr, k825, g825_0, g825_1, g825_4, m88, g1]
  cases ok with
  | false => exact key ([], fun _ => false) false p rfl rfl (fun z => by simp at z) rfl
  | true =>
    rw [onOk_t] at v1
    rcases hF : pBoth x s F p with ⟨q, _ | e⟩
    · exact key ([], fun _ => false) false q (by rw [onOk_t, hF]) (by rw [onOk_t, hF]; rfl) (fun z => by simp at z) (by rw [onOk_t, onOk_f, pAny, hF])
    · exact key e true q (by rw [onOk_t, hF]) (by rw [onOk_t, hF]; rfl) (fun _ => v1 e (by rw [hF])) (by rw [onOk_t, onOk_t, pAny, hF])
