-- needs 30.p6
variable {d a b n t D K s p wv : Nat} {h h1 : zH} {w x nm : zW0} {c : Int32} {ok : Bool} {F : Nat → Nat × Option pE}
def pNx (x : zW0) (s m : Nat) (a : pA) (q : Nat) : Nat × Option pA := if m ≠ 0 ∧ tk x s 59 q = true then pAll x s m a (q + 1) else if q = s then (q, some a) else (q, none)
theorem pAll_s (m : Nat) (a : pA) (p : Nat) (ok : Bool) (q : Nat) (a2 : pA) (h1 : (pClause x s a p).1 = q) (h2 : (pClause x s a p).2.isSome = ok) (h3 : ∀ a3, (pClause x s a p).2 = some a3 → a2 = a3) : pAll x s (m + 1) a p = onOk ok (pNx x s m a2) q := by
  rw [pAll]
  revert h1 h2 h3
  rcases pClause x s a p with ⟨q', _ | a3⟩
  · intro h1 h2 h3
    simp only at h1
    subst h1
    have h2 : false = ok := h2
    subst h2
    rfl
  · intro h1 h2 h3
    simp only at h1
    subst h1
    have h2 : true = ok := h2
    subst h2
    have h3 := h3 a3 rfl
    subst h3
    rw [onOk_t]
    rfl
theorem r_all_lp : ∀ (m j : Nat) (h : zH) (q : Nat) (ok : Bool) (wv : Nat) (a : pA), j + m = 10 → PQ h x s nm → St h q ok wv → q ≤ s → (ok = true → zI h 88 16 = a.2.1 ∧ zI h 88 15 = a.2.2 nm) → ∃ h1, FS S6 h h1 ∧ zI h1 88 12 = nI (onOk ok (pNx x s m a) q).1 ∧ (onOk ok (pNx x s m a) q).1 ≤ s ∧ (∀ a3, (onOk ok (pNx x s m a) q).2 = some a3 → zI h1 88 16 = a3.2.1 ∧ zI h1 88 15 = a3.2.2 nm) ∧ ∀ Q, zG (d + 19) 827 27 [some (.ref 88), some (.int (nI j))] [] h Q = Q (some (.int (bB (onOk ok (pNx x s m a) q).2.isSome))) h1
  | m, j, h, q, ok, wv, a, e, hq, h0, hp, ha => by
    have m88 := hq.1.1.1
    have s1 := h0.1
    have s2 := h0.2.1
    have m3 := hq.2.2.1
    have m4 := hq.2.2.2.1
    have ci : ∀ Q, zCall (d + 19) 818 [.ref 88, .int 59] h Q = Q (some (.int (bB (ok && tk x s 59 q)))) h := fun Q => r_isAt (d := d + 18) hq h0 hp Q
    by_cases cc : m ≠ 0 ∧ (ok && tk x s 59 q) = true
    · obtain ⟨c1, c2⟩ := cc
      rw [c2] at ci
      obtain ⟨rfl, q2⟩ := Bool.and_eq_true_iff.mp c2
      have ps := (tk_i.mp q2).1
      obtain ⟨m', rfl⟩ : ∃ m', m = m' + 1 := ⟨m - 1, by omega⟩
      have f1 : FS S6 h (wI h 88 12 (nI (q + 1))) := f6 12 (nI (q + 1)) (by omega)
      have t1 := St_at h0 (q + 1)
      have m1 := PQ_6 f1 hq
      have ha1 : zI (wI h 88 12 (nI (q + 1))) 88 16 = a.2.1 ∧ zI (wI h 88 12 (nI (q + 1))) 88 15 = a.2.2 nm := by
        rw [zI_wI, if_pos rfl, up_n _ _ (by omega), up_n _ _ (by omega)]; exact ha rfl
      obtain ⟨h2, wv2, f2, t2, u2, w2, v2, g2⟩ := r_clause (d := d) m1 t1 (by omega) a (fun _ => ha1)
      rw [onOk_t] at t2 u2 w2 v2
      have m2 := PQ_6 f2 m1
      have en : onOk true (pNx x s (m' + 1) a) q = pAll x s (m' + 1) a (q + 1) := by
        rw [onOk_t, pNx, if_pos ⟨by omega, q2⟩]
      have hz : ∃ a2, ∀ a3, (pClause x s a (q + 1)).2 = some a3 → a2 = a3 := by
        rcases (pClause x s a (q + 1)).2 with _ | a3
        · exact ⟨pA0, fun a3 h => by simp at h⟩
        · exact ⟨a3, fun a4 h => Option.some.inj h⟩
      obtain ⟨a2, hz⟩ := hz
      rw [en, pAll_s m' a (q + 1) _ _ a2 rfl rfl hz]
      obtain ⟨h3, f3, w3, x3, y3, g3⟩ := r_all_lp m' (j + 1) h2 _ _ wv2 a2 (by omega) m2 t2 w2 (fun ho => by
        obtain ⟨a3, e3⟩ := Option.isSome_iff_exists.mp ho
        rw [hz a3 e3]
        exact v2 a3 e3)
      refine ⟨h3, FS_t f1 (FS_t f2 f3), w3, x3, y3, fun Q => ?_⟩
      have z10 : ¬ (10 : Int32) ≤ nI j := by rw [i_le]; exact Classical.not_not.mpr (nI_lt (b := 10) (by omega) (by omega))
      rw [← g3 Q, g827_27]
      simp +decide only [Nat.reduceEqDiff, Nat.add_eq_left, Nat.left_eq_add, Nat.reduceAdd, Nat.reduceLeDiff, Nat.reduceMul, Nat.reduceSub, Nat.reduceLT, zlt8, zlt8_, zlt8n, zlt8n_, List.length_cons, List.length_nil, true_or, or_true, false_or, or_false, and_self, and_true, true_and, and_false, false_and, not_false_eq_true, not_true_eq_false, ite_true, ite_false, if_true, if_false, ite_not, zin, zpush_s, zpush_n, kl_int, kl_ref, kl_none, kl_kl, kl_long, kl_null, zT_wI, zT_wJ, zT_wR, zT_wIr, zT_wJr, zT_wRr, zI_wJ, zI_wR, zI_wJr, zI_wRr, zJ_wI, zJ_wR, zJ_wIr, zJ_wRr, zR_wI, zR_wJ, zR_wIr, zR_wJr, zN_wI, zN_wJ, zN_wR, zN_wIr, zN_wJr, zN_wRr, zZ_wI, zZ_wJ, zZ_wR, zZ_wIr, zZ_wJr, zZ_wRr, zI_wI, zJ_wJ, zR_wR, zI_wIr, zJ_wJr, zR_wRr, g827_28, g827_30, g827_33, g827_34, g827_36, g827_39, g827_42, g827_43, g827_44, g827_47, g827_48, g827_49, g827_52, g827_53, g827_56, g827_59, m88, s1, ci, z10, g2, nI_1, bB_t]
    · have gx : ∀ Q, zG (d + 19) 827 27 [some (.ref 88), some (.int (nI j))] [] h Q = zG (d + 19) 827 62 [some (.ref 88), some (.int (nI j))] [] h Q := fun Q => by
        rw [g827_27]
        by_cases c1 : m = 0
        · have e10 : j = 10 := by omega
          subst e10
          simp +decide only [Nat.reduceEqDiff, Nat.add_eq_left, Nat.left_eq_add, Nat.reduceAdd, Nat.reduceLeDiff, Nat.reduceMul, Nat.reduceSub, Nat.reduceLT, zlt8, zlt8_, zlt8n, zlt8n_, List.length_cons, List.length_nil, true_or, or_true, false_or, or_false, and_self, and_true, true_and, and_false, false_and, not_false_eq_true, not_true_eq_false, ite_true, ite_false, if_true, if_false, ite_not, zin, zpush_s, zpush_n, kl_int, kl_ref, kl_none, kl_kl, kl_long, kl_null, zT_wI, zT_wJ, zT_wR, zT_wIr, zT_wJr, zT_wRr, zI_wJ, zI_wR, zI_wJr, zI_wRr, zJ_wI, zJ_wR, zJ_wIr, zJ_wRr, zR_wI, zR_wJ, zR_wIr, zR_wJr, zN_wI, zN_wJ, zN_wR, zN_wIr, zN_wJr, zN_wRr, zZ_wI, zZ_wJ, zZ_wR, zZ_wIr, zZ_wJr, zZ_wRr, zI_wI, zJ_wJ, zR_wR, zI_wIr, zJ_wJr, zR_wRr, g827_28, g827_30, show (10 : Int32) ≤ nI 10 by decide]
        · have c2 : (ok && tk x s 59 q) = false := by
            cases c2 : (ok && tk x s 59 q) with
            | true => exact absurd ⟨c1, c2⟩ cc
            | false => rfl
          rw [c2] at ci
          have z10 : ¬ (10 : Int32) ≤ nI j := by rw [i_le]; exact Classical.not_not.mpr (nI_lt (b := 10) (by omega) (by omega))
          simp +decide only [Nat.reduceEqDiff, Nat.add_eq_left, Nat.left_eq_add, Nat.reduceAdd, Nat.reduceLeDiff, Nat.reduceMul, Nat.reduceSub, Nat.reduceLT, zlt8, zlt8_, zlt8n, zlt8n_, List.length_cons, List.length_nil, true_or, or_true, false_or, or_false, and_self, and_true, true_and, and_false, false_and, not_false_eq_true, not_true_eq_false, ite_true, ite_false, if_true, if_false, ite_not, zin, zpush_s, zpush_n, kl_int, kl_ref, kl_none, kl_kl, kl_long, kl_null, zT_wI, zT_wJ, zT_wR, zT_wIr, zT_wJr, zT_wRr, zI_wJ, zI_wR, zI_wJr, zI_wRr, zJ_wI, zJ_wR, zJ_wIr, zJ_wRr, zR_wI, zR_wJ, zR_wIr, zR_wJr, zN_wI, zN_wJ, zN_wR, zN_wIr, zN_wJr, zN_wRr, zZ_wI, zZ_wJ, zZ_wR, zZ_wIr, zZ_wJr, zZ_wRr, zI_wI, zJ_wJ, zR_wR, zI_wIr, zJ_wJr, zR_wRr, g827_28, g827_30, g827_33, g827_34, g827_36, g827_39, m88, ci, z10, bB_f]
      cases ok with
      | false =>
        rw [onOk_f]
        refine ⟨h, FS_r _ _, s1, hp, fun a3 h => by simp at h, fun Q => ?_⟩
        rw [gx]
        simp +decide only [Nat.reduceEqDiff, Nat.add_eq_left, Nat.left_eq_add, Nat.reduceAdd, Nat.reduceLeDiff, Nat.reduceMul, Nat.reduceSub, Nat.reduceLT, zlt8, zlt8_, zlt8n, zlt8n_, List.length_cons, List.length_nil, true_or, or_true, false_or, or_false, and_self, and_true, true_and, and_false, false_and, not_false_eq_true, not_true_eq_false, ite_true, ite_false, if_true, if_false, ite_not, zin, zpush_s, zpush_n, kl_int, kl_ref, kl_none, kl_kl, kl_long, kl_null, zT_wI, zT_wJ, zT_wR, zT_wIr, zT_wJr, zT_wRr, zI_wJ, zI_wR, zI_wJr, zI_wRr, zJ_wI, zJ_wR, zJ_wIr, zJ_wRr, zR_wI, zR_wJ, zR_wIr, zR_wJr, zN_wI, zN_wJ, zN_wR, zN_wIr, zN_wJr, zN_wRr, zZ_wI, zZ_wJ, zZ_wR, zZ_wIr, zZ_wJr, zZ_wRr, zI_wI, zJ_wJ, zR_wR, zI_wIr, zJ_wJr, zR_wRr, g827_62, g827_63, g827_66, g827_84, g827_85, m88, s2, bB_f, Option.isSome]
      | true =>
        rw [Bool.true_and] at cc
        have en : pNx x s m a q = if q = s then (q, some a) else (q, none) := if_neg cc
        rw [onOk_t, en]
        by_cases cs : q = s
        · rw [if_pos cs]
          refine ⟨h, FS_r _ _, s1, hp, fun a3 h => by simp at h; rw [← h]; exact ha rfl, fun Q => ?_⟩
          rw [gx]
          simp +decide only [Nat.reduceEqDiff, Nat.add_eq_left, Nat.left_eq_add, Nat.reduceAdd, Nat.reduceLeDiff, Nat.reduceMul, Nat.reduceSub, Nat.reduceLT, zlt8, zlt8_, zlt8n, zlt8n_, List.length_cons, List.length_nil, true_or, or_true, false_or, or_false, and_self, and_true, true_and, and_false, false_and, not_false_eq_true, not_true_eq_false, ite_true, ite_false, if_true, if_false, ite_not, zin, zpush_s, zpush_n, kl_int, kl_ref, kl_none, kl_kl, kl_long, kl_null, zT_wI, zT_wJ, zT_wR, zT_wIr, zT_wJr, zT_wRr, zI_wJ, zI_wR, zI_wJr, zI_wRr, zJ_wI, zJ_wR, zJ_wIr, zJ_wRr, zR_wI, zR_wJ, zR_wIr, zR_wJr, zN_wI, zN_wJ, zN_wR, zN_wIr, zN_wJr, zN_wRr, zZ_wI, zZ_wJ, zZ_wR, zZ_wIr, zZ_wJr, zZ_wRr, zI_wI, zJ_wJ, zR_wR, zI_wIr, zJ_wJr, zR_wRr, g827_62, g827_63, g827_66, g827_69, g827_70, g827_73, g827_74, g827_77, g827_80, g827_81, g827_84, g827_85, m88, s1, s2, m3, cs, bB_t, Option.isSome]
        · rw [if_neg cs]
          refine ⟨h, FS_r _ _, s1, hp, fun a3 h => by simp at h, fun Q => ?_⟩
          have ne : ¬ nI q = nI s := fun z => cs ((nI_eq (by omega) (by omega)).mp z)
          rw [gx]
          simp +decide only [Nat.reduceEqDiff, Nat.add_eq_left, Nat.left_eq_add, Nat.reduceAdd, Nat.reduceLeDiff, Nat.reduceMul, Nat.reduceSub, Nat.reduceLT, zlt8, zlt8_, zlt8n, zlt8n_, List.length_cons, List.length_nil, true_or, or_true, false_or, or_false, and_self, and_true, true_and, and_false, false_and, not_false_eq_true, not_true_eq_false, ite_true, ite_false, if_true, if_false, ite_not, zin, zpush_s, zpush_n, kl_int, kl_ref, kl_none, kl_kl, kl_long, kl_null, zT_wI, zT_wJ, zT_wR, zT_wIr, zT_wJr, zT_wRr, zI_wJ, zI_wR, zI_wJr, zI_wRr, zJ_wI, zJ_wR, zJ_wIr, zJ_wRr, zR_wI, zR_wJ, zR_wIr, zR_wJr, zN_wI, zN_wJ, zN_wR, zN_wIr, zN_wJr, zN_wRr, zZ_wI, zZ_wJ, zZ_wR, zZ_wIr, zZ_wJr, zZ_wRr, zI_wI, zJ_wJ, zR_wR, zI_wIr, zJ_wJr, zR_wRr, g827_62, g827_63, g827_66, g827_69, g827_70, g827_73, g827_74, g827_77, g827_80, g827_81, g827_84, g827_85, m88, s1, s2, m3, ne, bB_t, bB_f, Option.isSome]
theorem nI_all (z : Int32) : ∃ k, z = nI k := by
  refine ⟨z.toBitVec.toNat, ?_⟩
  apply Int32.toBitVec_inj.mp
  show z.toBitVec = BitVec.ofNat 32 z.toBitVec.toNat
  simp
theorem r_readAll (m : PQ h x s nm) : ∃ h1, FS S6 h h1 ∧ zI h1 88 12 = nI (pAll x s 10 pA0 0).1 ∧ (pAll x s 10 pA0 0).1 ≤ s ∧ (∀ a3, (pAll x s 10 pA0 0).2 = some a3 → zI h1 88 16 = a3.2.1 ∧ zI h1 88 15 = a3.2.2 nm) ∧ ∀ Q, zCall (d + 20) 827 [.ref 88] h Q = Q (some (.int (bB (pAll x s 10 pA0 0).2.isSome))) h1 := by
  obtain ⟨wv, hwv⟩ := nI_all (zI h 88 14)
  have f1 : FS S6 h (wI (wI (wI (wI h 88 12 0) 88 13 1) 88 15 0) 88 16 10) := FS_t (f6 12 0 (by omega)) (FS_t (f6 13 1 (by omega)) (FS_t (f6 15 0 (by omega)) (f6 16 10 (by omega))))
  have t1 : St (wI (wI (wI (wI h 88 12 0) 88 13 1) 88 15 0) 88 16 10) 0 true wv := by
    refine ⟨?_, ?_, ?_⟩ <;> simp +decide only [zI_wI, if_true, up_a, if_false, hwv] <;> rfl
  have m1 := PQ_6 f1 m
  obtain ⟨h2, wv2, f2, t2, u2, w2, v2, g2⟩ := r_clause (d := d) m1 t1 (Nat.zero_le _) pA0 (fun _ => by
    refine ⟨?_, ?_⟩ <;> simp +decide only [zI_wI, if_true, up_a, if_false] <;> rfl)
  rw [onOk_t] at t2 u2 w2 v2
  have m2 := PQ_6 f2 m1
  have hz : ∃ a2, ∀ a3, (pClause x s pA0 0).2 = some a3 → a2 = a3 := by
    rcases (pClause x s pA0 0).2 with _ | a3
    · exact ⟨pA0, fun a3 h => by simp at h⟩
    · exact ⟨a3, fun a4 h => Option.some.inj h⟩
  obtain ⟨a2, hz⟩ := hz
  obtain ⟨h3, f3, w3, x3, y3, g3⟩ := r_all_lp (d := d) 9 1 h2 _ _ wv2 a2 (by omega) m2 t2 w2 (fun ho => by
    obtain ⟨a3, e3⟩ := Option.isSome_iff_exists.mp ho
    rw [hz a3 e3]
    exact v2 a3 e3)
  rw [pAll_s 9 pA0 0 _ _ a2 rfl rfl hz]
  refine ⟨h3, FS_t f1 (FS_t f2 f3), w3, x3, y3, fun Q => ?_⟩
  have m88 := m.1.1.1
  have g3' : ∀ Q, zG (d + 19) 827 27 [some (.ref 88), some (.int 1)] [] h2 Q = _ := g3
  rw [← g3' Q]
  simp +decide only [Nat.reduceEqDiff, Nat.add_eq_left, Nat.left_eq_add, Nat.reduceAdd, Nat.reduceLeDiff, Nat.reduceMul, Nat.reduceSub, Nat.reduceLT, zlt8, zlt8_, zlt8n, zlt8n_, List.length_cons, List.length_nil, true_or, or_true, false_or, or_false, and_self, and_true, true_and, and_false, false_and, not_false_eq_true, not_true_eq_false, ite_true, ite_false, if_true, if_false, ite_not, zin, zpush_s, zpush_n, kl_int, kl_ref, kl_none, kl_kl, kl_long, kl_null, zT_wI, zT_wJ, zT_wR, zT_wIr, zT_wJr, zT_wRr, zI_wJ, zI_wR, zI_wJr, zI_wRr, zJ_wI, zJ_wR, zJ_wIr, zJ_wRr, zR_wI, zR_wJ, zR_wIr, zR_wJr, zN_wI, zN_wJ, zN_wR, zN_wIr, zN_wJr, zN_wRr, zZ_wI, zZ_wJ, zZ_wR, zZ_wIr, zZ_wJr, zZ_wRr, zI_wI, zJ_wJ, zR_wR, zI_wIr, zJ_wJr, zR_wRr, k827, g827_0, g827_1, g827_2, g827_5, g827_6, g827_7, g827_10, g827_11, g827_12, g827_15, g827_16, g827_18, g827_21, g827_22, g827_23, g827_24, m88, g2]
