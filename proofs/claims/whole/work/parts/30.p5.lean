-- needs 30.p4
variable {d a b n t D K s p wv : Nat} {h h1 : zH} {w x nm : zW0} {c : Int32} {ok : Bool} {F : Nat → Nat × Option pE}
def onW (x : zW0) (s : Nat) (l : List Int32) (ok : Bool) (p : Nat) : Nat × Bool := if ok then pWord x s l p else (p, false)
theorem pWord_app (l : List Int32) : ∀ p, pWord x s (l ++ [c]) p = (match pWord x s l p with
    | (q, true) => if tk x s c q then (q + 1, true) else (q, false)
    | (q, false) => (q, false)) := by
  induction l with
  | nil => intro p; rfl
  | cons e l ih =>
    intro p
    show (if tk x s e p = true then pWord x s (l ++ [c]) (p + 1) else (p, false)) = (match (if tk x s e p = true then pWord x s l (p + 1) else (p, false)) with
      | (q, true) => if tk x s c q then (q + 1, true) else (q, false)
      | (q, false) => (q, false))
    split
    · exact ih (p + 1)
    · rfl
theorem onW_app (l : List Int32) (p : Nat) : onW x s (l ++ [c]) ok p = (if ((onW x s l ok p).2 && tk x s c (onW x s l ok p).1) = true then (onW x s l ok p).1 + 1 else (onW x s l ok p).1, (onW x s l ok p).2 && tk x s c (onW x s l ok p).1) := by
  unfold onW
  cases ok with
  | false => rfl
  | true =>
    rw [if_pos rfl, if_pos rfl, pWord_app]
    rcases pWord x s l p with ⟨q, _ | _⟩
    · rfl
    · simp only [Bool.true_and]
      cases tk x s c q <;> rfl
theorem r_word : ∀ (l : List Int32) (k : Nat) (h : zH) (p : Nat) (ok : Bool) (cI : Nat), PQ h x s nm → St h p ok wv → p ≤ s → cI < 3 → (∀ i, i < l.length → (mcK 99).getD (5 * cI + (k + i)) 0 = l.getD i 0 ∧ ¬ l.getD i 0 = 0) → k + l.length < 5 → (mcK 99).getD (5 * cI + (k + l.length)) 0 = 0 → ∃ h1, FS S4 h h1 ∧ St h1 (onW x s l ok p).1 (onW x s l ok p).2 wv ∧ p ≤ (onW x s l ok p).1 ∧ (onW x s l ok p).1 ≤ s ∧ ∀ Q, zG (d + 2) 826 47 [some (.ref 88), some (.int (nI cI)), some (.int (nI k)), none] [] h Q = zG (d + 2) 826 85 [some (.ref 88), some (.int (nI cI)), some (.int (nI (k + l.length))), none] [] h1 Q
  | l, k, h, p, ok, cI, m, h0, hp, hc, hl, he, h00 => by
    have e5 : (5 : Int32) * nI cI = nI (5 * cI) := by rw [show (5 : Int32) = nI 5 from rfl, pk_mul]
    have ea := nI_add (5 * cI) k
    have b1 := nI_pos (n := 5 * cI + k) (by omega)
    have d1 := nI_clamp (n := 5 * cI + k) (by omega)
    have z5 : ¬ (5 : Int32) ≤ nI k := by rw [i_le]; exact Classical.not_not.mpr (nI_lt (b := 5) (by omega) (by omega))
    have em : zI h 99 (5 * cI + k) = (mcK 99).getD (5 * cI + k) 0 := m.1.2 99 (by omega) (by omega) _ (by show 5 * cI + k < 15; omega)
    cases l with
    | nil =>
      rw [List.length_nil, Nat.add_zero] at h00
      rw [h00] at em
      refine ⟨h, FS_r _ _, ?_, ?_, ?_, fun Q => ?_⟩
      · unfold onW
        cases ok <;> exact h0
      · unfold onW
        cases ok <;> exact Nat.le_refl _
      · unfold onW
        cases ok <;> exact hp
      · obtain ⟨m88, m89, m90, m91, m92, m93, m94, m95, m96, m97, m98, m99, m100, m101, m102, m103, m104, m105, m106, n0, n1, n2, n5, n7, n8, n10, n17, n18, n19, n20, n21, n22, n23, n25, n26, n27, n28⟩ := m.1.1
        rw [g826_47]
        simp +decide only [Nat.reduceEqDiff, Nat.add_eq_left, Nat.left_eq_add, Nat.reduceAdd, Nat.reduceLeDiff, Nat.reduceMul, Nat.reduceSub, Nat.reduceLT, zlt8, zlt8_, zlt8n, zlt8n_, List.length_cons, List.length_nil, true_or, or_true, false_or, or_false, and_self, and_true, true_and, and_false, false_and, not_false_eq_true, not_true_eq_false, ite_true, ite_false, if_true, if_false, ite_not, zin, zpush_s, zpush_n, kl_int, kl_ref, kl_none, kl_kl, kl_long, kl_null, zT_wI, zT_wJ, zT_wR, zT_wIr, zT_wJr, zT_wRr, zI_wJ, zI_wR, zI_wJr, zI_wRr, zJ_wI, zJ_wR, zJ_wIr, zJ_wRr, zR_wI, zR_wJ, zR_wIr, zR_wJr, zN_wI, zN_wJ, zN_wR, zN_wIr, zN_wJr, zN_wRr, zZ_wI, zZ_wJ, zZ_wR, zZ_wIr, zZ_wJr, zZ_wRr, zI_wI, zJ_wJ, zR_wR, zI_wIr, zJ_wJr, zR_wRr, g826_48, g826_49, g826_52, g826_53, g826_56, g826_57, g826_58, g826_59, g826_60, g826_61, g826_62, m88, m89, m90, m91, m92, m93, m94, m95, m96, m97, m98, m99, m100, m101, m102, m103, m104, m105, m106, n0, n1, n2, n5, n7, n8, n10, n17, n18, n19, n20, n21, n22, n23, n25, n26, n27, n28, e5, ea, b1, d1, z5, em, show 5 * cI + k < 15 by omega, Nat.add_zero]
    | cons c l =>
      obtain ⟨k1, k2⟩ := hl 0 (by simp)
      rw [Nat.add_zero, List.getD_cons_zero] at k1
      rw [List.getD_cons_zero] at k2
      rw [k1] at em
      obtain ⟨h1, f1, t1, g1⟩ := r_takes (d := d) (c := c) m h0 hp
      have m1 := PQ_4 f1 m
      have hq : (if (ok && tk x s c p) = true then p + 1 else p) ≤ s := by
        split
        · next z => have := (tk_i.mp (Bool.and_eq_true_iff.mp z).2).1; omega
        · exact hp
      obtain ⟨h2, f2, t2, u1, u2, g2⟩ := r_word l (k + 1) h1 _ _ cI m1 t1 hq hc (fun i hi => by
        have := hl (i + 1) (by simp; omega)
        rw [List.getD_cons_succ] at this
        rw [show k + 1 + i = k + (i + 1) by omega]; exact this) (by simp at he; omega) (by
        rw [show k + 1 + l.length = k + (c :: l).length by simp; omega]; exact h00)
      have e2 : onW x s (c :: l) ok p = onW x s l (ok && tk x s c p) (if (ok && tk x s c p) = true then p + 1 else p) := by
        unfold onW
        cases ok with
        | false => rfl
        | true =>
          rw [Bool.true_and]
          show (if tk x s c p = true then pWord x s l (p + 1) else (p, false)) = _
          cases tk x s c p <;> rfl
      rw [e2]
      refine ⟨h2, FS_t f1 f2, t2, ?_, u2, fun Q => ?_⟩
      · revert u1
        split <;> intro u1 <;> omega
      · rw [show k + (c :: l).length = k + 1 + l.length by simp; omega, ← g2 Q]
        have ki : nI k + 1 = nI (k + 1) := nI_1 k
        obtain ⟨m88, m89, m90, m91, m92, m93, m94, m95, m96, m97, m98, m99, m100, m101, m102, m103, m104, m105, m106, n0, n1, n2, n5, n7, n8, n10, n17, n18, n19, n20, n21, n22, n23, n25, n26, n27, n28⟩ := m.1.1
        rw [g826_47]
        simp +decide only [Nat.reduceEqDiff, Nat.add_eq_left, Nat.left_eq_add, Nat.reduceAdd, Nat.reduceLeDiff, Nat.reduceMul, Nat.reduceSub, Nat.reduceLT, zlt8, zlt8_, zlt8n, zlt8n_, List.length_cons, List.length_nil, true_or, or_true, false_or, or_false, and_self, and_true, true_and, and_false, false_and, not_false_eq_true, not_true_eq_false, ite_true, ite_false, if_true, if_false, ite_not, zin, zpush_s, zpush_n, kl_int, kl_ref, kl_none, kl_kl, kl_long, kl_null, zT_wI, zT_wJ, zT_wR, zT_wIr, zT_wJr, zT_wRr, zI_wJ, zI_wR, zI_wJr, zI_wRr, zJ_wI, zJ_wR, zJ_wIr, zJ_wRr, zR_wI, zR_wJ, zR_wIr, zR_wJr, zN_wI, zN_wJ, zN_wR, zN_wIr, zN_wJr, zN_wRr, zZ_wI, zZ_wJ, zZ_wR, zZ_wIr, zZ_wJr, zZ_wRr, zI_wI, zJ_wJ, zR_wR, zI_wIr, zJ_wJr, zR_wRr, g826_48, g826_49, g826_52, g826_53, g826_56, g826_57, g826_58, g826_59, g826_60, g826_61, g826_62, g826_65, g826_66, g826_67, g826_70, g826_71, g826_72, g826_73, g826_74, g826_75, g826_76, g826_79, g826_82, m88, m89, m90, m91, m92, m93, m94, m95, m96, m97, m98, m99, m100, m101, m102, m103, m104, m105, m106, n0, n1, n2, n5, n7, n8, n10, n17, n18, n19, n20, n21, n22, n23, n25, n26, n27, n28, e5, ea, b1, d1, z5, em, k2, g1, ki, show 5 * cI + k < 15 by omega]
  termination_by l => l.length
theorem r_beg_lp (m : PQ h x s nm) (h0 : St h p ok wv) (hp : p ≤ s) (Q : zQq) : ∀ (k j : Nat) (v : Int32), j + k = 3 → zG (d + 1) 826 4 [some (.ref 88), some (.int v), some (.int (nI j)), none] [] h Q = zG (d + 1) 826 34 [some (.ref 88), some (.int (lp (fnd x s p ok 98) k j v)), some (.int 3), none] [] h Q
  | 0, j, v, e => by
    have e : j = 3 := by omega
    subst e
    rw [g826_4]
    simp +decide only [Nat.reduceEqDiff, Nat.add_eq_left, Nat.left_eq_add, Nat.reduceAdd, Nat.reduceLeDiff, Nat.reduceMul, Nat.reduceSub, Nat.reduceLT, zlt8, zlt8_, zlt8n, zlt8n_, List.length_cons, List.length_nil, true_or, or_true, false_or, or_false, and_self, and_true, true_and, and_false, false_and, not_false_eq_true, not_true_eq_false, ite_true, ite_false, if_true, if_false, ite_not, zin, zpush_s, zpush_n, kl_int, kl_ref, kl_none, kl_kl, kl_long, kl_null, zT_wI, zT_wJ, zT_wR, zT_wIr, zT_wJr, zT_wRr, zI_wJ, zI_wR, zI_wJr, zI_wRr, zJ_wI, zJ_wR, zJ_wIr, zJ_wRr, zR_wI, zR_wJ, zR_wIr, zR_wJr, zN_wI, zN_wJ, zN_wR, zN_wIr, zN_wJr, zN_wRr, zZ_wI, zZ_wJ, zZ_wR, zZ_wIr, zZ_wJr, zZ_wRr, zI_wI, zJ_wJ, zR_wR, zI_wIr, zJ_wJr, zR_wRr, g826_5, g826_6, show (3 : Int32) ≤ nI 3 by decide, lp_0]
    rfl
  | k + 1, j, v, e => by
    have ih := r_beg_lp m h0 hp Q k (j + 1) (fnd x s p ok 98 j v) (by omega)
    have ci : ∀ c Q, zCall (d + 1) 818 [.ref 88, .int c] h Q = Q (some (.int (bB (ok && tk x s c p)))) h := fun c Q => r_isAt m h0 hp Q
    have el : zI h 98 j = (mcK 98).getD j 0 := m.1.2 98 (by omega) (by omega) j (by show j < 3; omega)
    have z : ¬ (3 : Int32) ≤ nI j := by rw [i_le]; exact Classical.not_not.mpr (nI_lt (b := 3) (by omega) (by omega))
    have z2 := nI_pos (n := j) (by omega)
    have z3 := nI_clamp (n := j) (by omega)
    obtain ⟨m88, m89, m90, m91, m92, m93, m94, m95, m96, m97, m98, m99, m100, m101, m102, m103, m104, m105, m106, n0, n1, n2, n5, n7, n8, n10, n17, n18, n19, n20, n21, n22, n23, n25, n26, n27, n28⟩ := m.1.1
    rw [lp_s, ← ih, g826_4]
    unfold fnd
    cases q : (ok && tk x s ((mcK 98).getD j 0) p) <;> simp +decide only [Nat.reduceEqDiff, Nat.add_eq_left, Nat.left_eq_add, Nat.reduceAdd, Nat.reduceLeDiff, Nat.reduceMul, Nat.reduceSub, Nat.reduceLT, zlt8, zlt8_, zlt8n, zlt8n_, List.length_cons, List.length_nil, true_or, or_true, false_or, or_false, and_self, and_true, true_and, and_false, false_and, not_false_eq_true, not_true_eq_false, ite_true, ite_false, if_true, if_false, ite_not, zin, zpush_s, zpush_n, kl_int, kl_ref, kl_none, kl_kl, kl_long, kl_null, zT_wI, zT_wJ, zT_wR, zT_wIr, zT_wJr, zT_wRr, zI_wJ, zI_wR, zI_wJr, zI_wRr, zJ_wI, zJ_wR, zJ_wIr, zJ_wRr, zR_wI, zR_wJ, zR_wIr, zR_wJr, zN_wI, zN_wJ, zN_wR, zN_wIr, zN_wJr, zN_wRr, zZ_wI, zZ_wJ, zZ_wR, zZ_wIr, zZ_wJr, zZ_wRr, zI_wI, zJ_wJ, zR_wR, zI_wIr, zJ_wJr, zR_wRr, g826_5, g826_6, g826_9, g826_10, g826_11, g826_14, g826_15, g826_16, g826_19, g826_22, g826_23, g826_26, g826_27, g826_28, g826_31, m88, m89, m90, m91, m92, m93, m94, m95, m96, m97, m98, m99, m100, m101, m102, m103, m104, m105, m106, n0, n1, n2, n5, n7, n8, n10, n17, n18, n19, n20, n21, n22, n23, n25, n26, n27, n28, ci, el, q, z, z2, z3, show j < 3 by omega, bB_t, bB_f, nI_1, Bool.false_eq_true]
theorem r_beg (m : PQ h x s nm) (h0 : St h p ok wv) (hp : p ≤ s) (Q : zQq) : zG (d + 1) 826 0 [some (.ref 88), none, none, none] [] h Q = zG (d + 1) 826 34 [some (.ref 88), some (.int (lp (fnd x s p ok 98) 3 0 (-1))), some (.int 3), none] [] h Q := by
  rw [← r_beg_lp m h0 hp Q 3 0 (-1) (by omega)]
  simp +decide only [Nat.reduceEqDiff, Nat.add_eq_left, Nat.left_eq_add, Nat.reduceAdd, Nat.reduceLeDiff, Nat.reduceMul, Nat.reduceSub, Nat.reduceLT, zlt8, zlt8_, zlt8n, zlt8n_, List.length_cons, List.length_nil, true_or, or_true, false_or, or_false, and_self, and_true, true_and, and_false, false_and, not_false_eq_true, not_true_eq_false, ite_true, ite_false, if_true, if_false, ite_not, zin, zpush_s, zpush_n, kl_int, kl_ref, kl_none, kl_kl, kl_long, kl_null, zT_wI, zT_wJ, zT_wR, zT_wIr, zT_wJr, zT_wRr, zI_wJ, zI_wR, zI_wJr, zI_wRr, zJ_wI, zJ_wR, zJ_wIr, zJ_wRr, zR_wI, zR_wJ, zR_wIr, zR_wJr, zN_wI, zN_wJ, zN_wR, zN_wIr, zN_wJr, zN_wRr, zZ_wI, zZ_wJ, zZ_wR, zZ_wIr, zZ_wJr, zZ_wRr, zI_wI, zJ_wJ, zR_wR, zI_wIr, zJ_wJr, zR_wRr, g826_0, g826_1, g826_2, g826_3]
  rfl
theorem beg_v (h1 : ok = true) (h2 : p < s) : lp (fnd x s p ok 98) 3 0 (-1) = if x p = 112 then nI 2 else if x p = 108 then nI 1 else if x p = 109 then nI 0 else -1 := by
  simp only [lp, fnd_1 h1 h2]
  rfl
theorem beg_n (h : ¬ (ok = true ∧ p < s)) : lp (fnd x s p ok 98) 3 0 (-1) = -1 := by
  simp only [lp, fnd_0 h]
theorem r_take6 (m : PQ h x s nm) (h0 : St h p ok wv) (hp : p ≤ s) : ∃ h1 p1, FS S4 h h1 ∧ St h1 p1 (ok && tk x s c p) wv ∧ p1 = (if (ok && tk x s c p) = true then p + 1 else p) ∧ p ≤ p1 ∧ p1 ≤ s ∧ ∀ Q, zCall (d + 2) 819 [.ref 88, .int c] h Q = Q none h1 := by
  obtain ⟨h1, f1, t1, g1⟩ := r_takes (d := d) (c := c) m h0 hp
  refine ⟨h1, _, f1, t1, rfl, ?_, ?_, g1⟩
  · split <;> omega
  · split
    · next z => have := (tk_i.mp (Bool.and_eq_true_iff.mp z).2).1; omega
    · exact hp
/-- more, less, step by step -/
theorem pMore_eq (g : Int32 → Int32) (word : List Int32) (a : pA) (W : Nat × Bool) (hW : pWord x s word p = W) (N : Nat × Option Int32) (hN : onOk W.2 (pNum x s) W.1 = N) (ok3 : Bool) (h3 : ok3 = (N.2.isSome && tk x s 32 N.1)) (q3 : Nat) (hq : q3 = if ok3 = true then N.1 + 1 else N.1) (E : Nat × Option pE) (hE : onOk ok3 (pAny x s (pFac x s 4)) q3 = E) : (pMore x s c g word a p).1 = E.1 ∧ (pMore x s c g word a p).2.isSome = E.2.isSome ∧ ∀ a2, (pMore x s c g word a p).2 = some a2 → ∃ n e, N.2 = some n ∧ E.2 = some e ∧ a2 = (a.1 ++ e.1 ++ [pCode c 0 n], a.2.1, fun nm => a.2.2 nm + (if e.2 nm then g n else 0)) := by
  unfold pMore
  rw [hW]
  obtain ⟨W1, W2⟩ := W
  cases W2 with
  | false =>
    have hN : (W1, none) = N := (onOk_f (pNum x s) W1).symm.trans hN
    subst hN
    subst h3
    have hq : q3 = W1 := hq
    subst hq
    have hE : (q3, none) = E := (onOk_f (pAny x s (pFac x s 4)) q3).symm.trans hE
    subst hE
    exact ⟨rfl, rfl, fun a2 h => by simp at h⟩
  | true =>
    have hN : pNum x s W1 = N := (onOk_t (pNum x s) W1).symm.trans hN
    simp only [hN]
    obtain ⟨N1, N2⟩ := N
    cases N2 with
    | none =>
      subst h3
      have hq : q3 = N1 := hq
      subst hq
      have hE : (q3, none) = E := (onOk_f (pAny x s (pFac x s 4)) q3).symm.trans hE
      subst hE
      exact ⟨rfl, rfl, fun a2 h => by simp at h⟩
    | some n =>
      simp only [Option.isSome_some, Bool.true_and] at h3
      subst h3
      simp only
      cases q : tk x s 32 N1 with
      | false =>
        rw [q] at hq hE
        have hq : q3 = N1 := hq
        subst hq
        have hE : (q3, none) = E := (onOk_f (pAny x s (pFac x s 4)) q3).symm.trans hE
        subst hE
        exact ⟨rfl, rfl, fun a2 h => by simp at h⟩
      | true =>
        rw [q] at hq hE
        have hq : q3 = N1 + 1 := hq
        subst hq
        have hE : pAny x s (pFac x s 4) (N1 + 1) = E := (onOk_t (pAny x s (pFac x s 4)) (N1 + 1)).symm.trans hE
        simp only [if_true, hE]
        obtain ⟨E1, E2⟩ := E
        cases E2 with
        | none => exact ⟨rfl, rfl, fun a2 h => by simp at h⟩
        | some e => exact ⟨rfl, rfl, fun a2 h => ⟨n, e, rfl, rfl, (Option.some.inj h).symm⟩⟩
