-- needs 30.p5
variable {d a b n t D K s p wv : Nat} {h h1 : zH} {w x nm : zW0} {c : Int32} {ok : Bool} {F : Nat → Nat × Option pE}
theorem f6 (k : Nat) (z : Int32) (hk : 12 ≤ k ∧ k ≤ 16) : FS S6 h (wI h 88 k z) := FS_I _ ⟨rfl, hk.1, hk.2⟩
theorem St_o (h0 : St h p ok wv) (k : Nat) (hk : 15 ≤ k) (z : Int32) : St (wI h 88 k z) p ok wv := by
  obtain ⟨s1, s2, s3⟩ := h0
  refine ⟨?_, ?_, ?_⟩ <;> rw [zI_wI, if_pos rfl, up_n _ _ (by omega)] <;> assumption
theorem num_le (hp : p ≤ s) : p ≤ (onOk ok (pNum x s) p).1 ∧ (onOk ok (pNum x s) p).1 ≤ s := by
  cases ok with
  | false => exact ⟨Nat.le_refl _, hp⟩
  | true => rw [onOk_t]; exact pNum_le hp
theorem S4_o (f : FS S4 h h1) (k : Nat) (hk : 15 ≤ k) : zI h1 88 k = zI h 88 k := f.2.2.2.2.1 _ _ (by unfold S4; omega)
theorem r_more (m : PQ h x s nm) (h0 : St h p true wv) (hp : p ≤ s) (cI : Nat) (l : List Int32) (g : Int32 → Int32) (hc : (cI = 0 ∧ l = [109, 111, 114, 101] ∧ g = fun n => n) ∨ (cI = 1 ∧ l = [108, 101, 115, 115] ∧ g = fun n => -n)) (a : pA) (ha : zI h 88 16 = a.2.1 ∧ zI h 88 15 = a.2.2 nm) : ∃ h1 wv2, FS S6 h h1 ∧ St h1 (pMore x s c g (l ++ [32]) a p).1 (pMore x s c g (l ++ [32]) a p).2.isSome wv2 ∧ p ≤ (pMore x s c g (l ++ [32]) a p).1 ∧ (pMore x s c g (l ++ [32]) a p).1 ≤ s ∧ (∀ a2, (pMore x s c g (l ++ [32]) a p).2 = some a2 → zI h1 88 16 = a2.2.1 ∧ zI h1 88 15 = a2.2.2 nm) ∧ ∀ Q, zG (d + 18) 826 47 [some (.ref 88), some (.int (nI cI)), some (.int (nI 0)), none] [] h Q = Q none h1 := by
  have hl4 : l.length = 4 := by rcases hc with ⟨-, rfl, -⟩ | ⟨-, rfl, -⟩ <;> rfl
  obtain ⟨h1, f1, t1, u1, w1, g1⟩ := r_word (d := d + 16) l 0 h p true cI m h0 hp (by omega) (fun i hi => by
    rcases hc with ⟨rfl, rfl, -⟩ | ⟨rfl, rfl, -⟩ <;> rcases (by simp at hi; omega : i = 0 ∨ i = 1 ∨ i = 2 ∨ i = 3) with rfl | rfl | rfl | rfl <;> decide) (by omega) (by
    rcases hc with ⟨rfl, rfl, -⟩ | ⟨rfl, rfl, -⟩ <;> decide)
  have m1 := PQ_4 f1 m
  obtain ⟨h2, p2, f2, t2, e2, u2, w2, g2⟩ := r_take6 (d := d + 16) (c := 32) m1 t1 w1
  have m2 := PQ_4 f2 m1
  have eW : pWord x s (l ++ [32]) p = (p2, (onW x s l true p).2 && tk x s 32 (onW x s l true p).1) := by
    have := onW_app (x := x) (s := s) (c := 32) (ok := true) l p
    rw [← e2] at this
    exact this
  obtain ⟨h3, v, f3, t3, v3, g3⟩ := r_number (d := d + 16) m2 t2 w2
  have m3 := PQ_4 f3 m2
  have n3 := num_le (x := x) (s := s) (ok := (onW x s l true p).2 && tk x s 32 (onW x s l true p).1) w2
  generalize hN : onOk ((onW x s l true p).2 && tk x s 32 (onW x s l true p).1) (pNum x s) p2 = N at t3 v3 n3
  obtain ⟨h4, q3, f4', t4, e4, u4, w4, g4⟩ := r_take6 (d := d + 16) (c := 32) m3 t3 n3.2
  have m4 := PQ_4 f4' m3
  have f5 : FS S4 h4 (wI h4 88 14 (nI 0)) := f4 14 _ (by omega)
  have t5 := St_in t4 0
  have m5 := PQ_4 f5 m4
  have ia : Imp x nm s 825 18 0 (pAny x s (pFac x s 4)) := r_or (D := 16) (r_and (D := 15) (r_factor 4 0 rfl))
  obtain ⟨h6, b, f6', t6, u6, w6, v6, g6⟩ := ia d _ q3 _ m5 t5 w4
  have m6 := PQ_4 f6' m5
  generalize hE : onOk (N.2.isSome && tk x s 32 N.1) (pAny x s (pFac x s 4)) q3 = E at t6 u6 w6 v6
  obtain ⟨r1, r2, r3⟩ := pMore_eq (c := c) g (l ++ [32]) a _ eW N hN _ rfl q3 e4 E hE
  rw [r1, r2]
  have F := FS_t f1 (FS_t f2 (FS_t f3 (FS_t f4' (FS_t f5 f6'))))
  have o15 := S4_o F 15 (by omega)
  have o16 := S4_o F 16 (by omega)
  refine ⟨wI h6 88 15 (zI h6 88 15 + (if b = true then g v else 0)), 0, FS_t (FS_m S4_6 F) (f6 15 _ (by omega)), St_o t6 15 (by omega) _, by omega, w6, fun a2 h2 => ?_, fun Q => ?_⟩
  · obtain ⟨n, e, x1, x2, x3⟩ := r3 a2 h2
    rw [x3, v6 e x2, v3 n x1]
    refine ⟨?_, ?_⟩
    · rw [zI_wI, if_pos rfl, up_n _ _ (by omega), o16]; exact ha.1
    · rw [zI_wI, if_pos rfl, up_s, o15, ha.2]
  · have k1 := m1.1.1.1
    have k2 := m2.1.1.1
    have k3 := m3.1.1.1
    have k4 := m4.1.1.1
    have k6 := m6.1.1.1
    rw [show (0 : Nat) + l.length = 4 by omega] at g1
    have ez : nI 0 = 0 := rfl
    rw [ez] at g6
    rw [g1]
    rcases hc with ⟨rfl, rfl, rfl⟩ | ⟨rfl, rfl, rfl⟩ <;> cases b <;> simp +decide only [Nat.reduceEqDiff, Nat.add_eq_left, Nat.left_eq_add, Nat.reduceAdd, Nat.reduceLeDiff, Nat.reduceMul, Nat.reduceSub, Nat.reduceLT, zlt8, zlt8_, zlt8n, zlt8n_, List.length_cons, List.length_nil, true_or, or_true, false_or, or_false, and_self, and_true, true_and, and_false, false_and, not_false_eq_true, not_true_eq_false, ite_true, ite_false, if_true, if_false, ite_not, zin, zpush_s, zpush_n, kl_int, kl_ref, kl_none, kl_kl, kl_long, kl_null, zT_wI, zT_wJ, zT_wR, zT_wIr, zT_wJr, zT_wRr, zI_wJ, zI_wR, zI_wJr, zI_wRr, zJ_wI, zJ_wR, zJ_wIr, zJ_wRr, zR_wI, zR_wJ, zR_wIr, zR_wJr, zN_wI, zN_wJ, zN_wR, zN_wIr, zN_wJr, zN_wRr, zZ_wI, zZ_wJ, zZ_wR, zZ_wIr, zZ_wJr, zZ_wRr, zI_wI, zJ_wJ, zR_wR, zI_wIr, zJ_wJr, zR_wRr, g826_85, g826_86, g826_88, g826_91, g826_92, g826_95, g826_96, g826_97, g826_98, g826_107, g826_108, g826_110, g826_113, g826_114, g826_115, g826_118, g826_119, g826_122, g826_123, g826_124, g826_125, g826_128, g826_129, g826_132, g826_133, g826_136, g826_137, g826_140, g826_141, g826_144, g826_145, g826_146, g826_147, g826_150, k1, k2, k3, k4, k6, g2, g3, g4, g6, bB_t, bB_f, Bool.false_eq_true]
theorem r_pay (m : PQ h x s nm) (h0 : St h p true wv) (hp : p ≤ s) (a : pA) (ha : zI h 88 16 = a.2.1 ∧ zI h 88 15 = a.2.2 nm) (R : Nat × Option pA) (hR : R = (match pWord x s [112, 97, 121, 32] p with
    | (q, true) => (match pNum x s q with
      | (q1, some n) => (q1, some (a.1, n, a.2.2))
      | (q1, none) => (q1, none))
    | (q, false) => (q, none))) : ∃ h1 wv2, FS S6 h h1 ∧ St h1 R.1 R.2.isSome wv2 ∧ p ≤ R.1 ∧ R.1 ≤ s ∧ (∀ a2, R.2 = some a2 → zI h1 88 16 = a2.2.1 ∧ zI h1 88 15 = a2.2.2 nm) ∧ ∀ Q, zG (d + 18) 826 47 [some (.ref 88), some (.int (nI 2)), some (.int (nI 0)), none] [] h Q = Q none h1 := by
  obtain ⟨h1, f1, t1, u1, w1, g1⟩ := r_word (d := d + 16) [112, 97, 121] 0 h p true 2 m h0 hp (by omega) (fun i hi => by
    rcases (by simp at hi; omega : i = 0 ∨ i = 1 ∨ i = 2) with rfl | rfl | rfl <;> decide) (by decide) (by decide)
  have m1 := PQ_4 f1 m
  obtain ⟨h2, p2, f2, t2, e2, u2, w2, g2⟩ := r_take6 (d := d + 16) (c := 32) m1 t1 w1
  have m2 := PQ_4 f2 m1
  have eW : pWord x s [112, 97, 121, 32] p = (p2, (onW x s [112, 97, 121] true p).2 && tk x s 32 (onW x s [112, 97, 121] true p).1) := by
    have := onW_app (x := x) (s := s) (c := 32) (ok := true) [112, 97, 121] p
    rw [← e2] at this
    exact this
  obtain ⟨h3, v, f3, t3, v3, g3⟩ := r_number (d := d + 16) m2 t2 w2
  have m3 := PQ_4 f3 m2
  have n3 := num_le (x := x) (s := s) (ok := (onW x s [112, 97, 121] true p).2 && tk x s 32 (onW x s [112, 97, 121] true p).1) w2
  rw [eW] at hR
  generalize ((onW x s [112, 97, 121] true p).2 && tk x s 32 (onW x s [112, 97, 121] true p).1) = okW at *
  have F := FS_t f1 (FS_t f2 f3)
  have o15 := S4_o F 15 (by omega)
  have o16 := S4_o F 16 (by omega)
  have hR2 : R.1 = (onOk okW (pNum x s) p2).1 ∧ R.2.isSome = (onOk okW (pNum x s) p2).2.isSome ∧ ∀ a2, R.2 = some a2 → ∃ n, (onOk okW (pNum x s) p2).2 = some n ∧ a2 = (a.1, n, a.2.2) := by
    cases okW with
    | false => rw [hR, onOk_f]; exact ⟨rfl, rfl, fun a2 h => by simp at h⟩
    | true =>
      rw [hR, onOk_t]
      simp only
      rcases pNum x s p2 with ⟨q, _ | n⟩
      · exact ⟨rfl, rfl, fun a2 h => by simp at h⟩
      · exact ⟨rfl, rfl, fun a2 h => ⟨n, rfl, (Option.some.inj h).symm⟩⟩
  obtain ⟨r1, r2, r3⟩ := hR2
  rw [r1, r2]
  refine ⟨wI h3 88 16 v, wv, FS_t (FS_m S4_6 F) (f6 16 _ (by omega)), St_o t3 16 (by omega) _, by omega, n3.2, fun a2 h2 => ?_, fun Q => ?_⟩
  · obtain ⟨n, x1, x2⟩ := r3 a2 h2
    rw [x2, v3 n x1]
    refine ⟨?_, ?_⟩
    · rw [zI_wI, if_pos rfl, up_s]
    · rw [zI_wI, if_pos rfl, up_n _ _ (by omega), o15]; exact ha.2
  · have k1 := m1.1.1.1
    have k2 := m2.1.1.1
    have k3 := m3.1.1.1
    rw [g1]
    simp +decide only [Nat.reduceEqDiff, Nat.add_eq_left, Nat.left_eq_add, Nat.reduceAdd, Nat.reduceLeDiff, Nat.reduceMul, Nat.reduceSub, Nat.reduceLT, zlt8, zlt8_, zlt8n, zlt8n_, List.length_cons, List.length_nil, true_or, or_true, false_or, or_false, and_self, and_true, true_and, and_false, false_and, not_false_eq_true, not_true_eq_false, ite_true, ite_false, if_true, if_false, ite_not, zin, zpush_s, zpush_n, kl_int, kl_ref, kl_none, kl_kl, kl_long, kl_null, zT_wI, zT_wJ, zT_wR, zT_wIr, zT_wJr, zT_wRr, zI_wJ, zI_wR, zI_wJr, zI_wRr, zJ_wI, zJ_wR, zJ_wIr, zJ_wRr, zR_wI, zR_wJ, zR_wIr, zR_wJr, zN_wI, zN_wJ, zN_wR, zN_wIr, zN_wJr, zN_wRr, zZ_wI, zZ_wJ, zZ_wR, zZ_wIr, zZ_wJr, zZ_wRr, zI_wI, zJ_wJ, zR_wR, zI_wIr, zJ_wJr, zR_wRr, g826_85, g826_86, g826_88, g826_91, g826_92, g826_95, g826_96, g826_97, g826_98, g826_101, g826_102, g826_103, g826_106, k1, k2, k3, g2, g3, show nI 2 = 2 by decide]
theorem r_clause (m : PQ h x s nm) (h0 : St h p ok wv) (hp : p ≤ s) (a : pA) (ha : ok = true → zI h 88 16 = a.2.1 ∧ zI h 88 15 = a.2.2 nm) : ∃ h1 wv2, FS S6 h h1 ∧ St h1 (onOk ok (pClause x s a) p).1 (onOk ok (pClause x s a) p).2.isSome wv2 ∧ p ≤ (onOk ok (pClause x s a) p).1 ∧ (onOk ok (pClause x s a) p).1 ≤ s ∧ (∀ a2, (onOk ok (pClause x s a) p).2 = some a2 → zI h1 88 16 = a2.2.1 ∧ zI h1 88 15 = a2.2.2 nm) ∧ ∀ Q, zCall (d + 19) 826 [.ref 88] h Q = Q none h1 := by
  have hb := fun Q => r_beg (d := d + 17) m h0 hp Q
  have m88 := m.1.1.1
  have ez : nI 0 = 0 := rfl
  by_cases q : ok = true ∧ p < s
  · have hv := beg_v (x := x) q.1 q.2
    obtain ⟨rfl, ps⟩ := q
    rw [onOk_t]
    have t : ∀ c, tk x s c p = decide (x p = c) := fun c => by unfold tk; simp [ps]
    by_cases q1 : x p = 109
    · have e : pClause x s a p = pMore x s 109 (fun n => n) [109, 111, 114, 101, 32] a p := by
        unfold pClause
        rw [t, q1, if_pos (by decide)]
      rw [q1] at hv
      have hv : lp (fnd x s p true 98) 3 0 (-1) = nI 0 := hv
      rw [hv] at hb
      obtain ⟨h1, wv2, g1, g2, g3, g4, g5, g6⟩ := r_more (d := d) (c := 109) m h0 hp 0 [109, 111, 114, 101] (fun n => n) (Or.inl ⟨rfl, rfl, rfl⟩) a (ha rfl)
      rw [e]
      refine ⟨h1, wv2, g1, g2, g3, g4, g5, fun Q => ?_⟩
      rw [← g6 Q]
      simp +decide only [Nat.reduceEqDiff, Nat.add_eq_left, Nat.left_eq_add, Nat.reduceAdd, Nat.reduceLeDiff, Nat.reduceMul, Nat.reduceSub, Nat.reduceLT, zlt8, zlt8_, zlt8n, zlt8n_, List.length_cons, List.length_nil, true_or, or_true, false_or, or_false, and_self, and_true, true_and, and_false, false_and, not_false_eq_true, not_true_eq_false, ite_true, ite_false, if_true, if_false, ite_not, zin, zpush_s, zpush_n, kl_int, kl_ref, kl_none, kl_kl, kl_long, kl_null, zT_wI, zT_wJ, zT_wR, zT_wIr, zT_wJr, zT_wRr, zI_wJ, zI_wR, zI_wJr, zI_wRr, zJ_wI, zJ_wR, zJ_wIr, zJ_wRr, zR_wI, zR_wJ, zR_wIr, zR_wJr, zN_wI, zN_wJ, zN_wR, zN_wIr, zN_wJr, zN_wRr, zZ_wI, zZ_wJ, zZ_wR, zZ_wIr, zZ_wJr, zZ_wRr, zI_wI, zJ_wJ, zR_wR, zI_wIr, zJ_wJr, zR_wRr, k826]
      rw [hb]
      simp +decide only [Nat.reduceEqDiff, Nat.add_eq_left, Nat.left_eq_add, Nat.reduceAdd, Nat.reduceLeDiff, Nat.reduceMul, Nat.reduceSub, Nat.reduceLT, zlt8, zlt8_, zlt8n, zlt8n_, List.length_cons, List.length_nil, true_or, or_true, false_or, or_false, and_self, and_true, true_and, and_false, false_and, not_false_eq_true, not_true_eq_false, ite_true, ite_false, if_true, if_false, ite_not, zin, zpush_s, zpush_n, kl_int, kl_ref, kl_none, kl_kl, kl_long, kl_null, zT_wI, zT_wJ, zT_wR, zT_wIr, zT_wJr, zT_wRr, zI_wJ, zI_wR, zI_wJr, zI_wRr, zJ_wI, zJ_wR, zJ_wIr, zJ_wRr, zR_wI, zR_wJ, zR_wIr, zR_wJr, zN_wI, zN_wJ, zN_wR, zN_wIr, zN_wJr, zN_wRr, zZ_wI, zZ_wJ, zZ_wR, zZ_wIr, zZ_wJr, zZ_wRr, zI_wI, zJ_wJ, zR_wR, zI_wIr, zJ_wJr, zR_wRr, g826_34, g826_35, g826_36, g826_45, g826_46, ez]
    by_cases q2 : x p = 108
    · have e : pClause x s a p = pMore x s 108 (fun n => -n) [108, 101, 115, 115, 32] a p := by
        unfold pClause
        rw [t, q2, if_neg (by decide), t, q2, if_pos (by decide)]
      rw [q2] at hv
      have hv : lp (fnd x s p true 98) 3 0 (-1) = nI 1 := hv
      rw [hv] at hb
      obtain ⟨h1, wv2, g1, g2, g3, g4, g5, g6⟩ := r_more (d := d) (c := 108) m h0 hp 1 [108, 101, 115, 115] (fun n => -n) (Or.inr ⟨rfl, rfl, rfl⟩) a (ha rfl)
      rw [e]
      refine ⟨h1, wv2, g1, g2, g3, g4, g5, fun Q => ?_⟩
      rw [← g6 Q]
      simp +decide only [Nat.reduceEqDiff, Nat.add_eq_left, Nat.left_eq_add, Nat.reduceAdd, Nat.reduceLeDiff, Nat.reduceMul, Nat.reduceSub, Nat.reduceLT, zlt8, zlt8_, zlt8n, zlt8n_, List.length_cons, List.length_nil, true_or, or_true, false_or, or_false, and_self, and_true, true_and, and_false, false_and, not_false_eq_true, not_true_eq_false, ite_true, ite_false, if_true, if_false, ite_not, zin, zpush_s, zpush_n, kl_int, kl_ref, kl_none, kl_kl, kl_long, kl_null, zT_wI, zT_wJ, zT_wR, zT_wIr, zT_wJr, zT_wRr, zI_wJ, zI_wR, zI_wJr, zI_wRr, zJ_wI, zJ_wR, zJ_wIr, zJ_wRr, zR_wI, zR_wJ, zR_wIr, zR_wJr, zN_wI, zN_wJ, zN_wR, zN_wIr, zN_wJr, zN_wRr, zZ_wI, zZ_wJ, zZ_wR, zZ_wIr, zZ_wJr, zZ_wRr, zI_wI, zJ_wJ, zR_wR, zI_wIr, zJ_wJr, zR_wRr, k826]
      rw [hb]
      simp +decide only [Nat.reduceEqDiff, Nat.add_eq_left, Nat.left_eq_add, Nat.reduceAdd, Nat.reduceLeDiff, Nat.reduceMul, Nat.reduceSub, Nat.reduceLT, zlt8, zlt8_, zlt8n, zlt8n_, List.length_cons, List.length_nil, true_or, or_true, false_or, or_false, and_self, and_true, true_and, and_false, false_and, not_false_eq_true, not_true_eq_false, ite_true, ite_false, if_true, if_false, ite_not, zin, zpush_s, zpush_n, kl_int, kl_ref, kl_none, kl_kl, kl_long, kl_null, zT_wI, zT_wJ, zT_wR, zT_wIr, zT_wJr, zT_wRr, zI_wJ, zI_wR, zI_wJr, zI_wRr, zJ_wI, zJ_wR, zJ_wIr, zJ_wRr, zR_wI, zR_wJ, zR_wIr, zR_wJr, zN_wI, zN_wJ, zN_wR, zN_wIr, zN_wJr, zN_wRr, zZ_wI, zZ_wJ, zZ_wR, zZ_wIr, zZ_wJr, zZ_wRr, zI_wI, zJ_wJ, zR_wR, zI_wIr, zJ_wJr, zR_wRr, g826_34, g826_35, g826_36, g826_45, g826_46, ez, show ¬ nI 1 = -1 by decide]
    have t1 : ¬ tk x s 109 p = true := by rw [t]; simpa using q1
    have t2 : ¬ tk x s 108 p = true := by rw [t]; simpa using q2
    have e : pClause x s a p = (match pWord x s [112, 97, 121, 32] p with
        | (q, true) => (match pNum x s q with
          | (q1, some n) => (q1, some (a.1, n, a.2.2))
          | (q1, none) => (q1, none))
        | (q, false) => (q, none)) := by
      unfold pClause
      rw [if_neg t1, if_neg t2]
      rfl
    by_cases q3 : x p = 112
    · rw [q3] at hv
      have hv : lp (fnd x s p true 98) 3 0 (-1) = nI 2 := hv
      rw [hv] at hb
      obtain ⟨h1, wv2, g1, g2, g3, g4, g5, g6⟩ := r_pay (d := d) m h0 hp a (ha rfl) (pClause x s a p) e
      refine ⟨h1, wv2, g1, g2, g3, g4, g5, fun Q => ?_⟩
      rw [← g6 Q]
      simp +decide only [Nat.reduceEqDiff, Nat.add_eq_left, Nat.left_eq_add, Nat.reduceAdd, Nat.reduceLeDiff, Nat.reduceMul, Nat.reduceSub, Nat.reduceLT, zlt8, zlt8_, zlt8n, zlt8n_, List.length_cons, List.length_nil, true_or, or_true, false_or, or_false, and_self, and_true, true_and, and_false, false_and, not_false_eq_true, not_true_eq_false, ite_true, ite_false, if_true, if_false, ite_not, zin, zpush_s, zpush_n, kl_int, kl_ref, kl_none, kl_kl, kl_long, kl_null, zT_wI, zT_wJ, zT_wR, zT_wIr, zT_wJr, zT_wRr, zI_wJ, zI_wR, zI_wJr, zI_wRr, zJ_wI, zJ_wR, zJ_wIr, zJ_wRr, zR_wI, zR_wJ, zR_wIr, zR_wJr, zN_wI, zN_wJ, zN_wR, zN_wIr, zN_wJr, zN_wRr, zZ_wI, zZ_wJ, zZ_wR, zZ_wIr, zZ_wJr, zZ_wRr, zI_wI, zJ_wJ, zR_wR, zI_wIr, zJ_wJr, zR_wRr, k826]
      rw [hb]
      simp +decide only [Nat.reduceEqDiff, Nat.add_eq_left, Nat.left_eq_add, Nat.reduceAdd, Nat.reduceLeDiff, Nat.reduceMul, Nat.reduceSub, Nat.reduceLT, zlt8, zlt8_, zlt8n, zlt8n_, List.length_cons, List.length_nil, true_or, or_true, false_or, or_false, and_self, and_true, true_and, and_false, false_and, not_false_eq_true, not_true_eq_false, ite_true, ite_false, if_true, if_false, ite_not, zin, zpush_s, zpush_n, kl_int, kl_ref, kl_none, kl_kl, kl_long, kl_null, zT_wI, zT_wJ, zT_wR, zT_wIr, zT_wJr, zT_wRr, zI_wJ, zI_wR, zI_wJr, zI_wRr, zJ_wI, zJ_wR, zJ_wIr, zJ_wRr, zR_wI, zR_wJ, zR_wIr, zR_wJr, zN_wI, zN_wJ, zN_wR, zN_wIr, zN_wJr, zN_wRr, zZ_wI, zZ_wJ, zZ_wR, zZ_wIr, zZ_wJr, zZ_wRr, zI_wI, zJ_wJ, zR_wR, zI_wIr, zJ_wJr, zR_wRr, g826_34, g826_35, g826_36, g826_45, g826_46, ez, show ¬ nI 2 = -1 by decide]
    · rw [if_neg q3, if_neg q2, if_neg q1] at hv
      rw [hv] at hb
      have e0 : pWord x s [112, 97, 121, 32] p = (p, false) := by
        show (if tk x s 112 p = true then _ else _) = _
        rw [t, if_neg (by simpa using q3)]
      rw [e0] at e
      have e : pClause x s a p = (p, none) := e
      rw [e]
      refine ⟨_, wv, f6 13 (bB false) (by omega), St_well h0 false, Nat.le_refl _, hp, fun a2 h => by simp at h, fun Q => ?_⟩
      simp +decide only [Nat.reduceEqDiff, Nat.add_eq_left, Nat.left_eq_add, Nat.reduceAdd, Nat.reduceLeDiff, Nat.reduceMul, Nat.reduceSub, Nat.reduceLT, zlt8, zlt8_, zlt8n, zlt8n_, List.length_cons, List.length_nil, true_or, or_true, false_or, or_false, and_self, and_true, true_and, and_false, false_and, not_false_eq_true, not_true_eq_false, ite_true, ite_false, if_true, if_false, ite_not, zin, zpush_s, zpush_n, kl_int, kl_ref, kl_none, kl_kl, kl_long, kl_null, zT_wI, zT_wJ, zT_wR, zT_wIr, zT_wJr, zT_wRr, zI_wJ, zI_wR, zI_wJr, zI_wRr, zJ_wI, zJ_wR, zJ_wIr, zJ_wRr, zR_wI, zR_wJ, zR_wIr, zR_wJr, zN_wI, zN_wJ, zN_wR, zN_wIr, zN_wJr, zN_wRr, zZ_wI, zZ_wJ, zZ_wR, zZ_wIr, zZ_wJr, zZ_wRr, zI_wI, zJ_wJ, zR_wR, zI_wIr, zJ_wJr, zR_wRr, k826]
      rw [hb]
      simp +decide only [Nat.reduceEqDiff, Nat.add_eq_left, Nat.left_eq_add, Nat.reduceAdd, Nat.reduceLeDiff, Nat.reduceMul, Nat.reduceSub, Nat.reduceLT, zlt8, zlt8_, zlt8n, zlt8n_, List.length_cons, List.length_nil, true_or, or_true, false_or, or_false, and_self, and_true, true_and, and_false, false_and, not_false_eq_true, not_true_eq_false, ite_true, ite_false, if_true, if_false, ite_not, zin, zpush_s, zpush_n, kl_int, kl_ref, kl_none, kl_kl, kl_long, kl_null, zT_wI, zT_wJ, zT_wR, zT_wIr, zT_wJr, zT_wRr, zI_wJ, zI_wR, zI_wJr, zI_wRr, zJ_wI, zJ_wR, zJ_wIr, zJ_wRr, zR_wI, zR_wJ, zR_wIr, zR_wJr, zN_wI, zN_wJ, zN_wR, zN_wIr, zN_wJr, zN_wRr, zZ_wI, zZ_wJ, zZ_wR, zZ_wIr, zZ_wJr, zZ_wRr, zI_wI, zJ_wJ, zR_wR, zI_wIr, zJ_wJr, zR_wRr, g826_34, g826_35, g826_36, g826_39, g826_40, g826_41, g826_44, m88, bB_f]
  · rw [beg_n q] at hb
    have e : onOk ok (pClause x s a) p = (p, none) := by
      cases ok with
      | false => exact onOk_f _ _
      | true =>
        have np : ¬ p < s := fun z => q ⟨rfl, z⟩
        rw [onOk_t]
        have t : ∀ c, ¬ tk x s c p = true := fun c => by rw [tk_f1 np]; decide
        unfold pClause
        rw [if_neg (t _), if_neg (t _)]
        have e0 : pWord x s [112, 97, 121, 32] p = (p, false) := by
          show (if tk x s 112 p = true then _ else _) = _
          rw [if_neg (t _)]
        rw [e0]
    rw [e]
    refine ⟨_, wv, f6 13 (bB false) (by omega), St_well h0 false, Nat.le_refl _, hp, fun a2 h => by simp at h, fun Q => ?_⟩
    simp +decide only [Nat.reduceEqDiff, Nat.add_eq_left, Nat.left_eq_add, Nat.reduceAdd, Nat.reduceLeDiff, Nat.reduceMul, Nat.reduceSub, Nat.reduceLT, zlt8, zlt8_, zlt8n, zlt8n_, List.length_cons, List.length_nil, true_or, or_true, false_or, or_false, and_self, and_true, true_and, and_false, false_and, not_false_eq_true, not_true_eq_false, ite_true, ite_false, if_true, if_false, ite_not, zin, zpush_s, zpush_n, kl_int, kl_ref, kl_none, kl_kl, kl_long, kl_null, zT_wI, zT_wJ, zT_wR, zT_wIr, zT_wJr, zT_wRr, zI_wJ, zI_wR, zI_wJr, zI_wRr, zJ_wI, zJ_wR, zJ_wIr, zJ_wRr, zR_wI, zR_wJ, zR_wIr, zR_wJr, zN_wI, zN_wJ, zN_wR, zN_wIr, zN_wJr, zN_wRr, zZ_wI, zZ_wJ, zZ_wR, zZ_wIr, zZ_wJr, zZ_wRr, zI_wI, zJ_wJ, zR_wR, zI_wIr, zJ_wJr, zR_wRr, k826]
    rw [hb]
    simp +decide only [Nat.reduceEqDiff, Nat.add_eq_left, Nat.left_eq_add, Nat.reduceAdd, Nat.reduceLeDiff, Nat.reduceMul, Nat.reduceSub, Nat.reduceLT, zlt8, zlt8_, zlt8n, zlt8n_, List.length_cons, List.length_nil, true_or, or_true, false_or, or_false, and_self, and_true, true_and, and_false, false_and, not_false_eq_true, not_true_eq_false, ite_true, ite_false, if_true, if_false, ite_not, zin, zpush_s, zpush_n, kl_int, kl_ref, kl_none, kl_kl, kl_long, kl_null, zT_wI, zT_wJ, zT_wR, zT_wIr, zT_wJr, zT_wRr, zI_wJ, zI_wR, zI_wJr, zI_wRr, zJ_wI, zJ_wR, zJ_wIr, zJ_wRr, zR_wI, zR_wJ, zR_wIr, zR_wJr, zN_wI, zN_wJ, zN_wR, zN_wIr, zN_wJr, zN_wRr, zZ_wI, zZ_wJ, zZ_wR, zZ_wIr, zZ_wJr, zZ_wRr, zI_wI, zJ_wJ, zR_wR, zI_wIr, zJ_wJr, zR_wRr, g826_34, g826_35, g826_36, g826_39, g826_40, g826_41, g826_44, m88, bB_f]
