-- needs 69.sea
variable {n D D2 q L c1 c2 c3 a b t s r d K k kd i j ln c m M N p p2 : Nat} {h h1 h2 h3 g0 : zH} {w w1 x nm : zW0} {sv : Value} {xs : zW0} {py fp fo y z u v : Int32} {ex : zW0 → Int32}
theorem hO_T (hb : ¬ b = zN h ∧ ¬ b = zN h + 1) : zT (hO h) b = zT h b := by
  unfold hO
  rw [zT_wR, zT_wR, zT_wN, if_neg (show ¬ b = zN (wN h (4, 3)) from hb.2), zT_wN, if_neg hb.1]
theorem hO_I (hb : ¬ b = zN h ∧ ¬ b = zN h + 1) : zI (hO h) b = zI h b := by
  unfold hO
  rw [zI_wR, zI_wR, zI_wN, if_neg (show ¬ b = zN (wN h (4, 3)) from hb.2), zI_wN, if_neg hb.1]
theorem hO_J (hb : ¬ b = zN h ∧ ¬ b = zN h + 1) : zJ (hO h) b = zJ h b := by
  unfold hO
  rw [zJ_wR, zJ_wR, zJ_wN, if_neg (show ¬ b = zN (wN h (4, 3)) from hb.2), zJ_wN, if_neg hb.1]
theorem hO_R (hb : ¬ b = zN h ∧ ¬ b = zN h + 1) (h9 : ¬ (b = 69 ∧ k = 1)) : zR (hO h) b k = zR h b k := by
  unfold hO
  rw [zR_wR]
  by_cases e : b = 69
  · subst e
    rw [if_pos rfl, up_n _ _ (fun z => h9 ⟨rfl, z⟩), zR_wR, if_neg hb.1, zR_wN, if_neg (show ¬ 69 = zN (wN h (4, 3)) from hb.2), zR_wN, if_neg hb.1]
  · rw [if_neg e, zR_wR, if_neg hb.1, zR_wN, if_neg (show ¬ b = zN (wN h (4, 3)) from hb.2), zR_wN, if_neg hb.1]
theorem hO_R1 : zR (hO h) 69 1 = .ref (zN h) := by
  unfold hO
  rw [zR_wR, if_pos rfl, up_s]
theorem hO_TN : zT (hO h) (zN h) = (4, 3) := by
  unfold hO
  rw [zT_wR, zT_wR, zT_wN, if_neg (show ¬ zN h = zN (wN h (4, 3)) by show ¬ zN h = zN h + 1; omega), zT_wN, if_pos rfl]
theorem hO_TM : zT (hO h) (zN h + 1) = (20, 100) := by
  unfold hO
  rw [zT_wR, zT_wR, zT_wN]
  exact if_pos rfl
theorem hO_RN (hN : ¬ zN h = 69) : zR (hO h) (zN h) 0 = .ref (zN h + 1) := by
  unfold hO
  rw [zR_wR, if_neg hN, zR_wR, if_pos rfl, up_s]
def SRf (b k : Nat) : Prop := b = 95 ∨ (b = 88 ∧ (k = 6 ∨ (11 ≤ k ∧ k ≤ 16)))
theorem m_sea (hM : MO h) (e6 : zI h 88 6 = nI s) (e9 : zI h 88 9 = nI q) (hq : q < 6) (hs : s ≤ 100) (hx : ∀ k, k < s → zI h 92 k = x k) : ∃ h3, (pAll x s 10 pA0 0).1 ≤ s ∧ FS SRf h h3 ∧ zI h3 88 6 = 0 ∧ zI h3 88 11 = nI s ∧ (∀ k, k < s → zI h3 95 k = x k) ∧ (((pAll x s 10 pA0 0).2 = none → ∀ Q, zCall 60 829 [.ref 88] h Q = Q (some (.int (-10 - nI (pAll x s 10 pA0 0).1))) h3) ∧ ((pAll x s 10 pA0 0).2.isSome = true → ∀ Q, zCall 60 829 [.ref 88] h Q = zG 59 829 70 [some (.ref 88), some (.int (nI 0))] [] h3 Q)) := by
  have f0 : FS SRf h (wI h 88 11 (nI s)) := FS_I _ (by unfold SRf; omega)
  have SRM : ∀ b k, SRf b k → SM b k := fun b k z => by unfold SRf at z; unfold SM; omega
  have M0 : MO (wI h 88 11 (nI s)) := MO_M (FS_m SRM f0) hM
  obtain ⟨h2, f2, j2, q2⟩ := m_cp1 (d := 59) hs s 0 (wI h 88 11 (nI s)) (by omega) M0.1 (by rw [zI_wI, if_pos rfl, up_s])
  have f2' : FS SRf (wI h 88 11 (nI s)) h2 := FS_m (fun b k z => Or.inl z) f2
  have f3 : FS SRf h2 (wI h2 88 6 0) := FS_I _ (by unfold SRf; omega)
  have M3 : MO (wI h2 88 6 0) := MO_M (FS_m SRM f3) (MO_M (FS_m SRM f2') M0)
  have ea : zI (wI h2 88 6 0) 88 11 = nI s := by
    rw [zI_wI, if_pos rfl, up_n _ _ (by omega), f2.2.2.2.2.1 _ _ (by omega), zI_wI, if_pos rfl, up_s]
  have eb : ∀ k, k < s → zI (wI h2 88 6 0) 95 k = x k := fun k hk => by
    rw [zI_wI, if_neg (by omega), j2, if_pos (by omega), zI_wI, if_neg (by omega)]; exact hx k hk
  obtain ⟨h3, f4, p1, p2, p3, q3⟩ := r_readAll (d := 39) (h := wI h2 88 6 0) (x := x) (s := s) (nm := zI (wI h2 88 6 0) 96) ⟨M3, eb, ea, hs, fun _ _ => rfl⟩
  have f4' : FS SRf (wI h2 88 6 0) h3 := FS_m (fun b k z => by unfold S6 at z; unfold SRf; omega) f4
  refine ⟨h3, p2, FS_t f0 (FS_t f2' (FS_t f3 f4')), ?_, ?_, fun k hk => ?_, fun hn Q => ?_, fun hs2 Q => ?_⟩
  · rw [f4.2.2.2.2.1 _ _ (by unfold S6; omega), zI_wI, if_pos rfl, up_s]
  · rw [f4.2.2.2.2.1 _ _ (by unfold S6; omega)]; exact ea
  · rw [f4.2.2.2.2.1 _ _ (by unfold S6; omega)]; exact eb k hk
  · have nq : ¬ nI q = 6 := fun e => by have := (nI_eq (b := 6) (by omega) (by omega)).mp e; omega
    have q3' : ∀ Q, zCall 59 827 [.ref 88] (wI h2 88 6 0) Q = Q (some (.int 0)) h3 := fun Q => by
      rw [q3 Q, hn]; rfl
    have k88 : zT h2 88 = (8, 29) := by rw [f2.1]; exact M0.1.1
    have k89 : zT h3 88 = (8, 29) := by rw [f4.1]; exact k88
    have m88' := hM.1.1
    have q2' : ∀ Q, zG 59 829 22 [some (.ref 88), some (.int 0)] [] (wI h 88 11 (nI s)) Q = _ := q2
    simp +decide only [Nat.reduceEqDiff, Nat.add_eq_left, Nat.left_eq_add, Nat.reduceAdd, Nat.reduceLeDiff, Nat.reduceMul, Nat.reduceSub, Nat.reduceLT, zlt8, zlt8_, zlt8n, zlt8n_, List.length_cons, List.length_nil, true_or, or_true, false_or, or_false, and_self, and_true, true_and, and_false, false_and, not_false_eq_true, not_true_eq_false, ite_true, ite_false, if_true, if_false, ite_not, zin, zpush_s, zpush_n, kl_int, kl_ref, kl_none, kl_kl, kl_long, kl_null, VR_i, VR_l, zT_wI, zT_wJ, zT_wR, zT_wIr, zT_wJr, zT_wRr, zI_wJ, zI_wR, zI_wJr, zI_wRr, zJ_wI, zJ_wR, zJ_wIr, zJ_wRr, zR_wI, zR_wJ, zR_wIr, zR_wJr, zN_wI, zN_wJ, zN_wR, zN_wIr, zN_wJr, zN_wRr, zZ_wI, zZ_wJ, zZ_wR, zZ_wIr, zZ_wJr, zZ_wRr, zI_wI, zJ_wJ, zR_wR, zI_wIr, zJ_wJr, zR_wRr, k829, g829_0, g829_1, g829_4, g829_6, g829_12, g829_13, g829_14, g829_17, g829_20, g829_21, q2', g829_48, g829_49, g829_50, g829_53, g829_54, g829_57, g829_60, g829_62, g829_63, g829_66, g829_67, m88', k88, k89, e6, e9, nq, q3', p1]
  · have nq : ¬ nI q = 6 := fun e => by have := (nI_eq (b := 6) (by omega) (by omega)).mp e; omega
    have q3' : ∀ Q, zCall 59 827 [.ref 88] (wI h2 88 6 0) Q = Q (some (.int 1)) h3 := fun Q => by
      rw [q3 Q, hs2]; rfl
    have k88 : zT h2 88 = (8, 29) := by rw [f2.1]; exact M0.1.1
    have m88' := hM.1.1
    have q2' : ∀ Q, zG 59 829 22 [some (.ref 88), some (.int 0)] [] (wI h 88 11 (nI s)) Q = _ := q2
    simp +decide only [Nat.reduceEqDiff, Nat.add_eq_left, Nat.left_eq_add, Nat.reduceAdd, Nat.reduceLeDiff, Nat.reduceMul, Nat.reduceSub, Nat.reduceLT, zlt8, zlt8_, zlt8n, zlt8n_, List.length_cons, List.length_nil, true_or, or_true, false_or, or_false, and_self, and_true, true_and, and_false, false_and, not_false_eq_true, not_true_eq_false, ite_true, ite_false, if_true, if_false, ite_not, zin, zpush_s, zpush_n, kl_int, kl_ref, kl_none, kl_kl, kl_long, kl_null, VR_i, VR_l, zT_wI, zT_wJ, zT_wR, zT_wIr, zT_wJr, zT_wRr, zI_wJ, zI_wR, zI_wJr, zI_wRr, zJ_wI, zJ_wR, zJ_wIr, zJ_wRr, zR_wI, zR_wJ, zR_wIr, zR_wJr, zN_wI, zN_wJ, zN_wR, zN_wIr, zN_wJr, zN_wRr, zZ_wI, zZ_wJ, zZ_wR, zZ_wIr, zZ_wJr, zZ_wRr, zI_wI, zJ_wJ, zR_wR, zI_wIr, zJ_wJr, zR_wRr, k829, g829_0, g829_1, g829_4, g829_6, g829_12, g829_13, g829_14, g829_17, g829_20, g829_21, q2', g829_48, g829_49, g829_50, g829_53, g829_54, g829_57, g829_68, g829_69, m88', k88, e6, e9, nq, q3']
    rfl
def SF (q b k : Nat) : Prop := (b = 69 ∧ 2 ≤ k) ∨ (b = sA q ∧ 1 ≤ k) ∨ b = sA q + 1 ∨ SRf b k
theorem sea_fail (go : GO h xs L q) (gm : GM h q n D w c1 c2 c3 sv) (f : FS (SF q) h h3) (e3 : zI h3 69 3 = 0) (e6 : zI h3 88 6 = 0) : GI h3 xs L := by
  obtain ⟨g1, g2, g3, g4, g5, g6, g7, g8⟩ := go
  have q6 := g2.1
  have sq := sA_n q6
  have hS : ∀ b k, SF q b k → (b = 69 ∧ 2 ≤ k) ∨ (b = sA q ∧ 1 ≤ k) ∨ b = sA q + 1 ∨ b = 95 ∨ (b = 88 ∧ (k = 6 ∨ (11 ≤ k ∧ k ≤ 16))) := fun b k z => by unfold SF SRf at z; exact z
  refine ⟨q, n, D, w, c1, c2, c3, sv, ⟨GZ_f (fun b k z => by have := hS b k z; unfold NZ SM; omega) f g1, GN_f (fun b k z => by have := hS b k z; omega) f g2, GD_f (fun b k z => by have := hS b k z; omega) f g3, fun r hr => Sn_f (fun b k z => by have := hS b k z; have := sA_n (r := r) (by omega); have := sA_ne hr; omega) f (g4 r hr), GImg_f (fun b k z => by have := hS b k z; omega) f g5, ⟨0, by omega, e3, e6, fun k hk => by omega⟩, GAct_f (fun b k z => by have := hS b k z; omega) f g7, GTp_f (fun b k z => by have := hS b k z; omega) f g8⟩, GM_f (fun b k z => by have := hS b k z; omega) f gm⟩
