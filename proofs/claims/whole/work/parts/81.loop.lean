-- needs 80.law
variable {n D D2 q L c1 c2 c3 a b t s r d K k kd i j ln c m M N p p2 z : Nat} {h h0 h1 h2 h3 h4 g0 : zH} {w w1 x nm : zW0} {sv : Value} {xs : zW0} {ex : zW0 → Int32} {ty : Nat × Nat}
theorem reach_m (hl : ln ≤ 3072) (hp : p < 2 ^ 31) (hm : m < 2 ^ 31) (e : ¬ nI ln - nI p < nI m) : p + m ≤ ln := by
  by_cases hpl : p ≤ ln
  · rw [pk_sub hpl, ← i_le, nI_leI hm (by omega)] at e
    omega
  · exfalso
    apply e
    have t : ∀ a, a < 2 ^ 31 → (nI a).toInt = a := fun a ha => Int32.toInt_ofNat_of_lt ha
    rw [Int32.lt_iff_toInt_lt, Int32.toInt_sub, t _ (by omega), t _ hp, t _ hm, Int.bmod_eq_of_le (by omega) (by omega)]
    omega
theorem and31 (v : Int32) : ∃ k, k < 32 ∧ v &&& 31 = nI k := by
  refine ⟨v.toBitVec.toNat &&& 31, Nat.lt_of_le_of_lt Nat.and_le_right (by omega), Int32.toBitVec_inj.mp (BitVec.eq_of_toNat_eq ?_)⟩
  rw [Int32.toBitVec_and, BitVec.toNat_and]
  show v.toBitVec.toNat &&& 31 = (v.toBitVec.toNat &&& 31) % 2 ^ 32
  rw [Nat.mod_eq_of_lt (Nat.lt_of_le_of_lt Nat.and_le_right (by omega))]
theorem law_one (g : GI h xs L) (hi : i + 6 ≤ L) (hL : L ≤ 3072) : ∀ k, k < 32 → ∃ h2, GI h2 xs L ∧ ∀ Q, zG 60 1301 33 [some (.ref 1000000), some (.ref 0), some (.ref 88), some (.int (nI i))] [.int (nI k)] h Q = zG 60 1301 1251 [some (.ref 1000000), some (.ref 0), some (.ref 88), some (.int (nI i))] [] h2 Q
  | 0, _ => by
    obtain ⟨h2, g2, q⟩ := lw_702 g hi hL
    refine ⟨h2, g2, fun Q => ?_⟩
    rw [← q Q, g1301_33]
    simp +decide only [if_true, if_false]
  | 1, _ => by
    obtain ⟨h2, g2, q⟩ := lw_703 g hi hL
    refine ⟨h2, g2, fun Q => ?_⟩
    rw [← q Q, g1301_33]
    simp +decide only [if_true, if_false]
  | 2, _ => by
    obtain ⟨h2, g2, q⟩ := lw_704 g hi hL
    refine ⟨h2, g2, fun Q => ?_⟩
    rw [← q Q, g1301_33]
    simp +decide only [if_true, if_false]
  | 3, _ => by
    obtain ⟨h2, g2, q⟩ := lw_705 g hi hL
    refine ⟨h2, g2, fun Q => ?_⟩
    rw [← q Q, g1301_33]
    simp +decide only [if_true, if_false]
  | 4, _ => by
    obtain ⟨h2, g2, q⟩ := lw_706 g hi hL
    refine ⟨h2, g2, fun Q => ?_⟩
    rw [← q Q, g1301_33]
    simp +decide only [if_true, if_false]
  | 5, _ => by
    obtain ⟨h2, g2, q⟩ := lw_707 g hi hL
    refine ⟨h2, g2, fun Q => ?_⟩
    rw [← q Q, g1301_33]
    simp +decide only [if_true, if_false]
  | 6, _ => by
    obtain ⟨h2, g2, q⟩ := lw_708 g hi hL
    refine ⟨h2, g2, fun Q => ?_⟩
    rw [← q Q, g1301_33]
    simp +decide only [if_true, if_false]
  | 7, _ => by
    obtain ⟨h2, g2, q⟩ := lw_709 g hi hL
    refine ⟨h2, g2, fun Q => ?_⟩
    rw [← q Q, g1301_33]
    simp +decide only [if_true, if_false]
  | 8, _ => by
    obtain ⟨h2, g2, q⟩ := lw_710 g hi hL
    refine ⟨h2, g2, fun Q => ?_⟩
    rw [← q Q, g1301_33]
    simp +decide only [if_true, if_false]
  | 9, _ => by
    obtain ⟨h2, g2, q⟩ := lw_711 g hi hL
    refine ⟨h2, g2, fun Q => ?_⟩
    rw [← q Q, g1301_33]
    simp +decide only [if_true, if_false]
  | 10, _ => by
    obtain ⟨h2, g2, q⟩ := lw_712 g hi hL
    refine ⟨h2, g2, fun Q => ?_⟩
    rw [← q Q, g1301_33]
    simp +decide only [if_true, if_false]
  | 11, _ => by
    obtain ⟨h2, g2, q⟩ := lw_714 g hi hL
    refine ⟨h2, g2, fun Q => ?_⟩
    rw [← q Q, g1301_33]
    simp +decide only [if_true, if_false]
  | 12, _ => by
    obtain ⟨h2, g2, q⟩ := lw_720 g hi hL
    refine ⟨h2, g2, fun Q => ?_⟩
    rw [← q Q, g1301_33]
    simp +decide only [if_true, if_false]
  | 13, _ => by
    obtain ⟨h2, g2, q⟩ := lw_721 g hi hL
    refine ⟨h2, g2, fun Q => ?_⟩
    rw [← q Q, g1301_33]
    simp +decide only [if_true, if_false]
  | 14, _ => by
    obtain ⟨h2, g2, q⟩ := lw_722 g hi hL
    refine ⟨h2, g2, fun Q => ?_⟩
    rw [← q Q, g1301_33]
    simp +decide only [if_true, if_false]
  | 15, _ => by
    obtain ⟨h2, g2, q⟩ := lw_724 g hi hL
    refine ⟨h2, g2, fun Q => ?_⟩
    rw [← q Q, g1301_33]
    simp +decide only [if_true, if_false]
  | 16, _ => by
    obtain ⟨h2, g2, q⟩ := lw_725 g hi hL
    refine ⟨h2, g2, fun Q => ?_⟩
    rw [← q Q, g1301_33]
    simp +decide only [if_true, if_false]
  | 17, _ => by
    obtain ⟨h2, g2, q⟩ := lw_727 g hi hL
    refine ⟨h2, g2, fun Q => ?_⟩
    rw [← q Q, g1301_33]
    simp +decide only [if_true, if_false]
  | 18, _ => by
    obtain ⟨h2, g2, q⟩ := lw_728 g hi hL
    refine ⟨h2, g2, fun Q => ?_⟩
    rw [← q Q, g1301_33]
    simp +decide only [if_true, if_false]
  | 19, _ => by
    obtain ⟨h2, g2, q⟩ := lw_730 g hi hL
    refine ⟨h2, g2, fun Q => ?_⟩
    rw [← q Q, g1301_33]
    simp +decide only [if_true, if_false]
  | 20, _ => by
    obtain ⟨h2, g2, q⟩ := lw_731 g hi hL
    refine ⟨h2, g2, fun Q => ?_⟩
    rw [← q Q, g1301_33]
    simp +decide only [if_true, if_false]
  | 21, _ => by
    obtain ⟨h2, g2, q⟩ := lw_732 g hi hL
    refine ⟨h2, g2, fun Q => ?_⟩
    rw [← q Q, g1301_33]
    simp +decide only [if_true, if_false]
  | 22, _ => by
    obtain ⟨h2, g2, q⟩ := lw_733 g hi hL
    refine ⟨h2, g2, fun Q => ?_⟩
    rw [← q Q, g1301_33]
    simp +decide only [if_true, if_false]
  | 23, _ => by
    obtain ⟨h2, g2, q⟩ := lw_734 g hi hL
    refine ⟨h2, g2, fun Q => ?_⟩
    rw [← q Q, g1301_33]
    simp +decide only [if_true, if_false]
  | 24, _ => by
    obtain ⟨h2, g2, q⟩ := lw_735 g hi hL
    refine ⟨h2, g2, fun Q => ?_⟩
    rw [← q Q, g1301_33]
    simp +decide only [if_true, if_false]
  | 25, _ => by
    obtain ⟨h2, g2, q⟩ := lw_736 g hi hL
    refine ⟨h2, g2, fun Q => ?_⟩
    rw [← q Q, g1301_33]
    simp +decide only [if_true, if_false]
  | 26, _ => by
    obtain ⟨h2, g2, q⟩ := lw_737 g hi hL
    refine ⟨h2, g2, fun Q => ?_⟩
    rw [← q Q, g1301_33]
    simp +decide only [if_true, if_false]
  | 27, _ => by
    obtain ⟨h2, g2, q⟩ := lw_738 g hi hL
    refine ⟨h2, g2, fun Q => ?_⟩
    rw [← q Q, g1301_33]
    simp +decide only [if_true, if_false]
  | 28, _ => by
    obtain ⟨h2, g2, q⟩ := lw_739 g hi hL
    refine ⟨h2, g2, fun Q => ?_⟩
    rw [← q Q, g1301_33]
    simp +decide only [if_true, if_false]
  | 29, _ => by
    obtain ⟨h2, g2, q⟩ := lw_740 g hi hL
    refine ⟨h2, g2, fun Q => ?_⟩
    rw [← q Q, g1301_33]
    simp +decide only [if_true, if_false]
  | 30, _ => by
    obtain ⟨h2, g2, q⟩ := lw_741 g hi hL
    refine ⟨h2, g2, fun Q => ?_⟩
    rw [← q Q, g1301_33]
    simp +decide only [if_true, if_false]
  | 31, _ => by
    obtain ⟨h2, g2, q⟩ := lw_742 g hi hL
    refine ⟨h2, g2, fun Q => ?_⟩
    rw [← q Q, g1301_33]
    simp +decide only [if_true, if_false]
  | k + 32, hk => by omega
theorem law_loop (hL : L ≤ 3072) : ∀ (M i : Nat) (h : zH), GI h xs L → i ≤ L → L ≤ i + M → ∃ hF, zN hF ≤ 119 ∧ zZ hF ≤ 5000 ∧ ∀ Q, zG 60 1301 18 [some (.ref 1000000), some (.ref 0), some (.ref 88), some (.int (nI i))] [] h Q = Q (some (.int 1)) hF := by
  intro M
  induction M using Nat.strongRecOn with
  | ind M ih =>
  intro i h g hi hM
  obtain ⟨t0, a0, a2, a3⟩ := LC_G g
  by_cases h6 : i + 6 ≤ L
  · obtain ⟨k, hk, ek⟩ := and31 (xs i)
    obtain ⟨h2, g2, q2⟩ := law_one g h6 hL k hk
    obtain ⟨hF, n1, n2, qF⟩ := ih (M - 6) (by omega) (i + 6) h2 g2 (by omega) (by omega)
    refine ⟨hF, n1, n2, fun Q => ?_⟩
    have eL : Int32.ofNat L - 6 = nI (L - 6) := pk_sub (a := L) (b := 6) (by omega)
    have e1 : ¬ nI (L - 6) < nI i := fun e => by have := (nI_ltI (by omega) (by omega)).mp e; omega
    have y1 := nI_pos (n := i) (by omega)
    have y2 := nI_clamp (n := i) (by omega)
    have e3 := a3 i (by omega)
    have k6 : nI i + 6 = nI (i + 6) := nI_add i 6
    rw [← qF Q]
    have st : zG 60 1301 18 [some (.ref 1000000), some (.ref 0), some (.ref 88), some (.int (nI i))] [] h Q = zG 60 1301 33 [some (.ref 1000000), some (.ref 0), some (.ref 88), some (.int (nI i))] [.int (nI k)] h Q := by
      rw [g1301_18]
      simp +decide only [Nat.reduceEqDiff, Nat.add_eq_left, Nat.left_eq_add, Nat.reduceAdd, Nat.reduceLeDiff, Nat.reduceMul, Nat.reduceSub, Nat.reduceLT, zlt8, zlt8_, zlt8n, zlt8n_, List.length_cons, List.length_nil, true_or, or_true, false_or, or_false, and_self, and_true, true_and, and_false, false_and, not_false_eq_true, not_true_eq_false, ite_true, ite_false, if_true, if_false, ite_not, zin, zpush_s, zpush_n, kl_int, kl_ref, kl_none, kl_kl, kl_long, kl_null, VR_i, VR_l, zT_wI, zT_wJ, zT_wR, zT_wIr, zT_wJr, zT_wRr, zI_wJ, zI_wR, zI_wJr, zI_wRr, zJ_wI, zJ_wR, zJ_wIr, zJ_wRr, zR_wI, zR_wJ, zR_wIr, zR_wJr, zN_wI, zN_wJ, zN_wR, zN_wIr, zN_wJr, zN_wRr, zZ_wI, zZ_wJ, zZ_wR, zZ_wIr, zZ_wJr, zZ_wRr, zI_wI, zJ_wJ, zR_wR, zI_wIr, zJ_wJr, zR_wRr, g1301_19, g1301_20, g1301_21, g1301_23, g1301_24, g1301_27, g1301_28, g1301_29, g1301_30, g1301_32, a2, eL, e1, y1, y2, e3, ek, show i < L by omega]
    rw [st, q2 Q]
    simp +decide only [Nat.reduceEqDiff, Nat.add_eq_left, Nat.left_eq_add, Nat.reduceAdd, Nat.reduceLeDiff, Nat.reduceMul, Nat.reduceSub, Nat.reduceLT, zlt8, zlt8_, zlt8n, zlt8n_, List.length_cons, List.length_nil, true_or, or_true, false_or, or_false, and_self, and_true, true_and, and_false, false_and, not_false_eq_true, not_true_eq_false, ite_true, ite_false, if_true, if_false, ite_not, zin, zpush_s, zpush_n, kl_int, kl_ref, kl_none, kl_kl, kl_long, kl_null, VR_i, VR_l, zT_wI, zT_wJ, zT_wR, zT_wIr, zT_wJr, zT_wRr, zI_wJ, zI_wR, zI_wJr, zI_wRr, zJ_wI, zJ_wR, zJ_wIr, zJ_wRr, zR_wI, zR_wJ, zR_wIr, zR_wJr, zN_wI, zN_wJ, zN_wR, zN_wIr, zN_wJr, zN_wRr, zZ_wI, zZ_wJ, zZ_wR, zZ_wIr, zZ_wJr, zZ_wRr, zI_wI, zJ_wJ, zR_wR, zI_wIr, zJ_wJr, zR_wRr, g1301_1251, g1301_1254, k6]
  · have g' := g
    obtain ⟨q, n, D, w, c1, c2, c3, sv, go, gm⟩ := g
    refine ⟨h, by rw [go.2.1.2.1]; have := go.2.1.1; omega, by have := go.2.1.2.2.1; have := go.2.1.1; omega, fun Q => ?_⟩
    have e1 : Int32.ofNat L - 6 < nI i := Classical.not_not.mp fun e => h6 (by have := reach_m (ln := L) (p := 6) (m := i) hL (by omega) (by omega) e; omega)
    rw [g1301_18]
    simp +decide only [Nat.reduceEqDiff, Nat.add_eq_left, Nat.left_eq_add, Nat.reduceAdd, Nat.reduceLeDiff, Nat.reduceMul, Nat.reduceSub, Nat.reduceLT, zlt8, zlt8_, zlt8n, zlt8n_, List.length_cons, List.length_nil, true_or, or_true, false_or, or_false, and_self, and_true, true_and, and_false, false_and, not_false_eq_true, not_true_eq_false, ite_true, ite_false, if_true, if_false, ite_not, zin, zpush_s, zpush_n, kl_int, kl_ref, kl_none, kl_kl, kl_long, kl_null, VR_i, VR_l, zT_wI, zT_wJ, zT_wR, zT_wIr, zT_wJr, zT_wRr, zI_wJ, zI_wR, zI_wJr, zI_wRr, zJ_wI, zJ_wR, zJ_wIr, zJ_wRr, zR_wI, zR_wJ, zR_wIr, zR_wJr, zN_wI, zN_wJ, zN_wR, zN_wIr, zN_wJr, zN_wRr, zZ_wI, zZ_wJ, zZ_wR, zZ_wIr, zZ_wJr, zZ_wRr, zI_wI, zJ_wJ, zR_wR, zI_wIr, zJ_wJr, zR_wRr, g1301_19, g1301_20, g1301_21, g1301_23, g1301_24, g1301_1257, g1301_1258, a2, e1]
/-- the law, run by the mini machine, from its entry -/
theorem law_mini (hL : L ≤ 3072) (hk : HK h xs L) (hN : zN h = 0) (hZ : zZ h = 0) : ∃ hF, zN hF ≤ 119 ∧ zZ hF ≤ 5000 ∧ ∀ Q, zG 60 1301 0 [some (.ref 1000000), none, none, none] [] h Q = Q (some (.int 1)) hF := by
  obtain ⟨h2, g2, q2⟩ := law_start hk hN hZ
  obtain ⟨hF, n1, n2, qF⟩ := law_loop hL L 0 h2 g2 (by omega) (by omega)
  exact ⟨hF, n1, n2, fun Q => (q2 Q).trans (qF Q)⟩
