-- needs 42.mq3
variable {d a b n t D D2 K c1 c2 c3 : Nat} {h h1 h2 : zH} {w w0 w2 v : zW0} {fo fo2 fp x y z py p : Int32} {sv : Value} {ex : zW0 → Int32}
theorem zcmp_0 {b : Nat} (hb : b < 2 ^ 31) : (zcmp (lN b) 0 = 0) = (b = 0) := by
  have h0 : (0 : Int64) = lN 0 := rfl
  unfold zcmp
  rw [h0]
  by_cases e : b = 0
  · subst e
    rw [if_neg (fun z => by have := (lN_lt (by omega) (by omega)).mp z; omega), if_pos rfl]
    simp
  · rw [if_pos ((lN_lt (by omega) hb).mpr (by omega))]
    simp [e]
theorem lN_ne0 {b : Nat} (h0 : 0 < b) (hb : b < 2 ^ 31) : ¬ lN b = 0 := fun e => by
  have := (lN_eq (b := 0) hb (by omega)).mp e
  omega
theorem m_frac_lp {u v : Nat} (hu : u < 2 ^ 31) (hv : v < 2 ^ 31) (hv0 : 0 < v) (Q : zQq) : ∀ (b a : Nat) (l9 : Option Value), a < 2 ^ 31 → b < 2 ^ 31 → Nat.gcd a b = Nat.gcd u v → zG d 852 6 [some (.long (lN u)), none, some (.long (lN v)), none, some (.int x), some (.long (lN a)), none, some (.long (lN b)), none, l9, none] [] h Q = Q (some (.long (qPart x u v))) h := by
  intro b
  induction b using Nat.strongRecOn with
  | ind b ih =>
    intro a l9 ha hb hg
    have z := zcmp_0 hb
    rw [g852_6]
    by_cases e : b = 0
    · subst e
      have eg : a = Nat.gcd u v := by rw [← hg, Nat.gcd_zero_right]
      have gp : 0 < a := by rw [eg]; exact Nat.gcd_pos_of_pos_right _ hv0
      have z2 := lN_ne0 gp ha
      have d1 := pk_lDiv (a := u) (b := a) (by omega) gp (by omega)
      have d2 := pk_lDiv (a := v) (b := a) (by omega) gp (by omega)
      unfold qPart
      rw [← eg]
      by_cases q : x = 0 <;> simp +decide only [Nat.reduceEqDiff, Nat.add_eq_left, Nat.left_eq_add, Nat.reduceAdd, Nat.reduceLeDiff, Nat.reduceMul, Nat.reduceSub, Nat.reduceLT, zlt8, zlt8_, zlt8n, zlt8n_, List.length_cons, List.length_nil, true_or, or_true, false_or, or_false, and_self, and_true, true_and, and_false, false_and, not_false_eq_true, not_true_eq_false, ite_true, ite_false, if_true, if_false, ite_not, zin, zpush_s, zpush_n, kl_int, kl_ref, kl_none, kl_kl, kl_long, kl_null, zT_wI, zT_wJ, zT_wR, zT_wIr, zT_wJr, zT_wRr, zI_wJ, zI_wR, zI_wJr, zI_wRr, zJ_wI, zJ_wR, zJ_wIr, zJ_wRr, zR_wI, zR_wJ, zR_wIr, zR_wJr, zN_wI, zN_wJ, zN_wR, zN_wIr, zN_wJr, zN_wRr, zZ_wI, zZ_wJ, zZ_wR, zZ_wIr, zZ_wJr, zZ_wRr, zI_wI, zJ_wJ, zR_wR, zI_wIr, zJ_wJr, zR_wRr, g852_8, g852_9, g852_10, g852_31, g852_33, g852_36, g852_37, g852_39, g852_40, g852_43, g852_44, g852_46, g852_47, z, q, z2, d1, d2]
    · have z2 := lN_ne0 (b := b) (by omega) hb
      have d1 := pk_lRem (a := a) (b := b) (by omega) (by omega) (by omega)
      have hl : a % b < b := Nat.mod_lt _ (by omega)
      rw [← ih (a % b) hl b (some (.long (lN (a % b)))) hb (by omega) (by rw [← hg, Nat.gcd_comm b, ← Nat.gcd_rec, Nat.gcd_comm])]
      simp +decide only [Nat.reduceEqDiff, Nat.add_eq_left, Nat.left_eq_add, Nat.reduceAdd, Nat.reduceLeDiff, Nat.reduceMul, Nat.reduceSub, Nat.reduceLT, zlt8, zlt8_, zlt8n, zlt8n_, List.length_cons, List.length_nil, true_or, or_true, false_or, or_false, and_self, and_true, true_and, and_false, false_and, not_false_eq_true, not_true_eq_false, ite_true, ite_false, if_true, if_false, ite_not, zin, zpush_s, zpush_n, kl_int, kl_ref, kl_none, kl_kl, kl_long, kl_null, zT_wI, zT_wJ, zT_wR, zT_wIr, zT_wJr, zT_wRr, zI_wJ, zI_wR, zI_wJr, zI_wRr, zJ_wI, zJ_wR, zJ_wIr, zJ_wRr, zR_wI, zR_wJ, zR_wIr, zR_wJr, zN_wI, zN_wJ, zN_wR, zN_wIr, zN_wJr, zN_wRr, zZ_wI, zZ_wJ, zZ_wR, zZ_wIr, zZ_wJr, zZ_wRr, zI_wI, zJ_wJ, zR_wR, zI_wIr, zJ_wJr, zR_wRr, g852_8, g852_9, g852_10, g852_13, g852_15, g852_17, g852_18, g852_20, g852_22, g852_24, g852_26, g852_28, z, e, z2, d1]
theorem m_fraction {u v : Nat} (hu : u < 2 ^ 31) (hv : v < 2 ^ 31) (hv0 : 0 < v) (Q : zQq) : zCall (d + 1) 852 [.long (lN u), .long (lN v), .int x] h Q = Q (some (.long (qPart x u v))) h := by
  have := m_frac_lp (d := d) (h := h) (x := x) hu hv hv0 Q v u none hu hv rfl
  simp +decide only [Nat.reduceEqDiff, Nat.add_eq_left, Nat.left_eq_add, Nat.reduceAdd, Nat.reduceLeDiff, Nat.reduceMul, Nat.reduceSub, Nat.reduceLT, zlt8, zlt8_, zlt8n, zlt8n_, List.length_cons, List.length_nil, true_or, or_true, false_or, or_false, and_self, and_true, true_and, and_false, false_and, not_false_eq_true, not_true_eq_false, ite_true, ite_false, if_true, if_false, ite_not, zin, zpush_s, zpush_n, kl_int, kl_ref, kl_none, kl_kl, kl_long, kl_null, zT_wI, zT_wJ, zT_wR, zT_wIr, zT_wJr, zT_wRr, zI_wJ, zI_wR, zI_wJr, zI_wRr, zJ_wI, zJ_wR, zJ_wIr, zJ_wRr, zR_wI, zR_wJ, zR_wIr, zR_wJr, zN_wI, zN_wJ, zN_wR, zN_wIr, zN_wJr, zN_wRr, zZ_wI, zZ_wJ, zZ_wR, zZ_wIr, zZ_wJr, zZ_wRr, zI_wI, zJ_wJ, zR_wR, zI_wIr, zJ_wJr, zR_wRr, k852, g852_0, g852_1, g852_3, g852_4, g852_8, g852_9, g852_10, g852_13, g852_15, g852_17, g852_18, g852_20, g852_22, g852_24, g852_26, g852_28, g852_31, g852_33, g852_36, g852_37, g852_39, g852_40, g852_43, g852_44, g852_46, g852_47]
  exact this
/-! odds -/
theorem bt_t : ∀ m, m < 64 → ∀ t, t < 6 → nI m >>> (nI t &&& 31) &&& 1 = if m.testBit t then 1 else 0 := by decide +kernel
theorem m_odds_lp (ht : t < n) (hK : K ≤ 60) (hD : D ≤ 20000) : ∀ (m k : Nat) (h : zH) (s : Nat) (fo : Int32), k + m = 21 → mQ h n D w py ex fo → ∃ h1 fo2, FS SY h h1 ∧ mQ h1 n D w py ex fo2 ∧ ∀ Q, zG (d + 26) 853 37 [some (.ref 88), some (.int (nI t)), some (.int (nI K)), some (.int x), some (.int (nI s)), some (.int (nI k))] [] h Q = zG (d + 26) 853 71 [some (.ref 88), some (.int (nI t)), some (.int (nI K)), some (.int x), some (.int (nI (sOd ex n K t w m k s))), some (.int (nI 21))] [] h1 Q
  | 0, k, h, s, fo, e, m => by
    have e : k = 21 := by omega
    subst e
    refine ⟨h, fo, FS_r _ _, m, fun Q => ?_⟩
    rw [g853_37]
    simp +decide only [Nat.reduceEqDiff, Nat.add_eq_left, Nat.left_eq_add, Nat.reduceAdd, Nat.reduceLeDiff, Nat.reduceMul, Nat.reduceSub, Nat.reduceLT, zlt8, zlt8_, zlt8n, zlt8n_, List.length_cons, List.length_nil, true_or, or_true, false_or, or_false, and_self, and_true, true_and, and_false, false_and, not_false_eq_true, not_true_eq_false, ite_true, ite_false, if_true, if_false, ite_not, zin, zpush_s, zpush_n, kl_int, kl_ref, kl_none, kl_kl, kl_long, kl_null, zT_wI, zT_wJ, zT_wR, zT_wIr, zT_wJr, zT_wRr, zI_wJ, zI_wR, zI_wJr, zI_wRr, zJ_wI, zJ_wR, zJ_wIr, zJ_wRr, zR_wI, zR_wJ, zR_wIr, zR_wJr, zN_wI, zN_wJ, zN_wR, zN_wIr, zN_wJr, zN_wRr, zZ_wI, zZ_wJ, zZ_wR, zZ_wIr, zZ_wJr, zZ_wRr, zI_wI, zJ_wJ, zR_wR, zI_wIr, zJ_wJr, zR_wRr, g853_39, g853_41, show (20 : Int32) < nI 21 by decide]
    rfl
  | m + 1, k, h, s, fo, e, mm => by
    have hn := mm.2.2.1.2.1
    obtain ⟨f0, m0⟩ := M_fo mm (nI k)
    obtain ⟨h1, f1, m1, g1⟩ := m_on (d := d) (y := 1) m0 (Or.inl (by decide)) hK (by omega) (if_neg (nI_pos (by omega)))
    have e1 : aOn (sDays (nI k) ex n K w) n 1 = sAt (sDays (nI k) ex n K w) n 10 := rfl
    rw [e1] at g1
    obtain ⟨b, b1, b2, b3⟩ := sAt_m (sDays (nI k) ex n K w) n hn 10
    have b64 : b < 64 := Nat.lt_of_lt_of_le b1 (pow_64 hn)
    rw [b2] at g1
    have eb := bt_t b b64 t (by omega)
    have bb := b3 t (by omega)
    obtain ⟨h2, fo2, f2, m2, g2⟩ := m_odds_lp ht hK hD m (k + 1) h1 (if sDays (nI k) ex n K w (10 * t + 3) = 10 then s + 1 else s) _ (by omega) m1
    refine ⟨h2, fo2, FS_t (FS_t f0 f1) f2, m2, fun Q => ?_⟩
    have z1 : ¬ 20 < nI k := nI_nlt (a := 20) (by omega) (by omega)
    have k1 := m0.1.1.1
    have e2 : sOd ex n K t w (m + 1) k s = sOd ex n K t w m (k + 1) (if sDays (nI k) ex n K w (10 * t + 3) = 10 then s + 1 else s) := rfl
    obtain ⟨m88, m89, m90, m91, m92, m93, m94, m95, m96, m97, m98, m99, m100, m101, m102, m103, m104, m105, m106, n0, n1, n2, n5, n7, n8, n10, n17, n18, n19, n20, n21, n22, n23, n25, n26, n27, n28⟩ := mm.1.1
    rw [e2, ← g2 Q, g853_37]
    by_cases q : sDays (nI k) ex n K w (10 * t + 3) = 10
    · have b4 : b.testBit t = true := by rw [bb]; simp [q, ht]
      rw [b4] at eb
      simp +decide only [Nat.reduceEqDiff, Nat.add_eq_left, Nat.left_eq_add, Nat.reduceAdd, Nat.reduceLeDiff, Nat.reduceMul, Nat.reduceSub, Nat.reduceLT, zlt8, zlt8_, zlt8n, zlt8n_, List.length_cons, List.length_nil, true_or, or_true, false_or, or_false, and_self, and_true, true_and, and_false, false_and, not_false_eq_true, not_true_eq_false, ite_true, ite_false, if_true, if_false, ite_not, zin, zpush_s, zpush_n, kl_int, kl_ref, kl_none, kl_kl, kl_long, kl_null, zT_wI, zT_wJ, zT_wR, zT_wIr, zT_wJr, zT_wRr, zI_wJ, zI_wR, zI_wJr, zI_wRr, zJ_wI, zJ_wR, zJ_wIr, zJ_wRr, zR_wI, zR_wJ, zR_wIr, zR_wJr, zN_wI, zN_wJ, zN_wR, zN_wIr, zN_wJr, zN_wRr, zZ_wI, zZ_wJ, zZ_wR, zZ_wIr, zZ_wJr, zZ_wRr, zI_wI, zJ_wJ, zR_wR, zI_wIr, zJ_wJr, zR_wRr, g853_0, g853_1, g853_2, g853_5, g853_8, g853_9, g853_10, g853_12, g853_15, g853_18, g853_19, g853_20, g853_21, g853_24, g853_27, g853_30, g853_31, g853_32, g853_34, g853_35, g853_39, g853_41, g853_44, g853_45, g853_47, g853_50, g853_52, g853_53, g853_54, g853_55, g853_58, g853_59, g853_60, g853_61, g853_62, g853_63, g853_65, g853_68, g853_71, g853_72, g853_73, g853_76, g853_78, g853_79, g853_82, g853_83, g853_86, m88, k1, z1, g1, eb, q, nI_1, Bool.false_eq_true]
    · have b4 : b.testBit t = false := by rw [bb]; simp [q]
      rw [b4] at eb
      simp +decide only [Nat.reduceEqDiff, Nat.add_eq_left, Nat.left_eq_add, Nat.reduceAdd, Nat.reduceLeDiff, Nat.reduceMul, Nat.reduceSub, Nat.reduceLT, zlt8, zlt8_, zlt8n, zlt8n_, List.length_cons, List.length_nil, true_or, or_true, false_or, or_false, and_self, and_true, true_and, and_false, false_and, not_false_eq_true, not_true_eq_false, ite_true, ite_false, if_true, if_false, ite_not, zin, zpush_s, zpush_n, kl_int, kl_ref, kl_none, kl_kl, kl_long, kl_null, zT_wI, zT_wJ, zT_wR, zT_wIr, zT_wJr, zT_wRr, zI_wJ, zI_wR, zI_wJr, zI_wRr, zJ_wI, zJ_wR, zJ_wIr, zJ_wRr, zR_wI, zR_wJ, zR_wIr, zR_wJr, zN_wI, zN_wJ, zN_wR, zN_wIr, zN_wJr, zN_wRr, zZ_wI, zZ_wJ, zZ_wR, zZ_wIr, zZ_wJr, zZ_wRr, zI_wI, zJ_wJ, zR_wR, zI_wIr, zJ_wJr, zR_wRr, g853_0, g853_1, g853_2, g853_5, g853_8, g853_9, g853_10, g853_12, g853_15, g853_18, g853_19, g853_20, g853_21, g853_24, g853_27, g853_30, g853_31, g853_32, g853_34, g853_35, g853_39, g853_41, g853_44, g853_45, g853_47, g853_50, g853_52, g853_53, g853_54, g853_55, g853_58, g853_59, g853_60, g853_61, g853_62, g853_63, g853_65, g853_68, g853_71, g853_72, g853_73, g853_76, g853_78, g853_79, g853_82, g853_83, g853_86, m88, k1, z1, g1, eb, q, nI_1, Bool.false_eq_true, Int32.add_zero]
theorem m_odds (m : mQ h n D w py ex (-1)) (ht : t < n) (hK : K ≤ 60) (hD : D ≤ 20000) (hx : x = 0 ∨ x = 1) : ∃ h1, FS SY h h1 ∧ mQ h1 n D w py ex (-1) ∧ ∀ Q, zCall (d + 27) 853 [.ref 88, .int (nI t), .int (nI K), .int x] h Q = Q (some (.long (qPart x (sOd ex n K t w 21 0 0) 21))) h1 := by
  obtain ⟨h1, fo2, f1, m1, g1⟩ := m_odds_lp (d := d) (x := x) ht hK hD 21 0 h 0 (-1) (by omega) m
  obtain ⟨f2, m2⟩ := M_fo m1 (-1)
  refine ⟨_, FS_t f1 f2, m2, ?_⟩
  have co : ∀ x Q, zCall (d + 26) 807 [.ref 88, .int x] h Q = Q (some (.int (bI (sIs n x)))) h := fun x Q => m_isOne m Q
  have y4 : sIs n (nI t) := ⟨t, ht, rfl⟩
  have le := sOd_le ex n K t w 21 0 0
  revert g1
  generalize sOd ex n K t w 21 0 0 = u at *
  intro g1 Q
  have g1' : ∀ Q, zG (d + 26) 853 37 [some (.ref 88), some (.int (nI t)), some (.int (nI K)), some (.int x), some (.int 0), some (.int 0)] [] h Q = _ := g1
  have cf : ∀ h Q, zCall (d + 26) 852 [.long (lN u), .long 21, .int x] h Q = Q (some (.long (qPart x u 21))) h := fun h Q => m_fraction (u := u) (v := 21) (by omega) (by omega) (by omega) Q
  have z1 : ¬ nI K < 0 := nI_pos (by omega)
  have z2 : ¬ 60 < nI K := nI_nlt (a := 60) (by omega) (by omega)
  have m88 := m.1.1.1
  have b0 := m1.1.1.1
  have el := nI_l (n := u) (by omega)
  rcases hx with rfl | rfl <;> simp +decide only [Nat.reduceEqDiff, Nat.add_eq_left, Nat.left_eq_add, Nat.reduceAdd, Nat.reduceLeDiff, Nat.reduceMul, Nat.reduceSub, Nat.reduceLT, zlt8, zlt8_, zlt8n, zlt8n_, List.length_cons, List.length_nil, true_or, or_true, false_or, or_false, and_self, and_true, true_and, and_false, false_and, not_false_eq_true, not_true_eq_false, ite_true, ite_false, if_true, if_false, ite_not, zin, zpush_s, zpush_n, kl_int, kl_ref, kl_none, kl_kl, kl_long, kl_null, zT_wI, zT_wJ, zT_wR, zT_wIr, zT_wJr, zT_wRr, zI_wJ, zI_wR, zI_wJr, zI_wRr, zJ_wI, zJ_wR, zJ_wIr, zJ_wRr, zR_wI, zR_wJ, zR_wIr, zR_wJr, zN_wI, zN_wJ, zN_wR, zN_wIr, zN_wJr, zN_wRr, zZ_wI, zZ_wJ, zZ_wR, zZ_wIr, zZ_wJr, zZ_wRr, zI_wI, zJ_wJ, zR_wR, zI_wIr, zJ_wJr, zR_wRr, k853, g853_0, g853_1, g853_2, g853_5, g853_8, g853_9, g853_10, g853_12, g853_15, g853_18, g853_19, g853_20, g853_21, g853_24, g853_27, g853_30, g853_31, g853_32, g853_34, g853_35, g853_39, g853_41, g853_44, g853_45, g853_47, g853_50, g853_52, g853_53, g853_54, g853_55, g853_58, g853_59, g853_60, g853_61, g853_62, g853_63, g853_65, g853_68, g853_71, g853_72, g853_73, g853_76, g853_78, g853_79, g853_82, g853_83, g853_86, m88, b0, co, y4, bI_t, c_isIn, z1, z2, g1', el, cf]
/-! mean -/
theorem m_mean_lp (m : mQ h n D w py ex fo) (hK : K ≤ 60) (hD : D ≤ 20000) (hp : (if fo < 0 then py else fo) = p) : ∀ (m t : Nat) (h : zH) (s : Int32), t + m = n → mQ h n D w py ex fo → ∃ h1, FS SY h h1 ∧ mQ h1 n D w py ex fo ∧ ∀ Q, zG (d + 26) 854 38 [some (.ref 88), some (.int (nI K)), some (.int x), some (.int s), some (.int (nI t))] [] h Q = zG (d + 26) 854 69 [some (.ref 88), some (.int (nI K)), some (.int x), some (.int (lp (fun t s => s + sDays p ex n K w (10 * t + 5)) m t s)), some (.int (nI n))] [] h1 Q
  | 0, t, h, s, e, mm => by
    have e : n = t := by omega
    subst e
    refine ⟨h, FS_r _ _, mm, fun Q => ?_⟩
    have w1 := mm.2.2.1.1
    have e2 := mm.2.1
    obtain ⟨m88, m89, m90, m91, m92, m93, m94, m95, m96, m97, m98, m99, m100, m101, m102, m103, m104, m105, m106, n0, n1, n2, n5, n7, n8, n10, n17, n18, n19, n20, n21, n22, n23, n25, n26, n27, n28⟩ := mm.1.1
    rw [g854_38]
    simp +decide only [Nat.reduceEqDiff, Nat.add_eq_left, Nat.left_eq_add, Nat.reduceAdd, Nat.reduceLeDiff, Nat.reduceMul, Nat.reduceSub, Nat.reduceLT, zlt8, zlt8_, zlt8n, zlt8n_, List.length_cons, List.length_nil, true_or, or_true, false_or, or_false, and_self, and_true, true_and, and_false, false_and, not_false_eq_true, not_true_eq_false, ite_true, ite_false, if_true, if_false, ite_not, zin, zpush_s, zpush_n, kl_int, kl_ref, kl_none, kl_kl, kl_long, kl_null, zT_wI, zT_wJ, zT_wR, zT_wIr, zT_wJr, zT_wRr, zI_wJ, zI_wR, zI_wJr, zI_wRr, zJ_wI, zJ_wR, zJ_wIr, zJ_wRr, zR_wI, zR_wJ, zR_wIr, zR_wJr, zN_wI, zN_wJ, zN_wR, zN_wIr, zN_wJr, zN_wRr, zZ_wI, zZ_wJ, zZ_wR, zZ_wIr, zZ_wJr, zZ_wRr, zI_wI, zJ_wJ, zR_wR, zI_wIr, zJ_wJr, zR_wRr, g854_40, g854_41, g854_44, g854_46, g854_47, m88, m89, m90, m91, m92, m93, m94, m95, m96, m97, m98, m99, m100, m101, m102, m103, m104, m105, m106, n0, n1, n2, n5, n7, n8, n10, n17, n18, n19, n20, n21, n22, n23, n25, n26, n27, n28, e2, w1, i_le, Int32.lt_irrefl, lp_0, show Int32.toNatClampNeg 60 = 60 by decide, show ¬ (60 : Int32) < 0 by decide]
  | m + 1, t, h, s, e, mm => by
    have hn := mm.2.2.1.2.1
    have y3 : nI (20 + t) - 20 = nI t := nI_subc 20 t
    obtain ⟨h1, f1, m1, g1⟩ := m_on (d := d) (y := nI (20 + t)) mm (Or.inr (Or.inr (by rw [y3]; exact ⟨t, by omega, rfl⟩))) hK hD hp
    have e1 : aOn (sDays p ex n K w) n (nI (20 + t)) = sDays p ex n K w (10 * t + 5) := by
      unfold aOn
      rw [if_neg (nI_ne0 (by omega) (by omega)), if_neg (fun e => by have := (nI_eq (b := 1) (by omega) (by omega)).mp e; omega), if_neg (show ¬ nI (20 + t) < 20 from nI_nlt (a := 20 + t) (b := 20) (by omega) (by omega)), y3, nI_clamp (by omega)]
    rw [e1] at g1
    obtain ⟨h2, f2, m2, g2⟩ := m_mean_lp ‹_› hK hD hp m (t + 1) h1 (s + sDays p ex n K w (10 * t + 5)) (by omega) m1
    refine ⟨h2, FS_t f1 f2, m2, fun Q => ?_⟩
    have w1 := mm.2.2.1.1
    have e2 := mm.2.1
    have z3 := nI_lt (a := t) (b := n) (by omega) (by omega)
    have ea : (20 : Int32) + nI t = nI (20 + t) := nI_add 20 t
    have ei : nI t + 1 = nI (t + 1) := nI_1 t
    obtain ⟨m88, m89, m90, m91, m92, m93, m94, m95, m96, m97, m98, m99, m100, m101, m102, m103, m104, m105, m106, n0, n1, n2, n5, n7, n8, n10, n17, n18, n19, n20, n21, n22, n23, n25, n26, n27, n28⟩ := mm.1.1
    rw [lp_s, ← g2 Q, g854_38]
    simp +decide only [Nat.reduceEqDiff, Nat.add_eq_left, Nat.left_eq_add, Nat.reduceAdd, Nat.reduceLeDiff, Nat.reduceMul, Nat.reduceSub, Nat.reduceLT, zlt8, zlt8_, zlt8n, zlt8n_, List.length_cons, List.length_nil, true_or, or_true, false_or, or_false, and_self, and_true, true_and, and_false, false_and, not_false_eq_true, not_true_eq_false, ite_true, ite_false, if_true, if_false, ite_not, zin, zpush_s, zpush_n, kl_int, kl_ref, kl_none, kl_kl, kl_long, kl_null, zT_wI, zT_wJ, zT_wR, zT_wIr, zT_wJr, zT_wRr, zI_wJ, zI_wR, zI_wJr, zI_wRr, zJ_wI, zJ_wR, zJ_wIr, zJ_wRr, zR_wI, zR_wJ, zR_wIr, zR_wJr, zN_wI, zN_wJ, zN_wR, zN_wIr, zN_wJr, zN_wRr, zZ_wI, zZ_wJ, zZ_wR, zZ_wIr, zZ_wJr, zZ_wRr, zI_wI, zJ_wJ, zR_wR, zI_wIr, zJ_wJr, zR_wRr, g854_40, g854_41, g854_44, g854_46, g854_47, g854_50, g854_51, g854_52, g854_53, g854_55, g854_57, g854_58, g854_61, g854_62, g854_63, g854_66, m88, m89, m90, m91, m92, m93, m94, m95, m96, m97, m98, m99, m100, m101, m102, m103, m104, m105, m106, n0, n1, n2, n5, n7, n8, n10, n17, n18, n19, n20, n21, n22, n23, n25, n26, n27, n28, e2, w1, i_le, z3, ea, ei, g1, show Int32.toNatClampNeg 60 = 60 by decide, show ¬ (60 : Int32) < 0 by decide]
theorem m_mean (m : mQ h n D w py ex fo) (hb : sTB w n D) (h0 : 0 < n) (hK : K ≤ 60) (hD : D ≤ 9999) (hp : (if fo < 0 then py else fo) = p) (hx : x = 0 ∨ x = 1) : ∃ h1, FS SY h h1 ∧ mQ h1 n D w py ex fo ∧ ∀ Q, zCall (d + 27) 854 [.ref 88, .int (nI K), .int x] h Q = Q (some (.long (qMean x (sTu (sDays p ex n K w) n) n))) h1 := by
  have hn := m.2.2.1.2.1
  obtain ⟨h1, f1, m1, g1⟩ := m_mean_lp (d := d) (x := x) m hK (by omega) hp n 0 h 0 (by omega) m
  obtain ⟨u, u1, u2⟩ := sTu_n (sDays_tb (p := p) (ex := ex) m.2.2.1 hb K)
  have ub : u < 2 ^ 31 := Nat.lt_of_le_of_lt u1 (Nat.lt_of_le_of_lt (Nat.mul_le_mul hn (show D + K ≤ 10100 by omega)) (by decide))
  have eu : lp (fun t s => s + sDays p ex n K w (10 * t + 5)) n 0 0 = nI u := u2
  rw [eu] at g1
  refine ⟨h1, f1, m1, fun Q => ?_⟩
  unfold qMean
  rw [u2, nI_clamp ub]
  have g1' : ∀ Q, zG (d + 26) 854 38 [some (.ref 88), some (.int (nI K)), some (.int x), some (.int 0), some (.int 0)] [] h Q = _ := g1
  have cf : ∀ h Q, zCall (d + 26) 852 [.long (lN u), .long (lN n), .int x] h Q = Q (some (.long (qPart x u n))) h := fun h Q => m_fraction ub (by omega) h0 Q
  have z1 : ¬ nI K < 0 := nI_pos (by omega)
  have z2 : ¬ 60 < nI K := nI_nlt (a := 60) (by omega) (by omega)
  have z3 : ¬ nI n = 0 := nI_ne0 h0 (by omega)
  have w1 := m.2.2.1.1
  have e2 := m.2.1
  have w2 := m1.2.2.1.1
  have e3 := m1.2.1
  obtain ⟨a0, a1, a2, a3, a4, a5, a6, a7, a8, a9, a10, a11, a12, a13, a14, a15, a16, a17, a18, c0, -⟩ := m1.1.1
  obtain ⟨m88, m89, m90, m91, m92, m93, m94, m95, m96, m97, m98, m99, m100, m101, m102, m103, m104, m105, m106, n0, n1, n2, n5, n7, n8, n10, n17, n18, n19, n20, n21, n22, n23, n25, n26, n27, n28⟩ := m.1.1
  have el := nI_l ub
  have el2 := nI_l (n := n) (by omega)
  rcases hx with rfl | rfl <;> simp +decide only [Nat.reduceEqDiff, Nat.add_eq_left, Nat.left_eq_add, Nat.reduceAdd, Nat.reduceLeDiff, Nat.reduceMul, Nat.reduceSub, Nat.reduceLT, zlt8, zlt8_, zlt8n, zlt8n_, List.length_cons, List.length_nil, true_or, or_true, false_or, or_false, and_self, and_true, true_and, and_false, false_and, not_false_eq_true, not_true_eq_false, ite_true, ite_false, if_true, if_false, ite_not, zin, zpush_s, zpush_n, kl_int, kl_ref, kl_none, kl_kl, kl_long, kl_null, zT_wI, zT_wJ, zT_wR, zT_wIr, zT_wJr, zT_wRr, zI_wJ, zI_wR, zI_wJr, zI_wRr, zJ_wI, zJ_wR, zJ_wIr, zJ_wRr, zR_wI, zR_wJ, zR_wIr, zR_wJr, zN_wI, zN_wJ, zN_wR, zN_wIr, zN_wJr, zN_wRr, zZ_wI, zZ_wJ, zZ_wR, zZ_wIr, zZ_wJr, zZ_wRr, zI_wI, zJ_wJ, zR_wR, zI_wIr, zJ_wJr, zR_wRr, k854, g854_0, g854_1, g854_2, g854_4, g854_7, g854_10, g854_11, g854_12, g854_13, g854_16, g854_19, g854_20, g854_23, g854_25, g854_26, g854_29, g854_32, g854_33, g854_34, g854_35, g854_36, g854_40, g854_41, g854_44, g854_46, g854_47, g854_50, g854_51, g854_52, g854_53, g854_55, g854_57, g854_58, g854_61, g854_62, g854_63, g854_66, g854_69, g854_70, g854_71, g854_72, g854_75, g854_77, g854_78, g854_79, g854_80, g854_83, m88, m89, m90, m91, m92, m93, m94, m95, m96, m97, m98, m99, m100, m101, m102, m103, m104, m105, m106, n0, n1, n2, n5, n7, n8, n10, n17, n18, n19, n20, n21, n22, n23, n25, n26, n27, n28, a0, a1, c0, e2, w1, e3, w2, bI_t, c_isIn, z1, z2, z3, g1', el, el2, cf, show Int32.toNatClampNeg 60 = 60 by decide, show ¬ (60 : Int32) < 0 by decide]
/-! plans -/
theorem M_chgN (m : mQ h n D w py ex fo) (ht : t < 6) (j : Nat) (hj : j < 10) (hw : sOK (va_up w (10 * t + j) x) n D) : FS SN h (wI h 89 (10 * t + j) x) ∧ mQ (wI h 89 (10 * t + j) x) n D (va_up w (10 * t + j) x) py ex fo := ⟨FS_I _ (by unfold SN; omega), (M_chg m ht j hj hw).2⟩
theorem sFo_out (hn : n ≤ 6) {k : Nat} (hk : k ≤ 3) (hx : ¬ k = 0 → ∃ t, t < n ∧ x = nI t) {j : Nat} (hj : 63 ≤ j) : sFo p ex n (nI k) x v j = v j := by
  unfold sFo
  rcases (by omega : k = 0 ∨ k = 1 ∨ k = 2 ∨ k = 3) with rfl | rfl | rfl | rfl
  · exact sDay_out _ hn hj
  all_goals
    obtain ⟨t, ht, rfl⟩ := hx (by omega)
    rw [nI_clamp (by omega)]
  · rw [if_neg (show ¬ nI 1 = 0 by decide), if_pos (show nI 1 = 1 by decide), up_n _ _ (by omega), up_n _ _ (by omega)]
  · rw [if_neg (show ¬ nI 2 = 0 by decide), if_neg (show ¬ nI 2 = 1 by decide), if_pos (show nI 2 = 2 by decide), up_n _ _ (by omega)]
  · rw [if_neg (show ¬ nI 3 = 0 by decide), if_neg (show ¬ nI 3 = 1 by decide), if_neg (show ¬ nI 3 = 2 by decide)]
    split
    · rw [up_n _ _ (by omega)]
    · rfl
theorem way {j : Nat} (hj : j ≤ 10) : (¬ nI j < 1 ∧ ¬ 9 < nI j) ↔ (¬ nI j = 0 ∧ ¬ nI j = 10) := by
  have h1 : nI j < 1 ↔ j < 1 := nI_ltI (b := 1) (by omega) (by omega)
  have h2 : 9 < nI j ↔ 9 < j := nI_ltI (a := 9) (by omega) (by omega)
  have h3 : nI j = 0 ↔ j = 0 := nI_eq (b := 0) (by omega) (by omega)
  have h4 : nI j = 10 ↔ j = 10 := nI_eq (b := 10) (by omega) (by omega)
  rw [h1, h2, h3, h4]
  omega
theorem m_happens (m : mQ h n D v py ex fo) (hb : sTB v n D2) (hD : D ≤ 30000) (hp : (if fo < 0 then py else fo) = p) {k : Nat} (hk : k ≤ 3) (hx : ¬ k = 0 → ∃ t, t < n ∧ x = nI t) : ∃ h1, FS SN h h1 ∧ mQ h1 n (if k = 0 then D + 1 else D) (sFo p ex n (nI k) x v) py ex fo ∧ ∀ Q, zCall (d + 25) 856 [.ref 88, .int (nI k), .int x] h Q = Q none h1 := by
  have hn := m.2.2.1.2.1
  have o := (sFo_ok (p := p) (ex := ex) (x := x) m.2.2.1 hb hk hx).1
  have m88 := m.1.1.1
  unfold sFo at *
  rcases (by omega : k = 0 ∨ k = 1 ∨ k = 2 ∨ k = 3) with rfl | rfl | rfl | rfl
  · obtain ⟨h1, f1, m1, g1⟩ := m_day (d := d) m hD hp
    refine ⟨h1, f1, m1, fun Q => ?_⟩
    simp +decide only [Nat.reduceEqDiff, Nat.add_eq_left, Nat.left_eq_add, Nat.reduceAdd, Nat.reduceLeDiff, Nat.reduceMul, Nat.reduceSub, Nat.reduceLT, zlt8, zlt8_, zlt8n, zlt8n_, List.length_cons, List.length_nil, true_or, or_true, false_or, or_false, and_self, and_true, true_and, and_false, false_and, not_false_eq_true, not_true_eq_false, ite_true, ite_false, if_true, if_false, ite_not, zin, zpush_s, zpush_n, kl_int, kl_ref, kl_none, kl_kl, kl_long, kl_null, zT_wI, zT_wJ, zT_wR, zT_wIr, zT_wJr, zT_wRr, zI_wJ, zI_wR, zI_wJr, zI_wRr, zJ_wI, zJ_wR, zJ_wIr, zJ_wRr, zR_wI, zR_wJ, zR_wIr, zR_wJr, zN_wI, zN_wJ, zN_wR, zN_wIr, zN_wJr, zN_wRr, zZ_wI, zZ_wJ, zZ_wR, zZ_wIr, zZ_wJr, zZ_wRr, zI_wI, zJ_wJ, zR_wR, zI_wIr, zJ_wJr, zR_wRr, k856, g856_0, g856_1, g856_4, g856_5, g856_8, g856_11, g856_12, g856_13, g856_16, g856_17, g856_18, g856_19, g856_20, g856_23, g856_24, g856_25, g856_26, g856_27, g856_28, g856_31, g856_32, g856_35, g856_36, g856_37, g856_40, g856_41, g856_42, g856_43, g856_45, g856_46, g856_47, g856_48, g856_51, g856_53, g856_54, g856_57, g856_60, g856_61, g856_64, g856_65, g856_66, g856_69, g856_72, g856_73, g856_74, g856_75, g856_76, g856_79, g856_80, m88, g1, show nI 0 = 0 by decide]
  all_goals
    obtain ⟨t, ht, rfl⟩ := hx (by omega)
    rw [nI_clamp (by omega)] at o ⊢
    have ht6 : t < 6 := by omega
  · rw [if_neg (show ¬ nI 1 = 0 by decide), if_pos (show nI 1 = 1 by decide), if_neg (show ¬ 1 = 0 by decide)] at o ⊢
    obtain ⟨f1, m1⟩ := M_chgN (x := 0) m ht6 3 (by omega) (sOK_c m.2.2.1 3 (by omega) ht6)
    obtain ⟨f2, m2⟩ := M_chgN (x := 0) m1 ht6 4 (by omega) o
    have o3 : ∀ x Q, zCall (d + 24) 809 [.ref 88, .int (nI t), .int 3, .int x] h Q = Q (some (.int (v (10 * t + 3)))) (wI h 89 (10 * t + 3) x) := fun x Q => m_chg m ht6 3 (by omega) Q
    have o4 : ∀ x Q, zCall (d + 24) 809 [.ref 88, .int (nI t), .int 4, .int x] (wI h 89 (10 * t + 3) 0) Q = Q _ (wI (wI h 89 (10 * t + 3) 0) 89 (10 * t + 4) x) := fun x Q => m_chg m1 ht6 4 (by omega) Q
    refine ⟨_, FS_t f1 f2, m2, fun Q => ?_⟩
    simp +decide only [Nat.reduceEqDiff, Nat.add_eq_left, Nat.left_eq_add, Nat.reduceAdd, Nat.reduceLeDiff, Nat.reduceMul, Nat.reduceSub, Nat.reduceLT, zlt8, zlt8_, zlt8n, zlt8n_, List.length_cons, List.length_nil, true_or, or_true, false_or, or_false, and_self, and_true, true_and, and_false, false_and, not_false_eq_true, not_true_eq_false, ite_true, ite_false, if_true, if_false, ite_not, zin, zpush_s, zpush_n, kl_int, kl_ref, kl_none, kl_kl, kl_long, kl_null, zT_wI, zT_wJ, zT_wR, zT_wIr, zT_wJr, zT_wRr, zI_wJ, zI_wR, zI_wJr, zI_wRr, zJ_wI, zJ_wR, zJ_wIr, zJ_wRr, zR_wI, zR_wJ, zR_wIr, zR_wJr, zN_wI, zN_wJ, zN_wR, zN_wIr, zN_wJr, zN_wRr, zZ_wI, zZ_wJ, zZ_wR, zZ_wIr, zZ_wJr, zZ_wRr, zI_wI, zJ_wJ, zR_wR, zI_wIr, zJ_wJr, zR_wRr, k856, g856_0, g856_1, g856_4, g856_5, g856_8, g856_11, g856_12, g856_13, g856_16, g856_17, g856_18, g856_19, g856_20, g856_23, g856_24, g856_25, g856_26, g856_27, g856_28, g856_31, g856_32, g856_35, g856_36, g856_37, g856_40, g856_41, g856_42, g856_43, g856_45, g856_46, g856_47, g856_48, g856_51, g856_53, g856_54, g856_57, g856_60, g856_61, g856_64, g856_65, g856_66, g856_69, g856_72, g856_73, g856_74, g856_75, g856_76, g856_79, g856_80, m88, o3, o4, show nI 1 = 1 by decide]
  · rw [if_neg (show ¬ nI 2 = 0 by decide), if_neg (show ¬ nI 2 = 1 by decide), if_pos (show nI 2 = 2 by decide), if_neg (show ¬ 2 = 0 by decide)] at o ⊢
    obtain ⟨f1, m1⟩ := M_chgN m ht6 2 (by omega) o
    have o2 : ∀ Q, zCall (d + 24) 808 [.ref 88, .int (nI t), .int 2] h Q = Q (some (.int (v (10 * t + 2)))) h := fun Q => m_one m ht6 2 (by omega) Q
    have o3 : ∀ x Q, zCall (d + 24) 809 [.ref 88, .int (nI t), .int 2, .int x] h Q = Q (some (.int (v (10 * t + 2)))) (wI h 89 (10 * t + 2) x) := fun x Q => m_chg m ht6 2 (by omega) Q
    refine ⟨_, f1, m1, fun Q => ?_⟩
    simp +decide only [Nat.reduceEqDiff, Nat.add_eq_left, Nat.left_eq_add, Nat.reduceAdd, Nat.reduceLeDiff, Nat.reduceMul, Nat.reduceSub, Nat.reduceLT, zlt8, zlt8_, zlt8n, zlt8n_, List.length_cons, List.length_nil, true_or, or_true, false_or, or_false, and_self, and_true, true_and, and_false, false_and, not_false_eq_true, not_true_eq_false, ite_true, ite_false, if_true, if_false, ite_not, zin, zpush_s, zpush_n, kl_int, kl_ref, kl_none, kl_kl, kl_long, kl_null, zT_wI, zT_wJ, zT_wR, zT_wIr, zT_wJr, zT_wRr, zI_wJ, zI_wR, zI_wJr, zI_wRr, zJ_wI, zJ_wR, zJ_wIr, zJ_wRr, zR_wI, zR_wJ, zR_wIr, zR_wJr, zN_wI, zN_wJ, zN_wR, zN_wIr, zN_wJr, zN_wRr, zZ_wI, zZ_wJ, zZ_wR, zZ_wIr, zZ_wJr, zZ_wRr, zI_wI, zJ_wJ, zR_wR, zI_wIr, zJ_wJr, zR_wRr, k856, g856_0, g856_1, g856_4, g856_5, g856_8, g856_11, g856_12, g856_13, g856_16, g856_17, g856_18, g856_19, g856_20, g856_23, g856_24, g856_25, g856_26, g856_27, g856_28, g856_31, g856_32, g856_35, g856_36, g856_37, g856_40, g856_41, g856_42, g856_43, g856_45, g856_46, g856_47, g856_48, g856_51, g856_53, g856_54, g856_57, g856_60, g856_61, g856_64, g856_65, g856_66, g856_69, g856_72, g856_73, g856_74, g856_75, g856_76, g856_79, g856_80, m88, o2, o3, show nI 2 = 2 by decide, zmin_c 99]
  · rw [if_neg (show ¬ nI 3 = 0 by decide), if_neg (show ¬ nI 3 = 1 by decide), if_neg (show ¬ nI 3 = 2 by decide), if_neg (show ¬ 3 = 0 by decide)] at o ⊢
    obtain ⟨-, j, j1, j2, j3⟩ := hb t ht
    have e3 := bI_c (way j1)
    have cw : ∀ Q, zCall (d + 24) 813 [.ref 88, .int (nI t)] h Q = Q (some (.int (bI (¬ v (10 * t + 3) = 0 ∧ ¬ v (10 * t + 3) = 10)))) h := fun Q => by
      have := c_isOnTheWay (d := d + 22) m.1.1 ht6 Q
      rw [m.2.1, j2, e3] at this
      rw [j2]; exact this
    by_cases cc : ¬ v (10 * t + 3) = 0 ∧ ¬ v (10 * t + 3) = 10
    · rw [if_pos cc] at o ⊢
      obtain ⟨f1, m1⟩ := M_chgN m ht6 4 (by omega) o
      have o3 : ∀ x Q, zCall (d + 24) 809 [.ref 88, .int (nI t), .int 4, .int x] h Q = Q (some (.int (v (10 * t + 4)))) (wI h 89 (10 * t + 4) x) := fun x Q => m_chg m ht6 4 (by omega) Q
      refine ⟨_, f1, m1, fun Q => ?_⟩
      rw [bI_t cc] at cw
      simp +decide only [Nat.reduceEqDiff, Nat.add_eq_left, Nat.left_eq_add, Nat.reduceAdd, Nat.reduceLeDiff, Nat.reduceMul, Nat.reduceSub, Nat.reduceLT, zlt8, zlt8_, zlt8n, zlt8n_, List.length_cons, List.length_nil, true_or, or_true, false_or, or_false, and_self, and_true, true_and, and_false, false_and, not_false_eq_true, not_true_eq_false, ite_true, ite_false, if_true, if_false, ite_not, zin, zpush_s, zpush_n, kl_int, kl_ref, kl_none, kl_kl, kl_long, kl_null, zT_wI, zT_wJ, zT_wR, zT_wIr, zT_wJr, zT_wRr, zI_wJ, zI_wR, zI_wJr, zI_wRr, zJ_wI, zJ_wR, zJ_wIr, zJ_wRr, zR_wI, zR_wJ, zR_wIr, zR_wJr, zN_wI, zN_wJ, zN_wR, zN_wIr, zN_wJr, zN_wRr, zZ_wI, zZ_wJ, zZ_wR, zZ_wIr, zZ_wJr, zZ_wRr, zI_wI, zJ_wJ, zR_wR, zI_wIr, zJ_wJr, zR_wRr, k856, g856_0, g856_1, g856_4, g856_5, g856_8, g856_11, g856_12, g856_13, g856_16, g856_17, g856_18, g856_19, g856_20, g856_23, g856_24, g856_25, g856_26, g856_27, g856_28, g856_31, g856_32, g856_35, g856_36, g856_37, g856_40, g856_41, g856_42, g856_43, g856_45, g856_46, g856_47, g856_48, g856_51, g856_53, g856_54, g856_57, g856_60, g856_61, g856_64, g856_65, g856_66, g856_69, g856_72, g856_73, g856_74, g856_75, g856_76, g856_79, g856_80, m88, cw, o3, show nI 3 = 3 by decide]
    · rw [if_neg cc] at o ⊢
      refine ⟨h, FS_r _ _, m, fun Q => ?_⟩
      rw [bI_f cc] at cw
      simp +decide only [Nat.reduceEqDiff, Nat.add_eq_left, Nat.left_eq_add, Nat.reduceAdd, Nat.reduceLeDiff, Nat.reduceMul, Nat.reduceSub, Nat.reduceLT, zlt8, zlt8_, zlt8n, zlt8n_, List.length_cons, List.length_nil, true_or, or_true, false_or, or_false, and_self, and_true, true_and, and_false, false_and, not_false_eq_true, not_true_eq_false, ite_true, ite_false, if_true, if_false, ite_not, zin, zpush_s, zpush_n, kl_int, kl_ref, kl_none, kl_kl, kl_long, kl_null, zT_wI, zT_wJ, zT_wR, zT_wIr, zT_wJr, zT_wRr, zI_wJ, zI_wR, zI_wJr, zI_wRr, zJ_wI, zJ_wR, zJ_wIr, zJ_wRr, zR_wI, zR_wJ, zR_wIr, zR_wJr, zN_wI, zN_wJ, zN_wR, zN_wIr, zN_wJr, zN_wRr, zZ_wI, zZ_wJ, zZ_wR, zZ_wIr, zZ_wJr, zZ_wRr, zI_wI, zJ_wJ, zR_wR, zI_wIr, zJ_wJr, zR_wRr, k856, g856_0, g856_1, g856_4, g856_5, g856_8, g856_11, g856_12, g856_13, g856_16, g856_17, g856_18, g856_19, g856_20, g856_23, g856_24, g856_25, g856_26, g856_27, g856_28, g856_31, g856_32, g856_35, g856_36, g856_37, g856_40, g856_41, g856_42, g856_43, g856_45, g856_46, g856_47, g856_48, g856_51, g856_53, g856_54, g856_57, g856_60, g856_61, g856_64, g856_65, g856_66, g856_69, g856_72, g856_73, g856_74, g856_75, g856_76, g856_79, g856_80, m88, cw, show nI 3 = 3 by decide]
theorem m_ends_lp (hp : (if fo < 0 then py else fo) = p) (hP : PN w0 n c1 c2 c3) : ∀ (m i : Nat) (h : zH) (v : zW0) (D2 D3 : Nat), i + m = c2 → D2 + m ≤ 30000 → mQ h n D2 v py ex fo → (∀ j, 63 ≤ j → v j = w0 j) → sTB v n D3 → ∃ h1 D4, FS SN h h1 ∧ mQ h1 n D4 (sEn p ex n w0 m i v) py ex fo ∧ (∀ j, 63 ≤ j → sEn p ex n w0 m i v j = w0 j) ∧ ∀ Q, zG (d + 25) 857 24 [some (.ref 88), some (.int x), some (.int (nI i))] [] h Q = zG (d + 25) 857 67 [some (.ref 88), some (.int x), some (.int (nI c2))] [] h1 Q
  | 0, i, h, v, D2, D3, e, e2, m, hv, hb => by
    have e : c2 = i := by omega
    subst e
    refine ⟨h, D2, FS_r _ _, m, hv, fun Q => ?_⟩
    have ew := m.2.1
    have e80 : v 80 = nI c2 := by rw [hv 80 (by omega)]; exact hP.2.2.2.2.1
    obtain ⟨m88, m89, m90, m91, m92, m93, m94, m95, m96, m97, m98, m99, m100, m101, m102, m103, m104, m105, m106, n0, n1, n2, n5, n7, n8, n10, n17, n18, n19, n20, n21, n22, n23, n25, n26, n27, n28⟩ := m.1.1
    rw [g857_24]
    simp +decide only [Nat.reduceEqDiff, Nat.add_eq_left, Nat.left_eq_add, Nat.reduceAdd, Nat.reduceLeDiff, Nat.reduceMul, Nat.reduceSub, Nat.reduceLT, zlt8, zlt8_, zlt8n, zlt8n_, List.length_cons, List.length_nil, true_or, or_true, false_or, or_false, and_self, and_true, true_and, and_false, false_and, not_false_eq_true, not_true_eq_false, ite_true, ite_false, if_true, if_false, ite_not, zin, zpush_s, zpush_n, kl_int, kl_ref, kl_none, kl_kl, kl_long, kl_null, zT_wI, zT_wJ, zT_wR, zT_wIr, zT_wJr, zT_wRr, zI_wJ, zI_wR, zI_wJr, zI_wRr, zJ_wI, zJ_wR, zJ_wIr, zJ_wRr, zR_wI, zR_wJ, zR_wIr, zR_wJr, zN_wI, zN_wJ, zN_wR, zN_wIr, zN_wJr, zN_wRr, zZ_wI, zZ_wJ, zZ_wR, zZ_wIr, zZ_wJr, zZ_wRr, zI_wI, zJ_wJ, zR_wR, zI_wIr, zJ_wJr, zR_wRr, g857_25, g857_26, g857_29, g857_31, g857_32, m88, m89, m90, m91, m92, m93, m94, m95, m96, m97, m98, m99, m100, m101, m102, m103, m104, m105, m106, n0, n1, n2, n5, n7, n8, n10, n17, n18, n19, n20, n21, n22, n23, n25, n26, n27, n28, ew, e80, i_le, Int32.lt_irrefl, show Int32.toNatClampNeg 80 = 80 by decide, show ¬ (80 : Int32) < 0 by decide]
  | m + 1, i, h, v, D2, D3, e, e2, mm, hv, hb => by
    have hi : i < c2 := by omega
    obtain ⟨k, k1, k2, k3⟩ := hP.2.2.2.2.2.2.2.1 i hi
    have cb := hP.2.1
    have hn := mm.2.2.1.2.1
    obtain ⟨o1, o2⟩ := sFo_ok (p := p) (ex := ex) mm.2.2.1 hb k1 k3
    obtain ⟨h1, f1, m1, g1⟩ := m_happens (d := d) mm hb (by omega) hp k1 k3
    have oo : ∀ j, 63 ≤ j → sFo p ex n (nI k) (w0 (82 + 2 * i)) v j = w0 j := fun j hj => by rw [sFo_out hn k1 k3 hj]; exact hv j hj
    rw [← k2] at m1 g1 o2 oo
    obtain ⟨h2, D4, f2, m2, q2, g2⟩ := m_ends_lp hp hP m (i + 1) h1 _ _ _ (by omega) (by split <;> omega) m1 oo o2
    refine ⟨h2, D4, FS_t f1 f2, m2, q2, fun Q => ?_⟩
    have ew := mm.2.1
    have e80 : v 80 = nI c2 := by rw [hv 80 (by omega)]; exact hP.2.2.2.2.1
    have z3 := nI_lt (a := i) (b := c2) (by omega) (by omega)
    have a1 : (81 : Int32) + 2 * nI i = nI (81 + 2 * i) := by rw [show (2 : Int32) = nI 2 from rfl, pk_mul, show (81 : Int32) = nI 81 from rfl, nI_add]
    have a2 : (82 : Int32) + 2 * nI i = nI (82 + 2 * i) := by rw [show (2 : Int32) = nI 2 from rfl, pk_mul, show (82 : Int32) = nI 82 from rfl, nI_add]
    have b1 := nI_pos (n := 81 + 2 * i) (by omega)
    have b2 := nI_pos (n := 82 + 2 * i) (by omega)
    have d1 := nI_clamp (n := 81 + 2 * i) (by omega)
    have d2 := nI_clamp (n := 82 + 2 * i) (by omega)
    have y1 : v (81 + 2 * i) = w0 (81 + 2 * i) := hv _ (by omega)
    have y2 : v (82 + 2 * i) = w0 (82 + 2 * i) := hv _ (by omega)
    have ki : nI i + 1 = nI (i + 1) := nI_1 i
    obtain ⟨m88, m89, m90, m91, m92, m93, m94, m95, m96, m97, m98, m99, m100, m101, m102, m103, m104, m105, m106, n0, n1, n2, n5, n7, n8, n10, n17, n18, n19, n20, n21, n22, n23, n25, n26, n27, n28⟩ := mm.1.1
    rw [← g2 Q, g857_24]
    simp +decide only [Nat.reduceEqDiff, Nat.add_eq_left, Nat.left_eq_add, Nat.reduceAdd, Nat.reduceLeDiff, Nat.reduceMul, Nat.reduceSub, Nat.reduceLT, zlt8, zlt8_, zlt8n, zlt8n_, List.length_cons, List.length_nil, true_or, or_true, false_or, or_false, and_self, and_true, true_and, and_false, false_and, not_false_eq_true, not_true_eq_false, ite_true, ite_false, if_true, if_false, ite_not, zin, zpush_s, zpush_n, kl_int, kl_ref, kl_none, kl_kl, kl_long, kl_null, zT_wI, zT_wJ, zT_wR, zT_wIr, zT_wJr, zT_wRr, zI_wJ, zI_wR, zI_wJr, zI_wRr, zJ_wI, zJ_wR, zJ_wIr, zJ_wRr, zR_wI, zR_wJ, zR_wIr, zR_wJr, zN_wI, zN_wJ, zN_wR, zN_wIr, zN_wJr, zN_wRr, zZ_wI, zZ_wJ, zZ_wR, zZ_wIr, zZ_wJr, zZ_wRr, zI_wI, zJ_wJ, zR_wR, zI_wIr, zJ_wJr, zR_wRr, g857_25, g857_26, g857_29, g857_31, g857_32, g857_35, g857_36, g857_37, g857_40, g857_42, g857_43, g857_44, g857_45, g857_46, g857_47, g857_48, g857_51, g857_53, g857_54, g857_55, g857_56, g857_57, g857_58, g857_61, g857_64, m88, m89, m90, m91, m92, m93, m94, m95, m96, m97, m98, m99, m100, m101, m102, m103, m104, m105, m106, n0, n1, n2, n5, n7, n8, n10, n17, n18, n19, n20, n21, n22, n23, n25, n26, n27, n28, ew, e80, i_le, z3, a1, a2, b1, b2, d1, d2, y1, y2, ki, g1, show 81 + 2 * i < 118 by omega, show 82 + 2 * i < 118 by omega, show Int32.toNatClampNeg 80 = 80 by decide, show ¬ (80 : Int32) < 0 by decide]
theorem m_ends (m : mQ h n D w py ex fo) (hP : PN w n c1 c2 c3) (hb : sTB w n D) (hD : D ≤ 20000) (hp : (if fo < 0 then py else fo) = p) (hx : x = 0 ∨ x = 1) : ∃ h1, FS SY h h1 ∧ mQ h1 n D w py ex fo ∧ ∀ Q, zCall (d + 26) 857 [.ref 88, .int x] h Q = Q (some (.int (aEnd (sEn p ex n w c2 0 w) n x))) h1 := by
  have m1 := M_save m
  have cb := hP.2.1
  obtain ⟨h2, D4, f2, m2, q2, g2⟩ := m_ends_lp (d := d) (x := x) hp hP c2 0 (wS h) w D D (by omega) (by omega) m1 (fun _ _ => rfl) hb
  obtain ⟨F, m3⟩ := M_back m f2 (fun k hk => by rw [m2.2.1]; exact q2 k (by omega))
  refine ⟨wB h2, F, m3, ?_⟩
  clear q2
  generalize sEn p ex n w c2 0 w = v at *
  intro Q
  have gs := fun Q => m_save (d := d + 24) m Q
  have gb := fun Q => m_back (d := d + 24) m2 Q
  have cs : ∀ x Q, zCall (d + 25) 835 [.ref 88, .int x] h2 Q = Q (some (.int (sAt v n x))) h2 := fun x Q => m_standing m2 Q
  have e2 := m2.2.1
  have a0 := m1.1.1.1
  obtain ⟨b0, b1, b2, b3, b4, b5, b6, b7, b8, b9, b10, b11, b12, b13, b14, b15, b16, b17, b18, c0, c1, -⟩ := m2.1.1
  obtain ⟨m88, m89, m90, m91, m92, m93, m94, m95, m96, m97, m98, m99, m100, m101, m102, m103, m104, m105, m106, n0, n1, n2, n5, n7, n8, n10, n17, n18, n19, n20, n21, n22, n23, n25, n26, n27, n28⟩ := m.1.1
  have g2' : ∀ Q, zG (d + 25) 857 24 [some (.ref 88), some (.int x), some (.int 0)] [] (wS h) Q = zG (d + 25) 857 67 [some (.ref 88), some (.int x), some (.int (nI c2))] [] h2 Q := g2
  unfold aEnd
  rcases hx with rfl | rfl <;> simp +decide only [Nat.reduceEqDiff, Nat.add_eq_left, Nat.left_eq_add, Nat.reduceAdd, Nat.reduceLeDiff, Nat.reduceMul, Nat.reduceSub, Nat.reduceLT, zlt8, zlt8_, zlt8n, zlt8n_, List.length_cons, List.length_nil, true_or, or_true, false_or, or_false, and_self, and_true, true_and, and_false, false_and, not_false_eq_true, not_true_eq_false, ite_true, ite_false, if_true, if_false, ite_not, zin, zpush_s, zpush_n, kl_int, kl_ref, kl_none, kl_kl, kl_long, kl_null, zT_wI, zT_wJ, zT_wR, zT_wIr, zT_wJr, zT_wRr, zI_wJ, zI_wR, zI_wJr, zI_wRr, zJ_wI, zJ_wR, zJ_wIr, zJ_wRr, zR_wI, zR_wJ, zR_wIr, zR_wJr, zN_wI, zN_wJ, zN_wR, zN_wIr, zN_wJr, zN_wRr, zZ_wI, zZ_wJ, zZ_wR, zZ_wIr, zZ_wJr, zZ_wRr, zI_wI, zJ_wJ, zR_wR, zI_wIr, zJ_wJr, zR_wRr, k857, g857_0, g857_1, g857_2, g857_3, g857_6, g857_9, g857_10, g857_11, g857_12, g857_15, g857_16, g857_19, g857_22, g857_23, g857_25, g857_26, g857_29, g857_31, g857_32, g857_35, g857_36, g857_37, g857_40, g857_42, g857_43, g857_44, g857_45, g857_46, g857_47, g857_48, g857_51, g857_53, g857_54, g857_55, g857_56, g857_57, g857_58, g857_61, g857_64, g857_67, g857_68, g857_71, g857_72, g857_75, g857_77, g857_78, g857_81, g857_82, g857_84, g857_87, g857_88, g857_89, g857_92, g857_93, g857_96, g857_99, g857_100, m88, m89, m90, m91, m92, m93, m94, m95, m96, m97, m98, m99, m100, m101, m102, m103, m104, m105, m106, n0, n1, n2, n5, n7, n8, n10, n17, n18, n19, n20, n21, n22, n23, n25, n26, n27, n28, c_isIn, bI_t, gs, g2', gb, cs, e2, a0, b0, b1, c0, c1, show Int32.toNatClampNeg 61 = 61 by decide, show ¬ (61 : Int32) < 0 by decide]
