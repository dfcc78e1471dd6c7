-- needs 57.mut2
variable {n D D2 q L c1 c2 c3 a b t s r d K k kd i j ln c m M : Nat} {h h1 h2 : zH} {w w1 : zW0} {sv : Value} {xs : zW0} {py fp fo x y z u v : Int32} {ex : zW0 → Int32}
def aS (h : zH) (c m : Nat) (x y z : Int32) : zH := wI (wI (wI (wI h (c + 1) m x) (c + 2) m y) (c + 3) m z) c 3 (nI (m + 1))
theorem aS_o {b k : Nat} (hb : ¬ (c ≤ b ∧ b ≤ c + 3)) : zI (aS h c m x y z) b k = zI h b k := by
  unfold aS
  rw [zI_wI, if_neg (by omega), zI_wI, if_neg (by omega), zI_wI, if_neg (by omega), zI_wI, if_neg (by omega)]
theorem aS_c : zI (aS h c m x y z) c 3 = nI (m + 1) := by unfold aS; rw [zI_wI, if_pos rfl, up_s]
theorem aS_1 (k : Nat) : zI (aS h c m x y z) (c + 1) k = if k = m then x else zI h (c + 1) k := by
  unfold aS
  rw [zI_wI, if_neg (by omega), zI_wI, if_neg (by omega), zI_wI, if_neg (by omega), zI_wI, if_pos rfl, up_a]
theorem aS_2 (k : Nat) : zI (aS h c m x y z) (c + 2) k = if k = m then y else zI h (c + 2) k := by
  unfold aS
  simp [zI_wI, up_a]
theorem aS_3 (k : Nat) : zI (aS h c m x y z) (c + 3) k = if k = m then z else zI h (c + 3) k := by
  unfold aS
  simp [zI_wI, up_a]
theorem aS_f (hc : c = 44 ∨ c = 48 ∨ c = 52) : FS SNt h (aS h c m x y z) := FS_t (FS_t (FS_t (FS_I _ (by unfold SNt; omega)) (FS_I _ (by unfold SNt; omega))) (FS_I _ (by unfold SNt; omega))) (FS_I _ (by unfold SNt; omega))
def w3 (w : zW0) (c m : Nat) (x y z : Int32) : zW0 := va_up (va_up (va_up (va_up w (c + 1 + 3 * m) x) (c + 2 + 3 * m) y) (c + 3 + 3 * m) z) c (nI (m + 1))
def w2 (w : zW0) (c m : Nat) (x y : Int32) : zW0 := va_up (va_up (va_up w (c + 1 + 2 * m) x) (c + 2 + 2 * m) y) c (nI (m + 1))
theorem w3_a (k : Nat) : w3 w c m x y z k = if k = c then nI (m + 1) else if k = c + 3 + 3 * m then z else if k = c + 2 + 3 * m then y else if k = c + 1 + 3 * m then x else w k := rfl
theorem w2_a (k : Nat) : w2 w c m x y k = if k = c then nI (m + 1) else if k = c + 2 + 2 * m then y else if k = c + 1 + 2 * m then x else w k := rfl
theorem w3_lo (k : Nat) (hk : k < c) : w3 w c m x y z k = w k := by
  rw [w3_a, if_neg (by omega), if_neg (by omega), if_neg (by omega), if_neg (by omega)]
theorem w2_lo (k : Nat) (hk : k < c) : w2 w c m x y k = w k := by
  rw [w2_a, if_neg (by omega), if_neg (by omega), if_neg (by omega)]
theorem NR_see (r : NR h 43 w c1 c2 c3) (hc : c1 < 5) : NR (aS h 44 c1 x y z) 43 (w3 w 64 c1 x y z) (c1 + 1) c2 c3 := by
  obtain ⟨r1, r2, r3, r4, r5, r6⟩ := r
  have hi : ∀ k, 80 ≤ k → w3 w 64 c1 x y z k = w k := fun k hk => by rw [w3_a, if_neg (by omega), if_neg (by omega), if_neg (by omega), if_neg (by omega)]
  refine ⟨aS_c, fun i hi2 => ?_, by rw [aS_o (by omega)]; exact r3, fun i h2 => by rw [aS_o (by omega), aS_o (by omega), hi _ (by omega), hi _ (by omega)]; exact r4 i h2, by rw [aS_o (by omega)]; exact r5, fun i h2 => by rw [aS_o (by omega), aS_o (by omega), hi _ (by omega), hi _ (by omega)]; exact r6 i h2⟩
  have e1 := aS_1 (h := h) (c := 44) (m := c1) (x := x) (y := y) (z := z) i
  have e2 := aS_2 (h := h) (c := 44) (m := c1) (x := x) (y := y) (z := z) i
  have e3 := aS_3 (h := h) (c := 44) (m := c1) (x := x) (y := y) (z := z) i
  by_cases e : i = c1
  · rw [if_pos e] at e1 e2 e3
    subst e
    exact ⟨e1.trans (by rw [w3_a, if_neg (by omega), if_neg (by omega), if_neg (by omega), if_pos (by omega)]), e2.trans (by rw [w3_a, if_neg (by omega), if_neg (by omega), if_pos (by omega)]), e3.trans (by rw [w3_a, if_neg (by omega), if_pos (by omega)])⟩
  · rw [if_neg e] at e1 e2 e3
    obtain ⟨a1, a2, a3⟩ := r2 i (by omega)
    refine ⟨e1.trans (a1.trans ?_), e2.trans (a2.trans ?_), e3.trans (a3.trans ?_)⟩ <;> rw [w3_a, if_neg (by omega), if_neg (by omega), if_neg (by omega), if_neg (by omega)]
theorem NR_plan (r : NR h 43 w c1 c2 c3) (hc : c2 < 10) (h1 : c1 ≤ 5) : NR (aS h 48 c2 x y z) 43 (w2 w 80 c2 x y) c1 (c2 + 1) c3 := by
  obtain ⟨r1, r2, r3, r4, r5, r6⟩ := r
  have hi : ∀ k, 101 ≤ k → w2 w 80 c2 x y k = w k := fun k hk => by rw [w2_a, if_neg (by omega), if_neg (by omega), if_neg (by omega)]
  refine ⟨by rw [aS_o (by omega)]; exact r1, fun i h2 => by rw [aS_o (by omega), aS_o (by omega), aS_o (by omega), w2_lo _ (by omega), w2_lo _ (by omega), w2_lo _ (by omega)]; exact r2 i h2, aS_c, fun i hi2 => ?_, by rw [aS_o (by omega)]; exact r5, fun i h2 => by rw [aS_o (by omega), aS_o (by omega), hi _ (by omega), hi _ (by omega)]; exact r6 i h2⟩
  have e1 := aS_1 (h := h) (c := 48) (m := c2) (x := x) (y := y) (z := z) i
  have e2 := aS_2 (h := h) (c := 48) (m := c2) (x := x) (y := y) (z := z) i
  by_cases e : i = c2
  · rw [if_pos e] at e1 e2
    subst e
    exact ⟨e1.trans (by rw [w2_a, if_neg (by omega), if_neg (by omega), if_pos (by omega)]), e2.trans (by rw [w2_a, if_neg (by omega), if_pos (by omega)])⟩
  · rw [if_neg e] at e1 e2
    obtain ⟨a1, a2⟩ := r4 i (by omega)
    refine ⟨e1.trans (a1.trans ?_), e2.trans (a2.trans ?_)⟩ <;> rw [w2_a, if_neg (by omega), if_neg (by omega), if_neg (by omega)]
theorem NR_book (r : NR h 43 w c1 c2 c3) (hc : c3 < 8) (h1 : c1 ≤ 5) (h2 : c2 ≤ 10) : NR (aS h 52 c3 x y z) 43 (w2 w 101 c3 x y) c1 c2 (c3 + 1) := by
  obtain ⟨r1, r2, r3, r4, r5, r6⟩ := r
  refine ⟨by rw [aS_o (by omega)]; exact r1, fun i h2 => by rw [aS_o (by omega), aS_o (by omega), aS_o (by omega), w2_lo _ (by omega), w2_lo _ (by omega), w2_lo _ (by omega)]; exact r2 i h2, by rw [aS_o (by omega)]; exact r3, fun i h2 => by rw [aS_o (by omega), aS_o (by omega), w2_lo _ (by omega), w2_lo _ (by omega)]; exact r4 i h2, aS_c, fun i hi2 => ?_⟩
  have e1 := aS_1 (h := h) (c := 52) (m := c3) (x := x) (y := y) (z := z) i
  have e2 := aS_2 (h := h) (c := 52) (m := c3) (x := x) (y := y) (z := z) i
  by_cases e : i = c3
  · rw [if_pos e] at e1 e2
    subst e
    exact ⟨e1.trans (by rw [w2_a, if_neg (by omega), if_neg (by omega), if_pos (by omega)]), e2.trans (by rw [w2_a, if_neg (by omega), if_pos (by omega)])⟩
  · rw [if_neg e] at e1 e2
    obtain ⟨a1, a2⟩ := r6 i (by omega)
    refine ⟨e1.trans (a1.trans ?_), e2.trans (a2.trans ?_)⟩ <;> rw [w2_a, if_neg (by omega), if_neg (by omega), if_neg (by omega)]
theorem PN_see (p : PN w n c1 c2 c3) (hc : c1 < 5) (ht : t < n) (hj : j ≤ 12) : PN (w3 w 64 c1 (nI t) (nI j) z) n (c1 + 1) c2 c3 := by
  obtain ⟨p1, p2, p3, p4, p5, p6, p7, p8, p9⟩ := p
  have hi : ∀ k, 80 ≤ k → w3 w 64 c1 (nI t) (nI j) z k = w k := fun k hk => by rw [w3_a, if_neg (by omega), if_neg (by omega), if_neg (by omega), if_neg (by omega)]
  refine ⟨by omega, p2, p3, by rw [w3_a, if_pos rfl], by rw [hi _ (by omega)]; exact p5, by rw [hi _ (by omega)]; exact p6, fun i hi2 => ?_, fun i h2 => by rw [hi _ (by omega), hi _ (by omega)]; exact p8 i h2, fun i h2 => by rw [hi _ (by omega)]; exact p9 i h2⟩
  by_cases e : i = c1
  · subst e
    exact ⟨⟨t, ht, by rw [w3_a, if_neg (by omega), if_neg (by omega), if_neg (by omega), if_pos (by omega)]⟩, j, hj, by rw [w3_a, if_neg (by omega), if_neg (by omega), if_pos (by omega)]⟩
  · have := p7 i (by omega)
    rw [w3_a, if_neg (by omega), if_neg (by omega), if_neg (by omega), if_neg (by omega), w3_a, if_neg (by omega), if_neg (by omega), if_neg (by omega), if_neg (by omega)]
    exact this
theorem PN_plan (p : PN w n c1 c2 c3) (hc : c2 < 10) (hk : k ≤ 3) (hx : k ≠ 0 → ∃ t, t < n ∧ y = nI t) : PN (w2 w 80 c2 (nI k) y) n c1 (c2 + 1) c3 := by
  obtain ⟨p1, p2, p3, p4, p5, p6, p7, p8, p9⟩ := p
  have hi : ∀ k', 101 ≤ k' → w2 w 80 c2 (nI k) y k' = w k' := fun k' hk => by rw [w2_a, if_neg (by omega), if_neg (by omega), if_neg (by omega)]
  refine ⟨p1, by omega, p3, by rw [w2_lo _ (by omega)]; exact p4, by rw [w2_a, if_pos rfl], by rw [hi _ (by omega)]; exact p6, fun i h2 => by rw [w2_lo _ (by omega), w2_lo _ (by omega)]; exact p7 i h2, fun i hi2 => ?_, fun i h2 => by rw [hi _ (by omega)]; exact p9 i h2⟩
  by_cases e : i = c2
  · subst e
    exact ⟨k, hk, by rw [w2_a, if_neg (by omega), if_neg (by omega), if_pos (by omega)], fun z => by obtain ⟨t, ht, et⟩ := hx z; exact ⟨t, ht, by rw [w2_a, if_neg (by omega), if_pos (by omega)]; exact et⟩⟩
  · have := p8 i (by omega)
    rw [w2_a, if_neg (by omega), if_neg (by omega), if_neg (by omega), w2_a, if_neg (by omega), if_neg (by omega), if_neg (by omega)]
    exact this
theorem PN_book (p : PN w n c1 c2 c3) (hc : c3 < 8) (ht : t < n) : PN (w2 w 101 c3 (nI t) y) n c1 c2 (c3 + 1) := by
  obtain ⟨p1, p2, p3, p4, p5, p6, p7, p8, p9⟩ := p
  refine ⟨p1, p2, by omega, by rw [w2_lo _ (by omega)]; exact p4, by rw [w2_lo _ (by omega)]; exact p5, by rw [w2_a, if_pos rfl], fun i h2 => by rw [w2_lo _ (by omega), w2_lo _ (by omega)]; exact p7 i h2, fun i h2 => by rw [w2_lo _ (by omega), w2_lo _ (by omega)]; exact p8 i h2, fun i hi2 => ?_⟩
  by_cases e : i = c3
  · subst e
    exact ⟨t, ht, by rw [w2_a, if_neg (by omega), if_neg (by omega), if_pos (by omega)]⟩
  · have := p9 i (by omega)
    rw [w2_a, if_neg (by omega), if_neg (by omega), if_neg (by omega)]
    exact this
/-- a note's count to nothing -/
theorem NR_e (r : NR h 43 w c1 c2 c3) (p : PN w n c1 c2 c3) (c kk : Nat) (hc : (c = 44 ∧ kk = 64) ∨ (c = 48 ∧ kk = 80) ∨ (c = 52 ∧ kk = 101)) : ∃ d1 d2 d3, NR (wI h c 3 0) 43 (va_up w kk 0) d1 d2 d3 ∧ PN (va_up w kk 0) n d1 d2 d3 := by
  obtain ⟨r1, r2, r3, r4, r5, r6⟩ := r
  obtain ⟨p1, p2, p3, p4, p5, p6, p7, p8, p9⟩ := p
  have eo : ∀ b k, ¬ (b = c ∧ k = 3) → zI (wI h c 3 0) b k = zI h b k := fun b k q => by
    rw [zI_wI]
    split
    · next e => subst e; rw [up_n _ _ (fun z => q ⟨rfl, z⟩)]
    · rfl
  have ec : zI (wI h c 3 0) c 3 = nI 0 := by rw [zI_wI, if_pos rfl, up_s]; rfl
  have wo : ∀ k, ¬ k = kk → va_up w kk 0 k = w k := fun k q => up_n _ _ q
  have wc : va_up w kk 0 kk = nI 0 := up_s _ _ _
  rcases hc with ⟨rfl, rfl⟩ | ⟨rfl, rfl⟩ | ⟨rfl, rfl⟩
  · refine ⟨0, c2, c3, ⟨ec, fun i hi => by omega, by rw [eo _ _ (by omega)]; exact r3, fun i hi => by rw [eo _ _ (by omega), eo _ _ (by omega), wo _ (by omega), wo _ (by omega)]; exact r4 i hi, by rw [eo _ _ (by omega)]; exact r5, fun i hi => by rw [eo _ _ (by omega), eo _ _ (by omega), wo _ (by omega), wo _ (by omega)]; exact r6 i hi⟩, by omega, p2, p3, wc, by rw [wo _ (by omega)]; exact p5, by rw [wo _ (by omega)]; exact p6, fun i hi => by omega, fun i hi => by rw [wo _ (by omega), wo _ (by omega)]; exact p8 i hi, fun i hi => by rw [wo _ (by omega)]; exact p9 i hi⟩
  · refine ⟨c1, 0, c3, ⟨by rw [eo _ _ (by omega)]; exact r1, fun i hi => by rw [eo _ _ (by omega), eo _ _ (by omega), eo _ _ (by omega), wo _ (by omega), wo _ (by omega), wo _ (by omega)]; exact r2 i hi, ec, fun i hi => by omega, by rw [eo _ _ (by omega)]; exact r5, fun i hi => by rw [eo _ _ (by omega), eo _ _ (by omega), wo _ (by omega), wo _ (by omega)]; exact r6 i hi⟩, p1, by omega, p3, by rw [wo _ (by omega)]; exact p4, wc, by rw [wo _ (by omega)]; exact p6, fun i hi => by rw [wo _ (by omega), wo _ (by omega)]; exact p7 i hi, fun i hi => by omega, fun i hi => by rw [wo _ (by omega)]; exact p9 i hi⟩
  · refine ⟨c1, c2, 0, ⟨by rw [eo _ _ (by omega)]; exact r1, fun i hi => by rw [eo _ _ (by omega), eo _ _ (by omega), eo _ _ (by omega), wo _ (by omega), wo _ (by omega), wo _ (by omega)]; exact r2 i hi, by rw [eo _ _ (by omega)]; exact r3, fun i hi => by rw [eo _ _ (by omega), eo _ _ (by omega), wo _ (by omega), wo _ (by omega)]; exact r4 i hi, ec, fun i hi => by omega⟩, p1, p2, by omega, by rw [wo _ (by omega)]; exact p4, by rw [wo _ (by omega)]; exact p5, wc, fun i hi => by rw [wo _ (by omega), wo _ (by omega)]; exact p7 i hi, fun i hi => by rw [wo _ (by omega), wo _ (by omega)]; exact p8 i hi, fun i hi => by omega⟩
theorem f89n (k : Nat) (x : Int32) : FS SNt h (wI h 89 k x) := FS_I _ (by unfold SNt; omega)
theorem NR_89 (r : NR h 43 w c1 c2 c3) (k : Nat) (x : Int32) : NR (wI h 89 k x) 43 w c1 c2 c3 := NR_f (S := fun b _ => b = 89) (FS_I _ rfl) (fun c k h1 h2 => by omega) (fun _ _ => rfl) r
/-- emptied, on both sides -/
theorem G_empty (go : GO h xs L q) (gm : GM h q n D w c1 c2 c3 sv) (c kk : Nat) (hc : (c = 44 ∧ kk = 64) ∨ (c = 48 ∧ kk = 80) ∨ (c = 52 ∧ kk = 101)) : GI (wI (wI h c 3 0) 89 kk 0) xs L := by
  obtain ⟨d1, d2, d3, r, p⟩ := NR_e gm.2.2.1 gm.2.2.2.1.2.2.2.2 c kk hc
  exact GM_nt go gm (FS_t (FS_I _ (by unfold SNt; omega)) (f89n _ _)) (e89 0 (e89r 0 (by omega) gm.1)) (NR_89 r _ _) (fun k hk => up_n _ _ (by omega)) p
theorem P_see (g : GI h xs L) (x y z : Int32) : Pr h xs L 720 847 [.int x, .int y, .int z] := by
  have g0 := g
  obtain ⟨q, n, D, w, c1, c2, c3, sv, go, gm⟩ := g
  obtain ⟨py, ex, se, tx⟩ := SV_of go gm.2.2.2.2.1
  have C := G_CQ go gm se
  have M := G_mQ go gm tx
  have hn := gm.2.2.2.1.1.2.1
  have m88 := M.1.1.1
  have p := gm.2.2.2.1.2.2.2.2
  obtain ⟨u1, u2, u3, u4, ws, -, -⟩ := go.1.2.2.2.2.1
  have ws0 := ws.1
  have ct : ∀ x Q, zCall 59 743 [.ref 0, .int x] h Q = Q (some (.int (bI (sIs n x)))) h := fun x Q => c_there C Q
  obtain ⟨k0, j0, j1, j2, j3, j4, j6, j8, j9⟩ := id go.1.1
  by_cases ex1 : x = -1
  · subst ex1
    have ce := fun Q => c_rempty (d := 58) (c := 43 + 1) ws Q
    refine ⟨.int 0, wI h 44 3 0, wI (wI h 44 3 0) 89 64 0, ⟨rfl, rfl, rfl⟩, fun Q => ?_, fun Q => ?_, G_empty go gm 44 64 (by omega)⟩
    · simp +decide only [Nat.reduceEqDiff, Nat.add_eq_left, Nat.left_eq_add, Nat.reduceAdd, Nat.reduceLeDiff, Nat.reduceMul, Nat.reduceSub, Nat.reduceLT, zlt8, zlt8_, zlt8n, zlt8n_, List.length_cons, List.length_nil, true_or, or_true, false_or, or_false, and_self, and_true, true_and, and_false, false_and, not_false_eq_true, not_true_eq_false, ite_true, ite_false, if_true, if_false, ite_not, zin, zpush_s, zpush_n, kl_int, kl_ref, kl_none, kl_kl, kl_long, kl_null, VR_i, VR_l, zT_wI, zT_wJ, zT_wR, zT_wIr, zT_wJr, zT_wRr, zI_wJ, zI_wR, zI_wJr, zI_wRr, zJ_wI, zJ_wR, zJ_wIr, zJ_wRr, zR_wI, zR_wJ, zR_wIr, zR_wJr, zN_wI, zN_wJ, zN_wR, zN_wIr, zN_wJr, zN_wRr, zZ_wI, zZ_wJ, zZ_wR, zZ_wIr, zZ_wJr, zZ_wRr, zI_wI, zJ_wJ, zR_wR, zI_wIr, zJ_wJr, zR_wRr, k720, g720_0, g720_1, g720_2, g720_5, g720_6, g720_9, g720_12, g720_15, g720_16, g720_17, g720_18, g720_21, g720_24, g720_25, g720_27, g720_30, g720_33, g720_34, g720_35, g720_36, g720_38, g720_41, g720_44, g720_46, g720_47, g720_48, g720_51, g720_54, g720_55, g720_56, g720_57, g720_60, k0, j0, j1, j2, j3, j4, j6, j8, j9, u1, u2, ws0, ce]
    · obtain ⟨m88, m89, m90, m91, m92, m93, m94, m95, m96, m97, m98, m99, m100, m101, m102, m103, m104, m105, m106, n0, n1, n2, n5, n7, n8, n10, n17, n18, n19, n20, n21, n22, n23, n25, n26, n27, n28⟩ := M.1.1
      simp +decide only [Nat.reduceEqDiff, Nat.add_eq_left, Nat.left_eq_add, Nat.reduceAdd, Nat.reduceLeDiff, Nat.reduceMul, Nat.reduceSub, Nat.reduceLT, zlt8, zlt8_, zlt8n, zlt8n_, List.length_cons, List.length_nil, true_or, or_true, false_or, or_false, and_self, and_true, true_and, and_false, false_and, not_false_eq_true, not_true_eq_false, ite_true, ite_false, if_true, if_false, ite_not, zin, zpush_s, zpush_n, kl_int, kl_ref, kl_none, kl_kl, kl_long, kl_null, VR_i, VR_l, zT_wI, zT_wJ, zT_wR, zT_wIr, zT_wJr, zT_wRr, zI_wJ, zI_wR, zI_wJr, zI_wRr, zJ_wI, zJ_wR, zJ_wIr, zJ_wRr, zR_wI, zR_wJ, zR_wIr, zR_wJr, zN_wI, zN_wJ, zN_wR, zN_wIr, zN_wJr, zN_wRr, zZ_wI, zZ_wJ, zZ_wR, zZ_wIr, zZ_wJr, zZ_wRr, zI_wI, zJ_wJ, zR_wR, zI_wIr, zJ_wJr, zR_wRr, k847, g847_0, g847_1, g847_2, g847_5, g847_6, g847_9, g847_11, g847_12, g847_13, g847_14, g847_15, g847_16, g847_17, g847_20, g847_23, g847_24, g847_25, g847_27, g847_30, g847_33, g847_34, g847_35, g847_36, g847_37, g847_39, g847_42, g847_45, g847_47, g847_48, g847_49, g847_52, g847_54, g847_55, g847_56, g847_59, g847_61, g847_62, g847_64, g847_65, g847_66, g847_69, g847_71, g847_72, g847_73, g847_74, g847_76, g847_77, g847_80, g847_82, g847_83, g847_84, g847_85, g847_88, g847_90, g847_91, g847_92, g847_93, g847_94, g847_95, g847_98, g847_100, g847_101, g847_102, g847_103, g847_104, g847_105, g847_108, g847_110, g847_111, g847_112, g847_113, g847_114, g847_115, g847_116, g847_119, g847_121, g847_122, m88, m89, m90, m91, m92, m93, m94, m95, m96, m97, m98, m99, m100, m101, m102, m103, m104, m105, m106, n0, n1, n2, n5, n7, n8, n10, n17, n18, n19, n20, n21, n22, n23, n25, n26, n27, n28, show Int32.toNatClampNeg 64 = 64 by decide, show ¬ (64 : Int32) < 0 by decide]
  have co0 : ∀ x Q, zCall 59 807 [.ref 88, .int x] h Q = Q (some (.int (bI (sIs n x)))) h := fun x Q => m_isOne M Q
  by_cases h1 : sIs n x
  · by_cases hz : ¬ z < 0 ∧ ¬ 10 < z
    · by_cases hy : ¬ y < 0 ∧ ¬ 12 < y
      · obtain ⟨t, ht, rfl⟩ := id h1
        obtain ⟨j, hj, rfl⟩ := in_of (M := 12) hy.1 hy.2 (by omega)
        have ca := fun Q => c_radd (d := 58) (c := 43 + 1) (x := nI t) (y := nI j) (z := z) ws gm.2.2.1.1 (by omega) p.1 Q
        have e64 := p.2.2.2.1
        by_cases hc : c1 < 5
        · have ew : zI (aS h 44 c1 (nI t) (nI j) z) 89 = w := by rw [← gm.1]; exact funext fun k => aS_o (by omega)
          have eT : zT (aS h 44 c1 (nI t) (nI j) z) = zT h := rfl
          have eR : zR (aS h 44 c1 (nI t) (nI j) z) = zR h := rfl
          have M1 : MS (aS h 44 c1 (nI t) (nI j) z) := M.1.1
          have co : ∀ x Q, zCall 59 807 [.ref 88, .int x] (aS h 44 c1 (nI t) (nI j) z) Q = Q (some (.int (bI (sIs n x)))) _ := fun x Q => c_isOne M1 (D := D) (n := n) (by rw [ew]; exact gm.2.2.2.1.1) Q
          have F : FS SNt h (wI (wI (wI (wI (aS h 44 c1 (nI t) (nI j) z) 89 (65 + 3 * c1) (nI t)) 89 (66 + 3 * c1) (nI j)) 89 (67 + 3 * c1) z) 89 64 (nI (c1 + 1))) := FS_t (aS_f (by omega)) (FS_t (f89n _ _) (FS_t (f89n _ _) (FS_t (f89n _ _) (f89n _ _))))
          have ca' : ∀ Q, zCall 59 303 [.ref 44, .int (nI t), .int (nI j), .int z] h Q = Q (some (.int (nI (c1 + 1)))) (aS h 44 c1 (nI t) (nI j) z) := fun Q => by
            rw [ca Q, if_pos hc]; rfl
          refine ⟨.int (nI (c1 + 1)), aS h 44 c1 (nI t) (nI j) z, _, ⟨rfl, rfl, rfl⟩, fun Q => ?_, fun Q => ?_, GM_nt (w1 := w3 w 64 c1 (nI t) (nI j) z) go gm F (e89 _ (e89 _ (e89 _ (e89 _ ew)))) (NR_89 (NR_89 (NR_89 (NR_89 (NR_see gm.2.2.1 hc) _ _) _ _) _ _) _ _) (fun k hk => w3_lo k hk) (PN_see p hc ht hj)⟩
          · simp +decide only [Nat.reduceEqDiff, Nat.add_eq_left, Nat.left_eq_add, Nat.reduceAdd, Nat.reduceLeDiff, Nat.reduceMul, Nat.reduceSub, Nat.reduceLT, zlt8, zlt8_, zlt8n, zlt8n_, List.length_cons, List.length_nil, true_or, or_true, false_or, or_false, and_self, and_true, true_and, and_false, false_and, not_false_eq_true, not_true_eq_false, ite_true, ite_false, if_true, if_false, ite_not, zin, zpush_s, zpush_n, kl_int, kl_ref, kl_none, kl_kl, kl_long, kl_null, VR_i, VR_l, zT_wI, zT_wJ, zT_wR, zT_wIr, zT_wJr, zT_wRr, zI_wJ, zI_wR, zI_wJr, zI_wRr, zJ_wI, zJ_wR, zJ_wIr, zJ_wRr, zR_wI, zR_wJ, zR_wIr, zR_wJr, zN_wI, zN_wJ, zN_wR, zN_wIr, zN_wJr, zN_wRr, zZ_wI, zZ_wJ, zZ_wR, zZ_wIr, zZ_wJr, zZ_wRr, zI_wI, zJ_wJ, zR_wR, zI_wIr, zJ_wJr, zR_wRr, k720, g720_0, g720_1, g720_2, g720_5, g720_6, g720_9, g720_12, g720_15, g720_16, g720_17, g720_18, g720_21, g720_24, g720_25, g720_27, g720_30, g720_33, g720_34, g720_35, g720_36, g720_38, g720_41, g720_44, g720_46, g720_47, g720_48, g720_51, g720_54, g720_55, g720_56, g720_57, g720_60, k0, j0, j1, j2, j3, j4, j6, j8, j9, ex1, u1, u2, ws0, ct, bI_t h1, c_within, i_le, bI_t, hz.1, hz.2, hy.1, hy.2, ca']
          · have k0 : (65 : Int32) + 3 * nI c1 = nI (65 + 3 * c1) := by rw [show (3 : Int32) = nI 3 from rfl, pk_mul, show (65 : Int32) = nI 65 from rfl, nI_add]
            have k1 : nI (65 + 3 * c1) + 1 = nI (66 + 3 * c1) := by rw [nI_1, show 65 + 3 * c1 + 1 = 66 + 3 * c1 by omega]
            have k2 : nI (65 + 3 * c1) + 2 = nI (67 + 3 * c1) := by rw [show (2 : Int32) = nI 2 from rfl, nI_add, show 65 + 3 * c1 + 2 = 67 + 3 * c1 by omega]
            have kc : nI c1 + 1 = nI (c1 + 1) := nI_1 c1
            have b0 := nI_pos (n := 65 + 3 * c1) (by omega)
            have b1 := nI_pos (n := 66 + 3 * c1) (by omega)
            have b2 := nI_pos (n := 67 + 3 * c1) (by omega)
            have d0 := nI_clamp (n := 65 + 3 * c1) (by omega)
            have d1 := nI_clamp (n := 66 + 3 * c1) (by omega)
            have d2 := nI_clamp (n := 67 + 3 * c1) (by omega)
            have hn5 : ¬ nI c1 = 5 := fun e => by have := (nI_eq (b := 5) (by omega) (by omega)).mp e; omega
            obtain ⟨m88, m89, m90, m91, m92, m93, m94, m95, m96, m97, m98, m99, m100, m101, m102, m103, m104, m105, m106, n0, n1, n2, n5, n7, n8, n10, n17, n18, n19, n20, n21, n22, n23, n25, n26, n27, n28⟩ := M1
            simp +decide only [Nat.reduceEqDiff, Nat.add_eq_left, Nat.left_eq_add, Nat.reduceAdd, Nat.reduceLeDiff, Nat.reduceMul, Nat.reduceSub, Nat.reduceLT, zlt8, zlt8_, zlt8n, zlt8n_, List.length_cons, List.length_nil, true_or, or_true, false_or, or_false, and_self, and_true, true_and, and_false, false_and, not_false_eq_true, not_true_eq_false, ite_true, ite_false, if_true, if_false, ite_not, zin, zpush_s, zpush_n, kl_int, kl_ref, kl_none, kl_kl, kl_long, kl_null, VR_i, VR_l, zT_wI, zT_wJ, zT_wR, zT_wIr, zT_wJr, zT_wRr, zI_wJ, zI_wR, zI_wJr, zI_wRr, zJ_wI, zJ_wR, zJ_wIr, zJ_wRr, zR_wI, zR_wJ, zR_wIr, zR_wJr, zN_wI, zN_wJ, zN_wR, zN_wIr, zN_wJr, zN_wRr, zZ_wI, zZ_wJ, zZ_wR, zZ_wIr, zZ_wJr, zZ_wRr, zI_wI, zJ_wJ, zR_wR, zI_wIr, zJ_wJr, zR_wRr, k847, g847_0, g847_1, g847_2, g847_5, g847_6, g847_9, g847_11, g847_12, g847_13, g847_14, g847_15, g847_16, g847_17, g847_20, g847_23, g847_24, g847_25, g847_27, g847_30, g847_33, g847_34, g847_35, g847_36, g847_37, g847_39, g847_42, g847_45, g847_47, g847_48, g847_49, g847_52, g847_54, g847_55, g847_56, g847_59, g847_61, g847_62, g847_64, g847_65, g847_66, g847_69, g847_71, g847_72, g847_73, g847_74, g847_76, g847_77, g847_80, g847_82, g847_83, g847_84, g847_85, g847_88, g847_90, g847_91, g847_92, g847_93, g847_94, g847_95, g847_98, g847_100, g847_101, g847_102, g847_103, g847_104, g847_105, g847_108, g847_110, g847_111, g847_112, g847_113, g847_114, g847_115, g847_116, g847_119, g847_121, g847_122, m88, m89, m90, m91, m92, m93, m94, m95, m96, m97, m98, m99, m100, m101, m102, m103, m104, m105, m106, n0, n1, n2, n5, n7, n8, n10, n17, n18, n19, n20, n21, n22, n23, n25, n26, n27, n28, ex1, co, bI_t h1, c_isIn, bI_t, hz.1, hz.2, hy.1, hy.2, ew, e64, hn5, k0, k1, k2, kc, b0, b1, b2, d0, d1, d2, up_a, show 65 + 3 * c1 < 118 by omega, show 66 + 3 * c1 < 118 by omega, show 67 + 3 * c1 < 118 by omega, show ¬ 64 = 65 + 3 * c1 by omega, show ¬ 64 = 66 + 3 * c1 by omega, show ¬ 64 = 67 + 3 * c1 by omega, show Int32.toNatClampNeg 64 = 64 by decide, show ¬ (64 : Int32) < 0 by decide]
        · have e5 : c1 = 5 := by have := p.1; omega
          subst e5
          have ca' : ∀ Q, zCall 59 303 [.ref 44, .int (nI t), .int (nI j), .int z] h Q = Q (some (.int (-4))) h := fun Q => by
            rw [ca Q, if_neg hc]
          have ew := gm.1
          refine Pr_same (r := .int (-4)) g0 (fun Q => ?_) (fun Q => ?_)
          · simp +decide only [Nat.reduceEqDiff, Nat.add_eq_left, Nat.left_eq_add, Nat.reduceAdd, Nat.reduceLeDiff, Nat.reduceMul, Nat.reduceSub, Nat.reduceLT, zlt8, zlt8_, zlt8n, zlt8n_, List.length_cons, List.length_nil, true_or, or_true, false_or, or_false, and_self, and_true, true_and, and_false, false_and, not_false_eq_true, not_true_eq_false, ite_true, ite_false, if_true, if_false, ite_not, zin, zpush_s, zpush_n, kl_int, kl_ref, kl_none, kl_kl, kl_long, kl_null, VR_i, VR_l, zT_wI, zT_wJ, zT_wR, zT_wIr, zT_wJr, zT_wRr, zI_wJ, zI_wR, zI_wJr, zI_wRr, zJ_wI, zJ_wR, zJ_wIr, zJ_wRr, zR_wI, zR_wJ, zR_wIr, zR_wJr, zN_wI, zN_wJ, zN_wR, zN_wIr, zN_wJr, zN_wRr, zZ_wI, zZ_wJ, zZ_wR, zZ_wIr, zZ_wJr, zZ_wRr, zI_wI, zJ_wJ, zR_wR, zI_wIr, zJ_wJr, zR_wRr, k720, g720_0, g720_1, g720_2, g720_5, g720_6, g720_9, g720_12, g720_15, g720_16, g720_17, g720_18, g720_21, g720_24, g720_25, g720_27, g720_30, g720_33, g720_34, g720_35, g720_36, g720_38, g720_41, g720_44, g720_46, g720_47, g720_48, g720_51, g720_54, g720_55, g720_56, g720_57, g720_60, k0, j0, j1, j2, j3, j4, j6, j8, j9, ex1, u1, u2, ws0, ct, bI_t h1, c_within, i_le, bI_t, hz.1, hz.2, hy.1, hy.2, ca']
          · obtain ⟨m88, m89, m90, m91, m92, m93, m94, m95, m96, m97, m98, m99, m100, m101, m102, m103, m104, m105, m106, n0, n1, n2, n5, n7, n8, n10, n17, n18, n19, n20, n21, n22, n23, n25, n26, n27, n28⟩ := M.1.1
            simp +decide only [Nat.reduceEqDiff, Nat.add_eq_left, Nat.left_eq_add, Nat.reduceAdd, Nat.reduceLeDiff, Nat.reduceMul, Nat.reduceSub, Nat.reduceLT, zlt8, zlt8_, zlt8n, zlt8n_, List.length_cons, List.length_nil, true_or, or_true, false_or, or_false, and_self, and_true, true_and, and_false, false_and, not_false_eq_true, not_true_eq_false, ite_true, ite_false, if_true, if_false, ite_not, zin, zpush_s, zpush_n, kl_int, kl_ref, kl_none, kl_kl, kl_long, kl_null, VR_i, VR_l, zT_wI, zT_wJ, zT_wR, zT_wIr, zT_wJr, zT_wRr, zI_wJ, zI_wR, zI_wJr, zI_wRr, zJ_wI, zJ_wR, zJ_wIr, zJ_wRr, zR_wI, zR_wJ, zR_wIr, zR_wJr, zN_wI, zN_wJ, zN_wR, zN_wIr, zN_wJr, zN_wRr, zZ_wI, zZ_wJ, zZ_wR, zZ_wIr, zZ_wJr, zZ_wRr, zI_wI, zJ_wJ, zR_wR, zI_wIr, zJ_wJr, zR_wRr, k847, g847_0, g847_1, g847_2, g847_5, g847_6, g847_9, g847_11, g847_12, g847_13, g847_14, g847_15, g847_16, g847_17, g847_20, g847_23, g847_24, g847_25, g847_27, g847_30, g847_33, g847_34, g847_35, g847_36, g847_37, g847_39, g847_42, g847_45, g847_47, g847_48, g847_49, g847_52, g847_54, g847_55, g847_56, g847_59, g847_61, g847_62, g847_64, g847_65, g847_66, g847_69, g847_71, g847_72, g847_73, g847_74, g847_76, g847_77, g847_80, g847_82, g847_83, g847_84, g847_85, g847_88, g847_90, g847_91, g847_92, g847_93, g847_94, g847_95, g847_98, g847_100, g847_101, g847_102, g847_103, g847_104, g847_105, g847_108, g847_110, g847_111, g847_112, g847_113, g847_114, g847_115, g847_116, g847_119, g847_121, g847_122, m88, m89, m90, m91, m92, m93, m94, m95, m96, m97, m98, m99, m100, m101, m102, m103, m104, m105, m106, n0, n1, n2, n5, n7, n8, n10, n17, n18, n19, n20, n21, n22, n23, n25, n26, n27, n28, ex1, co0, bI_t h1, c_isIn, bI_t, hz.1, hz.2, hy.1, hy.2, ew, e64, show nI 5 = 5 by decide, show Int32.toNatClampNeg 64 = 64 by decide, show ¬ (64 : Int32) < 0 by decide]
      · refine Pr_same (r := .int (-2)) g0 (fun Q => ?_) (fun Q => ?_)
        · simp +decide only [Nat.reduceEqDiff, Nat.add_eq_left, Nat.left_eq_add, Nat.reduceAdd, Nat.reduceLeDiff, Nat.reduceMul, Nat.reduceSub, Nat.reduceLT, zlt8, zlt8_, zlt8n, zlt8n_, List.length_cons, List.length_nil, true_or, or_true, false_or, or_false, and_self, and_true, true_and, and_false, false_and, not_false_eq_true, not_true_eq_false, ite_true, ite_false, if_true, if_false, ite_not, zin, zpush_s, zpush_n, kl_int, kl_ref, kl_none, kl_kl, kl_long, kl_null, VR_i, VR_l, zT_wI, zT_wJ, zT_wR, zT_wIr, zT_wJr, zT_wRr, zI_wJ, zI_wR, zI_wJr, zI_wRr, zJ_wI, zJ_wR, zJ_wIr, zJ_wRr, zR_wI, zR_wJ, zR_wIr, zR_wJr, zN_wI, zN_wJ, zN_wR, zN_wIr, zN_wJr, zN_wRr, zZ_wI, zZ_wJ, zZ_wR, zZ_wIr, zZ_wJr, zZ_wRr, zI_wI, zJ_wJ, zR_wR, zI_wIr, zJ_wJr, zR_wRr, k720, g720_0, g720_1, g720_2, g720_5, g720_6, g720_9, g720_12, g720_15, g720_16, g720_17, g720_18, g720_21, g720_24, g720_25, g720_27, g720_30, g720_33, g720_34, g720_35, g720_36, g720_38, g720_41, g720_44, g720_46, g720_47, g720_48, g720_51, g720_54, g720_55, g720_56, g720_57, g720_60, k0, j0, j1, j2, j3, j4, j6, j8, j9, ex1, ct, bI_t h1, c_within, i_le, bI_t hz, bI_f hy]
        · simp +decide only [Nat.reduceEqDiff, Nat.add_eq_left, Nat.left_eq_add, Nat.reduceAdd, Nat.reduceLeDiff, Nat.reduceMul, Nat.reduceSub, Nat.reduceLT, zlt8, zlt8_, zlt8n, zlt8n_, List.length_cons, List.length_nil, true_or, or_true, false_or, or_false, and_self, and_true, true_and, and_false, false_and, not_false_eq_true, not_true_eq_false, ite_true, ite_false, if_true, if_false, ite_not, zin, zpush_s, zpush_n, kl_int, kl_ref, kl_none, kl_kl, kl_long, kl_null, VR_i, VR_l, zT_wI, zT_wJ, zT_wR, zT_wIr, zT_wJr, zT_wRr, zI_wJ, zI_wR, zI_wJr, zI_wRr, zJ_wI, zJ_wR, zJ_wIr, zJ_wRr, zR_wI, zR_wJ, zR_wIr, zR_wJr, zN_wI, zN_wJ, zN_wR, zN_wIr, zN_wJr, zN_wRr, zZ_wI, zZ_wJ, zZ_wR, zZ_wIr, zZ_wJr, zZ_wRr, zI_wI, zJ_wJ, zR_wR, zI_wIr, zJ_wJr, zR_wRr, k847, g847_0, g847_1, g847_2, g847_5, g847_6, g847_9, g847_11, g847_12, g847_13, g847_14, g847_15, g847_16, g847_17, g847_20, g847_23, g847_24, g847_25, g847_27, g847_30, g847_33, g847_34, g847_35, g847_36, g847_37, g847_39, g847_42, g847_45, g847_47, g847_48, g847_49, g847_52, g847_54, g847_55, g847_56, g847_59, g847_61, g847_62, g847_64, g847_65, g847_66, g847_69, g847_71, g847_72, g847_73, g847_74, g847_76, g847_77, g847_80, g847_82, g847_83, g847_84, g847_85, g847_88, g847_90, g847_91, g847_92, g847_93, g847_94, g847_95, g847_98, g847_100, g847_101, g847_102, g847_103, g847_104, g847_105, g847_108, g847_110, g847_111, g847_112, g847_113, g847_114, g847_115, g847_116, g847_119, g847_121, g847_122, m88, ex1, co0, bI_t h1, c_isIn, bI_t hz, bI_f hy]
    · refine Pr_same (r := .int (-1)) g0 (fun Q => ?_) (fun Q => ?_)
      · simp +decide only [Nat.reduceEqDiff, Nat.add_eq_left, Nat.left_eq_add, Nat.reduceAdd, Nat.reduceLeDiff, Nat.reduceMul, Nat.reduceSub, Nat.reduceLT, zlt8, zlt8_, zlt8n, zlt8n_, List.length_cons, List.length_nil, true_or, or_true, false_or, or_false, and_self, and_true, true_and, and_false, false_and, not_false_eq_true, not_true_eq_false, ite_true, ite_false, if_true, if_false, ite_not, zin, zpush_s, zpush_n, kl_int, kl_ref, kl_none, kl_kl, kl_long, kl_null, VR_i, VR_l, zT_wI, zT_wJ, zT_wR, zT_wIr, zT_wJr, zT_wRr, zI_wJ, zI_wR, zI_wJr, zI_wRr, zJ_wI, zJ_wR, zJ_wIr, zJ_wRr, zR_wI, zR_wJ, zR_wIr, zR_wJr, zN_wI, zN_wJ, zN_wR, zN_wIr, zN_wJr, zN_wRr, zZ_wI, zZ_wJ, zZ_wR, zZ_wIr, zZ_wJr, zZ_wRr, zI_wI, zJ_wJ, zR_wR, zI_wIr, zJ_wJr, zR_wRr, k720, g720_0, g720_1, g720_2, g720_5, g720_6, g720_9, g720_12, g720_15, g720_16, g720_17, g720_18, g720_21, g720_24, g720_25, g720_27, g720_30, g720_33, g720_34, g720_35, g720_36, g720_38, g720_41, g720_44, g720_46, g720_47, g720_48, g720_51, g720_54, g720_55, g720_56, g720_57, g720_60, k0, j0, j1, j2, j3, j4, j6, j8, j9, ex1, ct, bI_t h1, c_within, i_le, bI_f hz]
      · simp +decide only [Nat.reduceEqDiff, Nat.add_eq_left, Nat.left_eq_add, Nat.reduceAdd, Nat.reduceLeDiff, Nat.reduceMul, Nat.reduceSub, Nat.reduceLT, zlt8, zlt8_, zlt8n, zlt8n_, List.length_cons, List.length_nil, true_or, or_true, false_or, or_false, and_self, and_true, true_and, and_false, false_and, not_false_eq_true, not_true_eq_false, ite_true, ite_false, if_true, if_false, ite_not, zin, zpush_s, zpush_n, kl_int, kl_ref, kl_none, kl_kl, kl_long, kl_null, VR_i, VR_l, zT_wI, zT_wJ, zT_wR, zT_wIr, zT_wJr, zT_wRr, zI_wJ, zI_wR, zI_wJr, zI_wRr, zJ_wI, zJ_wR, zJ_wIr, zJ_wRr, zR_wI, zR_wJ, zR_wIr, zR_wJr, zN_wI, zN_wJ, zN_wR, zN_wIr, zN_wJr, zN_wRr, zZ_wI, zZ_wJ, zZ_wR, zZ_wIr, zZ_wJr, zZ_wRr, zI_wI, zJ_wJ, zR_wR, zI_wIr, zJ_wJr, zR_wRr, k847, g847_0, g847_1, g847_2, g847_5, g847_6, g847_9, g847_11, g847_12, g847_13, g847_14, g847_15, g847_16, g847_17, g847_20, g847_23, g847_24, g847_25, g847_27, g847_30, g847_33, g847_34, g847_35, g847_36, g847_37, g847_39, g847_42, g847_45, g847_47, g847_48, g847_49, g847_52, g847_54, g847_55, g847_56, g847_59, g847_61, g847_62, g847_64, g847_65, g847_66, g847_69, g847_71, g847_72, g847_73, g847_74, g847_76, g847_77, g847_80, g847_82, g847_83, g847_84, g847_85, g847_88, g847_90, g847_91, g847_92, g847_93, g847_94, g847_95, g847_98, g847_100, g847_101, g847_102, g847_103, g847_104, g847_105, g847_108, g847_110, g847_111, g847_112, g847_113, g847_114, g847_115, g847_116, g847_119, g847_121, g847_122, m88, ex1, co0, bI_t h1, c_isIn, bI_f hz]
  · refine Pr_same (r := .int (-1)) g0 (fun Q => ?_) (fun Q => ?_)
    · simp +decide only [Nat.reduceEqDiff, Nat.add_eq_left, Nat.left_eq_add, Nat.reduceAdd, Nat.reduceLeDiff, Nat.reduceMul, Nat.reduceSub, Nat.reduceLT, zlt8, zlt8_, zlt8n, zlt8n_, List.length_cons, List.length_nil, true_or, or_true, false_or, or_false, and_self, and_true, true_and, and_false, false_and, not_false_eq_true, not_true_eq_false, ite_true, ite_false, if_true, if_false, ite_not, zin, zpush_s, zpush_n, kl_int, kl_ref, kl_none, kl_kl, kl_long, kl_null, VR_i, VR_l, zT_wI, zT_wJ, zT_wR, zT_wIr, zT_wJr, zT_wRr, zI_wJ, zI_wR, zI_wJr, zI_wRr, zJ_wI, zJ_wR, zJ_wIr, zJ_wRr, zR_wI, zR_wJ, zR_wIr, zR_wJr, zN_wI, zN_wJ, zN_wR, zN_wIr, zN_wJr, zN_wRr, zZ_wI, zZ_wJ, zZ_wR, zZ_wIr, zZ_wJr, zZ_wRr, zI_wI, zJ_wJ, zR_wR, zI_wIr, zJ_wJr, zR_wRr, k720, g720_0, g720_1, g720_2, g720_5, g720_6, g720_9, g720_12, g720_15, g720_16, g720_17, g720_18, g720_21, g720_24, g720_25, g720_27, g720_30, g720_33, g720_34, g720_35, g720_36, g720_38, g720_41, g720_44, g720_46, g720_47, g720_48, g720_51, g720_54, g720_55, g720_56, g720_57, g720_60, k0, j0, j1, j2, j3, j4, j6, j8, j9, ex1, ct, bI_f h1]
    · simp +decide only [Nat.reduceEqDiff, Nat.add_eq_left, Nat.left_eq_add, Nat.reduceAdd, Nat.reduceLeDiff, Nat.reduceMul, Nat.reduceSub, Nat.reduceLT, zlt8, zlt8_, zlt8n, zlt8n_, List.length_cons, List.length_nil, true_or, or_true, false_or, or_false, and_self, and_true, true_and, and_false, false_and, not_false_eq_true, not_true_eq_false, ite_true, ite_false, if_true, if_false, ite_not, zin, zpush_s, zpush_n, kl_int, kl_ref, kl_none, kl_kl, kl_long, kl_null, VR_i, VR_l, zT_wI, zT_wJ, zT_wR, zT_wIr, zT_wJr, zT_wRr, zI_wJ, zI_wR, zI_wJr, zI_wRr, zJ_wI, zJ_wR, zJ_wIr, zJ_wRr, zR_wI, zR_wJ, zR_wIr, zR_wJr, zN_wI, zN_wJ, zN_wR, zN_wIr, zN_wJr, zN_wRr, zZ_wI, zZ_wJ, zZ_wR, zZ_wIr, zZ_wJr, zZ_wRr, zI_wI, zJ_wJ, zR_wR, zI_wIr, zJ_wJr, zR_wRr, k847, g847_0, g847_1, g847_2, g847_5, g847_6, g847_9, g847_11, g847_12, g847_13, g847_14, g847_15, g847_16, g847_17, g847_20, g847_23, g847_24, g847_25, g847_27, g847_30, g847_33, g847_34, g847_35, g847_36, g847_37, g847_39, g847_42, g847_45, g847_47, g847_48, g847_49, g847_52, g847_54, g847_55, g847_56, g847_59, g847_61, g847_62, g847_64, g847_65, g847_66, g847_69, g847_71, g847_72, g847_73, g847_74, g847_76, g847_77, g847_80, g847_82, g847_83, g847_84, g847_85, g847_88, g847_90, g847_91, g847_92, g847_93, g847_94, g847_95, g847_98, g847_100, g847_101, g847_102, g847_103, g847_104, g847_105, g847_108, g847_110, g847_111, g847_112, g847_113, g847_114, g847_115, g847_116, g847_119, g847_121, g847_122, m88, ex1, co0, bI_f h1]
