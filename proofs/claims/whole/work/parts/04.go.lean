/-! what a call does; the laws of it -/
def zCall : Nat → zCa
  | 0 => fun _ _ _ _ => False
  | d + 1 => fun y as h Q => (zsl as).length ≤ zml y ∧ zGo (zCall d) (zTab y) 0 (zent (zml y) as) [] h Q
def zG (d y pc : Nat) (L : zL) (st : List Value) (h : zH) (Q : zQq) : Prop := zGo (zCall d) (zTab y) pc L st h Q
theorem zGo_Q {C : zCa} {code : Nat → zOp} (hC : ∀ y as h (Q1 Q2 : zQq), (∀ v h, Q1 v h → Q2 v h) → C y as h Q1 → C y as h Q2) {Q Q' : zQq} (hQ : ∀ v h, Q v h → Q' v h) {pc : Nat} {L : zL} {st : List Value} {h : zH} (g : zGo C code pc L st h Q) : zGo C code pc L st h Q' :=
  fun P hP => g P (fun pc L st h q => hP pc L st h (wp_mono hC (fun _ _ _ _ z => z) hQ _ q))
theorem zCall_mono : ∀ (d : Nat) (y : Nat) (as : List Value) (h : zH) (Q1 Q2 : zQq), (∀ v h, Q1 v h → Q2 v h) → zCall d y as h Q1 → zCall d y as h Q2
  | 0, _, _, _, _, _, _, h => h
  | d + 1, _, _, _, _, _, hQ, h => ⟨h.1, zGo_Q (zCall_mono d) hQ h.2⟩
theorem zG_mono {d y pc : Nat} {L : zL} {st : List Value} {h : zH} {Q Q' : zQq} (hQ : ∀ v h, Q v h → Q' v h) (g : zG d y pc L st h Q) : zG d y pc L st h Q' := zGo_Q (zCall_mono d) hQ g
theorem zG_in {d y pc : Nat} {L : zL} {st : List Value} {h : zH} {Q : zQq} (g : wp (fun pc L st h => zG d y pc L st h Q) Q (zCall d) (zTab y pc L st h)) : zG d y pc L st h Q := by
  intro P hP
  exact hP _ _ _ _ (wp_mono (zCall_mono d) (fun _ _ _ _ z => z P hP) (fun _ _ z => z) _ g)
theorem zG_out {d y pc : Nat} {L : zL} {st : List Value} {h : zH} {Q : zQq} (g : zG d y pc L st h Q) : wp (fun pc L st h => zG d y pc L st h Q) Q (zCall d) (zTab y pc L st h) :=
  g (fun pc L st h => wp (fun pc L st h => zG d y pc L st h Q) Q (zCall d) (zTab y pc L st h)) (fun _ _ _ _ q => wp_mono (zCall_mono d) (fun _ _ _ _ z => zG_in z) (fun _ _ z => z) _ q)
theorem zG_at {d y pc : Nat} {L : zL} {st : List Value} {h : zH} {Q : zQq} {op : zOp} (e : zTab y pc = op) : zG d y pc L st h Q = wp (fun pc L st h => zG d y pc L st h Q) Q (zCall d) (op L st h) := by
  subst e
  exact propext ⟨zG_out, zG_in⟩
/-- a call has one end -/
theorem zCall_end : ∀ (d : Nat) (y : Nat) (as : List Value) (h : zH) (Q : zQq), zCall d y as h Q → ∃ (r : Option Value) (h1 : zH), zCall d y as h (fun r2 h2 => r2 = r ∧ h2 = h1) ∧ Q r h1
  | 0, _, _, _, _, h => h.elim
  | d + 1, y, as, h, Q, g => by
    have key : ∀ pc L st h, zG d y pc L st h Q → ∃ (r : Option Value) (h1 : zH), zG d y pc L st h (fun r2 h2 => r2 = r ∧ h2 = h1) ∧ Q r h1 := by
      intro pc L st h g
      refine g (fun pc L st h => ∃ (r : Option Value) (h1 : zH), zG d y pc L st h (fun r2 h2 => r2 = r ∧ h2 = h1) ∧ Q r h1) ?_
      intro pc L st h q
      cases e : zTab y pc L st h with
      | none => rw [e] at q; exact q.elim
      | some x =>
        rw [e] at q
        rcases x with ⟨pc2, L2, st2, h2⟩ | ⟨v, h2⟩ | ⟨y2, as2, pc2, L2, st2, h2⟩
        · obtain ⟨r, h1, g1, g2⟩ := q
          exact ⟨r, h1, zG_in (by rw [e]; exact g1), g2⟩
        · exact ⟨v, h2, zG_in (by rw [e]; exact ⟨rfl, rfl⟩), q⟩
        · obtain ⟨r1, h3, g1, r, h1, g2, g3⟩ := zCall_end d y2 as2 h2 _ q
          refine ⟨r, h1, zG_in ?_, g3⟩
          rw [e]
          exact zCall_mono d _ _ _ _ _ (fun v h4 z => by obtain ⟨rfl, rfl⟩ := z; exact g2) g1
    obtain ⟨r, h1, g1, g2⟩ := key _ _ _ _ g.2
    exact ⟨r, h1, ⟨g.1, g1⟩, g2⟩
theorem zCall_one : ∀ (d : Nat) (y : Nat) (as : List Value) (h : zH) (r r' : Option Value) (h1 h1' : zH), zCall d y as h (fun r2 h2 => r2 = r ∧ h2 = h1) → zCall d y as h (fun r2 h2 => r2 = r' ∧ h2 = h1') → r = r' ∧ h1 = h1'
  | 0, _, _, _, _, _, _, _, h, _ => h.elim
  | d + 1, y, as, h, r, r', h1, h1', g, g' => by
    have key : ∀ pc L st h, zG d y pc L st h (fun r2 h2 => r2 = r ∧ h2 = h1) → zG d y pc L st h (fun r2 h2 => r2 = r' ∧ h2 = h1') → r = r' ∧ h1 = h1' := by
      intro pc L st h g
      refine g (fun pc L st h => zG d y pc L st h (fun r2 h2 => r2 = r' ∧ h2 = h1') → r = r' ∧ h1 = h1') ?_
      intro pc L st h q q'
      have q' := zG_out q'
      cases e : zTab y pc L st h with
      | none => rw [e] at q; exact q.elim
      | some x =>
        rw [e] at q q'
        rcases x with ⟨pc2, L2, st2, h2⟩ | ⟨v, h2⟩ | ⟨y2, as2, pc2, L2, st2, h2⟩
        · exact q q'
        · exact ⟨q.1.symm.trans q'.1, q.2.symm.trans q'.2⟩
        · obtain ⟨r1, h3, g1, g2⟩ := zCall_end d y2 as2 h2 _ q
          obtain ⟨r4, h4, g3, g5⟩ := zCall_end d y2 as2 h2 _ q'
          obtain ⟨rfl, rfl⟩ := zCall_one d y2 as2 h2 _ _ _ _ g1 g3
          exact g2 g5
    exact key _ _ _ _ g.2 g'.2
/-- a contract as an equation -/
theorem zCall_eq {d y : Nat} {as : List Value} {h : zH} {r : Option Value} {h1 : zH} (g : zCall d y as h (fun r2 h2 => r2 = r ∧ h2 = h1)) (Q : zQq) : zCall d y as h Q = Q r h1 := by
  refine propext ⟨fun q => ?_, fun q => zCall_mono d _ _ _ _ _ (fun v h2 z => by obtain ⟨rfl, rfl⟩ := z; exact q) g⟩
  obtain ⟨r2, h2, g1, g2⟩ := zCall_end d y as h Q q
  obtain ⟨rfl, rfl⟩ := zCall_one d y as h _ _ _ _ g g1
  exact g2
/-- a contract for every end, as an equation -/
theorem zCall_eqQ {d y : Nat} {as : List Value} {h : zH} {r : Option Value} {h1 : zH} (g : ∀ Q : zQq, Q r h1 → zCall d y as h Q) (Q : zQq) : zCall d y as h Q = Q r h1 := zCall_eq (g _ ⟨rfl, rfl⟩) Q
theorem zCall_k {d y : Nat} {as : List Value} {h : zH} {Q : zQq} {L : zL} (hle : (zsl as).length ≤ zml y) (he : zent (zml y) as = L) : zCall (d + 1) y as h Q = zG d y 0 L [] h Q := by
  subst he
  exact propext ⟨fun q => q.2, fun q => ⟨hle, q⟩⟩
/-! one instruction -/
section
variable {d y pc nx k t c n kd a b x0 y2 : Nat} {L : zL} {st : List Value} {h : zH} {Q : zQq} {x z i : Int32} {u w : Int64} {v : Value} {f : Int32 → Int32 → Int32} {f1 : Int32 → Int32} {fl : Int64 → Int64 → Int64} {fs : Int64 → Int32 → Int64}
theorem g_c (e : zTab y pc = op_c v nx) : zG d y pc L st h Q = zG d y nx L (v :: st) h Q := zG_at e
theorem g_ldI (e : zTab y pc = op_ldI k nx) (hl : lg L k = some (.int x)) : zG d y pc L st h Q = zG d y nx L (.int x :: st) h Q := by rw [zG_at e]; simp only [op_ldI, hl]; rfl
theorem g_ldJ (e : zTab y pc = op_ldJ k nx) (hl : lg L k = some (.long u)) : zG d y pc L st h Q = zG d y nx L (.long u :: st) h Q := by rw [zG_at e]; simp only [op_ldJ, hl]; rfl
theorem g_ldA (e : zTab y pc = op_ldA k nx) (hl : lg L k = some (.ref a)) : zG d y pc L st h Q = zG d y nx L (.ref a :: st) h Q := by rw [zG_at e]; simp only [op_ldA, hl]; rfl
theorem g_stI {L2 : zL} (e : zTab y pc = op_stI k nx) (hk : k < L.length) (hl : ls1 L k (.int x) = L2) : zG d y pc L (.int x :: st) h Q = zG d y nx L2 st h Q := by rw [zG_at e]; simp only [op_stI, if_pos hk, hl]; rfl
theorem g_stA {L2 : zL} (e : zTab y pc = op_stA k nx) (hk : k < L.length) (hl : ls1 L k (.ref a) = L2) : zG d y pc L (.ref a :: st) h Q = zG d y nx L2 st h Q := by rw [zG_at e]; simp only [op_stA, if_pos hk, hl]; rfl
theorem g_stJ {L2 : zL} (e : zTab y pc = op_stJ k nx) (hk : k + 1 < L.length) (hl : ls2 L k (.long u) = L2) : zG d y pc L (.long u :: st) h Q = zG d y nx L2 st h Q := by rw [zG_at e]; simp only [op_stJ, if_pos hk, hl]; rfl
theorem g_inc {L2 : zL} (e : zTab y pc = op_inc k z nx) (hl : lg L k = some (.int x)) (h2 : ls1 L k (.int (x + z)) = L2) : zG d y pc L st h Q = zG d y nx L2 st h Q := by rw [zG_at e]; simp only [op_inc, hl, h2]; rfl
theorem g_popI (e : zTab y pc = op_pop nx) : zG d y pc L (.int x :: st) h Q = zG d y nx L st h Q := zG_at e
theorem g_popA (e : zTab y pc = op_pop nx) : zG d y pc L (.ref a :: st) h Q = zG d y nx L st h Q := zG_at e
theorem g_dupI (e : zTab y pc = op_dup nx) : zG d y pc L (.int x :: st) h Q = zG d y nx L (.int x :: .int x :: st) h Q := zG_at e
theorem g_dupA (e : zTab y pc = op_dup nx) : zG d y pc L (.ref a :: st) h Q = zG d y nx L (.ref a :: .ref a :: st) h Q := zG_at e
theorem g_dup2 (e : zTab y pc = op_dup2 nx) : zG d y pc L (.int x :: .ref a :: st) h Q = zG d y nx L (.int x :: .ref a :: .int x :: .ref a :: st) h Q := zG_at e
theorem g_b (e : zTab y pc = op_b f nx) : zG d y pc L (.int z :: .int x :: st) h Q = zG d y nx L (.int (f x z) :: st) h Q := zG_at e
theorem g_d (e : zTab y pc = op_d f nx) (hz : ¬ z = 0) : zG d y pc L (.int z :: .int x :: st) h Q = zG d y nx L (.int (f x z) :: st) h Q := by rw [zG_at e]; simp only [op_d, if_neg hz]; rfl
theorem g_u (e : zTab y pc = op_u f1 nx) : zG d y pc L (.int x :: st) h Q = zG d y nx L (.int (f1 x) :: st) h Q := zG_at e
theorem g_lb (e : zTab y pc = op_lb fl nx) : zG d y pc L (.long w :: .long u :: st) h Q = zG d y nx L (.long (fl u w) :: st) h Q := zG_at e
theorem g_ldv (e : zTab y pc = op_ldv fl nx) (hz : ¬ w = 0) : zG d y pc L (.long w :: .long u :: st) h Q = zG d y nx L (.long (fl u w) :: st) h Q := by rw [zG_at e]; simp only [op_ldv, if_neg hz]; rfl
theorem g_lsh (e : zTab y pc = op_lsh fs nx) : zG d y pc L (.int z :: .long u :: st) h Q = zG d y nx L (.long (fs u z) :: st) h Q := zG_at e
theorem g_i2l (e : zTab y pc = op_i2l nx) : zG d y pc L (.int x :: st) h Q = zG d y nx L (.long x.toInt64 :: st) h Q := zG_at e
theorem g_l2i (e : zTab y pc = op_l2i nx) : zG d y pc L (.long u :: st) h Q = zG d y nx L (.int u.toInt32 :: st) h Q := zG_at e
theorem g_lcmp (e : zTab y pc = op_lcmp nx) : zG d y pc L (.long w :: .long u :: st) h Q = zG d y nx L (.int (zcmp u w) :: st) h Q := zG_at e
theorem wp_if {N : zPr} {Q : zQq} {C : zCa} {p : Prop} {i : Decidable p} {r1 r2 : zX} : wp N Q C (if p then r1 else r2) = if p then wp N Q C r1 else wp N Q C r2 := by split <;> rfl
theorem g_i1 {P : Int32 → Prop} {i : DecidablePred P} (e : zTab y pc = op_i1 P t nx) : zG d y pc L (.int x :: st) h Q = if P x then zG d y t L st h Q else zG d y nx L st h Q := by rw [zG_at e]; simp only [op_i1, wp_if]; rfl
theorem g_i2 {P : Int32 → Int32 → Prop} {i : ∀ x y, Decidable (P x y)} (e : zTab y pc = op_i2 P t nx) : zG d y pc L (.int z :: .int x :: st) h Q = if P x z then zG d y t L st h Q else zG d y nx L st h Q := by rw [zG_at e]; simp only [op_i2, wp_if]; rfl
theorem g_nul0 (e : zTab y pc = op_nul t nx) : zG d y pc L (.null :: st) h Q = zG d y t L st h Q := zG_at e
theorem g_nul1 (e : zTab y pc = op_nul t nx) (hT : (zT h a).1 < 20) : zG d y pc L (.ref a :: st) h Q = zG d y nx L st h Q := by rw [zG_at e]; simp only [op_nul, if_pos hT]; rfl
theorem g_go (e : zTab y pc = op_go t) : zG d y pc L st h Q = zG d y t L st h Q := zG_at e
def gsw (G : Nat → Prop) (x : Int32) (d : Nat) : List (Int32 × Nat) → Prop
  | [] => G d
  | (k, t) :: l => if x = k then G t else gsw G x d l
theorem wp_sw {N : zPr} {Q : zQq} {C : zCa} : ∀ ps : List (Int32 × Nat), wp N Q C (zsw x L st h c ps) = gsw (fun t => N t L st h) x c ps
  | [] => rfl
  | (k, t) :: l => by simp only [zsw, gsw, wp_if, wp_sw l]; rfl
theorem g_sw {ps : List (Int32 × Nat)} (e : zTab y pc = op_sw ps c) : zG d y pc L (.int x :: st) h Q = gsw (fun t => zG d y t L st h Q) x c ps := by rw [zG_at e]; simp only [op_sw, wp_sw]
theorem g_gI (e : zTab y pc = op_gI c n k nx) (hT : zT h a = (c, n)) : zG d y pc L (.ref a :: st) h Q = zG d y nx L (.int (zI h a k) :: st) h Q := by rw [zG_at e]; simp only [op_gI, if_pos hT]; rfl
theorem g_gR (e : zTab y pc = op_gR c n k nx) (hT : zT h a = (c, n)) : zG d y pc L (.ref a :: st) h Q = zG d y nx L (zR h a k :: st) h Q := by rw [zG_at e]; simp only [op_gR, if_pos hT]; rfl
theorem g_pI (e : zTab y pc = op_pI c n k nx) (hT : zT h a = (c, n)) : zG d y pc L (.int x :: .ref a :: st) h Q = zG d y nx L st (wI h a k x) Q := by rw [zG_at e]; simp only [op_pI, if_pos hT]; rfl
theorem g_pZ (e : zTab y pc = op_pZ c n k nx) (hT : zT h a = (c, n)) (hx : x = 0 ∨ x = 1) : zG d y pc L (.int x :: .ref a :: st) h Q = zG d y nx L st (wI h a k x) Q := by rw [zG_at e]; simp only [op_pZ, if_pos (And.intro hT hx)]; rfl
theorem g_pR (e : zTab y pc = op_pR c n k nx) (hT : zT h a = (c, n)) : zG d y pc L (.ref b :: .ref a :: st) h Q = zG d y nx L st (wR h a k (.ref b)) Q := by rw [zG_at e]; simp only [op_pR, if_pos hT]; rfl
theorem g_pR0 (e : zTab y pc = op_pR c n k nx) (hT : zT h a = (c, n)) : zG d y pc L (.null :: .ref a :: st) h Q = zG d y nx L st (wR h a k .null) Q := by rw [zG_at e]; simp only [op_pR, if_pos hT]; rfl
theorem g_ia (e : zTab y pc = op_ia kd nx) (hT : (zT h b).1 = kd) (hi : zin i (zT h b).2) : zG d y pc L (.int i :: .ref b :: st) h Q = zG d y nx L (.int (zI h b i.toNatClampNeg) :: st) h Q := by rw [zG_at e]; simp only [op_ia, if_pos (And.intro hT hi)]; rfl
theorem g_is (e : zTab y pc = op_is kd f1 nx) (hT : (zT h b).1 = kd) (hi : zin i (zT h b).2) : zG d y pc L (.int x :: .int i :: .ref b :: st) h Q = zG d y nx L st (wI h b i.toNatClampNeg (f1 x)) Q := by rw [zG_at e]; simp only [op_is, if_pos (And.intro hT hi)]; rfl
theorem g_ja (e : zTab y pc = op_ja nx) (hT : (zT h b).1 = 24) (hi : zin i (zT h b).2) : zG d y pc L (.int i :: .ref b :: st) h Q = zG d y nx L (.long (zJ h b i.toNatClampNeg) :: st) h Q := by rw [zG_at e]; simp only [op_ja, if_pos (And.intro hT hi)]; rfl
theorem g_js (e : zTab y pc = op_js nx) (hT : (zT h b).1 = 24) (hi : zin i (zT h b).2) : zG d y pc L (.long u :: .int i :: .ref b :: st) h Q = zG d y nx L st (wJ h b i.toNatClampNeg u) Q := by rw [zG_at e]; simp only [op_js, if_pos (And.intro hT hi)]; rfl
theorem g_ra (e : zTab y pc = op_ra kd nx) (hT : (zT h b).1 = kd) (hi : zin i (zT h b).2) : zG d y pc L (.int i :: .ref b :: st) h Q = zG d y nx L (zR h b i.toNatClampNeg :: st) h Q := by rw [zG_at e]; simp only [op_ra, if_pos (And.intro hT hi)]; rfl
theorem g_rs (e : zTab y pc = op_rs nx) (hT : (zT h b).1 = 25) (hi : zin i (zT h b).2) (ha : zT h a = (6, 3)) : zG d y pc L (.ref a :: .int i :: .ref b :: st) h Q = zG d y nx L st (wR h b i.toNatClampNeg (.ref a)) Q := by rw [zG_at e]; simp only [op_rs, if_pos (And.intro hT (And.intro hi ha))]; rfl
theorem g_len (e : zTab y pc = op_len kd nx) (hT : (zT h b).1 = kd) : zG d y pc L (.ref b :: st) h Q = zG d y nx L (.int (Int32.ofNat (zT h b).2) :: st) h Q := by rw [zG_at e]; simp only [op_len, if_pos hT]; rfl
theorem g_new (e : zTab y pc = op_new c n nx) : zG d y pc L st h Q = zG d y nx L (.ref (zN h) :: st) (wN h (c, n)) Q := zG_at e
theorem g_na (e : zTab y pc = op_na kd nx) (hx : ¬ x < 0 ∧ x.toNatClampNeg ≤ 1000) : zG d y pc L (.int x :: st) h Q = zG d y nx L (.ref (zN h) :: st) (wN h (kd, x.toNatClampNeg)) Q := by rw [zG_at e]; simp only [op_na, if_pos hx]; rfl
theorem g_mna (e : zTab y pc = op_mna nx) : zG d y pc L (.int 4 :: .int 6 :: st) h Q = zG d y nx L (.ref (zN h) :: st) (wM h) Q := zG_at e
theorem g_cV {as rest : List Value} (e : zTab y pc = op_cV y2 n c nx) (h1 : (st.take n).reverse = .ref a :: as) (h2 : as.length + 1 = n) (h3 : st.drop n = rest) (h4 : rest.length ≤ 4) (hT : (zT h a).1 = c) : zG d y pc L st h Q = zCall d y2 (.ref a :: as) h (fun v h1 => zG d y nx L (zpush v rest) h1 Q) := by rw [zG_at e]; simp only [op_cV, h1, h3]; rw [if_pos ⟨hT, h2, h4⟩]; rfl
theorem g_cI {as rest : List Value} (e : zTab y pc = op_cI y2 n nx) (h1 : (st.take n).reverse = .ref a :: as) (h2 : as.length + 1 = n) (h3 : st.drop n = rest) (h4 : rest.length ≤ 4) (hT : (zT h a).1 < 20) : zG d y pc L st h Q = zCall d y2 (.ref a :: as) h (fun v h1 => zG d y nx L (zpush v rest) h1 Q) := by rw [zG_at e]; simp only [op_cI, h1, h3]; rw [if_pos ⟨hT, h2, h4⟩]; rfl
theorem g_cS {as rest : List Value} (e : zTab y pc = op_cS y2 n nx) (h1 : (st.take n).reverse = as) (h2 : n ≤ st.length) (h3 : st.drop n = rest) (h4 : rest.length ≤ 4) : zG d y pc L st h Q = zCall d y2 as h (fun v h1 => zG d y nx L (zpush v rest) h1 Q) := by rw [zG_at e]; simp only [op_cS, h1, h3]; rw [if_pos ⟨h2, h4⟩]; rfl
theorem g_oi (e : zTab y pc = op_oi nx) (hT : (zT h a).1 < 20) : zG d y pc L [.ref a] h Q = zG d y nx L [] h Q := by rw [zG_at e]; simp only [op_oi, if_pos hT]; rfl
theorem g_mm (e : zTab y pc = op_mm f nx) (h4 : st.length ≤ 4) : zG d y pc L (.int z :: .int x :: st) h Q = zG d y nx L (.int (f x z) :: st) h Q := by rw [zG_at e]; simp only [op_mm]; rw [if_pos h4]; rfl
theorem g_cp {sp dp sn : Int32} {b0 b1 : Nat} (e : zTab y pc = op_cp nx) (h0 : (zT h b0).1 = 24) (h1 : (zT h b1).1 = 24) (h2 : ¬ sp < 0) (h3 : ¬ dp < 0) (h4 : ¬ sn < 0) (h5 : sp.toNatClampNeg + sn.toNatClampNeg ≤ (zT h b0).2) (h6 : dp.toNatClampNeg + sn.toNatClampNeg ≤ (zT h b1).2) : zG d y pc L [.int sn, .int dp, .ref b1, .int sp, .ref b0] h Q = zG d y nx L [] (wJr h b1 (va_cpy (zJ h b0) (zJ h b1) sp.toNatClampNeg dp.toNatClampNeg sn.toNatClampNeg)) Q := by rw [zG_at e]; simp only [op_cp]; rw [if_pos ⟨h0, h1, h2, h3, h4, h5, h6⟩]; rfl
theorem g_sv (e : zTab y pc = op_sv nx) (hT : (zT h a).1 = 31) : zG d y pc L (.ref a :: st) h Q = zG d y nx L (zR h a 0 :: st) h Q := by rw [zG_at e]; simp only [op_sv, if_pos hT]; rfl
theorem g_sc (e : zTab y pc = op_sc nx) (hT : (zT h a).1 = 31) : zG d y pc L (.ref a :: st) h Q = zG d y nx L (.int 0 :: st) h Q := by rw [zG_at e]; simp only [op_sc, if_pos hT]; rfl
theorem g_rI {ok : Int32 → Prop} {i : DecidablePred ok} (e : zTab y pc = op_rI ok) (hx : ok x) : zG d y pc L [.int x] h Q = Q (some (.int x)) h := by rw [zG_at e]; simp only [op_rI, if_pos hx]; rfl
theorem g_rJ (e : zTab y pc = op_rJ) : zG d y pc L [.long u] h Q = Q (some (.long u)) h := zG_at e
theorem g_rA (e : zTab y pc = op_rA) : zG d y pc L [.ref a] h Q = Q (some (.ref a)) h := zG_at e
theorem g_rV (e : zTab y pc = op_rV) : zG d y pc L [] h Q = Q none h := zG_at e
end
