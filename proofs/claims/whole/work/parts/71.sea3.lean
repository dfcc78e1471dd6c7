-- needs 70b.cong
variable {n D D2 q L c1 c2 c3 a b t s r d K k kd i j ln c m M N p p2 : Nat} {h h1 h2 h3 h4 g0 : zH} {w w1 x nm : zW0} {sv : Value} {xs : zW0} {py fp fo y z u v : Int32} {ex : zW0 → Int32}
/-- all that a season that is well changes -/
def SO (q b k : Nat) : Prop := (b = 69 ∧ 1 ≤ k) ∨ (b = sA q ∧ 1 ≤ k) ∨ b = sA q + 1 ∨ b = 107 + 2 * q ∨ b = 108 + 2 * q ∨ b = 95 ∨ (b = 88 ∧ (k = 6 ∨ k = 9 ∨ (11 ≤ k ∧ k ≤ 16))) ∨ (b = 1 ∧ k = 10) ∨ (b = 0 ∧ k = 7) ∨ b = 93 ∨ (b = 94 ∧ k = q) ∨ (b = 89 ∧ k = 63)
theorem SO_NZ (hq : q < 6) (b k : Nat) (z : SO q b k) : NZ b k := by
  have sq := sA_n (Nat.le_of_lt hq)
  rcases z with z | z | z | z | z | z | z | z | z | z | z | z
  · exact Or.inr (Or.inr (Or.inr (Or.inr (Or.inl z))))
  · obtain ⟨z, -⟩ := z
    rcases sq.2 with e | e
    · exact Or.inr (Or.inr (Or.inr (Or.inr (Or.inr (Or.inl (by omega))))))
    · exact Or.inr (Or.inr (Or.inr (Or.inr (Or.inr (Or.inr (Or.inr (Or.inr (Or.inr (Or.inr (by omega))))))))))
  · rcases sq.2 with e | e
    · exact Or.inr (Or.inr (Or.inr (Or.inr (Or.inr (Or.inl (by omega))))))
    · exact Or.inr (Or.inr (Or.inr (Or.inr (Or.inr (Or.inr (Or.inr (Or.inr (Or.inr (Or.inr (by omega))))))))))
  · exact Or.inr (Or.inr (Or.inr (Or.inr (Or.inr (Or.inr (Or.inr (Or.inr (Or.inr (Or.inr (by omega))))))))))
  · exact Or.inr (Or.inr (Or.inr (Or.inr (Or.inr (Or.inr (Or.inr (Or.inr (Or.inr (Or.inr (by omega))))))))))
  · exact Or.inr (Or.inr (Or.inr (Or.inr (Or.inr (Or.inr (Or.inr (Or.inr (Or.inr (Or.inl (by unfold SM; omega))))))))))
  · exact Or.inr (Or.inr (Or.inr (Or.inr (Or.inr (Or.inr (Or.inr (Or.inr (Or.inr (Or.inl (by unfold SM; omega))))))))))
  · exact Or.inr (Or.inl (by omega))
  · exact Or.inl (by omega)
  · exact Or.inr (Or.inr (Or.inr (Or.inr (Or.inr (Or.inr (Or.inr (Or.inr (Or.inr (Or.inl (by unfold SM; omega))))))))))
  · exact Or.inr (Or.inr (Or.inr (Or.inr (Or.inr (Or.inr (Or.inr (Or.inr (Or.inr (Or.inl (by unfold SM; omega))))))))))
  · exact Or.inr (Or.inr (Or.inr (Or.inr (Or.inr (Or.inr (Or.inr (Or.inr (Or.inr (Or.inl (by unfold SM; omega))))))))))
theorem sA_s (q : Nat) : sA (q + 1) = 107 + 2 * q := by unfold sA; rw [if_neg (by omega)]; omega
theorem sea_ok (go : GO h xs L q) (gm : GM h q n D w c1 c2 c3 sv) (hq : q < 6) (hs : s ≤ 100) (eT : ∀ b, ¬ (b = 107 + 2 * q) → ¬ (b = 108 + 2 * q) → zT h3 b = zT h b) (eJ : ∀ b, ¬ (b = 107 + 2 * q) → ¬ (b = 108 + 2 * q) → zJ h3 b = zJ h b) (eN : zN h3 = zN h + 2) (eZ : zZ h3 = zZ h + 3 + 100)
    (fI : ∀ b k, ¬ SO q b k → zI h3 b k = zI h b k) (fR : ∀ b k, ¬ SO q b k → zR h3 b k = zR h b k)
    (t1 : zT h3 (107 + 2 * q) = (4, 3)) (t2 : zT h3 (108 + 2 * q) = (20, 100)) (r1 : zR h3 (107 + 2 * q) 0 = .ref (108 + 2 * q)) (r2 : zR h3 69 1 = .ref (107 + 2 * q)) (r3 : zR h3 1 10 = .ref (sA q))
    (i3 : zI h3 69 3 = 0) (i6 : zI h3 88 6 = 0) (i7 : zI h3 0 7 = nI (q + 1)) (i9 : zI h3 88 9 = nI (q + 1)) (i4 : zI h3 94 q = nI s) (i63 : zI h3 89 = va_up w 63 (nI (q + 1)))
    (e93 : ∀ k, ¬ (100 * q ≤ k ∧ k < 100 * q + 100) → zI h3 93 k = zI h 93 k) (e94 : ∀ k, ¬ k = q → zI h3 94 k = zI h 94 k)
    {cs : List Int32} (hp : pAll (fun k => zI h3 93 (100 * q + k)) s 10 pA0 0 = (p, some (cs, py, ex))) (hc : cs.length ≤ 100) (ip : zI h3 (sA q) 2 = py) (il : zI h3 (sA q) 1 = nI cs.length) (ic : ∀ i, i < cs.length → zI h3 (sA q + 1) i = cs.getD i 0) (ga : GA (cs, py, ex)) : GI h3 xs L := by
  obtain ⟨g1, g2, g3, g4, g5, g6, g7, g8⟩ := go
  have sq := sA_n (Nat.le_of_lt hq)
  have f : FS (SO q) h (xT h3 h) := ⟨rfl, rfl, rfl, rfl, fI, fR⟩
  have ss : sA q < 107 + 2 * q ∧ sA q + 1 < 107 + 2 * q := by unfold sA; split <;> omega
  have hZ : GZ h3 xs L := GZ_T (g0 := h) (fun b hb => eT b (by omega) (by omega)) (GZ_f (SO_NZ hq) f g1)
  have tq : zT h3 (sA q) = (4, 3) := by rw [eT _ (by omega) (by omega)]; exact g3.2.1
  have tc : zT h3 (sA q + 1) = (20, 100) := by rw [eT _ (by omega) (by omega)]; exact g3.2.2.2
  have rq : zR h3 (sA q) 0 = .ref (sA q + 1) := by rw [fR _ _ (by unfold SO; omega)]; exact g3.2.2.1
  have hSr : ∀ r, r < q → Sn h3 r := fun r hr => by
    obtain ⟨s', p', cs', py', ex', u1, u2, u3, u4, u5⟩ := g4 r hr
    have a1 := sA_ne hr
    have a2 := sA_n (r := r) (by omega)
    have eI : ∀ b k, (b = sA r ∨ b = sA r + 1) → zI h3 b k = zI h b k := fun b k hb => fI b k (by unfold SO; omega)
    have eRr : zR h3 (sA r) 0 = zR h (sA r) 0 := fR _ _ (by unfold SO; omega)
    refine ⟨s', p', cs', py', ex', by rw [e94 _ (by omega)]; exact u1, u2, ?_, by rw [eRr]; exact u4, ?_⟩
    · have hx : ∀ k, k < 100 → zI h3 93 (100 * r + k) = zI h 93 (100 * r + k) := fun k hk => e93 _ (by omega)
      rw [pAll_cg (fun k hk => hx k (by omega))]; exact u3
    · rcases u5 with ⟨e, -⟩ | ⟨s1, c, L1, v1, v2, v3, v4, v5, v6, v7, v8, v9, v10⟩
      · exact absurd e (by simp)
      · have v1' := Value.ref.inj v1
        subst v1'
        have hc' : c = sA r + 1 := Value.ref.inj (v8.symm.trans u4)
        subst hc'
        exact Or.inr ⟨sA r, sA r + 1, L1, rfl, v2, v3, by rw [eT _ (by omega) (by omega)]; exact v4, by rw [eI _ _ (by omega)]; exact v5, by rw [eI _ _ (by omega)]; exact v6, v7, by rw [eRr]; exact v8, by rw [eT _ (by omega) (by omega)]; exact v9, by rw [show zI h3 (sA r + 1) = zI h (sA r + 1) from funext fun k => eI _ _ (by omega)]; exact v10⟩
  have hSq : Sn h3 q := by
    refine ⟨s, p, cs, py, ex, i4, hs, hp, rq, Or.inr ⟨sA q, sA q + 1, cs.length, rfl, by omega, by omega, tq, ip, il, hc, rq, tc, fun nm => ?_⟩⟩
    unfold xRun
    rw [xRun_L _ nm cs 0 (0, 0) (fun i hi => by rw [Nat.zero_add]; exact ic i hi)]
    exact congrArg Prod.fst (ga nm)
  obtain ⟨m1, m2, m3, m4, m5, m6⟩ := gm
  have ew : ∀ k, ¬ k = 63 → va_up w 63 (nI (q + 1)) k = w k := fun k hk => up_n _ _ hk
  have I1 : ∀ b k, (1 ≤ b ∧ b < 15) → zI h3 b k = zI h b k ∨ True := fun _ _ _ => Or.inr trivial
  have hR : Rv h3 1 n w (-1) (.ref (sA q)) := by
    obtain ⟨v1, v2, v3, v4, v5, v6⟩ := m2
    have eI : ∀ b k, 1 ≤ b → b < 15 → ¬ (b = 1 ∧ k = 10) → zI h3 b k = zI h b k := fun b k h1 h2 h3' => fI b k (by unfold SO; omega)
    refine ⟨by rw [eI _ _ (by omega) (by omega) (by omega)]; exact v1, by rw [eI _ _ (by omega) (by omega) (by omega)]; exact v2, by rw [eI _ _ (by omega) (by omega) (by omega)]; exact v3, by rw [eI _ _ (by omega) (by omega) (by omega)]; exact v4, r3, fun t ht => ?_⟩
    have hn := m4.1.2.1
    obtain ⟨u1, u2, u3, u4, u5, u6, u7⟩ := v6 t ht
    exact ⟨by rw [eI _ _ (by omega) (by omega) (by omega)]; exact u1, by rw [eI _ _ (by omega) (by omega) (by omega)]; exact u2, by rw [eI _ _ (by omega) (by omega) (by omega)]; exact u3, by rw [eI _ _ (by omega) (by omega) (by omega)]; exact u4, by rw [eI _ _ (by omega) (by omega) (by omega)]; exact u5, by rw [eI _ _ (by omega) (by omega) (by omega)]; exact u6, fun j hj => by rw [eI _ _ (by omega) (by omega) (by omega)]; exact u7 j hj⟩
  have hN : NR h3 43 w c1 c2 c3 := NR_f (S := SO q) (h1 := xT h3 h) f (fun c k h1 h2 z => by unfold SO at z; omega) (fun _ _ => rfl) m3
  have hI : GImg h3 q := GImg_f (S := SO q) (h1 := xT h3 h) (fun b k z => by unfold SO at z; omega) f g5
  have hA : GAct h3 := GAct_f (S := SO q) (h1 := xT h3 h) (fun b k z => by unfold SO at z; omega) f g7
  have hT : GTp h3 := by
    intro i hi
    obtain ⟨l, l1, l2, l3, l4, l5, l6, l7⟩ := g8 i hi
    have eI : ∀ b k, ((76 ≤ b ∧ b ≤ 87) ∨ b = 103 ∨ b = 104) → zI h3 b k = zI h b k := fun b k hb => fI b k (by unfold SO; omega)
    refine ⟨l, l1, by rw [eI _ _ (by omega), eI _ _ (by omega)]; exact l2, by rw [eI _ _ (by omega)]; exact l3, by rw [eI _ _ (by omega)]; exact l4, by rw [eI _ _ (by omega)]; exact l5, by rw [eI _ _ (by omega)]; exact l6, fun k hk => ?_⟩
    rw [eJ _ (by omega) (by omega), eJ _ (by omega) (by omega)]
    exact l7 k hk
  have hs1 := sA_s q
  refine ⟨q + 1, n, D, va_up w 63 (nI (q + 1)), c1, c2, c3, .ref (sA q), ⟨hZ, ⟨by omega, by rw [eN, g2.2.1]; omega, by rw [eZ]; have := g2.2.2.1; omega, i7, i9⟩, ⟨by rw [hs1]; exact r2, by rw [hs1]; exact t1, by rw [hs1, show 107 + 2 * q + 1 = 108 + 2 * q by omega]; exact r1, by rw [hs1, show 107 + 2 * q + 1 = 108 + 2 * q by omega]; exact t2⟩, fun r hr => ?_, GImg_m (by omega) hI, ⟨0, by omega, i3, i6, fun k hk => by omega⟩, hA, hT⟩, i63, Rv_w (fun k hk => ew k (by omega)) m4.1.2.1 hR, NR_f (FS_r (fun _ _ => False) h3) (fun _ _ _ _ z => z) (fun k hk => ew k (by omega)) hN, Bun_w (fun k hk => ew k (by omega)) m4 (PN_w (fun k hk => ew k (by omega)) m4.2.2.2.2), Or.inr ⟨q, by omega, up_s _ _ _, rfl⟩, ?_⟩
  · by_cases e : r = q
    · subst e; exact hSq
    · exact hSr r (by omega)
  · rw [fI _ _ (by unfold SO; omega)]; exact m6
