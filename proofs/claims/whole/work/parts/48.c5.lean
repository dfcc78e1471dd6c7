-- needs 47.c4
variable {d a b n t D K s p q g cc k dep B : Nat} {h h1 : zH} {w x nm : zW0} {c v r : Int32} {F : Nat → Nat × Option pE} {cs : List Int32} {e : pE}
/-! what the codes mean -/
theorem nI_ext {x : Int32} {n : Nat} (h : ∀ i, i < 32 → x.toBitVec.getLsbD i = n.testBit i) : x = nI n := Int32.toBitVec_inj.mp (BitVec.eq_of_getLsbD_eq fun i hi => by
  rw [h i hi]
  show n.testBit i = (BitVec.ofNat 32 n).getLsbD i
  rw [BitVec.getLsbD_ofNat]
  simp [hi])
theorem nI_bt (n i : Nat) (hi : i < 32) : (nI n).toBitVec.getLsbD i = n.testBit i := by
  show (BitVec.ofNat 32 n).getLsbD i = n.testBit i
  rw [BitVec.getLsbD_ofNat]
  simp [hi]
theorem tb2 (v : Nat) (b : Bool) (i : Nat) : (2 * v + b.toNat).testBit i = if i = 0 then b else v.testBit (i - 1) := by
  cases i with
  | zero => rw [Nat.testBit_zero]; cases b <;> simp <;> omega
  | succ i =>
    rw [Nat.testBit_succ, show (2 * v + b.toNat) / 2 = v by cases b <;> simp <;> omega, if_neg (by omega), Nat.add_sub_cancel]
theorem one_b : ∀ i, i < 32 → (1 : Int32).toBitVec.getLsbD i = decide (i = 0) := by decide +kernel
theorem m2_b : ∀ i, i < 32 → (-2 : Int32).toBitVec.getLsbD i = decide (¬ i = 0) := by decide +kernel
theorem x_not (v : Nat) (b : Bool) : nI (2 * v + b.toNat) ^^^ 1 = nI (2 * v + (!b).toNat) := nI_ext fun i hi => by
  rw [Int32.toBitVec_xor, BitVec.getLsbD_xor, nI_bt _ _ hi, one_b i hi, tb2, tb2]
  by_cases e : i = 0 <;> simp [e]
theorem x_shr {v : Nat} {b : Bool} (h : 2 * v + 1 < 2 ^ 31) : iShr (nI (2 * v + b.toNat)) 1 = nI v := by
  unfold iShr
  rw [pk_shrN (by cases b <;> simp <;> omega) _ 1 (by decide), show (2 * v + b.toNat) / 2 ^ 1 = v by cases b <;> simp <;> omega]
theorem x_and {v : Nat} {a b : Bool} (h : 4 * v + 3 < 2 ^ 31) : iShr (nI (2 * (2 * v + a.toNat) + b.toNat)) 1 &&& (nI (2 * (2 * v + a.toNat) + b.toNat) ||| -2) = nI (2 * v + (a && b).toNat) := by
  rw [x_shr (by cases a <;> simp <;> omega)]
  refine nI_ext fun i hi => ?_
  rw [Int32.toBitVec_and, BitVec.getLsbD_and, Int32.toBitVec_or, BitVec.getLsbD_or, nI_bt _ _ hi, nI_bt _ _ hi, m2_b i hi]
  by_cases e : i = 0
  · subst e
    rw [tb2 v a 0, tb2 _ b 0, tb2 v (a && b) 0]
    simp
  · rw [tb2 v a i, tb2 v (a && b) i]
    simp [e]
theorem x_lo (v : Nat) (b : Bool) : nI (2 * v + b.toNat) &&& 1 = nI b.toNat := by
  refine nI_ext fun i hi => ?_
  rw [Int32.toBitVec_and, BitVec.getLsbD_and, nI_bt _ _ hi, one_b i hi, tb2]
  have := tb2 0 b i
  rw [Nat.mul_zero, Nat.zero_add] at this
  rw [this]
  by_cases e : i = 0 <;> simp [e]
theorem x_or {v : Nat} {a b : Bool} (h : 4 * v + 3 < 2 ^ 31) : iShr (nI (2 * (2 * v + a.toNat) + b.toNat)) 1 ||| (nI (2 * (2 * v + a.toNat) + b.toNat) &&& 1) = nI (2 * v + (a || b).toNat) := by
  rw [x_shr (by cases a <;> simp <;> omega), x_lo]
  refine nI_ext fun i hi => ?_
  have := tb2 0 b i
  rw [Nat.mul_zero, Nat.zero_add] at this
  rw [Int32.toBitVec_or, BitVec.getLsbD_or, nI_bt _ _ hi, nI_bt _ _ hi, this, tb2, tb2]
  by_cases e : i = 0 <;> simp [e]
theorem x_push {v : Nat} {b : Bool} (h : v < 2 ^ 30) : iShl (nI v) 1 ||| nI b.toNat = nI (2 * v + b.toNat) := by
  unfold iShl
  rw [pk_shlN _ 1 (by decide) (by omega)]
  refine nI_ext fun i hi => ?_
  have e1 := tb2 0 b i
  have e2 := tb2 v false i
  rw [Nat.mul_zero, Nat.zero_add] at e1
  simp only [Bool.toNat_false, Nat.add_zero] at e2
  rw [Int32.toBitVec_or, BitVec.getLsbD_or, nI_bt _ _ hi, nI_bt _ _ hi, e1, show v * 2 ^ 1 = 2 * v by omega, e2, tb2]
  by_cases e : i = 0 <;> simp [e]
/-- run over a list -/
def xL (nm : zW0) (cs : List Int32) (s : Int32 × Int32) : Int32 × Int32 := cs.foldl (fun s c => xStep nm c s) s
theorem xL_app (nm : zW0) (c1 c2 : List Int32) (s : Int32 × Int32) : xL nm (c1 ++ c2) s = xL nm c2 (xL nm c1 s) := List.foldl_append
theorem xRun_L (f : zW0) (nm : zW0) : ∀ (cs : List Int32) (t : Nat) (s : Int32 × Int32), (∀ i, i < cs.length → f (t + i) = cs.getD i 0) → lp (fun i s => xStep nm (f i) s) cs.length t s = xL nm cs s
  | [], t, s, _ => rfl
  | c :: cs, t, s, hf => by
    have h0 := hf 0 (by simp)
    rw [Nat.add_zero, List.getD_cons_zero] at h0
    show lp (fun i s => xStep nm (f i) s) cs.length (t + 1) (xStep nm (f t) s) = xL nm cs (xStep nm c s)
    rw [h0]
    exact xRun_L f nm cs (t + 1) _ (fun i hi => by
      have := hf (i + 1) (by simp; omega)
      rw [List.getD_cons_succ] at this
      rw [show t + 1 + i = t + (i + 1) by omega]; exact this)
def Good (B : Nat) (e : pE) : Prop := ∀ nm S v, v < 2 ^ B → xL nm e.1 (S, nI v) = (S, nI (2 * v + (e.2 nm).toNat))
def Gd (B : Nat) (F : Nat → Nat × Option pE) : Prop := ∀ p q e, F p = (q, some e) → Good B e
theorem Good_le {B' : Nat} (hB : B' ≤ B) (h : Good B e) : Good B' e := fun nm S v hv => h nm S v (Nat.lt_of_lt_of_le hv (Nat.pow_le_pow_right (by omega) hB))
theorem op33 (nm : zW0) (S o : Int32) : xStep nm (pCode 33 0 0) (S, o) = (S, o ^^^ 1) := by
  unfold xStep; rw [if_pos (by decide)]
theorem op38 (nm : zW0) (S o : Int32) : xStep nm (pCode 38 0 0) (S, o) = (S, iShr o 1 &&& (o ||| -2)) := by
  unfold xStep; rw [if_neg (by decide), if_pos (by decide)]
theorem op124 (nm : zW0) (S o : Int32) : xStep nm (pCode 124 0 0) (S, o) = (S, iShr o 1 ||| (o &&& 1)) := by
  unfold xStep; rw [if_neg (by decide), if_neg (by decide), if_neg (by decide), if_neg (by decide), if_pos (by decide)]
theorem cd_m : ∀ j, j < 100 → iShr (pCode 109 0 (nI j)) 16 = 109 ∧ pCode 109 0 (nI j) &&& 255 = nI j := by decide +kernel
theorem cd_l : ∀ j, j < 100 → iShr (pCode 108 0 (nI j)) 16 = 108 ∧ pCode 108 0 (nI j) &&& 255 = nI j := by decide +kernel
theorem cd_t : ∀ c ∈ ([112, 107, 118, 119, 116, 100] : List Int32), ∀ r ∈ ([60, 61, 62] : List Int32), ∀ j, j < 100 → iShr (pCode c r (nI j)) 16 = c ∧ iShr (pCode c r (nI j)) 8 &&& 255 = r ∧ pCode c r (nI j) &&& 255 = nI j := by decide +kernel
theorem sCmp_b (v r m : Int32) : sCmp v r m = nI (decide (sCmp v r m = 1)).toNat := by
  have : sCmp v r m = 0 ∨ sCmp v r m = 1 := by
    unfold sCmp
    split
    · exact bI_z _
    · split <;> exact bI_z _
  rcases this with e | e <;> rw [e] <;> decide
def Tv (x : zW0) (s : Nat) : Prop := ∀ k, k < s → ∃ j, j ≤ 127 ∧ x k = nI j
theorem dig_v2 (m : Tv x s) (hd : pDig x s p = true) : ∃ j, j ≤ 9 ∧ x p - 48 = nI j := by
  have ps := pDig_lt hd
  unfold pDig at hd
  simp only [Bool.and_eq_true, decide_eq_true_eq] at hd
  obtain ⟨⟨-, h1⟩, h2⟩ := hd
  obtain ⟨j, j1, j2⟩ := m p ps
  rw [j2] at h1 h2
  have a1 : 48 ≤ j := by
    have : ¬ j < 48 := fun z => h1 (nI_lt (b := 48) z (by omega))
    omega
  have a2 : j ≤ 57 := by
    have : ¬ 57 < j := fun z => h2 (nI_lt (a := 57) z (by omega))
    omega
  refine ⟨j - 48, by omega, ?_⟩
  rw [j2, show (48 : Int32) = nI 48 from rfl, pk_sub a1]
theorem pNum_v (m : Tv x s) {u : Int32} (h : pNum x s p = (q, some u)) : ∃ j, j ≤ 99 ∧ u = nI j := by
  unfold pNum at h
  split at h
  · next c1 =>
    obtain ⟨j, j1, j2⟩ := dig_v2 m c1
    split at h
    · next c2 =>
      obtain ⟨i, i1, i2⟩ := dig_v2 m c2
      have hu := Option.some.inj (congrArg Prod.snd h)
      refine ⟨10 * j + i, by omega, ?_⟩
      rw [← hu, j2, Int32.sub_eq_add_neg, Int32.add_assoc, ← Int32.sub_eq_add_neg, i2, show (10 : Int32) = nI 10 from rfl, pk_mul, nI_add]
    · have hu := Option.some.inj (congrArg Prod.snd h)
      exact ⟨j, by omega, by rw [← hu, j2]⟩
  · exact absurd (congrArg Prod.snd h) (by simp)
theorem pTest_gd (m : Tv x s) : Gd 30 (pTest x s) := by
  intro p q e h nm S v hv
  unfold pTest at h
  split at h
  · next c1 =>
    split at h
    · next c2 =>
      simp only [Bool.and_eq_true, decide_eq_true_eq] at c1 c2
      rcases hN : pNum x s (p + 2) with ⟨q', _ | u⟩
      · rw [hN] at h; exact absurd (congrArg Prod.snd h) (by simp)
      · rw [hN] at h
        have he := Option.some.inj (congrArg Prod.snd h)
        obtain ⟨j, j1, rfl⟩ := pNum_v m hN
        subst he
        have hc : x p ∈ ([112, 107, 118, 119, 116, 100] : List Int32) := by
          have := c1.2; unfold pLet at this; simp only [List.mem_cons, List.not_mem_nil, or_false]; exact of_decide_eq_true this
        have hr : x (p + 1) ∈ ([60, 61, 62] : List Int32) := by
          have := c2.2; unfold pRel at this; simp only [List.mem_cons, List.not_mem_nil, or_false]; exact of_decide_eq_true this
        obtain ⟨t1, t2, t3⟩ := cd_t _ hc _ hr j (by omega)
        show xStep nm (pCode (x p) (x (p + 1)) (nI j)) (S, nI v) = _
        unfold xStep
        rw [t1, t2, t3]
        have n1 : ∀ z : Int32, z ∉ ([112, 107, 118, 119, 116, 100] : List Int32) → ¬ x p = z := fun z hz e => hz (e ▸ hc)
        rw [if_neg (n1 33 (by decide)), if_neg (n1 38 (by decide)), if_neg (n1 108 (by decide)), if_neg (n1 109 (by decide)), if_neg (n1 124 (by decide))]
        simp only
        have hb := sCmp_b (sLet (x p) nm) (x (p + 1)) (nI j)
        generalize sCmp (sLet (x p) nm) (x (p + 1)) (nI j) = z at *
        rw [← x_push hv, ← hb]
    · exact absurd (congrArg Prod.snd h) (by simp)
  · exact absurd (congrArg Prod.snd h) (by simp)
theorem Good_and {e1 e2 : pE} (hB : B + 2 ≤ 31) (h1 : Good B e1) (h2 : Good (B + 1) e2) : Good B (e1.1 ++ e2.1 ++ [pCode 38 0 0], fun nm => e1.2 nm && e2.2 nm) := by
  intro nm S v hv
  have hp : 2 ^ (B + 1) = 2 * 2 ^ B := by rw [Nat.pow_succ]; omega
  have hb : 2 ^ (B + 2) ≤ 2 ^ 31 := Nat.pow_le_pow_right (by omega) hB
  have hb2 : 2 ^ (B + 2) = 4 * 2 ^ B := by rw [Nat.pow_succ, Nat.pow_succ]; omega
  show xL nm (e1.1 ++ e2.1 ++ [pCode 38 0 0]) (S, nI v) = _
  have hc : (e1.2 nm).toNat ≤ 1 := by cases e1.2 nm <;> simp
  rw [xL_app, xL_app, h1 nm S v hv, h2 nm S _ (by omega)]
  show xStep nm (pCode 38 0 0) _ = _
  rw [op38, x_and (by omega)]
theorem Good_or {e1 e2 : pE} (hB : B + 2 ≤ 31) (h1 : Good B e1) (h2 : Good (B + 1) e2) : Good B (e1.1 ++ e2.1 ++ [pCode 124 0 0], fun nm => e1.2 nm || e2.2 nm) := by
  intro nm S v hv
  have hp : 2 ^ (B + 1) = 2 * 2 ^ B := by rw [Nat.pow_succ]; omega
  have hb : 2 ^ (B + 2) ≤ 2 ^ 31 := Nat.pow_le_pow_right (by omega) hB
  have hb2 : 2 ^ (B + 2) = 4 * 2 ^ B := by rw [Nat.pow_succ, Nat.pow_succ]; omega
  show xL nm (e1.1 ++ e2.1 ++ [pCode 124 0 0]) (S, nI v) = _
  have hc : (e1.2 nm).toNat ≤ 1 := by cases e1.2 nm <;> simp
  rw [xL_app, xL_app, h1 nm S v hv, h2 nm S _ (by omega)]
  show xStep nm (pCode 124 0 0) _ = _
  rw [op124, x_or (by omega)]
theorem Good_not {e1 : pE} (h1 : Good B e1) : Good B (e1.1 ++ [pCode 33 0 0], fun nm => !e1.2 nm) := by
  intro nm S v hv
  show xL nm (e1.1 ++ [pCode 33 0 0]) (S, nI v) = _
  rw [xL_app, h1 nm S v hv]
  show xStep nm (pCode 33 0 0) _ = _
  rw [op33, x_not]
theorem pAnd_gd (hB : B + 2 ≤ 31) (hF : Gd (B + 1) F) : ∀ (m : Nat) (e : pE) (p q : Nat) (e' : pE), Good B e → pAnd x s F m e p = (q, some e') → Good B e'
  | 0, e, p, q, e', he, h => by
    have := Option.some.inj (congrArg Prod.snd h)
    subst this
    exact he
  | m + 1, e, p, q, e', he, h => by
    unfold pAnd at h
    split at h
    · rcases hN : F (p + 1) with ⟨q', _ | e2⟩
      · rw [hN] at h; exact absurd (congrArg Prod.snd h) (by simp)
      · rw [hN] at h
        exact pAnd_gd hB hF m _ q' q e' (Good_and hB he (hF _ _ _ hN)) h
    · have := Option.some.inj (congrArg Prod.snd h)
      subst this
      exact he
theorem pBoth_gd (hB : B + 2 ≤ 31) (hF : Gd (B + 1) F) : Gd B (pBoth x s F) := by
  intro p q e h
  unfold pBoth at h
  rcases hN : F p with ⟨q', _ | e2⟩
  · rw [hN] at h; exact absurd (congrArg Prod.snd h) (by simp)
  · rw [hN] at h
    exact pAnd_gd hB hF s e2 q' q e (Good_le (by omega) (hF _ _ _ hN)) h
theorem pOr_gd (hB : B + 3 ≤ 31) (hF : Gd (B + 2) F) : ∀ (m : Nat) (e : pE) (p q : Nat) (e' : pE), Good B e → pOr x s F m e p = (q, some e') → Good B e'
  | 0, e, p, q, e', he, h => by
    have := Option.some.inj (congrArg Prod.snd h)
    subst this
    exact he
  | m + 1, e, p, q, e', he, h => by
    unfold pOr at h
    split at h
    · rcases hN : pBoth x s F (p + 1) with ⟨q', _ | e2⟩
      · rw [hN] at h; exact absurd (congrArg Prod.snd h) (by simp)
      · rw [hN] at h
        exact pOr_gd hB hF m _ q' q e' (Good_or (by omega) he (pBoth_gd (B := B + 1) (by omega) hF _ _ _ hN)) h
    · have := Option.some.inj (congrArg Prod.snd h)
      subst this
      exact he
theorem pAny_gd (hB : B + 3 ≤ 31) (hF : Gd (B + 2) F) : Gd B (pAny x s F) := by
  intro p q e h
  unfold pAny at h
  rcases hN : pBoth x s F p with ⟨q', _ | e2⟩
  · rw [hN] at h; exact absurd (congrArg Prod.snd h) (by simp)
  · rw [hN] at h
    exact pOr_gd hB hF s e2 q' q e (Good_le (by omega) (pBoth_gd (B := B + 1) (by omega) hF _ _ _ hN)) h
theorem pFac_gd (m : Tv x s) : ∀ k, k ≤ 4 → Gd (28 - 2 * k) (pFac x s k)
  | 0, _ => fun p q e h => Good_le (by omega) (pTest_gd m p q e h)
  | k + 1, hk => by
    intro p q e h
    have ih := pFac_gd m k (by omega)
    unfold pFac at h
    split at h
    · rcases hN : pFac x s k (p + 1) with ⟨q', _ | e2⟩
      · rw [hN] at h; exact absurd (congrArg Prod.snd h) (by simp)
      · rw [hN] at h
        have he := Option.some.inj (congrArg Prod.snd h)
        subst he
        exact Good_le (by omega) (Good_not (ih _ _ _ hN))
    · split at h
      · rcases hN : pAny x s (pFac x s k) (p + 1) with ⟨q', _ | e2⟩
        · rw [hN] at h; exact absurd (congrArg Prod.snd h) (by simp)
        · rw [hN] at h
          simp only at h
          split at h
          · have he := Option.some.inj (congrArg Prod.snd h)
            subst he
            exact pAny_gd (B := 28 - 2 * (k + 1)) (by omega) (by rw [show 28 - 2 * (k + 1) + 2 = 28 - 2 * k by omega]; exact ih) _ _ _ hN
          · exact absurd (congrArg Prod.snd h) (by simp)
      · exact Good_le (by omega) (pTest_gd m p q e h)
/-- a season's codes mean what it says -/
def GA (a : pA) : Prop := ∀ nm, xL nm a.1 (0, 0) = (a.2.2 nm, 0)
theorem pMore_ga (m : Tv x s) {a a' : pA} {f : Int32 → Int32} {wd : List Int32} (hc : (c = 109 ∧ f = fun n => n) ∨ (c = 108 ∧ f = fun n => -n)) (ha : GA a) (h : pMore x s c f wd a p = (q, some a')) : GA a' := by
  unfold pMore at h
  rcases hW : pWord x s wd p with ⟨q1, _ | _⟩
  · rw [hW] at h; exact absurd (congrArg Prod.snd h) (by simp)
  · rw [hW] at h
    rcases hN : pNum x s q1 with ⟨q2, _ | u⟩
    · simp only [hN] at h; exact absurd (congrArg Prod.snd h) (by simp)
    · obtain ⟨j, j1, rfl⟩ := pNum_v m hN
      simp only [hN] at h
      split at h
      · rcases hE : pAny x s (pFac x s 4) (q2 + 1) with ⟨q3, _ | e⟩
        · rw [hE] at h; exact absurd (congrArg Prod.snd h) (by simp)
        · rw [hE] at h
          have he := Option.some.inj (congrArg Prod.snd h)
          subst he
          have G : Good 18 e := pAny_gd (B := 18) (by omega) (pFac_gd m 4 (by omega)) _ _ _ hE
          intro nm
          show xL nm (a.1 ++ e.1 ++ [pCode c 0 (nI j)]) (0, 0) = (a.2.2 nm + (if e.2 nm = true then f (nI j) else 0), 0)
          rw [xL_app, xL_app, ha nm, show (0 : Int32) = nI 0 from rfl, G nm _ 0 (by decide)]
          show xStep nm (pCode c 0 (nI j)) _ = _
          have y1 := x_lo 0 (e.2 nm)
          have y2 := x_shr (v := 0) (b := e.2 nm) (by omega)
          have nz : nI 0 = 0 := rfl
          have n1 : nI 1 = 1 := rfl
          rcases hc with ⟨rfl, rfl⟩ | ⟨rfl, rfl⟩
          · obtain ⟨z1, z2⟩ := cd_m j (by omega)
            unfold xStep
            rw [z1, z2, if_neg (by decide), if_neg (by decide), if_neg (by decide), if_pos rfl]
            simp only
            rw [y1, y2]
            cases e.2 nm
            · simp [nz]
            · simp [n1, nz]
          · obtain ⟨z1, z2⟩ := cd_l j (by omega)
            unfold xStep
            rw [z1, z2, if_neg (by decide), if_neg (by decide), if_pos rfl]
            simp only
            rw [y1, y2]
            cases e.2 nm
            · simp [nz]
            · simp [n1, nz, Int32.sub_eq_add_neg]
      · exact absurd (congrArg Prod.snd h) (by simp)
theorem pClause_ga (m : Tv x s) {a a' : pA} (ha : GA a) (h : pClause x s a p = (q, some a')) : GA a' := by
  unfold pClause at h
  split at h
  · exact pMore_ga m (Or.inl ⟨rfl, rfl⟩) ha h
  · split at h
    · exact pMore_ga m (Or.inr ⟨rfl, rfl⟩) ha h
    · rcases hW : pWord x s [112, 97, 121, 32] p with ⟨q1, _ | _⟩
      · rw [hW] at h; exact absurd (congrArg Prod.snd h) (by simp)
      · rw [hW] at h
        rcases hN : pNum x s q1 with ⟨q2, _ | u⟩
        · simp only [hN] at h; exact absurd (congrArg Prod.snd h) (by simp)
        · simp only [hN] at h
          have he := Option.some.inj (congrArg Prod.snd h)
          subst he
          exact ha
theorem pAll_ga (m : Tv x s) : ∀ (M : Nat) (a : pA) (p q : Nat) (a' : pA), GA a → pAll x s M a p = (q, some a') → GA a'
  | 0, a, p, q, a', ha, h => absurd (congrArg Prod.snd h) (by simp [pAll])
  | M + 1, a, p, q, a', ha, h => by
    rw [pAll] at h
    rcases hC : pClause x s a p with ⟨q1, _ | a2⟩
    · rw [hC] at h; exact absurd (congrArg Prod.snd h) (by simp)
    · rw [hC] at h
      have g := pClause_ga m ha hC
      simp only at h
      split at h
      · exact pAll_ga m M a2 (q1 + 1) q a' g h
      · split at h
        · have he := Option.some.inj (congrArg Prod.snd h)
          subst he
          exact g
        · exact absurd (congrArg Prod.snd h) (by simp)
theorem GA0 : GA pA0 := fun nm => rfl
