-- needs 49.c6 43.mq4 51.acts2
/-! what holds between two calls -/
variable {n D q L c1 c2 c3 a b t s r : Nat} {h h1 h2 : zH} {w w1 : zW0} {sv : Value} {xs : zW0} {py fp : Int32} {ex : zW0 → Int32}
def sA (r : Nat) : Nat := if r = 0 then 71 else 105 + 2 * r
theorem sA_lo (r : Nat) : 71 ≤ sA r := by unfold sA; split <;> omega
def sKd (w : zW0) (n : Nat) : Prop := ∀ t, t < n → ∃ k, k < 7 ∧ w (10 * t) = nI k
def Bun (w : zW0) (n D c1 c2 c3 : Nat) : Prop := sOK w n D ∧ D ≤ 9999 ∧ sTB w n D ∧ sKd w n ∧ PN w n c1 c2 c3
def SVp (q : Nat) (w : zW0) (sv : Value) : Prop := (w 63 = 0 ∧ sv = .null) ∨ ∃ r, r < q ∧ w 63 = nI (r + 1) ∧ sv = .ref (sA r)
/-- a season, on both sides -/
def Sn (h : zH) (r : Nat) : Prop := ∃ (s p : Nat) (cs : List Int32) (py : Int32) (ex : zW0 → Int32), zI h 94 r = nI s ∧ s ≤ 100 ∧ pAll (fun k => zI h 93 (100 * r + k)) s 10 pA0 0 = (p, some (cs, py, ex)) ∧ zR h (sA r) 0 = .ref (sA r + 1) ∧ Se h (.ref (sA r)) py ex
def GM (h : zH) (q n D : Nat) (w : zW0) (c1 c2 c3 : Nat) (sv : Value) : Prop := zI h 89 = w ∧ Rv h 1 n w (-1) sv ∧ NR h 43 w c1 c2 c3 ∧ Bun w n D c1 c2 c3 ∧ SVp q w sv ∧ zI h 88 4 = -1
def GImg (h : zH) (q : Nat) : Prop := (zI h 0 5 = 0 ∧ zI h 88 3 = 0) ∨ (zI h 0 5 = 1 ∧ zI h 88 3 = 1 ∧ ∃ n D w c1 c2 c3 sv, (∀ k, k < 118 → zI h 91 k = w k) ∧ Rv h 29 n w (-1) sv ∧ NR h 56 w c1 c2 c3 ∧ Bun w n D c1 c2 c3 ∧ SVp q w sv)
def GX (h : zH) : Prop := ∃ s, s ≤ 100 ∧ zI h 69 3 = nI s ∧ zI h 88 6 = nI s ∧ ∀ k, k < s → zI h 70 k = zI h 92 k ∧ ∃ j, j ≤ 127 ∧ zI h 92 k = nI j
def GAct (h : zH) : Prop := ∃ r, r ≤ 12 ∧ zI h 73 1 = nI r ∧ zI h 88 24 = nI r ∧ ∀ k, k < r → zI h 74 k = zI h 102 k
def T1 (h : zH) (i : Nat) : Prop := ∃ ln, ln ≤ 60 ∧ zI h (76 + 2 * i) 0 = zI h 103 i ∧ (zI h 103 i = -1 ∨ ∃ s, s ≤ 4 ∧ zI h 103 i = nI s) ∧ (zI h 103 i = -1 → ln = 0) ∧ zI h (76 + 2 * i) 1 = nI ln ∧ zI h 104 i = nI ln ∧ ∀ k, k < ln → zJ h (77 + 2 * i) k = zJ h 105 (60 * i + k)
def GTp (h : zH) : Prop := ∀ i, i < 6 → T1 h i
def TpS (h : zH) : Prop := zT h 75 = (25, 6) ∧ ∀ i, i < 6 → zR h 75 i = .ref (76 + 2 * i) ∧ zT h (76 + 2 * i) = (6, 3) ∧ zR h (76 + 2 * i) 2 = .ref (77 + 2 * i) ∧ zT h (77 + 2 * i) = (24, 60)
def OtS (h : zH) (xs : zW0) (L : Nat) : Prop := zT h 69 = (5, 4) ∧ zR h 69 0 = .ref 70 ∧ zT h 70 = (21, 100) ∧ zT h 73 = (0, 5) ∧ zT h 74 = (20, 20) ∧ zR h 73 0 = .ref 74 ∧ zT h 1000000 = (30, L) ∧ ∀ j, j < L → zI h 1000000 j = xs j
def GZ (h : zH) (xs : zW0) (L : Nat) : Prop := TS h ∧ RS h 1 ∧ RS h 15 ∧ RS h 29 ∧ NS h 43 ∧ NS h 56 ∧ MO h ∧ KS h ∧ TpS h ∧ OtS h xs L
def GD (h : zH) (q : Nat) : Prop := zR h 69 1 = .ref (sA q) ∧ zT h (sA q) = (4, 3) ∧ zR h (sA q) 0 = .ref (sA q + 1) ∧ zT h (sA q + 1) = (20, 100)
def GN (h : zH) (q : Nat) : Prop := q ≤ 6 ∧ zN h = 107 + 2 * q ∧ zZ h ≤ 4000 + 103 * q ∧ zI h 0 7 = nI q ∧ zI h 88 9 = nI q
def GO (h : zH) (xs : zW0) (L q : Nat) : Prop := GZ h xs L ∧ GN h q ∧ GD h q ∧ (∀ r, r < q → Sn h r) ∧ GImg h q ∧ GX h ∧ GAct h ∧ GTp h
def GI (h : zH) (xs : zW0) (L : Nat) : Prop := ∃ q n D w c1 c2 c3 sv, GO h xs L q ∧ GM h q n D w c1 c2 c3 sv
/-! what neither the calls that only ask nor those on travellers touch -/
def NG (b k : Nat) : Prop := (1 ≤ b ∧ b ≤ 28 ∧ (b = 1 → 7 ≤ k) ∧ (b = 15 → 7 ≤ k) ∧ ¬ b = 8 ∧ ¬ b = 22) ∨ (45 ≤ b ∧ b ≤ 55 ∧ ¬ b = 48 ∧ ¬ b = 52) ∨ ((b = 44 ∨ b = 48 ∨ b = 52) ∧ k = 3) ∨ SY b k
theorem TS_g {S : Nat → Nat → Prop} (hS : ∀ k, S 0 k → k = 5 ∨ k = 7) (f : FS S h h1) (m : TS h) : TS h1 := by
  have e : ∀ k, ¬ (k = 5 ∨ k = 7) → zR h1 0 k = zR h 0 k := fun k hk => f.2.2.2.2.2 _ _ (fun z => hk (hS k z))
  unfold TS at m ⊢
  rw [f.1, e 0 (by omega), e 1 (by omega), e 2 (by omega), e 3 (by omega), e 4 (by omega), e 6 (by omega), e 8 (by omega), e 9 (by omega)]
  exact m
theorem MO_g {S : Nat → Nat → Prop} (hS : ∀ b k, S b k → SM b k ∨ b < 88 ∨ 107 ≤ b) (f : FS S h h1) (m : MO h) : MO h1 := by
  have e : ∀ k, (k = 0 ∨ k = 1 ∨ k = 2 ∨ k = 5 ∨ k = 7 ∨ k = 8 ∨ k = 10 ∨ (17 ≤ k ∧ k ≤ 23) ∨ (25 ≤ k ∧ k ≤ 28)) → zR h1 88 k = zR h 88 k := fun k hk => f.2.2.2.2.2 _ _ (fun z => by have := hS _ _ z; unfold SM at this; omega)
  refine ⟨?_, fun a h1 h2 k hk => by rw [f.2.2.2.2.1 a k (fun z => by have := hS _ _ z; unfold SM at this; omega)]; exact m.2 a h1 h2 k hk⟩
  have m := m.1
  unfold MS at m ⊢
  rw [f.1, e 0 (by omega), e 1 (by omega), e 2 (by omega), e 5 (by omega), e 7 (by omega), e 8 (by omega), e 10 (by omega), e 17 (by omega), e 18 (by omega), e 19 (by omega), e 20 (by omega), e 21 (by omega), e 22 (by omega), e 23 (by omega), e 25 (by omega), e 26 (by omega), e 27 (by omega), e 28 (by omega)]
  exact m
/-- what may change and leaves the shape -/
def NZ (b k : Nat) : Prop := (b = 0 ∧ (k = 5 ∨ k = 7)) ∨ (1 ≤ b ∧ b ≤ 42 ∧ (b = 1 → 7 ≤ k) ∧ (b = 15 → 7 ≤ k) ∧ (b = 29 → 7 ≤ k) ∧ ¬ b = 8 ∧ ¬ b = 22 ∧ ¬ b = 36) ∨ (45 ≤ b ∧ b ≤ 68 ∧ ¬ b = 56 ∧ ((b = 48 ∨ b = 52 ∨ b = 57 ∨ b = 61 ∨ b = 65) → k = 3)) ∨ (b = 44 ∧ k = 3) ∨ (b = 69 ∧ 1 ≤ k) ∨ (70 ≤ b ∧ b ≤ 72) ∨ (b = 73 ∧ 1 ≤ k) ∨ b = 74 ∨ (76 ≤ b ∧ b ≤ 87 ∧ ¬ k = 2) ∨ SM b k ∨ (107 ≤ b ∧ b < 1000000)
theorem GZ_f {S : Nat → Nat → Prop} (hS : ∀ b k, S b k → NZ b k) (f : FS S h h1) (g : GZ h xs L) : GZ h1 xs L := by
  obtain ⟨g1, g2, g3, g4, g5, g6, g7, g8, g9, g10⟩ := g
  have rs : ∀ a, (a = 1 ∨ a = 15 ∨ a = 29) → RS h a → RS h1 a := fun a ha r => RS_f (fun b h1 h2 k z => by have := hS b k z; unfold NZ SM at this; omega) f r
  have eI : ∀ b k, ¬ NZ b k → zI h1 b k = zI h b k := fun b k q => f.2.2.2.2.1 b k (fun z => q (hS b k z))
  have eR : ∀ b k, ¬ NZ b k → zR h1 b k = zR h b k := fun b k q => f.2.2.2.2.2 b k (fun z => q (hS b k z))
  refine ⟨TS_g (fun k z => by have := hS _ _ z; unfold NZ SM at this; omega) f g1, rs 1 (by omega) g2, rs 15 (by omega) g3, rs 29 (by omega) g4, NS_f f (fun c k hc hk z => by have := hS _ _ z; unfold NZ SM at this; omega) g5, NS_f f (fun c k hc hk z => by have := hS _ _ z; unfold NZ SM at this; omega) g6, MO_g (fun b k z => by
      have := hS _ _ z
      by_cases e : SM b k
      · exact Or.inl e
      · right; unfold NZ at this; simp only [e, false_or, or_false] at this; omega) f g7, KS_f f (fun b k z => by have := hS _ _ z; unfold NZ SM at this; omega) g8, ?_, ?_⟩
  · obtain ⟨p1, p2⟩ := g9
    refine ⟨by rw [f.1]; exact p1, fun i hi => ?_⟩
    obtain ⟨p3, p4, p5, p6⟩ := p2 i hi
    exact ⟨by rw [eR _ _ (by unfold NZ SM; omega)]; exact p3, by rw [f.1]; exact p4, by rw [eR _ _ (by unfold NZ SM; omega)]; exact p5, by rw [f.1]; exact p6⟩
  · obtain ⟨p1, p2, p3, p4, p5, p6, p7, p8⟩ := g10
    exact ⟨by rw [f.1]; exact p1, by rw [eR _ _ (by unfold NZ SM; omega)]; exact p2, by rw [f.1]; exact p3, by rw [f.1]; exact p4, by rw [f.1]; exact p5, by rw [eR _ _ (by unfold NZ SM; omega)]; exact p6, by rw [f.1]; exact p7, fun j hj => by rw [eI _ _ (by unfold NZ SM; omega)]; exact p8 j hj⟩
theorem Sn_f {S : Nat → Nat → Prop} {r : Nat} (hS : ∀ b k, S b k → ¬ b = 94 ∧ ¬ b = 93 ∧ ¬ b = sA r ∧ ¬ b = sA r + 1) (f : FS S h h1) (g : Sn h r) : Sn h1 r := by
  obtain ⟨s, p, cs, py, ex, g1, g2, g3, hc, g4⟩ := g
  have eI : ∀ b k, (b = 94 ∨ b = 93 ∨ b = sA r ∨ b = sA r + 1) → zI h1 b k = zI h b k := fun b k q => f.2.2.2.2.1 b k (fun z => by have := hS b k z; omega)
  have eR : zR h1 (sA r) 0 = zR h (sA r) 0 := f.2.2.2.2.2 _ _ (fun z => (hS _ _ z).2.2.1 rfl)
  refine ⟨s, p, cs, py, ex, by rw [eI _ _ (by omega)]; exact g1, g2, by rw [show zI h1 93 = zI h 93 from funext fun k => eI _ _ (by omega)]; exact g3, by rw [eR]; exact hc, ?_⟩
  rcases g4 with ⟨e, -⟩ | ⟨s', c, L, e1, e2, e3, e4, e5, e6, e7, e8, e9, e10⟩
  · exact absurd e (by simp)
  · have e1' := Value.ref.inj e1
    subst e1'
    have hc' : c = sA r + 1 := by rw [hc] at e8; exact (Value.ref.inj e8).symm
    subst hc'
    exact Or.inr ⟨sA r, sA r + 1, L, rfl, e2, e3, by rw [f.1]; exact e4, by rw [eI _ _ (by omega)]; exact e5, by rw [eI _ _ (by omega)]; exact e6, e7, by rw [eR]; exact e8, by rw [f.1]; exact e9, by rw [show zI h1 (sA r + 1) = zI h (sA r + 1) from funext fun k => eI _ _ (by omega)]; exact e10⟩
/-- what touches no more than NG leaves all the rest -/
theorem NG_Z (b k : Nat) : NG b k → NZ b k := by unfold NG NZ SY SM; omega
theorem GImg_f {S : Nat → Nat → Prop} (hS : ∀ b k, S b k → ¬ (b = 0 ∧ k = 5) ∧ ¬ (b = 88 ∧ k = 3) ∧ ¬ b = 91 ∧ ¬ (29 ≤ b ∧ b < 43) ∧ ¬ (56 ≤ b ∧ b < 69)) (f : FS S h h1) (g : GImg h q) : GImg h1 q := by
  have eI : ∀ b k, ((b = 0 ∧ k = 5) ∨ (b = 88 ∧ k = 3) ∨ b = 91 ∨ (29 ≤ b ∧ b < 43) ∨ (56 ≤ b ∧ b < 69)) → zI h1 b k = zI h b k := fun b k z => f.2.2.2.2.1 b k (fun y => by have := hS b k y; omega)
  rcases g with ⟨g1, g2⟩ | ⟨g1, g2, n, D, w, c1, c2, c3, sv, g3, g4, g5, g6, g7⟩
  · exact Or.inl ⟨by rw [eI _ _ (by omega)]; exact g1, by rw [eI _ _ (by omega)]; exact g2⟩
  · exact Or.inr ⟨by rw [eI _ _ (by omega)]; exact g1, by rw [eI _ _ (by omega)]; exact g2, n, D, w, c1, c2, c3, sv, fun k hk => by rw [eI _ _ (by omega)]; exact g3 k hk, Rv_f (S := fun b k => S b k ∧ ¬ (29 ≤ b ∧ b < 43)) (fun c k z => by omega) (FS_m (fun b k z => ⟨z, (hS b k z).2.2.2.1⟩) f) g6.1.2.1 g4, NR_f f (fun c k h1 h2 z => by have := hS _ _ z; omega) (fun _ _ => rfl) g5, g6, g7⟩
theorem GX_f {S : Nat → Nat → Prop} (hS : ∀ b k, S b k → ¬ (b = 69 ∧ k = 3) ∧ ¬ (b = 88 ∧ k = 6) ∧ ¬ b = 70 ∧ ¬ b = 92) (f : FS S h h1) (g : GX h) : GX h1 := by
  have eI : ∀ b k, ((b = 69 ∧ k = 3) ∨ (b = 88 ∧ k = 6) ∨ b = 70 ∨ b = 92) → zI h1 b k = zI h b k := fun b k z => f.2.2.2.2.1 b k (fun y => by have := hS b k y; omega)
  obtain ⟨s, g1, g2, g3, g4⟩ := g
  exact ⟨s, g1, by rw [eI _ _ (by omega)]; exact g2, by rw [eI _ _ (by omega)]; exact g3, fun k hk => by rw [eI _ _ (by omega), eI _ _ (by omega)]; exact g4 k hk⟩
theorem GAct_f {S : Nat → Nat → Prop} (hS : ∀ b k, S b k → ¬ (b = 73 ∧ k = 1) ∧ ¬ (b = 88 ∧ k = 24) ∧ ¬ b = 74 ∧ ¬ b = 102) (f : FS S h h1) (g : GAct h) : GAct h1 := by
  have eI : ∀ b k, ((b = 73 ∧ k = 1) ∨ (b = 88 ∧ k = 24) ∨ b = 74 ∨ b = 102) → zI h1 b k = zI h b k := fun b k z => f.2.2.2.2.1 b k (fun y => by have := hS b k y; omega)
  obtain ⟨r, g1, g2, g3, g4⟩ := g
  exact ⟨r, g1, by rw [eI _ _ (by omega)]; exact g2, by rw [eI _ _ (by omega)]; exact g3, fun k hk => by rw [eI _ _ (by omega), eI _ _ (by omega)]; exact g4 k hk⟩
theorem GTp_f {S : Nat → Nat → Prop} (hS : ∀ b k, S b k → ¬ (76 ≤ b ∧ b ≤ 87) ∧ ¬ b = 103 ∧ ¬ b = 104) (f : FS S h h1) (g : GTp h) : GTp h1 := by
  have eI : ∀ b k, ((76 ≤ b ∧ b ≤ 87) ∨ b = 103 ∨ b = 104) → zI h1 b k = zI h b k := fun b k z => f.2.2.2.2.1 b k (fun y => by have := hS b k y; omega)
  intro i hi
  obtain ⟨ln, g1, g2, g3, g4, g5, g6, g7⟩ := g i hi
  refine ⟨ln, g1, ?_, ?_, ?_, ?_, ?_, ?_⟩
  · rw [eI _ _ (by omega), eI _ _ (by omega)]; exact g2
  · rw [eI _ _ (by omega)]; exact g3
  · rw [eI _ _ (by omega)]; exact g4
  · rw [eI _ _ (by omega)]; exact g5
  · rw [eI _ _ (by omega)]; exact g6
  · rw [f.2.1]; exact g7
theorem GD_f {S : Nat → Nat → Prop} (hS : ∀ b k, S b k → ¬ (b = 69 ∧ k = 1) ∧ ¬ (b = sA q ∧ k = 0)) (f : FS S h h1) (g : GD h q) : GD h1 q := by
  obtain ⟨g1, g2, g3, g4⟩ := g
  exact ⟨by rw [f.2.2.2.2.2 _ _ (fun z => (hS _ _ z).1 ⟨rfl, rfl⟩)]; exact g1, by rw [f.1]; exact g2, by rw [f.2.2.2.2.2 _ _ (fun z => (hS _ _ z).2 ⟨rfl, rfl⟩)]; exact g3, by rw [f.1]; exact g4⟩
theorem GN_f {S : Nat → Nat → Prop} (hS : ∀ b k, S b k → ¬ (b = 0 ∧ k = 7) ∧ ¬ (b = 88 ∧ k = 9)) (f : FS S h h1) (g : GN h q) : GN h1 q := by
  obtain ⟨g1, g2, g3, g4, g5⟩ := g
  exact ⟨g1, by rw [f.2.2.1]; exact g2, by rw [f.2.2.2.1]; exact g3, by rw [f.2.2.2.2.1 _ _ (fun z => (hS _ _ z).1 ⟨rfl, rfl⟩)]; exact g4, by rw [f.2.2.2.2.1 _ _ (fun z => (hS _ _ z).2 ⟨rfl, rfl⟩)]; exact g5⟩
theorem sA_n (hr : r ≤ 6) : sA r < 120 ∧ (sA r = 71 ∨ 107 ≤ sA r) := by unfold sA; split <;> omega
theorem GO_f {S : Nat → Nat → Prop} (hS : ∀ b k, S b k → NG b k) (f : FS S h h1) (g : GO h xs L q) : GO h1 xs L q := by
  obtain ⟨g1, g2, g3, g4, g5, g6, g7, g8⟩ := g
  have q6 := g2.1
  have hN : ∀ b k, S b k → b < 69 ∨ (88 ≤ b ∧ b ≤ 96) := fun b k z => by have := hS b k z; unfold NG SY at this; omega
  refine ⟨GZ_f (fun b k z => NG_Z b k (hS b k z)) f g1, GN_f (fun b k z => by have := hS b k z; unfold NG SY at this; omega) f g2, GD_f (fun b k z => by have := hN b k z; have := sA_n q6; omega) f g3, fun r hr => Sn_f (fun b k z => by have := hS b k z; unfold NG SY at this; have := sA_n (r := r) (by omega); omega) f (g4 r hr), GImg_f (fun b k z => by have := hS b k z; unfold NG SY at this; omega) f g5, GX_f (fun b k z => by have := hS b k z; unfold NG SY at this; omega) f g6, GAct_f (fun b k z => by have := hS b k z; unfold NG SY at this; omega) f g7, GTp_f (fun b k z => by have := hS b k z; unfold NG SY at this; omega) f g8⟩
/-! what of it the contracts ask for -/
theorem SV_of (g : GO h xs L q) (v : SVp q w sv) : ∃ py ex, Se h sv py ex ∧ Tx h w py ex := by
  rcases v with ⟨v1, v2⟩ | ⟨r, v1, v2, v3⟩
  · exact ⟨10, fun _ => 0, Or.inl ⟨v2, rfl, rfl⟩, Or.inl ⟨v1, rfl, rfl⟩⟩
  · obtain ⟨s, p, cs, py, ex, g1, g2, g3, hc, g4⟩ := g.2.2.2.1 r v1
    have := g.2.1.1
    exact ⟨py, ex, by rw [v3]; exact g4, Or.inr ⟨r, s, p, cs, by omega, v2, g1, g2, g3⟩⟩
theorem G_CQ (g : GO h xs L q) (m : GM h q n D w c1 c2 c3 sv) (s : Se h sv py ex) : CQ h n D w py ex sv := ⟨g.1.1, g.1.2.1, g.1.2.2.1, m.2.1, m.2.2.2.1.1, m.2.2.2.1.2.1, s⟩
theorem G_NQ (g : GO h xs L q) (m : GM h q n D w c1 c2 c3 sv) : NQ h w n c1 c2 c3 := ⟨g.1.2.2.2.2.1, m.2.2.1, m.2.2.2.1.2.2.2.2⟩
theorem G_mQ (g : GO h xs L q) (m : GM h q n D w c1 c2 c3 sv) (t : Tx h w py ex) : mQ h n D w py ex (-1) := ⟨g.1.2.2.2.2.2.2.1, m.1, m.2.2.2.1.1, t, m.2.2.2.2.2⟩
/-- what a call answers: an int or a long -/
def VR : Type := Int32 × Int64
def VR.int (x : Int32) : VR := (x, 0)
def VR.long (u : Int64) : VR := (0, u)
def lgy (y : Nat) : Bool := y == 724 || y == 725 || y == 741
def VR.v (r : VR) (y : Nat) : Value := if lgy y = true then .long r.2 else .int r.1
theorem VR_i (x : Int32) (y : Nat) (h : lgy y = false) : (VR.int x).v y = .int x := if_neg (by rw [h]; decide)
theorem VR_l (u : Int64) (y : Nat) (h : lgy y = true) : (VR.long u).v y = .long u := if_pos h
/-- the law's own cells, at the call between -/
def Fr (h h1 : zH) : Prop := zT h1 88 = zT h 88 ∧ zT h1 1000000 = zT h 1000000 ∧ zI h1 1000000 = zI h 1000000
theorem Fr_f {S : Nat → Nat → Prop} (hS : ∀ k, ¬ S 1000000 k) (f : FS S h h1) : Fr h h1 := ⟨by rw [f.1], by rw [f.1], funext fun k => f.2.2.2.2.1 _ _ (hS k)⟩
theorem Fr_I {b k : Nat} {x : Int32} (hb : ¬ 1000000 = b) : Fr h (wI h b k x) := ⟨rfl, rfl, by rw [zI_wI, if_neg hb]⟩
/-- two calls, one on each side -/
def Pr (h : zH) (xs : zW0) (L : Nat) (y ym : Nat) (as : List Value) : Prop := ∃ (r : VR) (h1 h2 : zH), Fr h h1 ∧ (∀ Q, zCall 60 y (.ref 0 :: as) h Q = Q (some (r.v y)) h1) ∧ (∀ Q, zCall 60 ym (.ref 88 :: as) h1 Q = Q (some (r.v y)) h2) ∧ GI h2 xs L
/-- calls that only ask: the class on its trial, the reference with its row put back -/
theorem Pr_ask0 {y ym : Nat} {as : List Value} {r : VR} (g : GO h xs L q) (m : GM h q n D w c1 c2 c3 sv) (f1 : FS (RA 15) h h1) (g1 : ∀ Q, zCall 60 y (.ref 0 :: as) h Q = Q (some (r.v y)) h1) (f2 : FS SY h1 h2) (e : zI h2 89 = w) (e4 : zI h2 88 4 = -1) (g2 : ∀ Q, zCall 60 ym (.ref 88 :: as) h1 Q = Q (some (r.v y)) h2) : Pr h xs L y ym as := by
  have F : FS (fun b k => RA 15 b k ∨ SY b k) h h2 := FS_t (FS_m (fun b k z => Or.inl z) f1) (FS_m (fun b k z => Or.inr z) f2)
  obtain ⟨m1, m2, m3, m4, m5, m6⟩ := m
  refine ⟨r, h1, h2, Fr_f (fun k z => by unfold RA at z; omega) f1, g1, g2, q, n, D, w, c1, c2, c3, sv, GO_f (fun b k z => by unfold RA at z; unfold NG; by_cases e : SY b k <;> simp only [e, or_true, or_false] at z ⊢ <;> omega) F g, e, ?_, ?_, m4, m5, e4⟩
  · exact Rv_f (fun c k z => by unfold RA SY at z; omega) F m4.1.2.1 m2
  · exact NR_f F (fun c k h1 h2 z => by unfold RA SY at z; omega) (fun _ _ => rfl) m3
theorem Pr_ask {y ym : Nat} {as : List Value} {r : Int32} (g : GO h xs L q) (m : GM h q n D w c1 c2 c3 sv) (f1 : FS (RA 15) h h1) (g1 : ∀ Q, zCall 60 y (.ref 0 :: as) h Q = Q (some (.int r)) h1) (f2 : FS SY h1 h2) (e : zI h2 89 = w) (e4 : zI h2 88 4 = -1) (g2 : ∀ Q, zCall 60 ym (.ref 88 :: as) h1 Q = Q (some (.int r)) h2) (hy : lgy y = false := by decide) : Pr h xs L y ym as := Pr_ask0 (r := .int r) g m f1 (by rw [VR_i r y hy]; exact g1) f2 e e4 (by rw [VR_i r y hy]; exact g2)
theorem Pr_askL {y ym : Nat} {as : List Value} {r : Int64} (g : GO h xs L q) (m : GM h q n D w c1 c2 c3 sv) (f1 : FS (RA 15) h h1) (g1 : ∀ Q, zCall 60 y (.ref 0 :: as) h Q = Q (some (.long r)) h1) (f2 : FS SY h1 h2) (e : zI h2 89 = w) (e4 : zI h2 88 4 = -1) (g2 : ∀ Q, zCall 60 ym (.ref 88 :: as) h1 Q = Q (some (.long r)) h2) (hy : lgy y = true := by decide) : Pr h xs L y ym as := Pr_ask0 (r := .long r) g m f1 (by rw [VR_l r y hy]; exact g1) f2 e e4 (by rw [VR_l r y hy]; exact g2)
