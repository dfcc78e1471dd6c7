/-! THE MINI MACHINE AND THE JVM: what a mini state is at the real one -/
/-- a value: kv has the constants' (script, tables, texts) -/
def zV (kv : Nat → Option Nat) (ρ : List Nat) : Value → Option Value
  | .ref i => if i < 1000000 then (ρ[i]?).map Value.ref else if i < 1000014 then some (va_rf (kv (i - 1000000))) else none
  | v => some v
theorem zV_int {kv : Nat → Option Nat} {ρ : List Nat} {x : Int32} : zV kv ρ (.int x) = some (.int x) := rfl
theorem zV_long {kv : Nat → Option Nat} {ρ : List Nat} {x : Int64} : zV kv ρ (.long x) = some (.long x) := rfl
theorem zV_null {kv : Nat → Option Nat} {ρ : List Nat} : zV kv ρ .null = some .null := rfl
theorem zV_up {kv : Nat → Option Nat} {ρ ρ' : List Nat} (hp : ρ <+: ρ') {v v' : Value} (h : zV kv ρ v = some v') : zV kv ρ' v = some v' := by
  cases v with
  | ref i =>
    unfold zV at h ⊢
    dsimp only at h ⊢
    split at h
    · rename_i hi
      rw [if_pos hi]
      obtain ⟨t, rfl⟩ := hp
      cases hr : ρ[i]? with
      | none => rw [hr] at h; cases h
      | some a =>
        rw [hr] at h
        rw [List.getElem?_append_left (List.getElem?_eq_some_iff.mp hr).1, hr]
        exact h
    · rename_i hi
      rw [if_neg hi]
      exact h
  | _ => exact h
theorem zV_cat {kv : Nat → Option Nat} {ρ : List Nat} {v v' : Value} (h : zV kv ρ v = some v') : v'.category = v.category := by
  cases v with
  | ref i =>
    unfold zV at h
    dsimp only at h
    split at h
    · cases hr : ρ[i]? with
      | none => rw [hr] at h; cases h
      | some a => rw [hr] at h; cases h; rfl
    · split at h
      · cases h
        cases kv (i - 1000000) <;> rfl
      · cases h
  | _ => cases h; rfl
def zSR (kv : Nat → Option Nat) (ρ : List Nat) : List Value → List Value → Prop
  | [], [] => True
  | v :: s, v' :: s' => zV kv ρ v = some v' ∧ zSR kv ρ s s'
  | _, _ => False
theorem zSR_up {kv : Nat → Option Nat} {ρ ρ' : List Nat} (hp : ρ <+: ρ') : ∀ {s s' : List Value}, zSR kv ρ s s' → zSR kv ρ' s s'
  | [], [], _ => trivial
  | _ :: _, _ :: _, h => ⟨zV_up hp h.1, zSR_up hp h.2⟩
  | [], _ :: _, h => h.elim
  | _ :: _, [], h => h.elim
theorem zSR_c {kv : Nat → Option Nat} {ρ : List Nat} {v : Value} {s t : List Value} (h : zSR kv ρ (v :: s) t) : ∃ v' t', t = v' :: t' ∧ zV kv ρ v = some v' ∧ zSR kv ρ s t' := by
  cases t with
  | nil => exact h.elim
  | cons v' t' => exact ⟨v', t', rfl, h.1, h.2⟩
theorem zSR_i {kv : Nat → Option Nat} {ρ : List Nat} {x : Int32} {s t : List Value} (h : zSR kv ρ (.int x :: s) t) : ∃ t', t = .int x :: t' ∧ zSR kv ρ s t' := by
  obtain ⟨v', t', rfl, h1, h2⟩ := zSR_c h
  cases h1
  exact ⟨t', rfl, h2⟩
theorem zSR_j {kv : Nat → Option Nat} {ρ : List Nat} {x : Int64} {s t : List Value} (h : zSR kv ρ (.long x :: s) t) : ∃ t', t = .long x :: t' ∧ zSR kv ρ s t' := by
  obtain ⟨v', t', rfl, h1, h2⟩ := zSR_c h
  cases h1
  exact ⟨t', rfl, h2⟩
theorem zSR_n {kv : Nat → Option Nat} {ρ : List Nat} {s t : List Value} (h : zSR kv ρ (.null :: s) t) : ∃ t', t = .null :: t' ∧ zSR kv ρ s t' := by
  obtain ⟨v', t', rfl, h1, h2⟩ := zSR_c h
  cases h1
  exact ⟨t', rfl, h2⟩
theorem zSR_0 {kv : Nat → Option Nat} {ρ : List Nat} {t : List Value} (h : zSR kv ρ [] t) : t = [] := by
  cases t with
  | nil => rfl
  | cons v' t' => exact h.elim
/-- the locals -/
def zLR (kv : Nat → Option Nat) (ρ : List Nat) (L : zL) (ls : Array Slot) (nL : Nat) : Prop := lv_wf ls ∧ ls.size = nL ∧ L.length = nL ∧ ∀ (k : Nat) (v : Value), lg L k = some v → ∃ v' : Value, zV kv ρ v = some v' ∧ ls[k]? = some (.val v')
theorem zLR_up {kv : Nat → Option Nat} {ρ ρ' : List Nat} (hp : ρ <+: ρ') {L : zL} {ls : Array Slot} {nL : Nat} (h : zLR kv ρ L ls nL) : zLR kv ρ' L ls nL :=
  ⟨h.1, h.2.1, h.2.2.1, fun k v hv => by obtain ⟨v', a, b⟩ := h.2.2.2 k v hv; exact ⟨v', zV_up hp a, b⟩⟩
theorem zLR_i {kv : Nat → Option Nat} {ρ : List Nat} {L : zL} {ls : Array Slot} {nL k : Nat} {x : Int32} (h : zLR kv ρ L ls nL) (hk : lg L k = some (.int x)) : ls[k]? = some (.val (.int x)) := by
  obtain ⟨v', a, b⟩ := h.2.2.2 k _ hk
  cases a
  exact b
theorem zLR_j {kv : Nat → Option Nat} {ρ : List Nat} {L : zL} {ls : Array Slot} {nL k : Nat} {x : Int64} (h : zLR kv ρ L ls nL) (hk : lg L k = some (.long x)) : ls[k]? = some (.val (.long x)) := by
  obtain ⟨v', a, b⟩ := h.2.2.2 k _ hk
  cases a
  exact b
/-- all that the locals hold, as the kit's list -/
def zAll (ls : Array Slot) : List (Nat × Value) := (List.range ls.size).filterMap (fun i => match (ls[i]? : Option Slot) with
  | some (Slot.val v) => some (i, v)
  | _ => none)
theorem zAll_in {ls : Array Slot} {q : Nat × Value} : q ∈ zAll ls ↔ ls[q.1]? = some (.val q.2) := by
  unfold zAll
  rw [List.mem_filterMap]
  constructor
  · rintro ⟨i, -, hi⟩
    split at hi
    · rename_i v hv
      cases hi
      exact hv
    · cases hi
  · intro h
    exact ⟨q.1, List.mem_range.mpr (Array.getElem?_eq_some_iff.mp h).1, by rw [h]⟩
theorem zAll_has {ls : Array Slot} {nL : Nat} (hw : lv_wf ls) (hs : ls.size = nL) : lv_has ls nL (zAll ls) := ⟨hs, hw, fun _ hq => zAll_in.mp hq⟩
theorem lg_ls1 : ∀ (L : zL) (k : Nat) (v : Value) (j : Nat) (w : Value), lg (ls1 L k v) j = some w → (j = k ∧ w = v ∧ k < L.length) ∨ (j ≠ k ∧ lg L j = some w ∧ ¬ (j + 1 = k ∧ w.category = 2))
  | [], k, v, j, w, h => by cases k <;> cases j <;> simp [ls1, lg] at h
  | a :: L, 0, v, j, w, h => by
    cases j with
    | zero => simp only [ls1, lg, Option.some.injEq] at h; exact Or.inl ⟨rfl, h.symm, by simp⟩
    | succ j => simp only [ls1, lg] at h; exact Or.inr ⟨by omega, by simpa [lg] using h, by omega⟩
  | a :: L, 1, v, j, w, h => by
    cases j with
    | zero =>
      simp only [ls1, lg] at h
      refine Or.inr ⟨by omega, ?_, ?_⟩
      · rcases a with _ | a
        · simpa [kl, lg] using h
        · cases a <;> simp_all [kl, lg]
      · rintro ⟨-, hc⟩
        rcases a with _ | a
        · simp [kl] at h
        · cases a <;> simp [kl] at h <;> subst h <;> simp [Value.category] at hc
    | succ j =>
      simp only [ls1, lg] at h
      rcases lg_ls1 L 0 v j w h with ⟨h1, h2, h3⟩ | ⟨h1, h2, h3⟩
      · exact Or.inl ⟨by omega, h2, by simp; omega⟩
      · exact Or.inr ⟨by omega, by simpa [lg] using h2, by omega⟩
  | a :: L, k + 2, v, j, w, h => by
    cases j with
    | zero => simp only [ls1, lg] at h; exact Or.inr ⟨by omega, by simpa [lg] using h, by omega⟩
    | succ j =>
      simp only [ls1, lg] at h
      rcases lg_ls1 L (k + 1) v j w h with ⟨h1, h2, h3⟩ | ⟨h1, h2, h3⟩
      · exact Or.inl ⟨by omega, h2, by simp; omega⟩
      · exact Or.inr ⟨by omega, by simpa [lg] using h2, fun z => h3 ⟨by omega, z.2⟩⟩
theorem len_ls1 : ∀ (L : zL) (k : Nat) (v : Value), (ls1 L k v).length = L.length
  | [], _, _ => by simp [ls1]
  | _ :: _, 0, _ => by simp [ls1]
  | _ :: L, 1, v => by simp [ls1, len_ls1 L 0 v]
  | _ :: L, k + 2, v => by simp [ls1, len_ls1 L (k + 1) v]
theorem lg_ls2 : ∀ (L : zL) (k : Nat) (v : Value) (j : Nat) (w : Value), k + 1 < L.length → lg (ls2 L k v) j = some w → (j = k ∧ w = v) ∨ (j ≠ k ∧ j ≠ k + 1 ∧ lg L j = some w ∧ ¬ (j + 1 = k ∧ w.category = 2))
  | [], k, v, j, w, hl, h => by simp at hl
  | [a], k, v, j, w, hl, h => by simp at hl
  | a :: b :: L, 0, v, j, w, hl, h => by
    cases j with
    | zero => simp only [ls2, lg, Option.some.injEq] at h; exact Or.inl ⟨rfl, h.symm⟩
    | succ j =>
      cases j with
      | zero => simp [ls2, lg] at h
      | succ j => simp only [ls2, lg] at h; exact Or.inr ⟨by omega, by omega, by simpa [lg] using h, by omega⟩
  | a :: b :: L, 1, v, j, w, hl, h => by
    cases j with
    | zero =>
      simp only [ls2, lg] at h
      refine Or.inr ⟨by omega, by omega, ?_, ?_⟩
      · rcases a with _ | a
        · simpa [kl, lg] using h
        · cases a <;> simp_all [kl, lg]
      · rintro ⟨-, hc⟩
        rcases a with _ | a
        · simp [kl] at h
        · cases a <;> simp [kl] at h <;> subst h <;> simp [Value.category] at hc
    | succ j =>
      simp only [ls2, lg] at h
      rcases lg_ls2 (b :: L) 0 v j w (by simp at hl ⊢; omega) h with ⟨h1, h2⟩ | ⟨h1, h2, h3, h4⟩
      · exact Or.inl ⟨by omega, h2⟩
      · exact Or.inr ⟨by omega, by omega, by simpa [lg] using h3, by omega⟩
  | a :: b :: L, k + 2, v, j, w, hl, h => by
    cases j with
    | zero => simp only [ls2, lg] at h; exact Or.inr ⟨by omega, by omega, by simpa [lg] using h, by omega⟩
    | succ j =>
      simp only [ls2, lg] at h
      rcases lg_ls2 (b :: L) (k + 1) v j w (by simp at hl ⊢; omega) h with ⟨h1, h2⟩ | ⟨h1, h2, h3, h4⟩
      · exact Or.inl ⟨by omega, h2⟩
      · exact Or.inr ⟨by omega, by omega, by simpa [lg] using h3, fun z => h4 ⟨by omega, z.2⟩⟩
theorem len_ls2 : ∀ (L : zL) (k : Nat) (v : Value), (ls2 L k v).length = L.length
  | [], k, _ => by cases k <;> simp [ls2]
  | [a], 0, _ => by simp [ls2]
  | a :: b :: L, 0, _ => by simp [ls2]
  | a :: L, 1, v => by simp [ls2, len_ls2 L 0 v]
  | a :: L, k + 2, v => by simp [ls2, len_ls2 L (k + 1) v]
/-- behind a store of one word -/
theorem zLR_st1 {kv : Nat → Option Nat} {ρ : List Nat} {L : zL} {ls ls' : Array Slot} {nL k : Nat} {v v' : Value} (h : zLR kv ρ L ls nL) (hv : zV kv ρ v = some v') (hs : lv_has ls' nL ((k, v') :: (zAll ls).filter (fun q => !(q.1 == k) && !(q.1 + 1 == k && q.2.category == 2)))) : zLR kv ρ (ls1 L k v) ls' nL := by
  obtain ⟨h1, h2, h3, h4⟩ := h
  refine ⟨hs.2.1, hs.1, by rw [len_ls1]; exact h3, fun j w hw => ?_⟩
  rcases lg_ls1 L k v j w hw with ⟨rfl, rfl, -⟩ | ⟨hj, hl, hc⟩
  · exact ⟨v', hv, hs.2.2 (j, v') List.mem_cons_self⟩
  · obtain ⟨w', g1, g2⟩ := h4 j w hl
    refine ⟨w', g1, hs.2.2 (j, w') (List.mem_cons_of_mem _ (List.mem_filter.mpr ⟨zAll_in.mpr g2, ?_⟩))⟩
    have hcw : w'.category = w.category := zV_cat g1
    simp only [Bool.and_eq_true, Bool.not_eq_true', beq_eq_false_iff_ne, ne_eq, Bool.and_eq_false_iff]
    refine ⟨hj, ?_⟩
    by_cases e : j + 1 = k
    · right
      rw [hcw]
      simpa using fun z => hc ⟨e, z⟩
    · exact Or.inl e
/-- behind a store of two words -/
theorem zLR_st2 {kv : Nat → Option Nat} {ρ : List Nat} {L : zL} {ls ls' : Array Slot} {nL k : Nat} {v v' : Value} (h : zLR kv ρ L ls nL) (hk : k + 1 < L.length) (hv : zV kv ρ v = some v') (hs : lv_has ls' nL ((k, v') :: (zAll ls).filter (fun q => !(q.1 == k) && (!(q.1 == k + 1) && !(q.1 + 1 == k && q.2.category == 2))))) : zLR kv ρ (ls2 L k v) ls' nL := by
  obtain ⟨h1, h2, h3, h4⟩ := h
  refine ⟨hs.2.1, hs.1, by rw [len_ls2]; exact h3, fun j w hw => ?_⟩
  rcases lg_ls2 L k v j w hk hw with ⟨rfl, rfl⟩ | ⟨hj, hj2, hl, hc⟩
  · exact ⟨v', hv, hs.2.2 (j, v') List.mem_cons_self⟩
  · obtain ⟨w', g1, g2⟩ := h4 j w hl
    refine ⟨w', g1, hs.2.2 (j, w') (List.mem_cons_of_mem _ (List.mem_filter.mpr ⟨zAll_in.mpr g2, ?_⟩))⟩
    have hcw : w'.category = w.category := zV_cat g1
    simp only [Bool.and_eq_true, Bool.not_eq_true', beq_eq_false_iff_ne, ne_eq, Bool.and_eq_false_iff]
    refine ⟨hj, hj2, ?_⟩
    by_cases e : j + 1 = k
    · right
      rw [hcw]
      simpa using fun z => hc ⟨e, z⟩
    · exact Or.inl e
/-! constants of the mini heap -/
def zkA : List Int32 := [-1, 0, 0, 0, 1, 2, 3]
def zkB : List Int32 := [10, 11, 12, 0, 20, 0, 30, 0, 0, 0, 0, 40, 50, 51, 0, 0, 0, 60, 71, 70, 0]
/-- the texts' bytes, in the order of the tables' words -/
def zkS : List (List Int32) := [[112, 97, 121, 32], [109, 111, 114, 101, 32], [108, 101, 115, 115, 32], [112, 107, 118, 119, 116, 100], [60, 61, 62]]
def zK (xs : Nat → Int32) (Ls : Nat) (h : zH) : Prop :=
  ((∀ i, 1000000 ≤ i → i < 1000014 → 30 ≤ (zT h i).1) ∧ zT h 1000013 = (33, 0)) ∧ (zT h 1000000 = (30, Ls) ∧ ∀ j, j < Ls → zI h 1000000 j = xs j) ∧ (zT h 1000001 = (30, 7) ∧ ∀ j, j < 7 → zI h 1000001 j = zkA.getD j 0) ∧ (zT h 1000002 = (30, 21) ∧ ∀ j, j < 21 → zI h 1000002 j = zkB.getD j 0) ∧
  (∀ k, k < 5 → zT h (1000003 + k) = (31, 0) ∧ zR h (1000003 + k) 0 = .ref (1000008 + k)) ∧ ∀ k, k < 5 → zT h (1000008 + k) = (32, (zkS.getD k []).length) ∧ ∀ j, j < (zkS.getD k []).length → zI h (1000008 + k) j = (zkS.getD k []).getD j 0
/-- kinds of arrays -/
def zty (k : Nat) : FieldType := if k = 20 then .int else if k = 21 then .byte else if k = 22 then .char else if k = 23 then .boolean else if k = 24 then .long else if k = 25 then .object "TurnBack$Tape" else .array .int
def zTys (cid : Nat → ClassId) : List (ClassId × FieldType) := [(cid 20, .int), (cid 21, .byte), (cid 22, .char), (cid 23, .boolean), (cid 24, .long), (cid 25, .object "TurnBack$Tape"), (cid 26, .array .int)]
/-- the fields that are references -/
def zrf (c k : Nat) : Bool := (([[true, false, false, false, false], [true, true, true], [true, true, true, true, true, true, true, false, false, false, true, false], [true, true, true, false], [true, false, false], [true, true, false, false], [false, false, true], [true, true, true, true, true, false, true, false, true, true], [true, true, true, false, false, true, false, true, true, false, true, false, false, false, false, false, false, true, true, true, true, true, true, true, false, true, true, true, true]] : List (List Bool)).getD c []).getD k false
/-- a cell -/
def zCR (cid : Nat → ClassId) (kv : Nat → Option Nat) (ρ : List Nat) (h : zH) (i : Nat) (e : va_E) : Prop :=
  ((zT h i).1 < 20 ∧ ∃ fs : List Value, e = .inr ((zT h i).1, fs) ∧ fs.length = (zT h i).2 ∧ ∀ (j : Nat) (v' : Value), fs[j]? = some v' → if zrf (zT h i).1 j = true then zV kv ρ (zR h i j) = some v' ∧ ((∃ a, zR h i j = .ref a) ∨ zR h i j = .null) else v' = .int (zI h i j)) ∨
  (20 ≤ (zT h i).1 ∧ (zT h i).1 < 24 ∧ e = .inl (cid (zT h i).1, (zT h i).2, .inl (zI h i))) ∨
  ((zT h i).1 = 24 ∧ e = .inl (cid 24, (zT h i).2, .inr (.inl (zJ h i)))) ∨
  (25 ≤ (zT h i).1 ∧ (zT h i).1 < 27 ∧ ∃ r : Nat → Option Nat, e = .inl (cid (zT h i).1, (zT h i).2, .inr (.inr (.inr (.inr r)))) ∧ ∀ j, j < (zT h i).2 → zV kv ρ (zR h i j) = some (va_rf (r j)))
def zA (N0 : Nat) : Nat → Prop := fun q => N0 ≤ q
/-- the heap -/
def zSim (D : va_G) (cid : Nat → ClassId) (kv : Nat → Option Nat) (N0 : Nat) (xs : Nat → Int32) (Ls : Nat) (ρ : List Nat) (h : zH) (H : Heap) : Prop :=
  ∃ ws : va_W, ws.map Prod.fst = ρ ∧ va_P D vwCl ws H ∧ va_D (zA N0) ws ∧ ρ.length = zN h ∧ zN h ≤ 1000000 ∧ zK xs Ls h ∧ ∀ (i a : Nat) (e : va_E), ws[i]? = some (a, e) → zCR cid kv ρ h i e
theorem zCR_up {cid : Nat → ClassId} {kv : Nat → Option Nat} {ρ ρ' : List Nat} (hp : ρ <+: ρ') {h : zH} {i : Nat} {e : va_E} (g : zCR cid kv ρ h i e) : zCR cid kv ρ' h i e := by
  rcases g with ⟨h1, fs, h2, h3, h4⟩ | g | g | ⟨h1, h2, r, h3, h4⟩
  · refine Or.inl ⟨h1, fs, h2, h3, fun j v' hj => ?_⟩
    have := h4 j v' hj
    split at this
    · rename_i hr
      rw [if_pos hr]
      exact ⟨zV_up hp this.1, this.2⟩
    · rename_i hr
      rw [if_neg hr]
      exact this
  · exact Or.inr (Or.inl g)
  · exact Or.inr (Or.inr (Or.inl g))
  · exact Or.inr (Or.inr (Or.inr ⟨h1, h2, r, h3, fun j hj => zV_up hp (h4 j hj)⟩))
/-- a cell does not look beyond its own rows -/
theorem zCR_eq {cid : Nat → ClassId} {kv : Nat → Option Nat} {ρ : List Nat} {h h' : zH} {i : Nat} {e : va_E} (g : zCR cid kv ρ h i e) (hT : zT h' i = zT h i) (hI : zI h' i = zI h i) (hJ : zJ h' i = zJ h i) (hR : zR h' i = zR h i) : zCR cid kv ρ h' i e := by
  unfold zCR
  rw [hT, hI, hJ, hR]
  exact g
/-- the cell at an address -/
theorem zSim_at {kv : Nat → Option Nat} {xs : Nat → Int32} {Ls : Nat} {ρ : List Nat} {h : zH} {i : Nat} {v' : Value} (hK : zK xs Ls h) {ws : va_W} (hρ : ws.map Prod.fst = ρ) (hv : zV kv ρ (.ref i) = some v') (hk : (zT h i).1 < 30) : ∃ (a : Nat) (e : va_E), v' = .ref a ∧ ws[i]? = some (a, e) := by
  unfold zV at hv
  dsimp only at hv
  split at hv
  · rw [← hρ, List.getElem?_map] at hv
    cases hw : ws[i]? with
    | none => rw [hw] at hv; cases hv
    | some q =>
      rw [hw] at hv
      cases hv
      exact ⟨q.1, q.2, rfl, rfl⟩
  · rename_i h1
    split at hv
    · rename_i h2
      have := hK.1.1 i (Nat.not_lt.mp h1) h2
      omega
    · cases hv
