/-! new int[6][4]: my own row for multianewarray -/
def ymI (comp : ClassId) : Cell := arrV comp 4 (fun _ => .int 0)
def ymO (cA : ClassId) (h0 i : Nat) : Cell := arrV cA 6 (fun j => va_rf (if j < i then some (h0 + 1 + j) else none))
def ymS (s : State) (cA comp : ClassId) : Nat → State
  | 0 => s.pushCell (ymO cA s.heap.size 0)
  | i + 1 => ((ymS s cA comp i).pushCell (ymI comp)).setCell s.heap.size ((ymO cA s.heap.size i).setSlot i (.ref (s.heap.size + 1 + i)))
theorem ymO_set (cA : ClassId) (h0 i : Nat) : (ymO cA h0 i).setSlot i (.ref (h0 + 1 + i)) = ymO cA h0 (i + 1) := by
  unfold ymO
  rw [arrV_store]
  refine congrArg (arrV cA 6) (funext fun j => ?_)
  unfold updV
  by_cases e : j = i
  · subst e
    rw [if_pos rfl, if_pos (Nat.lt_succ_self _)]
    rfl
  · rw [if_neg e]
    show va_rf (if j < i then some (h0 + 1 + j) else none) = _
    by_cases h : j < i
    · rw [if_pos h, if_pos (Nat.lt_succ_of_lt h)]
    · rw [if_neg h, if_neg (by omega)]
theorem ymS_f (s : State) (cA comp : ClassId) : ∀ i, (ymS s cA comp i).heap.size = s.heap.size + 1 + i ∧ (ymS s cA comp i).heap[s.heap.size]? = some (ymO cA s.heap.size i) ∧ (ymS s cA comp i).vm = s.vm ∧ (ymS s cA comp i).slotsUsed = s.slotsUsed + 6 + 4 * i ∧ (∀ q : Nat, q < s.heap.size → (ymS s cA comp i).heap[q]? = s.heap[q]?) ∧ ∀ j : Nat, j < i → (ymS s cA comp i).heap[s.heap.size + 1 + j]? = some (ymI comp)
  | 0 => by
    refine ⟨by simp [ymS], by simp [ymS], rfl, by simp [ymS, ymO, arrV_size], fun q hq => State.heap_pushCell_of_lt _ _ hq, fun j hj => absurd hj (Nat.not_lt_zero j)⟩
  | i + 1 => by
    obtain ⟨h1, h2, h3, h4, h5, h6⟩ := ymS_f s cA comp i
    have e1 : (ymS s cA comp (i + 1)).heap = ((ymS s cA comp i).heap.push (ymI comp)).setIfInBounds s.heap.size (ymO cA s.heap.size (i + 1)) := by
      show (((ymS s cA comp i).pushCell (ymI comp)).setCell s.heap.size _).heap = _
      rw [ymO_set]
      rfl
    have hq : ∀ q : Nat, q ≠ s.heap.size → q < s.heap.size + 1 + i → (ymS s cA comp (i + 1)).heap[q]? = (ymS s cA comp i).heap[q]? := fun q hq hl => by
      rw [e1, Array.getElem?_setIfInBounds_ne (Ne.symm hq), Array.getElem?_push, if_neg (by omega)]
    refine ⟨by rw [e1]; simp [h1]; omega, ?_, h3, ?_, fun q hl => (hq q (by omega) (by omega)).trans (h5 q hl), fun j hj => ?_⟩
    · rw [e1, Array.getElem?_setIfInBounds]
      simp [h1]
      omega
    · show (ymS s cA comp i).slotsUsed + (ymI comp).slots.size = _
      rw [h4, ymI, arrV_size]
      omega
    · by_cases hji : j < i
      · rw [hq _ (by omega) (by omega)]
        exact h6 j hji
      · have e2 : j = i := by omega
        subst e2
        rw [e1, Array.getElem?_setIfInBounds_ne (by omega), Array.getElem?_push, if_pos (by omega)]
theorem ymS_top (s : State) (f : JFrame) (cA comp : ClassId) : ∀ i, ymS (s.setTop f) cA comp i = (ymS s cA comp i).setTop f
  | 0 => rfl
  | i + 1 => by simp only [ymS, ymS_top s f cA comp i, State.heap_setTop, State.pushCell_setTop, State.setCell_setTop]
section YM
variable {p : Program} {l : Launch} {e : Env} {R : Room} {s : State} {m : MethodId} {args : Array Value} {below : List Frame} {meth : Method} {c : Code} {T : State} {locs : List Loc} {cells slots : Nat}
theorem ymS_stand (X : Stand p l e R s m args below meth c T locs cells slots) (cA comp : ClassId) : ∀ i, Stand p l e R s m args below meth c (ymS T cA comp i) (locs ++ (List.range i).map fun j => ⟨T.heap.size, j⟩) (cells + 1 + i) (slots + 6 + 4 * i)
  | 0 => by
    have h := X.pushed (ymO cA T.heap.size 0)
    have e1 : (ymO cA T.heap.size 0).slots.size = 6 := by rw [ymO, arrV_size]
    rw [e1] at h
    rw [List.range_zero, List.map_nil, List.append_nil]
    exact h
  | i + 1 => by
    have h := (ymS_stand X cA comp i).pushed (ymI comp)
    obtain ⟨f1, f2, -⟩ := ymS_f T cA comp i
    have e1 : (ymI comp).slots.size = 4 := by rw [ymI, arrV_size]
    have hl : T.heap.size < (ymS T cA comp i).heap.size := by rw [f1]; omega
    have h2 := h.stored (a := T.heap.size) (cell := ymO cA T.heap.size i) ((State.heap_pushCell_of_lt _ _ hl).trans f2) i (.ref (T.heap.size + 1 + i))
    rw [e1] at h2
    have e2 : (locs ++ (List.range (i + 1)).map fun j => (⟨T.heap.size, j⟩ : Loc)) = (locs ++ (List.range i).map fun j => (⟨T.heap.size, j⟩ : Loc)) ++ [⟨T.heap.size, i⟩] := by simp [List.range_succ, List.append_assoc]
    rw [e2, show cells + 1 + (i + 1) = cells + 1 + i + 1 by omega, show slots + 6 + 4 * (i + 1) = slots + 6 + 4 * i + 4 by omega]
    exact h2
end YM
section YW
variable {E : CtlPost} {e : Env} {d : Bool} {acts : List Action} {s : State}
theorem ym_make {cA comp cc : ClassId} {kA kC : Class} (hkA : s.vm.classes[cA]? = some kA) (hkindA : kA.kind = .array comp (.array .int)) (hkC : s.vm.classes[comp]? = some kC) (hkindC : kC.kind = .array cc .int) (hl1 : ¬ 6 > e.platform.arrayLengthLimit) (hh1 : ¬ 6 * componentBytes (.array .int) > e.platform.maxHeapBytes) (hh2 : ¬ 4 * componentBytes .int > e.platform.maxHeapBytes) (hc : s.heap.size + 7 ≤ e.platform.maxCells) (hs : s.slotsUsed + 30 ≤ e.platform.maxSlots) {Q : Addr → Pre} (hq : ∀ d' acts', Q s.heap.size d' acts' (ymS s cA comp 6)) : Sem.wp (multianewarray.make cA [6, 4]) Q E e d acts s := by
  have n6 : (6 : Int32).toNatClampNeg = 6 := by decide
  have n4 : (4 : Int32).toNatClampNeg = 4 := by decide
  have hfind : ([(4 : Int32)].find? (· < 0)) = none := by decide
  rw [multianewarray.make]
  simp only [wp_bind', W.ite, show ¬ (6 : Int32) < 0 by decide, if_false, wp_pure', W.theClass, hkA, hkindA, Option.some.injEq, exists_eq_left', n6]
  refine W.newArray_of hkA hkindA hl1 hh1 (by omega) (by omega) rfl (fun acts' => ?_)
  rw [show ({ cls := cA, slots := Array.replicate 6 Value.null } : Cell) = ymO cA s.heap.size 0 from arrV_new cA 6 .null]
  show Sem.wp _ Q E e _ _ (ymS s cA comp 0)
  simp only [hfind]
  rw [ite_self, wp_bind', Std.Legacy.Range.forIn_eq_forIn_range']
  show Sem.wp (forIn (List.range' 0 6 1) PUnit.unit _) _ E e _ _ _
  refine wp_forIn_inv (fun rest s' => ∃ i, i ≤ 6 ∧ rest = List.range' i (6 - i) ∧ s' = ymS s cA comp i) _ _ ⟨0, by omega, rfl, rfl⟩ ?_ ?_
  · rintro x rest s' d' acts' Q' ⟨i, hi, hl, rfl⟩ hnext
    have hlt : i < 6 := by
      rcases Nat.lt_or_ge i 6 with h | h
      · exact h
      · rw [show 6 - i = 0 by omega] at hl; cases hl
    rw [show 6 - i = (6 - (i + 1)) + 1 by omega, List.range'_succ] at hl
    obtain ⟨rfl, hrest⟩ := List.cons.inj hl
    obtain ⟨f1, f2, f3, f4, -, -⟩ := ymS_f s cA comp x
    simp only [wp_bind']
    rw [multianewarray.make]
    simp only [wp_bind', W.ite, show ¬ (4 : Int32) < 0 by decide, if_false, wp_pure', W.theClass, f3, hkC, hkindC, Option.some.injEq, exists_eq_left', n4]
    refine W.newArray_of (by rw [f3]; exact hkC) hkindC (by omega) hh2 (by omega) (by omega) rfl (fun acts2 => ?_)
    rw [show ({ cls := comp, slots := Array.replicate 4 (defaultValue .int) } : Cell) = ymI comp from arrV_new comp 4 (.int 0)]
    simp only [wp_bind', W.writeLoc, wp_pure']
    have hl0 : s.heap.size < (ymS s cA comp x).heap.size := by rw [f1]; omega
    refine ⟨ymO cA s.heap.size x, (State.heap_pushCell_of_lt _ _ hl0).trans f2, (fun h => by cases h), (by rw [ymO, arrV_size]; exact hlt), ?_, ?_⟩
    · simp [State.fitsSlot, State.slotType?, ymO, arrV, f3, hkA, hkindA]
      rfl
    · rw [f1]
      exact hnext _ _ _ ⟨x + 1, by omega, hrest, rfl⟩
  · rintro s' d' acts' ⟨i, hi, hl, rfl⟩
    have hi6 : i = 6 := by
      rcases Nat.lt_or_ge i 6 with h | h
      · rw [show 6 - i = (6 - (i + 1)) + 1 by omega, List.range'_succ] at hl; cases hl
      · omega
    subst hi6
    simp only [wp_pure']
    exact hq _ _
end YW
section YR
variable {p : Program} {l : Launch} {e : Env} {R : Room} {s : State} {m : MethodId} {args : Array Value} {below : List Frame} {meth : Method} {c : Code} {H : Heap} {locs : List Loc} {cells slots : Nat} {Qf : State → Prop} {cc : ByteArray} {pc : Nat} {ls : Array Slot} {rest : List Value}
theorem ym_row (hexec : p.tables.exec = Jvm.exec) (hb : c.code = cc) {own : String} {index : Nat} (hown : s.vm.findClass own = some m.cls) (hclink : (Cond.classLink own index "[[I").before args s = true) (hover : va_AB s) (harr : (Cond.arrayClass .int).before args s = true) (hdg : decode cc pc = .ok (.multianewarray index 2, 4)) (hcells : cells + 7 ≤ R.cells) (hslots : slots + 30 ≤ R.slots)
    (kk : ∀ (cA comp : ClassId) (H1 : Heap), s.vm.findClass "[[I" = some cA → s.vm.findClass "[I" = some comp → H1.size = H.size + 7 → (∀ q : Nat, q < H.size → H1[q]? = H[q]?) → H1[H.size]? = some (ymO cA H.size 6) → (∀ j : Nat, j < 6 → H1[H.size + 1 + j]? = some (ymI comp)) → W p l e R s m args below meth c H1 (locs ++ (List.range 6).map fun j => ⟨H.size, j⟩) (cells + 7) (slots + 30) Qf (F0 m (pc + 4) ls (.ref H.size :: rest))) : W p l e R s m args below meth c H locs cells slots Qf (F0 m pc ls (.int 4 :: .int 6 :: rest)) := by
  intro T hT X
  subst hT
  subst hb
  have hpl : e.platform.magicAccessors = ({} : Platform).magicAccessors := by rw [X.admits.platform]
  obtain ⟨comp, cA, kA, hcomp, -, hkA, hkindA, hnameA⟩ := arrayOverA_spec hover
  obtain ⟨comp', kC, cc', hcomp', hkC, hkindC⟩ := Cond.arrayClass_spec harr
  have ecomp : comp' = comp := Option.some.inj (hcomp'.symm.trans hcomp)
  subst ecomp
  obtain ⟨c0, hfc0, hcl⟩ := Cond.classLink_spec hown hclink e.platform hpl
  have eA : c0 = cA := Option.some.inj (hfc0.symm.trans hnameA)
  subst eA
  obtain ⟨hg₁, hwarm₁, hready₁⟩ := State.classEntry (e := e) X.warmed hcl
  generalize T.vm.noted m.cls index (.cls c0) = vm₁ at hg₁ hwarm₁ hready₁
  obtain ⟨kA₁, hkA₁, heA⟩ := hwarm₁.alike.2.2 _ _ hkA
  obtain ⟨kC₁, hkC₁, heC⟩ := hwarm₁.alike.2.2 _ _ hkC
  have X₁ := X.noted hwarm₁
  obtain ⟨hr1, hr2⟩ := X.roomAbove hcells hslots
  have XF := ymS_stand X₁ c0 comp' 6
  obtain ⟨f1, f2, f3, f4, f5, f6⟩ := ymS_f (T.setVm vm₁) c0 comp' 6
  obtain ⟨t, a1, b1⟩ := kk c0 comp' (ymS (T.setVm vm₁) c0 comp' 6).heap hnameA hcomp f1 f5 f2 f6 _ rfl XF
  refine ⟨t, ?_, b1⟩
  have hl1 : ¬ 6 > e.platform.arrayLengthLimit := by rw [Launch.admits_arrayLengthLimit X.admits]; omega
  have hh1 : ¬ 6 * componentBytes (.array .int) > e.platform.maxHeapBytes := by
    rw [Launch.admits_maxHeapBytes X.admits]; show ¬ 6 * 4 > 536870912; omega
  have hh2 : ¬ 4 * componentBytes .int > e.platform.maxHeapBytes := by
    rw [Launch.admits_maxHeapBytes X.admits]; show ¬ 4 * 4 > 536870912; omega
  jvm_step X.here [hexec, hdg]
  simp only [multianewarray.sem, wp_bind', W.resolveClassAt_links (State.method?_setTop (F0 m pc ls (.int 4 :: .int 6 :: rest)) X.here.top) hg₁]
  rw [W.popN, if_neg (by decide)]
  refine ⟨F0 m pc ls (.int 4 :: .int 6 :: rest), State.topJava?_setTop' (s := T.setVm vm₁) _ X.here.top, [.int 6, .int 4], rest, rfl, rfl, ?_⟩
  simp only [List.mapM_cons, List.mapM_nil, wp_bind', wp_pure']
  refine ym_make (kA := kA₁) (kC := kC₁) (comp := comp') (cc := cc') hkA₁ (by rw [heA]; exact hkindA) hkC₁ (by rw [heC]; exact hkindC) hl1 hh1 hh2 (by show T.heap.size + 7 ≤ _; omega) (by show T.slotsUsed + 30 ≤ _; omega) (fun d' acts' => ?_)
  have eS : ((T.setTop (F0 m pc ls (.int 4 :: .int 6 :: rest))).setVm vm₁).setTop { F0 m pc ls (.int 4 :: .int 6 :: rest) with stack := rest } = (T.setVm vm₁).setTop { F0 m pc ls (.int 4 :: .int 6 :: rest) with stack := rest } := by
    show ((T.setVm vm₁).setTop _).setTop _ = _
    rw [State.setTop_setTop]
  rw [eS, ymS_top]
  simp only [wp_bind', W.mark, W.pushRef, State.topJava?_setTop' _ XF.here.top, Option.some.injEq, exists_eq_left', State.setTop_setTop, State.heap_setTop]
  intro acts
  simp [jvm, XF.here.top]
  exact a1
end YR
section YS
variable {p : Program} {l : Launch} {e : Env} {R : Room} {s : State} {m : MethodId} {args : Array Value} {below : List Frame} {meth : Method} {c : Code}
variable {D : va_G} {cid : Nat → ClassId} {kv : Nat → Option Nat} {N0 : Nat} {xs : Nat → Int32} {Ls : Nat} {own : String} {cc : ByteArray} {nL : Nat} {Qf : State → Prop} {ρ0 : List Nat} {n0 z0 nF zE d : Nat} {pc : Nat} {Qq : zQq} {Ca : zCa}
def ymE (cid : Nat → ClassId) (h0 i : Nat) : va_E := if i = 0 then .inl (cid 26, 6, .inr (.inr (.inr (.inr (fun j => if j < 6 then some (h0 + 1 + j) else none))))) else .inl (cid 20, 4, .inl (fun _ => 0))
def ymW (cid : Nat → ClassId) (h0 : Nat) : va_W := (List.range 7).map (fun i => (h0 + i, ymE cid h0 i))
theorem ymW_at {h0 k : Nat} {q : Nat × va_E} : (ymW cid h0)[k]? = some q → k < 7 ∧ q = (h0 + k, ymE cid h0 k) := by
  intro h
  have hk : k < 7 := by
    have := (List.getElem?_eq_some_iff.mp h).1
    simpa [ymW] using this
  have e1 : (ymW cid h0)[k]? = some (h0 + k, ymE cid h0 k) := by simp [ymW, hk]
  rw [e1] at h
  exact ⟨hk, (Option.some.inj h).symm⟩
theorem zT_wM (h : zH) (a : Nat) : zT (wM h) a = if a = zN h then (26, 6) else if zN h < a ∧ a ≤ zN h + 6 then (20, 4) else zT h a := rfl
theorem zI_wM (h : zH) (a : Nat) : zI (wM h) a = if zN h ≤ a ∧ a ≤ zN h + 6 then fun _ => 0 else zI h a := rfl
theorem zJ_wM (h : zH) : zJ (wM h) = zJ h := rfl
theorem zR_wM (h : zH) (a : Nat) : zR (wM h) a = if a = zN h then fun j => if j < 6 then .ref (zN h + 1 + j) else .null else zR h a := rfl
theorem zN_wM (h : zH) : zN (wM h) = zN h + 7 := rfl
theorem zZ_wM (h : zH) : zZ (wM h) = zZ h + 30 := rfl
theorem zSim_M {h : zH} {ρ : List Nat} {H H1 : Heap} (hs : zSim D cid kv N0 xs Ls ρ h H) (hN : zN h + 7 ≤ 1000000) (hH : N0 ≤ H.size) (hz : H1.size = H.size + 7) (ho : ∀ q : Nat, q < H.size → H1[q]? = H[q]?) (hO : H1[H.size]? = some (ymO (cid 26) H.size 6)) (hI : ∀ j : Nat, j < 6 → H1[H.size + 1 + j]? = some (ymI (cid 20))) : zSim D cid kv N0 xs Ls (ρ ++ (List.range 7).map (fun i => H.size + i)) (wM h) H1 ∧ zV kv (ρ ++ (List.range 7).map (fun i => H.size + i)) (.ref (zN h)) = some (.ref H.size) := by
  obtain ⟨ws, h1, h2, h3, h4, h5, h6, h7⟩ := hs
  have hlen : ws.length = zN h := by rw [← h4, ← h1, List.length_map]
  have hρ : ∀ i, i < 7 → (ρ ++ (List.range 7).map (fun i => H.size + i))[zN h + i]? = some (H.size + i) := fun i hi => by
    rw [List.getElem?_append_right (by omega), h4, Nat.add_sub_cancel_left]
    simp [hi]
  have hpre : ρ <+: ρ ++ (List.range 7).map (fun i => H.size + i) := List.prefix_append _ _
  refine ⟨⟨ws ++ ymW cid H.size, ?_, ?_, ?_, ?_, hN, ?_, fun j b e2 hj => ?_⟩, ?_⟩
  · rw [List.map_append, h1]
    simp [ymW]
  · refine va_P.app (h2.kept (fun k x hx => ho x.1 ((h2 k x hx).lt))) (fun k q hq => ?_)
    obtain ⟨hk, rfl⟩ := ymW_at hq
    unfold ymE
    by_cases e0 : k = 0
    · subst e0
      rw [if_pos rfl]
      show H1[H.size + 0]? = _
      rw [Nat.add_zero, hO]
      rfl
    · rw [if_neg e0]
      show H1[H.size + k]? = _
      have := hI (k - 1) (by omega)
      rw [show H.size + 1 + (k - 1) = H.size + k by omega] at this
      rw [this]
      rfl
  · refine va_D.app h3 ⟨fun i j x y hi hj hxy => ?_, fun k q hq => ?_⟩ (fun i j x y hi hj hxy => ?_)
    · obtain ⟨-, rfl⟩ := ymW_at hi
      obtain ⟨-, rfl⟩ := ymW_at hj
      dsimp only at hxy
      omega
    · obtain ⟨-, rfl⟩ := ymW_at hq
      show N0 ≤ H.size + k
      omega
    · obtain ⟨-, rfl⟩ := ymW_at hj
      have := (h2 i x hi).lt
      dsimp only at hxy
      omega
  · rw [List.length_append, h4]
    simp [zN_wM]
  · obtain ⟨⟨k1, k0⟩, ⟨k2, k3⟩, ⟨k4, k5⟩, ⟨k6, k7⟩, k8, k9⟩ := h6
    have hT : ∀ i, 1000000 ≤ i → zT (wM h) i = zT h i := fun i hi => by rw [zT_wM, if_neg (by omega), if_neg (by omega)]
    have hI : ∀ i, 1000000 ≤ i → zI (wM h) i = zI h i := fun i hi => by rw [zI_wM, if_neg (by omega)]
    have hR : ∀ i, 1000000 ≤ i → zR (wM h) i = zR h i := fun i hi => by rw [zR_wM, if_neg (by omega)]
    refine ⟨⟨fun j g1 g2 => by rw [hT j g1]; exact k1 j g1 g2, by rw [hT _ (by omega)]; exact k0⟩, ⟨by rw [hT _ (by omega)]; exact k2, fun j hj => by rw [hI _ (by omega)]; exact k3 j hj⟩, ⟨by rw [hT _ (by omega)]; exact k4, fun j hj => by rw [hI _ (by omega)]; exact k5 j hj⟩, ⟨by rw [hT _ (by omega)]; exact k6, fun j hj => by rw [hI _ (by omega)]; exact k7 j hj⟩, fun q hq => ⟨by rw [hT _ (by omega)]; exact (k8 q hq).1, by rw [hR _ (by omega)]; exact (k8 q hq).2⟩, fun q hq => ⟨by rw [hT _ (by omega)]; exact (k9 q hq).1, fun j hj => by rw [hI _ (by omega)]; exact (k9 q hq).2 j hj⟩⟩
  · by_cases hl : j < ws.length
    · rw [List.getElem?_append_left hl] at hj
      exact zCR_eq (zCR_up hpre (h7 j b e2 hj)) (by rw [zT_wM, if_neg (by omega), if_neg (by omega)]) (by rw [zI_wM, if_neg (by omega)]) rfl (by rw [zR_wM, if_neg (by omega)])
    · rw [List.getElem?_append_right (by omega)] at hj
      obtain ⟨hk, he⟩ := ymW_at hj
      cases he
      rw [hlen] at hk ⊢
      obtain ⟨i, rfl⟩ : ∃ i, j = zN h + i := ⟨j - zN h, by omega⟩
      rw [Nat.add_sub_cancel_left] at hk ⊢
      unfold ymE
      by_cases e0 : i = 0
      · subst e0
        rw [if_pos rfl, Nat.add_zero]
        refine Or.inr (Or.inr (Or.inr ⟨by rw [zT_wM, if_pos rfl]; show 25 ≤ 26; decide, by rw [zT_wM, if_pos rfl]; show 26 < 27; decide, _, by rw [zT_wM, if_pos rfl], fun q hq => ?_⟩))
        rw [zT_wM, if_pos rfl] at hq
        have hq : q < 6 := hq
        rw [zR_wM, if_pos rfl, if_pos hq, if_pos hq]
        unfold zV
        dsimp only
        rw [if_pos (show zN h + 1 + q < 1000000 by omega), show zN h + 1 + q = zN h + (1 + q) by omega, hρ _ (by omega), show H.size + (1 + q) = H.size + 1 + q by omega]
        rfl
      · rw [if_neg e0]
        have e1 : zT (wM h) (zN h + i) = (20, 4) := by rw [zT_wM, if_neg (by omega), if_pos (by omega)]
        refine Or.inr (Or.inl ⟨by rw [e1]; show 20 ≤ 20; decide, by rw [e1]; show 20 < 24; decide, by rw [e1, zI_wM, if_pos (by omega)]⟩)
  · unfold zV
    dsimp only
    rw [if_pos (show zN h < 1000000 by omega)]
    have := hρ 0 (by omega)
    rw [Nat.add_zero, Nat.add_zero] at this
    rw [this]
    rfl
theorem si_mna {index : Nat} (F : zFx p l R s m args meth c D cid kv N0 xs Ls own cc nL n0 z0 nF zE d) (hd : decode cc pc = .ok (.multianewarray index 2, 4)) (h1 : (Cond.classLink own index "[[I").before args s = true) (h2 : (Cond.arrayClass .int).before args s = true) : zSo p l e R s m args below meth c D cid kv N0 xs Ls nL Qf ρ0 n0 z0 nF zE Qq Ca pc (op_mna (pc + 4)) := by
  intro L st h hw
  unfold op_mna at hw
  split at hw
  · split at hw
    · rename_i hn
      obtain ⟨rfl, rfl⟩ := hn
      have b1 : zN h + 7 ≤ nF := hw.1
      have b2 : zZ h + 30 ≤ zE := hw.2.1
      have b3 := F.2.2.1
      have b4 := F.2.2.2.1
      have b5 := F.2.2.2.2.1
      refine ⟨by omega, by omega, fun ls stR ρ H locs a1 a2 a3 a4 a5 a6 a7 => ?_⟩
      obtain ⟨t1, rfl, g1⟩ := zSR_i a5
      obtain ⟨t', rfl, g2⟩ := zSR_i g1
      have hH : N0 ≤ H.size := Nat.le_trans F.2.1.2.1 a7.1
      refine ym_row F.1.1 F.1.2.1 F.1.2.2.2.1 h1 F.2.1.2.2.2.2.1 h2 hd (by omega) (by omega) (fun cA comp H1 q1 q2 q3 q4 q5 q6 => ?_)
      have eA : cA = cid 26 := by
        have := (F.2.1.1.2 6 (cid 26, .array .int) rfl).2
        exact Option.some.inj (q1.symm.trans this)
      have eC : comp = cid 20 := by
        have := (F.2.1.1.2 0 (cid 20, .int) rfl).2
        exact Option.some.inj (q2.symm.trans this)
      subst eA
      subst eC
      obtain ⟨y1, y2⟩ := zSim_M a6 (by omega) hH q3 q4 q5 q6
      have hpre : ρ <+: ρ ++ (List.range 7).map (fun i => H.size + i) := List.prefix_append _ _
      have := hw.2.2 ls (.ref H.size :: t') _ H1 (locs ++ (List.range 6).map fun j => ⟨H.size, j⟩) (by rw [zN_wM]; omega) (by rw [zZ_wM]; omega) (a3.trans hpre) (zLR_up hpre a4) ⟨y2, zSR_up hpre g2⟩ y1 ⟨by have := a7.1; omega, fun q z1 z2 => (q4 q (Nat.lt_of_lt_of_le z1 a7.1)).trans (a7.2.1 q z1 z2), fun q hq => ?_⟩
      · rw [zN_wM, zZ_wM, show zN h + 7 - n0 = zN h - n0 + 7 by omega, show zZ h + 30 - z0 = zZ h - z0 + 30 by omega] at this
        exact this
      · rcases List.mem_append.mp hq with hq | hq
        · exact a7.2.2 q hq
        · obtain ⟨j, -, rfl⟩ := List.mem_map.mp hq
          exact hH
    · exact hw.elim
  · exact hw.elim
end YS
