/-! THE CLAIM OUT OF ONE WALK OF THE LAW'S BODY. Your part is whole_start (and what it stands on); all else here is the same for every law, but numbers. -/
def R_law : String := "TurnBackLaw"
def lw_P (b : Addr) (xs : List Int32) (args : Array Value) (s : State) : Prop := args = #[.ref b] ∧ s.IntsAt b xs ∧ xs.length ≤ 3072 ∧ (Jvm.Cond.and given_1 narrow_1).before args s = true
def lw_Q (_ : Array Value) (s : State) (o : Outcome) (t : State) : Prop := o = .returned (some (.int 1)) ∧ Framed s o t [] 600000 7302250
def lw_Z (below : List Frame) (a : Array Value) (s : State) : State → Prop := fun t => ∃ o, t.status = .running ∧ Ended t below o ∧ lw_Q a s o t
/-- the law's own end, with 1 on the stack, nothing written that was there before, its room as the claim has it -/
theorem lw_ret {p : Program} {l : Launch} {e : Env} {s : State} {m : MethodId} {below : List Frame} {meth : Method} {c : Code} {b : Nat} (hx : p.tables.exec = Jvm.exec) (hb : c.code = code) (hr : meth.sig.returnType = ret) (hlocks : meth.locks = false) {pc : Nat} {H : Heap} {ls : Array Slot} (hdg : decode code pc = .ok (.ireturn, 1)) : W p l e room_1 s m #[Value.ref b] below meth c H [] 600000 7302250 (lw_Z below #[Value.ref b] s) (F0 m pc ls [.int 1]) := by
  intro T hT X
  obtain ⟨fs, hret, hrun, hended, hW, hframe⟩ := X.leave (v := some (.int 1)) (hlocks := hlocks) (fun h => by rw [hr] at h; cases h)
  have hmeth' : T.vm.method? m = some meth := X.method'
  refine ⟨T.setFrames fs, ?_, .returned (some (.int 1)), hrun, hended, rfl, ⟨_, rfl⟩, hW, hframe⟩
  jvm_step X.here [X.here.top, hx, hb, hdg, hmeth', hr, ret, narrow_b1]
  (try refine ⟨rfl, ?_⟩); (try refine ⟨rfl, ?_⟩)
  first | (intro acts; rw [hret _ acts rfl rfl rfl]) | rw [hret _ _ rfl rfl rfl]
  exact Steps.refl _
/-- what holds at the law's entry: the machine, the code, the tables' words (any of lw_tbl by 'hts w (by decide +kernel)'), the script of L ints xs at the cell b, what the Statement gives of the start (any of its parts by flat_of_before) -/
def lw_At (p : Program) (s : State) (m : MethodId) (meth : Method) (c : Code) (b L : Nat) (xs : Nat → Int32) : Prop :=
  p.tables.exec = Jvm.exec ∧ c.code = code ∧ meth.sig.returnType = ret ∧ c.maxLocals = 4 ∧ s.vm.findClass R_law = some m.cls ∧ (∀ w ∈ lw_tbl, w.before #[Value.ref b] s = true) ∧ va_X b L xs s s.heap ∧ b < s.heap.size ∧ meth.locks = false ∧ (Jvm.Cond.and given_1 narrow_1).before #[Value.ref b] s = true

/-! the law's start: what the Statement gives is what ours stands on -/
def zstI (i : Nat) : Nat := ([66, 47, 49, 77, 83] : List Nat).getD i 0
theorem zst_all {s : State} {m : MethodId} {b L : Nat} {xs : Nat → Int32} (hts : ∀ w ∈ lw_tbl, w.before #[Value.ref b] s = true) (hX : va_X b L xs s s.heap) (hbl : b < s.heap.size) (hgv : (Jvm.Cond.and given_1 narrow_1).before #[Value.ref b] s = true) : ∃ (D : va_G) (cid : Nat → ClassId) (kv : Nat → Option Nat), kv 0 = some b ∧ zCst D cid kv s.heap.size xs L s := by
  have hzt : ∀ w ∈ zTB, w.before #[Value.ref b] s = true := fun w hw => hts w (List.mem_filter.mp hw).1
  have hs := flat_of_before _ hgv
  have hA : ∀ a : Nat, a < s.heap.size → ¬ zA s.heap.size a := fun a h => Nat.not_le.mpr h
  -- the classes
  have hcl : ∀ k : Nat, ∃ x : ClassId × (Nat → Nat), ∀ q : vw_C, vwCl[k]? = some q → u_Kn s q.1 q.2.1 q.2.2 x.1 x.2 := by
    intro k
    match k with
    | 0 =>
      obtain ⟨c1, i1, h1⟩ := u_known (C := RX0) (T := TX0) (N := 5) (n := 5) hzt inT0 (hts _ (List.mem_append_right _ (List.mem_of_getElem? (i := 172) (by decide +kernel : tables_1[172]? = some (Cond.instantiable RX0 5)))))
      exact ⟨(c1, i1), fun q hq => by cases hq; exact h1⟩
    | 1 =>
      obtain ⟨c1, i1, h1⟩ := u_known (C := RX1) (T := TX1) (N := 3) (n := 3) hzt inT1 (hts _ (List.mem_append_right _ (List.mem_of_getElem? (i := 85) (by decide +kernel : tables_1[85]? = some (Cond.instantiable RX1 3)))))
      exact ⟨(c1, i1), fun q hq => by cases hq; exact h1⟩
    | 2 =>
      obtain ⟨c1, i1, h1⟩ := u_known (C := RX2) (T := TX2) (N := 12) (n := 12) hzt inT2 (hts _ (List.mem_append_right _ (List.mem_of_getElem? (i := 26) (by decide +kernel : tables_1[26]? = some (Cond.instantiable RX2 12)))))
      exact ⟨(c1, i1), fun q hq => by cases hq; exact h1⟩
    | 3 =>
      obtain ⟨c1, i1, h1⟩ := u_known (C := RX3) (T := TX3) (N := 4) (n := 4) hzt inT3 (hts _ (List.mem_append_right _ (List.mem_of_getElem? (i := 91) (by decide +kernel : tables_1[91]? = some (Cond.instantiable RX3 4)))))
      exact ⟨(c1, i1), fun q hq => by cases hq; exact h1⟩
    | 4 =>
      obtain ⟨c1, i1, h1⟩ := u_known (C := RX4) (T := TX4) (N := 3) (n := 3) hzt inT4 (hts _ (List.mem_append_right _ (List.mem_of_getElem? (i := 139) (by decide +kernel : tables_1[139]? = some (Cond.instantiable RX4 3)))))
      exact ⟨(c1, i1), fun q hq => by cases hq; exact h1⟩
    | 5 =>
      obtain ⟨c1, i1, h1⟩ := u_known (C := RX5) (T := TX5) (N := 4) (n := 4) hzt inT5 (hts _ (List.mem_append_right _ (List.mem_of_getElem? (i := 133) (by decide +kernel : tables_1[133]? = some (Cond.instantiable RX5 4)))))
      exact ⟨(c1, i1), fun q hq => by cases hq; exact h1⟩
    | 6 =>
      obtain ⟨c1, i1, h1⟩ := u_known (C := RX6) (T := TX6) (N := 3) (n := 3) hzt inT6 (hts _ (List.mem_append_right _ (List.mem_of_getElem? (i := 197) (by decide +kernel : tables_1[197]? = some (Cond.instantiable RX6 3)))))
      exact ⟨(c1, i1), fun q hq => by cases hq; exact h1⟩
    | 7 =>
      obtain ⟨c1, i1, h1⟩ := u_known (C := RX7) (T := TX7) (N := 10) (n := 10) hzt inT7 (hts _ (List.mem_append_right _ (List.mem_of_getElem? (i := 18) (by decide +kernel : tables_1[18]? = some (Cond.instantiable RX7 10)))))
      exact ⟨(c1, i1), fun q hq => by cases hq; exact h1⟩
    | 8 =>
      obtain ⟨c1, i1, h1⟩ := u_known (C := RX8) (T := TX8) (N := 29) (n := 29) hzt inT8 (hts _ (List.mem_append_right _ (List.mem_of_getElem? (i := 696) (by decide +kernel : tables_1[696]? = some (Cond.instantiable RX8 29)))))
      exact ⟨(c1, i1), fun q hq => by cases hq; exact h1⟩
    | k + 9 => exact ⟨(0, fun _ => 0), fun q hq => by simp [vwCl] at hq⟩
  obtain ⟨dx, hdx⟩ := Classical.axiomOfChoice hcl
  -- the arrays
  have hpr : ∀ ty : FieldType, (∀ C, ty ≠ .object C) → (Cond.arrayClass ty).before #[Value.ref b] s = true → ∃ cA : ClassId, ArrOfT s cA ty ∧ va_RA s cA ty := by
    intro ty hne h
    obtain ⟨cA, k, comp, h1, h2, h3⟩ := Cond.arrayClass_spec h
    refine ⟨cA, fun n z => ⟨fun x hx => (by cases hx), k, h2, comp, h3⟩, ?_⟩
    cases ty <;> first | exact absurd rfl (hne _) | exact h1
  obtain ⟨ci, ci1, ci2⟩ := hpr .int (fun C h => by cases h) (hzt _ tb_82)
  obtain ⟨cb, cb1, cb2⟩ := hpr .byte (fun C h => by cases h) (hzt _ tb_156)
  obtain ⟨cc, cc1, cc2⟩ := hpr .char (fun C h => by cases h) (hzt _ tb_792)
  obtain ⟨cz, cz1, cz2⟩ := hpr .boolean (fun C h => by cases h) (hzt _ tb_83)
  obtain ⟨cl, cl1, cl2⟩ := hpr .long (fun C h => by cases h) (hzt _ tb_215)
  have haoT : va_AO "TurnBack$Tape" s := va_AO.of (hts (Cond.arrayOver (.object "TurnBack$Tape")) (List.mem_append_right _ (List.mem_of_getElem? (i := 196) (by decide +kernel : tables_1[196]? = some (Jvm.Cond.arrayOver (Jvm.ClassFile.FieldType.object "TurnBack$Tape"))))))
  have haoI : va_AB s := hts (Cond.arrayOver (.array .int)) (List.mem_append_right _ (List.mem_of_getElem? (i := 32) (by decide +kernel : tables_1[32]? = some (Jvm.Cond.arrayOver (Jvm.ClassFile.FieldType.array Jvm.ClassFile.FieldType.int)))))
  obtain ⟨cT, cT1, cT2⟩ : ∃ cA : ClassId, ArrOfT s cA (.object "TurnBack$Tape") ∧ va_RA s cA (.object "TurnBack$Tape") := by
    obtain ⟨comp, cA, k, h1, h2, h3, h4, h5⟩ := Cond.arrayOver_spec haoT
    exact ⟨cA, fun n z => ⟨fun x hx => (by cases hx), k, h3, comp, h4⟩, k, comp, h3, h4, h1, h5⟩
  obtain ⟨cG, cG1, cG2⟩ : ∃ cA : ClassId, ArrOfT s cA (.array .int) ∧ va_RA s cA (.array .int) := by
    obtain ⟨comp, cA, k, h1, h2, h3, h4, h5⟩ := arrayOverA_spec haoI
    exact ⟨cA, fun n z => ⟨fun x hx => (by cases hx), k, h3, comp, h4⟩, h5⟩
  -- the statics
  obtain ⟨tA, a1, a2⟩ := va_Tof (args := #[Value.ref b]) (s := s) (tm := .static "TurnBack$Acts" "ABOVE" "[I") (ty := .int) (N := 7) (f := fun j => .int (zkA.getD j 0)) (A := zA s.heap.size) (by decide) (hs _ (by decide +kernel)) (va_eqt (z := 7) (hs _ (by decide +kernel))) (fun j hj => va_eqt (hs _ ((by decide +kernel : ∀ j, j < 7 → Cond.eq (.elem (.static "TurnBack$Acts" "ABOVE" "[I") (.int (Int32.ofNat j))) (.int (zkA.getD j 0)) ∈ flatC (Jvm.Cond.and given_1 narrow_1)) j hj))) hA
  obtain ⟨tB, b1, b2⟩ := va_Tof (args := #[Value.ref b]) (s := s) (tm := .static "TurnBack$Acts" "BODIES" "[I") (ty := .int) (N := 21) (f := fun j => .int (zkB.getD j 0)) (A := zA s.heap.size) (by decide) (hs _ (by decide +kernel)) (va_eqt (z := 21) (hs _ (by decide +kernel))) (fun j hj => va_eqt (hs _ ((by decide +kernel : ∀ j, j < 21 → Cond.eq (.elem (.static "TurnBack$Acts" "BODIES" "[I") (.int (Int32.ofNat j))) (.int (zkB.getD j 0)) ∈ flatC (Jvm.Cond.and given_1 narrow_1)) j hj))) hA
  have zA1 : va_Z "TurnBack$Acts" "ABOVE" "[I" (.ref tA) (zA s.heap.size) s s.heap := va_Zof (hts _ (List.mem_append_right _ (List.mem_of_getElem? (i := 641) (by decide +kernel : tables_1[641]? = some (Jvm.Cond.laysStatic "TurnBack$Acts" "ABOVE" "[I"))))) (hts _ (List.mem_append_right _ (List.mem_of_getElem? (i := 8) (by decide +kernel : tables_1[8]? = some (Jvm.Cond.initialized "TurnBack$Acts"))))) a1 hA
  have zB1 : va_Z "TurnBack$Acts" "BODIES" "[I" (.ref tB) (zA s.heap.size) s s.heap := va_Zof (hts _ (List.mem_append_right _ (List.mem_of_getElem? (i := 631) (by decide +kernel : tables_1[631]? = some (Jvm.Cond.laysStatic "TurnBack$Acts" "BODIES" "[I"))))) (hts _ (List.mem_append_right _ (List.mem_of_getElem? (i := 8) (by decide +kernel : tables_1[8]? = some (Jvm.Cond.initialized "TurnBack$Acts"))))) b1 hA
  have zC1 : va_Z "java/lang/String" "COMPACT_STRINGS" "Z" (.int 1) (zA s.heap.size) s s.heap := va_Zof (hts _ (List.mem_append_right _ (List.mem_of_getElem? (i := 389) (by decide +kernel : tables_1[389]? = some (Jvm.Cond.laysStatic "java/lang/String" "COMPACT_STRINGS" "Z"))))) (hts _ (List.mem_append_right _ (List.mem_of_getElem? (i := 11) (by decide +kernel : tables_1[11]? = some (Jvm.Cond.initialized "java/lang/String"))))) (va_eqi (hs _ (by decide +kernel))) hA
  obtain ⟨fm, zF1⟩ : ∃ o : Option Nat, va_Z "jdk/internal/util/Preconditions" "SIOOBE_FORMATTER" "Ljava/util/function/BiFunction;" (va_rf o) (zA s.heap.size) s s.heap := by
    rcases va_Zqof (A := zA s.heap.size) (hts _ (List.mem_append_right _ (List.mem_of_getElem? (i := 405) (by decide +kernel : tables_1[405]? = some (Jvm.Cond.laysStatic "jdk/internal/util/Preconditions" "SIOOBE_FORMATTER" "Ljava/util/function/BiFunction;"))))) (hts _ (List.mem_append_right _ (List.mem_of_getElem? (i := 13) (by decide +kernel : tables_1[13]? = some (Jvm.Cond.initialized "jdk/internal/util/Preconditions"))))) (hs _ (by decide +kernel)) hA with h | ⟨t, h⟩
    · exact ⟨none, h⟩
    · exact ⟨some t, h⟩
  -- the texts
  obtain ⟨adK, adV, s1, s2⟩ := vk_Sof (args := #[Value.ref b]) (s := s) (N := 5) (tm := fun i => .string "TurnBack$SeasonReader" (zstI i)) (len := zkS.map List.length) (byt := zkS) (A := zA s.heap.size) (by decide +kernel)
    (fun i hi => hs _ ((by decide +kernel : ∀ i, i < 5 → Cond.exactly (.string "TurnBack$SeasonReader" (zstI i)) "java/lang/String" ∈ flatC (Jvm.Cond.and given_1 narrow_1)) i hi))
    (fun i hi => hs _ ((by decide +kernel : ∀ i, i < 5 → Cond.eq (.field (.string "TurnBack$SeasonReader" (zstI i)) "java/lang/String" "coder" "B") (.int 0) ∈ flatC (Jvm.Cond.and given_1 narrow_1)) i hi))
    (fun i hi => hs _ ((by decide +kernel : ∀ i, i < 5 → Cond.arrayOf (.field (.string "TurnBack$SeasonReader" (zstI i)) "java/lang/String" "value" "[B") .byte ∈ flatC (Jvm.Cond.and given_1 narrow_1)) i hi))
    (fun i hi => hs _ ((by decide +kernel : ∀ i, i < 5 → Cond.eq (.length (.field (.string "TurnBack$SeasonReader" (zstI i)) "java/lang/String" "value" "[B")) (.int (Int32.ofNat ((zkS.map List.length).getD i 0))) ∈ flatC (Jvm.Cond.and given_1 narrow_1)) i hi))
    (fun i hi j hj => hs _ ((by decide +kernel : ∀ i, i < 5 → ∀ j, j < (zkS.map List.length).getD i 0 → Cond.eq (.elem (.field (.string "TurnBack$SeasonReader" (zstI i)) "java/lang/String" "value" "[B") (.int (Int32.ofNat j))) (.int ((zkS.getD i []).getD j 0)) ∈ flatC (Jvm.Cond.and given_1 narrow_1)) i hi j hj))
    (fun i j hi hj hij => by
      rcases (by decide +kernel : ∀ i, i < 5 → ∀ j, j < 5 → i ≠ j → Cond.not (Cond.eq (.string "TurnBack$SeasonReader" (zstI i)) (.string "TurnBack$SeasonReader" (zstI j))) ∈ flatC (Jvm.Cond.and given_1 narrow_1) ∨ Cond.not (Cond.eq (.string "TurnBack$SeasonReader" (zstI j)) (.string "TurnBack$SeasonReader" (zstI i))) ∈ flatC (Jvm.Cond.and given_1 narrow_1)) i hi j hj hij with h | h
      · exact Or.inl (hs _ h)
      · exact Or.inr (hs _ h)) hA
  refine ⟨(fun k => (dx k).1, fun k => (dx k).2), fun k => if k = 20 then ci else if k = 21 then cb else if k = 22 then cc else if k = 23 then cz else if k = 24 then cl else if k = 25 then cT else cG, fun j => if j = 0 then some b else if j = 1 then some tA else if j = 2 then some tB else if j < 8 then some (adK (j - 3)) else if j < 13 then some (adV (j - 8)) else fm, rfl, ⟨fun k q hq => hdx k q hq, fun k q hq => ?_⟩, Nat.le_refl _, ?_, haoT, haoI, ⟨b, rfl, hbl, hX⟩, ⟨tA, rfl, zA1, a2⟩, ⟨tB, rfl, zB1, b2⟩, zC1, zF1, adK, adV, s1, fun k hk => ?_⟩
  · match k, hq with
    | 0, hq => cases hq; exact ⟨ci1, ci2⟩
    | 1, hq => cases hq; exact ⟨cb1, cb2⟩
    | 2, hq => cases hq; exact ⟨cc1, cc2⟩
    | 3, hq => cases hq; exact ⟨cz1, cz2⟩
    | 4, hq => cases hq; exact ⟨cl1, cl2⟩
    | 5, hq => cases hq; exact ⟨cT1, cT2⟩
    | 6, hq => cases hq; exact ⟨cG1, cG2⟩
    | k + 7, hq => simp [zTys] at hq
  · intro q hq
    have hall : ∀ q ∈ zNestL, Cond.methodLinkNest q.1 q.2.1 q.2.2.1 q.2.2.2 ∈ lw_tbl := by decide +kernel
    exact va_Nw.of rfl (hts _ (hall q hq))
  · have e1 : (if 3 + k = 0 then some b else if 3 + k = 1 then some tA else if 3 + k = 2 then some tB else if 3 + k < 8 then some (adK (3 + k - 3)) else if 3 + k < 13 then some (adV (3 + k - 8)) else fm) = some (adK k) := by
      rw [if_neg (by omega), if_neg (by omega), if_neg (by omega), if_pos (by omega), Nat.add_sub_cancel_left]
    have e2 : (if 8 + k = 0 then some b else if 8 + k = 1 then some tA else if 8 + k = 2 then some tB else if 8 + k < 8 then some (adK (8 + k - 3)) else if 8 + k < 13 then some (adV (8 + k - 8)) else fm) = some (adV k) := by
      rw [if_neg (by omega), if_neg (by omega), if_neg (by omega), if_neg (by omega), if_pos (by omega), Nat.add_sub_cancel_left]
    have e3 : ∀ k, k < 5 → Cond.stringRef "TurnBack$SeasonReader" (zstI k) ((["pay ", "more ", "less ", "pkvwtd", "<=>"] : List String).getD k "") ∈ lw_tbl := by decide +kernel
    exact ⟨e1, e2, vk_R.of (hts _ (e3 k hk)) (s2 k hk)⟩
/-- the mini heap at the law's entry -/
def zh0 (xs : Nat → Int32) (L : Nat) : zH := (fun a => if a = 1000000 then (30, L) else if a = 1000001 then (30, 7) else if a = 1000002 then (30, 21) else if a < 1000008 then (31, 0) else if a < 1000013 then (32, (zkS.getD (a - 1000008) []).length) else (33, 0), fun a j => if a = 1000000 then xs j else if a = 1000001 then zkA.getD j 0 else if a = 1000002 then zkB.getD j 0 else (zkS.getD (a - 1000008) []).getD j 0, fun _ _ => 0, fun a _ => .ref (a + 5), 0, 0)
theorem zK_h0 (xs : Nat → Int32) (L : Nat) : zK xs L (zh0 xs L) := by
  have hT : ∀ a, zT (zh0 xs L) a = if a = 1000000 then (30, L) else if a = 1000001 then (30, 7) else if a = 1000002 then (30, 21) else if a < 1000008 then (31, 0) else if a < 1000013 then (32, (zkS.getD (a - 1000008) []).length) else (33, 0) := fun _ => rfl
  have hI : ∀ a j, zI (zh0 xs L) a j = if a = 1000000 then xs j else if a = 1000001 then zkA.getD j 0 else if a = 1000002 then zkB.getD j 0 else (zkS.getD (a - 1000008) []).getD j 0 := fun _ _ => rfl
  refine ⟨⟨fun i h1 h2 => ?_, rfl⟩, ⟨rfl, fun _ _ => rfl⟩, ⟨rfl, fun _ _ => rfl⟩, ⟨rfl, fun _ _ => rfl⟩, fun k hk => ⟨?_, ?_⟩, fun k hk => ⟨?_, fun j hj => ?_⟩⟩
  · rw [hT]
    (repeat' split) <;> (dsimp only; omega)
  · rw [hT, if_neg (by omega), if_neg (by omega), if_neg (by omega), if_pos (by omega)]
  · show Value.ref (1000003 + k + 5) = .ref (1000008 + k)
    rw [show 1000003 + k + 5 = 1000008 + k by omega]
  · rw [hT, if_neg (by omega), if_neg (by omega), if_neg (by omega), if_neg (by omega), if_pos (by omega), Nat.add_sub_cancel_left]
  · rw [hI, if_neg (by omega), if_neg (by omega), if_neg (by omega), Nat.add_sub_cancel_left]
/-- the claim's walk, out of the mini machine's -/
theorem start_of {p : Program} {e : Env} {s : State} {m : MethodId} {below : List Frame} {meth : Method} {c : Code} (l : Launch) {b L : Nat} {xs : Nat → Int32} (C0 : lw_At p s m meth c b L xs) {d : Nat} (hd : d ≤ 100) {hF : zH} (hN : zN hF ≤ 600000) (hZ : zZ hF ≤ 7302250) (hrun : zG d 1301 0 [some (.ref 1000000), none, none, none] [] (zh0 xs L) (fun r h1 => r = some (.int 1) ∧ h1 = hF)) : W p l e room_1 s m #[Value.ref b] below meth c s.heap [] 0 0 (lw_Z below #[Value.ref b] s) (entryFrame m ([Value.ref b] : List Value).toArray 4) := by
  obtain ⟨hx, hb, hr, hml, hown, hts, hX, hbl, hlocks, hgv⟩ := id C0
  obtain ⟨D, cid, kv, hkv, hC⟩ := zst_all (m := m) hts hX hbl hgv
  have F : zFx p l room_1 s m #[Value.ref b] meth c D cid kv s.heap.size xs L RL cL_law 4 0 0 (zN hF) (zZ hF) d := ⟨⟨hx, hb, hml, hown, fun w hw => hts w (List.mem_filter.mp hw).1⟩, hC, by show zN hF - 0 ≤ 600000; omega, by show zZ hF - 0 ≤ 7302250; omega, by omega, by show d + 1 ≤ 2048; omega, by show 60 * d + 60 ≤ 84000; omega⟩
  have key := hrun (zW p l e room_1 s m #[Value.ref b] below meth c D cid kv s.heap.size xs L 4 (lw_Z below #[Value.ref b] s) [] 0 0 (zN hF) (zZ hF)) (fun pc L2 st h2 hw => sd1301 F (zDepth l D cid kv s.heap.size xs L (fun _ => me_all) d) (fun pc hd => so_rI (r0 := some (.int 1)) (hF := hF) (fun v h z => z) rfl rfl (fun ls H locs ρ x hx1 e1 hp hs hS => by
    cases e1
    refine va_forget (fun q hq => hS.2.2 q hq) ?_
    refine W.widen (k := 600000) (n := 7302250) (by omega) (by omega) ?_
    exact lw_ret hx hb hr hlocks hd)) pc L2 st h2 hw)
  rw [lg_entry_eq]
  have hent := lv_entry ([.ref b]) (n := 4) (Nat.le_of_ble_eq_true rfl)
  generalize (lg_sl ([.ref b]) ++ List.replicate (4 - (lg_sl ([.ref b])).length) Slot.unset).toArray = ls at hent ⊢
  refine key.2.2 ls [] [] s.heap [] (Nat.zero_le _) (Nat.zero_le _) (List.prefix_refl _) ⟨hent.2.1, hent.1, rfl, fun k v hk => ?_⟩ trivial ⟨[], rfl, fun k q h => by simp at h, ⟨fun i j p q h => by simp at h, fun k q h => by simp at h⟩, rfl, by show 0 ≤ 1000000; omega, zK_h0 xs L, fun i a e h => by simp at h⟩ va_S.rf
  match k, hk with
  | 0, hk =>
    simp only [lg, Option.some.injEq] at hk
    subst hk
    refine ⟨.ref b, ?_, hent.2.2 (0, .ref b) List.mem_cons_self⟩
    show (if (1000000 : Nat) < 1000000 then (([] : List Nat)[1000000]?).map Value.ref else if (1000000 : Nat) < 1000014 then some (va_rf (kv (1000000 - 1000000))) else none) = _
    rw [if_neg (Nat.lt_irrefl _), if_pos (by decide), Nat.sub_self, hkv]
    rfl
  | 1, hk => simp [lg] at hk
  | 2, hk => simp [lg] at hk
  | 3, hk => simp [lg] at hk
  | k + 4, hk => simp [lg] at hk
