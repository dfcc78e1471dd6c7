/-! SOUNDNESS, an instruction a row -/
def zTB : List Cond := lw_tbl.filter goodWord
def zNestL : List (String × Nat × MethodName × String) := [("TurnBack", 11, ⟨"TurnBack$Road", "<init>", "()V"⟩, "TurnBack"), ("TurnBack", 26, ⟨"TurnBack$Notes", "<init>", "()V"⟩, "TurnBack"), ("TurnBack", 36, ⟨"TurnBack$SeasonReader", "<init>", "()V"⟩, "TurnBack"), ("TurnBack$SeasonReader", 17, ⟨"TurnBack$Season", "<init>", "()V"⟩, "TurnBack"), ("TurnBack", 43, ⟨"TurnBack$Acts", "<init>", "()V"⟩, "TurnBack"), ("TurnBack", 54, ⟨"TurnBack$Tape", "<init>", "()V"⟩, "TurnBack"), ("TurnBack$Road", 63, ⟨"TurnBack", "within", "(II)Z"⟩, "TurnBack"), ("TurnBack$Acts", 15, ⟨"TurnBack", "within", "(II)Z"⟩, "TurnBack")]
def va_AB (U : State) : Prop := (Cond.arrayOver (.array .int)).before #[] U = true
theorem va_AB.moved {u U : State} (hvm : u.vm.Alike U.vm) (h : va_AB u) : va_AB U := by
  obtain ⟨comp, c, k, h1, h2, h3, h4, h5⟩ := arrayOverA_spec h
  obtain ⟨k', hk', he⟩ := hvm.2.2 _ _ h3
  have b : U.vm.bare = u.vm.bare := by first | exact hvm.bare_eq | exact hvm.bare_eq.symm
  have hi : (U.vm.classes.findIdx? fun (x : Class) => match x.kind with | .array component _ => component == comp | _ => false) = some c := (va_idx_bare U.vm comp).symm.trans ((congrArg (fun v : Vm => v.classes.findIdx? fun (x : Class) => match x.kind with | .array component _ => component == comp | _ => false) b).trans ((va_idx_bare u.vm comp).trans h2))
  have hkind : k'.kind = .array comp (.array .int) := by rw [he]; exact h4
  have f1 : U.vm.findClass (FieldType.array .int).toString = some comp := by rw [hvm.findClass]; exact h1
  have f2 : U.vm.findClass ("[" ++ (FieldType.array .int).toString) = some c := by rw [hvm.findClass]; exact h5
  unfold va_AB Cond.before Cond.holds
  simp only [Cond.value]
  have f1' : U.vm.findClass "[I" = some comp := f1
  first
    | rw [f1, Option.bind_some]
    | rw [f1', Option.bind_some]
    | simp only [f1, Option.bind_some]
  refine (congrArg (fun o : Option Nat => (o.bind (fun c => (U.vm.classes[c]?).map fun (k : Class) => match k.kind with | .array _ ty => decide (ty = FieldType.array .int) && decide (U.vm.findClass ("[" ++ (FieldType.array .int).toString) = some c) | _ => false) == some true)) hi).trans ?_
  simp [hk', hkind, f2]
/-- the constants at a real state -/
def zCst (D : va_G) (cid : Nat → ClassId) (kv : Nat → Option Nat) (N0 : Nat) (xs : Nat → Int32) (Ls : Nat) (U : State) : Prop :=
  va_K D vwCl (zTys cid) U ∧ N0 ≤ U.heap.size ∧ (∀ q ∈ zNestL, va_Nw (.methodLinkNest q.1 q.2.1 q.2.2.1 q.2.2.2) U) ∧ va_AO "TurnBack$Tape" U ∧ va_AB U ∧
  (∃ b : Nat, kv 0 = some b ∧ b < N0 ∧ va_X b Ls xs U U.heap) ∧
  (∃ t : Nat, kv 1 = some t ∧ va_Z "TurnBack$Acts" "ABOVE" "[I" (.ref t) (zA N0) U U.heap ∧ va_T .int t 7 (fun j => .int (zkA.getD j 0)) (zA N0) U U.heap) ∧
  (∃ t : Nat, kv 2 = some t ∧ va_Z "TurnBack$Acts" "BODIES" "[I" (.ref t) (zA N0) U U.heap ∧ va_T .int t 21 (fun j => .int (zkB.getD j 0)) (zA N0) U U.heap) ∧
  va_Z "java/lang/String" "COMPACT_STRINGS" "Z" (.int 1) (zA N0) U U.heap ∧
  va_Z "jdk/internal/util/Preconditions" "SIOOBE_FORMATTER" "Ljava/util/function/BiFunction;" (va_rf (kv 13)) (zA N0) U U.heap ∧
  ∃ adK adV : Nat → Nat, vk_S 5 (zkS.map List.length) zkS adK adV (zA N0) U U.heap ∧ ∀ k, k < 5 → kv (3 + k) = some (adK k) ∧ kv (8 + k) = some (adV k) ∧ vk_R "TurnBack$SeasonReader" (([66, 47, 49, 77, 83] : List Nat).getD k 0) ((["pay ", "more ", "less ", "pkvwtd", "<=>"] : List String).getD k "") (adK k) U
theorem zCst.moved {D : va_G} {cid : Nat → ClassId} {kv : Nat → Option Nat} {N0 : Nat} {xs : Nat → Int32} {Ls : Nat} {s U : State} (h : zCst D cid kv N0 xs Ls s) (hW : s.WarmedH U.vm) (hz : N0 ≤ U.heap.size) (hq : ∀ q : Nat, q < N0 → U.heap[q]? = s.heap[q]?) : zCst D cid kv N0 xs Ls U := by
  obtain ⟨h1, h2, h3, h4, h5, ⟨b, b1, b2, b3⟩, ⟨t, t1, t2, t3⟩, ⟨u, u1, u2, u3⟩, h6, h7, adK, adV, h8, h9⟩ := h
  have ha := hW.alike
  have hq' : ∀ q : Nat, q < s.heap.size → ¬ zA N0 q → U.heap[q]? = s.heap[q]? := fun q _ h => hq q (Nat.not_le.mp h)
  refine ⟨h1.moved ha, hz, fun q hm => (h3 q hm).warmM hW, h4.moved ha, h5.moved ha, ⟨b, b1, b2, (b3.moved ha).kept (hq b b2)⟩, ⟨t, t1, (t2.moved ha).kept hq', (t3.moved ha).kept hq'⟩, ⟨u, u1, (u2.moved ha).kept hq', (u3.moved ha).kept hq'⟩, (h6.moved ha).kept hq', (h7.moved ha).kept hq', adK, adV, (h8.moved ha).kept hq', fun k hk => ?_⟩
  obtain ⟨g1, g2, g3⟩ := h9 k hk
  exact ⟨g1, g2, g3.warm hW⟩
theorem zCst.same {D : va_G} {cid : Nat → ClassId} {kv : Nat → Option Nat} {N0 : Nat} {xs : Nat → Int32} {Ls : Nat} {s U : State} (h : zCst D cid kv N0 xs Ls s) (hv : U.vm = s.vm) (hh : U.heap = s.heap) : zCst D cid kv N0 xs Ls U := by
  obtain ⟨h1, h2, h3, h4, h5, ⟨b, b1, b2, b3⟩, ⟨t, t1, t2, t3⟩, ⟨u, u1, u2, u3⟩, h6, h7, adK, adV, h8, h9⟩ := h
  have ha : s.vm.Alike U.vm := by rw [hv]; exact Vm.Alike.refl _
  rw [← hh] at h2 b3 t2 t3 u2 u3 h6 h7 h8
  exact ⟨h1.moved ha, h2, fun q hm => (h3 q hm).same rfl hv.symm, h4.moved ha, h5.moved ha, ⟨b, b1, b2, b3.moved ha⟩, ⟨t, t1, t2.moved ha, t3.moved ha⟩, ⟨u, u1, u2.moved ha, u3.moved ha⟩, h6.moved ha, h7.moved ha, adK, adV, h8.moved ha, fun k hk => ⟨(h9 k hk).1, (h9 k hk).2.1, (h9 k hk).2.2.same hv⟩⟩
section SO
variable {p : Program} {l : Launch} {e : Env} {R : Room} {s : State} {m : MethodId} {args : Array Value} {below : List Frame} {meth : Method} {c : Code}
variable {D : va_G} {cid : Nat → ClassId} {kv : Nat → Option Nat} {N0 : Nat} {xs : Nat → Int32} {Ls : Nat} {own : String} {cc : ByteArray} {nL : Nat} {Qf : State → Prop} {ρ0 : List Nat} {n0 z0 nF zE : Nat} {pc nx k t : Nat} {Qq : zQq} {Ca : zCa}
/-- the real machine, from a mini state on, comes to its end -/
def zW (p : Program) (l : Launch) (e : Env) (R : Room) (s : State) (m : MethodId) (args : Array Value) (below : List Frame) (meth : Method) (c : Code) (D : va_G) (cid : Nat → ClassId) (kv : Nat → Option Nat) (N0 : Nat) (xs : Nat → Int32) (Ls nL : Nat) (Qf : State → Prop) (ρ0 : List Nat) (n0 z0 nF zE : Nat) : zPr := fun pc L st h =>
  zN h ≤ nF ∧ zZ h ≤ zE ∧ ∀ (ls : Array Slot) (stR : List Value) (ρ : List Nat) (H : Heap) (locs : List Loc), n0 ≤ zN h → z0 ≤ zZ h → ρ0 <+: ρ → zLR kv ρ L ls nL → zSR kv ρ st stR → zSim D cid kv N0 xs Ls ρ h H → va_S (zA N0) s.heap H locs → W p l e R s m args below meth c H locs (zN h - n0) (zZ h - z0) Qf (F0 m pc ls stR)
/-- an instruction is right at a place -/
def zSo (p : Program) (l : Launch) (e : Env) (R : Room) (s : State) (m : MethodId) (args : Array Value) (below : List Frame) (meth : Method) (c : Code) (D : va_G) (cid : Nat → ClassId) (kv : Nat → Option Nat) (N0 : Nat) (xs : Nat → Int32) (Ls nL : Nat) (Qf : State → Prop) (ρ0 : List Nat) (n0 z0 nF zE : Nat) (Qq : zQq) (Ca : zCa) (pc : Nat) (op : zOp) : Prop :=
  ∀ (L : zL) (st : List Value) (h : zH), wp (zW p l e R s m args below meth c D cid kv N0 xs Ls nL Qf ρ0 n0 z0 nF zE) Qq Ca (op L st h) → zW p l e R s m args below meth c D cid kv N0 xs Ls nL Qf ρ0 n0 z0 nF zE pc L st h
theorem so_F : zSo p l e R s m args below meth c D cid kv N0 xs Ls nL Qf ρ0 n0 z0 nF zE Qq Ca pc zF := fun _ _ _ h => h.elim
/-- a step that leaves the heap: by a row of the kit -/
theorem zW_step {L L' : zL} {st st' : List Value} {h : zH} (hw : zW p l e R s m args below meth c D cid kv N0 xs Ls nL Qf ρ0 n0 z0 nF zE nx L' st' h) (row : ∀ (ls : Array Slot) (stR : List Value) (ρ : List Nat) (H : Heap) (locs : List Loc) (cells slots : Nat), zLR kv ρ L ls nL → zSR kv ρ st stR → zSim D cid kv N0 xs Ls ρ h H → va_S (zA N0) s.heap H locs → (∀ (ls' : Array Slot) (stR' : List Value), zLR kv ρ L' ls' nL → zSR kv ρ st' stR' → W p l e R s m args below meth c H locs cells slots Qf (F0 m nx ls' stR')) → W p l e R s m args below meth c H locs cells slots Qf (F0 m pc ls stR)) : zW p l e R s m args below meth c D cid kv N0 xs Ls nL Qf ρ0 n0 z0 nF zE pc L st h :=
  ⟨hw.1, hw.2.1, fun ls stR ρ H locs a1 a2 a3 a4 a5 a6 a7 => row ls stR ρ H locs _ _ a4 a5 a6 a7 (fun ls' stR' b1 b2 => hw.2.2 ls' stR' ρ H locs a1 a2 a3 b1 b2 a6 a7)⟩
theorem so_c {v : Value} (hv : ∀ ρ, zV kv ρ v = some v) (row : ∀ (ls : Array Slot) (stR : List Value) (H : Heap) (locs : List Loc) (cells slots : Nat), va_S (zA N0) s.heap H locs → W p l e R s m args below meth c H locs cells slots Qf (F0 m nx ls (v :: stR)) → W p l e R s m args below meth c H locs cells slots Qf (F0 m pc ls stR)) : zSo p l e R s m args below meth c D cid kv N0 xs Ls nL Qf ρ0 n0 z0 nF zE Qq Ca pc (op_c v nx) :=
  fun L st h hw => zW_step hw (fun ls stR ρ H locs _ _ a4 a5 _ a7 kk => row ls stR H locs _ _ a7 (kk ls _ a4 ⟨hv ρ, a5⟩))
/-- a constant that is a reference -/
theorem so_cr {i : Nat} (h1 : 1000000 ≤ i) (h2 : i < 1000014) (row : ∀ (ls : Array Slot) (stR : List Value) (H : Heap) (locs : List Loc) (cells slots : Nat), va_S (zA N0) s.heap H locs → W p l e R s m args below meth c H locs cells slots Qf (F0 m nx ls (va_rf (kv (i - 1000000)) :: stR)) → W p l e R s m args below meth c H locs cells slots Qf (F0 m pc ls stR)) : zSo p l e R s m args below meth c D cid kv N0 xs Ls nL Qf ρ0 n0 z0 nF zE Qq Ca pc (op_c (.ref i) nx) :=
  fun L st h hw => zW_step hw (fun ls stR ρ H locs _ _ a4 a5 _ a7 kk => row ls stR H locs _ _ a7 (kk ls _ a4 ⟨by unfold zV; dsimp only; rw [if_neg (Nat.not_lt.mpr h1), if_pos h2], a5⟩))
theorem so_ldI (row : ∀ (ls : Array Slot) (stR : List Value) (H : Heap) (locs : List Loc) (cells slots : Nat) (x : Int32), ls[k]? = some (.val (.int x)) → W p l e R s m args below meth c H locs cells slots Qf (F0 m nx ls (.int x :: stR)) → W p l e R s m args below meth c H locs cells slots Qf (F0 m pc ls stR)) : zSo p l e R s m args below meth c D cid kv N0 xs Ls nL Qf ρ0 n0 z0 nF zE Qq Ca pc (op_ldI k nx) := by
  intro L st h hw
  unfold op_ldI at hw
  split at hw
  · rename_i x hx
    exact zW_step hw (fun ls stR ρ H locs _ _ a4 a5 _ _ kk => row ls stR H locs _ _ x (zLR_i a4 hx) (kk ls _ a4 ⟨rfl, a5⟩))
  · exact hw.elim
theorem so_ldJ (row : ∀ (ls : Array Slot) (stR : List Value) (H : Heap) (locs : List Loc) (cells slots : Nat) (x : Int64), ls[k]? = some (.val (.long x)) → W p l e R s m args below meth c H locs cells slots Qf (F0 m nx ls (.long x :: stR)) → W p l e R s m args below meth c H locs cells slots Qf (F0 m pc ls stR)) : zSo p l e R s m args below meth c D cid kv N0 xs Ls nL Qf ρ0 n0 z0 nF zE Qq Ca pc (op_ldJ k nx) := by
  intro L st h hw
  unfold op_ldJ at hw
  split at hw
  · rename_i x hx
    exact zW_step hw (fun ls stR ρ H locs _ _ a4 a5 _ _ kk => row ls stR H locs _ _ x (zLR_j a4 hx) (kk ls _ a4 ⟨rfl, a5⟩))
  · exact hw.elim
theorem zV_r {ρ : List Nat} {i : Nat} {v' : Value} (h : zV kv ρ (.ref i) = some v') : ∃ o : Option Nat, v' = va_rf o := by
  unfold zV at h
  dsimp only at h
  split at h
  · cases hr : ρ[i]? with
    | none => rw [hr] at h; cases h
    | some a => rw [hr] at h; cases h; exact ⟨some a, rfl⟩
  · split at h
    · cases h; exact ⟨_, rfl⟩
    · cases h
theorem so_ldA (row : ∀ (ls : Array Slot) (stR : List Value) (H : Heap) (locs : List Loc) (cells slots : Nat) (o : Option Nat), ls[k]? = some (.val (va_rf o)) → W p l e R s m args below meth c H locs cells slots Qf (F0 m nx ls (va_rf o :: stR)) → W p l e R s m args below meth c H locs cells slots Qf (F0 m pc ls stR)) : zSo p l e R s m args below meth c D cid kv N0 xs Ls nL Qf ρ0 n0 z0 nF zE Qq Ca pc (op_ldA k nx) := by
  intro L st h hw
  unfold op_ldA at hw
  split at hw
  · rename_i x hx
    refine zW_step hw (fun ls stR ρ H locs _ _ a4 a5 _ _ kk => ?_)
    obtain ⟨v', g1, g2⟩ := a4.2.2.2 k _ hx
    obtain ⟨o, rfl⟩ := zV_r g1
    exact row ls stR H locs _ _ o g2 (kk ls _ a4 ⟨g1, a5⟩)
  · exact hw.elim
theorem so_stI (row : ∀ (ls : Array Slot) (stR : List Value) (H : Heap) (locs : List Loc) (cells slots : Nat) (x : Int32), lv_has ls nL (zAll ls) → k < nL → (∀ ls' : Array Slot, lv_has ls' nL ((k, .int x) :: (zAll ls).filter (fun q => !(q.1 == k) && !(q.1 + 1 == k && q.2.category == 2))) → W p l e R s m args below meth c H locs cells slots Qf (F0 m nx ls' stR)) → W p l e R s m args below meth c H locs cells slots Qf (F0 m pc ls (.int x :: stR))) : zSo p l e R s m args below meth c D cid kv N0 xs Ls nL Qf ρ0 n0 z0 nF zE Qq Ca pc (op_stI k nx) := by
  intro L st h hw
  unfold op_stI at hw
  split at hw
  · rename_i x st
    split at hw
    · rename_i hk
      refine zW_step hw (fun ls stR ρ H locs _ _ a4 a5 _ _ kk => ?_)
      obtain ⟨t', rfl, h2⟩ := zSR_i a5
      exact row ls t' H locs _ _ x (zAll_has a4.1 a4.2.1) (by rw [← a4.2.2.1]; exact hk) (fun ls' hs => kk ls' t' (zLR_st1 a4 rfl hs) h2)
    · exact hw.elim
  · exact hw.elim
theorem so_stA (row : ∀ (ls : Array Slot) (stR : List Value) (H : Heap) (locs : List Loc) (cells slots : Nat) (o : Option Nat), lv_has ls nL (zAll ls) → k < nL → (∀ ls' : Array Slot, lv_has ls' nL ((k, va_rf o) :: (zAll ls).filter (fun q => !(q.1 == k) && !(q.1 + 1 == k && q.2.category == 2))) → W p l e R s m args below meth c H locs cells slots Qf (F0 m nx ls' stR)) → W p l e R s m args below meth c H locs cells slots Qf (F0 m pc ls (va_rf o :: stR))) : zSo p l e R s m args below meth c D cid kv N0 xs Ls nL Qf ρ0 n0 z0 nF zE Qq Ca pc (op_stA k nx) := by
  intro L st h hw
  unfold op_stA at hw
  split at hw
  · rename_i x st
    split at hw
    · rename_i hk
      refine zW_step hw (fun ls stR ρ H locs _ _ a4 a5 _ _ kk => ?_)
      obtain ⟨v', t', rfl, h1, h2⟩ := zSR_c a5
      obtain ⟨o, rfl⟩ := zV_r h1
      exact row ls t' H locs _ _ o (zAll_has a4.1 a4.2.1) (by rw [← a4.2.2.1]; exact hk) (fun ls' hs => kk ls' t' (zLR_st1 a4 h1 hs) h2)
    · exact hw.elim
  · exact hw.elim
theorem so_stJ (row : ∀ (ls : Array Slot) (stR : List Value) (H : Heap) (locs : List Loc) (cells slots : Nat) (x : Int64), lv_has ls nL (zAll ls) → k + 1 < nL → (∀ ls' : Array Slot, lv_has ls' nL ((k, .long x) :: (zAll ls).filter (fun q => !(q.1 == k) && (!(q.1 == k + 1) && !(q.1 + 1 == k && q.2.category == 2)))) → W p l e R s m args below meth c H locs cells slots Qf (F0 m nx ls' stR)) → W p l e R s m args below meth c H locs cells slots Qf (F0 m pc ls (.long x :: stR))) : zSo p l e R s m args below meth c D cid kv N0 xs Ls nL Qf ρ0 n0 z0 nF zE Qq Ca pc (op_stJ k nx) := by
  intro L st h hw
  unfold op_stJ at hw
  split at hw
  · rename_i x st
    split at hw
    · rename_i hk
      refine zW_step hw (fun ls stR ρ H locs _ _ a4 a5 _ _ kk => ?_)
      obtain ⟨t', rfl, h2⟩ := zSR_j a5
      exact row ls t' H locs _ _ x (zAll_has a4.1 a4.2.1) (by rw [← a4.2.2.1]; exact hk) (fun ls' hs => kk ls' t' (zLR_st2 a4 hk rfl hs) h2)
    · exact hw.elim
  · exact hw.elim
theorem lg_lt : ∀ {L : zL} {k : Nat} {v : Value}, lg L k = some v → k < L.length
  | [], _, _, h => by simp [lg] at h
  | _ :: _, 0, _, _ => by simp
  | _ :: L, k + 1, v, h => by simp only [lg] at h; have := lg_lt h; simp; omega
theorem so_inc {n : Int32} (row : ∀ (ls : Array Slot) (stR : List Value) (H : Heap) (locs : List Loc) (cells slots : Nat) (x : Int32) (j : Nat), lv_has ls nL (zAll ls) → (zAll ls)[j]? = some (k, .int x) → k < nL → (∀ ls' : Array Slot, lv_has ls' nL ((k, .int (x + n)) :: (zAll ls).filter (fun q => !(q.1 == k) && !(q.1 + 1 == k && q.2.category == 2))) → W p l e R s m args below meth c H locs cells slots Qf (F0 m nx ls' stR)) → W p l e R s m args below meth c H locs cells slots Qf (F0 m pc ls stR)) : zSo p l e R s m args below meth c D cid kv N0 xs Ls nL Qf ρ0 n0 z0 nF zE Qq Ca pc (op_inc k n nx) := by
  intro L st h hw
  unfold op_inc at hw
  split at hw
  · rename_i x hx
    refine zW_step hw (fun ls stR ρ H locs _ _ a4 a5 _ _ kk => ?_)
    obtain ⟨j, hj⟩ := List.getElem?_of_mem (zAll_in.mpr (show ls[((k, Value.int x) : Nat × Value).1]? = some (.val ((k, Value.int x) : Nat × Value).2) from zLR_i a4 hx))
    exact row ls stR H locs _ _ x j (zAll_has a4.1 a4.2.1) hj (by rw [← a4.2.2.1]; exact lg_lt hx) (fun ls' hs => kk ls' stR (zLR_st1 a4 rfl hs) a5)
  · exact hw.elim
theorem so_pop (row : ∀ (ls : Array Slot) (stR : List Value) (H : Heap) (locs : List Loc) (cells slots : Nat) (v : Value), v.category = 1 → W p l e R s m args below meth c H locs cells slots Qf (F0 m nx ls stR) → W p l e R s m args below meth c H locs cells slots Qf (F0 m pc ls (v :: stR))) : zSo p l e R s m args below meth c D cid kv N0 xs Ls nL Qf ρ0 n0 z0 nF zE Qq Ca pc (op_pop nx) := by
  intro L st h hw
  unfold op_pop at hw
  split at hw
  · refine zW_step hw (fun ls stR ρ H locs _ _ a4 a5 _ _ kk => ?_)
    obtain ⟨v', t', rfl, h1, h2⟩ := zSR_c a5
    exact row ls t' H locs _ _ v' (zV_cat h1) (kk ls t' a4 h2)
  · refine zW_step hw (fun ls stR ρ H locs _ _ a4 a5 _ _ kk => ?_)
    obtain ⟨v', t', rfl, h1, h2⟩ := zSR_c a5
    exact row ls t' H locs _ _ v' (zV_cat h1) (kk ls t' a4 h2)
  · exact hw.elim
theorem so_dup (row : ∀ (ls : Array Slot) (stR : List Value) (H : Heap) (locs : List Loc) (cells slots : Nat) (v : Value), v.category = 1 → W p l e R s m args below meth c H locs cells slots Qf (F0 m nx ls (v :: v :: stR)) → W p l e R s m args below meth c H locs cells slots Qf (F0 m pc ls (v :: stR))) : zSo p l e R s m args below meth c D cid kv N0 xs Ls nL Qf ρ0 n0 z0 nF zE Qq Ca pc (op_dup nx) := by
  intro L st h hw
  unfold op_dup at hw
  split at hw
  · refine zW_step hw (fun ls stR ρ H locs _ _ a4 a5 _ _ kk => ?_)
    obtain ⟨v', t', rfl, h1, h2⟩ := zSR_c a5
    exact row ls t' H locs _ _ v' (zV_cat h1) (kk ls _ a4 ⟨h1, h1, h2⟩)
  · refine zW_step hw (fun ls stR ρ H locs _ _ a4 a5 _ _ kk => ?_)
    obtain ⟨v', t', rfl, h1, h2⟩ := zSR_c a5
    exact row ls t' H locs _ _ v' (zV_cat h1) (kk ls _ a4 ⟨h1, h1, h2⟩)
  · exact hw.elim
theorem so_dup2 (row : ∀ (ls : Array Slot) (stR : List Value) (H : Heap) (locs : List Loc) (cells slots : Nat) (v w : Value), v.category = 1 → w.category = 1 → W p l e R s m args below meth c H locs cells slots Qf (F0 m nx ls (v :: w :: v :: w :: stR)) → W p l e R s m args below meth c H locs cells slots Qf (F0 m pc ls (v :: w :: stR))) : zSo p l e R s m args below meth c D cid kv N0 xs Ls nL Qf ρ0 n0 z0 nF zE Qq Ca pc (op_dup2 nx) := by
  intro L st h hw
  unfold op_dup2 at hw
  split at hw
  · refine zW_step hw (fun ls stR ρ H locs _ _ a4 a5 _ _ kk => ?_)
    obtain ⟨v', t', rfl, h1, h2⟩ := zSR_c a5
    obtain ⟨w', t', rfl, h3, h4⟩ := zSR_c h2
    exact row ls t' H locs _ _ v' w' (zV_cat h1) (zV_cat h3) (kk ls _ a4 ⟨h1, h3, h1, h3, h4⟩)
  · exact hw.elim
theorem so_b {f : Int32 → Int32 → Int32} (row : ∀ (ls : Array Slot) (stR : List Value) (H : Heap) (locs : List Loc) (cells slots : Nat) (x y : Int32), W p l e R s m args below meth c H locs cells slots Qf (F0 m nx ls (.int (f x y) :: stR)) → W p l e R s m args below meth c H locs cells slots Qf (F0 m pc ls (.int y :: .int x :: stR))) : zSo p l e R s m args below meth c D cid kv N0 xs Ls nL Qf ρ0 n0 z0 nF zE Qq Ca pc (op_b f nx) := by
  intro L st h hw
  unfold op_b at hw
  split at hw
  · refine zW_step hw (fun ls stR ρ H locs _ _ a4 a5 _ _ kk => ?_)
    obtain ⟨t1, rfl, h1⟩ := zSR_i a5
    obtain ⟨t', rfl, h2⟩ := zSR_i h1
    exact row ls t' H locs _ _ _ _ (kk ls _ a4 ⟨rfl, h2⟩)
  · exact hw.elim
theorem so_d {f : Int32 → Int32 → Int32} (row : ∀ (ls : Array Slot) (stR : List Value) (H : Heap) (locs : List Loc) (cells slots : Nat) (x y : Int32), ¬ y = 0 → W p l e R s m args below meth c H locs cells slots Qf (F0 m nx ls (.int (f x y) :: stR)) → W p l e R s m args below meth c H locs cells slots Qf (F0 m pc ls (.int y :: .int x :: stR))) : zSo p l e R s m args below meth c D cid kv N0 xs Ls nL Qf ρ0 n0 z0 nF zE Qq Ca pc (op_d f nx) := by
  intro L st h hw
  unfold op_d at hw
  split at hw
  · split at hw
    · exact hw.elim
    · rename_i hy
      refine zW_step hw (fun ls stR ρ H locs _ _ a4 a5 _ _ kk => ?_)
      obtain ⟨t1, rfl, h1⟩ := zSR_i a5
      obtain ⟨t', rfl, h2⟩ := zSR_i h1
      exact row ls t' H locs _ _ _ _ hy (kk ls _ a4 ⟨rfl, h2⟩)
  · exact hw.elim
theorem so_u {f : Int32 → Int32} (row : ∀ (ls : Array Slot) (stR : List Value) (H : Heap) (locs : List Loc) (cells slots : Nat) (x : Int32), W p l e R s m args below meth c H locs cells slots Qf (F0 m nx ls (.int (f x) :: stR)) → W p l e R s m args below meth c H locs cells slots Qf (F0 m pc ls (.int x :: stR))) : zSo p l e R s m args below meth c D cid kv N0 xs Ls nL Qf ρ0 n0 z0 nF zE Qq Ca pc (op_u f nx) := by
  intro L st h hw
  unfold op_u at hw
  split at hw
  · refine zW_step hw (fun ls stR ρ H locs _ _ a4 a5 _ _ kk => ?_)
    obtain ⟨t', rfl, h2⟩ := zSR_i a5
    exact row ls t' H locs _ _ _ (kk ls _ a4 ⟨rfl, h2⟩)
  · exact hw.elim
theorem so_lb {f : Int64 → Int64 → Int64} (row : ∀ (ls : Array Slot) (stR : List Value) (H : Heap) (locs : List Loc) (cells slots : Nat) (x y : Int64), W p l e R s m args below meth c H locs cells slots Qf (F0 m nx ls (.long (f x y) :: stR)) → W p l e R s m args below meth c H locs cells slots Qf (F0 m pc ls (.long y :: .long x :: stR))) : zSo p l e R s m args below meth c D cid kv N0 xs Ls nL Qf ρ0 n0 z0 nF zE Qq Ca pc (op_lb f nx) := by
  intro L st h hw
  unfold op_lb at hw
  split at hw
  · refine zW_step hw (fun ls stR ρ H locs _ _ a4 a5 _ _ kk => ?_)
    obtain ⟨t1, rfl, h1⟩ := zSR_j a5
    obtain ⟨t', rfl, h2⟩ := zSR_j h1
    exact row ls t' H locs _ _ _ _ (kk ls _ a4 ⟨rfl, h2⟩)
  · exact hw.elim
theorem so_ldv {f : Int64 → Int64 → Int64} (row : ∀ (ls : Array Slot) (stR : List Value) (H : Heap) (locs : List Loc) (cells slots : Nat) (x y : Int64), ¬ y = 0 → W p l e R s m args below meth c H locs cells slots Qf (F0 m nx ls (.long (f x y) :: stR)) → W p l e R s m args below meth c H locs cells slots Qf (F0 m pc ls (.long y :: .long x :: stR))) : zSo p l e R s m args below meth c D cid kv N0 xs Ls nL Qf ρ0 n0 z0 nF zE Qq Ca pc (op_ldv f nx) := by
  intro L st h hw
  unfold op_ldv at hw
  split at hw
  · split at hw
    · exact hw.elim
    · rename_i hy
      refine zW_step hw (fun ls stR ρ H locs _ _ a4 a5 _ _ kk => ?_)
      obtain ⟨t1, rfl, h1⟩ := zSR_j a5
      obtain ⟨t', rfl, h2⟩ := zSR_j h1
      exact row ls t' H locs _ _ _ _ hy (kk ls _ a4 ⟨rfl, h2⟩)
  · exact hw.elim
theorem so_lsh {f : Int64 → Int32 → Int64} (row : ∀ (ls : Array Slot) (stR : List Value) (H : Heap) (locs : List Loc) (cells slots : Nat) (x : Int64) (y : Int32), W p l e R s m args below meth c H locs cells slots Qf (F0 m nx ls (.long (f x y) :: stR)) → W p l e R s m args below meth c H locs cells slots Qf (F0 m pc ls (.int y :: .long x :: stR))) : zSo p l e R s m args below meth c D cid kv N0 xs Ls nL Qf ρ0 n0 z0 nF zE Qq Ca pc (op_lsh f nx) := by
  intro L st h hw
  unfold op_lsh at hw
  split at hw
  · refine zW_step hw (fun ls stR ρ H locs _ _ a4 a5 _ _ kk => ?_)
    obtain ⟨t1, rfl, h1⟩ := zSR_i a5
    obtain ⟨t', rfl, h2⟩ := zSR_j h1
    exact row ls t' H locs _ _ _ _ (kk ls _ a4 ⟨rfl, h2⟩)
  · exact hw.elim
theorem so_i2l (row : ∀ (ls : Array Slot) (stR : List Value) (H : Heap) (locs : List Loc) (cells slots : Nat) (x : Int32), W p l e R s m args below meth c H locs cells slots Qf (F0 m nx ls (.long x.toInt64 :: stR)) → W p l e R s m args below meth c H locs cells slots Qf (F0 m pc ls (.int x :: stR))) : zSo p l e R s m args below meth c D cid kv N0 xs Ls nL Qf ρ0 n0 z0 nF zE Qq Ca pc (op_i2l nx) := by
  intro L st h hw
  unfold op_i2l at hw
  split at hw
  · refine zW_step hw (fun ls stR ρ H locs _ _ a4 a5 _ _ kk => ?_)
    obtain ⟨t', rfl, h2⟩ := zSR_i a5
    exact row ls t' H locs _ _ _ (kk ls _ a4 ⟨rfl, h2⟩)
  · exact hw.elim
theorem so_l2i (row : ∀ (ls : Array Slot) (stR : List Value) (H : Heap) (locs : List Loc) (cells slots : Nat) (x : Int64), W p l e R s m args below meth c H locs cells slots Qf (F0 m nx ls (.int x.toInt32 :: stR)) → W p l e R s m args below meth c H locs cells slots Qf (F0 m pc ls (.long x :: stR))) : zSo p l e R s m args below meth c D cid kv N0 xs Ls nL Qf ρ0 n0 z0 nF zE Qq Ca pc (op_l2i nx) := by
  intro L st h hw
  unfold op_l2i at hw
  split at hw
  · refine zW_step hw (fun ls stR ρ H locs _ _ a4 a5 _ _ kk => ?_)
    obtain ⟨t', rfl, h2⟩ := zSR_j a5
    exact row ls t' H locs _ _ _ (kk ls _ a4 ⟨rfl, h2⟩)
  · exact hw.elim
theorem so_lcmp (row : ∀ (ls : Array Slot) (stR : List Value) (H : Heap) (locs : List Loc) (cells slots : Nat) (x y : Int64), W p l e R s m args below meth c H locs cells slots Qf (F0 m nx ls (.int (zcmp x y) :: stR)) → W p l e R s m args below meth c H locs cells slots Qf (F0 m pc ls (.long y :: .long x :: stR))) : zSo p l e R s m args below meth c D cid kv N0 xs Ls nL Qf ρ0 n0 z0 nF zE Qq Ca pc (op_lcmp nx) := by
  intro L st h hw
  unfold op_lcmp at hw
  split at hw
  · refine zW_step hw (fun ls stR ρ H locs _ _ a4 a5 _ _ kk => ?_)
    obtain ⟨t1, rfl, h1⟩ := zSR_j a5
    obtain ⟨t', rfl, h2⟩ := zSR_j h1
    exact row ls t' H locs _ _ _ _ (kk ls _ a4 ⟨rfl, h2⟩)
  · exact hw.elim
theorem so_i1 {P : Int32 → Prop} {dP : DecidablePred P} (row : ∀ (ls : Array Slot) (stR : List Value) (H : Heap) (locs : List Loc) (cells slots : Nat) (x : Int32), (P x → W p l e R s m args below meth c H locs cells slots Qf (F0 m t ls stR)) → (¬ P x → W p l e R s m args below meth c H locs cells slots Qf (F0 m nx ls stR)) → W p l e R s m args below meth c H locs cells slots Qf (F0 m pc ls (.int x :: stR))) : zSo p l e R s m args below meth c D cid kv N0 xs Ls nL Qf ρ0 n0 z0 nF zE Qq Ca pc (op_i1 P t nx) := by
  intro L st h hw
  unfold op_i1 at hw
  split at hw
  · split at hw
    · rename_i hP
      refine zW_step hw (fun ls stR ρ H locs _ _ a4 a5 _ _ kk => ?_)
      obtain ⟨t', rfl, h2⟩ := zSR_i a5
      exact row ls t' H locs _ _ _ (fun _ => kk ls _ a4 h2) (fun z => absurd hP z)
    · rename_i hP
      refine zW_step hw (fun ls stR ρ H locs _ _ a4 a5 _ _ kk => ?_)
      obtain ⟨t', rfl, h2⟩ := zSR_i a5
      exact row ls t' H locs _ _ _ (fun z => absurd z hP) (fun _ => kk ls _ a4 h2)
  · exact hw.elim
theorem so_i2 {P : Int32 → Int32 → Prop} {dP : ∀ x y, Decidable (P x y)} (row : ∀ (ls : Array Slot) (stR : List Value) (H : Heap) (locs : List Loc) (cells slots : Nat) (x y : Int32), (P x y → W p l e R s m args below meth c H locs cells slots Qf (F0 m t ls stR)) → (¬ P x y → W p l e R s m args below meth c H locs cells slots Qf (F0 m nx ls stR)) → W p l e R s m args below meth c H locs cells slots Qf (F0 m pc ls (.int y :: .int x :: stR))) : zSo p l e R s m args below meth c D cid kv N0 xs Ls nL Qf ρ0 n0 z0 nF zE Qq Ca pc (op_i2 P t nx) := by
  intro L st h hw
  unfold op_i2 at hw
  split at hw
  · split at hw
    · rename_i hP
      refine zW_step hw (fun ls stR ρ H locs _ _ a4 a5 _ _ kk => ?_)
      obtain ⟨t1, rfl, h1⟩ := zSR_i a5
      obtain ⟨t', rfl, h2⟩ := zSR_i h1
      exact row ls t' H locs _ _ _ _ (fun _ => kk ls _ a4 h2) (fun z => absurd hP z)
    · rename_i hP
      refine zW_step hw (fun ls stR ρ H locs _ _ a4 a5 _ _ kk => ?_)
      obtain ⟨t1, rfl, h1⟩ := zSR_i a5
      obtain ⟨t', rfl, h2⟩ := zSR_i h1
      exact row ls t' H locs _ _ _ _ (fun z => absurd z hP) (fun _ => kk ls _ a4 h2)
  · exact hw.elim
end SO
