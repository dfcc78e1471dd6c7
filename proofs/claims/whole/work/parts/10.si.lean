/-! SOUNDNESS of the JVM's instructions, one by one -/
/-- what a frame of ours stands on -/
def zFx (p : Program) (l : Launch) (R : Room) (s : State) (m : MethodId) (args : Array Value) (meth : Method) (c : Code) (D : va_G) (cid : Nat → ClassId) (kv : Nat → Option Nat) (N0 : Nat) (xs : Nat → Int32) (Ls : Nat) (own : String) (cc : ByteArray) (nL n0 z0 nF zE d : Nat) : Prop :=
  CallFix p m c cc nL s args zTB own ∧ zCst D cid kv N0 xs Ls s ∧ nF - n0 ≤ R.cells ∧ zE - z0 ≤ R.slots ∧ nF ≤ 1000000 ∧ d + 1 ≤ R.frames ∧ 60 * d + 60 ≤ R.locals
section SI
variable {p : Program} {l : Launch} {e : Env} {R : Room} {s : State} {m : MethodId} {args : Array Value} {below : List Frame} {meth : Method} {c : Code}
variable {D : va_G} {cid : Nat → ClassId} {kv : Nat → Option Nat} {N0 : Nat} {xs : Nat → Int32} {Ls : Nat} {own : String} {cc : ByteArray} {nL : Nat} {Qf : State → Prop} {ρ0 : List Nat} {n0 z0 nF zE d : Nat} {pc nx k t i : Nat} {Qq : zQq} {Ca : zCa}
theorem si_iconst {n : Int} {v : Int32} (F : zFx p l R s m args meth c D cid kv N0 xs Ls own cc nL n0 z0 nF zE d) (hd : decode cc pc = .ok (.iconst n, 1)) (hv : Int32.ofInt n = v) : zSo p l e R s m args below meth c D cid kv N0 xs Ls nL Qf ρ0 n0 z0 nF zE Qq Ca pc (op_c (.int v) (pc + 1)) := so_c (fun _ => rfl) (fun _ _ _ _ _ _ _ k => lv_iconst F.1.1 F.1.2.1 hd hv k)
theorem si_bipush {n : Int} {v : Int32} (F : zFx p l R s m args meth c D cid kv N0 xs Ls own cc nL n0 z0 nF zE d) (hd : decode cc pc = .ok (.bipush n, 2)) (hv : (Int8.ofInt n).toInt32 = v) : zSo p l e R s m args below meth c D cid kv N0 xs Ls nL Qf ρ0 n0 z0 nF zE Qq Ca pc (op_c (.int v) (pc + 2)) := so_c (fun _ => rfl) (fun _ _ _ _ _ _ _ k => lv_bipush F.1.1 F.1.2.1 hd hv k)
theorem si_sipush {n : Int} {v : Int32} (F : zFx p l R s m args meth c D cid kv N0 xs Ls own cc nL n0 z0 nF zE d) (hd : decode cc pc = .ok (.sipush n, 3)) (hv : (Int16.ofInt n).toInt32 = v) : zSo p l e R s m args below meth c D cid kv N0 xs Ls nL Qf ρ0 n0 z0 nF zE Qq Ca pc (op_c (.int v) (pc + 3)) := so_c (fun _ => rfl) (fun _ _ _ _ _ _ _ k => lv_sipush F.1.1 F.1.2.1 hd hv k)
theorem si_lconst {n : Fin 2} {v : Int64} (F : zFx p l R s m args meth c D cid kv N0 xs Ls own cc nL n0 z0 nF zE d) (hd : decode cc pc = .ok (.lconst n, 1)) (hv : Int64.ofNat (n : Nat) = v) : zSo p l e R s m args below meth c D cid kv N0 xs Ls nL Qf ρ0 n0 z0 nF zE Qq Ca pc (op_c (.long v) (pc + 1)) := so_c (fun _ => rfl) (fun _ _ _ _ _ _ _ k => lv_lconst F.1.1 F.1.2.1 hd hv k)
theorem si_ldc {index : Nat} {v : Int32} (F : zFx p l R s m args meth c D cid kv N0 xs Ls own cc nL n0 z0 nF zE d) (hd : decode cc pc = .ok (.ldc index, 2)) (hw : Cond.constant own index v ∈ zTB) : zSo p l e R s m args below meth c D cid kv N0 xs Ls nL Qf ρ0 n0 z0 nF zE Qq Ca pc (op_c (.int v) (pc + 2)) := so_c (fun _ => rfl) (fun _ _ _ _ _ _ _ k => lv_ldc F.1.1 F.1.2.1 F.1.2.2.2.1 (F.1.2.2.2.2 _ hw) hd k)
theorem si_ldc_w {index : Nat} {v : Int32} (F : zFx p l R s m args meth c D cid kv N0 xs Ls own cc nL n0 z0 nF zE d) (hd : decode cc pc = .ok (.ldc_w index, 3)) (hw : Cond.constant own index v ∈ zTB) : zSo p l e R s m args below meth c D cid kv N0 xs Ls nL Qf ρ0 n0 z0 nF zE Qq Ca pc (op_c (.int v) (pc + 3)) := so_c (fun _ => rfl) (fun _ _ _ _ _ _ _ k => lv_ldcw F.1.1 F.1.2.1 F.1.2.2.2.1 (F.1.2.2.2.2 _ hw) hd k)
theorem si_ldc2_w {index : Nat} {v : Int64} (F : zFx p l R s m args meth c D cid kv N0 xs Ls own cc nL n0 z0 nF zE d) (hd : decode cc pc = .ok (.ldc2_w index, 3)) (hw : Cond.constantLong own index v ∈ zTB) : zSo p l e R s m args below meth c D cid kv N0 xs Ls nL Qf ρ0 n0 z0 nF zE Qq Ca pc (op_c (.long v) (pc + 3)) := so_c (fun _ => rfl) (fun _ _ _ _ _ _ _ k => lv_ldc2 F.1.1 F.1.2.1 F.1.2.2.2.1 (F.1.2.2.2.2 _ hw) hd k)
theorem si_ldcS {index k : Nat} (F : zFx p l R s m args meth c D cid kv N0 xs Ls own cc nL n0 z0 nF zE d) (hk : k < 5) (ho : own = "TurnBack$SeasonReader") (hi : ([66, 47, 49, 77, 83] : List Nat).getD k 0 = index) (hd : decode cc pc = .ok (.ldc index, 2)) : zSo p l e R s m args below meth c D cid kv N0 xs Ls nL Qf ρ0 n0 z0 nF zE Qq Ca pc (op_c (.ref (1000003 + k)) (pc + 2)) := so_cr (by omega) (by omega) (fun _ _ _ _ _ _ _ kk => by
  obtain ⟨-, -, -, -, -, -, -, -, -, -, adK, adV, hE, hE2⟩ := F.2.1
  obtain ⟨g1, g2, g3⟩ := hE2 k hk
  rw [show 1000003 + k - 1000000 = 3 + k by omega, g1] at kk
  rw [hi] at g3
  have hown := F.1.2.2.2.1
  rw [ho] at hown
  exact va_ldcS F.1.1 F.1.2.1 hown g3 hd kk)
theorem si_gs1 {index : Nat} (F : zFx p l R s m args meth c D cid kv N0 xs Ls own cc nL n0 z0 nF zE d) (hd : decode cc pc = .ok (.getstatic index, 3)) (hw : Cond.fieldLink own index "TurnBack$Acts" "ABOVE" "[I" ∈ zTB) : zSo p l e R s m args below meth c D cid kv N0 xs Ls nL Qf ρ0 n0 z0 nF zE Qq Ca pc (op_c (.ref 1000001) (pc + 3)) := so_cr (by omega) (by omega) (fun _ _ _ _ _ _ hS kk => by
  obtain ⟨-, -, -, -, -, -, ⟨t, t1, t2, -⟩, -⟩ := F.2.1
  rw [show kv (1000001 - 1000000) = some t from t1] at kk
  exact va_gets F.1.1 F.1.2.1 t2 hS F.1.2.2.2.1 (F.1.2.2.2.2 _ hw) (fun _ h => h) hd kk)
theorem si_gs2 {index : Nat} (F : zFx p l R s m args meth c D cid kv N0 xs Ls own cc nL n0 z0 nF zE d) (hd : decode cc pc = .ok (.getstatic index, 3)) (hw : Cond.fieldLink own index "TurnBack$Acts" "BODIES" "[I" ∈ zTB) : zSo p l e R s m args below meth c D cid kv N0 xs Ls nL Qf ρ0 n0 z0 nF zE Qq Ca pc (op_c (.ref 1000002) (pc + 3)) := so_cr (by omega) (by omega) (fun _ _ _ _ _ _ hS kk => by
  obtain ⟨-, -, -, -, -, -, -, ⟨t, t1, t2, -⟩, -⟩ := F.2.1
  rw [show kv (1000002 - 1000000) = some t from t1] at kk
  exact va_gets F.1.1 F.1.2.1 t2 hS F.1.2.2.2.1 (F.1.2.2.2.2 _ hw) (fun _ h => h) hd kk)
theorem si_gs3 {index : Nat} (F : zFx p l R s m args meth c D cid kv N0 xs Ls own cc nL n0 z0 nF zE d) (hd : decode cc pc = .ok (.getstatic index, 3)) (hw : Cond.fieldLink own index "java/lang/String" "COMPACT_STRINGS" "Z" ∈ zTB) : zSo p l e R s m args below meth c D cid kv N0 xs Ls nL Qf ρ0 n0 z0 nF zE Qq Ca pc (op_c (.int 1) (pc + 3)) := so_c (fun _ => rfl) (fun _ _ _ _ _ _ hS kk => by
  obtain ⟨-, -, -, -, -, -, -, -, t2, -⟩ := F.2.1
  exact va_gets F.1.1 F.1.2.1 t2 hS F.1.2.2.2.1 (F.1.2.2.2.2 _ hw) (fun _ h => h) hd kk)
theorem si_gs4 {index : Nat} (F : zFx p l R s m args meth c D cid kv N0 xs Ls own cc nL n0 z0 nF zE d) (hd : decode cc pc = .ok (.getstatic index, 3)) (hw : Cond.fieldLink own index "jdk/internal/util/Preconditions" "SIOOBE_FORMATTER" "Ljava/util/function/BiFunction;" ∈ zTB) : zSo p l e R s m args below meth c D cid kv N0 xs Ls nL Qf ρ0 n0 z0 nF zE Qq Ca pc (op_c (.ref 1000013) (pc + 3)) := so_cr (by omega) (by omega) (fun _ _ _ _ _ _ hS kk => by
  obtain ⟨-, -, -, -, -, -, -, -, -, t2, -⟩ := F.2.1
  exact va_gets F.1.1 F.1.2.1 t2 hS F.1.2.2.2.1 (F.1.2.2.2.2 _ hw) (fun _ h => h) hd kk)
theorem si_iload_n {q : Fin 4} (F : zFx p l R s m args meth c D cid kv N0 xs Ls own cc nL n0 z0 nF zE d) (hd : decode cc pc = .ok (.iload_n q, 1)) (hi : (q : Nat) = i) : zSo p l e R s m args below meth c D cid kv N0 xs Ls nL Qf ρ0 n0 z0 nF zE Qq Ca pc (op_ldI i (pc + 1)) := so_ldI (fun _ _ _ _ _ _ _ h k => lv_iload_n F.1.1 F.1.2.1 hd hi h k)
theorem si_iload (F : zFx p l R s m args meth c D cid kv N0 xs Ls own cc nL n0 z0 nF zE d) (hd : decode cc pc = .ok (.iload i, 2)) : zSo p l e R s m args below meth c D cid kv N0 xs Ls nL Qf ρ0 n0 z0 nF zE Qq Ca pc (op_ldI i (pc + 2)) := so_ldI (fun _ _ _ _ _ _ _ h k => lv_iload F.1.1 F.1.2.1 hd h k)
theorem si_lload_n {q : Fin 4} (F : zFx p l R s m args meth c D cid kv N0 xs Ls own cc nL n0 z0 nF zE d) (hd : decode cc pc = .ok (.lload_n q, 1)) (hi : (q : Nat) = i) : zSo p l e R s m args below meth c D cid kv N0 xs Ls nL Qf ρ0 n0 z0 nF zE Qq Ca pc (op_ldJ i (pc + 1)) := so_ldJ (fun _ _ _ _ _ _ _ h k => lv_lload_n F.1.1 F.1.2.1 hd hi h k)
theorem si_lload (F : zFx p l R s m args meth c D cid kv N0 xs Ls own cc nL n0 z0 nF zE d) (hd : decode cc pc = .ok (.lload i, 2)) : zSo p l e R s m args below meth c D cid kv N0 xs Ls nL Qf ρ0 n0 z0 nF zE Qq Ca pc (op_ldJ i (pc + 2)) := so_ldJ (fun _ _ _ _ _ _ _ h k => lv_lload F.1.1 F.1.2.1 hd h k)
theorem si_aload_n {q : Fin 4} (F : zFx p l R s m args meth c D cid kv N0 xs Ls own cc nL n0 z0 nF zE d) (hd : decode cc pc = .ok (.aload_n q, 1)) (hi : (q : Nat) = i) : zSo p l e R s m args below meth c D cid kv N0 xs Ls nL Qf ρ0 n0 z0 nF zE Qq Ca pc (op_ldA i (pc + 1)) := so_ldA (fun _ _ _ _ _ _ o h k => by
  cases o with
  | none => exact lv_aload_nN F.1.1 F.1.2.1 hd hi h k
  | some a => exact lv_aload_n F.1.1 F.1.2.1 hd hi h k)
theorem si_aload (F : zFx p l R s m args meth c D cid kv N0 xs Ls own cc nL n0 z0 nF zE d) (hd : decode cc pc = .ok (.aload i, 2)) : zSo p l e R s m args below meth c D cid kv N0 xs Ls nL Qf ρ0 n0 z0 nF zE Qq Ca pc (op_ldA i (pc + 2)) := so_ldA (fun _ _ _ _ _ _ o h k => by
  cases o with
  | none => exact lv_aloadN F.1.1 F.1.2.1 hd h k
  | some a => exact lv_aload F.1.1 F.1.2.1 hd h k)
theorem si_istore_n {q : Fin 4} (F : zFx p l R s m args meth c D cid kv N0 xs Ls own cc nL n0 z0 nF zE d) (hd : decode cc pc = .ok (.istore_n q, 1)) (hi : (q : Nat) = i) : zSo p l e R s m args below meth c D cid kv N0 xs Ls nL Qf ρ0 n0 z0 nF zE Qq Ca pc (op_stI i (pc + 1)) := so_stI (fun _ _ _ _ _ _ _ h hk k => lv_istore_n F.1.1 F.1.2.1 hd hi h hk rfl k)
theorem si_istore (F : zFx p l R s m args meth c D cid kv N0 xs Ls own cc nL n0 z0 nF zE d) (hd : decode cc pc = .ok (.istore i, 2)) : zSo p l e R s m args below meth c D cid kv N0 xs Ls nL Qf ρ0 n0 z0 nF zE Qq Ca pc (op_stI i (pc + 2)) := so_stI (fun _ _ _ _ _ _ _ h hk k => lv_istore F.1.1 F.1.2.1 hd h hk rfl k)
theorem si_lstore_n {q : Fin 4} (F : zFx p l R s m args meth c D cid kv N0 xs Ls own cc nL n0 z0 nF zE d) (hd : decode cc pc = .ok (.lstore_n q, 1)) (hi : (q : Nat) = i) : zSo p l e R s m args below meth c D cid kv N0 xs Ls nL Qf ρ0 n0 z0 nF zE Qq Ca pc (op_stJ i (pc + 1)) := so_stJ (fun _ _ _ _ _ _ _ h hk k => lv_lstore_n F.1.1 F.1.2.1 hd hi h hk rfl k)
theorem si_lstore (F : zFx p l R s m args meth c D cid kv N0 xs Ls own cc nL n0 z0 nF zE d) (hd : decode cc pc = .ok (.lstore i, 2)) : zSo p l e R s m args below meth c D cid kv N0 xs Ls nL Qf ρ0 n0 z0 nF zE Qq Ca pc (op_stJ i (pc + 2)) := so_stJ (fun _ _ _ _ _ _ _ h hk k => lv_lstore F.1.1 F.1.2.1 hd h hk rfl k)
theorem si_astore_n {q : Fin 4} (F : zFx p l R s m args meth c D cid kv N0 xs Ls own cc nL n0 z0 nF zE d) (hd : decode cc pc = .ok (.astore_n q, 1)) (hi : (q : Nat) = i) : zSo p l e R s m args below meth c D cid kv N0 xs Ls nL Qf ρ0 n0 z0 nF zE Qq Ca pc (op_stA i (pc + 1)) := so_stA (fun _ _ _ _ _ _ o h hk k => by
  cases o with
  | none => exact lv_astore_nN F.1.1 F.1.2.1 hd hi h hk rfl k
  | some a => exact lv_astore_n F.1.1 F.1.2.1 hd hi h hk rfl k)
theorem si_astore (F : zFx p l R s m args meth c D cid kv N0 xs Ls own cc nL n0 z0 nF zE d) (hd : decode cc pc = .ok (.astore i, 2)) : zSo p l e R s m args below meth c D cid kv N0 xs Ls nL Qf ρ0 n0 z0 nF zE Qq Ca pc (op_stA i (pc + 2)) := so_stA (fun _ _ _ _ _ _ o h hk k => by
  cases o with
  | none => exact lv_astoreN F.1.1 F.1.2.1 hd h hk rfl k
  | some a => exact lv_astore F.1.1 F.1.2.1 hd h hk rfl k)
theorem si_iinc {n : Int} {v : Int32} (F : zFx p l R s m args meth c D cid kv N0 xs Ls own cc nL n0 z0 nF zE d) (hd : decode cc pc = .ok (.iinc i n, 3)) (hv : Int32.ofInt n = v) : zSo p l e R s m args below meth c D cid kv N0 xs Ls nL Qf ρ0 n0 z0 nF zE Qq Ca pc (op_inc i v (pc + 3)) := so_inc (fun _ _ _ _ _ _ x j h hj hk k => lv_iinc F.1.1 F.1.2.1 hd h hj (by rw [hv]) hk rfl k)
theorem si_pop (F : zFx p l R s m args meth c D cid kv N0 xs Ls own cc nL n0 z0 nF zE d) (hd : decode cc pc = .ok (.pop, 1)) : zSo p l e R s m args below meth c D cid kv N0 xs Ls nL Qf ρ0 n0 z0 nF zE Qq Ca pc (op_pop (pc + 1)) := so_pop (fun _ _ _ _ _ _ _ h k => lv_pop F.1.1 F.1.2.1 hd h k)
theorem si_dup (F : zFx p l R s m args meth c D cid kv N0 xs Ls own cc nL n0 z0 nF zE d) (hd : decode cc pc = .ok (.dup, 1)) : zSo p l e R s m args below meth c D cid kv N0 xs Ls nL Qf ρ0 n0 z0 nF zE Qq Ca pc (op_dup (pc + 1)) := so_dup (fun _ _ _ _ _ _ _ h k => lv_dup F.1.1 F.1.2.1 hd h k)
theorem si_dup2 (F : zFx p l R s m args meth c D cid kv N0 xs Ls own cc nL n0 z0 nF zE d) (hd : decode cc pc = .ok (.dup2, 1)) : zSo p l e R s m args below meth c D cid kv N0 xs Ls nL Qf ρ0 n0 z0 nF zE Qq Ca pc (op_dup2 (pc + 1)) := so_dup2 (fun _ _ _ _ _ _ _ _ h h2 k => by
  first
    | exact lv_dup2_11 F.1.1 F.1.2.1 hd h h2 k
    | exact lv_dup2_11 F.1.1 F.1.2.1 hd h2 h k)
theorem si_iadd (F : zFx p l R s m args meth c D cid kv N0 xs Ls own cc nL n0 z0 nF zE d) (hd : decode cc pc = .ok (.iadd, 1)) : zSo p l e R s m args below meth c D cid kv N0 xs Ls nL Qf ρ0 n0 z0 nF zE Qq Ca pc (op_b (fun x y => x + y) (pc + 1)) := so_b (fun _ _ _ _ _ _ _ _ k => lv_iadd F.1.1 F.1.2.1 hd k)
theorem si_isub (F : zFx p l R s m args meth c D cid kv N0 xs Ls own cc nL n0 z0 nF zE d) (hd : decode cc pc = .ok (.isub, 1)) : zSo p l e R s m args below meth c D cid kv N0 xs Ls nL Qf ρ0 n0 z0 nF zE Qq Ca pc (op_b (fun x y => x - y) (pc + 1)) := so_b (fun _ _ _ _ _ _ _ _ k => lv_isub F.1.1 F.1.2.1 hd k)
theorem si_imul (F : zFx p l R s m args meth c D cid kv N0 xs Ls own cc nL n0 z0 nF zE d) (hd : decode cc pc = .ok (.imul, 1)) : zSo p l e R s m args below meth c D cid kv N0 xs Ls nL Qf ρ0 n0 z0 nF zE Qq Ca pc (op_b (fun x y => x * y) (pc + 1)) := so_b (fun _ _ _ _ _ _ _ _ k => lv_imul F.1.1 F.1.2.1 hd k)
theorem si_iand (F : zFx p l R s m args meth c D cid kv N0 xs Ls own cc nL n0 z0 nF zE d) (hd : decode cc pc = .ok (.iand, 1)) : zSo p l e R s m args below meth c D cid kv N0 xs Ls nL Qf ρ0 n0 z0 nF zE Qq Ca pc (op_b (fun x y => x &&& y) (pc + 1)) := so_b (fun _ _ _ _ _ _ _ _ k => lv_iand F.1.1 F.1.2.1 hd k)
theorem si_ior (F : zFx p l R s m args meth c D cid kv N0 xs Ls own cc nL n0 z0 nF zE d) (hd : decode cc pc = .ok (.ior, 1)) : zSo p l e R s m args below meth c D cid kv N0 xs Ls nL Qf ρ0 n0 z0 nF zE Qq Ca pc (op_b (fun x y => x ||| y) (pc + 1)) := so_b (fun _ _ _ _ _ _ _ _ k => lv_ior F.1.1 F.1.2.1 hd k)
theorem si_ixor (F : zFx p l R s m args meth c D cid kv N0 xs Ls own cc nL n0 z0 nF zE d) (hd : decode cc pc = .ok (.ixor, 1)) : zSo p l e R s m args below meth c D cid kv N0 xs Ls nL Qf ρ0 n0 z0 nF zE Qq Ca pc (op_b (fun x y => x ^^^ y) (pc + 1)) := so_b (fun _ _ _ _ _ _ _ _ k => lv_ixor F.1.1 F.1.2.1 hd k)
theorem si_ishl (F : zFx p l R s m args meth c D cid kv N0 xs Ls own cc nL n0 z0 nF zE d) (hd : decode cc pc = .ok (.ishl, 1)) : zSo p l e R s m args below meth c D cid kv N0 xs Ls nL Qf ρ0 n0 z0 nF zE Qq Ca pc (op_b (fun x y => x <<< (y &&& 31)) (pc + 1)) := so_b (fun _ _ _ _ _ _ _ _ k => lv_ishl F.1.1 F.1.2.1 hd k)
theorem si_ishr (F : zFx p l R s m args meth c D cid kv N0 xs Ls own cc nL n0 z0 nF zE d) (hd : decode cc pc = .ok (.ishr, 1)) : zSo p l e R s m args below meth c D cid kv N0 xs Ls nL Qf ρ0 n0 z0 nF zE Qq Ca pc (op_b (fun x y => x >>> (y &&& 31)) (pc + 1)) := so_b (fun _ _ _ _ _ _ _ _ k => lv_ishr F.1.1 F.1.2.1 hd k)
theorem si_iushr (F : zFx p l R s m args meth c D cid kv N0 xs Ls own cc nL n0 z0 nF zE d) (hd : decode cc pc = .ok (.iushr, 1)) : zSo p l e R s m args below meth c D cid kv N0 xs Ls nL Qf ρ0 n0 z0 nF zE Qq Ca pc (op_b (fun x y => (x.toUInt32 >>> (y.toUInt32 &&& Int32.toUInt32 31)).toInt32) (pc + 1)) := so_b (fun _ _ _ _ _ _ _ _ k => lv_iushr F.1.1 F.1.2.1 hd rfl k)
theorem si_idiv (F : zFx p l R s m args meth c D cid kv N0 xs Ls own cc nL n0 z0 nF zE d) (hd : decode cc pc = .ok (.idiv, 1)) : zSo p l e R s m args below meth c D cid kv N0 xs Ls nL Qf ρ0 n0 z0 nF zE Qq Ca pc (op_d (fun x y => x / y) (pc + 1)) := so_d (fun _ _ _ _ _ _ _ _ h k => lv_idiv F.1.1 F.1.2.1 hd h k)
theorem si_irem (F : zFx p l R s m args meth c D cid kv N0 xs Ls own cc nL n0 z0 nF zE d) (hd : decode cc pc = .ok (.irem, 1)) : zSo p l e R s m args below meth c D cid kv N0 xs Ls nL Qf ρ0 n0 z0 nF zE Qq Ca pc (op_d (fun x y => x - x / y * y) (pc + 1)) := so_d (fun _ _ _ _ _ _ _ _ h k => lv_irem F.1.1 F.1.2.1 hd h k)
theorem si_ineg (F : zFx p l R s m args meth c D cid kv N0 xs Ls own cc nL n0 z0 nF zE d) (hd : decode cc pc = .ok (.ineg, 1)) : zSo p l e R s m args below meth c D cid kv N0 xs Ls nL Qf ρ0 n0 z0 nF zE Qq Ca pc (op_u (fun x => -x) (pc + 1)) := so_u (fun _ _ _ _ _ _ _ k => lv_ineg F.1.1 F.1.2.1 hd k)
theorem si_i2b (F : zFx p l R s m args meth c D cid kv N0 xs Ls own cc nL n0 z0 nF zE d) (hd : decode cc pc = .ok (.i2b, 1)) : zSo p l e R s m args below meth c D cid kv N0 xs Ls nL Qf ρ0 n0 z0 nF zE Qq Ca pc (op_u (fun x => x.toInt8.toInt32) (pc + 1)) := so_u (fun _ _ _ _ _ _ _ k => lv_i2b F.1.1 F.1.2.1 hd rfl k)
theorem si_i2s (F : zFx p l R s m args meth c D cid kv N0 xs Ls own cc nL n0 z0 nF zE d) (hd : decode cc pc = .ok (.i2s, 1)) : zSo p l e R s m args below meth c D cid kv N0 xs Ls nL Qf ρ0 n0 z0 nF zE Qq Ca pc (op_u (fun x => x.toInt16.toInt32) (pc + 1)) := so_u (fun _ _ _ _ _ _ _ k => lv_i2s F.1.1 F.1.2.1 hd rfl k)
theorem si_i2c (F : zFx p l R s m args meth c D cid kv N0 xs Ls own cc nL n0 z0 nF zE d) (hd : decode cc pc = .ok (.i2c, 1)) : zSo p l e R s m args below meth c D cid kv N0 xs Ls nL Qf ρ0 n0 z0 nF zE Qq Ca pc (op_u (fun x => (x.toUInt32 % 65536).toInt32) (pc + 1)) := so_u (fun _ _ _ _ _ _ _ k => lv_i2c F.1.1 F.1.2.1 hd rfl k)
theorem si_ladd (F : zFx p l R s m args meth c D cid kv N0 xs Ls own cc nL n0 z0 nF zE d) (hd : decode cc pc = .ok (.ladd, 1)) : zSo p l e R s m args below meth c D cid kv N0 xs Ls nL Qf ρ0 n0 z0 nF zE Qq Ca pc (op_lb (fun x y => x + y) (pc + 1)) := so_lb (fun _ _ _ _ _ _ _ _ k => lv_ladd F.1.1 F.1.2.1 hd k)
theorem si_land (F : zFx p l R s m args meth c D cid kv N0 xs Ls own cc nL n0 z0 nF zE d) (hd : decode cc pc = .ok (.land, 1)) : zSo p l e R s m args below meth c D cid kv N0 xs Ls nL Qf ρ0 n0 z0 nF zE Qq Ca pc (op_lb (fun x y => x &&& y) (pc + 1)) := so_lb (fun _ _ _ _ _ _ _ _ k => lv_land F.1.1 F.1.2.1 hd k)
theorem si_lor (F : zFx p l R s m args meth c D cid kv N0 xs Ls own cc nL n0 z0 nF zE d) (hd : decode cc pc = .ok (.lor, 1)) : zSo p l e R s m args below meth c D cid kv N0 xs Ls nL Qf ρ0 n0 z0 nF zE Qq Ca pc (op_lb (fun x y => x ||| y) (pc + 1)) := so_lb (fun _ _ _ _ _ _ _ _ k => lv_lor F.1.1 F.1.2.1 hd k)
theorem si_ldiv (F : zFx p l R s m args meth c D cid kv N0 xs Ls own cc nL n0 z0 nF zE d) (hd : decode cc pc = .ok (.ldiv, 1)) : zSo p l e R s m args below meth c D cid kv N0 xs Ls nL Qf ρ0 n0 z0 nF zE Qq Ca pc (op_ldv (fun x y => x / y) (pc + 1)) := so_ldv (fun _ _ _ _ _ _ _ _ h k => lv_ldiv F.1.1 F.1.2.1 hd h k)
theorem si_lrem (F : zFx p l R s m args meth c D cid kv N0 xs Ls own cc nL n0 z0 nF zE d) (hd : decode cc pc = .ok (.lrem, 1)) : zSo p l e R s m args below meth c D cid kv N0 xs Ls nL Qf ρ0 n0 z0 nF zE Qq Ca pc (op_ldv (fun x y => x - x / y * y) (pc + 1)) := so_ldv (fun _ _ _ _ _ _ _ _ h k => lv_lrem F.1.1 F.1.2.1 hd h k)
theorem si_lshl (F : zFx p l R s m args meth c D cid kv N0 xs Ls own cc nL n0 z0 nF zE d) (hd : decode cc pc = .ok (.lshl, 1)) : zSo p l e R s m args below meth c D cid kv N0 xs Ls nL Qf ρ0 n0 z0 nF zE Qq Ca pc (op_lsh (fun x y => x <<< (y.toInt64 &&& 63)) (pc + 1)) := so_lsh (fun _ _ _ _ _ _ _ _ k => lv_lshl F.1.1 F.1.2.1 hd rfl k)
theorem si_i2l (F : zFx p l R s m args meth c D cid kv N0 xs Ls own cc nL n0 z0 nF zE d) (hd : decode cc pc = .ok (.i2l, 1)) : zSo p l e R s m args below meth c D cid kv N0 xs Ls nL Qf ρ0 n0 z0 nF zE Qq Ca pc (op_i2l (pc + 1)) := so_i2l (fun _ _ _ _ _ _ _ k => lv_i2l F.1.1 F.1.2.1 hd rfl k)
theorem si_l2i (F : zFx p l R s m args meth c D cid kv N0 xs Ls own cc nL n0 z0 nF zE d) (hd : decode cc pc = .ok (.l2i, 1)) : zSo p l e R s m args below meth c D cid kv N0 xs Ls nL Qf ρ0 n0 z0 nF zE Qq Ca pc (op_l2i (pc + 1)) := so_l2i (fun _ _ _ _ _ _ _ k => lv_l2i F.1.1 F.1.2.1 hd rfl k)
theorem si_lcmp (F : zFx p l R s m args meth c D cid kv N0 xs Ls own cc nL n0 z0 nF zE d) (hd : decode cc pc = .ok (.lcmp, 1)) : zSo p l e R s m args below meth c D cid kv N0 xs Ls nL Qf ρ0 n0 z0 nF zE Qq Ca pc (op_lcmp (pc + 1)) := so_lcmp (fun _ _ _ _ _ _ x y k => by
  first
    | exact W.lcmp F.1.1 F.1.2.1 hd k
    | exact W.lcmp (v := zcmp x y) F.1.1 F.1.2.1 rfl rfl hd rfl k)
theorem si_ifeq {off : Int} (F : zFx p l R s m args meth c D cid kv N0 xs Ls own cc nL n0 z0 nF zE d) (hd : decode cc pc = .ok (.ifCond .eq off, 3)) (ht : (pc : Int) + off = (t : Int)) : zSo p l e R s m args below meth c D cid kv N0 xs Ls nL Qf ρ0 n0 z0 nF zE Qq Ca pc (op_i1 (fun x => x = 0) t (pc + 3)) := so_i1 (fun _ _ _ _ _ _ x a b => by
  refine lv_if_eq F.1.1 F.1.2.1 hd ht (fun h => ?_) (fun h => ?_)
  · first
      | exact a h
      | exact a (Int32.not_lt.mp h)
      | exact a (Int32.not_le.mp h)
  · first
      | exact b h
      | exact b (fun z => h z)
      | exact b (Int32.not_lt.mpr h)
      | exact b (Int32.not_le.mpr h)
      | exact b (fun z => absurd z h)
      | exact b (Decidable.not_not.mpr h))
theorem si_ifne {off : Int} (F : zFx p l R s m args meth c D cid kv N0 xs Ls own cc nL n0 z0 nF zE d) (hd : decode cc pc = .ok (.ifCond .ne off, 3)) (ht : (pc : Int) + off = (t : Int)) : zSo p l e R s m args below meth c D cid kv N0 xs Ls nL Qf ρ0 n0 z0 nF zE Qq Ca pc (op_i1 (fun x => ¬ x = 0) t (pc + 3)) := so_i1 (fun _ _ _ _ _ _ x a b => by
  refine lv_if_ne F.1.1 F.1.2.1 hd ht (fun h => ?_) (fun h => ?_)
  · first
      | exact a h
      | exact a (Int32.not_lt.mp h)
      | exact a (Int32.not_le.mp h)
  · first
      | exact b h
      | exact b (fun z => h z)
      | exact b (Int32.not_lt.mpr h)
      | exact b (Int32.not_le.mpr h)
      | exact b (fun z => absurd z h)
      | exact b (Decidable.not_not.mpr h))
theorem si_iflt {off : Int} (F : zFx p l R s m args meth c D cid kv N0 xs Ls own cc nL n0 z0 nF zE d) (hd : decode cc pc = .ok (.ifCond .lt off, 3)) (ht : (pc : Int) + off = (t : Int)) : zSo p l e R s m args below meth c D cid kv N0 xs Ls nL Qf ρ0 n0 z0 nF zE Qq Ca pc (op_i1 (fun x => x < 0) t (pc + 3)) := so_i1 (fun _ _ _ _ _ _ x a b => by
  refine lv_if_lt F.1.1 F.1.2.1 hd ht (fun h => ?_) (fun h => ?_)
  · first
      | exact a h
      | exact a (Int32.not_lt.mp h)
      | exact a (Int32.not_le.mp h)
  · first
      | exact b h
      | exact b (fun z => h z)
      | exact b (Int32.not_lt.mpr h)
      | exact b (Int32.not_le.mpr h)
      | exact b (fun z => absurd z h)
      | exact b (Decidable.not_not.mpr h))
theorem si_ifge {off : Int} (F : zFx p l R s m args meth c D cid kv N0 xs Ls own cc nL n0 z0 nF zE d) (hd : decode cc pc = .ok (.ifCond .ge off, 3)) (ht : (pc : Int) + off = (t : Int)) : zSo p l e R s m args below meth c D cid kv N0 xs Ls nL Qf ρ0 n0 z0 nF zE Qq Ca pc (op_i1 (fun x => 0 ≤ x) t (pc + 3)) := so_i1 (fun _ _ _ _ _ _ x a b => by
  refine lv_if_ge F.1.1 F.1.2.1 hd ht (fun h => ?_) (fun h => ?_)
  · first
      | exact a h
      | exact a (Int32.not_lt.mp h)
      | exact a (Int32.not_le.mp h)
  · first
      | exact b h
      | exact b (fun z => h z)
      | exact b (Int32.not_lt.mpr h)
      | exact b (Int32.not_le.mpr h)
      | exact b (fun z => absurd z h)
      | exact b (Decidable.not_not.mpr h))
theorem si_ifgt {off : Int} (F : zFx p l R s m args meth c D cid kv N0 xs Ls own cc nL n0 z0 nF zE d) (hd : decode cc pc = .ok (.ifCond .gt off, 3)) (ht : (pc : Int) + off = (t : Int)) : zSo p l e R s m args below meth c D cid kv N0 xs Ls nL Qf ρ0 n0 z0 nF zE Qq Ca pc (op_i1 (fun x => 0 < x) t (pc + 3)) := so_i1 (fun _ _ _ _ _ _ x a b => by
  refine lv_if_gt F.1.1 F.1.2.1 hd ht (fun h => ?_) (fun h => ?_)
  · first
      | exact a h
      | exact a (Int32.not_lt.mp h)
      | exact a (Int32.not_le.mp h)
  · first
      | exact b h
      | exact b (fun z => h z)
      | exact b (Int32.not_lt.mpr h)
      | exact b (Int32.not_le.mpr h)
      | exact b (fun z => absurd z h)
      | exact b (Decidable.not_not.mpr h))
theorem si_ifle {off : Int} (F : zFx p l R s m args meth c D cid kv N0 xs Ls own cc nL n0 z0 nF zE d) (hd : decode cc pc = .ok (.ifCond .le off, 3)) (ht : (pc : Int) + off = (t : Int)) : zSo p l e R s m args below meth c D cid kv N0 xs Ls nL Qf ρ0 n0 z0 nF zE Qq Ca pc (op_i1 (fun x => x ≤ 0) t (pc + 3)) := so_i1 (fun _ _ _ _ _ _ x a b => by
  refine lv_if_le F.1.1 F.1.2.1 hd ht (fun h => ?_) (fun h => ?_)
  · first
      | exact a h
      | exact a (Int32.not_lt.mp h)
      | exact a (Int32.not_le.mp h)
  · first
      | exact b h
      | exact b (fun z => h z)
      | exact b (Int32.not_lt.mpr h)
      | exact b (Int32.not_le.mpr h)
      | exact b (fun z => absurd z h)
      | exact b (Decidable.not_not.mpr h))
theorem si_iceq {off : Int} (F : zFx p l R s m args meth c D cid kv N0 xs Ls own cc nL n0 z0 nF zE d) (hd : decode cc pc = .ok (.if_icmp .eq off, 3)) (ht : (pc : Int) + off = (t : Int)) : zSo p l e R s m args below meth c D cid kv N0 xs Ls nL Qf ρ0 n0 z0 nF zE Qq Ca pc (op_i2 (fun x y => x = y) t (pc + 3)) := so_i2 (fun _ _ _ _ _ _ x y a b => by
  refine lv_icmp_eq F.1.1 F.1.2.1 hd ht (fun h => ?_) (fun h => ?_)
  · first
      | exact a h
      | exact a (Int32.not_lt.mp h)
      | exact a (Int32.not_le.mp h)
  · first
      | exact b h
      | exact b (fun z => h z)
      | exact b (Int32.not_lt.mpr h)
      | exact b (Int32.not_le.mpr h)
      | exact b (fun z => absurd z h)
      | exact b (Decidable.not_not.mpr h))
theorem si_icne {off : Int} (F : zFx p l R s m args meth c D cid kv N0 xs Ls own cc nL n0 z0 nF zE d) (hd : decode cc pc = .ok (.if_icmp .ne off, 3)) (ht : (pc : Int) + off = (t : Int)) : zSo p l e R s m args below meth c D cid kv N0 xs Ls nL Qf ρ0 n0 z0 nF zE Qq Ca pc (op_i2 (fun x y => ¬ x = y) t (pc + 3)) := so_i2 (fun _ _ _ _ _ _ x y a b => by
  refine lv_icmp_ne F.1.1 F.1.2.1 hd ht (fun h => ?_) (fun h => ?_)
  · first
      | exact a h
      | exact a (Int32.not_lt.mp h)
      | exact a (Int32.not_le.mp h)
  · first
      | exact b h
      | exact b (fun z => h z)
      | exact b (Int32.not_lt.mpr h)
      | exact b (Int32.not_le.mpr h)
      | exact b (fun z => absurd z h)
      | exact b (Decidable.not_not.mpr h))
theorem si_iclt {off : Int} (F : zFx p l R s m args meth c D cid kv N0 xs Ls own cc nL n0 z0 nF zE d) (hd : decode cc pc = .ok (.if_icmp .lt off, 3)) (ht : (pc : Int) + off = (t : Int)) : zSo p l e R s m args below meth c D cid kv N0 xs Ls nL Qf ρ0 n0 z0 nF zE Qq Ca pc (op_i2 (fun x y => x < y) t (pc + 3)) := so_i2 (fun _ _ _ _ _ _ x y a b => by
  refine lv_icmp_lt F.1.1 F.1.2.1 hd ht (fun h => ?_) (fun h => ?_)
  · first
      | exact a h
      | exact a (Int32.not_lt.mp h)
      | exact a (Int32.not_le.mp h)
  · first
      | exact b h
      | exact b (fun z => h z)
      | exact b (Int32.not_lt.mpr h)
      | exact b (Int32.not_le.mpr h)
      | exact b (fun z => absurd z h)
      | exact b (Decidable.not_not.mpr h))
theorem si_icge {off : Int} (F : zFx p l R s m args meth c D cid kv N0 xs Ls own cc nL n0 z0 nF zE d) (hd : decode cc pc = .ok (.if_icmp .ge off, 3)) (ht : (pc : Int) + off = (t : Int)) : zSo p l e R s m args below meth c D cid kv N0 xs Ls nL Qf ρ0 n0 z0 nF zE Qq Ca pc (op_i2 (fun x y => y ≤ x) t (pc + 3)) := so_i2 (fun _ _ _ _ _ _ x y a b => by
  refine lv_icmp_ge F.1.1 F.1.2.1 hd ht (fun h => ?_) (fun h => ?_)
  · first
      | exact a h
      | exact a (Int32.not_lt.mp h)
      | exact a (Int32.not_le.mp h)
  · first
      | exact b h
      | exact b (fun z => h z)
      | exact b (Int32.not_lt.mpr h)
      | exact b (Int32.not_le.mpr h)
      | exact b (fun z => absurd z h)
      | exact b (Decidable.not_not.mpr h))
theorem si_icgt {off : Int} (F : zFx p l R s m args meth c D cid kv N0 xs Ls own cc nL n0 z0 nF zE d) (hd : decode cc pc = .ok (.if_icmp .gt off, 3)) (ht : (pc : Int) + off = (t : Int)) : zSo p l e R s m args below meth c D cid kv N0 xs Ls nL Qf ρ0 n0 z0 nF zE Qq Ca pc (op_i2 (fun x y => y < x) t (pc + 3)) := so_i2 (fun _ _ _ _ _ _ x y a b => by
  refine lv_icmp_gt F.1.1 F.1.2.1 hd ht (fun h => ?_) (fun h => ?_)
  · first
      | exact a h
      | exact a (Int32.not_lt.mp h)
      | exact a (Int32.not_le.mp h)
  · first
      | exact b h
      | exact b (fun z => h z)
      | exact b (Int32.not_lt.mpr h)
      | exact b (Int32.not_le.mpr h)
      | exact b (fun z => absurd z h)
      | exact b (Decidable.not_not.mpr h))
theorem si_icle {off : Int} (F : zFx p l R s m args meth c D cid kv N0 xs Ls own cc nL n0 z0 nF zE d) (hd : decode cc pc = .ok (.if_icmp .le off, 3)) (ht : (pc : Int) + off = (t : Int)) : zSo p l e R s m args below meth c D cid kv N0 xs Ls nL Qf ρ0 n0 z0 nF zE Qq Ca pc (op_i2 (fun x y => x ≤ y) t (pc + 3)) := so_i2 (fun _ _ _ _ _ _ x y a b => by
  refine lv_icmp_le F.1.1 F.1.2.1 hd ht (fun h => ?_) (fun h => ?_)
  · first
      | exact a h
      | exact a (Int32.not_lt.mp h)
      | exact a (Int32.not_le.mp h)
  · first
      | exact b h
      | exact b (fun z => h z)
      | exact b (Int32.not_lt.mpr h)
      | exact b (Int32.not_le.mpr h)
      | exact b (fun z => absurd z h)
      | exact b (Decidable.not_not.mpr h))
theorem si_goto {off : Int} (F : zFx p l R s m args meth c D cid kv N0 xs Ls own cc nL n0 z0 nF zE d) (hd : decode cc pc = .ok (.goto off, 3)) (ht : (pc : Int) + off = (t : Int)) : zSo p l e R s m args below meth c D cid kv N0 xs Ls nL Qf ρ0 n0 z0 nF zE Qq Ca pc (op_go t) := so_go (fun _ _ _ _ _ _ k => lv_goto F.1.1 F.1.2.1 hd ht k)
theorem si_ifnull {off : Int} (F : zFx p l R s m args meth c D cid kv N0 xs Ls own cc nL n0 z0 nF zE d) (hd : decode cc pc = .ok (.ifnull off, 3)) (ht : (pc : Int) + off = (t : Int)) : zSo p l e R s m args below meth c D cid kv N0 xs Ls nL Qf ρ0 n0 z0 nF zE Qq Ca pc (op_nul t (pc + 3)) := so_nul (fun _ _ _ _ _ _ k => lv_ifnullN F.1.1 F.1.2.1 hd ht k) (fun _ _ _ _ _ _ _ k => lv_ifnull F.1.1 F.1.2.1 hd k)
theorem si_ifnonnull {off : Int} (F : zFx p l R s m args meth c D cid kv N0 xs Ls own cc nL n0 z0 nF zE d) (hd : decode cc pc = .ok (.ifnonnull off, 3)) (ht : (pc : Int) + off = (t : Int)) : zSo p l e R s m args below meth c D cid kv N0 xs Ls nL Qf ρ0 n0 z0 nF zE Qq Ca pc (op_nul (pc + 3) t) := so_nul (fun _ _ _ _ _ _ k => lv_ifnonnullN F.1.1 F.1.2.1 hd k) (fun _ _ _ _ _ _ _ k => lv_ifnonnull F.1.1 F.1.2.1 hd ht k)
theorem si_getI {C : String} {T : u_T} {N ci k index : Nat} (F : zFx p l R s m args meth c D cid kv N0 xs Ls own cc nL n0 z0 nF zE d) (hc : vwCl[ci]? = some (C, T, N)) (hin : ∀ w ∈ u_ws C T N, w ∈ zTB) (hk : k < N) (hci : ci < 20) (hr : zrf ci k = false) (hs : (T k).1 = C) (hl : Cond.fieldLink own index C (T k).2.1 (T k).2.2.1 ∈ zTB) (hd : decode cc pc = .ok (.getfield index, 3)) : zSo p l e R s m args below meth c D cid kv N0 xs Ls nL Qf ρ0 n0 z0 nF zE Qq Ca pc (op_gI ci N k (pc + 3)) := so_gI hk hci hr (fun _ _ _ _ _ _ ws a q0 fs v hP he hv kk => va_get (C := C) (T := T) (N := N) (ci := ci) F.1.1 F.1.2.1 F.1.2.2.2.2 hin F.1.2.2.2.1 F.2.1.1 hP q0 he hc k hk (F.1.2.2.2.2 _ hl) (fun x h => by rw [hs] at h; exact h) hv hd kk)
theorem si_getR {C : String} {T : u_T} {N ci k index : Nat} (F : zFx p l R s m args meth c D cid kv N0 xs Ls own cc nL n0 z0 nF zE d) (hc : vwCl[ci]? = some (C, T, N)) (hin : ∀ w ∈ u_ws C T N, w ∈ zTB) (hk : k < N) (hci : ci < 20) (hr : zrf ci k = true) (hs : (T k).1 = C) (hl : Cond.fieldLink own index C (T k).2.1 (T k).2.2.1 ∈ zTB) (hd : decode cc pc = .ok (.getfield index, 3)) : zSo p l e R s m args below meth c D cid kv N0 xs Ls nL Qf ρ0 n0 z0 nF zE Qq Ca pc (op_gR ci N k (pc + 3)) := so_gR hk hci hr (fun _ _ _ _ _ _ ws a q0 fs v hP he hv kk => va_get (C := C) (T := T) (N := N) (ci := ci) F.1.1 F.1.2.1 F.1.2.2.2.2 hin F.1.2.2.2.1 F.2.1.1 hP q0 he hc k hk (F.1.2.2.2.2 _ hl) (fun x h => by rw [hs] at h; exact h) hv hd kk)
theorem si_putI {C : String} {T : u_T} {N ci k index : Nat} (F : zFx p l R s m args meth c D cid kv N0 xs Ls own cc nL n0 z0 nF zE d) (hc : vwCl[ci]? = some (C, T, N)) (hin : ∀ w ∈ u_ws C T N, w ∈ zTB) (hk : k < N) (hci : ci < 20) (hr : zrf ci k = false) (hs : (T k).1 = C) (hty : parseFieldDescriptor (T k).2.2.1 = some .int) (hf : (T k).2.2.2 = false) {ty0 : Nat → FieldType} (ht0 : ∀ k, k < N → parseFieldDescriptor (T k).2.2.1 = some (ty0 k)) (hnm : ∀ a, a < N → ∀ b, b < N → a ≠ b → (T a).2.1 ≠ (T b).2.1) (hl : Cond.fieldLink own index C (T k).2.1 (T k).2.2.1 ∈ zTB) (hd : decode cc pc = .ok (.putfield index, 3)) : zSo p l e R s m args below meth c D cid kv N0 xs Ls nL Qf ρ0 n0 z0 nF zE Qq Ca pc (op_pI ci N k (pc + 3)) := so_pI hk hci hr (fun _ _ _ _ _ _ ws a q0 fs v hP hD hS he hlen hok kk => by
  obtain ⟨x, rfl⟩ := hok
  exact va_put (C := C) (T := T) (N := N) (ci := ci) F.1.1 F.1.2.1 F.1.2.2.2.2 hin ty0 ht0 hnm F.1.2.2.2.1 F.2.1.1 hP hD hS q0 he hc k hk (F.1.2.2.2.2 _ hl) (fun x h => by rw [hs] at h; exact h) hf hty rfl rfl hlen hd kk)
theorem si_putZ {C : String} {T : u_T} {N ci k index : Nat} (F : zFx p l R s m args meth c D cid kv N0 xs Ls own cc nL n0 z0 nF zE d) (hc : vwCl[ci]? = some (C, T, N)) (hin : ∀ w ∈ u_ws C T N, w ∈ zTB) (hk : k < N) (hci : ci < 20) (hr : zrf ci k = false) (hs : (T k).1 = C) (hty : parseFieldDescriptor (T k).2.2.1 = some .boolean) (hf : (T k).2.2.2 = false) {ty0 : Nat → FieldType} (ht0 : ∀ k, k < N → parseFieldDescriptor (T k).2.2.1 = some (ty0 k)) (hnm : ∀ a, a < N → ∀ b, b < N → a ≠ b → (T a).2.1 ≠ (T b).2.1) (hl : Cond.fieldLink own index C (T k).2.1 (T k).2.2.1 ∈ zTB) (hd : decode cc pc = .ok (.putfield index, 3)) : zSo p l e R s m args below meth c D cid kv N0 xs Ls nL Qf ρ0 n0 z0 nF zE Qq Ca pc (op_pZ ci N k (pc + 3)) := so_pZ hk hci hr (fun _ _ _ _ _ _ ws a q0 fs v hP hD hS he hlen hok kk => by
  obtain ⟨x, rfl, hx⟩ := hok
  exact va_put (C := C) (T := T) (N := N) (ci := ci) F.1.1 F.1.2.1 F.1.2.2.2.2 hin ty0 ht0 hnm F.1.2.2.2.1 F.2.1.1 hP hD hS q0 he hc k hk (F.1.2.2.2.2 _ hl) (fun x h => by rw [hs] at h; exact h) hf hty (by rcases hx with rfl | rfl <;> decide) (by rcases hx with rfl | rfl <;> decide) hlen hd kk)
theorem si_putR {C : String} {T : u_T} {N ci k index : Nat} (F : zFx p l R s m args meth c D cid kv N0 xs Ls own cc nL n0 z0 nF zE d) (hc : vwCl[ci]? = some (C, T, N)) (hin : ∀ w ∈ u_ws C T N, w ∈ zTB) (hk : k < N) (hci : ci < 20) (hr : zrf ci k = true) (hs : (T k).1 = C) {ty : FieldType} (hty : parseFieldDescriptor (T k).2.2.1 = some ty) (hrt : ∀ o, narrow ty (va_rf o) = va_rf o ∧ fits ty (va_rf o) = true) (hf : (T k).2.2.2 = false) {ty0 : Nat → FieldType} (ht0 : ∀ k, k < N → parseFieldDescriptor (T k).2.2.1 = some (ty0 k)) (hnm : ∀ a, a < N → ∀ b, b < N → a ≠ b → (T a).2.1 ≠ (T b).2.1) (hl : Cond.fieldLink own index C (T k).2.1 (T k).2.2.1 ∈ zTB) (hd : decode cc pc = .ok (.putfield index, 3)) : zSo p l e R s m args below meth c D cid kv N0 xs Ls nL Qf ρ0 n0 z0 nF zE Qq Ca pc (op_pR ci N k (pc + 3)) := so_pR hk hci hr (fun _ _ _ _ _ _ ws a q0 fs v hP hD hS he hlen hok kk => by
  obtain ⟨o, rfl⟩ := hok
  exact va_put (C := C) (T := T) (N := N) (ci := ci) F.1.1 F.1.2.1 F.1.2.2.2.2 hin ty0 ht0 hnm F.1.2.2.2.1 F.2.1.1 hP hD hS q0 he hc k hk (F.1.2.2.2.2 _ hl) (fun x h => by rw [hs] at h; exact h) hf hty (hrt o).1 (hrt o).2 hlen hd kk)
theorem si_putRF {C : String} {T : u_T} {N ci k index : Nat} (F : zFx p l R s m args meth c D cid kv N0 xs Ls own cc nL n0 z0 nF zE d) (hc : vwCl[ci]? = some (C, T, N)) (hin : ∀ w ∈ u_ws C T N, w ∈ zTB) (hk : k < N) (hci : ci < 20) (hr : zrf ci k = true) (hs : (T k).1 = C) {ty : FieldType} (hty : parseFieldDescriptor (T k).2.2.1 = some ty) (hrt : ∀ o, narrow ty (va_rf o) = va_rf o ∧ fits ty (va_rf o) = true) (hf : (T k).2.2.2 = true) (hin2 : meth.name = "<init>") (hown : C = own) {ty0 : Nat → FieldType} (ht0 : ∀ k, k < N → parseFieldDescriptor (T k).2.2.1 = some (ty0 k)) (hnm : ∀ a, a < N → ∀ b, b < N → a ≠ b → (T a).2.1 ≠ (T b).2.1) (hl : Cond.fieldLink own index C (T k).2.1 (T k).2.2.1 ∈ zTB) (hd : decode cc pc = .ok (.putfield index, 3)) : zSo p l e R s m args below meth c D cid kv N0 xs Ls nL Qf ρ0 n0 z0 nF zE Qq Ca pc (op_pR ci N k (pc + 3)) := so_pR hk hci hr (fun _ _ _ _ _ _ ws a q0 fs v hP hD hS he hlen hok kk => by
  obtain ⟨o, rfl⟩ := hok
  exact va_putF (C := C) (T := T) (N := N) (ci := ci) F.1.1 F.1.2.1 F.1.2.2.2.2 hin ty0 ht0 hnm F.1.2.2.2.1 F.2.1.1 hP hD hS q0 he hc k hk (F.1.2.2.2.2 _ hl) (fun x h => by rw [hs] at h; exact h) hf hin2 (hs.trans hown) hty (hrt o).1 (hrt o).2 hlen hd kk)
theorem si_iaload (F : zFx p l R s m args meth c D cid kv N0 xs Ls own cc nL n0 z0 nF zE d) (hd : decode cc pc = .ok (.iaload, 1)) : zSo p l e R s m args below meth c D cid kv N0 xs Ls nL Qf ρ0 n0 z0 nF zE Qq Ca pc (op_ia 20 (pc + 1)) := so_ia (by omega) (by omega) (fun _ _ _ _ _ _ ws a q0 n f i hP he hi k => va_iald F.1.1 F.1.2.1 F.2.1.1 hP q0 0 he rfl hi hd k)
theorem si_baloadB (F : zFx p l R s m args meth c D cid kv N0 xs Ls own cc nL n0 z0 nF zE d) (hd : decode cc pc = .ok (.baload, 1)) : zSo p l e R s m args below meth c D cid kv N0 xs Ls nL Qf ρ0 n0 z0 nF zE Qq Ca pc (op_ia 21 (pc + 1)) := so_ia (by omega) (by omega) (fun _ _ _ _ _ _ ws a q0 n f i hP he hi k => va_bald F.1.1 F.1.2.1 F.2.1.1 hP q0 1 he rfl hi hd k)
theorem si_caload (F : zFx p l R s m args meth c D cid kv N0 xs Ls own cc nL n0 z0 nF zE d) (hd : decode cc pc = .ok (.caload, 1)) : zSo p l e R s m args below meth c D cid kv N0 xs Ls nL Qf ρ0 n0 z0 nF zE Qq Ca pc (op_ia 22 (pc + 1)) := so_ia (by omega) (by omega) (fun _ _ _ _ _ _ ws a q0 n f i hP he hi k => va_cald F.1.1 F.1.2.1 F.2.1.1 hP q0 2 he rfl hi hd k)
theorem si_baloadZ (F : zFx p l R s m args meth c D cid kv N0 xs Ls own cc nL n0 z0 nF zE d) (hd : decode cc pc = .ok (.baload, 1)) : zSo p l e R s m args below meth c D cid kv N0 xs Ls nL Qf ρ0 n0 z0 nF zE Qq Ca pc (op_ia 23 (pc + 1)) := so_ia (by omega) (by omega) (fun _ _ _ _ _ _ ws a q0 n f i hP he hi k => va_zald F.1.1 F.1.2.1 F.2.1.1 hP q0 3 he rfl hi hd k)
theorem si_laload (F : zFx p l R s m args meth c D cid kv N0 xs Ls own cc nL n0 z0 nF zE d) (hd : decode cc pc = .ok (.laload, 1)) : zSo p l e R s m args below meth c D cid kv N0 xs Ls nL Qf ρ0 n0 z0 nF zE Qq Ca pc (op_ja (pc + 1)) := so_ja (fun _ _ _ _ _ _ ws a q0 n f i hP he hi k => va_lald F.1.1 F.1.2.1 F.2.1.1 hP q0 4 he rfl hi hd k)
theorem si_aaloadT (F : zFx p l R s m args meth c D cid kv N0 xs Ls own cc nL n0 z0 nF zE d) (hd : decode cc pc = .ok (.aaload, 1)) : zSo p l e R s m args below meth c D cid kv N0 xs Ls nL Qf ρ0 n0 z0 nF zE Qq Ca pc (op_ra 25 (pc + 1)) := so_ra (by omega) (by omega) (fun _ _ _ _ _ _ ws a q0 n f i hP he hi k => va_aldq F.1.1 F.1.2.1 F.2.1.1 hP q0 5 he rfl hi hd k)
theorem si_aaloadI (F : zFx p l R s m args meth c D cid kv N0 xs Ls own cc nL n0 z0 nF zE d) (hd : decode cc pc = .ok (.aaload, 1)) : zSo p l e R s m args below meth c D cid kv N0 xs Ls nL Qf ρ0 n0 z0 nF zE Qq Ca pc (op_ra 26 (pc + 1)) := so_ra (by omega) (by omega) (fun _ _ H _ _ _ ws a q0 n f i hP he hi k => by
  have hlt : i.toNatClampNeg < n := Nat.not_le.mp fun q => hi (Or.inr q)
  have hc : H[a]? = some (vp_cell (cid 26) (n, .inr (.inr (.inr (.inr f))))) := hP q0 _ he
  refine W.aald (ty := .array .int) (v := va_rf (f i.toNatClampNeg)) F.1.1 F.1.2.1 hc ((F.2.1.1.2 6 (cid 26, .array .int) rfl).1 n (fun j => va_rf (f j))) rfl (fun q => by cases q) ?_ ?_ rfl rfl hd k
  · show ¬ (i < 0 ∨ (arrV _ _ _).slots.size ≤ _)
    rw [arrV_size]
    exact hi
  · first
      | exact arrV_get hlt
      | (show (arrV _ _ _).slots[i.toNatClampNeg]? = _; simp [arrV, hlt])
      | simp [vp_cell, arrV, hlt])
theorem si_iastore (F : zFx p l R s m args meth c D cid kv N0 xs Ls own cc nL n0 z0 nF zE d) (hd : decode cc pc = .ok (.iastore, 1)) : zSo p l e R s m args below meth c D cid kv N0 xs Ls nL Qf ρ0 n0 z0 nF zE Qq Ca pc (op_is 20 (fun x => x) (pc + 1)) := so_is (by omega) (by omega) (fun _ _ _ _ _ _ ws a q0 n g i x hP hD hS he hi k => va_iast F.1.1 F.1.2.1 F.2.1.1 hP hD hS q0 0 he rfl hi hd k)
theorem si_bastoreB (F : zFx p l R s m args meth c D cid kv N0 xs Ls own cc nL n0 z0 nF zE d) (hd : decode cc pc = .ok (.bastore, 1)) : zSo p l e R s m args below meth c D cid kv N0 xs Ls nL Qf ρ0 n0 z0 nF zE Qq Ca pc (op_is 21 (fun x => vp_nar .byte x) (pc + 1)) := so_is (by omega) (by omega) (fun _ _ _ _ _ _ ws a q0 n g i x hP hD hS he hi k => va_bast F.1.1 F.1.2.1 F.2.1.1 hP hD hS q0 1 he rfl hi hd k)
theorem si_castore (F : zFx p l R s m args meth c D cid kv N0 xs Ls own cc nL n0 z0 nF zE d) (hd : decode cc pc = .ok (.castore, 1)) : zSo p l e R s m args below meth c D cid kv N0 xs Ls nL Qf ρ0 n0 z0 nF zE Qq Ca pc (op_is 22 (fun x => vp_nar .char x) (pc + 1)) := so_is (by omega) (by omega) (fun _ _ _ _ _ _ ws a q0 n g i x hP hD hS he hi k => va_cast F.1.1 F.1.2.1 F.2.1.1 hP hD hS q0 2 he rfl hi hd k)
theorem si_bastoreZ (F : zFx p l R s m args meth c D cid kv N0 xs Ls own cc nL n0 z0 nF zE d) (hd : decode cc pc = .ok (.bastore, 1)) : zSo p l e R s m args below meth c D cid kv N0 xs Ls nL Qf ρ0 n0 z0 nF zE Qq Ca pc (op_is 23 (fun x => vp_nar .boolean x) (pc + 1)) := so_is (by omega) (by omega) (fun _ _ _ _ _ _ ws a q0 n g i x hP hD hS he hi k => va_zast F.1.1 F.1.2.1 F.2.1.1 hP hD hS q0 3 he rfl hi hd k)
theorem si_lastore (F : zFx p l R s m args meth c D cid kv N0 xs Ls own cc nL n0 z0 nF zE d) (hd : decode cc pc = .ok (.lastore, 1)) : zSo p l e R s m args below meth c D cid kv N0 xs Ls nL Qf ρ0 n0 z0 nF zE Qq Ca pc (op_js (pc + 1)) := so_js (fun _ _ _ _ _ _ ws a q0 n g i x hP hD hS he hi k => va_last F.1.1 F.1.2.1 F.2.1.1 hP hD hS q0 4 he rfl hi hd k)
theorem si_aastore (F : zFx p l R s m args meth c D cid kv N0 xs Ls own cc nL n0 z0 nF zE d) (hd : decode cc pc = .ok (.aastore, 1)) : zSo p l e R s m args below meth c D cid kv N0 xs Ls nL Qf ρ0 n0 z0 nF zE Qq Ca pc (op_rs (pc + 1)) := so_rs (fun _ _ _ _ _ _ ws a v q0 qk n vs g i hP hD hS he hv hi k => va_astq (r := (RX6, TX6, 3)) F.1.1 F.1.2.1 F.2.1.1 hP hD hS q0 5 qk 6 he rfl hv rfl hi hd k)
theorem si_arraylength {kd : Nat} (F : zFx p l R s m args meth c D cid kv N0 xs Ls own cc nL n0 z0 nF zE d) (h0 : 20 ≤ kd) (h1 : kd < 24) {ty : FieldType} (ht : (zTys cid)[kd - 20]? = some (cid kd, ty)) (hd : decode cc pc = .ok (.arraylength, 1)) : zSo p l e R s m args below meth c D cid kv N0 xs Ls nL Qf ρ0 n0 z0 nF zE Qq Ca pc (op_len kd (pc + 1)) := so_len h0 h1 (fun _ _ _ _ _ _ ws a q0 n f hP he k => va_alen F.1.1 F.1.2.1 F.2.1.1 hP q0 (kd - 20) he ht rfl hd k)
theorem si_new {C : String} {T : u_T} {N ci index : Nat} (F : zFx p l R s m args meth c D cid kv N0 xs Ls own cc nL n0 z0 nF zE d) (hc : vwCl[ci]? = some (C, T, N)) (hin : ∀ w ∈ u_ws C T N, w ∈ zTB) (hci : ci < 20) {ty0 : Nat → FieldType} (ht0 : ∀ k, k < N → parseFieldDescriptor (T k).2.2.1 = some (ty0 k)) (hdv : ∀ j, j < N → defaultValue (ty0 j) = vp_V (znew ci N) j) (h1 : Cond.classLink own index C ∈ zTB) (h2 : Cond.instantiable C N ∈ zTB) (h3 : Cond.initialized C ∈ zTB) (hd : decode cc pc = .ok (.new index, 3)) : zSo p l e R s m args below meth c D cid kv N0 xs Ls nL Qf ρ0 n0 z0 nF zE Qq Ca pc (op_new ci N (pc + 3)) := so_new hci F.2.2.2.2.1 F.2.2.1 F.2.2.2.1 (fun _ _ _ _ _ _ ws hP hD hS b1 b2 k => va_new (C := C) (T := T) (N := N) (ci := ci) F.1.1 F.1.2.1 F.1.2.2.2.2 hin ty0 ht0 F.1.2.2.2.1 (F.1.2.2.2.2 _ h1) (F.1.2.2.2.2 _ h2) (F.1.2.2.2.2 _ h3) F.2.1.1 hP hD hS (fun q hq => Nat.le_trans F.2.1.2.1 hq) hc hdv b1 b2 hd k)
theorem si_oinit {index : Nat} (F : zFx p l R s m args meth c D cid kv N0 xs Ls own cc nL n0 z0 nF zE d) (h1 : Cond.methodLink own index objectInit ∈ zTB) (h2 : Cond.instanceMethod objectInit ∈ zTB) (h3 : Cond.code objectInit ⟨#[0xb1]⟩ 1 none ∈ zTB) (hd : decode cc pc = .ok (.invokespecial index, 3)) : zSo p l e R s m args below meth c D cid kv N0 xs Ls nL Qf ρ0 n0 z0 nF zE Qq Ca pc (op_oi (pc + 3)) := so_oi (fun ls H _ _ _ a hs k => by
  refine W.objInit (rest := []) F.1.1 F.1.2.1 F.1.2.2.2.1 (F.1.2.2.2.2 _ h1) (F.1.2.2.2.2 _ h2) (F.1.2.2.2.2 _ h3) rfl (hs.trans F.1.2.2.1.symm) rfl hd (by have := F.2.2.2.2.2.1; omega) (by have := F.2.2.2.2.2.2; show 2 * 0 + 0 + 12 ≤ R.locals; omega) k)
theorem si_min {index : Nat} (F : zFx p l R s m args meth c D cid kv N0 xs Ls own cc nL n0 z0 nF zE d) (h1 : Cond.methodLink own index Lib.Math.min.name ∈ zTB) (h2 : Cond.static Lib.Math.min.name ∈ zTB) (h3 : Cond.initialized "java/lang/Math" ∈ zTB) (h4 : Cond.code Lib.Math.min.name Lib.Math.min.code 2 (some .int) ∈ zTB) (hd : decode cc pc = .ok (.invokestatic index, 3)) : zSo p l e R s m args below meth c D cid kv N0 xs Ls nL Qf ρ0 n0 z0 nF zE Qq Ca pc (op_mm (fun x y => zmin x y) (pc + 3)) := so_mm F.2.2.1 F.2.2.2.1 (fun _ stR _ _ _ _ x y hs hr b1 b2 k => va_mmin F.1.1 F.1.2.1 (F.1.2.2.1.trans hs.symm) F.1.2.2.2.1 (F.1.2.2.2.2 _ h1) (F.1.2.2.2.2 _ h2) (F.1.2.2.2.2 _ h3) (F.1.2.2.2.2 _ h4) (by have := F.2.2.2.2.2.1; omega) (by have := F.2.2.2.2.2.2; omega) b1 b2 hd k)
theorem si_max {index : Nat} (F : zFx p l R s m args meth c D cid kv N0 xs Ls own cc nL n0 z0 nF zE d) (h1 : Cond.methodLink own index Lib.Math.max.name ∈ zTB) (h2 : Cond.static Lib.Math.max.name ∈ zTB) (h3 : Cond.initialized "java/lang/Math" ∈ zTB) (h4 : Cond.code Lib.Math.max.name Lib.Math.max.code 2 (some .int) ∈ zTB) (hd : decode cc pc = .ok (.invokestatic index, 3)) : zSo p l e R s m args below meth c D cid kv N0 xs Ls nL Qf ρ0 n0 z0 nF zE Qq Ca pc (op_mm (fun x y => zmax x y) (pc + 3)) := so_mm F.2.2.1 F.2.2.2.1 (fun _ stR _ _ _ _ x y hs hr b1 b2 k => va_mmax F.1.1 F.1.2.1 (F.1.2.2.1.trans hs.symm) F.1.2.2.2.1 (F.1.2.2.2.2 _ h1) (F.1.2.2.2.2 _ h2) (F.1.2.2.2.2 _ h3) (F.1.2.2.2.2 _ h4) (by have := F.2.2.2.2.2.1; omega) (by have := F.2.2.2.2.2.2; omega) b1 b2 hd k)
theorem si_copy {index : Nat} (F : zFx p l R s m args meth c D cid kv N0 xs Ls own cc nL n0 z0 nF zE d) (h1 : Cond.methodLink own index arraycopyName ∈ zTB) (h2 : Cond.native arraycopyName ∈ zTB) (h3 : Cond.static arraycopyName ∈ zTB) (h4 : Cond.initialized "java/lang/System" ∈ zTB) (hd : decode cc pc = .ok (.invokestatic index, 3)) : zSo p l e R s m args below meth c D cid kv N0 xs Ls nL Qf ρ0 n0 z0 nF zE Qq Ca pc (op_cp (pc + 3)) := so_cp (fun ls H _ _ _ ws q0 q1 a0 a1 l0 l1 f g sp dp n hs hP hD hS e0 e1 k1 k2 k3 k4 k5 k => va_copyl (rest := []) F.1.1 F.1.2.1 (F.1.2.2.1.trans hs.symm) F.1.2.2.2.1 (F.1.2.2.2.2 _ h1) (F.1.2.2.2.2 _ h2) (F.1.2.2.2.2 _ h3) (F.1.2.2.2.2 _ h4) F.2.1.1 hP hD hS q0 q1 4 4 e0 e1 rfl rfl rfl k1 k2 k3 k4 k5 (fun _ _ => rfl) (by have := F.2.2.2.2.2.1; omega) (by have := F.2.2.2.2.2.2; show 0 + (nativeFrameWords "java/lang/System" "arraycopy" 5 + 11) ≤ R.locals; have e9 : nativeFrameWords "java/lang/System" "arraycopy" 5 + 11 ≤ 60 := (by decide); omega) hd k)
theorem si_cV {y n index maxL : Nat} {nm : MethodName} {bytes : ByteArray} {ret : Option FieldType} {C : String} {T : u_T} {N ci : Nat} (F : zFx p l R s m args meth c D cid kv N0 xs Ls own cc nL n0 z0 nF zE d) (hM : zMet l D cid kv N0 xs Ls d y nm bytes maxL ret) (hp : nm.cls ≠ "java/lang/invoke/MethodHandle" ∧ nm.cls ≠ "java/lang/invoke/VarHandle" ∧ (parseMethodDescriptor nm.desc).map (fun d => d.parameters.length) = some n) (hml : maxL ≤ 40) (hcl : nm.cls = C) (hc : vwCl[ci]? = some (C, T, N)) (hci : ci < 20) (h1 : Cond.methodLink own index nm ∈ zTB) (h2 : Cond.instanceMethod nm ∈ zTB) (h3 : Cond.selects C nm nm ∈ zTB) (h4 : Cond.initialized C ∈ zTB) (h5 : Cond.code nm bytes maxL ret ∈ zTB) (hd : decode cc pc = .ok (.invokevirtual index, 3)) : zSo p l e R s m args below meth c D cid kv N0 xs Ls nL Qf ρ0 n0 z0 nF zE Qq (zCall d) pc (op_cV y (n + 1) ci (pc + 3)) := so_cV F.1 F.2.1 hM F.2.2.1 F.2.2.2.1 F.2.2.2.2.1 (fun mc ms => cwV n F.1.2.2.2.2 (zGood (zTB_c h1 (zTB_c h2 (zTB_c h3 (zTB_c h4 (zTB_c h5 (fun _ h => h))))))) rfl rfl rfl ⟨hcl, hp.1, hp.2.1, hp.2.2⟩ (by exact ⟨by have := F.2.2.2.2.2.1; exact this, by have := F.2.2.2.2.2.2; show 8 + (maxL + 11) + 60 * d ≤ R.locals; omega⟩)) hc hci hd
theorem si_cT {y n index maxL : Nat} {nm : MethodName} {bytes : ByteArray} {ret : Option FieldType} (F : zFx p l R s m args meth c D cid kv N0 xs Ls own cc nL n0 z0 nF zE d) (hM : zMet l D cid kv N0 xs Ls d y nm bytes maxL ret) (hp : nm.cls ≠ "java/lang/invoke/MethodHandle" ∧ nm.cls ≠ "java/lang/invoke/VarHandle" ∧ (parseMethodDescriptor nm.desc).map (fun d => d.parameters.length) = some n) (hml : maxL ≤ 40) (hcl : nm.cls = "java/lang/String") (h1 : Cond.methodLink own index nm ∈ zTB) (h2 : Cond.instanceMethod nm ∈ zTB) (h3 : Cond.selects "java/lang/String" nm nm ∈ zTB) (h4 : Cond.initialized "java/lang/String" ∈ zTB) (h5 : Cond.code nm bytes maxL ret ∈ zTB) (hd : decode cc pc = .ok (.invokevirtual index, 3)) : zSo p l e R s m args below meth c D cid kv N0 xs Ls nL Qf ρ0 n0 z0 nF zE Qq (zCall d) pc (op_cV y (n + 1) 31 (pc + 3)) := so_cT F.1 F.2.1 hM F.2.2.1 F.2.2.2.1 F.2.2.2.2.1 (fun mc ms => cwV n F.1.2.2.2.2 (zGood (zTB_c h1 (zTB_c h2 (zTB_c h3 (zTB_c h4 (zTB_c h5 (fun _ h => h))))))) rfl rfl rfl ⟨hcl, hp.1, hp.2.1, hp.2.2⟩ (by exact ⟨by have := F.2.2.2.2.2.1; exact this, by have := F.2.2.2.2.2.2; show 8 + (maxL + 11) + 60 * d ≤ R.locals; omega⟩)) hd
theorem si_cS {y n index maxL : Nat} {nm : MethodName} {bytes : ByteArray} {ret : Option FieldType} (F : zFx p l R s m args meth c D cid kv N0 xs Ls own cc nL n0 z0 nF zE d) (hM : zMet l D cid kv N0 xs Ls d y nm bytes maxL ret) (hp : nm.cls ≠ "java/lang/invoke/MethodHandle" ∧ nm.cls ≠ "java/lang/invoke/VarHandle" ∧ (parseMethodDescriptor nm.desc).map (fun d => d.parameters.length) = some n) (hml : maxL ≤ 40) (h1 : Cond.methodLink own index nm ∈ zTB) (h2 : Cond.static nm ∈ zTB) (h4 : Cond.initialized nm.cls ∈ zTB) (h5 : Cond.code nm bytes maxL ret ∈ zTB) (hd : decode cc pc = .ok (.invokestatic index, 3)) : zSo p l e R s m args below meth c D cid kv N0 xs Ls nL Qf ρ0 n0 z0 nF zE Qq (zCall d) pc (op_cS y n (pc + 3)) := so_cS F.1 F.2.1 hM F.2.2.1 F.2.2.2.1 F.2.2.2.2.1 (fun mc ms => va_cwS n F.1.2.2.2.2 (zGood (zTB_c h1 (zTB_c h2 (zTB_c h4 (zTB_c h5 (fun _ h => h)))))) rfl rfl rfl ⟨hp.1, hp.2.1, hp.2.2⟩ (by exact ⟨by have := F.2.2.2.2.2.1; exact this, by have := F.2.2.2.2.2.2; show 8 + (maxL + 11) + 60 * d ≤ R.locals; omega⟩)) hd
theorem si_cSN {y n index maxL : Nat} {nm : MethodName} {bytes : ByteArray} {host : String} {ret : Option FieldType} (F : zFx p l R s m args meth c D cid kv N0 xs Ls own cc nL n0 z0 nF zE d) (hM : zMet l D cid kv N0 xs Ls d y nm bytes maxL ret) (hp : nm.cls ≠ "java/lang/invoke/MethodHandle" ∧ nm.cls ≠ "java/lang/invoke/VarHandle" ∧ (parseMethodDescriptor nm.desc).map (fun d => d.parameters.length) = some n) (hml : maxL ≤ 40) (h1 : (own, index, nm, host) ∈ zNestL) (h2 : Cond.static nm ∈ zTB) (h4 : Cond.initialized nm.cls ∈ zTB) (h5 : Cond.code nm bytes maxL ret ∈ zTB) (hd : decode cc pc = .ok (.invokestatic index, 3)) : zSo p l e R s m args below meth c D cid kv N0 xs Ls nL Qf ρ0 n0 z0 nF zE Qq (zCall d) pc (op_cS y n (pc + 3)) := so_cSN F.1 F.2.1 hM F.2.2.1 F.2.2.2.1 F.2.2.2.2.1 (fun mc ms => ⟨va_cnB n F.1.2.2.2.2 (zGood (zTB_c h5 (fun _ h => h))) rfl rfl rfl (F.2.1.2.2.1 _ h1) (F.1.2.2.2.2 _ h4) ⟨hp.1, hp.2.1, hp.2.2⟩ (by exact ⟨by have := F.2.2.2.2.2.1; exact this, by have := F.2.2.2.2.2.2; show 8 + (maxL + 11) + 60 * d ≤ R.locals; omega⟩), F.1.2.2.2.2 _ h2, trivial⟩) hd
theorem si_cI {y n index maxL : Nat} {nm : MethodName} {bytes : ByteArray} (F : zFx p l R s m args meth c D cid kv N0 xs Ls own cc nL n0 z0 nF zE d) (hM : zMet l D cid kv N0 xs Ls d y nm bytes maxL none) (hp : nm.cls ≠ "java/lang/invoke/MethodHandle" ∧ nm.cls ≠ "java/lang/invoke/VarHandle" ∧ (parseMethodDescriptor nm.desc).map (fun d => d.parameters.length) = some n) (hml : maxL ≤ 40) (hi : nm.name = "<init>") (h1 : Cond.methodLink own index nm ∈ zTB) (h2 : Cond.instanceMethod nm ∈ zTB) (h4 : Cond.initialized nm.cls ∈ zTB) (h5 : Cond.code nm bytes maxL none ∈ zTB) (hd : decode cc pc = .ok (.invokespecial index, 3)) : zSo p l e R s m args below meth c D cid kv N0 xs Ls nL Qf ρ0 n0 z0 nF zE Qq (zCall d) pc (op_cI y (n + 1) (pc + 3)) := so_cI F.1 F.2.1 hM F.2.2.1 F.2.2.2.1 F.2.2.2.2.1 (fun mc ms => cwI n F.1.2.2.2.2 (zGood (zTB_c h5 (fun _ h => h))) rfl rfl rfl (F.1.2.2.2.2 _ h4) (F.1.2.2.2.2 _ h1) (F.1.2.2.2.2 _ h2) hi ⟨hp.1, hp.2.1, hp.2.2⟩ (by exact ⟨by have := F.2.2.2.2.2.1; exact this, by have := F.2.2.2.2.2.2; show 8 + (maxL + 11) + 60 * d ≤ R.locals; omega⟩)) hd
theorem si_cIN {y n index maxL : Nat} {nm : MethodName} {bytes : ByteArray} {host : String} (F : zFx p l R s m args meth c D cid kv N0 xs Ls own cc nL n0 z0 nF zE d) (hM : zMet l D cid kv N0 xs Ls d y nm bytes maxL none) (hp : nm.cls ≠ "java/lang/invoke/MethodHandle" ∧ nm.cls ≠ "java/lang/invoke/VarHandle" ∧ (parseMethodDescriptor nm.desc).map (fun d => d.parameters.length) = some n) (hml : maxL ≤ 40) (hi : nm.name = "<init>") (h1 : (own, index, nm, host) ∈ zNestL) (h2 : Cond.instanceMethod nm ∈ zTB) (h4 : Cond.initialized nm.cls ∈ zTB) (h5 : Cond.code nm bytes maxL none ∈ zTB) (hd : decode cc pc = .ok (.invokespecial index, 3)) : zSo p l e R s m args below meth c D cid kv N0 xs Ls nL Qf ρ0 n0 z0 nF zE Qq (zCall d) pc (op_cI y (n + 1) (pc + 3)) := so_cIN F.1 F.2.1 hM F.2.2.1 F.2.2.2.1 F.2.2.2.2.1 (fun mc ms => ⟨va_cnB n F.1.2.2.2.2 (zGood (zTB_c h5 (fun _ h => h))) rfl rfl rfl (F.2.1.2.2.1 _ h1) (F.1.2.2.2.2 _ h4) ⟨hp.1, hp.2.1, hp.2.2⟩ (by exact ⟨by have := F.2.2.2.2.2.1; exact this, by have := F.2.2.2.2.2.2; show 8 + (maxL + 11) + 60 * d ≤ R.locals; omega⟩), hi, F.1.2.2.2.2 _ h2⟩) hd
theorem si_rI {ok : Int32 → Prop} {dk : DecidablePred ok} {ty : FieldType} {r0 : Option Value} {hF : zH} (F : zFx p l R s m args meth c D cid kv N0 xs Ls own cc nL n0 z0 nF zE d) (hQ : ∀ v h, Qq v h → v = r0 ∧ h = hF) (hn : nF = zN hF) (hz : zE = zZ hF) (hlocks : meth.locks = false) (hr : meth.sig.returnType = some ty) (hok : ∀ x, ok x → narrow ty (.int x) = .int x) (hd : decode cc pc = .ok (.ireturn, 1)) : zSo p l e R s m args below meth c D cid kv N0 xs Ls nL (MQ below (zQc D cid kv N0 xs Ls ρ0 r0 hF) args s (nF - n0) (zE - z0) (zA N0)) ρ0 n0 z0 nF zE Qq Ca pc (op_rI ok) := so_rI hQ hn hz (fun ls H locs ρ x hx e1 hp hs hS => W.zret F.1.1 F.1.2.1 hr (hok x hx) (fun t ht hW => ⟨⟨_, ρ, rfl, hp, by rw [e1]; exact rfl, by rw [ht]; exact hs⟩, hS.F ht⟩) hS.2.2 hd hlocks)
theorem si_rJ {r0 : Option Value} {hF : zH} (F : zFx p l R s m args meth c D cid kv N0 xs Ls own cc nL n0 z0 nF zE d) (hQ : ∀ v h, Qq v h → v = r0 ∧ h = hF) (hn : nF = zN hF) (hz : zE = zZ hF) (hlocks : meth.locks = false) (hr : meth.sig.returnType = some .long) (hd : decode cc pc = .ok (.lreturn, 1)) : zSo p l e R s m args below meth c D cid kv N0 xs Ls nL (MQ below (zQc D cid kv N0 xs Ls ρ0 r0 hF) args s (nF - n0) (zE - z0) (zA N0)) ρ0 n0 z0 nF zE Qq Ca pc op_rJ := so_rJ hQ hn hz (fun ls H locs ρ x e1 hp hs hS => W.lret F.1.1 F.1.2.1 hr (fun t ht hW => ⟨⟨_, ρ, rfl, hp, by rw [e1]; exact rfl, by rw [ht]; exact hs⟩, hS.F ht⟩) hS.2.2 hd hlocks)
theorem si_rA {rt : FieldType} {r0 : Option Value} {hF : zH} (F : zFx p l R s m args meth c D cid kv N0 xs Ls own cc nL n0 z0 nF zE d) (hQ : ∀ v h, Qq v h → v = r0 ∧ h = hF) (hn : nF = zN hF) (hz : zE = zZ hF) (hlocks : meth.locks = false) (hr : meth.sig.returnType = some rt) (hrt : (∃ n, rt = .object n) ∨ ∃ t, rt = .array t) (hd : decode cc pc = .ok (.areturn, 1)) : zSo p l e R s m args below meth c D cid kv N0 xs Ls nL (MQ below (zQc D cid kv N0 xs Ls ρ0 r0 hF) args s (nF - n0) (zE - z0) (zA N0)) ρ0 n0 z0 nF zE Qq Ca pc op_rA := so_rA hQ hn hz (fun ls H locs ρ i o e1 hv hp hs hS => W.aret F.1.1 F.1.2.1 hr hrt (by cases o with | none => exact Or.inl rfl | some a => exact Or.inr ⟨a, rfl⟩) (fun t ht hW => ⟨⟨_, ρ, rfl, hp, by rw [e1]; exact hv, by rw [ht]; exact hs⟩, hS.F ht⟩) hS.2.2 hd hlocks)
theorem si_rV {r0 : Option Value} {hF : zH} (F : zFx p l R s m args meth c D cid kv N0 xs Ls own cc nL n0 z0 nF zE d) (hQ : ∀ v h, Qq v h → v = r0 ∧ h = hF) (hn : nF = zN hF) (hz : zE = zZ hF) (hlocks : meth.locks = false) (hr : meth.sig.returnType = none) (hd : decode cc pc = .ok (.return_, 1)) : zSo p l e R s m args below meth c D cid kv N0 xs Ls nL (MQ below (zQc D cid kv N0 xs Ls ρ0 r0 hF) args s (nF - n0) (zE - z0) (zA N0)) ρ0 n0 z0 nF zE Qq Ca pc op_rV := so_rV hQ hn hz (fun ls H locs ρ e1 hp hs hS => W.vret F.1.1 F.1.2.1 hr (fun t ht hW => ⟨⟨_, ρ, rfl, hp, by rw [e1]; exact trivial, by rw [ht]; exact hs⟩, hS.F ht⟩) hS.2.2 hd hlocks)
end SI
