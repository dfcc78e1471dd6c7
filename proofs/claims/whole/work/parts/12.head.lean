/-! lists of sound instructions -/
def zAllM (l : Launch) (D : va_G) (cid : Nat → ClassId) (kv : Nat → Option Nat) (N0 : Nat) (xs : Nat → Int32) (Ls d : Nat) : Prop := ∀ y : Nat, zMet l D cid kv N0 xs Ls d y (zNm y).1 (zNm y).2.1 (zNm y).2.2.1 (zNm y).2.2.2
section ZC
variable {p : Program} {l : Launch} {e : Env} {R : Room} {s : State} {m : MethodId} {args : Array Value} {below : List Frame} {meth : Method} {c : Code} {D : va_G} {cid : Nat → ClassId} {kv : Nat → Option Nat} {N0 : Nat} {xs : Nat → Int32} {Ls nL n0 z0 nF zE d : Nat} {ρ0 : List Nat} {Qq : zQq} {Ca : zCa} {Qf : State → Prop}
def zSoL (p : Program) (l : Launch) (e : Env) (R : Room) (s : State) (m : MethodId) (args : Array Value) (below : List Frame) (meth : Method) (c : Code) (D : va_G) (cid : Nat → ClassId) (kv : Nat → Option Nat) (N0 : Nat) (xs : Nat → Int32) (Ls nL : Nat) (Qf : State → Prop) (ρ0 : List Nat) (n0 z0 nF zE : Nat) (Qq : zQq) (Ca : zCa) : List (Nat × zOp) → Prop
  | [] => True
  | q :: t => zSo p l e R s m args below meth c D cid kv N0 xs Ls nL Qf ρ0 n0 z0 nF zE Qq Ca q.1 q.2 ∧ zSoL p l e R s m args below meth c D cid kv N0 xs Ls nL Qf ρ0 n0 z0 nF zE Qq Ca t
theorem zc_nil : zSoL p l e R s m args below meth c D cid kv N0 xs Ls nL Qf ρ0 n0 z0 nF zE Qq Ca [] := trivial
theorem zc_so {pc : Nat} {op : zOp} {t : List (Nat × zOp)} (h : zSo p l e R s m args below meth c D cid kv N0 xs Ls nL Qf ρ0 n0 z0 nF zE Qq Ca pc op) (ht : zSoL p l e R s m args below meth c D cid kv N0 xs Ls nL Qf ρ0 n0 z0 nF zE Qq Ca t) : zSoL p l e R s m args below meth c D cid kv N0 xs Ls nL Qf ρ0 n0 z0 nF zE Qq Ca ((pc, op) :: t) := ⟨h, ht⟩
theorem zc_lk : ∀ {t : List (Nat × zOp)}, zSoL p l e R s m args below meth c D cid kv N0 xs Ls nL Qf ρ0 n0 z0 nF zE Qq Ca t → ∀ n, zSo p l e R s m args below meth c D cid kv N0 xs Ls nL Qf ρ0 n0 z0 nF zE Qq Ca n (zlk t n)
  | [], _, _ => so_F
  | (k, o) :: t, h, n => by
    unfold zlk
    cases e : Nat.beq k n with
    | true =>
      have := Nat.eq_of_beq_eq_true e
      subst this
      exact h.1
    | false => exact zc_lk h.2 n
def zSoLL (p : Program) (l : Launch) (e : Env) (R : Room) (s : State) (m : MethodId) (args : Array Value) (below : List Frame) (meth : Method) (c : Code) (D : va_G) (cid : Nat → ClassId) (kv : Nat → Option Nat) (N0 : Nat) (xs : Nat → Int32) (Ls nL : Nat) (Qf : State → Prop) (ρ0 : List Nat) (n0 z0 nF zE : Nat) (Qq : zQq) (Ca : zCa) : List (List (Nat × zOp)) → Prop
  | [] => True
  | q :: t => zSoL p l e R s m args below meth c D cid kv N0 xs Ls nL Qf ρ0 n0 z0 nF zE Qq Ca q ∧ zSoLL p l e R s m args below meth c D cid kv N0 xs Ls nL Qf ρ0 n0 z0 nF zE Qq Ca t
theorem zc_end : zSoLL p l e R s m args below meth c D cid kv N0 xs Ls nL Qf ρ0 n0 z0 nF zE Qq Ca [] := trivial
theorem zc_cons {q : List (Nat × zOp)} {t : List (List (Nat × zOp))} (h : zSoL p l e R s m args below meth c D cid kv N0 xs Ls nL Qf ρ0 n0 z0 nF zE Qq Ca q) (ht : zSoLL p l e R s m args below meth c D cid kv N0 xs Ls nL Qf ρ0 n0 z0 nF zE Qq Ca t) : zSoLL p l e R s m args below meth c D cid kv N0 xs Ls nL Qf ρ0 n0 z0 nF zE Qq Ca (q :: t) := ⟨h, ht⟩
theorem zc_get : ∀ {t : List (List (Nat × zOp))}, zSoLL p l e R s m args below meth c D cid kv N0 xs Ls nL Qf ρ0 n0 z0 nF zE Qq Ca t → ∀ k, zSoL p l e R s m args below meth c D cid kv N0 xs Ls nL Qf ρ0 n0 z0 nF zE Qq Ca (t.getD k [])
  | [], _, k => by simp [zSoL]
  | _ :: _, h, 0 => h.1
  | _ :: t, h, k + 1 => by
    have := zc_get h.2 k
    simpa using this
theorem zc_tab (t : List (List (Nat × zOp))) (h : zSoLL p l e R s m args below meth c D cid kv N0 xs Ls nL Qf ρ0 n0 z0 nF zE Qq Ca t) {n : Nat} : zSo p l e R s m args below meth c D cid kv N0 xs Ls nL Qf ρ0 n0 z0 nF zE Qq Ca n (zlk2 t n) := zc_lk (zc_get h (n / 64)) n
theorem si_mna {own : String} {cc : ByteArray} {pc index : Nat} (F : zFx p l R s m args meth c D cid kv N0 xs Ls own cc nL n0 z0 nF zE d) (hd : decode cc pc = .ok (.multianewarray index 2, 4)) (h1 : (Cond.classLink own index "[[I").before args s = true) (h2 : (Cond.arrayClass .int).before args s = true) : zSo p l e R s m args below meth c D cid kv N0 xs Ls nL Qf ρ0 n0 z0 nF zE Qq Ca pc (op_mna (pc + 4)) := sorry
end ZC
