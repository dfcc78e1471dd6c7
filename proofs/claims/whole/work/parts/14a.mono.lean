/-! the heap only grows: instruction by instruction -/
def zmo (h : zH) : zX → Prop
  | none => True
  | some (.inl (_, _, _, h')) => zN h ≤ zN h' ∧ zZ h ≤ zZ h'
  | some (.inr (.inl (_, h'))) => zN h ≤ zN h' ∧ zZ h ≤ zZ h'
  | some (.inr (.inr (_, _, _, _, _, h'))) => zN h ≤ zN h' ∧ zZ h ≤ zZ h'
def zMo (op : zOp) : Prop := ∀ (L : zL) (st : List Value) (h : zH), zmo h (op L st h)
theorem zmo_n (h : zH) : zmo h none := trivial
theorem zmo_N (pc : Nat) (L : zL) (st : List Value) (h : zH) : zmo h (rN pc L st h) := ⟨Nat.le_refl _, Nat.le_refl _⟩
theorem zmo_Q (v : Option Value) (h : zH) : zmo h (rQ v h) := ⟨Nat.le_refl _, Nat.le_refl _⟩
theorem zmo_C (y : Nat) (as : List Value) (pc : Nat) (L : zL) (st : List Value) (h : zH) : zmo h (rC y as pc L st h) := ⟨Nat.le_refl _, Nat.le_refl _⟩
theorem mo_F : zMo zF := fun _ _ _ => trivial
theorem mo_c {v : Value} {nx : Nat} : zMo (op_c v nx) := by
  intro L st h
  unfold op_c
  (repeat' split) <;> first | exact trivial | exact ⟨Nat.le_refl _, Nat.le_refl _⟩ | exact ⟨Nat.le_add_right _ _, Nat.le_add_right _ _⟩
theorem mo_ldI {k nx : Nat} : zMo (op_ldI k nx) := by
  intro L st h
  unfold op_ldI
  (repeat' split) <;> first | exact trivial | exact ⟨Nat.le_refl _, Nat.le_refl _⟩ | exact ⟨Nat.le_add_right _ _, Nat.le_add_right _ _⟩
theorem mo_ldJ {k nx : Nat} : zMo (op_ldJ k nx) := by
  intro L st h
  unfold op_ldJ
  (repeat' split) <;> first | exact trivial | exact ⟨Nat.le_refl _, Nat.le_refl _⟩ | exact ⟨Nat.le_add_right _ _, Nat.le_add_right _ _⟩
theorem mo_ldA {k nx : Nat} : zMo (op_ldA k nx) := by
  intro L st h
  unfold op_ldA
  (repeat' split) <;> first | exact trivial | exact ⟨Nat.le_refl _, Nat.le_refl _⟩ | exact ⟨Nat.le_add_right _ _, Nat.le_add_right _ _⟩
theorem mo_stI {k nx : Nat} : zMo (op_stI k nx) := by
  intro L st h
  unfold op_stI
  (repeat' split) <;> first | exact trivial | exact ⟨Nat.le_refl _, Nat.le_refl _⟩ | exact ⟨Nat.le_add_right _ _, Nat.le_add_right _ _⟩
theorem mo_stA {k nx : Nat} : zMo (op_stA k nx) := by
  intro L st h
  unfold op_stA
  (repeat' split) <;> first | exact trivial | exact ⟨Nat.le_refl _, Nat.le_refl _⟩ | exact ⟨Nat.le_add_right _ _, Nat.le_add_right _ _⟩
theorem mo_stJ {k nx : Nat} : zMo (op_stJ k nx) := by
  intro L st h
  unfold op_stJ
  (repeat' split) <;> first | exact trivial | exact ⟨Nat.le_refl _, Nat.le_refl _⟩ | exact ⟨Nat.le_add_right _ _, Nat.le_add_right _ _⟩
theorem mo_inc {k nx : Nat} {n : Int32} : zMo (op_inc k n nx) := by
  intro L st h
  unfold op_inc
  (repeat' split) <;> first | exact trivial | exact ⟨Nat.le_refl _, Nat.le_refl _⟩ | exact ⟨Nat.le_add_right _ _, Nat.le_add_right _ _⟩
theorem mo_pop {nx : Nat} : zMo (op_pop nx) := by
  intro L st h
  unfold op_pop
  (repeat' split) <;> first | exact trivial | exact ⟨Nat.le_refl _, Nat.le_refl _⟩ | exact ⟨Nat.le_add_right _ _, Nat.le_add_right _ _⟩
theorem mo_dup {nx : Nat} : zMo (op_dup nx) := by
  intro L st h
  unfold op_dup
  (repeat' split) <;> first | exact trivial | exact ⟨Nat.le_refl _, Nat.le_refl _⟩ | exact ⟨Nat.le_add_right _ _, Nat.le_add_right _ _⟩
theorem mo_dup2 {nx : Nat} : zMo (op_dup2 nx) := by
  intro L st h
  unfold op_dup2
  (repeat' split) <;> first | exact trivial | exact ⟨Nat.le_refl _, Nat.le_refl _⟩ | exact ⟨Nat.le_add_right _ _, Nat.le_add_right _ _⟩
theorem mo_b {f : Int32 → Int32 → Int32} {nx : Nat} : zMo (op_b f nx) := by
  intro L st h
  unfold op_b
  (repeat' split) <;> first | exact trivial | exact ⟨Nat.le_refl _, Nat.le_refl _⟩ | exact ⟨Nat.le_add_right _ _, Nat.le_add_right _ _⟩
theorem mo_d {f : Int32 → Int32 → Int32} {nx : Nat} : zMo (op_d f nx) := by
  intro L st h
  unfold op_d
  (repeat' split) <;> first | exact trivial | exact ⟨Nat.le_refl _, Nat.le_refl _⟩ | exact ⟨Nat.le_add_right _ _, Nat.le_add_right _ _⟩
theorem mo_u {f : Int32 → Int32} {nx : Nat} : zMo (op_u f nx) := by
  intro L st h
  unfold op_u
  (repeat' split) <;> first | exact trivial | exact ⟨Nat.le_refl _, Nat.le_refl _⟩ | exact ⟨Nat.le_add_right _ _, Nat.le_add_right _ _⟩
theorem mo_lb {f : Int64 → Int64 → Int64} {nx : Nat} : zMo (op_lb f nx) := by
  intro L st h
  unfold op_lb
  (repeat' split) <;> first | exact trivial | exact ⟨Nat.le_refl _, Nat.le_refl _⟩ | exact ⟨Nat.le_add_right _ _, Nat.le_add_right _ _⟩
theorem mo_ldv {f : Int64 → Int64 → Int64} {nx : Nat} : zMo (op_ldv f nx) := by
  intro L st h
  unfold op_ldv
  (repeat' split) <;> first | exact trivial | exact ⟨Nat.le_refl _, Nat.le_refl _⟩ | exact ⟨Nat.le_add_right _ _, Nat.le_add_right _ _⟩
theorem mo_lsh {f : Int64 → Int32 → Int64} {nx : Nat} : zMo (op_lsh f nx) := by
  intro L st h
  unfold op_lsh
  (repeat' split) <;> first | exact trivial | exact ⟨Nat.le_refl _, Nat.le_refl _⟩ | exact ⟨Nat.le_add_right _ _, Nat.le_add_right _ _⟩
theorem mo_i2l {nx : Nat} : zMo (op_i2l nx) := by
  intro L st h
  unfold op_i2l
  (repeat' split) <;> first | exact trivial | exact ⟨Nat.le_refl _, Nat.le_refl _⟩ | exact ⟨Nat.le_add_right _ _, Nat.le_add_right _ _⟩
theorem mo_l2i {nx : Nat} : zMo (op_l2i nx) := by
  intro L st h
  unfold op_l2i
  (repeat' split) <;> first | exact trivial | exact ⟨Nat.le_refl _, Nat.le_refl _⟩ | exact ⟨Nat.le_add_right _ _, Nat.le_add_right _ _⟩
theorem mo_lcmp {nx : Nat} : zMo (op_lcmp nx) := by
  intro L st h
  unfold op_lcmp
  (repeat' split) <;> first | exact trivial | exact ⟨Nat.le_refl _, Nat.le_refl _⟩ | exact ⟨Nat.le_add_right _ _, Nat.le_add_right _ _⟩
theorem mo_i1 {P : Int32 → Prop} {dP : DecidablePred P} {t nx : Nat} : zMo (op_i1 P t nx) := by
  intro L st h
  unfold op_i1
  (repeat' split) <;> first | exact trivial | exact ⟨Nat.le_refl _, Nat.le_refl _⟩ | exact ⟨Nat.le_add_right _ _, Nat.le_add_right _ _⟩
theorem mo_i2 {P : Int32 → Int32 → Prop} {dP : ∀ x y, Decidable (P x y)} {t nx : Nat} : zMo (op_i2 P t nx) := by
  intro L st h
  unfold op_i2
  (repeat' split) <;> first | exact trivial | exact ⟨Nat.le_refl _, Nat.le_refl _⟩ | exact ⟨Nat.le_add_right _ _, Nat.le_add_right _ _⟩
theorem mo_nul {t nx : Nat} : zMo (op_nul t nx) := by
  intro L st h
  unfold op_nul
  (repeat' split) <;> first | exact trivial | exact ⟨Nat.le_refl _, Nat.le_refl _⟩ | exact ⟨Nat.le_add_right _ _, Nat.le_add_right _ _⟩
theorem mo_go {t : Nat} : zMo (op_go t) := by
  intro L st h
  unfold op_go
  (repeat' split) <;> first | exact trivial | exact ⟨Nat.le_refl _, Nat.le_refl _⟩ | exact ⟨Nat.le_add_right _ _, Nat.le_add_right _ _⟩
theorem mo_gI {c n k nx : Nat} : zMo (op_gI c n k nx) := by
  intro L st h
  unfold op_gI
  (repeat' split) <;> first | exact trivial | exact ⟨Nat.le_refl _, Nat.le_refl _⟩ | exact ⟨Nat.le_add_right _ _, Nat.le_add_right _ _⟩
theorem mo_gR {c n k nx : Nat} : zMo (op_gR c n k nx) := by
  intro L st h
  unfold op_gR
  (repeat' split) <;> first | exact trivial | exact ⟨Nat.le_refl _, Nat.le_refl _⟩ | exact ⟨Nat.le_add_right _ _, Nat.le_add_right _ _⟩
theorem mo_pI {c n k nx : Nat} : zMo (op_pI c n k nx) := by
  intro L st h
  unfold op_pI
  (repeat' split) <;> first | exact trivial | exact ⟨Nat.le_refl _, Nat.le_refl _⟩ | exact ⟨Nat.le_add_right _ _, Nat.le_add_right _ _⟩
theorem mo_pZ {c n k nx : Nat} : zMo (op_pZ c n k nx) := by
  intro L st h
  unfold op_pZ
  (repeat' split) <;> first | exact trivial | exact ⟨Nat.le_refl _, Nat.le_refl _⟩ | exact ⟨Nat.le_add_right _ _, Nat.le_add_right _ _⟩
theorem mo_pR {c n k nx : Nat} : zMo (op_pR c n k nx) := by
  intro L st h
  unfold op_pR
  (repeat' split) <;> first | exact trivial | exact ⟨Nat.le_refl _, Nat.le_refl _⟩ | exact ⟨Nat.le_add_right _ _, Nat.le_add_right _ _⟩
theorem mo_ia {kd nx : Nat} : zMo (op_ia kd nx) := by
  intro L st h
  unfold op_ia
  (repeat' split) <;> first | exact trivial | exact ⟨Nat.le_refl _, Nat.le_refl _⟩ | exact ⟨Nat.le_add_right _ _, Nat.le_add_right _ _⟩
theorem mo_is {kd : Nat} {f : Int32 → Int32} {nx : Nat} : zMo (op_is kd f nx) := by
  intro L st h
  unfold op_is
  (repeat' split) <;> first | exact trivial | exact ⟨Nat.le_refl _, Nat.le_refl _⟩ | exact ⟨Nat.le_add_right _ _, Nat.le_add_right _ _⟩
theorem mo_ja {nx : Nat} : zMo (op_ja nx) := by
  intro L st h
  unfold op_ja
  (repeat' split) <;> first | exact trivial | exact ⟨Nat.le_refl _, Nat.le_refl _⟩ | exact ⟨Nat.le_add_right _ _, Nat.le_add_right _ _⟩
theorem mo_js {nx : Nat} : zMo (op_js nx) := by
  intro L st h
  unfold op_js
  (repeat' split) <;> first | exact trivial | exact ⟨Nat.le_refl _, Nat.le_refl _⟩ | exact ⟨Nat.le_add_right _ _, Nat.le_add_right _ _⟩
theorem mo_ra {kd nx : Nat} : zMo (op_ra kd nx) := by
  intro L st h
  unfold op_ra
  (repeat' split) <;> first | exact trivial | exact ⟨Nat.le_refl _, Nat.le_refl _⟩ | exact ⟨Nat.le_add_right _ _, Nat.le_add_right _ _⟩
theorem mo_rs {nx : Nat} : zMo (op_rs nx) := by
  intro L st h
  unfold op_rs
  (repeat' split) <;> first | exact trivial | exact ⟨Nat.le_refl _, Nat.le_refl _⟩ | exact ⟨Nat.le_add_right _ _, Nat.le_add_right _ _⟩
theorem mo_len {kd nx : Nat} : zMo (op_len kd nx) := by
  intro L st h
  unfold op_len
  (repeat' split) <;> first | exact trivial | exact ⟨Nat.le_refl _, Nat.le_refl _⟩ | exact ⟨Nat.le_add_right _ _, Nat.le_add_right _ _⟩
theorem mo_new {c n nx : Nat} : zMo (op_new c n nx) := by
  intro L st h
  unfold op_new
  (repeat' split) <;> first | exact trivial | exact ⟨Nat.le_refl _, Nat.le_refl _⟩ | exact ⟨Nat.le_add_right _ _, Nat.le_add_right _ _⟩
theorem mo_na {kd nx : Nat} : zMo (op_na kd nx) := by
  intro L st h
  unfold op_na
  (repeat' split) <;> first | exact trivial | exact ⟨Nat.le_refl _, Nat.le_refl _⟩ | exact ⟨Nat.le_add_right _ _, Nat.le_add_right _ _⟩
theorem mo_mna {nx : Nat} : zMo (op_mna nx) := by
  intro L st h
  unfold op_mna
  (repeat' split) <;> first | exact trivial | exact ⟨Nat.le_refl _, Nat.le_refl _⟩ | exact ⟨Nat.le_add_right _ _, Nat.le_add_right _ _⟩
theorem mo_cV {y n c nx : Nat} : zMo (op_cV y n c nx) := by
  intro L st h
  unfold op_cV
  (repeat' split) <;> first | exact trivial | exact ⟨Nat.le_refl _, Nat.le_refl _⟩ | exact ⟨Nat.le_add_right _ _, Nat.le_add_right _ _⟩
theorem mo_cI {y n nx : Nat} : zMo (op_cI y n nx) := by
  intro L st h
  unfold op_cI
  (repeat' split) <;> first | exact trivial | exact ⟨Nat.le_refl _, Nat.le_refl _⟩ | exact ⟨Nat.le_add_right _ _, Nat.le_add_right _ _⟩
theorem mo_cS {y n nx : Nat} : zMo (op_cS y n nx) := by
  intro L st h
  unfold op_cS
  (repeat' split) <;> first | exact trivial | exact ⟨Nat.le_refl _, Nat.le_refl _⟩ | exact ⟨Nat.le_add_right _ _, Nat.le_add_right _ _⟩
theorem mo_oi {nx : Nat} : zMo (op_oi nx) := by
  intro L st h
  unfold op_oi
  (repeat' split) <;> first | exact trivial | exact ⟨Nat.le_refl _, Nat.le_refl _⟩ | exact ⟨Nat.le_add_right _ _, Nat.le_add_right _ _⟩
theorem mo_mm {f : Int32 → Int32 → Int32} {nx : Nat} : zMo (op_mm f nx) := by
  intro L st h
  unfold op_mm
  (repeat' split) <;> first | exact trivial | exact ⟨Nat.le_refl _, Nat.le_refl _⟩ | exact ⟨Nat.le_add_right _ _, Nat.le_add_right _ _⟩
theorem mo_cp {nx : Nat} : zMo (op_cp nx) := by
  intro L st h
  unfold op_cp
  (repeat' split) <;> first | exact trivial | exact ⟨Nat.le_refl _, Nat.le_refl _⟩ | exact ⟨Nat.le_add_right _ _, Nat.le_add_right _ _⟩
theorem mo_sv {nx : Nat} : zMo (op_sv nx) := by
  intro L st h
  unfold op_sv
  (repeat' split) <;> first | exact trivial | exact ⟨Nat.le_refl _, Nat.le_refl _⟩ | exact ⟨Nat.le_add_right _ _, Nat.le_add_right _ _⟩
theorem mo_sc {nx : Nat} : zMo (op_sc nx) := by
  intro L st h
  unfold op_sc
  (repeat' split) <;> first | exact trivial | exact ⟨Nat.le_refl _, Nat.le_refl _⟩ | exact ⟨Nat.le_add_right _ _, Nat.le_add_right _ _⟩
theorem mo_rI {ok : Int32 → Prop} {dk : DecidablePred ok} : zMo (op_rI ok) := by
  intro L st h
  unfold op_rI
  (repeat' split) <;> first | exact trivial | exact ⟨Nat.le_refl _, Nat.le_refl _⟩ | exact ⟨Nat.le_add_right _ _, Nat.le_add_right _ _⟩
theorem mo_rJ  : zMo (op_rJ) := by
  intro L st h
  unfold op_rJ
  (repeat' split) <;> first | exact trivial | exact ⟨Nat.le_refl _, Nat.le_refl _⟩ | exact ⟨Nat.le_add_right _ _, Nat.le_add_right _ _⟩
theorem mo_rA  : zMo (op_rA) := by
  intro L st h
  unfold op_rA
  (repeat' split) <;> first | exact trivial | exact ⟨Nat.le_refl _, Nat.le_refl _⟩ | exact ⟨Nat.le_add_right _ _, Nat.le_add_right _ _⟩
theorem mo_rV  : zMo (op_rV) := by
  intro L st h
  unfold op_rV
  (repeat' split) <;> first | exact trivial | exact ⟨Nat.le_refl _, Nat.le_refl _⟩ | exact ⟨Nat.le_add_right _ _, Nat.le_add_right _ _⟩
theorem mo_sw {ps : List (Int32 × Nat)} {d : Nat} : zMo (op_sw ps d) := by
  intro L st h
  unfold op_sw
  split
  · rw [zsw_tg]
    exact ⟨Nat.le_refl _, Nat.le_refl _⟩
  · trivial
def zMoL : List (Nat × zOp) → Prop
  | [] => True
  | q :: t => zMo q.2 ∧ zMoL t
theorem zmo_lk : ∀ {t : List (Nat × zOp)}, zMoL t → ∀ n, zMo (zlk t n)
  | [], _, _ => mo_F
  | (k, o) :: t, h, n => by
    unfold zlk
    cases e : Nat.beq k n with
    | true => exact h.1
    | false => exact zmo_lk h.2 n
def zMoLL : List (List (Nat × zOp)) → Prop
  | [] => True
  | q :: t => zMoL q ∧ zMoLL t
theorem zmo_get : ∀ {t : List (List (Nat × zOp))}, zMoLL t → ∀ k, zMoL (t.getD k [])
  | [], _, k => by simp [zMoL]
  | _ :: _, h, 0 => h.1
  | _ :: t, h, k + 1 => by
    have := zmo_get h.2 k
    simpa using this
theorem zmo_tab {l : List (List (Nat × zOp))} (h : zMoLL l) {n : Nat} : zMo (zlk2 l n) := zmo_lk (zmo_get h (n / 64)) n
def zMoC : List (Nat → zOp) → Prop
  | [] => True
  | f :: t => (∀ pc, zMo (f pc)) ∧ zMoC t
theorem zmoC_get : ∀ {t : List (Nat → zOp)}, zMoC t → ∀ (k pc : Nat), zMo (t.getD k (fun _ => zF) pc)
  | [], _, k, pc => by simp; exact mo_F
  | _ :: _, h, 0, pc => h.1 pc
  | _ :: t, h, k + 1, pc => by
    have := zmoC_get h.2 k pc
    simpa using this
def zMoCC : List (List (Nat → zOp)) → Prop
  | [] => True
  | f :: t => zMoC f ∧ zMoCC t
theorem zmoCC_get : ∀ {l : List (List (Nat → zOp))}, zMoCC l → ∀ k, zMoC (l.getD k [])
  | [], _, k => by simp [zMoC]
  | _ :: _, h, 0 => h.1
  | _ :: t, h, k + 1 => by
    have := zmoCC_get h.2 k
    simpa using this
