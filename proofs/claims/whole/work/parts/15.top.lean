/-! from calls of the mini machine to the JVM's -/
theorem zCall_le : ∀ (d y : Nat) (as : List Value) (h : zH) (Q : zQq), zCall d y as h Q → zCall d y as h (fun v h1 => Q v h1 ∧ zN h ≤ zN h1 ∧ zZ h ≤ zZ h1)
  | 0, _, _, _, _, g => g.elim
  | d + 1, y, as, h, Q, g => by
    have key : ∀ pc L st h, zG d y pc L st h Q → zG d y pc L st h (fun v h1 => Q v h1 ∧ zN h ≤ zN h1 ∧ zZ h ≤ zZ h1) := by
      intro pc L st h g
      refine g (fun pc L st h => zG d y pc L st h (fun v h1 => Q v h1 ∧ zN h ≤ zN h1 ∧ zZ h ≤ zZ h1)) ?_
      intro pc L st h q
      have hm := mo_all y pc L st h
      cases e : zTab y pc L st h with
      | none => rw [e] at q; exact q.elim
      | some x =>
        rw [e] at q hm
        rcases x with ⟨pc2, L2, st2, h2⟩ | ⟨v, h2⟩ | ⟨y2, as2, pc2, L2, st2, h2⟩
        · refine zG_in ?_
          rw [e]
          exact zG_mono (fun v h1 z => ⟨z.1, Nat.le_trans hm.1 z.2.1, Nat.le_trans hm.2 z.2.2⟩) q
        · refine zG_in ?_
          rw [e]
          exact ⟨q, hm⟩
        · refine zG_in ?_
          rw [e]
          exact zCall_mono d _ _ _ _ _ (fun v h1 z => zG_mono (fun v h1 w => ⟨w.1, by have := hm.1; have := z.2.1; have := w.2.1; omega, by have := hm.2; have := z.2.2; have := w.2.2; omega⟩) z.1) (zCall_le d y2 as2 h2 _ q)
    exact ⟨g.1, key _ _ _ _ g.2⟩
def zall (P : Nat → Prop) : List Nat → Prop
  | [] => True
  | y :: t => P y ∧ zall P t
theorem zall_in {P : Nat → Prop} : ∀ {l : List Nat}, zall P l → ∀ y, y ∈ l → P y
  | [], _, y, h => absurd h List.not_mem_nil
  | a :: l, hp, y, h => by
    rcases List.mem_cons.mp h with rfl | h
    · exact hp.1
    · exact zall_in hp.2 y h
theorem zLR_ent {kv : Nat → Option Nat} {ρ : List Nat} {ls : Array Slot} {nL : Nat} (hw : lv_wf ls) (hs : ls.size = nL) : ∀ (as asR : List Value) (k : Nat) , zSR kv ρ as asR → (∀ q ∈ lv_args k asR, ls[q.1]? = some (.val q.2)) → ∀ (j : Nat) (v : Value), lg (zsl as) j = some v → ∃ v' : Value, zV kv ρ v = some v' ∧ ls[k + j]? = some (.val v')
  | [], [], k, _, _, j, v, hv => by cases j <;> simp [zsl, lg] at hv
  | a :: as, b :: bs, k, h, hq, j, v, hv => by
    have hc := zV_cat h.1
    have h0 : ls[k]? = some (.val b) := hq (k, b) List.mem_cons_self
    by_cases h2 : a.category = 2
    · have hb2 : b.category = 2 := by rw [hc]; exact h2
      have hrest : ∀ q ∈ lv_args (k + 2) bs, ls[q.1]? = some (.val q.2) := fun q hm => hq q (by unfold lv_args; rw [if_pos hb2]; exact List.mem_cons_of_mem _ hm)
      have e1 : zsl (a :: as) = some a :: none :: zsl as := by cases a <;> first | rfl | simp [Value.category] at h2
      rw [e1] at hv
      cases j with
      | zero => simp only [lg, Option.some.injEq] at hv; subst hv; exact ⟨b, h.1, h0⟩
      | succ j =>
        cases j with
        | zero => simp [lg] at hv
        | succ j =>
          simp only [lg] at hv
          obtain ⟨v', g1, g2⟩ := zLR_ent hw hs as bs (k + 2) h.2 hrest j v hv
          exact ⟨v', g1, by rw [show k + (j + 1 + 1) = k + 2 + j by omega]; exact g2⟩
    · have hb2 : ¬ b.category = 2 := by rw [hc]; exact h2
      have hrest : ∀ q ∈ lv_args (k + 1) bs, ls[q.1]? = some (.val q.2) := fun q hm => hq q (by unfold lv_args; rw [if_neg hb2]; exact List.mem_cons_of_mem _ hm)
      have e1 : zsl (a :: as) = some a :: zsl as := by cases a <;> first | rfl | simp [Value.category] at h2
      rw [e1] at hv
      cases j with
      | zero => simp only [lg, Option.some.injEq] at hv; subst hv; exact ⟨b, h.1, h0⟩
      | succ j =>
        simp only [lg] at hv
        obtain ⟨v', g1, g2⟩ := zLR_ent hw hs as bs (k + 1) h.2 hrest j v hv
        exact ⟨v', g1, by rw [show k + (j + 1) = k + 1 + j by omega]; exact g2⟩
  | [], _ :: _, _, h, _, _, _, _ => h.elim
  | _ :: _, [], _, h, _, _, _, _ => h.elim
theorem lg_app_none : ∀ (L : zL) (n j : Nat) (v : Value), lg (L ++ List.replicate n none) j = some v → lg L j = some v
  | [], n, j, v, h => by
    exfalso
    induction n generalizing j with
    | zero => cases j <;> simp [lg] at h
    | succ n ih =>
      rw [List.nil_append, List.replicate_succ] at h
      cases j with
      | zero => simp [lg] at h
      | succ j => exact ih j (by simpa [lg] using h)
  | _ :: _, _, 0, _, h => by simpa [lg] using h
  | _ :: L, n, j + 1, v, h => by
    simp only [List.cons_append, lg] at h ⊢
    exact lg_app_none L n j v h
theorem len_zsl {kv : Nat → Option Nat} {ρ : List Nat} : ∀ (as asR : List Value), zSR kv ρ as asR → (zsl as).length = (lg_sl asR).length
  | [], [], _ => rfl
  | a :: as, b :: bs, h => by
    have hc := zV_cat h.1
    have ih := len_zsl as bs h.2
    by_cases h2 : a.category = 2
    · have e1 : zsl (a :: as) = some a :: none :: zsl as := by cases a <;> first | rfl | simp [Value.category] at h2
      rw [e1]
      have e2 : lg_sl (b :: bs) = [.val b, .second] ++ lg_sl bs := by simp [lg_sl, hc, h2]
      rw [e2]
      simp [ih]
    · have e1 : zsl (a :: as) = some a :: zsl as := by cases a <;> first | rfl | simp [Value.category] at h2
      rw [e1]
      have e2 : lg_sl (b :: bs) = [.val b] ++ lg_sl bs := by simp [lg_sl, hc, h2]
      rw [e2]
      simp [ih]
  | [], _ :: _, h => h.elim
  | _ :: _, [], h => h.elim
theorem zmet_of {l : Launch} {D : va_G} {cid : Nat → ClassId} {kv : Nat → Option Nat} {N0 : Nat} {xs : Nat → Int32} {Ls d y : Nat} {nm : MethodName} {bytes : ByteArray} {maxL : Nat} {ret : Option FieldType} {own : String} (hpn : plainName nm.cls = true) (hcls : nm.cls = own) (hml : zml y = maxL) (hle : maxL ≤ 40)
    (hs : ∀ {p : Program} {e : Env} {R : Room} {s : State} {m : MethodId} {args : Array Value} {below : List Frame} {meth : Method} {c : Code} {n0 z0 nF zE : Nat} {ρ0 : List Nat} {Qq : zQq} {r0 : Option Value} {hF : zH}, zFx p l R s m args meth c D cid kv N0 xs Ls own bytes maxL n0 z0 nF zE d → (∀ v h, Qq v h → v = r0 ∧ h = hF) → nF = zN hF → zE = zZ hF → meth.locks = false → meth.sig.returnType = ret → (nm.name = "<init>" → meth.name = "<init>") → ∀ pc, zSo p l e R s m args below meth c D cid kv N0 xs Ls maxL (MQ below (zQc D cid kv N0 xs Ls ρ0 r0 hF) args s (nF - n0) (zE - z0) (zA N0)) ρ0 n0 z0 nF zE Qq (zCall d) pc (zTab y pc)) : zMet l D cid kv N0 xs Ls (d + 1) y nm bytes maxL ret := by
  intro as h r h1 hc
  have hb : zN h ≤ zN h1 ∧ zZ h ≤ zZ h1 := by
    obtain ⟨r2, h2, -, g2⟩ := zCall_end _ _ _ _ _ (zCall_le (d + 1) y as h _ hc)
    obtain ⟨⟨-, rfl⟩, g3⟩ := g2
    exact g3
  refine ⟨hb.1, hb.2, fun hN ρ asR hsr => ?_⟩
  refine Met.ofW (cc := bytes) (maxL := maxL) (ret := ret) hpn rfl ?_
  intro p e s m args below meth c s₁ B hml' hv
  obtain ⟨rfl, hsim, hcst⟩ := hv
  have hts := atoms_spec (ws := Cond.code nm bytes maxL ret :: zTB) B.pre
  have hown : s.vm.findClass own = some m.cls := by rw [← hcls]; exact findClass_of_methodNamed B.named
  have F : zFx p l (zRm (d + 1) (zN h1 - zN h) (zZ h1 - zZ h)) s m asR.toArray meth c D cid kv N0 xs Ls own bytes maxL (zN h) (zZ h) (zN h1) (zZ h1) d := ⟨⟨B.exec, B.bytes, hml', hown, fun w hw => hts w (List.mem_cons_of_mem _ hw)⟩, hcst, Nat.le_refl _, Nat.le_refl _, hN, Nat.le_refl _, (by show 60 * d + 60 ≤ 60 * (d + 1); omega)⟩
  have key := hc.2 (zW p l e (zRm (d + 1) (zN h1 - zN h) (zZ h1 - zZ h)) s m asR.toArray below meth c D cid kv N0 xs Ls maxL (MQ below (zQc D cid kv N0 xs Ls ρ r h1) asR.toArray s (zN h1 - zN h) (zZ h1 - zZ h) (zA N0)) ρ (zN h) (zZ h) (zN h1) (zZ h1)) (fun pc L st h2 hw => hs F (fun v h z => z) rfl rfl B.notSynchronized B.returns (fun hi => by rw [← hi]; exact (name_of_methodNamed B.named B.method).1) pc L st h2 hw)
  rw [lg_entry_eq]
  have hlen := len_zsl as asR hsr
  have hfit : (lg_sl asR).length ≤ maxL := by rw [← hlen, ← hml]; exact hc.1
  have hent := lv_entry asR hfit
  generalize hls : (lg_sl asR ++ List.replicate (maxL - (lg_sl asR).length) Slot.unset).toArray = ls at hent ⊢
  have hL : zLR kv ρ (zent (zml y) as) ls maxL := by
    refine ⟨hent.2.1, hent.1, ?_, fun k v hk => ?_⟩
    · unfold zent
      rw [List.length_append, List.length_replicate, hml]
      omega
    · obtain ⟨v', g1, g2⟩ := zLR_ent hent.2.1 hent.1 as asR 0 hsr hent.2.2 k v (lg_app_none _ _ _ _ hk)
      rw [Nat.zero_add] at g2
      exact ⟨v', g1, g2⟩
  have := key.2.2 ls [] ρ s.heap [] (Nat.le_refl _) (Nat.le_refl _) (List.prefix_refl ρ) hL trivial hsim va_S.rf
  rw [Nat.sub_self, Nat.sub_self] at this
  exact this
theorem zDepth (l : Launch) (D : va_G) (cid : Nat → ClassId) (kv : Nat → Option Nat) (N0 : Nat) (xs : Nat → Int32) (Ls : Nat) (hstep : ∀ d, zAllM l D cid kv N0 xs Ls d → zAllM l D cid kv N0 xs Ls (d + 1)) : ∀ d, zAllM l D cid kv N0 xs Ls d
  | 0 => fun _ _ _ _ _ _ hc => hc.elim
  | d + 1 => hstep d (zDepth l D cid kv N0 xs Ls hstep d)
