/-! SOUNDNESS: constants, new cells, calls, ends -/
/-- a method, at depth d: what the mini machine does, it does -/
def zO (kv : Nat → Option Nat) (ρ : List Nat) : Option Value → Option Value → Prop
  | none, none => True
  | some v, some v' => zV kv ρ v = some v'
  | _, _ => False
def zRm (d mc ms : Nat) : Room := { frames := d, cells := mc, slots := ms, locals := 60 * d }
def zPc (D : va_G) (cid : Nat → ClassId) (kv : Nat → Option Nat) (N0 : Nat) (xs : Nat → Int32) (Ls : Nat) (ρ : List Nat) (h : zH) (asR : List Value) : Array Value → State → Prop := fun v U => v = asR.toArray ∧ zSim D cid kv N0 xs Ls ρ h U.heap ∧ zCst D cid kv N0 xs Ls U
def zQc (D : va_G) (cid : Nat → ClassId) (kv : Nat → Option Nat) (N0 : Nat) (xs : Nat → Int32) (Ls : Nat) (ρ : List Nat) (r : Option Value) (h1 : zH) : Array Value → State → Outcome → State → Prop := fun _ st oc t => (∃ (rR : Option Value) (ρ' : List Nat), oc = .returned rR ∧ ρ <+: ρ' ∧ zO kv ρ' r rR ∧ zSim D cid kv N0 xs Ls ρ' h1 t.heap) ∧ va_F (zA N0) st t
def zMet (l : Launch) (D : va_G) (cid : Nat → ClassId) (kv : Nat → Option Nat) (N0 : Nat) (xs : Nat → Int32) (Ls d y : Nat) (nm : MethodName) (bytes : ByteArray) (maxL : Nat) (ret : Option FieldType) : Prop :=
  ∀ (as : List Value) (h : zH) (r : Option Value) (h1 : zH), zCall d y as h (fun r2 h2 => r2 = r ∧ h2 = h1) → zN h ≤ zN h1 ∧ zZ h ≤ zZ h1 ∧ (zN h1 ≤ 1000000 → ∀ (ρ : List Nat) (asR : List Value), zSR kv ρ as asR → Met l nm (Cond.code nm bytes maxL ret :: zTB) (zRm d (zN h1 - zN h) (zZ h1 - zZ h)) (zPc D cid kv N0 xs Ls ρ h asR) (zQc D cid kv N0 xs Ls ρ r h1) (zN h1 - zN h) (zZ h1 - zZ h) (zA N0))
theorem zPc_blind {D : va_G} {cid : Nat → ClassId} {kv : Nat → Option Nat} {N0 : Nat} {xs : Nat → Int32} {Ls : Nat} {ρ : List Nat} {h : zH} {asR : List Value} : FrameBlind (zPc D cid kv N0 xs Ls ρ h asR) := fun a U g mk q => ⟨q.1, q.2.1, q.2.2.same rfl rfl⟩
theorem zTB_good {w : Cond} (h : w ∈ zTB) : (w.onTables && w.keeps) = true ∨ ∃ ty, w = .arrayClass ty := good_of_word (List.mem_filter.mp h).2
theorem zGood {l : List Cond} (h : ∀ w ∈ l, w ∈ zTB) : GoodIn zTB l := fun w hw => ⟨h w hw, zTB_good (h w hw)⟩
theorem zTB_in {w : Cond} (h1 : w ∈ lw_tbl) (h2 : goodWord w = true) : w ∈ zTB := List.mem_filter.mpr ⟨h1, h2⟩
theorem zTB_c {w : Cond} {l : List Cond} (h : w ∈ zTB) (hl : ∀ w ∈ l, w ∈ zTB) : ∀ v ∈ w :: l, v ∈ zTB := fun v hv => (List.mem_cons.mp hv).elim (fun e => e ▸ h) (hl v)
section SO
variable {p : Program} {l : Launch} {e : Env} {R : Room} {s : State} {m : MethodId} {args : Array Value} {below : List Frame} {meth : Method} {c : Code}
variable {D : va_G} {cid : Nat → ClassId} {kv : Nat → Option Nat} {N0 : Nat} {xs : Nat → Int32} {Ls : Nat} {own : String} {cc : ByteArray} {nL : Nat} {Qf : State → Prop} {ρ0 : List Nat} {n0 z0 nF zE : Nat} {pc nx k t : Nat} {Qq : zQq} {Ca : zCa}
/-- behind a call -/
theorem zback {H : Heap} {locs : List Loc} {cells slots mc ms : Nat} {ls : Array Slot} {st0 rest : List Value} {a : Array Value} {ρ : List Nat} {r : Option Value} {h1 : zH} (hr : va_Run p l e R s m args below meth c H locs cells slots mc ms (F0 m pc ls st0) rest (zQc D cid kv N0 xs Ls ρ r h1 a) (zA N0)) (hS : va_S (zA N0) s.heap H locs) (kk : ∀ (rR : Option Value) (ρ' : List Nat) (H1 : Heap) (locs1 : List Loc), ρ <+: ρ' → zO kv ρ' r rR → zSim D cid kv N0 xs Ls ρ' h1 H1 → va_S (zA N0) s.heap H1 locs1 → W p l e R s m args below meth c H1 locs1 (cells + mc) (slots + ms) Qf (F0 m (pc + 3) ls (rR.toList ++ rest))) : W p l e R s m args below meth c H locs cells slots Qf (F0 m pc ls st0) := by
  intro T hT X
  obtain ⟨v, st₀, t, T', L, h0, X', hL, e1, e2, ⟨⟨rR, ρ', hv, hp, ho, hsim⟩, hz, hk⟩, st⟩ := hr T hT X
  cases hv
  rw [h0] at hz hk
  obtain ⟨t2, a1, b1⟩ := kk v ρ' T'.heap (locs ++ L) hp ho (by rw [e1]; exact hsim) ⟨Nat.le_trans hS.1 (by rw [e1]; exact hz), fun q h1 h2 => by rw [e1, hk q (Nat.lt_of_lt_of_le h1 hS.1) h2]; exact hS.2.1 q h1 h2, fun q hq => by
      rcases List.mem_append.mp hq with h | h
      · exact hS.2.2 q h
      · exact hL q h⟩ T' rfl X'
  exact ⟨t2, st t2 a1, b1⟩
/-- the constants at the heap as it is now -/
theorem zCst_now {H : Heap} {locs : List Loc} {U : State} (hC : zCst D cid kv N0 xs Ls s) (hS : va_S (zA N0) s.heap H locs) (hU : U.heap = H) (hW : s.WarmedH U.vm) : zCst D cid kv N0 xs Ls U :=
  hC.moved hW (by rw [hU]; exact Nat.le_trans hC.2.1 hS.1) (fun q hq => by rw [hU]; exact hS.2.1 q (Nat.lt_of_lt_of_le hq hC.2.1) (Nat.not_le.mpr hq))
theorem zSR_len {ρ : List Nat} : ∀ {a b : List Value}, zSR kv ρ a b → a.length = b.length
  | [], [], _ => rfl
  | _ :: _, _ :: _, h => by simp [zSR_len h.2]
  | [], _ :: _, h => h.elim
  | _ :: _, [], h => h.elim
theorem zSR_app {ρ : List Nat} : ∀ {a b a' b' : List Value}, zSR kv ρ a b → zSR kv ρ a' b' → zSR kv ρ (a ++ a') (b ++ b')
  | [], [], _, _, _, h => h
  | _ :: _, _ :: _, _, _, h, h' => ⟨h.1, zSR_app h.2 h'⟩
  | [], _ :: _, _, _, h, _ => h.elim
  | _ :: _, [], _, _, h, _ => h.elim
theorem zSR_rev {ρ : List Nat} : ∀ {a b : List Value}, zSR kv ρ a b → zSR kv ρ a.reverse b.reverse
  | [], [], _ => trivial
  | _ :: _, _ :: _, h => by
    rw [List.reverse_cons, List.reverse_cons]
    exact zSR_app (zSR_rev h.2) ⟨h.1, trivial⟩
  | [], _ :: _, h => h.elim
  | _ :: _, [], h => h.elim
theorem zSR_td {ρ : List Nat} : ∀ (n : Nat) {a b : List Value}, zSR kv ρ a b → zSR kv ρ (a.take n) (b.take n) ∧ zSR kv ρ (a.drop n) (b.drop n)
  | 0, _, _, h => ⟨trivial, h⟩
  | _ + 1, [], [], _ => ⟨trivial, trivial⟩
  | n + 1, _ :: _, _ :: _, h => by
    obtain ⟨h1, h2⟩ := zSR_td n h.2
    exact ⟨⟨h.1, h1⟩, h2⟩
  | _ + 1, [], _ :: _, h => h.elim
  | _ + 1, _ :: _, [], h => h.elim
theorem zcats : ∀ (r : List Value), (r.map fun v => v.category).sum ≤ 2 * r.length
  | [] => by simp
  | v :: r => by
    have := zcats r
    have h2 : v.category ≤ 2 := by cases v <;> simp [Value.category]
    simp only [List.map_cons, List.sum_cons, List.length_cons]
    omega
/-- a constant -/
theorem zSim_const {h : zH} {ρ : List Nat} {H : Heap} {i : Nat} {v' : Value} (hs : zSim D cid kv N0 xs Ls ρ h H) (hv : zV kv ρ (.ref i) = some v') (hk : 27 ≤ (zT h i).1) : 1000000 ≤ i ∧ i < 1000014 ∧ v' = va_rf (kv (i - 1000000)) := by
  obtain ⟨ws, h1, h2, h3, h4, h5, h6, h7⟩ := hs
  unfold zV at hv
  dsimp only at hv
  split at hv
  · rw [← h1, List.getElem?_map] at hv
    cases hw : ws[i]? with
    | none => rw [hw] at hv; cases hv
    | some q =>
      have g := h7 i q.1 q.2 hw
      rcases g with ⟨g, -⟩ | ⟨-, g, -⟩ | ⟨g, -⟩ | ⟨-, g, -⟩ <;> omega
  · rename_i g1
    split at hv
    · rename_i g2
      cases hv
      exact ⟨Nat.not_lt.mp g1, g2, rfl⟩
    · cases hv
theorem zK_str {h : zH} {ρ : List Nat} {H : Heap} {i : Nat} (hs : zSim D cid kv N0 xs Ls ρ h H) (h1 : 1000000 ≤ i) (h2 : i < 1000014) (hT : (zT h i).1 = 31) : ∃ k, k < 5 ∧ i = 1000003 + k := by
  obtain ⟨-, -, -, -, -, -, ⟨⟨-, k0⟩, ⟨k1, -⟩, ⟨k2, -⟩, ⟨k3, -⟩, k4, k5⟩, -⟩ := hs
  by_cases a1 : i < 1000003
  · rcases (by omega : i = 1000000 ∨ i = 1000001 ∨ i = 1000002) with rfl | rfl | rfl
    · rw [k1] at hT; cases hT
    · rw [k2] at hT; cases hT
    · rw [k3] at hT; cases hT
  · by_cases a2 : i < 1000008
    · exact ⟨i - 1000003, by omega, by omega⟩
    · by_cases a3 : i < 1000013
      · have := (k5 (i - 1000008) (by omega)).1
        rw [show 1000008 + (i - 1000008) = i by omega] at this
        rw [this] at hT; cases hT
      · have e : i = 1000013 := by omega
        subst e
        rw [k0] at hT; cases hT
theorem zK_ints {h : zH} {ρ : List Nat} {H : Heap} {i : Nat} (hs : zSim D cid kv N0 xs Ls ρ h H) (h1 : 1000000 ≤ i) (h2 : i < 1000014) (hT : (zT h i).1 = 30) : i = 1000000 ∨ i = 1000001 ∨ i = 1000002 := by
  obtain ⟨-, -, -, -, -, -, ⟨⟨-, k0⟩, ⟨k1, -⟩, ⟨k2, -⟩, ⟨k3, -⟩, k4, k5⟩, -⟩ := hs
  by_cases a1 : i < 1000003
  · omega
  · by_cases a2 : i < 1000008
    · have := (k4 (i - 1000003) (by omega)).1
      rw [show 1000003 + (i - 1000003) = i by omega] at this
      rw [this] at hT; cases hT
    · by_cases a3 : i < 1000013
      · have := (k5 (i - 1000008) (by omega)).1
        rw [show 1000008 + (i - 1000008) = i by omega] at this
        rw [this] at hT; cases hT
      · have e : i = 1000013 := by omega
        subst e
        rw [k0] at hT; cases hT
theorem zK_bytes {h : zH} {ρ : List Nat} {H : Heap} {i : Nat} (hs : zSim D cid kv N0 xs Ls ρ h H) (h1 : 1000000 ≤ i) (h2 : i < 1000014) (hT : (zT h i).1 = 32) : ∃ k, k < 5 ∧ i = 1000008 + k := by
  obtain ⟨-, -, -, -, -, -, ⟨⟨-, k0⟩, ⟨k1, -⟩, ⟨k2, -⟩, ⟨k3, -⟩, k4, k5⟩, -⟩ := hs
  by_cases a1 : i < 1000003
  · rcases (by omega : i = 1000000 ∨ i = 1000001 ∨ i = 1000002) with rfl | rfl | rfl
    · rw [k1] at hT; cases hT
    · rw [k2] at hT; cases hT
    · rw [k3] at hT; cases hT
  · by_cases a2 : i < 1000008
    · have := (k4 (i - 1000003) (by omega)).1
      rw [show 1000003 + (i - 1000003) = i by omega] at this
      rw [this] at hT; cases hT
    · by_cases a3 : i < 1000013
      · exact ⟨i - 1000008, by omega, by omega⟩
      · have e : i = 1000013 := by omega
        subst e
        rw [k0] at hT; cases hT
/-- a call, by what the kit's run gives -/
theorem zcall_gen {d y : Nat} {nm : MethodName} {bytes : ByteArray} {maxL : Nat} {ret : Option FieldType} {L : zL} {st : List Value} {h : zH} {as rest0 : List Value} (hC : zCst D cid kv N0 xs Ls s) (hM : zMet l D cid kv N0 xs Ls d y nm bytes maxL ret) (hRc : nF - n0 ≤ R.cells) (hRs : zE - z0 ≤ R.slots) (hNF : nF ≤ 1000000) (n : Nat) (hst : (st.take n).reverse = as) (hn : as.length = n) (hrest : st.drop n = rest0)
    (hw : zCall d y as h (fun v h1 => zW p l e R s m args below meth c D cid kv N0 xs Ls nL Qf ρ0 n0 z0 nF zE (pc + 3) L (zpush v rest0) h1))
    (row : ∀ (ls : Array Slot) (asR restR : List Value) (ρ : List Nat) (H : Heap) (locs : List Loc) (cells slots mc ms : Nat) (r : Option Value) (h1 : zH), ls.size = nL → zSR kv ρ as asR → zSR kv ρ rest0 restR → zSim D cid kv N0 xs Ls ρ h H → va_S (zA N0) s.heap H locs → Met l nm (Cond.code nm bytes maxL ret :: zTB) (zRm d mc ms) (zPc D cid kv N0 xs Ls ρ h asR) (zQc D cid kv N0 xs Ls ρ r h1) mc ms (zA N0) → cells + mc ≤ R.cells ∧ slots + ms ≤ R.slots → va_Run p l e R s m args below meth c H locs cells slots mc ms (F0 m pc ls (asR.reverse ++ restR)) restR (zQc D cid kv N0 xs Ls ρ r h1 asR.toArray) (zA N0)) : zW p l e R s m args below meth c D cid kv N0 xs Ls nL Qf ρ0 n0 z0 nF zE pc L st h := by
  obtain ⟨r, h1, g1, g2⟩ := zCall_end d y as h _ hw
  obtain ⟨m1, m2, hMet⟩ := hM as h r h1 g1
  refine ⟨Nat.le_trans m1 g2.1, Nat.le_trans m2 g2.2.1, fun ls stR ρ H locs a1 a2 a3 a4 a5 a6 a7 => ?_⟩
  obtain ⟨q1, q2⟩ := zSR_td n a5
  have q3 := zSR_rev q1
  rw [hst] at q3
  rw [hrest] at q2
  have e1 : stR = (stR.take n).reverse.reverse ++ stR.drop n := by rw [List.reverse_reverse, List.take_append_drop]
  have b1 : zN h1 ≤ nF := g2.1
  have b2 : zZ h1 ≤ zE := g2.2.1
  have run := row ls (stR.take n).reverse (stR.drop n) ρ H locs (zN h - n0) (zZ h - z0) _ _ r h1 a4.2.1 q3 q2 a6 a7 (hMet (by omega) ρ _ q3) ⟨by omega, by omega⟩
  rw [e1]
  refine zback run a7 (fun rR ρ' H1 locs1 p1 p2 p3 p4 => ?_)
  have := g2.2.2 ls (rR.toList ++ stR.drop n) ρ' H1 locs1 (by omega) (by omega) (a3.trans p1) (zLR_up p1 a4) ?_ p3 p4
  · rw [show zN h1 - n0 = zN h - n0 + (zN h1 - zN h) by omega, show zZ h1 - z0 = zZ h - z0 + (zZ h1 - zZ h) by omega] at this
    exact this
  · cases r with
    | none =>
      cases rR with
      | none => exact zSR_up p1 q2
      | some v => exact p2.elim
    | some v =>
      cases rR with
      | none => exact p2.elim
      | some v' => exact ⟨p2, zSR_up p1 q2⟩
theorem zroomR {x : Nat} {ls : Array Slot} {st : List Value} {restR rest0 : List Value} {ρ : List Nat} (h : zSR kv ρ rest0 restR) (h4 : rest0.length ≤ 4) : 2 * (F0 m x ls st).monitorRoom + (restR.map fun v => v.category).sum ≤ 8 := by
  have h1 := zcats restR
  have h2 := zSR_len h
  have h3 := lv_room (m := m) (pc := x) (ls := ls) (rest := st) (st := restR) (by omega)
  exact h3
theorem so_cV {d y n ci index : Nat} {nm : MethodName} {bytes : ByteArray} {maxL : Nat} {ret : Option FieldType} {C : String} {T : u_T} {N : Nat} (S : CallFix p m c cc nL s args zTB own) (hC : zCst D cid kv N0 xs Ls s) (hM : zMet l D cid kv N0 xs Ls d y nm bytes maxL ret) (hRc : nF - n0 ≤ R.cells) (hRs : zE - z0 ≤ R.slots) (hNF : nF ≤ 1000000)
    (cw : ∀ mc ms, CallW R s args own C index nm bytes maxL ret (Cond.code nm bytes maxL ret :: zTB) (zRm d mc ms) mc ms n) (hci : vwCl[ci]? = some (C, T, N)) (hci2 : ci < 20) (hd : decode cc pc = .ok (.invokevirtual index, 3)) : zSo p l e R s m args below meth c D cid kv N0 xs Ls nL Qf ρ0 n0 z0 nF zE Qq (zCall d) pc (op_cV y (n + 1) ci (pc + 3)) := by
  intro L st h hw
  unfold op_cV at hw
  split at hw
  · rename_i a as hst
    split at hw
    · rename_i hT
      obtain ⟨hT, hn, h4⟩ := hT
      refine zcall_gen hC hM hRc hRs hNF (n + 1) hst (by simp; omega) rfl hw (fun ls asR restR ρ H locs cells slots mc ms r h1 b1 b2 b3 b4 b5 b6 b7 => ?_)
      obtain ⟨v', as', rfl, q1, q2⟩ := zSR_c b2
      obtain ⟨ws, ad, e1, rfl, w1, w2, w3, w4, w5, w6⟩ := zSim_ref b4 q1 (by omega)
      obtain ⟨fs, rfl, -, -⟩ := zCR_o (ci := ci) (n := (zT h a).2) (by rw [← hT]) hci2 w5
      refine va_runV S b6 (cw mc ms) ⟨zPc_blind, va_recv hC.1 w2 (ci := ci) (q0 := a) hci w4, fun U hU hW => ⟨rfl, by rw [hU]; exact b4, zCst_now hC b5 hU hW⟩⟩ rfl (by have := zSR_len q2; omega) b1 (by simp) (zroomR b3 h4) hd b7
    · exact hw.elim
  · exact hw.elim
/-- a call of a String constant -/
theorem so_cT {d y n index : Nat} {nm : MethodName} {bytes : ByteArray} {maxL : Nat} {ret : Option FieldType} (S : CallFix p m c cc nL s args zTB own) (hC : zCst D cid kv N0 xs Ls s) (hM : zMet l D cid kv N0 xs Ls d y nm bytes maxL ret) (hRc : nF - n0 ≤ R.cells) (hRs : zE - z0 ≤ R.slots) (hNF : nF ≤ 1000000)
    (cw : ∀ mc ms, CallW R s args own "java/lang/String" index nm bytes maxL ret (Cond.code nm bytes maxL ret :: zTB) (zRm d mc ms) mc ms n) (hd : decode cc pc = .ok (.invokevirtual index, 3)) : zSo p l e R s m args below meth c D cid kv N0 xs Ls nL Qf ρ0 n0 z0 nF zE Qq (zCall d) pc (op_cV y (n + 1) 31 (pc + 3)) := by
  intro L st h hw
  unfold op_cV at hw
  split at hw
  · rename_i a as hst
    split at hw
    · rename_i hT
      obtain ⟨hT, hn, h4⟩ := hT
      refine zcall_gen hC hM hRc hRs hNF (n + 1) hst (by simp; omega) rfl hw (fun ls asR restR ρ H locs cells slots mc ms r h1 b1 b2 b3 b4 b5 b6 b7 => ?_)
      obtain ⟨v', as', rfl, q1, q2⟩ := zSR_c b2
      obtain ⟨c1, c2, rfl⟩ := zSim_const b4 q1 (by omega)
      obtain ⟨k, hk, rfl⟩ := zK_str b4 c1 c2 hT
      obtain ⟨-, -, -, -, -, -, -, -, -, -, adK, adV, hE, hE2⟩ := id hC
      have e3 : kv (1000003 + k - 1000000) = some (adK k) := by rw [show 1000003 + k - 1000000 = 3 + k by omega]; exact (hE2 k hk).1
      rw [e3]
      refine va_runV S b6 (cw mc ms) ⟨zPc_blind, vk_recv hE hk b5, fun U hU hW => ⟨by show _ = _; rw [e3]; rfl, by rw [hU]; exact b4, zCst_now hC b5 hU hW⟩⟩ rfl (by have := zSR_len q2; omega) b1 (by simp; rfl) (zroomR b3 h4) hd b7
    · exact hw.elim
  · exact hw.elim
theorem so_cI {d y n index : Nat} {nm : MethodName} {bytes : ByteArray} {maxL : Nat} (S : CallFix p m c cc nL s args zTB own) (hC : zCst D cid kv N0 xs Ls s) (hM : zMet l D cid kv N0 xs Ls d y nm bytes maxL none) (hRc : nF - n0 ≤ R.cells) (hRs : zE - z0 ≤ R.slots) (hNF : nF ≤ 1000000)
    (cw : ∀ mc ms, CallB R s args own index nm bytes maxL none (Cond.code nm bytes maxL none :: zTB) (zRm d mc ms) mc ms n ∧ nm.name = "<init>" ∧ (Cond.instanceMethod nm).before args s = true) (hd : decode cc pc = .ok (.invokespecial index, 3)) : zSo p l e R s m args below meth c D cid kv N0 xs Ls nL Qf ρ0 n0 z0 nF zE Qq (zCall d) pc (op_cI y (n + 1) (pc + 3)) := by
  intro L st h hw
  unfold op_cI at hw
  split at hw
  · rename_i a as hst
    split at hw
    · rename_i hT
      obtain ⟨hT, hn, h4⟩ := hT
      refine zcall_gen hC hM hRc hRs hNF (n + 1) hst (by simp; omega) rfl hw (fun ls asR restR ρ H locs cells slots mc ms r h1 b1 b2 b3 b4 b5 b6 b7 => ?_)
      obtain ⟨v', as', rfl, q1, q2⟩ := zSR_c b2
      obtain ⟨ws, ad, e1, rfl, w1, w2, w3, w4, w5, w6⟩ := zSim_ref b4 q1 (by omega)
      refine va_runI S b6 (cw mc ms) ⟨zPc_blind, fun U hU hW => ⟨rfl, by rw [hU]; exact b4, zCst_now hC b5 hU hW⟩⟩ rfl (by have := zSR_len q2; omega) b1 (by simp) (zroomR b3 h4) hd b7
    · exact hw.elim
  · exact hw.elim
theorem so_cS {d y n index : Nat} {nm : MethodName} {bytes : ByteArray} {maxL : Nat} {ret : Option FieldType} (S : CallFix p m c cc nL s args zTB own) (hC : zCst D cid kv N0 xs Ls s) (hM : zMet l D cid kv N0 xs Ls d y nm bytes maxL ret) (hRc : nF - n0 ≤ R.cells) (hRs : zE - z0 ≤ R.slots) (hNF : nF ≤ 1000000)
    (cw : ∀ mc ms, CallB R s args own index nm bytes maxL ret (Cond.code nm bytes maxL ret :: zTB) (zRm d mc ms) mc ms n ∧ (Cond.static nm).before args s = true) (hd : decode cc pc = .ok (.invokestatic index, 3)) : zSo p l e R s m args below meth c D cid kv N0 xs Ls nL Qf ρ0 n0 z0 nF zE Qq (zCall d) pc (op_cS y n (pc + 3)) := by
  intro L st h hw
  unfold op_cS at hw
  split at hw
  · rename_i hT
    obtain ⟨hn, h4⟩ := hT
    refine zcall_gen hC hM hRc hRs hNF n rfl (by simp; omega) rfl hw (fun ls asR restR ρ H locs cells slots mc ms r h1 b1 b2 b3 b4 b5 b6 b7 => ?_)
    have hlen := zSR_len b2
    refine va_runS S b6 (cw mc ms) ⟨zPc_blind, fun U hU hW => ⟨rfl, by rw [hU]; exact b4, zCst_now hC b5 hU hW⟩⟩ rfl (by rw [← hlen]; simp; omega) b1 rfl (zroomR b3 h4) hd b7
  · exact hw.elim
theorem so_cSN {d y n index : Nat} {nm : MethodName} {host : String} {bytes : ByteArray} {maxL : Nat} {ret : Option FieldType} (S : CallFix p m c cc nL s args zTB own) (hC : zCst D cid kv N0 xs Ls s) (hM : zMet l D cid kv N0 xs Ls d y nm bytes maxL ret) (hRc : nF - n0 ≤ R.cells) (hRs : zE - z0 ≤ R.slots) (hNF : nF ≤ 1000000)
    (cw : ∀ mc ms, va_CN R s args own index nm host bytes maxL ret (Cond.code nm bytes maxL ret :: zTB) (zRm d mc ms) mc ms n ∧ (Cond.static nm).before args s = true ∧ True) (hd : decode cc pc = .ok (.invokestatic index, 3)) : zSo p l e R s m args below meth c D cid kv N0 xs Ls nL Qf ρ0 n0 z0 nF zE Qq (zCall d) pc (op_cS y n (pc + 3)) := by
  intro L st h hw
  unfold op_cS at hw
  split at hw
  · rename_i hT
    obtain ⟨hn, h4⟩ := hT
    refine zcall_gen hC hM hRc hRs hNF n rfl (by simp; omega) rfl hw (fun ls asR restR ρ H locs cells slots mc ms r h1 b1 b2 b3 b4 b5 b6 b7 => ?_)
    have hlen := zSR_len b2
    refine va_runSN S b6 (cw mc ms) ⟨zPc_blind, fun U hU hW => ⟨rfl, by rw [hU]; exact b4, zCst_now hC b5 hU hW⟩⟩ rfl (by rw [← hlen]; simp; omega) b1 rfl (zroomR b3 h4) hd b7
  · exact hw.elim
theorem so_cIN {d y n index : Nat} {nm : MethodName} {host : String} {bytes : ByteArray} {maxL : Nat} (S : CallFix p m c cc nL s args zTB own) (hC : zCst D cid kv N0 xs Ls s) (hM : zMet l D cid kv N0 xs Ls d y nm bytes maxL none) (hRc : nF - n0 ≤ R.cells) (hRs : zE - z0 ≤ R.slots) (hNF : nF ≤ 1000000)
    (cw : ∀ mc ms, va_CN R s args own index nm host bytes maxL none (Cond.code nm bytes maxL none :: zTB) (zRm d mc ms) mc ms n ∧ nm.name = "<init>" ∧ (Cond.instanceMethod nm).before args s = true) (hd : decode cc pc = .ok (.invokespecial index, 3)) : zSo p l e R s m args below meth c D cid kv N0 xs Ls nL Qf ρ0 n0 z0 nF zE Qq (zCall d) pc (op_cI y (n + 1) (pc + 3)) := by
  intro L st h hw
  unfold op_cI at hw
  split at hw
  · rename_i a as hst
    split at hw
    · rename_i hT
      obtain ⟨hT, hn, h4⟩ := hT
      refine zcall_gen hC hM hRc hRs hNF (n + 1) hst (by simp; omega) rfl hw (fun ls asR restR ρ H locs cells slots mc ms r h1 b1 b2 b3 b4 b5 b6 b7 => ?_)
      obtain ⟨v', as', rfl, q1, q2⟩ := zSR_c b2
      obtain ⟨ws, ad, e1, rfl, w1, w2, w3, w4, w5, w6⟩ := zSim_ref b4 q1 (by omega)
      refine va_runIN S b6 (cw mc ms) ⟨zPc_blind, fun U hU hW => ⟨rfl, by rw [hU]; exact b4, zCst_now hC b5 hU hW⟩⟩ rfl (by have := zSR_len q2; omega) b1 (by simp) (zroomR b3 h4) hd b7
    · exact hw.elim
  · exact hw.elim
theorem hS_at {H : Heap} {locs : List Loc} {q : Nat} (hS : va_S (zA N0) s.heap H locs) (h1 : q < s.heap.size) (h2 : ¬ zA N0 q) : H[q]? = s.heap[q]? := hS.2.1 q h1 h2
theorem zT_at {ty : FieldType} {b n : Nat} {f : Nat → Value} {H : Heap} {locs : List Loc} (h : va_T ty b n f (zA N0) s s.heap) (hS : va_S (zA N0) s.heap H locs) : va_T ty b n f (zA N0) s H := h.kept (fun a ha hn => hS.2.1 a ha hn)
theorem so_iaI (hx : p.tables.exec = Jvm.exec) (hb : c.code = cc) (hC : zCst D cid kv N0 xs Ls s) (hd : decode cc pc = .ok (.iaload, 1)) : zSo p l e R s m args below meth c D cid kv N0 xs Ls nL Qf ρ0 n0 z0 nF zE Qq Ca pc (op_ia 30 (pc + 1)) := by
  intro L st h hw
  unfold op_ia at hw
  split at hw
  · rename_i x b st
    split at hw
    · rename_i hT
      obtain ⟨hT, hi⟩ := hT
      refine zW_step hw (fun ls stR ρ H locs _ _ a4 a5 a6 a7 kk => ?_)
      obtain ⟨t1, rfl, g2⟩ := zSR_i a5
      obtain ⟨v', t', rfl, g3, g4⟩ := zSR_c g2
      obtain ⟨c1, c2, rfl⟩ := zSim_const a6 g3 (by omega)
      have hk := zK_ints a6 c1 c2 hT
      have kk2 := kk ls (.int (zI h b x.toNatClampNeg) :: t') a4 ⟨rfl, g4⟩
      obtain ⟨-, -, -, -, -, -, ⟨-, ⟨k1, k1'⟩, ⟨k2, k2'⟩, ⟨k3, k3'⟩, -, -⟩, -⟩ := a6
      obtain ⟨-, hN, -, -, -, ⟨b0, b1, b2, b3⟩, ⟨t2, t3, -, t4⟩, ⟨u2, u3, -, u4⟩, -⟩ := hC
      rcases hk with rfl | rfl | rfl
      · rw [k1] at hi
        rw [k1' _ hi.2] at kk2
        rw [show kv (1000000 - 1000000) = some b0 from b1]
        obtain ⟨scr, s1, s2, s3, s4, s5⟩ := b3
        exact W.iald (v := .int (xs x.toNatClampNeg)) hx hb (by rw [hS_at a7 (Nat.lt_of_lt_of_le b2 hN) (Nat.not_le.mpr b2)]; exact s1) s2 s3 (by rw [s4]; exact zin_vp hi) (s5 _ hi.2) rfl rfl hd kk2
      · rw [k2] at hi
        rw [k2' _ hi.2] at kk2
        rw [show kv (1000001 - 1000000) = some t2 from t3]
        obtain ⟨cell, s1, s2, s3, s4, s5, s6, s7⟩ := zT_at t4 a7
        exact W.iald (v := .int (zkA.getD x.toNatClampNeg 0)) hx hb s1 s2 s3 (fun q => q.elim hi.1 (fun q => absurd hi.2 (by show ¬ x.toNatClampNeg < 7; omega))) (s6 _ hi.2) rfl rfl hd kk2
      · rw [k3] at hi
        rw [k3' _ hi.2] at kk2
        rw [show kv (1000002 - 1000000) = some u2 from u3]
        obtain ⟨cell, s1, s2, s3, s4, s5, s6, s7⟩ := zT_at u4 a7
        exact W.iald (v := .int (zkB.getD x.toNatClampNeg 0)) hx hb s1 s2 s3 (fun q => q.elim hi.1 (fun q => absurd hi.2 (by show ¬ x.toNatClampNeg < 21; omega))) (s6 _ hi.2) rfl rfl hd kk2
    · exact hw.elim
  · exact hw.elim
theorem zkS_len : ∀ k, k < 5 → (zkS.map List.length).getD k 0 = (zkS.getD k []).length := by decide +kernel
theorem so_iaB (hx : p.tables.exec = Jvm.exec) (hb : c.code = cc) (hC : zCst D cid kv N0 xs Ls s) (hd : decode cc pc = .ok (.baload, 1)) : zSo p l e R s m args below meth c D cid kv N0 xs Ls nL Qf ρ0 n0 z0 nF zE Qq Ca pc (op_ia 32 (pc + 1)) := by
  intro L st h hw
  unfold op_ia at hw
  split at hw
  · rename_i x b st
    split at hw
    · rename_i hT
      obtain ⟨hT, hi⟩ := hT
      refine zW_step hw (fun ls stR ρ H locs _ _ a4 a5 a6 a7 kk => ?_)
      obtain ⟨t1, rfl, g2⟩ := zSR_i a5
      obtain ⟨v', t', rfl, g3, g4⟩ := zSR_c g2
      obtain ⟨c1, c2, rfl⟩ := zSim_const a6 g3 (by omega)
      obtain ⟨k, hk, rfl⟩ := zK_bytes a6 c1 c2 hT
      have kk2 := kk ls (.int (zI h (1000008 + k) x.toNatClampNeg) :: t') a4 ⟨rfl, g4⟩
      obtain ⟨-, -, -, -, -, -, ⟨-, -, -, -, -, k5⟩, -⟩ := a6
      obtain ⟨-, -, -, -, -, -, -, -, -, -, adK, adV, hE, hE2⟩ := hC
      obtain ⟨k6, k7⟩ := k5 k hk
      rw [k6] at hi
      rw [k7 _ hi.2] at kk2
      rw [show kv (1000008 + k - 1000000) = some (adV k) by rw [show 1000008 + k - 1000000 = 8 + k by omega]; exact (hE2 k hk).2.1]
      obtain ⟨cell, s1, s2, s3, s4, s5, s6, s7⟩ := zT_at (hE.1 k hk).2.2.2 a7
      rw [zkS_len k hk] at s4 s6
      exact W.bald (v := .int ((zkS.getD k []).getD x.toNatClampNeg 0)) hx hb s1 s2 s3 (fun q => q.elim hi.1 (fun q => absurd hi.2 (by show ¬ x.toNatClampNeg < (zkS.getD k []).length; omega))) (s6 _ hi.2) rfl rfl hd kk2
    · exact hw.elim
  · exact hw.elim
theorem so_lenI (hx : p.tables.exec = Jvm.exec) (hb : c.code = cc) (hC : zCst D cid kv N0 xs Ls s) (hd : decode cc pc = .ok (.arraylength, 1)) : zSo p l e R s m args below meth c D cid kv N0 xs Ls nL Qf ρ0 n0 z0 nF zE Qq Ca pc (op_len 30 (pc + 1)) := by
  intro L st h hw
  unfold op_len at hw
  split at hw
  · rename_i b st
    split at hw
    · rename_i hT
      refine zW_step hw (fun ls stR ρ H locs _ _ a4 a5 a6 a7 kk => ?_)
      obtain ⟨v', t', rfl, g3, g4⟩ := zSR_c a5
      obtain ⟨c1, c2, rfl⟩ := zSim_const a6 g3 (by omega)
      have hk := zK_ints a6 c1 c2 hT
      have kk2 := kk ls (.int (Int32.ofNat (zT h b).2) :: t') a4 ⟨rfl, g4⟩
      obtain ⟨-, -, -, -, -, -, ⟨-, ⟨k1, k1'⟩, ⟨k2, k2'⟩, ⟨k3, k3'⟩, -, -⟩, -⟩ := a6
      obtain ⟨-, hN, -, -, -, ⟨b0, b1, b2, b3⟩, ⟨t2, t3, -, t4⟩, ⟨u2, u3, -, u4⟩, -⟩ := hC
      rcases hk with rfl | rfl | rfl
      · rw [k1] at kk2
        rw [show kv (1000000 - 1000000) = some b0 from b1]
        obtain ⟨scr, s1, s2, s3, s4, s5⟩ := b3
        exact W.alen (n := Int32.ofNat Ls) hx hb (by rw [hS_at a7 (Nat.lt_of_lt_of_le b2 hN) (Nat.not_le.mpr b2)]; exact s1) s2 (by rw [s4] <;> rfl) rfl rfl hd kk2
      · rw [k2] at kk2
        rw [show kv (1000001 - 1000000) = some t2 from t3]
        obtain ⟨cell, s1, s2, s3, s4, s5, s6, s7⟩ := zT_at t4 a7
        exact W.alen hx hb s1 s2 s5 rfl rfl hd kk2
      · rw [k3] at kk2
        rw [show kv (1000002 - 1000000) = some u2 from u3]
        obtain ⟨cell, s1, s2, s3, s4, s5, s6, s7⟩ := zT_at u4 a7
        exact W.alen hx hb s1 s2 s5 rfl rfl hd kk2
    · exact hw.elim
  · exact hw.elim
theorem so_lenB (hx : p.tables.exec = Jvm.exec) (hb : c.code = cc) (hC : zCst D cid kv N0 xs Ls s) (hd : decode cc pc = .ok (.arraylength, 1)) : zSo p l e R s m args below meth c D cid kv N0 xs Ls nL Qf ρ0 n0 z0 nF zE Qq Ca pc (op_len 32 (pc + 1)) := by
  intro L st h hw
  unfold op_len at hw
  split at hw
  · rename_i b st
    split at hw
    · rename_i hT
      refine zW_step hw (fun ls stR ρ H locs _ _ a4 a5 a6 a7 kk => ?_)
      obtain ⟨v', t', rfl, g3, g4⟩ := zSR_c a5
      obtain ⟨c1, c2, rfl⟩ := zSim_const a6 g3 (by omega)
      obtain ⟨k, hk, rfl⟩ := zK_bytes a6 c1 c2 hT
      have kk2 := kk ls (.int (Int32.ofNat (zT h (1000008 + k)).2) :: t') a4 ⟨rfl, g4⟩
      obtain ⟨-, -, -, -, -, -, ⟨-, -, -, -, -, k5⟩, -⟩ := a6
      obtain ⟨-, -, -, -, -, -, -, -, -, -, adK, adV, hE, hE2⟩ := hC
      obtain ⟨k6, k7⟩ := k5 k hk
      rw [k6] at kk2
      rw [show kv (1000008 + k - 1000000) = some (adV k) by rw [show 1000008 + k - 1000000 = 8 + k by omega]; exact (hE2 k hk).2.1]
      obtain ⟨cell, s1, s2, s3, s4, s5, s6, s7⟩ := zT_at (hE.1 k hk).2.2.2 a7
      rw [zkS_len k hk] at s5
      exact W.alen hx hb s1 s2 s5 rfl rfl hd kk2
    · exact hw.elim
  · exact hw.elim
/-- a String constant's bytes -/
theorem so_sv {index : Nat} (S : CallFix p m c cc nL s args zTB own) (hC : zCst D cid kv N0 xs Ls s) (hl : (Cond.fieldLink own index "java/lang/String" "value" "[B").before args s = true) (hd : decode cc pc = .ok (.getfield index, 3)) : zSo p l e R s m args below meth c D cid kv N0 xs Ls nL Qf ρ0 n0 z0 nF zE Qq Ca pc (op_sv (pc + 3)) := by
  intro L st h hw
  unfold op_sv at hw
  split at hw
  · rename_i b st
    split at hw
    · rename_i hT
      refine zW_step hw (fun ls stR ρ H locs _ _ a4 a5 a6 a7 kk => ?_)
      obtain ⟨v', t', rfl, g3, g4⟩ := zSR_c a5
      obtain ⟨c1, c2, rfl⟩ := zSim_const a6 g3 (by omega)
      obtain ⟨k, hk, rfl⟩ := zK_str a6 c1 c2 hT
      obtain ⟨-, -, -, -, -, -, ⟨-, -, -, -, k4, -⟩, -⟩ := id a6
      obtain ⟨-, -, -, -, -, -, -, -, -, -, adK, adV, hE, hE2⟩ := id hC
      rw [show kv (1000003 + k - 1000000) = some (adK k) by rw [show 1000003 + k - 1000000 = 3 + k by omega]; exact (hE2 k hk).1]
      refine vk_getf S.1 S.2.1 (hE.1 k hk).2.2.1 a7 S.2.2.2.1 hl (fun _ h => h) hd (kk ls _ a4 ⟨?_, g4⟩)
      rw [(k4 k hk).2]
      unfold zV
      dsimp only
      rw [if_neg (show ¬ 1000008 + k < 1000000 by omega), if_pos (show 1000008 + k < 1000014 by omega), show 1000008 + k - 1000000 = 8 + k by omega, (hE2 k hk).2.1]
      rfl
    · exact hw.elim
  · exact hw.elim
theorem so_sc {index : Nat} (S : CallFix p m c cc nL s args zTB own) (hC : zCst D cid kv N0 xs Ls s) (hl : (Cond.fieldLink own index "java/lang/String" "coder" "B").before args s = true) (hd : decode cc pc = .ok (.getfield index, 3)) : zSo p l e R s m args below meth c D cid kv N0 xs Ls nL Qf ρ0 n0 z0 nF zE Qq Ca pc (op_sc (pc + 3)) := by
  intro L st h hw
  unfold op_sc at hw
  split at hw
  · rename_i b st
    split at hw
    · rename_i hT
      refine zW_step hw (fun ls stR ρ H locs _ _ a4 a5 a6 a7 kk => ?_)
      obtain ⟨v', t', rfl, g3, g4⟩ := zSR_c a5
      obtain ⟨c1, c2, rfl⟩ := zSim_const a6 g3 (by omega)
      obtain ⟨k, hk, rfl⟩ := zK_str a6 c1 c2 hT
      obtain ⟨-, -, -, -, -, -, -, -, -, -, adK, adV, hE, hE2⟩ := id hC
      rw [show kv (1000003 + k - 1000000) = some (adK k) by rw [show 1000003 + k - 1000000 = 3 + k by omega]; exact (hE2 k hk).1]
      exact vk_getf S.1 S.2.1 (hE.1 k hk).2.1 a7 S.2.2.2.1 hl (fun _ h => h) hd (kk ls _ a4 ⟨rfl, g4⟩)
    · exact hw.elim
  · exact hw.elim
/-- ifnull, ifnonnull -/
theorem so_nul (row0 : ∀ (ls : Array Slot) (stR : List Value) (H : Heap) (locs : List Loc) (cells slots : Nat), W p l e R s m args below meth c H locs cells slots Qf (F0 m t ls stR) → W p l e R s m args below meth c H locs cells slots Qf (F0 m pc ls (.null :: stR))) (row1 : ∀ (ls : Array Slot) (stR : List Value) (H : Heap) (locs : List Loc) (cells slots : Nat) (a : Nat), W p l e R s m args below meth c H locs cells slots Qf (F0 m nx ls stR) → W p l e R s m args below meth c H locs cells slots Qf (F0 m pc ls (.ref a :: stR))) : zSo p l e R s m args below meth c D cid kv N0 xs Ls nL Qf ρ0 n0 z0 nF zE Qq Ca pc (op_nul t nx) := by
  intro L st h hw
  unfold op_nul at hw
  split at hw
  · refine zW_step hw (fun ls stR ρ H locs _ _ a4 a5 a6 a7 kk => ?_)
    obtain ⟨t', rfl, h2⟩ := zSR_n a5
    exact row0 ls t' H locs _ _ (kk ls _ a4 h2)
  · rename_i i st
    split at hw
    · rename_i hT
      refine zW_step hw (fun ls stR ρ H locs _ _ a4 a5 a6 a7 kk => ?_)
      obtain ⟨v', t', rfl, h1, h2⟩ := zSR_c a5
      obtain ⟨ws, ad, e1, rfl, w1, w2, w3, w4, w5, w6⟩ := zSim_ref a6 h1 (by omega)
      exact row1 ls t' H locs _ _ ad (kk ls _ a4 h2)
    · exact hw.elim
  · exact hw.elim
/-- Object's constructor -/
theorem so_oi (row : ∀ (ls : Array Slot) (H : Heap) (locs : List Loc) (cells slots a : Nat), ls.size = nL → W p l e R s m args below meth c H locs cells slots Qf (F0 m nx ls []) → W p l e R s m args below meth c H locs cells slots Qf (F0 m pc ls [.ref a])) : zSo p l e R s m args below meth c D cid kv N0 xs Ls nL Qf ρ0 n0 z0 nF zE Qq Ca pc (op_oi nx) := by
  intro L st h hw
  unfold op_oi at hw
  split at hw
  · rename_i i
    split at hw
    · rename_i hT
      refine zW_step hw (fun ls stR ρ H locs _ _ a4 a5 a6 a7 kk => ?_)
      obtain ⟨v', t', rfl, h1, h2⟩ := zSR_c a5
      obtain ⟨ws, ad, e1, rfl, w1, w2, w3, w4, w5, w6⟩ := zSim_ref a6 h1 (by omega)
      rw [zSR_0 h2]
      exact row ls H locs _ _ ad a4.2.1 (kk ls _ a4 trivial)
    · exact hw.elim
  · exact hw.elim
/-- Math.min, Math.max -/
theorem so_mm {f : Int32 → Int32 → Int32} (hRc : nF - n0 ≤ R.cells) (hRs : zE - z0 ≤ R.slots) (row : ∀ (ls : Array Slot) (stR : List Value) (H : Heap) (locs : List Loc) (cells slots : Nat) (x y : Int32), ls.size = nL → (stR.map fun v => v.category).sum ≤ 8 → cells ≤ R.cells → slots ≤ R.slots → W p l e R s m args below meth c H locs cells slots Qf (F0 m nx ls (.int (f x y) :: stR)) → W p l e R s m args below meth c H locs cells slots Qf (F0 m pc ls (.int y :: .int x :: stR))) : zSo p l e R s m args below meth c D cid kv N0 xs Ls nL Qf ρ0 n0 z0 nF zE Qq Ca pc (op_mm f nx) := by
  intro L st h hw
  unfold op_mm at hw
  split at hw
  · split at hw
    · rename_i h4
      refine ⟨hw.1, hw.2.1, fun ls stR ρ H locs a1 a2 a3 a4 a5 a6 a7 => ?_⟩
      obtain ⟨t1, rfl, h1⟩ := zSR_i a5
      obtain ⟨t', rfl, h2⟩ := zSR_i h1
      have b1 : zN h ≤ nF := hw.1
      have b2 : zZ h ≤ zE := hw.2.1
      exact row ls t' H locs _ _ _ _ a4.2.1 (by have := zcats t'; have := zSR_len h2; omega) (by omega) (by omega) (hw.2.2 ls _ ρ H locs a1 a2 a3 a4 ⟨rfl, h2⟩ a6 a7)
    · exact hw.elim
  · exact hw.elim
/-- System.arraycopy of longs -/
theorem so_cp (row : ∀ (ls : Array Slot) (H : Heap) (locs : List Loc) (cells slots : Nat) (ws : va_W) (q0 q1 a0 a1 l0 l1 : Nat) (f g : Nat → Int64) (sp dp n : Int32), ls.size = nL → va_P D vwCl ws H → va_D (zA N0) ws → va_S (zA N0) s.heap H locs → ws[q0]? = some (a0, .inl (cid 24, l0, .inr (.inl f))) → ws[q1]? = some (a1, .inl (cid 24, l1, .inr (.inl g))) → ¬ sp < 0 → ¬ dp < 0 → ¬ n < 0 → sp.toNatClampNeg + n.toNatClampNeg ≤ l0 → dp.toNatClampNeg + n.toNatClampNeg ≤ l1 → (∀ (H1 : Heap) (locs1 : List Loc), va_P D vwCl (ws.set q1 (a1, .inl (cid 24, l1, .inr (.inl (va_cpy f g sp.toNatClampNeg dp.toNatClampNeg n.toNatClampNeg))))) H1 → va_D (zA N0) (ws.set q1 (a1, .inl (cid 24, l1, .inr (.inl (va_cpy f g sp.toNatClampNeg dp.toNatClampNeg n.toNatClampNeg))))) → va_S (zA N0) s.heap H1 locs1 → W p l e R s m args below meth c H1 locs1 cells slots Qf (F0 m nx ls [])) → W p l e R s m args below meth c H locs cells slots Qf (F0 m pc ls [.int n, .int dp, .ref a1, .int sp, .ref a0])) : zSo p l e R s m args below meth c D cid kv N0 xs Ls nL Qf ρ0 n0 z0 nF zE Qq Ca pc (op_cp nx) := by
  intro L st h hw
  unfold op_cp at hw
  split at hw
  · rename_i n dp b1 sp b0
    split at hw
    · rename_i hT
      obtain ⟨hT0, hT1, k1, k2, k3, k4, k5⟩ := hT
      refine ⟨hw.1, hw.2.1, fun ls stR ρ H locs a1 a2 a3 a4 a5 a6 a7 => ?_⟩
      obtain ⟨t1, rfl, h1⟩ := zSR_i a5
      obtain ⟨t2, rfl, h2⟩ := zSR_i h1
      obtain ⟨v3, t3, rfl, h3, h4⟩ := zSR_c h2
      obtain ⟨t4, rfl, h5⟩ := zSR_i h4
      obtain ⟨v5, t5, rfl, h6, h7⟩ := zSR_c h5
      rw [zSR_0 h7]
      obtain ⟨ws, ad, e1, rfl, w1, w2, w3, w4, w5, w6⟩ := zSim_ref a6 h3 (by omega)
      have e2 := zCR_j hT1 w5
      subst e2
      obtain ⟨ad0, e0, rfl, w0⟩ := zSim_at (h := h) (xs := xs) (Ls := Ls) (by obtain ⟨_, _, _, _, _, _, q, _⟩ := a6; exact q) w1 h6 (by omega)
      have e3 := zCR_j hT0 (w6 _ _ _ w0)
      subst e3
      refine row ls H locs _ _ ws b0 b1 ad0 ad _ _ _ _ sp dp n a4.2.1 w2 w3 a7 w0 w4 k1 k2 k3 k4 k5 (fun H1 locs1 p1 d1 s1 => hw.2.2 ls [] ρ H1 locs1 a1 a2 a3 a4 trivial (zSim_set a6 w1 w4 w6 p1 d1 rfl rfl (fun j hj => ⟨rfl, by rw [zJ_wJr, if_neg hj], rfl⟩) (Or.inr (Or.inr (Or.inl ⟨by rw [zT_wJr, hT1], ?_⟩)))) s1)
      rw [zT_wJr, zJ_wJr, if_pos rfl]
    · exact hw.elim
  · exact hw.elim
/-- a world that has grown by one cell -/
theorem zSim_new {h : zH} {ρ : List Nat} {H H1 : Heap} {ws : va_W} {q : Nat} {e' : va_E} {t : Nat × Nat} (hs : zSim D cid kv N0 xs Ls ρ h H) (hρ : ws.map Prod.fst = ρ) (hC : ∀ (j b : Nat) (e' : va_E), ws[j]? = some (b, e') → zCR cid kv ρ h j e') (hP : va_P D vwCl (ws ++ [(q, e')]) H1) (hD : va_D (zA N0) (ws ++ [(q, e')])) (hN : zN h + 1 ≤ 1000000) (he : zCR cid kv (ρ ++ [q]) (wN h t) (zN h) e') : zSim D cid kv N0 xs Ls (ρ ++ [q]) (wN h t) H1 := by
  obtain ⟨ws0, h1, -, -, h4, h5, h6, -⟩ := hs
  have hlen : ws.length = zN h := by rw [← h4, ← hρ, List.length_map]
  refine ⟨ws ++ [(q, e')], by rw [List.map_append, hρ]; rfl, hP, hD, by rw [List.length_append, h4]; rfl, hN, ?_, fun j b e2 hj => ?_⟩
  · obtain ⟨⟨k1, k0⟩, ⟨k2, k3⟩, ⟨k4, k5⟩, ⟨k6, k7⟩, k8, k9⟩ := h6
    have hT : ∀ i, 1000000 ≤ i → zT (wN h t) i = zT h i := fun i hi => by rw [zT_wN, if_neg (by omega)]
    have hI : ∀ i, 1000000 ≤ i → zI (wN h t) i = zI h i := fun i hi => by rw [zI_wN, if_neg (by omega)]
    have hR : ∀ i, 1000000 ≤ i → zR (wN h t) i = zR h i := fun i hi => by rw [zR_wN, if_neg (by omega)]
    refine ⟨⟨fun j g1 g2 => by rw [hT j g1]; exact k1 j g1 g2, by rw [hT _ (by omega)]; exact k0⟩, ⟨by rw [hT _ (by omega)]; exact k2, fun j hj => by rw [hI _ (by omega)]; exact k3 j hj⟩, ⟨by rw [hT _ (by omega)]; exact k4, fun j hj => by rw [hI _ (by omega)]; exact k5 j hj⟩, ⟨by rw [hT _ (by omega)]; exact k6, fun j hj => by rw [hI _ (by omega)]; exact k7 j hj⟩, fun q hq => ⟨by rw [hT _ (by omega)]; exact (k8 q hq).1, by rw [hR _ (by omega)]; exact (k8 q hq).2⟩, fun q hq => ⟨by rw [hT _ (by omega)]; exact (k9 q hq).1, fun j hj => by rw [hI _ (by omega)]; exact (k9 q hq).2 j hj⟩⟩
  · by_cases hl : j < ws.length
    · rw [List.getElem?_append_left hl] at hj
      have hne : j ≠ zN h := by omega
      exact zCR_eq (zCR_up (List.prefix_append ρ [q]) (hC j b e2 hj)) (by rw [zT_wN, if_neg hne]) (by rw [zI_wN, if_neg hne]) (by rw [zJ_wN, if_neg hne]) (by rw [zR_wN, if_neg hne])
    · rw [List.getElem?_append_right (by omega)] at hj
      have hz : j - ws.length < 1 := (List.getElem?_eq_some_iff.mp hj).1
      have e0 : j = zN h := by omega
      rw [show j - ws.length = 0 by omega] at hj
      cases hj
      subst e0
      exact he
theorem zV_new {ρ : List Nat} {q : Nat} {n : Nat} (hl : ρ.length = n) (hn : n < 1000000) : zV kv (ρ ++ [q]) (.ref n) = some (.ref q) := by
  unfold zV
  dsimp only
  rw [if_pos hn, List.getElem?_append_right (by omega), hl, Nat.sub_self]
  rfl
/-- an object's fields when it is new -/
def znew (ci n : Nat) : List Value := (List.range n).map (fun j => if zrf ci j = true then .null else .int 0)
theorem so_new {ci n : Nat} (hc : ci < 20) (hNF : nF ≤ 1000000) (hRc : nF - n0 ≤ R.cells) (hRs : zE - z0 ≤ R.slots) (row : ∀ (ls : Array Slot) (stR : List Value) (H : Heap) (locs : List Loc) (cells slots : Nat) (ws : va_W), va_P D vwCl ws H → va_D (zA N0) ws → va_S (zA N0) s.heap H locs → cells + 1 ≤ R.cells → slots + n ≤ R.slots → (∀ (q : Nat) (H1 : Heap), va_P D vwCl (ws ++ [(q, .inr (ci, znew ci n))]) H1 → va_D (zA N0) (ws ++ [(q, .inr (ci, znew ci n))]) → va_S (zA N0) s.heap H1 locs → W p l e R s m args below meth c H1 locs (cells + 1) (slots + n) Qf (F0 m nx ls (.ref q :: stR))) → W p l e R s m args below meth c H locs cells slots Qf (F0 m pc ls stR)) : zSo p l e R s m args below meth c D cid kv N0 xs Ls nL Qf ρ0 n0 z0 nF zE Qq Ca pc (op_new ci n nx) := by
  intro L st h hw
  have b1 : zN h + 1 ≤ nF := hw.1
  have b2 : zZ h + n ≤ zE := hw.2.1
  refine ⟨by omega, by omega, fun ls stR ρ H locs a1 a2 a3 a4 a5 a6 a7 => ?_⟩
  obtain ⟨ws, w1, w2, w3, w4, w5, w6, w7⟩ := id a6
  refine row ls stR H locs _ _ ws w2 w3 a7 (by omega) (by omega) (fun q H1 p1 d1 s1 => ?_)
  have := hw.2.2 ls (.ref q :: stR) (ρ ++ [q]) H1 locs (by show n0 ≤ zN h + 1; omega) (by show z0 ≤ zZ h + n; omega) (a3.trans (List.prefix_append ρ [q])) (zLR_up (List.prefix_append ρ [q]) a4) ⟨zV_new w4 (by omega), zSR_up (List.prefix_append ρ [q]) a5⟩ (zSim_new a6 w1 w7 p1 d1 (by omega) (Or.inl ?_)) s1
  · rw [show zN (wN h (ci, n)) - n0 = zN h - n0 + 1 by show zN h + 1 - n0 = _; omega, show zZ (wN h (ci, n)) - z0 = zZ h - z0 + n by show zZ h + n - z0 = _; omega] at this
    exact this
  · rw [zT_wN, if_pos rfl]
    refine ⟨hc, _, rfl, by simp [znew], fun j v' hj => ?_⟩
    have hjl : j < n := by
      have := (List.getElem?_eq_some_iff.mp hj).1
      simpa [znew] using this
    have e1 : (znew ci n)[j]? = some (if zrf ci j = true then .null else .int 0) := by simp [znew, hjl]
    rw [e1] at hj
    cases hj
    dsimp only
    rw [zR_wN, if_pos rfl, zI_wN, if_pos rfl]
    by_cases hz : zrf ci j = true
    · rw [if_pos hz, if_pos hz]; exact ⟨rfl, Or.inr rfl⟩
    · rw [if_neg hz, if_neg hz]
/-- a new row -/
theorem so_naW {kd : Nat} {mk : Nat → va_E} (hNF : nF ≤ 1000000) (hRc : nF - n0 ≤ R.cells) (hRs : zE - z0 ≤ R.slots) (hmk : ∀ (ρ : List Nat) (h : zH) (N : Nat), zCR cid kv ρ (wN h (kd, N)) (zN h) (mk N)) (row : ∀ (ls : Array Slot) (stR : List Value) (H : Heap) (locs : List Loc) (cells slots : Nat) (ws : va_W) (n : Int32), ¬ n < 0 → n.toNatClampNeg ≤ 1000 → va_P D vwCl ws H → va_D (zA N0) ws → va_S (zA N0) s.heap H locs → cells + 1 ≤ R.cells → slots + n.toNatClampNeg ≤ R.slots → (∀ (q : Nat) (H1 : Heap), va_P D vwCl (ws ++ [(q, mk n.toNatClampNeg)]) H1 → va_D (zA N0) (ws ++ [(q, mk n.toNatClampNeg)]) → va_S (zA N0) s.heap H1 locs → W p l e R s m args below meth c H1 locs (cells + 1) (slots + n.toNatClampNeg) Qf (F0 m nx ls (.ref q :: stR))) → W p l e R s m args below meth c H locs cells slots Qf (F0 m pc ls (.int n :: stR))) : zSo p l e R s m args below meth c D cid kv N0 xs Ls nL Qf ρ0 n0 z0 nF zE Qq Ca pc (op_na kd nx) := by
  intro L st h hw
  unfold op_na at hw
  split at hw
  · rename_i n st
    split at hw
    · rename_i hn
      have b1 : zN h + 1 ≤ nF := hw.1
      have b2 : zZ h + n.toNatClampNeg ≤ zE := hw.2.1
      refine ⟨by omega, by omega, fun ls stR ρ H locs a1 a2 a3 a4 a5 a6 a7 => ?_⟩
      obtain ⟨t', rfl, h2⟩ := zSR_i a5
      obtain ⟨ws, w1, w2, w3, w4, w5, w6, w7⟩ := id a6
      refine row ls t' H locs _ _ ws n hn.1 hn.2 w2 w3 a7 (by omega) (by omega) (fun q H1 p1 d1 s1 => ?_)
      have := hw.2.2 ls (.ref q :: t') (ρ ++ [q]) H1 locs (by show n0 ≤ zN h + 1; omega) (by show z0 ≤ zZ h + n.toNatClampNeg; omega) (a3.trans (List.prefix_append ρ [q])) (zLR_up (List.prefix_append ρ [q]) a4) ⟨zV_new w4 (by omega), zSR_up (List.prefix_append ρ [q]) h2⟩ (zSim_new a6 w1 w7 p1 d1 (by omega) (hmk _ h _)) s1
      rw [show zN (wN h (kd, n.toNatClampNeg)) - n0 = zN h - n0 + 1 by show zN h + 1 - n0 = _; omega, show zZ (wN h (kd, n.toNatClampNeg)) - z0 = zZ h - z0 + n.toNatClampNeg by show zZ h + n.toNatClampNeg - z0 = _; omega] at this
      exact this
    · exact hw.elim
  · exact hw.elim
theorem zcid {kd : Nat} {ty : FieldType} {cA : ClassId} (hK : va_K D vwCl (zTys cid) s) (hi : (zTys cid)[kd - 20]? = some (cid kd, ty)) (hA : va_K D vwCl (zTys cid ++ [(cA, ty)]) s) (hty : (∃ C, ty = .object C) ∨ ∀ C, ty ≠ .object C) : cA = cid kd := by
  have h1 := (hK.2 _ _ hi).2
  have h2 := (hA.2 (zTys cid).length (cA, ty) (by rw [List.getElem?_append_right (Nat.le_refl _), Nat.sub_self]; rfl)).2
  rcases hty with ⟨C, rfl⟩ | h
  · obtain ⟨_, _, _, _, _, g1⟩ := h1
    obtain ⟨_, _, _, _, _, g2⟩ := h2
    exact Option.some.inj (g2.symm.trans g1)
  · cases ty <;> first | exact absurd rfl (h _) | exact Option.some.inj (h2.symm.trans h1)
theorem so_naI {kd : Nat} {ty : FieldType} {atype : ArrayType} (S : CallFix p m c cc nL s args zTB own) (hC : zCst D cid kv N0 xs Ls s) (h0 : 20 ≤ kd) (h1 : kd < 24) (hi : (zTys cid)[kd - 20]? = some (cid kd, ty)) (hty : newarray.typeOf atype = ty) (hne : ∀ C, ty ≠ .object C) (hcb : componentBytes ty ≤ 8) (hdv : defaultValue ty = .int 0) (harr : (Cond.arrayClass (newarray.typeOf atype)).before args s = true) (hNF : nF ≤ 1000000) (hRc : nF - n0 ≤ R.cells) (hRs : zE - z0 ≤ R.slots) (hd : decode cc pc = .ok (.newarray atype, 2)) : zSo p l e R s m args below meth c D cid kv N0 xs Ls nL Qf ρ0 n0 z0 nF zE Qq Ca pc (op_na kd (pc + 2)) := by
  refine so_naW (mk := fun N => .inl (cid kd, N, .inl (fun _ => 0))) hNF hRc hRs (fun ρ h N => Or.inr (Or.inl ⟨by rw [zT_wN, if_pos rfl]; exact h0, by rw [zT_wN, if_pos rfl]; exact h1, by rw [zT_wN, if_pos rfl, zI_wN, if_pos rfl]⟩)) (fun ls stR H locs _ _ ws n b1 b2 b3 b4 b5 b6 b7 kk => ?_)
  have hb2 : n.toNatClampNeg * componentBytes ty ≤ 536870912 := Nat.le_trans (Nat.mul_le_mul b2 hcb) (Nat.le_of_ble_eq_true rfl)
  refine va_newa (a0 := (n.toNatClampNeg, .inl (fun _ => 0))) S.1 S.2.1 harr hty hC.1 b3 b4 b5 (fun q hq => Nat.le_trans hC.2.1 hq) (fun cA => by rw [hdv]; rfl) b1 rfl hb2 b6 b7 hd (fun q cA H1 k1 p1 d1 s1 => ?_)
  have := zcid hC.1 hi k1 (Or.inr hne)
  subst this
  exact kk q H1 p1 d1 s1
theorem so_naJ (S : CallFix p m c cc nL s args zTB own) (hC : zCst D cid kv N0 xs Ls s) (harr : (Cond.arrayClass (newarray.typeOf .long)).before args s = true) (hNF : nF ≤ 1000000) (hRc : nF - n0 ≤ R.cells) (hRs : zE - z0 ≤ R.slots) (hd : decode cc pc = .ok (.newarray .long, 2)) : zSo p l e R s m args below meth c D cid kv N0 xs Ls nL Qf ρ0 n0 z0 nF zE Qq Ca pc (op_na 24 (pc + 2)) := by
  refine so_naW (mk := fun N => .inl (cid 24, N, .inr (.inl (fun _ => 0)))) hNF hRc hRs (fun ρ h N => Or.inr (Or.inr (Or.inl ⟨by rw [zT_wN, if_pos rfl], by rw [zT_wN, if_pos rfl, zJ_wN, if_pos rfl]⟩))) (fun ls stR H locs _ _ ws n b1 b2 b3 b4 b5 b6 b7 kk => ?_)
  have hb2 : n.toNatClampNeg * componentBytes .long ≤ 536870912 := Nat.le_trans (Nat.mul_le_mul b2 (Nat.le_refl _)) (Nat.le_of_ble_eq_true rfl)
  refine va_newa (ty := .long) (a0 := (n.toNatClampNeg, .inr (.inl (fun _ => 0)))) S.1 S.2.1 harr rfl hC.1 b3 b4 b5 (fun q hq => Nat.le_trans hC.2.1 hq) (fun cA => rfl) b1 rfl hb2 b6 b7 hd (fun q cA H1 k1 p1 d1 s1 => ?_)
  have := zcid (kd := 24) hC.1 rfl k1 (Or.inr (fun C h => by cases h))
  subst this
  exact kk q H1 p1 d1 s1
theorem so_naT {index : Nat} (S : CallFix p m c cc nL s args zTB own) (hC : zCst D cid kv N0 xs Ls s) (hcl : (Cond.classLink own index "TurnBack$Tape").before args s = true) (hNF : nF ≤ 1000000) (hRc : nF - n0 ≤ R.cells) (hRs : zE - z0 ≤ R.slots) (hd : decode cc pc = .ok (.anewarray index, 3)) : zSo p l e R s m args below meth c D cid kv N0 xs Ls nL Qf ρ0 n0 z0 nF zE Qq Ca pc (op_na 25 (pc + 3)) := by
  refine so_naW (mk := fun N => .inl (cid 25, N, .inr (.inr (.inr (.inr (fun _ => none)))))) hNF hRc hRs (fun ρ h N => Or.inr (Or.inr (Or.inr ⟨by rw [zT_wN, if_pos rfl]; show 25 ≤ 25; decide, by rw [zT_wN, if_pos rfl]; show 25 < 27; decide, fun _ => none, by rw [zT_wN, if_pos rfl], fun j hj => by rw [zR_wN, if_pos rfl]; rfl⟩))) (fun ls stR H locs _ _ ws n b1 b2 b3 b4 b5 b6 b7 kk => ?_)
  have hb2 : n.toNatClampNeg * 4 ≤ 536870912 := Nat.le_trans (Nat.mul_le_mul b2 (Nat.le_refl _)) (Nat.le_of_ble_eq_true rfl)
  refine va_newq S.1 S.2.1 S.2.2.2.1 hcl hC.2.2.2.1 hC.1 b3 b4 b5 (fun q hq => Nat.le_trans hC.2.1 hq) b1 rfl hb2 b6 b7 hd (fun q cA H1 k1 p1 d1 s1 => ?_)
  have := zcid (kd := 25) hC.1 rfl k1 (Or.inl ⟨_, rfl⟩)
  subst this
  exact kk q H1 p1 d1 s1
/-! ends -/
/-- what a frame's end asks: the mini end is the one foretold -/
theorem so_rI {ok : Int32 → Prop} {dk : DecidablePred ok} {r0 : Option Value} {hF : zH} (hQ : ∀ v h, Qq v h → v = r0 ∧ h = hF) (hn : nF = zN hF) (hz : zE = zZ hF) (row : ∀ (ls : Array Slot) (H : Heap) (locs : List Loc) (ρ : List Nat) (x : Int32), ok x → r0 = some (.int x) → ρ0 <+: ρ → zSim D cid kv N0 xs Ls ρ hF H → va_S (zA N0) s.heap H locs → W p l e R s m args below meth c H locs (nF - n0) (zE - z0) Qf (F0 m pc ls [.int x])) : zSo p l e R s m args below meth c D cid kv N0 xs Ls nL Qf ρ0 n0 z0 nF zE Qq Ca pc (op_rI ok) := by
  intro L st h hw
  unfold op_rI at hw
  split at hw
  · split at hw
    · rename_i hok
      obtain ⟨e1, rfl⟩ := hQ _ _ hw
      refine ⟨by omega, by omega, fun ls stR ρ H locs a1 a2 a3 a4 a5 a6 a7 => ?_⟩
      obtain ⟨t', rfl, h2⟩ := zSR_i a5
      rw [zSR_0 h2, ← hn, ← hz]
      exact row ls H locs ρ _ hok e1.symm a3 a6 a7
    · exact hw.elim
  · exact hw.elim
theorem so_rJ {r0 : Option Value} {hF : zH} (hQ : ∀ v h, Qq v h → v = r0 ∧ h = hF) (hn : nF = zN hF) (hz : zE = zZ hF) (row : ∀ (ls : Array Slot) (H : Heap) (locs : List Loc) (ρ : List Nat) (x : Int64), r0 = some (.long x) → ρ0 <+: ρ → zSim D cid kv N0 xs Ls ρ hF H → va_S (zA N0) s.heap H locs → W p l e R s m args below meth c H locs (nF - n0) (zE - z0) Qf (F0 m pc ls [.long x])) : zSo p l e R s m args below meth c D cid kv N0 xs Ls nL Qf ρ0 n0 z0 nF zE Qq Ca pc op_rJ := by
  intro L st h hw
  unfold op_rJ at hw
  split at hw
  · obtain ⟨e1, rfl⟩ := hQ _ _ hw
    refine ⟨by omega, by omega, fun ls stR ρ H locs a1 a2 a3 a4 a5 a6 a7 => ?_⟩
    obtain ⟨t', rfl, h2⟩ := zSR_j a5
    rw [zSR_0 h2, ← hn, ← hz]
    exact row ls H locs ρ _ e1.symm a3 a6 a7
  · exact hw.elim
theorem so_rA {r0 : Option Value} {hF : zH} (hQ : ∀ v h, Qq v h → v = r0 ∧ h = hF) (hn : nF = zN hF) (hz : zE = zZ hF) (row : ∀ (ls : Array Slot) (H : Heap) (locs : List Loc) (ρ : List Nat) (i : Nat) (o : Option Nat), r0 = some (.ref i) → zV kv ρ (.ref i) = some (va_rf o) → ρ0 <+: ρ → zSim D cid kv N0 xs Ls ρ hF H → va_S (zA N0) s.heap H locs → W p l e R s m args below meth c H locs (nF - n0) (zE - z0) Qf (F0 m pc ls [va_rf o])) : zSo p l e R s m args below meth c D cid kv N0 xs Ls nL Qf ρ0 n0 z0 nF zE Qq Ca pc op_rA := by
  intro L st h hw
  unfold op_rA at hw
  split at hw
  · obtain ⟨e1, rfl⟩ := hQ _ _ hw
    refine ⟨by omega, by omega, fun ls stR ρ H locs a1 a2 a3 a4 a5 a6 a7 => ?_⟩
    obtain ⟨v', t', rfl, h1, h2⟩ := zSR_c a5
    obtain ⟨o, rfl⟩ := zV_r h1
    rw [zSR_0 h2, ← hn, ← hz]
    exact row ls H locs ρ _ o e1.symm h1 a3 a6 a7
  · exact hw.elim
theorem so_rV {r0 : Option Value} {hF : zH} (hQ : ∀ v h, Qq v h → v = r0 ∧ h = hF) (hn : nF = zN hF) (hz : zE = zZ hF) (row : ∀ (ls : Array Slot) (H : Heap) (locs : List Loc) (ρ : List Nat), r0 = none → ρ0 <+: ρ → zSim D cid kv N0 xs Ls ρ hF H → va_S (zA N0) s.heap H locs → W p l e R s m args below meth c H locs (nF - n0) (zE - z0) Qf (F0 m pc ls [])) : zSo p l e R s m args below meth c D cid kv N0 xs Ls nL Qf ρ0 n0 z0 nF zE Qq Ca pc op_rV := by
  intro L st h hw
  unfold op_rV at hw
  split at hw
  · obtain ⟨e1, rfl⟩ := hQ _ _ hw
    refine ⟨by omega, by omega, fun ls stR ρ H locs a1 a2 a3 a4 a5 a6 a7 => ?_⟩
    rw [zSR_0 a5, ← hn, ← hz]
    exact row ls H locs ρ e1.symm a3 a6 a7
  · exact hw.elim
end SO
