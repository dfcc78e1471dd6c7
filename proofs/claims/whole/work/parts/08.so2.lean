/-! SOUNDNESS, an instruction a row: heap, switches, calls, ends -/
/-- a switch's target -/
def ztg (x : Int32) (d : Nat) : List (Int32 × Nat) → Nat
  | [] => d
  | (k, t) :: l => if x = k then t else ztg x d l
theorem zsw_tg {x : Int32} {L : zL} {st : List Value} {h : zH} {d : Nat} : ∀ ps : List (Int32 × Nat), zsw x L st h d ps = rN (ztg x d ps) L st h
  | [] => rfl
  | (k, t) :: l => by
    simp only [zsw, ztg, zsw_tg l]
    split <;> rfl
def zlkOK (pc : Nat) : List (Int × Int) → List (Int32 × Nat) → Prop
  | [], [] => True
  | (a, o) :: l, (k, t) :: l' => k.toInt = a ∧ (pc : Int) + o = (t : Int) ∧ zlkOK pc l l'
  | _, _ => False
theorem zlkOK_tg {pc d : Nat} {dflt : Int} {x : Int32} (hd : (pc : Int) + dflt = (d : Int)) : ∀ {l : List (Int × Int)} {l' : List (Int32 × Nat)}, zlkOK pc l l' → (pc : Int) + Op.lookupswitch.offset l dflt x.toInt = (ztg x d l' : Int)
  | [], [], _ => hd
  | (a, o) :: l, (k, t) :: l', ⟨h1, h2, h3⟩ => by
    rw [Op.lookupswitch.offset_cons]
    unfold ztg
    by_cases e : x = k
    · subst e
      rw [if_pos (by first | exact h1 | exact h1.symm), if_pos rfl]
      exact h2
    · rw [if_neg (fun q => e (Int32.toInt_inj.mp (by rw [h1]; first | exact q.symm | exact q))), if_neg e]
      exact zlkOK_tg hd h3
  | [], _ :: _, h => h.elim
  | _ :: _, [], h => h.elim
def ztbOK (pc : Nat) : Int → List Int → List (Int32 × Nat) → Prop
  | _, [], [] => True
  | lo, o :: l, (k, t) :: l' => k.toInt = lo ∧ (pc : Int) + o = (t : Int) ∧ ztbOK pc (lo + 1) l l'
  | _, _, _ => False
theorem ztbOK_tg {pc d : Nat} {x : Int32} : ∀ {lo : Int} {l : List Int} {l' : List (Int32 × Nat)}, ztbOK pc lo l l' → ((lo ≤ x.toInt ∧ x.toInt < lo + l.length → ∃ off, l[(x.toInt - lo).toNat]? = some off ∧ (pc : Int) + off = (ztg x d l' : Int)) ∧ (x.toInt < lo ∨ lo + l.length ≤ x.toInt → ztg x d l' = d))
  | lo, [], [], _ => ⟨fun h => by simp at h; omega, fun _ => rfl⟩
  | lo, o :: l, (k, t) :: l', ⟨h1, h2, h3⟩ => by
    obtain ⟨g1, g2⟩ := ztbOK_tg (x := x) (d := d) h3
    unfold ztg
    by_cases e : x = k
    · subst e
      rw [if_pos rfl]
      refine ⟨fun _ => ⟨o, by rw [h1]; simp, h2⟩, fun h => ?_⟩
      simp only [List.length_cons] at h
      omega
    · rw [if_neg e]
      have hne : x.toInt ≠ lo := fun q => e (Int32.toInt_inj.mp (by rw [h1]; exact q))
      simp only [List.length_cons]
      refine ⟨fun h => ?_, fun h => g2 (by omega)⟩
      obtain ⟨off, q1, q2⟩ := g1 ⟨by omega, by omega⟩
      refine ⟨off, ?_, q2⟩
      have : (x.toInt - lo).toNat = (x.toInt - (lo + 1)).toNat + 1 := by omega
      rw [this, List.getElem?_cons_succ]
      exact q1
  | _, [], _ :: _, h => h.elim
  | _, _ :: _, [], h => h.elim
section SO
variable {p : Program} {l : Launch} {e : Env} {R : Room} {s : State} {m : MethodId} {args : Array Value} {below : List Frame} {meth : Method} {c : Code}
variable {D : va_G} {cid : Nat → ClassId} {kv : Nat → Option Nat} {N0 : Nat} {xs : Nat → Int32} {Ls : Nat} {own : String} {cc : ByteArray} {nL : Nat} {Qf : State → Prop} {ρ0 : List Nat} {n0 z0 nF zE : Nat} {pc nx k t : Nat} {Qq : zQq} {Ca : zCa}
theorem so_sw {ps : List (Int32 × Nat)} {d : Nat} (row : ∀ (ls : Array Slot) (stR : List Value) (H : Heap) (locs : List Loc) (cells slots : Nat) (x : Int32), W p l e R s m args below meth c H locs cells slots Qf (F0 m (ztg x d ps) ls stR) → W p l e R s m args below meth c H locs cells slots Qf (F0 m pc ls (.int x :: stR))) : zSo p l e R s m args below meth c D cid kv N0 xs Ls nL Qf ρ0 n0 z0 nF zE Qq Ca pc (op_sw ps d) := by
  intro L st h hw
  unfold op_sw at hw
  split at hw
  · rw [zsw_tg] at hw
    refine zW_step hw (fun ls stR ρ H locs _ _ a4 a5 _ _ kk => ?_)
    obtain ⟨t', rfl, h2⟩ := zSR_i a5
    exact row ls t' H locs _ _ _ (kk ls _ a4 h2)
  · exact hw.elim
theorem so_swL {ps : List (Int32 × Nat)} {d len : Nat} {dflt : Int} {qs : Array (Int × Int)} (hx : p.tables.exec = Jvm.exec) (hb : c.code = cc) (hdg : decode cc pc = .ok (.lookupswitch dflt qs, len)) (hp : (qs.toList.zip (qs.toList.drop 1)).all (fun (a, next) => a.1 < next.1) = true) (hd : (pc : Int) + dflt = (d : Int)) (ho : zlkOK pc qs.toList ps) : zSo p l e R s m args below meth c D cid kv N0 xs Ls nL Qf ρ0 n0 z0 nF zE Qq Ca pc (op_sw ps d) :=
  so_sw (fun _ _ _ _ _ _ _ k => lv_lookup hx hb hdg hp rfl (zlkOK_tg hd ho) k)
theorem so_swT {ps : List (Int32 × Nat)} {d len : Nat} {dflt lo hi : Int} {qs : Array Int} (hx : p.tables.exec = Jvm.exec) (hb : c.code = cc) (hdg : decode cc pc = .ok (.tableswitch dflt lo hi qs, len)) (hh : hi + 1 = lo + qs.toList.length) (hd : (pc : Int) + dflt = (d : Int)) (ho : ztbOK pc lo qs.toList ps) : zSo p l e R s m args below meth c D cid kv N0 xs Ls nL Qf ρ0 n0 z0 nF zE Qq Ca pc (op_sw ps d) := by
  refine so_sw (fun ls stR H locs _ _ x k => ?_)
  obtain ⟨g1, g2⟩ := ztbOK_tg (x := x) (d := d) ho
  by_cases h : x.toInt < lo ∨ hi < x.toInt
  · refine lv_tableOut hx hb hdg h hd ?_
    rw [g2 (by omega)] at k
    exact k
  · obtain ⟨off, q1, q2⟩ := g1 ⟨by omega, by omega⟩
    exact lv_tableIn hx hb hdg (by omega) (by omega) (by rw [← Array.getElem?_toList]; exact q1) q2 k
theorem so_go (row : ∀ (ls : Array Slot) (stR : List Value) (H : Heap) (locs : List Loc) (cells slots : Nat), W p l e R s m args below meth c H locs cells slots Qf (F0 m t ls stR) → W p l e R s m args below meth c H locs cells slots Qf (F0 m pc ls stR)) : zSo p l e R s m args below meth c D cid kv N0 xs Ls nL Qf ρ0 n0 z0 nF zE Qq Ca pc (op_go t) :=
  fun L st h hw => zW_step hw (fun ls stR ρ H locs _ _ a4 a5 _ _ kk => row ls stR H locs _ _ (kk ls stR a4 a5))
/-- a reference to a cell of the heap -/
theorem zSim_ref {h : zH} {ρ : List Nat} {H : Heap} {i : Nat} {v' : Value} (hs : zSim D cid kv N0 xs Ls ρ h H) (hv : zV kv ρ (.ref i) = some v') (hk : (zT h i).1 < 30) : ∃ (ws : va_W) (a : Nat) (e : va_E), v' = .ref a ∧ ws.map Prod.fst = ρ ∧ va_P D vwCl ws H ∧ va_D (zA N0) ws ∧ ws[i]? = some (a, e) ∧ zCR cid kv ρ h i e ∧ (∀ (j b : Nat) (e' : va_E), ws[j]? = some (b, e') → zCR cid kv ρ h j e') := by
  obtain ⟨ws, h1, h2, h3, h4, h5, h6, h7⟩ := hs
  obtain ⟨a, e, g1, g2⟩ := zSim_at h6 h1 hv hk
  exact ⟨ws, a, e, g1, h1, h2, h3, g2, h7 i a e g2, h7⟩
theorem zSim_null {h : zH} {ρ : List Nat} {H : Heap} {o : Option Nat} (hs : zSim D cid kv N0 xs Ls ρ h H) : True := trivial
/-- behind a store into cell i -/
theorem zSim_set {h h' : zH} {ρ : List Nat} {H H1 : Heap} {ws : va_W} {i a : Nat} {e1 e' : va_E} (hs : zSim D cid kv N0 xs Ls ρ h H) (hρ : ws.map Prod.fst = ρ) (hi : ws[i]? = some (a, e1)) (hC : ∀ (j b : Nat) (e' : va_E), ws[j]? = some (b, e') → zCR cid kv ρ h j e') (hP : va_P D vwCl (ws.set i (a, e')) H1) (hD : va_D (zA N0) (ws.set i (a, e'))) (hT : zT h' = zT h) (hn : zN h' = zN h) (ho : ∀ j, j ≠ i → zI h' j = zI h j ∧ zJ h' j = zJ h j ∧ zR h' j = zR h j) (he : zCR cid kv ρ h' i e') : zSim D cid kv N0 xs Ls ρ h' H1 := by
  obtain ⟨ws0, h1, -, -, h4, h5, h6, -⟩ := hs
  have hil : i < ws.length := (List.getElem?_eq_some_iff.mp hi).1
  have hil2 : i < 1000000 := by
    have : ws.length = ρ.length := by rw [← hρ, List.length_map]
    omega
  refine ⟨ws.set i (a, e'), ?_, hP, hD, by rw [hn]; exact h4, by rw [hn]; exact h5, ?_, fun j b e2 hj => ?_⟩
  · rw [List.map_set, hρ]
    show ρ.set i a = ρ
    have : ρ[i]? = some a := by rw [← hρ, List.getElem?_map, hi]; rfl
    apply List.ext_getElem?
    intro j
    by_cases e : j = i
    · subst e
      rw [List.getElem?_set_self (by rw [← hρ, List.length_map]; exact hil), this]
    · rw [List.getElem?_set_ne (Ne.symm e)]
  · obtain ⟨k1, ⟨k2, k3⟩, ⟨k4, k5⟩, ⟨k6, k7⟩, k8, k9⟩ := h6
    refine ⟨⟨fun j g1 g2 => by rw [hT]; exact k1.1 j g1 g2, by rw [hT]; exact k1.2⟩, ⟨by rw [hT]; exact k2, fun j hj => by rw [(ho 1000000 (by omega)).1]; exact k3 j hj⟩, ⟨by rw [hT]; exact k4, fun j hj => by rw [(ho 1000001 (by omega)).1]; exact k5 j hj⟩, ⟨by rw [hT]; exact k6, fun j hj => by rw [(ho 1000002 (by omega)).1]; exact k7 j hj⟩, fun q hq => ⟨by rw [hT]; exact (k8 q hq).1, by rw [(ho (1000003 + q) (by omega)).2.2]; exact (k8 q hq).2⟩, fun q hq => ⟨by rw [hT]; exact (k9 q hq).1, fun j hj => by rw [(ho (1000008 + q) (by omega)).1]; exact (k9 q hq).2 j hj⟩⟩
  · by_cases e : j = i
    · subst e
      rw [List.getElem?_set_self hil] at hj
      cases hj
      exact he
    · rw [List.getElem?_set_ne (Ne.symm e)] at hj
      obtain ⟨q1, q2, q3⟩ := ho j e
      exact zCR_eq (hC j b e2 hj) (by rw [hT]) q1 q2 q3
/-- an object's cell -/
theorem zCR_o {ρ : List Nat} {h : zH} {i ci n : Nat} {e : va_E} (hT : zT h i = (ci, n)) (hc : ci < 20) (g : zCR cid kv ρ h i e) : ∃ fs : List Value, e = .inr (ci, fs) ∧ fs.length = n ∧ ∀ (j : Nat) (v' : Value), fs[j]? = some v' → if zrf ci j = true then zV kv ρ (zR h i j) = some v' ∧ ((∃ a, zR h i j = .ref a) ∨ zR h i j = .null) else v' = .int (zI h i j) := by
  rcases g with ⟨h1, fs, h2, h3, h4⟩ | ⟨g, -⟩ | ⟨g, -⟩ | ⟨g, -⟩
  · rw [hT] at h2 h3 h4
    exact ⟨fs, h2, h3, h4⟩
  · rw [hT] at g; dsimp only at g; omega
  · rw [hT] at g; dsimp only at g; omega
  · rw [hT] at g; dsimp only at g; omega
theorem zCR_i {ρ : List Nat} {h : zH} {i kd : Nat} {e : va_E} (hT : (zT h i).1 = kd) (h0 : 20 ≤ kd) (h1 : kd < 24) (g : zCR cid kv ρ h i e) : e = .inl (cid kd, (zT h i).2, .inl (zI h i)) := by
  rcases g with ⟨g, -⟩ | ⟨-, -, g⟩ | ⟨g, -⟩ | ⟨g, -⟩
  · omega
  · rw [hT] at g; exact g
  · omega
  · omega
theorem zCR_j {ρ : List Nat} {h : zH} {i : Nat} {e : va_E} (hT : (zT h i).1 = 24) (g : zCR cid kv ρ h i e) : e = .inl (cid 24, (zT h i).2, .inr (.inl (zJ h i))) := by
  rcases g with ⟨g, -⟩ | ⟨-, g, -⟩ | ⟨-, g⟩ | ⟨g, -⟩
  · omega
  · omega
  · exact g
  · omega
theorem zCR_r {ρ : List Nat} {h : zH} {i kd : Nat} {e : va_E} (hT : (zT h i).1 = kd) (h0 : 25 ≤ kd) (h1 : kd < 27) (g : zCR cid kv ρ h i e) : ∃ r : Nat → Option Nat, e = .inl (cid kd, (zT h i).2, .inr (.inr (.inr (.inr r)))) ∧ ∀ j, j < (zT h i).2 → zV kv ρ (zR h i j) = some (va_rf (r j)) := by
  rcases g with ⟨g, -⟩ | ⟨-, g, -⟩ | ⟨g, -⟩ | ⟨-, -, r, g, g2⟩
  · omega
  · omega
  · omega
  · rw [hT] at g; exact ⟨r, g, g2⟩
theorem zin_vp {i : Int32} {n : Nat} (h : zin i n) : vp_in i n := fun q => q.elim h.1 (fun q => absurd h.2 (Nat.not_lt.mpr q))
theorem so_gI {ci n : Nat} (hk : k < n) (hc : ci < 20) (hr : zrf ci k = false) (row : ∀ (ls : Array Slot) (stR : List Value) (H : Heap) (locs : List Loc) (cells slots : Nat) (ws : va_W) (a q0 : Nat) (fs : List Value) (v : Value), va_P D vwCl ws H → ws[q0]? = some (a, .inr (ci, fs)) → fs[k]? = some v → W p l e R s m args below meth c H locs cells slots Qf (F0 m nx ls (v :: stR)) → W p l e R s m args below meth c H locs cells slots Qf (F0 m pc ls (.ref a :: stR))) : zSo p l e R s m args below meth c D cid kv N0 xs Ls nL Qf ρ0 n0 z0 nF zE Qq Ca pc (op_gI ci n k nx) := by
  intro L st h hw
  unfold op_gI at hw
  split at hw
  · rename_i i st
    split at hw
    · rename_i hT
      refine zW_step hw (fun ls stR ρ H locs _ _ a4 a5 a6 _ kk => ?_)
      obtain ⟨v', t', rfl, h1, h2⟩ := zSR_c a5
      obtain ⟨ws, a, e1, rfl, g1, g2, g3, g4, g5, g6⟩ := zSim_ref a6 h1 (by rw [hT]; show ci < 30; omega)
      obtain ⟨fs, rfl, f2, f3⟩ := zCR_o hT hc g5
      obtain ⟨v, hv⟩ : ∃ v, fs[k]? = some v := ⟨_, List.getElem?_eq_getElem (by omega)⟩
      have f4 := f3 k v hv
      rw [if_neg (by rw [hr]; decide)] at f4
      subst f4
      exact row ls t' H locs _ _ ws a i fs _ g2 g4 hv (kk ls _ a4 ⟨rfl, h2⟩)
    · exact hw.elim
  · exact hw.elim
theorem so_gR {ci n : Nat} (hk : k < n) (hc : ci < 20) (hr : zrf ci k = true) (row : ∀ (ls : Array Slot) (stR : List Value) (H : Heap) (locs : List Loc) (cells slots : Nat) (ws : va_W) (a q0 : Nat) (fs : List Value) (v : Value), va_P D vwCl ws H → ws[q0]? = some (a, .inr (ci, fs)) → fs[k]? = some v → W p l e R s m args below meth c H locs cells slots Qf (F0 m nx ls (v :: stR)) → W p l e R s m args below meth c H locs cells slots Qf (F0 m pc ls (.ref a :: stR))) : zSo p l e R s m args below meth c D cid kv N0 xs Ls nL Qf ρ0 n0 z0 nF zE Qq Ca pc (op_gR ci n k nx) := by
  intro L st h hw
  unfold op_gR at hw
  split at hw
  · rename_i i st
    split at hw
    · rename_i hT
      refine zW_step hw (fun ls stR ρ H locs _ _ a4 a5 a6 _ kk => ?_)
      obtain ⟨v', t', rfl, h1, h2⟩ := zSR_c a5
      obtain ⟨ws, a, e1, rfl, g1, g2, g3, g4, g5, g6⟩ := zSim_ref a6 h1 (by rw [hT]; show ci < 30; omega)
      obtain ⟨fs, rfl, f2, f3⟩ := zCR_o hT hc g5
      obtain ⟨v, hv⟩ : ∃ v, fs[k]? = some v := ⟨_, List.getElem?_eq_getElem (by omega)⟩
      have f4 := f3 k v hv
      rw [if_pos hr] at f4
      exact row ls t' H locs _ _ ws a i fs _ g2 g4 hv (kk ls _ a4 ⟨f4.1, h2⟩)
    · exact hw.elim
  · exact hw.elim
/-- stores into a field: what the kit's row gives -/
def zPutRow (p : Program) (l : Launch) (e : Env) (R : Room) (s : State) (m : MethodId) (args : Array Value) (below : List Frame) (meth : Method) (c : Code) (D : va_G) (N0 : Nat) (Qf : State → Prop) (pc nx ci k : Nat) (ok : Value → Prop) : Prop :=
  ∀ (ls : Array Slot) (stR : List Value) (H : Heap) (locs : List Loc) (cells slots : Nat) (ws : va_W) (a q0 : Nat) (fs : List Value) (v : Value), va_P D vwCl ws H → va_D (zA N0) ws → va_S (zA N0) s.heap H locs → ws[q0]? = some (a, .inr (ci, fs)) → k < fs.length → ok v →
    (∀ (H1 : Heap) (locs1 : List Loc), va_P D vwCl (ws.set q0 (a, .inr (ci, fs.set k v))) H1 → va_D (zA N0) (ws.set q0 (a, .inr (ci, fs.set k v))) → va_S (zA N0) s.heap H1 locs1 → W p l e R s m args below meth c H1 locs1 cells slots Qf (F0 m nx ls stR)) → W p l e R s m args below meth c H locs cells slots Qf (F0 m pc ls (v :: .ref a :: stR))
theorem zput {ci n i : Nat} {L : zL} {st : List Value} {h h' : zH} {v : Value} {ok : Value → Prop} (hk : k < n) (hc : ci < 20) (hT : zT h i = (ci, n)) (hw : zW p l e R s m args below meth c D cid kv N0 xs Ls nL Qf ρ0 n0 z0 nF zE nx L st h') (hT' : zT h' = zT h) (hn : zN h' = zN h) (hz : zZ h' = zZ h) (ho : ∀ j, j ≠ i → zI h' j = zI h j ∧ zJ h' j = zJ h j ∧ zR h' j = zR h j) (hok : ∀ (ρ : List Nat) (v' : Value), zV kv ρ v = some v' → ok v' ∧ ∀ (j : Nat) (w : Value), (if zrf ci j = true then zV kv ρ (zR h i j) = some w ∧ ((∃ a, zR h i j = .ref a) ∨ zR h i j = .null) else w = .int (zI h i j)) → if zrf ci j = true then zV kv ρ (zR h' i j) = some (if j = k then v' else w) ∧ ((∃ a, zR h' i j = .ref a) ∨ zR h' i j = .null) else (if j = k then v' else w) = .int (zI h' i j)) (row : zPutRow p l e R s m args below meth c D N0 Qf pc nx ci k ok) : zW p l e R s m args below meth c D cid kv N0 xs Ls nL Qf ρ0 n0 z0 nF zE pc L (v :: .ref i :: st) h := by
  refine ⟨hn ▸ hw.1, hz ▸ hw.2.1, fun ls stR ρ H locs a1 a2 a3 a4 a5 a6 a7 => ?_⟩
  obtain ⟨v1, t1, rfl, g1, g2⟩ := zSR_c a5
  obtain ⟨v2, t2, rfl, g3, g4⟩ := zSR_c g2
  obtain ⟨ws, a, e1, rfl, w1, w2, w3, w4, w5, w6⟩ := zSim_ref a6 g3 (by rw [hT]; show ci < 30; omega)
  obtain ⟨fs, rfl, f2, f3⟩ := zCR_o hT hc w5
  obtain ⟨o1, o2⟩ := hok ρ v1 g1
  refine row ls t2 H locs _ _ ws a i fs v1 w2 w3 a7 w4 (by omega) o1 (fun H1 locs1 p1 d1 s1 => ?_)
  have := hw.2.2 ls t2 ρ H1 locs1 (by rw [hn]; exact a1) (by rw [hz]; exact a2) a3 a4 g4 (zSim_set a6 w1 w4 w6 p1 d1 hT' hn ho (Or.inl ⟨by rw [hT', hT]; exact hc, fs.set k v1, by rw [hT', hT], by rw [hT', hT, List.length_set]; exact f2, fun j w hj => ?_⟩)) s1
  · rw [hn, hz] at this
    exact this
  · rw [hT', hT]
    have hjl : j < fs.length := by
      have := (List.getElem?_eq_some_iff.mp hj).1
      rwa [List.length_set] at this
    have h3 := o2 j _ (f3 j _ (List.getElem?_eq_getElem hjl))
    by_cases ej : j = k
    · subst ej
      rw [List.getElem?_set_self hjl] at hj
      cases hj
      simpa using h3
    · rw [List.getElem?_set_ne (Ne.symm ej), List.getElem?_eq_getElem hjl] at hj
      cases hj
      simpa [ej] using h3
theorem so_pI {ci n : Nat} (hk : k < n) (hc : ci < 20) (hr : zrf ci k = false) (row : zPutRow p l e R s m args below meth c D N0 Qf pc nx ci k (fun v => ∃ x : Int32, v = .int x)) : zSo p l e R s m args below meth c D cid kv N0 xs Ls nL Qf ρ0 n0 z0 nF zE Qq Ca pc (op_pI ci n k nx) := by
  intro L st h hw
  unfold op_pI at hw
  split at hw
  · rename_i x i st
    split at hw
    · rename_i hT
      refine zput hk hc hT hw rfl rfl rfl (fun j hj => ⟨by rw [zI_wI, if_neg hj], rfl, rfl⟩) (fun ρ v' hv => ?_) row
      cases hv
      refine ⟨⟨x, rfl⟩, fun j w g => ?_⟩
      split at g
      · rename_i hz
        rw [if_pos hz, if_neg (fun e => by rw [e, hr] at hz; cases hz)]
        exact g
      · rename_i hz
        rw [if_neg hz, zI_wI, if_pos rfl]
        unfold va_up
        by_cases e : j = k
        · rw [if_pos e, if_pos e]
        · rw [if_neg e, if_neg e]; exact g
    · exact hw.elim
  · exact hw.elim
theorem so_pZ {ci n : Nat} (hk : k < n) (hc : ci < 20) (hr : zrf ci k = false) (row : zPutRow p l e R s m args below meth c D N0 Qf pc nx ci k (fun v => ∃ x : Int32, v = .int x ∧ (x = 0 ∨ x = 1))) : zSo p l e R s m args below meth c D cid kv N0 xs Ls nL Qf ρ0 n0 z0 nF zE Qq Ca pc (op_pZ ci n k nx) := by
  intro L st h hw
  unfold op_pZ at hw
  split at hw
  · rename_i x i st
    split at hw
    · rename_i hT
      obtain ⟨hT, hx⟩ := hT
      refine zput hk hc hT hw rfl rfl rfl (fun j hj => ⟨by rw [zI_wI, if_neg hj], rfl, rfl⟩) (fun ρ v' hv => ?_) row
      cases hv
      refine ⟨⟨x, rfl, hx⟩, fun j w g => ?_⟩
      split at g
      · rename_i hz
        rw [if_pos hz, if_neg (fun e => by rw [e, hr] at hz; cases hz)]
        exact g
      · rename_i hz
        rw [if_neg hz, zI_wI, if_pos rfl]
        unfold va_up
        by_cases e : j = k
        · rw [if_pos e, if_pos e]
        · rw [if_neg e, if_neg e]; exact g
    · exact hw.elim
  · exact hw.elim
theorem so_pR {ci n : Nat} (hk : k < n) (hc : ci < 20) (hr : zrf ci k = true) (row : zPutRow p l e R s m args below meth c D N0 Qf pc nx ci k (fun v => ∃ o : Option Nat, v = va_rf o)) : zSo p l e R s m args below meth c D cid kv N0 xs Ls nL Qf ρ0 n0 z0 nF zE Qq Ca pc (op_pR ci n k nx) := by
  have key : ∀ (v : Value) (i : Nat) (L : zL) (st : List Value) (h : zH), ((∃ a, v = .ref a) ∨ v = .null) → zT h i = (ci, n) → zW p l e R s m args below meth c D cid kv N0 xs Ls nL Qf ρ0 n0 z0 nF zE nx L st (wR h i k v) → zW p l e R s m args below meth c D cid kv N0 xs Ls nL Qf ρ0 n0 z0 nF zE pc L (v :: .ref i :: st) h := by
    intro v i L st h hv0 hT hw
    refine zput hk hc hT hw rfl rfl rfl (fun j hj => ⟨rfl, rfl, by rw [zR_wR, if_neg hj]⟩) (fun ρ v' hv => ⟨?_, fun j w g => ?_⟩) row
    · rcases hv0 with ⟨a, rfl⟩ | rfl
      · exact zV_r hv
      · cases hv; exact ⟨none, rfl⟩
    · split at g
      · rename_i hz
        rw [if_pos hz, zR_wR, if_pos rfl]
        unfold va_up
        by_cases e : j = k
        · rw [if_pos e, if_pos e]; exact ⟨hv, hv0⟩
        · rw [if_neg e, if_neg e]; exact g
      · rename_i hz
        rw [if_neg hz, if_neg (fun e => by rw [e, hr] at hz; exact hz rfl)]
        exact g
  intro L st h hw
  unfold op_pR at hw
  split at hw
  · split at hw
    · rename_i hT
      exact key _ _ _ _ _ (Or.inl ⟨_, rfl⟩) hT hw
    · exact hw.elim
  · split at hw
    · rename_i hT
      exact key _ _ _ _ _ (Or.inr rfl) hT hw
    · exact hw.elim
  · exact hw.elim
theorem so_ia {kd : Nat} (h0 : 20 ≤ kd) (h1 : kd < 24) (row : ∀ (ls : Array Slot) (stR : List Value) (H : Heap) (locs : List Loc) (cells slots : Nat) (ws : va_W) (a q0 n : Nat) (f : Nat → Int32) (i : Int32), va_P D vwCl ws H → ws[q0]? = some (a, .inl (cid kd, n, .inl f)) → vp_in i n → W p l e R s m args below meth c H locs cells slots Qf (F0 m nx ls (.int (f i.toNatClampNeg) :: stR)) → W p l e R s m args below meth c H locs cells slots Qf (F0 m pc ls (.int i :: .ref a :: stR))) : zSo p l e R s m args below meth c D cid kv N0 xs Ls nL Qf ρ0 n0 z0 nF zE Qq Ca pc (op_ia kd nx) := by
  intro L st h hw
  unfold op_ia at hw
  split at hw
  · rename_i x b st
    split at hw
    · rename_i hT
      obtain ⟨hT, hi⟩ := hT
      refine zW_step hw (fun ls stR ρ H locs _ _ a4 a5 a6 _ kk => ?_)
      obtain ⟨t1, rfl, g2⟩ := zSR_i a5
      obtain ⟨v', t', rfl, g3, g4⟩ := zSR_c g2
      obtain ⟨ws, a, e1, rfl, w1, w2, w3, w4, w5, w6⟩ := zSim_ref a6 g3 (by omega)
      have e2 := zCR_i hT h0 h1 w5
      subst e2
      exact row ls t' H locs _ _ ws a b _ _ _ w2 w4 (zin_vp hi) (kk ls _ a4 ⟨rfl, g4⟩)
    · exact hw.elim
  · exact hw.elim
theorem so_ja (row : ∀ (ls : Array Slot) (stR : List Value) (H : Heap) (locs : List Loc) (cells slots : Nat) (ws : va_W) (a q0 n : Nat) (f : Nat → Int64) (i : Int32), va_P D vwCl ws H → ws[q0]? = some (a, .inl (cid 24, n, .inr (.inl f))) → vp_in i n → W p l e R s m args below meth c H locs cells slots Qf (F0 m nx ls (.long (f i.toNatClampNeg) :: stR)) → W p l e R s m args below meth c H locs cells slots Qf (F0 m pc ls (.int i :: .ref a :: stR))) : zSo p l e R s m args below meth c D cid kv N0 xs Ls nL Qf ρ0 n0 z0 nF zE Qq Ca pc (op_ja nx) := by
  intro L st h hw
  unfold op_ja at hw
  split at hw
  · rename_i x b st
    split at hw
    · rename_i hT
      obtain ⟨hT, hi⟩ := hT
      refine zW_step hw (fun ls stR ρ H locs _ _ a4 a5 a6 _ kk => ?_)
      obtain ⟨t1, rfl, g2⟩ := zSR_i a5
      obtain ⟨v', t', rfl, g3, g4⟩ := zSR_c g2
      obtain ⟨ws, a, e1, rfl, w1, w2, w3, w4, w5, w6⟩ := zSim_ref a6 g3 (by omega)
      have e2 := zCR_j hT w5
      subst e2
      exact row ls t' H locs _ _ ws a b _ _ _ w2 w4 (zin_vp hi) (kk ls _ a4 ⟨rfl, g4⟩)
    · exact hw.elim
  · exact hw.elim
theorem so_ra {kd : Nat} (h0 : 25 ≤ kd) (h1 : kd < 27) (row : ∀ (ls : Array Slot) (stR : List Value) (H : Heap) (locs : List Loc) (cells slots : Nat) (ws : va_W) (a q0 n : Nat) (f : Nat → Option Nat) (i : Int32), va_P D vwCl ws H → ws[q0]? = some (a, .inl (cid kd, n, .inr (.inr (.inr (.inr f))))) → vp_in i n → W p l e R s m args below meth c H locs cells slots Qf (F0 m nx ls (va_rf (f i.toNatClampNeg) :: stR)) → W p l e R s m args below meth c H locs cells slots Qf (F0 m pc ls (.int i :: .ref a :: stR))) : zSo p l e R s m args below meth c D cid kv N0 xs Ls nL Qf ρ0 n0 z0 nF zE Qq Ca pc (op_ra kd nx) := by
  intro L st h hw
  unfold op_ra at hw
  split at hw
  · rename_i x b st
    split at hw
    · rename_i hT
      obtain ⟨hT, hi⟩ := hT
      refine zW_step hw (fun ls stR ρ H locs _ _ a4 a5 a6 _ kk => ?_)
      obtain ⟨t1, rfl, g2⟩ := zSR_i a5
      obtain ⟨v', t', rfl, g3, g4⟩ := zSR_c g2
      obtain ⟨ws, a, e1, rfl, w1, w2, w3, w4, w5, w6⟩ := zSim_ref a6 g3 (by omega)
      obtain ⟨r, rfl, e3⟩ := zCR_r hT h0 h1 w5
      exact row ls t' H locs _ _ ws a b _ _ _ w2 w4 (zin_vp hi) (kk ls _ a4 ⟨e3 _ hi.2, g4⟩)
    · exact hw.elim
  · exact hw.elim
theorem so_is {kd : Nat} {f : Int32 → Int32} (h0 : 20 ≤ kd) (h1 : kd < 24) (row : ∀ (ls : Array Slot) (stR : List Value) (H : Heap) (locs : List Loc) (cells slots : Nat) (ws : va_W) (a q0 n : Nat) (g : Nat → Int32) (i x : Int32), va_P D vwCl ws H → va_D (zA N0) ws → va_S (zA N0) s.heap H locs → ws[q0]? = some (a, .inl (cid kd, n, .inl g)) → vp_in i n → (∀ (H1 : Heap) (locs1 : List Loc), va_P D vwCl (ws.set q0 (a, .inl (cid kd, n, .inl (va_up g i.toNatClampNeg (f x))))) H1 → va_D (zA N0) (ws.set q0 (a, .inl (cid kd, n, .inl (va_up g i.toNatClampNeg (f x))))) → va_S (zA N0) s.heap H1 locs1 → W p l e R s m args below meth c H1 locs1 cells slots Qf (F0 m nx ls stR)) → W p l e R s m args below meth c H locs cells slots Qf (F0 m pc ls (.int x :: .int i :: .ref a :: stR))) : zSo p l e R s m args below meth c D cid kv N0 xs Ls nL Qf ρ0 n0 z0 nF zE Qq Ca pc (op_is kd f nx) := by
  intro L st h hw
  unfold op_is at hw
  split at hw
  · rename_i x i b st
    split at hw
    · rename_i hT
      obtain ⟨hT, hi⟩ := hT
      refine ⟨hw.1, hw.2.1, fun ls stR ρ H locs a1 a2 a3 a4 a5 a6 a7 => ?_⟩
      obtain ⟨t1, rfl, g1⟩ := zSR_i a5
      obtain ⟨t2, rfl, g2⟩ := zSR_i g1
      obtain ⟨v', t', rfl, g3, g4⟩ := zSR_c g2
      obtain ⟨ws, a, e1, rfl, w1, w2, w3, w4, w5, w6⟩ := zSim_ref a6 g3 (by omega)
      have e2 := zCR_i hT h0 h1 w5
      subst e2
      refine row ls t' H locs _ _ ws a b _ _ _ _ w2 w3 a7 w4 (zin_vp hi) (fun H1 locs1 p1 d1 s1 => hw.2.2 ls t' ρ H1 locs1 a1 a2 a3 a4 g4 (zSim_set a6 w1 w4 w6 p1 d1 rfl rfl (fun j hj => ⟨by rw [zI_wI, if_neg hj], rfl, rfl⟩) (Or.inr (Or.inl ⟨by rw [zT_wI, hT]; exact h0, by rw [zT_wI, hT]; exact h1, ?_⟩))) s1)
      rw [zT_wI, hT, zI_wI, if_pos rfl]
    · exact hw.elim
  · exact hw.elim
theorem so_js (row : ∀ (ls : Array Slot) (stR : List Value) (H : Heap) (locs : List Loc) (cells slots : Nat) (ws : va_W) (a q0 n : Nat) (g : Nat → Int64) (i : Int32) (x : Int64), va_P D vwCl ws H → va_D (zA N0) ws → va_S (zA N0) s.heap H locs → ws[q0]? = some (a, .inl (cid 24, n, .inr (.inl g))) → vp_in i n → (∀ (H1 : Heap) (locs1 : List Loc), va_P D vwCl (ws.set q0 (a, .inl (cid 24, n, .inr (.inl (va_up g i.toNatClampNeg x))))) H1 → va_D (zA N0) (ws.set q0 (a, .inl (cid 24, n, .inr (.inl (va_up g i.toNatClampNeg x))))) → va_S (zA N0) s.heap H1 locs1 → W p l e R s m args below meth c H1 locs1 cells slots Qf (F0 m nx ls stR)) → W p l e R s m args below meth c H locs cells slots Qf (F0 m pc ls (.long x :: .int i :: .ref a :: stR))) : zSo p l e R s m args below meth c D cid kv N0 xs Ls nL Qf ρ0 n0 z0 nF zE Qq Ca pc (op_js nx) := by
  intro L st h hw
  unfold op_js at hw
  split at hw
  · rename_i x i b st
    split at hw
    · rename_i hT
      obtain ⟨hT, hi⟩ := hT
      refine ⟨hw.1, hw.2.1, fun ls stR ρ H locs a1 a2 a3 a4 a5 a6 a7 => ?_⟩
      obtain ⟨t1, rfl, g1⟩ := zSR_j a5
      obtain ⟨t2, rfl, g2⟩ := zSR_i g1
      obtain ⟨v', t', rfl, g3, g4⟩ := zSR_c g2
      obtain ⟨ws, a, e1, rfl, w1, w2, w3, w4, w5, w6⟩ := zSim_ref a6 g3 (by omega)
      have e2 := zCR_j hT w5
      subst e2
      refine row ls t' H locs _ _ ws a b _ _ _ _ w2 w3 a7 w4 (zin_vp hi) (fun H1 locs1 p1 d1 s1 => hw.2.2 ls t' ρ H1 locs1 a1 a2 a3 a4 g4 (zSim_set a6 w1 w4 w6 p1 d1 rfl rfl (fun j hj => ⟨rfl, by rw [zJ_wJ, if_neg hj], rfl⟩) (Or.inr (Or.inr (Or.inl ⟨by rw [zT_wJ, hT], ?_⟩)))) s1)
      rw [zT_wJ, zJ_wJ, if_pos rfl]
    · exact hw.elim
  · exact hw.elim
theorem so_rs (row : ∀ (ls : Array Slot) (stR : List Value) (H : Heap) (locs : List Loc) (cells slots : Nat) (ws : va_W) (a v q0 qk n : Nat) (vs : List Value) (g : Nat → Option Nat) (i : Int32), va_P D vwCl ws H → va_D (zA N0) ws → va_S (zA N0) s.heap H locs → ws[q0]? = some (a, .inl (cid 25, n, .inr (.inr (.inr (.inr g))))) → ws[qk]? = some (v, .inr (6, vs)) → vp_in i n → (∀ (H1 : Heap) (locs1 : List Loc), va_P D vwCl (ws.set q0 (a, .inl (cid 25, n, .inr (.inr (.inr (.inr (va_up g i.toNatClampNeg (some v)))))))) H1 → va_D (zA N0) (ws.set q0 (a, .inl (cid 25, n, .inr (.inr (.inr (.inr (va_up g i.toNatClampNeg (some v)))))))) → va_S (zA N0) s.heap H1 locs1 → W p l e R s m args below meth c H1 locs1 cells slots Qf (F0 m nx ls stR)) → W p l e R s m args below meth c H locs cells slots Qf (F0 m pc ls (.ref v :: .int i :: .ref a :: stR))) : zSo p l e R s m args below meth c D cid kv N0 xs Ls nL Qf ρ0 n0 z0 nF zE Qq Ca pc (op_rs nx) := by
  intro L st h hw
  unfold op_rs at hw
  split at hw
  · rename_i x i b st
    split at hw
    · rename_i hT
      obtain ⟨hT, hi, hx⟩ := hT
      refine ⟨hw.1, hw.2.1, fun ls stR ρ H locs a1 a2 a3 a4 a5 a6 a7 => ?_⟩
      obtain ⟨v1, t1, rfl, g0, g1⟩ := zSR_c a5
      obtain ⟨t2, rfl, g2⟩ := zSR_i g1
      obtain ⟨v', t', rfl, g3, g4⟩ := zSR_c g2
      obtain ⟨ws, a, e1, rfl, w1, w2, w3, w4, w5, w6⟩ := zSim_ref a6 g3 (by omega)
      obtain ⟨r, rfl, e3⟩ := zCR_r hT (by omega) (by omega) w5
      obtain ⟨v2, e4, rfl, y2⟩ := zSim_at (h := h) (xs := xs) (Ls := Ls) (by obtain ⟨_, _, _, _, _, _, q, _⟩ := a6; exact q) w1 g0 (by rw [hx]; decide)
      obtain ⟨vs, rfl, -, -⟩ := zCR_o hx (by omega) (w6 x v2 e4 y2)
      refine row ls t' H locs _ _ ws a v2 b x _ vs _ _ w2 w3 a7 w4 y2 (zin_vp hi) (fun H1 locs1 p1 d1 s1 => hw.2.2 ls t' ρ H1 locs1 a1 a2 a3 a4 g4 (zSim_set a6 w1 w4 w6 p1 d1 rfl rfl (fun j hj => ⟨rfl, rfl, by rw [zR_wR, if_neg hj]⟩) (Or.inr (Or.inr (Or.inr ⟨by rw [zT_wR, hT]; decide, by rw [zT_wR, hT]; decide, _, by rw [zT_wR, hT], fun j hj => ?_⟩)))) s1)
      rw [zT_wR] at hj
      rw [zR_wR, if_pos rfl]
      unfold va_up
      by_cases ej : j = i.toNatClampNeg
      · rw [if_pos ej, if_pos ej]; exact g0
      · rw [if_neg ej, if_neg ej]; exact e3 j hj
    · exact hw.elim
  · exact hw.elim
theorem so_len {kd : Nat} (h0 : 20 ≤ kd) (h1 : kd < 24) (row : ∀ (ls : Array Slot) (stR : List Value) (H : Heap) (locs : List Loc) (cells slots : Nat) (ws : va_W) (a q0 n : Nat) (f : Nat → Int32), va_P D vwCl ws H → ws[q0]? = some (a, .inl (cid kd, n, .inl f)) → W p l e R s m args below meth c H locs cells slots Qf (F0 m nx ls (.int (Int32.ofNat n) :: stR)) → W p l e R s m args below meth c H locs cells slots Qf (F0 m pc ls (.ref a :: stR))) : zSo p l e R s m args below meth c D cid kv N0 xs Ls nL Qf ρ0 n0 z0 nF zE Qq Ca pc (op_len kd nx) := by
  intro L st h hw
  unfold op_len at hw
  split at hw
  · rename_i b st
    split at hw
    · rename_i hT
      refine zW_step hw (fun ls stR ρ H locs _ _ a4 a5 a6 _ kk => ?_)
      obtain ⟨v', t', rfl, g3, g4⟩ := zSR_c a5
      obtain ⟨ws, a, e1, rfl, w1, w2, w3, w4, w5, w6⟩ := zSim_ref a6 g3 (by omega)
      have e2 := zCR_i hT h0 h1 w5
      subst e2
      exact row ls t' H locs _ _ ws a b _ _ w2 w4 (kk ls _ a4 ⟨rfl, g4⟩)
    · exact hw.elim
  · exact hw.elim
end SO
