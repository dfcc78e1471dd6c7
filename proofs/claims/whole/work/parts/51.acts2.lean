-- needs 50.acts
variable {num v : Int32} {t D D2 kd k a : Nat} {e : Int32 → Int32} {l : List Int32}
theorem PF_up (h : PF kd num v D k a e l) (hD : D ≤ D2) : PF kd num v D2 k a e l := by
  intro d h' r x dep Q A h1 h2
  have := h (d + (D2 - D)) h' r x dep Q A h1 h2
  rwa [show d + (D2 - D) + D = d + D2 by omega] at this
theorem PM_up (h : PM t kd v D k a e l) (hD : D ≤ D2) : PM t kd v D2 k a e l := by
  intro d h' r x Q A h1
  have := h (d + (D2 - D)) h' r x Q A h1
  rwa [show d + (D2 - D) + D = d + D2 by omega] at this
def Acts (kd a : Nat) : Prop := ∃ (l : List Int32) (e : Int32 → Int32 → Int32 → Int32), 1 ≤ l.length ∧ l.length ≤ 12 ∧ (∀ num v, PF kd num v 20 kd a (e num v) l) ∧ ∀ t v, PM t kd v 20 kd a (e (nI t) v) l
theorem pf_0_0_0 (num v : Int32) : PF 0 num v 2 0 0 (fun x => (x + num)) [10] := by
  have h0 : PR 0 num v 1 10 (fun x => (x + num)) [10] := by
    have z := rc_10 (kd := 0) (num := num) (v := v)
    exact z
  have h1 : PH 0 num v 1 0 0 0 (fun x => (x + num)) [10] := h_hit (D := 0) (k := 0) (a := 0) (b := 10) (m := 0) (by decide) (by decide) (by decide) (by decide) (by decide) h0
  exact h_from (D := 1) (by decide) h1
theorem pm_0_0_0 (t : Nat) (v : Int32) : PM t 0 v 2 0 0 (fun x => (x + nI t)) [10] := by
  have h0 : PMb t 0 v 1 10 (-1) (fun x => (x + nI t)) [10] := by
    have z := rm_10 (D := 0) (kd := 0) (t := t) (v := v) (up := -1)
    exact z
  have h1 : PMh t 0 v 1 0 0 (fun x => (x + nI t)) [10] := hm_hit (D := 0) (k := 0) (a := 0) (b := 10) (up := -1) (by decide) (by decide) (by decide) (by decide) (by decide) (by decide) h0
  exact hm_from (D := 1) h1
theorem acts_0_0 : Acts 0 0 := ⟨[10], fun num v x => (x + num), by decide, by decide, fun num v => PF_up (pf_0_0_0 num v) (by decide : 2 ≤ 20), fun t v => PM_up (pm_0_0_0 t v) (by decide : 2 ≤ 20)⟩
theorem pf_0_0_1 (num v : Int32) : PF 0 num v 5 0 1 (fun x => ((x + num) - v)) [11, 10] := by
  have h0 : PR 0 num v 4 11 (fun x => ((x + num) - v)) [11, 10] := by
    have z := rc_11 (kd := 0) (num := num) (v := v) (PF_up (pf_0_0_0 num v) (by decide : 2 ≤ 2))
    exact z
  have h1 : PH 0 num v 4 0 1 0 (fun x => ((x + num) - v)) [11, 10] := h_hit (D := 3) (k := 0) (a := 1) (b := 11) (m := 0) (by decide) (by decide) (by decide) (by decide) (by decide) h0
  exact h_from (D := 4) (by decide) h1
theorem pm_0_0_1 (t : Nat) (v : Int32) : PM t 0 v 5 0 1 (fun x => ((x + nI t) - v)) [11, 10] := by
  have h0 : PMb t 0 v 4 11 (-1) (fun x => ((x + nI t) - v)) [11, 10] := by
    have z := rm_11 (kd := 0) (t := t) (v := v) (up := -1) (PM_up (pm_0_0_0 t v) (by decide : 2 ≤ 2))
    exact z
  have h1 : PMh t 0 v 4 0 1 (fun x => ((x + nI t) - v)) [11, 10] := hm_hit (D := 3) (k := 0) (a := 1) (b := 11) (up := -1) (by decide) (by decide) (by decide) (by decide) (by decide) (by decide) h0
  exact hm_from (D := 4) h1
theorem acts_0_1 : Acts 0 1 := ⟨[11, 10], fun num v x => ((x + num) - v), by decide, by decide, fun num v => PF_up (pf_0_0_1 num v) (by decide : 5 ≤ 20), fun t v => PM_up (pm_0_0_1 t v) (by decide : 5 ≤ 20)⟩
theorem pf_0_0_2 (num v : Int32) : PF 0 num v 8 0 2 (fun x => (((x + num) - v) * 2)) [12, 11, 10] := by
  have h0 : PR 0 num v 7 12 (fun x => (((x + num) - v) * 2)) [12, 11, 10] := by
    have z := rc_12 (kd := 0) (num := num) (v := v) (PF_up (pf_0_0_1 num v) (by decide : 5 ≤ 5))
    exact z
  have h1 : PH 0 num v 7 0 2 0 (fun x => (((x + num) - v) * 2)) [12, 11, 10] := h_hit (D := 6) (k := 0) (a := 2) (b := 12) (m := 0) (by decide) (by decide) (by decide) (by decide) (by decide) h0
  exact h_from (D := 7) (by decide) h1
theorem pm_0_0_2 (t : Nat) (v : Int32) : PM t 0 v 8 0 2 (fun x => (((x + nI t) - v) * 2)) [12, 11, 10] := by
  have h0 : PMb t 0 v 7 12 (-1) (fun x => (((x + nI t) - v) * 2)) [12, 11, 10] := by
    have z := rm_12 (kd := 0) (t := t) (v := v) (up := -1) (PM_up (pm_0_0_1 t v) (by decide : 5 ≤ 5))
    exact z
  have h1 : PMh t 0 v 7 0 2 (fun x => (((x + nI t) - v) * 2)) [12, 11, 10] := hm_hit (D := 6) (k := 0) (a := 2) (b := 12) (up := -1) (by decide) (by decide) (by decide) (by decide) (by decide) (by decide) h0
  exact hm_from (D := 7) h1
theorem acts_0_2 : Acts 0 2 := ⟨[12, 11, 10], fun num v x => (((x + num) - v) * 2), by decide, by decide, fun num v => PF_up (pf_0_0_2 num v) (by decide : 8 ≤ 20), fun t v => PM_up (pm_0_0_2 t v) (by decide : 8 ≤ 20)⟩
theorem pf_1_1_0 (num v : Int32) : PF 1 num v 2 1 0 (fun x => (x + num)) [10] := by
  have h0 : PR 1 num v 1 10 (fun x => (x + num)) [10] := by
    have z := rc_10 (kd := 1) (num := num) (v := v)
    exact z
  have h1 : PH 1 num v 1 0 0 1 (fun x => (x + num)) [10] := h_hit (D := 0) (k := 0) (a := 0) (b := 10) (m := 1) (by decide) (by decide) (by decide) (by decide) (by decide) h0
  have h2 : PH 1 num v 1 1 0 0 (fun x => (x + num)) [10] := h_miss (D := 0) (k := 1) (a := 0) (m := 0) (k' := 0) (by decide) (by decide) (by decide) (by decide) (by decide) h1
  exact h_from (D := 1) (by decide) h2
theorem pm_1_1_0 (t : Nat) (v : Int32) : PM t 1 v 2 1 0 (fun x => (x + nI t)) [10] := by
  have h0 : PMb t 1 v 1 10 (-1) (fun x => (x + nI t)) [10] := by
    have z := rm_10 (D := 0) (kd := 1) (t := t) (v := v) (up := -1)
    exact z
  have h1 : PMh t 1 v 1 0 0 (fun x => (x + nI t)) [10] := hm_hit (D := 0) (k := 0) (a := 0) (b := 10) (up := -1) (by decide) (by decide) (by decide) (by decide) (by decide) (by decide) h0
  have h2 : PMh t 1 v 1 1 0 (fun x => (x + nI t)) [10] := hm_miss (k := 1) (a := 0) (k' := 0) (by decide) (by decide) (by decide) (by decide) h1
  exact hm_from (D := 1) h2
theorem acts_1_0 : Acts 1 0 := ⟨[10], fun num v x => (x + num), by decide, by decide, fun num v => PF_up (pf_1_1_0 num v) (by decide : 2 ≤ 20), fun t v => PM_up (pm_1_1_0 t v) (by decide : 2 ≤ 20)⟩
theorem pf_1_0_1 (num v : Int32) : PF 1 num v 5 0 1 (fun x => ((x + num) - v)) [11, 10] := by
  have h0 : PR 1 num v 4 11 (fun x => ((x + num) - v)) [11, 10] := by
    have z := rc_11 (kd := 1) (num := num) (v := v) (PF_up (pf_1_1_0 num v) (by decide : 2 ≤ 2))
    exact z
  have h1 : PH 1 num v 4 0 1 0 (fun x => ((x + num) - v)) [11, 10] := h_hit (D := 3) (k := 0) (a := 1) (b := 11) (m := 0) (by decide) (by decide) (by decide) (by decide) (by decide) h0
  exact h_from (D := 4) (by decide) h1
theorem pm_1_0_1 (t : Nat) (v : Int32) : PM t 1 v 5 0 1 (fun x => ((x + nI t) - v)) [11, 10] := by
  have h0 : PMb t 1 v 4 11 (-1) (fun x => ((x + nI t) - v)) [11, 10] := by
    have z := rm_11 (kd := 1) (t := t) (v := v) (up := -1) (PM_up (pm_1_1_0 t v) (by decide : 2 ≤ 2))
    exact z
  have h1 : PMh t 1 v 4 0 1 (fun x => ((x + nI t) - v)) [11, 10] := hm_hit (D := 3) (k := 0) (a := 1) (b := 11) (up := -1) (by decide) (by decide) (by decide) (by decide) (by decide) (by decide) h0
  exact hm_from (D := 4) h1
theorem pf_1_1_1 (num v : Int32) : PF 1 num v 8 1 1 (fun x => (((x + num) - v) ^^^ 6)) [20, 11, 10] := by
  have h0 : PR 1 num v 7 20 (fun x => (((x + num) - v) ^^^ 6)) [20, 11, 10] := by
    have z := rc_20 (kd := 1) (num := num) (v := v) (PF_up (pf_1_0_1 num v) (by decide : 5 ≤ 5))
    exact z
  have h1 : PH 1 num v 7 1 1 0 (fun x => (((x + num) - v) ^^^ 6)) [20, 11, 10] := h_hit (D := 6) (k := 1) (a := 1) (b := 20) (m := 0) (by decide) (by decide) (by decide) (by decide) (by decide) h0
  exact h_from (D := 7) (by decide) h1
theorem pm_1_1_1 (t : Nat) (v : Int32) : PM t 1 v 8 1 1 (fun x => (((x + nI t) - v) ^^^ 6)) [20, 11, 10] := by
  have h0 : PMb t 1 v 7 20 (0) (fun x => (((x + nI t) - v) ^^^ 6)) [20, 11, 10] := by
    have z := rm_20 (kd := 1) (t := t) (v := v) (PM_up (pm_1_0_1 t v) (by decide : 5 ≤ 5))
    exact z
  have h1 : PMh t 1 v 7 1 1 (fun x => (((x + nI t) - v) ^^^ 6)) [20, 11, 10] := hm_hit (D := 6) (k := 1) (a := 1) (b := 20) (up := 0) (by decide) (by decide) (by decide) (by decide) (by decide) (by decide) h0
  exact hm_from (D := 7) h1
theorem acts_1_1 : Acts 1 1 := ⟨[20, 11, 10], fun num v x => (((x + num) - v) ^^^ 6), by decide, by decide, fun num v => PF_up (pf_1_1_1 num v) (by decide : 8 ≤ 20), fun t v => PM_up (pm_1_1_1 t v) (by decide : 8 ≤ 20)⟩
theorem pf_1_1_2 (num v : Int32) : PF 1 num v 11 1 2 (fun x => ((((x + num) - v) ^^^ 6) * 2)) [12, 20, 11, 10] := by
  have h0 : PR 1 num v 10 12 (fun x => ((((x + num) - v) ^^^ 6) * 2)) [12, 20, 11, 10] := by
    have z := rc_12 (kd := 1) (num := num) (v := v) (PF_up (pf_1_1_1 num v) (by decide : 8 ≤ 8))
    exact z
  have h1 : PH 1 num v 10 0 2 1 (fun x => ((((x + num) - v) ^^^ 6) * 2)) [12, 20, 11, 10] := h_hit (D := 9) (k := 0) (a := 2) (b := 12) (m := 1) (by decide) (by decide) (by decide) (by decide) (by decide) h0
  have h2 : PH 1 num v 10 1 2 0 (fun x => ((((x + num) - v) ^^^ 6) * 2)) [12, 20, 11, 10] := h_miss (D := 9) (k := 1) (a := 2) (m := 0) (k' := 0) (by decide) (by decide) (by decide) (by decide) (by decide) h1
  exact h_from (D := 10) (by decide) h2
theorem pm_1_1_2 (t : Nat) (v : Int32) : PM t 1 v 11 1 2 (fun x => ((((x + nI t) - v) ^^^ 6) * 2)) [12, 20, 11, 10] := by
  have h0 : PMb t 1 v 10 12 (-1) (fun x => ((((x + nI t) - v) ^^^ 6) * 2)) [12, 20, 11, 10] := by
    have z := rm_12 (kd := 1) (t := t) (v := v) (up := -1) (PM_up (pm_1_1_1 t v) (by decide : 8 ≤ 8))
    exact z
  have h1 : PMh t 1 v 10 0 2 (fun x => ((((x + nI t) - v) ^^^ 6) * 2)) [12, 20, 11, 10] := hm_hit (D := 9) (k := 0) (a := 2) (b := 12) (up := -1) (by decide) (by decide) (by decide) (by decide) (by decide) (by decide) h0
  have h2 : PMh t 1 v 10 1 2 (fun x => ((((x + nI t) - v) ^^^ 6) * 2)) [12, 20, 11, 10] := hm_miss (k := 1) (a := 2) (k' := 0) (by decide) (by decide) (by decide) (by decide) h1
  exact hm_from (D := 10) h2
theorem acts_1_2 : Acts 1 2 := ⟨[12, 20, 11, 10], fun num v x => ((((x + num) - v) ^^^ 6) * 2), by decide, by decide, fun num v => PF_up (pf_1_1_2 num v) (by decide : 11 ≤ 20), fun t v => PM_up (pm_1_1_2 t v) (by decide : 11 ≤ 20)⟩
theorem pf_2_0_0 (num v : Int32) : PF 2 num v 2 0 0 (fun x => (x + num)) [10] := by
  have h0 : PR 2 num v 1 10 (fun x => (x + num)) [10] := by
    have z := rc_10 (kd := 2) (num := num) (v := v)
    exact z
  have h1 : PH 2 num v 1 0 0 0 (fun x => (x + num)) [10] := h_hit (D := 0) (k := 0) (a := 0) (b := 10) (m := 0) (by decide) (by decide) (by decide) (by decide) (by decide) h0
  exact h_from (D := 1) (by decide) h1
theorem pm_2_0_0 (t : Nat) (v : Int32) : PM t 2 v 2 0 0 (fun x => (x + nI t)) [10] := by
  have h0 : PMb t 2 v 1 10 (-1) (fun x => (x + nI t)) [10] := by
    have z := rm_10 (D := 0) (kd := 2) (t := t) (v := v) (up := -1)
    exact z
  have h1 : PMh t 2 v 1 0 0 (fun x => (x + nI t)) [10] := hm_hit (D := 0) (k := 0) (a := 0) (b := 10) (up := -1) (by decide) (by decide) (by decide) (by decide) (by decide) (by decide) h0
  exact hm_from (D := 1) h1
theorem pf_2_2_0 (num v : Int32) : PF 2 num v 5 2 0 (fun x => ((x * 3) + num)) [30, 10] := by
  have h0 : PR 2 num v 4 30 (fun x => ((x * 3) + num)) [30, 10] := by
    have z := rc_30 (kd := 2) (num := num) (v := v) (PF_up (pf_2_0_0 num v) (by decide : 2 ≤ 2))
    exact z
  have h1 : PH 2 num v 4 2 0 0 (fun x => ((x * 3) + num)) [30, 10] := h_hit (D := 3) (k := 2) (a := 0) (b := 30) (m := 0) (by decide) (by decide) (by decide) (by decide) (by decide) h0
  exact h_from (D := 4) (by decide) h1
theorem pm_2_2_0 (t : Nat) (v : Int32) : PM t 2 v 5 2 0 (fun x => ((x * 3) + nI t)) [30, 10] := by
  have h0 : PMb t 2 v 4 30 (0) (fun x => ((x * 3) + nI t)) [30, 10] := by
    have z := rm_30 (kd := 2) (t := t) (v := v) (PM_up (pm_2_0_0 t v) (by decide : 2 ≤ 2))
    exact z
  have h1 : PMh t 2 v 4 2 0 (fun x => ((x * 3) + nI t)) [30, 10] := hm_hit (D := 3) (k := 2) (a := 0) (b := 30) (up := 0) (by decide) (by decide) (by decide) (by decide) (by decide) (by decide) h0
  exact hm_from (D := 4) h1
theorem acts_2_0 : Acts 2 0 := ⟨[30, 10], fun num v x => ((x * 3) + num), by decide, by decide, fun num v => PF_up (pf_2_2_0 num v) (by decide : 5 ≤ 20), fun t v => PM_up (pm_2_2_0 t v) (by decide : 5 ≤ 20)⟩
theorem pf_2_2_1 (num v : Int32) : PF 2 num v 8 2 1 (fun x => (((x * 3) + num) - v)) [11, 30, 10] := by
  have h0 : PR 2 num v 7 11 (fun x => (((x * 3) + num) - v)) [11, 30, 10] := by
    have z := rc_11 (kd := 2) (num := num) (v := v) (PF_up (pf_2_2_0 num v) (by decide : 5 ≤ 5))
    exact z
  have h1 : PH 2 num v 7 0 1 1 (fun x => (((x * 3) + num) - v)) [11, 30, 10] := h_hit (D := 6) (k := 0) (a := 1) (b := 11) (m := 1) (by decide) (by decide) (by decide) (by decide) (by decide) h0
  have h2 : PH 2 num v 7 2 1 0 (fun x => (((x * 3) + num) - v)) [11, 30, 10] := h_miss (D := 6) (k := 2) (a := 1) (m := 0) (k' := 0) (by decide) (by decide) (by decide) (by decide) (by decide) h1
  exact h_from (D := 7) (by decide) h2
theorem pm_2_2_1 (t : Nat) (v : Int32) : PM t 2 v 8 2 1 (fun x => (((x * 3) + nI t) - v)) [11, 30, 10] := by
  have h0 : PMb t 2 v 7 11 (-1) (fun x => (((x * 3) + nI t) - v)) [11, 30, 10] := by
    have z := rm_11 (kd := 2) (t := t) (v := v) (up := -1) (PM_up (pm_2_2_0 t v) (by decide : 5 ≤ 5))
    exact z
  have h1 : PMh t 2 v 7 0 1 (fun x => (((x * 3) + nI t) - v)) [11, 30, 10] := hm_hit (D := 6) (k := 0) (a := 1) (b := 11) (up := -1) (by decide) (by decide) (by decide) (by decide) (by decide) (by decide) h0
  have h2 : PMh t 2 v 7 2 1 (fun x => (((x * 3) + nI t) - v)) [11, 30, 10] := hm_miss (k := 2) (a := 1) (k' := 0) (by decide) (by decide) (by decide) (by decide) h1
  exact hm_from (D := 7) h2
theorem acts_2_1 : Acts 2 1 := ⟨[11, 30, 10], fun num v x => (((x * 3) + num) - v), by decide, by decide, fun num v => PF_up (pf_2_2_1 num v) (by decide : 8 ≤ 20), fun t v => PM_up (pm_2_2_1 t v) (by decide : 8 ≤ 20)⟩
theorem pf_2_2_2 (num v : Int32) : PF 2 num v 11 2 2 (fun x => ((((x * 3) + num) - v) * 2)) [12, 11, 30, 10] := by
  have h0 : PR 2 num v 10 12 (fun x => ((((x * 3) + num) - v) * 2)) [12, 11, 30, 10] := by
    have z := rc_12 (kd := 2) (num := num) (v := v) (PF_up (pf_2_2_1 num v) (by decide : 8 ≤ 8))
    exact z
  have h1 : PH 2 num v 10 0 2 1 (fun x => ((((x * 3) + num) - v) * 2)) [12, 11, 30, 10] := h_hit (D := 9) (k := 0) (a := 2) (b := 12) (m := 1) (by decide) (by decide) (by decide) (by decide) (by decide) h0
  have h2 : PH 2 num v 10 2 2 0 (fun x => ((((x * 3) + num) - v) * 2)) [12, 11, 30, 10] := h_miss (D := 9) (k := 2) (a := 2) (m := 0) (k' := 0) (by decide) (by decide) (by decide) (by decide) (by decide) h1
  exact h_from (D := 10) (by decide) h2
theorem pm_2_2_2 (t : Nat) (v : Int32) : PM t 2 v 11 2 2 (fun x => ((((x * 3) + nI t) - v) * 2)) [12, 11, 30, 10] := by
  have h0 : PMb t 2 v 10 12 (-1) (fun x => ((((x * 3) + nI t) - v) * 2)) [12, 11, 30, 10] := by
    have z := rm_12 (kd := 2) (t := t) (v := v) (up := -1) (PM_up (pm_2_2_1 t v) (by decide : 8 ≤ 8))
    exact z
  have h1 : PMh t 2 v 10 0 2 (fun x => ((((x * 3) + nI t) - v) * 2)) [12, 11, 30, 10] := hm_hit (D := 9) (k := 0) (a := 2) (b := 12) (up := -1) (by decide) (by decide) (by decide) (by decide) (by decide) (by decide) h0
  have h2 : PMh t 2 v 10 2 2 (fun x => ((((x * 3) + nI t) - v) * 2)) [12, 11, 30, 10] := hm_miss (k := 2) (a := 2) (k' := 0) (by decide) (by decide) (by decide) (by decide) h1
  exact hm_from (D := 10) h2
theorem acts_2_2 : Acts 2 2 := ⟨[12, 11, 30, 10], fun num v x => ((((x * 3) + num) - v) * 2), by decide, by decide, fun num v => PF_up (pf_2_2_2 num v) (by decide : 11 ≤ 20), fun t v => PM_up (pm_2_2_2 t v) (by decide : 11 ≤ 20)⟩
theorem pf_3_3_0 (num v : Int32) : PF 3 num v 2 3 0 (fun x => (x + num)) [10] := by
  have h0 : PR 3 num v 1 10 (fun x => (x + num)) [10] := by
    have z := rc_10 (kd := 3) (num := num) (v := v)
    exact z
  have h1 : PH 3 num v 1 0 0 1 (fun x => (x + num)) [10] := h_hit (D := 0) (k := 0) (a := 0) (b := 10) (m := 1) (by decide) (by decide) (by decide) (by decide) (by decide) h0
  have h2 : PH 3 num v 1 3 0 0 (fun x => (x + num)) [10] := h_miss (D := 0) (k := 3) (a := 0) (m := 0) (k' := 0) (by decide) (by decide) (by decide) (by decide) (by decide) h1
  exact h_from (D := 1) (by decide) h2
theorem pm_3_3_0 (t : Nat) (v : Int32) : PM t 3 v 2 3 0 (fun x => (x + nI t)) [10] := by
  have h0 : PMb t 3 v 1 10 (-1) (fun x => (x + nI t)) [10] := by
    have z := rm_10 (D := 0) (kd := 3) (t := t) (v := v) (up := -1)
    exact z
  have h1 : PMh t 3 v 1 0 0 (fun x => (x + nI t)) [10] := hm_hit (D := 0) (k := 0) (a := 0) (b := 10) (up := -1) (by decide) (by decide) (by decide) (by decide) (by decide) (by decide) h0
  have h2 : PMh t 3 v 1 3 0 (fun x => (x + nI t)) [10] := hm_miss (k := 3) (a := 0) (k' := 0) (by decide) (by decide) (by decide) (by decide) h1
  exact hm_from (D := 1) h2
theorem acts_3_0 : Acts 3 0 := ⟨[10], fun num v x => (x + num), by decide, by decide, fun num v => PF_up (pf_3_3_0 num v) (by decide : 2 ≤ 20), fun t v => PM_up (pm_3_3_0 t v) (by decide : 2 ≤ 20)⟩
theorem pf_3_3_1 (num v : Int32) : PF 3 num v 5 3 1 (fun x => ((x + num) - v)) [11, 10] := by
  have h0 : PR 3 num v 4 11 (fun x => ((x + num) - v)) [11, 10] := by
    have z := rc_11 (kd := 3) (num := num) (v := v) (PF_up (pf_3_3_0 num v) (by decide : 2 ≤ 2))
    exact z
  have h1 : PH 3 num v 4 0 1 1 (fun x => ((x + num) - v)) [11, 10] := h_hit (D := 3) (k := 0) (a := 1) (b := 11) (m := 1) (by decide) (by decide) (by decide) (by decide) (by decide) h0
  have h2 : PH 3 num v 4 3 1 0 (fun x => ((x + num) - v)) [11, 10] := h_miss (D := 3) (k := 3) (a := 1) (m := 0) (k' := 0) (by decide) (by decide) (by decide) (by decide) (by decide) h1
  exact h_from (D := 4) (by decide) h2
theorem pm_3_3_1 (t : Nat) (v : Int32) : PM t 3 v 5 3 1 (fun x => ((x + nI t) - v)) [11, 10] := by
  have h0 : PMb t 3 v 4 11 (-1) (fun x => ((x + nI t) - v)) [11, 10] := by
    have z := rm_11 (kd := 3) (t := t) (v := v) (up := -1) (PM_up (pm_3_3_0 t v) (by decide : 2 ≤ 2))
    exact z
  have h1 : PMh t 3 v 4 0 1 (fun x => ((x + nI t) - v)) [11, 10] := hm_hit (D := 3) (k := 0) (a := 1) (b := 11) (up := -1) (by decide) (by decide) (by decide) (by decide) (by decide) (by decide) h0
  have h2 : PMh t 3 v 4 3 1 (fun x => ((x + nI t) - v)) [11, 10] := hm_miss (k := 3) (a := 1) (k' := 0) (by decide) (by decide) (by decide) (by decide) h1
  exact hm_from (D := 4) h2
theorem acts_3_1 : Acts 3 1 := ⟨[11, 10], fun num v x => ((x + num) - v), by decide, by decide, fun num v => PF_up (pf_3_3_1 num v) (by decide : 5 ≤ 20), fun t v => PM_up (pm_3_3_1 t v) (by decide : 5 ≤ 20)⟩
theorem pf_3_0_2 (num v : Int32) : PF 3 num v 8 0 2 (fun x => (((x + num) - v) * 2)) [12, 11, 10] := by
  have h0 : PR 3 num v 7 12 (fun x => (((x + num) - v) * 2)) [12, 11, 10] := by
    have z := rc_12 (kd := 3) (num := num) (v := v) (PF_up (pf_3_3_1 num v) (by decide : 5 ≤ 5))
    exact z
  have h1 : PH 3 num v 7 0 2 0 (fun x => (((x + num) - v) * 2)) [12, 11, 10] := h_hit (D := 6) (k := 0) (a := 2) (b := 12) (m := 0) (by decide) (by decide) (by decide) (by decide) (by decide) h0
  exact h_from (D := 7) (by decide) h1
theorem pm_3_0_2 (t : Nat) (v : Int32) : PM t 3 v 8 0 2 (fun x => (((x + nI t) - v) * 2)) [12, 11, 10] := by
  have h0 : PMb t 3 v 7 12 (-1) (fun x => (((x + nI t) - v) * 2)) [12, 11, 10] := by
    have z := rm_12 (kd := 3) (t := t) (v := v) (up := -1) (PM_up (pm_3_3_1 t v) (by decide : 5 ≤ 5))
    exact z
  have h1 : PMh t 3 v 7 0 2 (fun x => (((x + nI t) - v) * 2)) [12, 11, 10] := hm_hit (D := 6) (k := 0) (a := 2) (b := 12) (up := -1) (by decide) (by decide) (by decide) (by decide) (by decide) (by decide) h0
  exact hm_from (D := 7) h1
theorem pf_3_3_2 (num v : Int32) : PF 3 num v 11 3 2 (fun x => ((((x + num) - v) * 2) + ((1 + num) - v))) [40, 12, 11, 10, 11, 10] := by
  have h0 : PR 3 num v 10 40 (fun x => ((((x + num) - v) * 2) + ((1 + num) - v))) [40, 12, 11, 10, 11, 10] := by
    have z := rc_40 (kd := 3) (num := num) (v := v) (PF_up (pf_3_0_2 num v) (by decide : 8 ≤ 8)) (PF_up (pf_3_3_1 num v) (by decide : 5 ≤ 8))
    simpa only [List.cons_append, List.nil_append] using z
  have h1 : PH 3 num v 10 3 2 0 (fun x => ((((x + num) - v) * 2) + ((1 + num) - v))) [40, 12, 11, 10, 11, 10] := h_hit (D := 9) (k := 3) (a := 2) (b := 40) (m := 0) (by decide) (by decide) (by decide) (by decide) (by decide) h0
  exact h_from (D := 10) (by decide) h1
theorem pm_3_3_2 (t : Nat) (v : Int32) : PM t 3 v 11 3 2 (fun x => ((((x + nI t) - v) * 2) + ((1 + nI t) - v))) [40, 12, 11, 10, 11, 10] := by
  have h0 : PMb t 3 v 10 40 (0) (fun x => ((((x + nI t) - v) * 2) + ((1 + nI t) - v))) [40, 12, 11, 10, 11, 10] := by
    have z := rm_40 (kd := 3) (t := t) (v := v) (PM_up (pm_3_0_2 t v) (by decide : 8 ≤ 8)) (PM_up (pm_3_3_1 t v) (by decide : 5 ≤ 8))
    simpa only [List.cons_append, List.nil_append] using z
  have h1 : PMh t 3 v 10 3 2 (fun x => ((((x + nI t) - v) * 2) + ((1 + nI t) - v))) [40, 12, 11, 10, 11, 10] := hm_hit (D := 9) (k := 3) (a := 2) (b := 40) (up := 0) (by decide) (by decide) (by decide) (by decide) (by decide) (by decide) h0
  exact hm_from (D := 10) h1
theorem acts_3_2 : Acts 3 2 := ⟨[40, 12, 11, 10, 11, 10], fun num v x => ((((x + num) - v) * 2) + ((1 + num) - v)), by decide, by decide, fun num v => PF_up (pf_3_3_2 num v) (by decide : 11 ≤ 20), fun t v => PM_up (pm_3_3_2 t v) (by decide : 11 ≤ 20)⟩
theorem pf_4_1_0 (num v : Int32) : PF 4 num v 2 1 0 (fun x => (x + num)) [10] := by
  have h0 : PR 4 num v 1 10 (fun x => (x + num)) [10] := by
    have z := rc_10 (kd := 4) (num := num) (v := v)
    exact z
  have h1 : PH 4 num v 1 0 0 1 (fun x => (x + num)) [10] := h_hit (D := 0) (k := 0) (a := 0) (b := 10) (m := 1) (by decide) (by decide) (by decide) (by decide) (by decide) h0
  have h2 : PH 4 num v 1 1 0 0 (fun x => (x + num)) [10] := h_miss (D := 0) (k := 1) (a := 0) (m := 0) (k' := 0) (by decide) (by decide) (by decide) (by decide) (by decide) h1
  exact h_from (D := 1) (by decide) h2
theorem pm_4_1_0 (t : Nat) (v : Int32) : PM t 4 v 2 1 0 (fun x => (x + nI t)) [10] := by
  have h0 : PMb t 4 v 1 10 (-1) (fun x => (x + nI t)) [10] := by
    have z := rm_10 (D := 0) (kd := 4) (t := t) (v := v) (up := -1)
    exact z
  have h1 : PMh t 4 v 1 0 0 (fun x => (x + nI t)) [10] := hm_hit (D := 0) (k := 0) (a := 0) (b := 10) (up := -1) (by decide) (by decide) (by decide) (by decide) (by decide) (by decide) h0
  have h2 : PMh t 4 v 1 1 0 (fun x => (x + nI t)) [10] := hm_miss (k := 1) (a := 0) (k' := 0) (by decide) (by decide) (by decide) (by decide) h1
  exact hm_from (D := 1) h2
theorem pf_4_4_0 (num v : Int32) : PF 4 num v 5 4 0 (fun x => (-(x + num))) [50, 10] := by
  have h0 : PR 4 num v 4 50 (fun x => (-(x + num))) [50, 10] := by
    have z := rc_50 (kd := 4) (num := num) (v := v) (PF_up (pf_4_1_0 num v) (by decide : 2 ≤ 2))
    exact z
  have h1 : PH 4 num v 4 4 0 0 (fun x => (-(x + num))) [50, 10] := h_hit (D := 3) (k := 4) (a := 0) (b := 50) (m := 0) (by decide) (by decide) (by decide) (by decide) (by decide) h0
  exact h_from (D := 4) (by decide) h1
theorem pm_4_4_0 (t : Nat) (v : Int32) : PM t 4 v 5 4 0 (fun x => (-(x + nI t))) [50, 10] := by
  have h0 : PMb t 4 v 4 50 (1) (fun x => (-(x + nI t))) [50, 10] := by
    have z := rm_50 (kd := 4) (t := t) (v := v) (PM_up (pm_4_1_0 t v) (by decide : 2 ≤ 2))
    exact z
  have h1 : PMh t 4 v 4 4 0 (fun x => (-(x + nI t))) [50, 10] := hm_hit (D := 3) (k := 4) (a := 0) (b := 50) (up := 1) (by decide) (by decide) (by decide) (by decide) (by decide) (by decide) h0
  exact hm_from (D := 4) h1
theorem acts_4_0 : Acts 4 0 := ⟨[50, 10], fun num v x => (-(x + num)), by decide, by decide, fun num v => PF_up (pf_4_4_0 num v) (by decide : 5 ≤ 20), fun t v => PM_up (pm_4_4_0 t v) (by decide : 5 ≤ 20)⟩
theorem pf_4_0_1 (num v : Int32) : PF 4 num v 8 0 1 (fun x => ((-(x + num)) - v)) [11, 50, 10] := by
  have h0 : PR 4 num v 7 11 (fun x => ((-(x + num)) - v)) [11, 50, 10] := by
    have z := rc_11 (kd := 4) (num := num) (v := v) (PF_up (pf_4_4_0 num v) (by decide : 5 ≤ 5))
    exact z
  have h1 : PH 4 num v 7 0 1 0 (fun x => ((-(x + num)) - v)) [11, 50, 10] := h_hit (D := 6) (k := 0) (a := 1) (b := 11) (m := 0) (by decide) (by decide) (by decide) (by decide) (by decide) h0
  exact h_from (D := 7) (by decide) h1
theorem pm_4_0_1 (t : Nat) (v : Int32) : PM t 4 v 8 0 1 (fun x => ((-(x + nI t)) - v)) [11, 50, 10] := by
  have h0 : PMb t 4 v 7 11 (-1) (fun x => ((-(x + nI t)) - v)) [11, 50, 10] := by
    have z := rm_11 (kd := 4) (t := t) (v := v) (up := -1) (PM_up (pm_4_4_0 t v) (by decide : 5 ≤ 5))
    exact z
  have h1 : PMh t 4 v 7 0 1 (fun x => ((-(x + nI t)) - v)) [11, 50, 10] := hm_hit (D := 6) (k := 0) (a := 1) (b := 11) (up := -1) (by decide) (by decide) (by decide) (by decide) (by decide) (by decide) h0
  exact hm_from (D := 7) h1
theorem pf_4_1_1 (num v : Int32) : PF 4 num v 11 1 1 (fun x => (((-(x + num)) - v) ^^^ 6)) [20, 11, 50, 10] := by
  have h0 : PR 4 num v 10 20 (fun x => (((-(x + num)) - v) ^^^ 6)) [20, 11, 50, 10] := by
    have z := rc_20 (kd := 4) (num := num) (v := v) (PF_up (pf_4_0_1 num v) (by decide : 8 ≤ 8))
    exact z
  have h1 : PH 4 num v 10 1 1 0 (fun x => (((-(x + num)) - v) ^^^ 6)) [20, 11, 50, 10] := h_hit (D := 9) (k := 1) (a := 1) (b := 20) (m := 0) (by decide) (by decide) (by decide) (by decide) (by decide) h0
  exact h_from (D := 10) (by decide) h1
theorem pm_4_1_1 (t : Nat) (v : Int32) : PM t 4 v 11 1 1 (fun x => (((-(x + nI t)) - v) ^^^ 6)) [20, 11, 50, 10] := by
  have h0 : PMb t 4 v 10 20 (0) (fun x => (((-(x + nI t)) - v) ^^^ 6)) [20, 11, 50, 10] := by
    have z := rm_20 (kd := 4) (t := t) (v := v) (PM_up (pm_4_0_1 t v) (by decide : 8 ≤ 8))
    exact z
  have h1 : PMh t 4 v 10 1 1 (fun x => (((-(x + nI t)) - v) ^^^ 6)) [20, 11, 50, 10] := hm_hit (D := 9) (k := 1) (a := 1) (b := 20) (up := 0) (by decide) (by decide) (by decide) (by decide) (by decide) (by decide) h0
  exact hm_from (D := 10) h1
theorem pf_4_4_1 (num v : Int32) : PF 4 num v 14 4 1 (fun x => (((-((x + 1) + num)) - v) ^^^ 6)) [51, 20, 11, 50, 10] := by
  have h0 : PR 4 num v 13 51 (fun x => (((-((x + 1) + num)) - v) ^^^ 6)) [51, 20, 11, 50, 10] := by
    have z := rc_51 (kd := 4) (num := num) (v := v) (PF_up (pf_4_1_1 num v) (by decide : 11 ≤ 11))
    exact z
  have h1 : PH 4 num v 13 4 1 0 (fun x => (((-((x + 1) + num)) - v) ^^^ 6)) [51, 20, 11, 50, 10] := h_hit (D := 12) (k := 4) (a := 1) (b := 51) (m := 0) (by decide) (by decide) (by decide) (by decide) (by decide) h0
  exact h_from (D := 13) (by decide) h1
theorem pm_4_4_1 (t : Nat) (v : Int32) : PM t 4 v 14 4 1 (fun x => (((-((x + 1) + nI t)) - v) ^^^ 6)) [51, 20, 11, 50, 10] := by
  have h0 : PMb t 4 v 13 51 (1) (fun x => (((-((x + 1) + nI t)) - v) ^^^ 6)) [51, 20, 11, 50, 10] := by
    have z := rm_51 (kd := 4) (t := t) (v := v) (PM_up (pm_4_1_1 t v) (by decide : 11 ≤ 11))
    exact z
  have h1 : PMh t 4 v 13 4 1 (fun x => (((-((x + 1) + nI t)) - v) ^^^ 6)) [51, 20, 11, 50, 10] := hm_hit (D := 12) (k := 4) (a := 1) (b := 51) (up := 1) (by decide) (by decide) (by decide) (by decide) (by decide) (by decide) h0
  exact hm_from (D := 13) h1
theorem acts_4_1 : Acts 4 1 := ⟨[51, 20, 11, 50, 10], fun num v x => (((-((x + 1) + num)) - v) ^^^ 6), by decide, by decide, fun num v => PF_up (pf_4_4_1 num v) (by decide : 14 ≤ 20), fun t v => PM_up (pm_4_4_1 t v) (by decide : 14 ≤ 20)⟩
theorem pf_4_4_2 (num v : Int32) : PF 4 num v 17 4 2 (fun x => ((((-((x + 1) + num)) - v) ^^^ 6) * 2)) [12, 51, 20, 11, 50, 10] := by
  have h0 : PR 4 num v 16 12 (fun x => ((((-((x + 1) + num)) - v) ^^^ 6) * 2)) [12, 51, 20, 11, 50, 10] := by
    have z := rc_12 (kd := 4) (num := num) (v := v) (PF_up (pf_4_4_1 num v) (by decide : 14 ≤ 14))
    exact z
  have h1 : PH 4 num v 16 0 2 2 (fun x => ((((-((x + 1) + num)) - v) ^^^ 6) * 2)) [12, 51, 20, 11, 50, 10] := h_hit (D := 15) (k := 0) (a := 2) (b := 12) (m := 2) (by decide) (by decide) (by decide) (by decide) (by decide) h0
  have h2 : PH 4 num v 16 1 2 1 (fun x => ((((-((x + 1) + num)) - v) ^^^ 6) * 2)) [12, 51, 20, 11, 50, 10] := h_miss (D := 15) (k := 1) (a := 2) (m := 1) (k' := 0) (by decide) (by decide) (by decide) (by decide) (by decide) h1
  have h3 : PH 4 num v 16 4 2 0 (fun x => ((((-((x + 1) + num)) - v) ^^^ 6) * 2)) [12, 51, 20, 11, 50, 10] := h_miss (D := 15) (k := 4) (a := 2) (m := 0) (k' := 1) (by decide) (by decide) (by decide) (by decide) (by decide) h2
  exact h_from (D := 16) (by decide) h3
theorem pm_4_4_2 (t : Nat) (v : Int32) : PM t 4 v 17 4 2 (fun x => ((((-((x + 1) + nI t)) - v) ^^^ 6) * 2)) [12, 51, 20, 11, 50, 10] := by
  have h0 : PMb t 4 v 16 12 (-1) (fun x => ((((-((x + 1) + nI t)) - v) ^^^ 6) * 2)) [12, 51, 20, 11, 50, 10] := by
    have z := rm_12 (kd := 4) (t := t) (v := v) (up := -1) (PM_up (pm_4_4_1 t v) (by decide : 14 ≤ 14))
    exact z
  have h1 : PMh t 4 v 16 0 2 (fun x => ((((-((x + 1) + nI t)) - v) ^^^ 6) * 2)) [12, 51, 20, 11, 50, 10] := hm_hit (D := 15) (k := 0) (a := 2) (b := 12) (up := -1) (by decide) (by decide) (by decide) (by decide) (by decide) (by decide) h0
  have h2 : PMh t 4 v 16 1 2 (fun x => ((((-((x + 1) + nI t)) - v) ^^^ 6) * 2)) [12, 51, 20, 11, 50, 10] := hm_miss (k := 1) (a := 2) (k' := 0) (by decide) (by decide) (by decide) (by decide) h1
  have h3 : PMh t 4 v 16 4 2 (fun x => ((((-((x + 1) + nI t)) - v) ^^^ 6) * 2)) [12, 51, 20, 11, 50, 10] := hm_miss (k := 4) (a := 2) (k' := 1) (by decide) (by decide) (by decide) (by decide) h2
  exact hm_from (D := 16) h3
theorem acts_4_2 : Acts 4 2 := ⟨[12, 51, 20, 11, 50, 10], fun num v x => ((((-((x + 1) + num)) - v) ^^^ 6) * 2), by decide, by decide, fun num v => PF_up (pf_4_4_2 num v) (by decide : 17 ≤ 20), fun t v => PM_up (pm_4_4_2 t v) (by decide : 17 ≤ 20)⟩
theorem pf_5_0_0 (num v : Int32) : PF 5 num v 2 0 0 (fun x => (x + num)) [10] := by
  have h0 : PR 5 num v 1 10 (fun x => (x + num)) [10] := by
    have z := rc_10 (kd := 5) (num := num) (v := v)
    exact z
  have h1 : PH 5 num v 1 0 0 0 (fun x => (x + num)) [10] := h_hit (D := 0) (k := 0) (a := 0) (b := 10) (m := 0) (by decide) (by decide) (by decide) (by decide) (by decide) h0
  exact h_from (D := 1) (by decide) h1
theorem pm_5_0_0 (t : Nat) (v : Int32) : PM t 5 v 2 0 0 (fun x => (x + nI t)) [10] := by
  have h0 : PMb t 5 v 1 10 (-1) (fun x => (x + nI t)) [10] := by
    have z := rm_10 (D := 0) (kd := 5) (t := t) (v := v) (up := -1)
    exact z
  have h1 : PMh t 5 v 1 0 0 (fun x => (x + nI t)) [10] := hm_hit (D := 0) (k := 0) (a := 0) (b := 10) (up := -1) (by decide) (by decide) (by decide) (by decide) (by decide) (by decide) h0
  exact hm_from (D := 1) h1
theorem pf_5_5_0 (num v : Int32) : PF 5 num v 5 5 0 (fun x => ((x * 3) + num)) [30, 10] := by
  have h0 : PR 5 num v 4 30 (fun x => ((x * 3) + num)) [30, 10] := by
    have z := rc_30 (kd := 5) (num := num) (v := v) (PF_up (pf_5_0_0 num v) (by decide : 2 ≤ 2))
    exact z
  have h1 : PH 5 num v 4 2 0 1 (fun x => ((x * 3) + num)) [30, 10] := h_hit (D := 3) (k := 2) (a := 0) (b := 30) (m := 1) (by decide) (by decide) (by decide) (by decide) (by decide) h0
  have h2 : PH 5 num v 4 5 0 0 (fun x => ((x * 3) + num)) [30, 10] := h_miss (D := 3) (k := 5) (a := 0) (m := 0) (k' := 2) (by decide) (by decide) (by decide) (by decide) (by decide) h1
  exact h_from (D := 4) (by decide) h2
theorem pm_5_5_0 (t : Nat) (v : Int32) : PM t 5 v 5 5 0 (fun x => ((x * 3) + nI t)) [30, 10] := by
  have h0 : PMb t 5 v 4 30 (0) (fun x => ((x * 3) + nI t)) [30, 10] := by
    have z := rm_30 (kd := 5) (t := t) (v := v) (PM_up (pm_5_0_0 t v) (by decide : 2 ≤ 2))
    exact z
  have h1 : PMh t 5 v 4 2 0 (fun x => ((x * 3) + nI t)) [30, 10] := hm_hit (D := 3) (k := 2) (a := 0) (b := 30) (up := 0) (by decide) (by decide) (by decide) (by decide) (by decide) (by decide) h0
  have h2 : PMh t 5 v 4 5 0 (fun x => ((x * 3) + nI t)) [30, 10] := hm_miss (k := 5) (a := 0) (k' := 2) (by decide) (by decide) (by decide) (by decide) h1
  exact hm_from (D := 4) h2
theorem acts_5_0 : Acts 5 0 := ⟨[30, 10], fun num v x => ((x * 3) + num), by decide, by decide, fun num v => PF_up (pf_5_5_0 num v) (by decide : 5 ≤ 20), fun t v => PM_up (pm_5_5_0 t v) (by decide : 5 ≤ 20)⟩
theorem pf_5_5_1 (num v : Int32) : PF 5 num v 8 5 1 (fun x => (((x * 3) + num) - v)) [11, 30, 10] := by
  have h0 : PR 5 num v 7 11 (fun x => (((x * 3) + num) - v)) [11, 30, 10] := by
    have z := rc_11 (kd := 5) (num := num) (v := v) (PF_up (pf_5_5_0 num v) (by decide : 5 ≤ 5))
    exact z
  have h1 : PH 5 num v 7 0 1 2 (fun x => (((x * 3) + num) - v)) [11, 30, 10] := h_hit (D := 6) (k := 0) (a := 1) (b := 11) (m := 2) (by decide) (by decide) (by decide) (by decide) (by decide) h0
  have h2 : PH 5 num v 7 2 1 1 (fun x => (((x * 3) + num) - v)) [11, 30, 10] := h_miss (D := 6) (k := 2) (a := 1) (m := 1) (k' := 0) (by decide) (by decide) (by decide) (by decide) (by decide) h1
  have h3 : PH 5 num v 7 5 1 0 (fun x => (((x * 3) + num) - v)) [11, 30, 10] := h_miss (D := 6) (k := 5) (a := 1) (m := 0) (k' := 2) (by decide) (by decide) (by decide) (by decide) (by decide) h2
  exact h_from (D := 7) (by decide) h3
theorem pm_5_5_1 (t : Nat) (v : Int32) : PM t 5 v 8 5 1 (fun x => (((x * 3) + nI t) - v)) [11, 30, 10] := by
  have h0 : PMb t 5 v 7 11 (-1) (fun x => (((x * 3) + nI t) - v)) [11, 30, 10] := by
    have z := rm_11 (kd := 5) (t := t) (v := v) (up := -1) (PM_up (pm_5_5_0 t v) (by decide : 5 ≤ 5))
    exact z
  have h1 : PMh t 5 v 7 0 1 (fun x => (((x * 3) + nI t) - v)) [11, 30, 10] := hm_hit (D := 6) (k := 0) (a := 1) (b := 11) (up := -1) (by decide) (by decide) (by decide) (by decide) (by decide) (by decide) h0
  have h2 : PMh t 5 v 7 2 1 (fun x => (((x * 3) + nI t) - v)) [11, 30, 10] := hm_miss (k := 2) (a := 1) (k' := 0) (by decide) (by decide) (by decide) (by decide) h1
  have h3 : PMh t 5 v 7 5 1 (fun x => (((x * 3) + nI t) - v)) [11, 30, 10] := hm_miss (k := 5) (a := 1) (k' := 2) (by decide) (by decide) (by decide) (by decide) h2
  exact hm_from (D := 7) h3
theorem acts_5_1 : Acts 5 1 := ⟨[11, 30, 10], fun num v x => (((x * 3) + num) - v), by decide, by decide, fun num v => PF_up (pf_5_5_1 num v) (by decide : 8 ≤ 20), fun t v => PM_up (pm_5_5_1 t v) (by decide : 8 ≤ 20)⟩
theorem pf_5_2_2 (num v : Int32) : PF 5 num v 11 2 2 (fun x => ((((x * 3) + num) - v) * 2)) [12, 11, 30, 10] := by
  have h0 : PR 5 num v 10 12 (fun x => ((((x * 3) + num) - v) * 2)) [12, 11, 30, 10] := by
    have z := rc_12 (kd := 5) (num := num) (v := v) (PF_up (pf_5_5_1 num v) (by decide : 8 ≤ 8))
    exact z
  have h1 : PH 5 num v 10 0 2 1 (fun x => ((((x * 3) + num) - v) * 2)) [12, 11, 30, 10] := h_hit (D := 9) (k := 0) (a := 2) (b := 12) (m := 1) (by decide) (by decide) (by decide) (by decide) (by decide) h0
  have h2 : PH 5 num v 10 2 2 0 (fun x => ((((x * 3) + num) - v) * 2)) [12, 11, 30, 10] := h_miss (D := 9) (k := 2) (a := 2) (m := 0) (k' := 0) (by decide) (by decide) (by decide) (by decide) (by decide) h1
  exact h_from (D := 10) (by decide) h2
theorem pm_5_2_2 (t : Nat) (v : Int32) : PM t 5 v 11 2 2 (fun x => ((((x * 3) + nI t) - v) * 2)) [12, 11, 30, 10] := by
  have h0 : PMb t 5 v 10 12 (-1) (fun x => ((((x * 3) + nI t) - v) * 2)) [12, 11, 30, 10] := by
    have z := rm_12 (kd := 5) (t := t) (v := v) (up := -1) (PM_up (pm_5_5_1 t v) (by decide : 8 ≤ 8))
    exact z
  have h1 : PMh t 5 v 10 0 2 (fun x => ((((x * 3) + nI t) - v) * 2)) [12, 11, 30, 10] := hm_hit (D := 9) (k := 0) (a := 2) (b := 12) (up := -1) (by decide) (by decide) (by decide) (by decide) (by decide) (by decide) h0
  have h2 : PMh t 5 v 10 2 2 (fun x => ((((x * 3) + nI t) - v) * 2)) [12, 11, 30, 10] := hm_miss (k := 2) (a := 2) (k' := 0) (by decide) (by decide) (by decide) (by decide) h1
  exact hm_from (D := 10) h2
theorem pf_5_5_2 (num v : Int32) : PF 5 num v 14 5 2 (fun x => (((((x - num) * 3) + num) - v) * 2)) [60, 12, 11, 30, 10] := by
  have h0 : PR 5 num v 13 60 (fun x => (((((x - num) * 3) + num) - v) * 2)) [60, 12, 11, 30, 10] := by
    have z := rc_60 (kd := 5) (num := num) (v := v) (PF_up (pf_5_2_2 num v) (by decide : 11 ≤ 11))
    exact z
  have h1 : PH 5 num v 13 5 2 0 (fun x => (((((x - num) * 3) + num) - v) * 2)) [60, 12, 11, 30, 10] := h_hit (D := 12) (k := 5) (a := 2) (b := 60) (m := 0) (by decide) (by decide) (by decide) (by decide) (by decide) h0
  exact h_from (D := 13) (by decide) h1
theorem pm_5_5_2 (t : Nat) (v : Int32) : PM t 5 v 14 5 2 (fun x => (((((x - nI t) * 3) + nI t) - v) * 2)) [60, 12, 11, 30, 10] := by
  have h0 : PMb t 5 v 13 60 (2) (fun x => (((((x - nI t) * 3) + nI t) - v) * 2)) [60, 12, 11, 30, 10] := by
    have z := rm_60 (kd := 5) (t := t) (v := v) (PM_up (pm_5_2_2 t v) (by decide : 11 ≤ 11))
    exact z
  have h1 : PMh t 5 v 13 5 2 (fun x => (((((x - nI t) * 3) + nI t) - v) * 2)) [60, 12, 11, 30, 10] := hm_hit (D := 12) (k := 5) (a := 2) (b := 60) (up := 2) (by decide) (by decide) (by decide) (by decide) (by decide) (by decide) h0
  exact hm_from (D := 13) h1
theorem acts_5_2 : Acts 5 2 := ⟨[60, 12, 11, 30, 10], fun num v x => (((((x - num) * 3) + num) - v) * 2), by decide, by decide, fun num v => PF_up (pf_5_5_2 num v) (by decide : 14 ≤ 20), fun t v => PM_up (pm_5_5_2 t v) (by decide : 14 ≤ 20)⟩
theorem pf_6_3_0 (num v : Int32) : PF 6 num v 2 3 0 (fun x => (x + num)) [10] := by
  have h0 : PR 6 num v 1 10 (fun x => (x + num)) [10] := by
    have z := rc_10 (kd := 6) (num := num) (v := v)
    exact z
  have h1 : PH 6 num v 1 0 0 1 (fun x => (x + num)) [10] := h_hit (D := 0) (k := 0) (a := 0) (b := 10) (m := 1) (by decide) (by decide) (by decide) (by decide) (by decide) h0
  have h2 : PH 6 num v 1 3 0 0 (fun x => (x + num)) [10] := h_miss (D := 0) (k := 3) (a := 0) (m := 0) (k' := 0) (by decide) (by decide) (by decide) (by decide) (by decide) h1
  exact h_from (D := 1) (by decide) h2
theorem pm_6_3_0 (t : Nat) (v : Int32) : PM t 6 v 2 3 0 (fun x => (x + nI t)) [10] := by
  have h0 : PMb t 6 v 1 10 (-1) (fun x => (x + nI t)) [10] := by
    have z := rm_10 (D := 0) (kd := 6) (t := t) (v := v) (up := -1)
    exact z
  have h1 : PMh t 6 v 1 0 0 (fun x => (x + nI t)) [10] := hm_hit (D := 0) (k := 0) (a := 0) (b := 10) (up := -1) (by decide) (by decide) (by decide) (by decide) (by decide) (by decide) h0
  have h2 : PMh t 6 v 1 3 0 (fun x => (x + nI t)) [10] := hm_miss (k := 3) (a := 0) (k' := 0) (by decide) (by decide) (by decide) (by decide) h1
  exact hm_from (D := 1) h2
theorem pf_6_6_0 (num v : Int32) : PF 6 num v 5 6 0 (fun x => ((x + num) ^^^ v)) [71, 10] := by
  have h0 : PR 6 num v 4 71 (fun x => ((x + num) ^^^ v)) [71, 10] := by
    have z := rc_71 (kd := 6) (num := num) (v := v) (PF_up (pf_6_3_0 num v) (by decide : 2 ≤ 2))
    exact z
  have h1 : PH 6 num v 4 6 0 0 (fun x => ((x + num) ^^^ v)) [71, 10] := h_hit (D := 3) (k := 6) (a := 0) (b := 71) (m := 0) (by decide) (by decide) (by decide) (by decide) (by decide) h0
  exact h_from (D := 4) (by decide) h1
theorem pm_6_6_0 (t : Nat) (v : Int32) : PM t 6 v 5 6 0 (fun x => ((x + nI t) ^^^ v)) [71, 10] := by
  have h0 : PMb t 6 v 4 71 (3) (fun x => ((x + nI t) ^^^ v)) [71, 10] := by
    have z := rm_71 (kd := 6) (t := t) (v := v) (PM_up (pm_6_3_0 t v) (by decide : 2 ≤ 2))
    exact z
  have h1 : PMh t 6 v 4 6 0 (fun x => ((x + nI t) ^^^ v)) [71, 10] := hm_hit (D := 3) (k := 6) (a := 0) (b := 71) (up := 3) (by decide) (by decide) (by decide) (by decide) (by decide) (by decide) h0
  exact hm_from (D := 4) h1
theorem acts_6_0 : Acts 6 0 := ⟨[71, 10], fun num v x => ((x + num) ^^^ v), by decide, by decide, fun num v => PF_up (pf_6_6_0 num v) (by decide : 5 ≤ 20), fun t v => PM_up (pm_6_6_0 t v) (by decide : 5 ≤ 20)⟩
theorem pf_6_3_1 (num v : Int32) : PF 6 num v 8 3 1 (fun x => (((x + num) ^^^ v) - v)) [11, 71, 10] := by
  have h0 : PR 6 num v 7 11 (fun x => (((x + num) ^^^ v) - v)) [11, 71, 10] := by
    have z := rc_11 (kd := 6) (num := num) (v := v) (PF_up (pf_6_6_0 num v) (by decide : 5 ≤ 5))
    exact z
  have h1 : PH 6 num v 7 0 1 1 (fun x => (((x + num) ^^^ v) - v)) [11, 71, 10] := h_hit (D := 6) (k := 0) (a := 1) (b := 11) (m := 1) (by decide) (by decide) (by decide) (by decide) (by decide) h0
  have h2 : PH 6 num v 7 3 1 0 (fun x => (((x + num) ^^^ v) - v)) [11, 71, 10] := h_miss (D := 6) (k := 3) (a := 1) (m := 0) (k' := 0) (by decide) (by decide) (by decide) (by decide) (by decide) h1
  exact h_from (D := 7) (by decide) h2
theorem pm_6_3_1 (t : Nat) (v : Int32) : PM t 6 v 8 3 1 (fun x => (((x + nI t) ^^^ v) - v)) [11, 71, 10] := by
  have h0 : PMb t 6 v 7 11 (-1) (fun x => (((x + nI t) ^^^ v) - v)) [11, 71, 10] := by
    have z := rm_11 (kd := 6) (t := t) (v := v) (up := -1) (PM_up (pm_6_6_0 t v) (by decide : 5 ≤ 5))
    exact z
  have h1 : PMh t 6 v 7 0 1 (fun x => (((x + nI t) ^^^ v) - v)) [11, 71, 10] := hm_hit (D := 6) (k := 0) (a := 1) (b := 11) (up := -1) (by decide) (by decide) (by decide) (by decide) (by decide) (by decide) h0
  have h2 : PMh t 6 v 7 3 1 (fun x => (((x + nI t) ^^^ v) - v)) [11, 71, 10] := hm_miss (k := 3) (a := 1) (k' := 0) (by decide) (by decide) (by decide) (by decide) h1
  exact hm_from (D := 7) h2
theorem pf_6_6_1 (num v : Int32) : PF 6 num v 11 6 1 (fun x => ((((x + num) ^^^ v) - v) + (2 + num))) [70, 11, 71, 10, 10] := by
  have h0 : PR 6 num v 10 70 (fun x => ((((x + num) ^^^ v) - v) + (2 + num))) [70, 11, 71, 10, 10] := by
    have z := rc_70 (kd := 6) (num := num) (v := v) (PF_up (pf_6_3_1 num v) (by decide : 8 ≤ 8)) (PF_up (pf_6_3_0 num v) (by decide : 2 ≤ 8))
    simpa only [List.cons_append, List.nil_append] using z
  have h1 : PH 6 num v 10 6 1 0 (fun x => ((((x + num) ^^^ v) - v) + (2 + num))) [70, 11, 71, 10, 10] := h_hit (D := 9) (k := 6) (a := 1) (b := 70) (m := 0) (by decide) (by decide) (by decide) (by decide) (by decide) h0
  exact h_from (D := 10) (by decide) h1
theorem pm_6_6_1 (t : Nat) (v : Int32) : PM t 6 v 11 6 1 (fun x => ((((x + nI t) ^^^ v) - v) + (2 + nI t))) [70, 11, 71, 10, 10] := by
  have h0 : PMb t 6 v 10 70 (3) (fun x => ((((x + nI t) ^^^ v) - v) + (2 + nI t))) [70, 11, 71, 10, 10] := by
    have z := rm_70 (kd := 6) (t := t) (v := v) (PM_up (pm_6_3_1 t v) (by decide : 8 ≤ 8)) (PM_up (pm_6_3_0 t v) (by decide : 2 ≤ 8))
    simpa only [List.cons_append, List.nil_append] using z
  have h1 : PMh t 6 v 10 6 1 (fun x => ((((x + nI t) ^^^ v) - v) + (2 + nI t))) [70, 11, 71, 10, 10] := hm_hit (D := 9) (k := 6) (a := 1) (b := 70) (up := 3) (by decide) (by decide) (by decide) (by decide) (by decide) (by decide) h0
  exact hm_from (D := 10) h1
theorem acts_6_1 : Acts 6 1 := ⟨[70, 11, 71, 10, 10], fun num v x => ((((x + num) ^^^ v) - v) + (2 + num)), by decide, by decide, fun num v => PF_up (pf_6_6_1 num v) (by decide : 11 ≤ 20), fun t v => PM_up (pm_6_6_1 t v) (by decide : 11 ≤ 20)⟩
theorem pf_6_0_2 (num v : Int32) : PF 6 num v 14 0 2 (fun x => (((((x + num) ^^^ v) - v) + (2 + num)) * 2)) [12, 70, 11, 71, 10, 10] := by
  have h0 : PR 6 num v 13 12 (fun x => (((((x + num) ^^^ v) - v) + (2 + num)) * 2)) [12, 70, 11, 71, 10, 10] := by
    have z := rc_12 (kd := 6) (num := num) (v := v) (PF_up (pf_6_6_1 num v) (by decide : 11 ≤ 11))
    exact z
  have h1 : PH 6 num v 13 0 2 0 (fun x => (((((x + num) ^^^ v) - v) + (2 + num)) * 2)) [12, 70, 11, 71, 10, 10] := h_hit (D := 12) (k := 0) (a := 2) (b := 12) (m := 0) (by decide) (by decide) (by decide) (by decide) (by decide) h0
  exact h_from (D := 13) (by decide) h1
theorem pm_6_0_2 (t : Nat) (v : Int32) : PM t 6 v 14 0 2 (fun x => (((((x + nI t) ^^^ v) - v) + (2 + nI t)) * 2)) [12, 70, 11, 71, 10, 10] := by
  have h0 : PMb t 6 v 13 12 (-1) (fun x => (((((x + nI t) ^^^ v) - v) + (2 + nI t)) * 2)) [12, 70, 11, 71, 10, 10] := by
    have z := rm_12 (kd := 6) (t := t) (v := v) (up := -1) (PM_up (pm_6_6_1 t v) (by decide : 11 ≤ 11))
    exact z
  have h1 : PMh t 6 v 13 0 2 (fun x => (((((x + nI t) ^^^ v) - v) + (2 + nI t)) * 2)) [12, 70, 11, 71, 10, 10] := hm_hit (D := 12) (k := 0) (a := 2) (b := 12) (up := -1) (by decide) (by decide) (by decide) (by decide) (by decide) (by decide) h0
  exact hm_from (D := 13) h1
theorem pf_6_6_2 (num v : Int32) : PF 6 num v 17 6 2 (fun x => ((((((x + num) ^^^ v) - v) + (2 + num)) * 2) + ((((1 + num) ^^^ v) - v) + (2 + num)))) [40, 12, 70, 11, 71, 10, 10, 70, 11, 71, 10, 10] := by
  have h0 : PR 6 num v 16 40 (fun x => ((((((x + num) ^^^ v) - v) + (2 + num)) * 2) + ((((1 + num) ^^^ v) - v) + (2 + num)))) [40, 12, 70, 11, 71, 10, 10, 70, 11, 71, 10, 10] := by
    have z := rc_40 (kd := 6) (num := num) (v := v) (PF_up (pf_6_0_2 num v) (by decide : 14 ≤ 14)) (PF_up (pf_6_6_1 num v) (by decide : 11 ≤ 14))
    simpa only [List.cons_append, List.nil_append] using z
  have h1 : PH 6 num v 16 3 2 1 (fun x => ((((((x + num) ^^^ v) - v) + (2 + num)) * 2) + ((((1 + num) ^^^ v) - v) + (2 + num)))) [40, 12, 70, 11, 71, 10, 10, 70, 11, 71, 10, 10] := h_hit (D := 15) (k := 3) (a := 2) (b := 40) (m := 1) (by decide) (by decide) (by decide) (by decide) (by decide) h0
  have h2 : PH 6 num v 16 6 2 0 (fun x => ((((((x + num) ^^^ v) - v) + (2 + num)) * 2) + ((((1 + num) ^^^ v) - v) + (2 + num)))) [40, 12, 70, 11, 71, 10, 10, 70, 11, 71, 10, 10] := h_miss (D := 15) (k := 6) (a := 2) (m := 0) (k' := 3) (by decide) (by decide) (by decide) (by decide) (by decide) h1
  exact h_from (D := 16) (by decide) h2
theorem pm_6_6_2 (t : Nat) (v : Int32) : PM t 6 v 17 6 2 (fun x => ((((((x + nI t) ^^^ v) - v) + (2 + nI t)) * 2) + ((((1 + nI t) ^^^ v) - v) + (2 + nI t)))) [40, 12, 70, 11, 71, 10, 10, 70, 11, 71, 10, 10] := by
  have h0 : PMb t 6 v 16 40 (0) (fun x => ((((((x + nI t) ^^^ v) - v) + (2 + nI t)) * 2) + ((((1 + nI t) ^^^ v) - v) + (2 + nI t)))) [40, 12, 70, 11, 71, 10, 10, 70, 11, 71, 10, 10] := by
    have z := rm_40 (kd := 6) (t := t) (v := v) (PM_up (pm_6_0_2 t v) (by decide : 14 ≤ 14)) (PM_up (pm_6_6_1 t v) (by decide : 11 ≤ 14))
    simpa only [List.cons_append, List.nil_append] using z
  have h1 : PMh t 6 v 16 3 2 (fun x => ((((((x + nI t) ^^^ v) - v) + (2 + nI t)) * 2) + ((((1 + nI t) ^^^ v) - v) + (2 + nI t)))) [40, 12, 70, 11, 71, 10, 10, 70, 11, 71, 10, 10] := hm_hit (D := 15) (k := 3) (a := 2) (b := 40) (up := 0) (by decide) (by decide) (by decide) (by decide) (by decide) (by decide) h0
  have h2 : PMh t 6 v 16 6 2 (fun x => ((((((x + nI t) ^^^ v) - v) + (2 + nI t)) * 2) + ((((1 + nI t) ^^^ v) - v) + (2 + nI t)))) [40, 12, 70, 11, 71, 10, 10, 70, 11, 71, 10, 10] := hm_miss (k := 6) (a := 2) (k' := 3) (by decide) (by decide) (by decide) (by decide) h1
  exact hm_from (D := 16) h2
theorem acts_6_2 : Acts 6 2 := ⟨[40, 12, 70, 11, 71, 10, 10, 70, 11, 71, 10, 10], fun num v x => ((((((x + num) ^^^ v) - v) + (2 + num)) * 2) + ((((1 + num) ^^^ v) - v) + (2 + num))), by decide, by decide, fun num v => PF_up (pf_6_6_2 num v) (by decide : 17 ≤ 20), fun t v => PM_up (pm_6_6_2 t v) (by decide : 17 ≤ 20)⟩
theorem acts_all : ∀ kd a, kd < 7 → a < 3 → Acts kd a
  | 0, 0, _, _ => acts_0_0
  | 0, 1, _, _ => acts_0_1
  | 0, 2, _, _ => acts_0_2
  | 1, 0, _, _ => acts_1_0
  | 1, 1, _, _ => acts_1_1
  | 1, 2, _, _ => acts_1_2
  | 2, 0, _, _ => acts_2_0
  | 2, 1, _, _ => acts_2_1
  | 2, 2, _, _ => acts_2_2
  | 3, 0, _, _ => acts_3_0
  | 3, 1, _, _ => acts_3_1
  | 3, 2, _, _ => acts_3_2
  | 4, 0, _, _ => acts_4_0
  | 4, 1, _, _ => acts_4_1
  | 4, 2, _, _ => acts_4_2
  | 5, 0, _, _ => acts_5_0
  | 5, 1, _, _ => acts_5_1
  | 5, 2, _, _ => acts_5_2
  | 6, 0, _, _ => acts_6_0
  | 6, 1, _, _ => acts_6_1
  | 6, 2, _, _ => acts_6_2
  | k + 7, _, h, _ => absurd h (by omega)
  | 0, a + 3, _, h => absurd h (by omega)
  | 1, a + 3, _, h => absurd h (by omega)
  | 2, a + 3, _, h => absurd h (by omega)
  | 3, a + 3, _, h => absurd h (by omega)
  | 4, a + 3, _, h => absurd h (by omega)
  | 5, a + 3, _, h => absurd h (by omega)
  | 6, a + 3, _, h => absurd h (by omega)
