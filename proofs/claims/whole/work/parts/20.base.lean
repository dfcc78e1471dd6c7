/-! words for the contracts -/
theorem zin_nI {t n : Nat} (h : t < n) (hn : n < 2 ^ 31) : zin (nI t) n := ⟨nI_pos (Nat.lt_trans h hn), by rw [nI_clamp (Nat.lt_trans h hn)]; exact h⟩
def bI (p : Prop) [Decidable p] : Int32 := if p then 1 else 0
theorem bI_0 (p : Prop) [Decidable p] : (bI p = 0) = ¬ p := by unfold bI; split <;> simp [*]
theorem bI_1 (p : Prop) [Decidable p] : (bI p = 1) = p := by unfold bI; split <;> simp [*]
theorem bI_t {p : Prop} [Decidable p] (h : p) : bI p = 1 := if_pos h
theorem bI_f {p : Prop} [Decidable p] (h : ¬ p) : bI p = 0 := if_neg h
theorem bI_z (p : Prop) [Decidable p] : (bI p = 0 ∨ bI p = 1) := by unfold bI; split <;> simp
theorem bI_c {p q : Prop} [Decidable p] [Decidable q] (h : p ↔ q) : bI p = bI q := by unfold bI; simp only [h]
def bB (b : Bool) : Int32 := match b with
  | true => 1
  | false => 0
theorem bB_t : bB true = 1 := rfl
theorem bB_f : bB false = 0 := rfl
theorem bB_0 (b : Bool) : (bB b = 0) = (b = false) := by cases b <;> simp [bB]
theorem bB_z (b : Bool) : bB b = 0 ∨ bB b = 1 := by cases b <;> simp [bB]
theorem up_s {α : Type} (f : Nat → α) (k : Nat) (v : α) : va_up f k v k = v := if_pos rfl
theorem up_n {α : Type} (f : Nat → α) {k j : Nat} (v : α) (h : ¬ j = k) : va_up f k v j = f j := if_neg h
theorem up_a {α : Type} (f : Nat → α) (k j : Nat) (v : α) : va_up f k v j = if j = k then v else f j := rfl
theorem up_up {α : Type} (f : Nat → α) (k : Nat) (v w : α) : va_up (va_up f k v) k w = va_up f k w := by funext j; unfold va_up; split <;> rfl
theorem up_id {α : Type} (f : Nat → α) (k : Nat) : va_up f k (f k) = f := by funext j; unfold va_up; split <;> simp_all
theorem bool_nar {x : Int32} (h : x = 0 ∨ x = 1) : vp_nar .boolean x = x := by rcases h with rfl | rfl <;> decide
example : vp_nar .boolean 0 = 0 := by decide
theorem i_le {x m : Int32} : (x ≤ m) = ¬ m < x := propext Int32.not_lt.symm
variable {d a b : Nat} {h : zH} {Q : zQq} {x y z m : Int32}
theorem zlt8 {j : Nat} (h : j < 8) (a t : Nat) : (a + j = a + 8 + t) = False := by simp; omega
theorem zlt8_ {j : Nat} (h : j < 8) (a t : Nat) : (a + 8 + t = a + j) = False := by simp; omega
theorem zlt8n (a t : Nat) : (a = a + 8 + t) = False := by simp; omega
theorem zlt8n_ (a t : Nat) : (a + 8 + t = a) = False := by simp; omega
theorem c_within : zCall (d + 1) 744 [.int x, .int m] h Q = Q (some (.int (bI (¬ x < 0 ∧ x ≤ m)))) h := by
  by_cases h1 : x < 0 <;> by_cases h2 : m < x <;> simp only [k744, g744_0, g744_1, g744_4, g744_5, g744_6, g744_9, g744_10, g744_13, g744_14, Nat.reduceEqDiff, Nat.add_eq_left, Nat.left_eq_add, Nat.reduceAdd, Nat.reduceLeDiff, Nat.reduceMul, Nat.reduceSub, Nat.reduceLT, zlt8, zlt8_, zlt8n, zlt8n_, List.length_cons, List.length_nil, true_or, or_true, false_or, or_false, and_self, and_true, true_and, and_false, false_and, not_false_eq_true, not_true_eq_false, ite_true, ite_false, if_true, if_false, ite_not, zin, zpush_s, zpush_n, kl_int, kl_ref, kl_none, kl_kl, kl_long, kl_null, h1, h2, bI, i_le]
