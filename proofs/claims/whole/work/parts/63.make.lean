/-! THE CHECKER AND THE OBJECT MADE -/
def LvB (D : Dg) (M : Mp) (f : Nat → Option Nat) (k : Int) : Prop := ∀ j : Nat, (j : Int) < k → ∃ (L : Nat) (xs : List Int), f j = some L ∧ IsLv D M L j xs
theorem LvB_0 (D : Dg) (M : Mp) (f : Nat → Option Nat) : LvB D M f 0 := fun j h => by omega
theorem LvB_step {D : Dg} {M M' : Mp} {f : Nat → Option Nat} {k : Int} {T : List Nat} {q : Nat} {xs : List Int} (h : LvB D M f k) (hf : Fr T M M') (hT : ∀ u ∈ T, u < 100 ∨ 100 + 4 * k.toNat ≤ u) (h0 : 0 ≤ k) (hq : IsLv D M' q k.toNat xs) : LvB D M' (va_up f k.toNat (some q)) (k + 1) := fun j hj => by
  by_cases hjk : j = k.toNat
  · subst hjk
    exact ⟨q, xs, by unfold va_up; rw [if_pos rfl], hq⟩
  · obtain ⟨L, ys, g1, g2⟩ := h j (by omega)
    exact ⟨L, ys, by unfold va_up; rw [if_neg hjk]; exact g1, g2.fr hf (fun u hu => by have := hT u hu; omega)⟩
theorem LvB_all {D : Dg} {M : Mp} {f : Nat → Option Nat} {k : Int} (h : LvB D M f k) (hk : 11 ≤ k) : LvA D M f 0 := fun j _ h2 => h j (by omega)
theorem LvB.fr {D : Dg} {M M' : Mp} {f : Nat → Option Nat} {k : Int} {T : List Nat} (h : LvB D M f k) (hf : Fr T M M') (hn : ∀ u ∈ T, u < 100 ∨ 100 + 4 * k ≤ u) : LvB D M' f k := fun j hj => by
  obtain ⟨L, xs, g1, g2⟩ := h j hj
  exact ⟨L, xs, g1, g2.fr hf (fun u hu => by have := hn u hu; omega)⟩
