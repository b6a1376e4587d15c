/-! EXPAND, as the reference answers -/
def rexO (xs : List Int) (so : Option Snd) : Option (List Int) := match so with
  | none => none
  | some sd => if targS xs 0 xs.length = true then some ((expL sd sd.2.1 xs xs.length 0).take 20000) else none
/-- neither is ever cut off -/
theorem rex_exp {ob tb : Bv} {so : Option Snd} (hl : tb.2.length ≤ 800) (hs : ∀ sd, so = some sd → sndP sd) : (expO ob tb so).map (fun b => b.2) = rexO tb.2 so := by
  cases so with
  | none => rfl
  | some sd =>
    have h := hs sd rfl
    cases ht : targS tb.2 0 tb.2.length with
    | false =>
      rw [expO_f ht]
      unfold rexO
      dsimp only
      rw [if_neg (nt ht)]
      rfl
    | true =>
      rw [expO_t ht]
      unfold rexO
      dsimp only
      rw [if_pos ht]
      show some (wrL 18200 sd sd.2.1 tb.2 tb.2.length 0 (ob.1, [])).2 = _
      rw [wr_take (by omega)]
      have h3 := h.2.2.2
      have h1 := expL_len (s := sd) (chk := sd.2.1) (xs := tb.2) (to := tb.2.length) (fun c => srcS_len h (by omega)) _ 0 (Nat.lt_succ_self _)
      rw [List.take_of_length_le (by omega), List.take_of_length_le (by omega)]
/-! THE REFERENCE MADE -/
def meT : List Nat := (List.range 160).map (fun i => 600 + i)
theorem mem_meT {t : Nat} : t ∈ meT ↔ 600 ≤ t ∧ t < 760 := by
  unfold meT
  rw [List.mem_map]
  constructor
  · rintro ⟨i, hi, rfl⟩
    rw [List.mem_range] at hi
    omega
  · rintro ⟨h1, h2⟩
    exact ⟨t - 600, by rw [List.mem_range]; omega, by omega⟩
def MdB (D : Dg) (M : Mp) (fn fv : Nat → Option Nat) (k : Int) : Prop := ∀ j : Nat, (j : Int) < k → ∃ t u : Nat, fn j = some t ∧ fv j = some u ∧ IsT D M t (600 + 4 * j) 60 [] ∧ IsT D M u (600 + 4 * j + 2) 700 []
theorem MdB_0 (D : Dg) (M : Mp) (fn fv : Nat → Option Nat) : MdB D M fn fv 0 := fun j h => by omega
theorem MdB.fr {D : Dg} {M M' : Mp} {fn fv : Nat → Option Nat} {k : Int} {T : List Nat} (h : MdB D M fn fv k) (hf : Fr T M M') (hT : ∀ u ∈ T, u < 600 ∨ 600 + 4 * k ≤ u) : MdB D M' fn fv k := fun j hj => by
  obtain ⟨t, u, g1, g2, g3, g4⟩ := h j hj
  exact ⟨t, u, g1, g2, g3.fr hf (fun z => by have := hT _ z; omega) (fun z => by have := hT _ z; omega), g4.fr hf (fun z => by have := hT _ z; omega) (fun z => by have := hT _ z; omega)⟩
theorem MdB_step {D : Dg} {M M' : Mp} {fn fv : Nat → Option Nat} {k : Int} {T : List Nat} {t u : Nat} (h : MdB D M fn fv k) (hf : Fr T M M') (hT : ∀ u ∈ T, u < 600 ∨ 600 + 4 * k ≤ u) (h0 : 0 ≤ k) (ht : IsT D M' t (600 + 4 * k.toNat) 60 []) (hu : IsT D M' u (600 + 4 * k.toNat + 2) 700 []) : MdB D M' (va_up fn k.toNat (some t)) (va_up fv k.toNat (some u)) (k + 1) := fun j hj => by
  by_cases hjk : j = k.toNat
  · subst hjk
    exact ⟨t, u, by unfold va_up; rw [if_pos rfl], by unfold va_up; rw [if_pos rfl], ht, hu⟩
  · obtain ⟨t9, u9, g1, g2, g3, g4⟩ := (h.fr hf hT) j (by omega)
    exact ⟨t9, u9, by unfold va_up; rw [if_neg hjk]; exact g1, by unfold va_up; rw [if_neg hjk]; exact g2, g3, g4⟩
theorem MdB_all {D : Dg} {M : Mp} {sa aa na va : Nat} {fn fv : Nat → Option Nat} {k : Int} {g ga : Nat → Int} (h : MdB D M fn fv k) (hk : 40 ≤ k) (h1 : M sa = some (504, arI D 40 g)) (h2 : M aa = some (505, arI D 40 ga)) (h3 : M na = some (506, arR D 4 40 fn)) (h4 : M va = some (507, arR D 4 40 fv)) : IsMd D M sa aa na va [] := by
  refine ⟨g, ga, fn, fv, h1, h2, h3, h4, by decide, fun j x hj => by simp at hj, fun j hj => ?_⟩
  obtain ⟨t, u, g1, g2, g3, g4⟩ := h j (by omega)
  exact ⟨t, u, [], [], g1, g2, g3, g4, fun x hx => by simp at hx⟩
def TgB (D : Dg) (M : Mp) (f : Nat → Option Nat) (k : Int) : Prop := ∀ j : Nat, (j : Int) < k → ∃ t : Nat, f j = some t ∧ IsT D M t (520 + 2 * j) 61 []
theorem TgB_0 (D : Dg) (M : Mp) (f : Nat → Option Nat) : TgB D M f 0 := fun j h => by omega
theorem TgB_step {D : Dg} {M M' : Mp} {f : Nat → Option Nat} {k : Int} {T : List Nat} {t : Nat} (h : TgB D M f k) (hf : Fr T M M') (hT : ∀ u ∈ T, u < 520 ∨ 520 + 2 * k ≤ u) (h0 : 0 ≤ k) (ht : IsT D M' t (520 + 2 * k.toNat) 61 []) : TgB D M' (va_up f k.toNat (some t)) (k + 1) := fun j hj => by
  by_cases hjk : j = k.toNat
  · subst hjk
    exact ⟨t, by unfold va_up; rw [if_pos rfl], ht⟩
  · obtain ⟨t9, g1, g2⟩ := h j (by omega)
    exact ⟨t9, by unfold va_up; rw [if_neg hjk]; exact g1, g2.fr hf (fun z => by have := hT _ z; omega) (fun z => by have := hT _ z; omega)⟩
theorem TgB_all {D : Dg} {M : Mp} {f : Nat → Option Nat} {k : Int} (h : TgB D M f k) (hk : 13 ≤ k) : TgA D M f 0 := fun j _ h2 => by
  obtain ⟨t, g1, g2⟩ := h j (by omega)
  exact ⟨t, [], g1, g2⟩
