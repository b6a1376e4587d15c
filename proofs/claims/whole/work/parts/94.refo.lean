/-! THE REFERENCE'S FACE: feeding, senders, entries -/
def tgT (d : Nat) : List Nat := (List.range (546 - (520 + 2 * d))).map (fun i => 520 + 2 * d + i)
theorem mem_tgT {t d : Nat} : t ∈ tgT d ↔ 520 + 2 * d ≤ t ∧ t < 546 := by
  unfold tgT
  rw [List.mem_map]
  constructor
  · rintro ⟨i, hi, rfl⟩
    rw [List.mem_range] at hi
    omega
  · rintro ⟨h1, h2⟩
    exact ⟨t - (520 + 2 * d), by rw [List.mem_range]; omega, by omega⟩
/-- the targets from d on -/
def TgA (D : Dg) (M : Mp) (f : Nat → Option Nat) (d : Nat) : Prop := ∀ k : Nat, d ≤ k → k < 13 → ∃ (T : Nat) (xs : List Int), f k = some T ∧ IsT D M T (520 + 2 * k) 61 xs
theorem TgA.fr {D : Dg} {M M' : Mp} {f : Nat → Option Nat} {d : Nat} {T : List Nat} (h : TgA D M f d) (hf : Fr T M M') (hn : ∀ u ∈ T, u < 520 + 2 * d ∨ 545 < u) : TgA D M' f d := fun k h1 h2 => by
  obtain ⟨L, xs, g1, g2⟩ := h k h1 h2
  exact ⟨L, xs, g1, g2.fr hf (fun z => by have := hn _ z; omega) (fun z => by have := hn _ z; omega)⟩
theorem TgA_up {D : Dg} {M : Mp} {f : Nat → Option Nat} {d d2 : Nat} (h : TgA D M f d) (hd : d ≤ d2) : TgA D M f d2 := fun k h1 h2 => h k (by omega) h2
theorem TgA_cons {D : Dg} {M : Mp} {f : Nat → Option Nat} {d L : Nat} {xs : List Int} (hf : f d = some L) (hL : IsT D M L (520 + 2 * d) 61 xs) (h : TgA D M f (d + 1)) : TgA D M f d := fun k h1 h2 => by
  by_cases hk : k = d
  · subst hk
    exact ⟨L, xs, hf, hL⟩
  · exact h k (by omega) h2
-- feeding
def by4 (w : Int) : List Int := [sgb (w / 16777216), sgb (w / 65536), sgb (w / 256), sgb w]
def fdL (xs : List Int) (x1 x2 x3 x4 x5 : Int) : List Int := xs ++ (by4 x1 ++ by4 x2 ++ by4 x3 ++ by4 x4 ++ by4 x5)
def fdR (g : Nat → Int) (k : Int) : List Int := ((List.range 20).drop k.toNat).map (fun j : Nat => sgb (shS (g (j / 4)) (24 - 8 * ((j % 4 : Nat) : Int))))
theorem fdR_0 (g : Nat → Int) : fdR g 0 = by4 (g 0) ++ by4 (g 1) ++ by4 (g 2) ++ by4 (g 3) ++ by4 (g 4) := rfl
theorem fdR_step {g : Nat → Int} {k : Int} (h : 0 ≤ k ∧ k < 20) : fdR g k = sgb (shS (g (k / 4).toNat) (24 - 8 * (k % 4))) :: fdR g (k + 1) := by
  unfold fdR
  have h1 : k.toNat < (List.range 20).length := by rw [List.length_range]; omega
  rw [List.drop_eq_getElem_cons h1, List.map_cons, List.getElem_range]
  have e1 : (k / 4).toNat = k.toNat / 4 := by omega
  have e2 : k % 4 = ((k.toNat % 4 : Nat) : Int) := by omega
  have e3 : (k + 1).toNat = k.toNat + 1 := by omega
  rw [e1, e2, e3]
theorem fdR_end {g : Nat → Int} {k : Int} (h : 20 ≤ k) : fdR g k = [] := by
  unfold fdR
  rw [List.drop_eq_nil_of_le (by rw [List.length_range]; omega)]
  rfl
theorem fd_step {g : Nat → Int} {k : Int} {cur L : List Int} (h : 0 ≤ k ∧ k < 20) (hf : cur ++ fdR g k = L) : (cur ++ [sgb (shS (g (k / 4).toNat) (24 - 8 * (k % 4)))]) ++ fdR g (k + 1) = L := by
  rw [List.append_assoc, ← hf, fdR_step h]
  rfl
theorem fd_end {g : Nat → Int} {k : Int} {cur L : List Int} (h : 20 ≤ k) (hf : cur ++ fdR g k = L) : cur = L := by
  rw [fdR_end h, List.append_nil] at hf
  exact hf
theorem fdL_len (xs : List Int) (x1 x2 x3 x4 x5 : Int) : ((fdL xs x1 x2 x3 x4 x5).length : Int) = xs.length + 20 := by
  unfold fdL by4
  simp
theorem add4_by {b : Bv} {w : Int} (h : (b.2.length : Int) + 4 ≤ 800) : (add4B 800 b w).2 = b.2 ++ by4 w := by
  unfold add4B by4
  have l1 := addB_2 (lim := 800) (b := b) (w % 4294967296 / 16777216) (by omega)
  rw [List.take_of_length_le (by rw [List.length_append, List.length_singleton]; omega)] at l1
  have n1 := congrArg List.length l1
  rw [List.length_append, List.length_singleton] at n1
  have l2 := addB_2 (lim := 800) (b := addB 800 b (w % 4294967296 / 16777216)) (w % 4294967296 / 65536) (by omega)
  rw [List.take_of_length_le (by rw [List.length_append, List.length_singleton]; omega)] at l2
  have n2 := congrArg List.length l2
  rw [List.length_append, List.length_singleton] at n2
  have l3 := addB_2 (lim := 800) (b := addB 800 (addB 800 b (w % 4294967296 / 16777216)) (w % 4294967296 / 65536)) (w % 4294967296 / 256) (by omega)
  rw [List.take_of_length_le (by rw [List.length_append, List.length_singleton]; omega)] at l3
  have n3 := congrArg List.length l3
  rw [List.length_append, List.length_singleton] at n3
  have l4 := addB_2 (lim := 800) (b := addB 800 (addB 800 (addB 800 b (w % 4294967296 / 16777216)) (w % 4294967296 / 65536)) (w % 4294967296 / 256)) w (by omega)
  rw [List.take_of_length_le (by rw [List.length_append, List.length_singleton]; omega)] at l4
  rw [l4, l3, l2, l1]
  have e1 : (w % 4294967296 / 16777216 + 128) % 256 - 128 = sgb (w / 16777216) := by
    unfold sgb
    omega
  have e2 : (w % 4294967296 / 65536 + 128) % 256 - 128 = sgb (w / 65536) := by
    unfold sgb
    omega
  have e3 : (w % 4294967296 / 256 + 128) % 256 - 128 = sgb (w / 256) := by
    unfold sgb
    omega
  rw [e1, e2, e3]
  simp only [List.append_assoc]
  rfl
theorem by4_len (w : Int) : (by4 w).length = 4 := rfl
theorem feed_fd {b : Bv} {x1 x2 x3 x4 x5 : Int} (h : (b.2.length : Int) + 20 ≤ 800) : (feedB b x1 x2 x3 x4 x5).2 = fdL b.2 x1 x2 x3 x4 x5 := by
  unfold feedB fdL
  have l1 := add4_by (b := b) (w := x1) (by omega)
  have n1 := congrArg List.length l1
  rw [List.length_append, by4_len] at n1
  have l2 := add4_by (b := add4B 800 b x1) (w := x2) (by omega)
  have n2 := congrArg List.length l2
  rw [List.length_append, by4_len] at n2
  have l3 := add4_by (b := add4B 800 (add4B 800 b x1) x2) (w := x3) (by omega)
  have n3 := congrArg List.length l3
  rw [List.length_append, by4_len] at n3
  have l4 := add4_by (b := add4B 800 (add4B 800 (add4B 800 b x1) x2) x3) (w := x4) (by omega)
  have n4 := congrArg List.length l4
  rw [List.length_append, by4_len] at n4
  have l5 := add4_by (b := add4B 800 (add4B 800 (add4B 800 (add4B 800 b x1) x2) x3) x4) (w := x5) (by omega)
  rw [l5, l4, l3, l2, l1]
  simp only [List.append_assoc]
-- senders
theorem snd_none {xs : List Int} {ad : Int32} {z : Int} (hz : findS xs 64 0 xs.length = z) (h : locaS xs 0 z = false ∨ nameS xs (z + 1) xs.length = false) : sndS xs ad = none := by
  unfold sndS
  rw [hz]
  rcases h with h | h
  · rw [if_neg (fun y => nt h y.1)]
  · rw [if_neg (fun y => nt h y.2)]
theorem snd_some {xs : List Int} {ad : Int32} {z : Int} (hz : findS xs 64 0 xs.length = z) (h1 : locaS xs 0 z = true) (h2 : nameS xs (z + 1) xs.length = true) : sndS xs ad = some (xs.take z.toNat, xs.drop (z + 1).toNat, ad) := by
  unfold sndS
  rw [hz, if_pos ⟨h1, h2⟩]
theorem name_over {xs : List Int} {z : Int} (h : z = xs.length) : nameS xs (z + 1) xs.length = false := by
  unfold nameS
  rw [if_neg (by omega), nameL, dif_neg (by omega)]
  rfl
theorem loca_L {xs : List Int} {z : Int} {B : Bool} (h : 1 ≤ z ∧ z ≤ 30) (hB : locaL xs z 0 = B) : locaS xs 0 z = B := by
  unfold locaS
  rw [if_neg (by omega)]
  exact hB
theorem loca_no {xs : List Int} {z : Int} (h : ¬ (1 ≤ z ∧ z ≤ 30)) : locaS xs 0 z = false := by
  unfold locaS
  rw [if_pos (by omega)]
theorem sl_head {xs : List Int} {z : Int} : (xs.drop (0 : Int).toNat).take (z - 0).toNat = xs.take z.toNat := by
  rw [Int.sub_zero]
  rfl
theorem sl_tail {xs : List Int} {z e : Int} (h : 0 ≤ z) (he : e = xs.length) : (xs.drop z.toNat).take (e - z).toNat = xs.drop z.toNat := by
  rw [List.take_of_length_le]
  rw [List.length_drop]
  omega
-- entries
theorem IsMd_push {D : Dg} {M M' : Mp} {sa aa na va t u : Nat} {es : List Ent} {g ga : Nat → Int} {fn fv : Nat → Option Nat} {sort : Int} {ad : Int32} {ns vs : List Int} {T : List Nat} (h3 : M' na = some (506, arR D 4 40 fn)) (h4 : M' va = some (507, arR D 4 40 fv)) (h6 : ∀ (j : Nat) (x : Ent), es[j]? = some x → g j = x.1 ∧ zI (ga j) = x.2.1 ∧ 0 ≤ x.1 ∧ x.1 ≤ 3) (h7 : ∀ j : Nat, j < 40 → ∃ (t u : Nat) (ns vs : List Int), fn j = some t ∧ fv j = some u ∧ IsT D M t (600 + 4 * j) 60 ns ∧ IsT D M u (600 + 4 * j + 2) 700 vs ∧ ∀ x : Ent, es[j]? = some x → ns = x.2.2.1 ∧ vs = x.2.2.2) (hf : Fr T M M') (hT : ∀ v ∈ T, v < 600 ∨ (600 + 4 * es.length ≤ v ∧ v < 604 + 4 * es.length)) (h1 : M' sa = some (504, arI D 40 (updZ g es.length sort))) (h2 : M' aa = some (505, arI D 40 (updZ ga es.length ad.toInt))) (hfn : fn es.length = some t) (hfv : fv es.length = some u) (ht : IsT D M' t (600 + 4 * es.length) 60 ns) (hu : IsT D M' u (600 + 4 * es.length + 2) 700 vs) (hl : es.length < 40) (hs : 0 ≤ sort ∧ sort ≤ 3) : IsMd D M' sa aa na va (es ++ [(sort, ad, ns, vs)]) := by
  refine ⟨_, _, fn, fv, h1, h2, h3, h4, by rw [List.length_append, List.length_singleton]; omega, fun j x hj => ?_, fun j hj => ?_⟩
  · by_cases hjn : j < es.length
    · rw [List.getElem?_append_left hjn] at hj
      have := h6 j x hj
      unfold updZ
      rw [if_neg (by omega), if_neg (by omega)]
      exact this
    · have hj2 : j = es.length := by
        have := (List.getElem?_eq_some_iff.mp hj).1
        rw [List.length_append, List.length_singleton] at this
        omega
      subst hj2
      simp at hj
      subst hj
      unfold updZ
      rw [if_pos rfl, if_pos rfl]
      exact ⟨rfl, zI_self ad, hs.1, hs.2⟩
  · by_cases hjn : j = es.length
    · subst hjn
      refine ⟨t, u, ns, vs, hfn, hfv, ht, hu, fun x hx => ?_⟩
      simp at hx
      subst hx
      exact ⟨rfl, rfl⟩
    · obtain ⟨t9, u9, ns9, vs9, g1, g2, g3, g4, g5⟩ := h7 j hj
      refine ⟨t9, u9, ns9, vs9, g1, g2, g3.fr hf (fun z => ?_) (fun z => ?_), g4.fr hf (fun z => ?_) (fun z => ?_), fun x hx => g5 x ?_⟩
      · have := hT _ z
        omega
      · have := hT _ z
        omega
      · have := hT _ z
        omega
      · have := hT _ z
        omega
      · have hlt : j < es.length := by
          have := (List.getElem?_eq_some_iff.mp hx).1
          rw [List.length_append, List.length_singleton] at this
          omega
        rw [List.getElem?_append_left hlt] at hx
        exact hx
theorem name_no32 {xs : List Int} {to : Int} : ∀ (N : Nat) (k part : Int), (to - k).toNat < N → nameL xs to k part = true → ∀ j, k ≤ j ∧ j < to → ¬ atS xs j = 32 := by
  intro N
  induction N with
  | zero => intro k part h; omega
  | succ N ih =>
    intro k part h hn j hj
    rw [nameL, dif_pos (by omega)] at hn
    by_cases hjk : j = k
    · rw [hjk]
      intro z
      rw [if_neg (by omega), if_neg (by omega)] at hn
      cases hn
    · split at hn
      · exact ih (k + 1) 0 (by omega) hn j (by omega)
      · split at hn
        · exact ih (k + 1) (part + 1) (by omega) hn j (by omega)
        · cases hn
/-- a name has no blank -/
theorem name_blk {xs : List Int} (h : nameS xs 0 xs.length = true) : blkS xs = xs.length := by
  unfold blkS
  have h1 := findS_rng xs 32 0 xs.length
  apply Decidable.byContradiction
  intro z
  have h2 := findS_at xs 32 xs.length _ 0 (Nat.lt_succ_self _) (by omega)
  unfold nameS at h
  split at h
  · cases h
  · exact name_no32 _ 0 0 (Nat.lt_succ_self _) h _ (by omega) h2
theorem ent_no {es : List Ent} {xs : List Int} {sort : Int} {ad : Int32} (h : ¬ goodP xs sort (blkS xs)) : (takeS es xs sort ad).isSome = false ∧ (takeS es xs sort ad).getD es = es := take_no (Or.inr (if_neg h))
theorem ent_full {es : List Ent} {xs : List Int} {sort : Int} {ad : Int32} (h : ¬ es.length < 40) : (takeS es xs sort ad).isSome = false ∧ (takeS es xs sort ad).getD es = es := take_no (Or.inl (decide_eq_false h))
theorem ent_yes {es : List Ent} {xs : List Int} {sort : Int} {ad : Int32} {b : Int} {ns vs : List Int} (hl : es.length < 40) (hb : blkS xs = b) (h : goodP xs sort b) (hn : ns = xs.take b.toNat) (hv : vs = xs.drop (min (b + 1) xs.length).toNat) : (takeS es xs sort ad).isSome = true ∧ (takeS es xs sort ad).getD es = es ++ [(sort, ad, ns, vs)] := by
  subst hb hn hv
  exact take_yes hl (if_pos h)
