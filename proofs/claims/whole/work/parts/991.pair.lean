/-! THE REFERENCE'S OBJECT, whole; the two beside each other -/
def snT (so : Option Snd) (st : Int) (ls ds : List Int) (fm : Int32) : Prop := (st = 0 ∧ so = none) ∨ (st = 1 ∧ so = some (ls, ds, fm) ∧ sndP (ls, ds, fm))
def IsMo (D : Dg) (M : Mp) (m : Nat) (xt os : List Int) (es : List Ent) (so : Option Snd) (cn vo : Int) : Prop := ∃ (tp ou sa aa na va lo dm tg pc : Nat) (ft : Nat → Option Nat) (fm w0 : Int32) (st k0 s0 f0 o0 n0 : Int) (ls ds ps : List Int), M m = some (500, .inr (cMo, [.ref tp, vI (xt.length : Int), vI (es.length : Int), .ref ou, .ref sa, .ref aa, .ref na, .ref va, .ref lo, .ref dm, .int fm, vI st, .ref tg, vI cn, vI vo, .ref pc, vI k0, vI s0, vI f0, vI o0, vI n0, .int w0])) ∧ Row D M tp 501 800 xt ∧ IsT D M ou 502 20000 os ∧ IsMd D M sa aa na va es ∧ IsT D M lo 508 30 ls ∧ IsT D M dm 510 60 ds ∧ IsT D M pc 513 100 ps ∧ M tg = some (512, arR D 4 13 ft) ∧ TgA D M ft 0 ∧ snT so st ls ds fm
theorem IsMo.fr {D : Dg} {M M' : Mp} {m : Nat} {xt os : List Int} {es : List Ent} {so : Option Snd} {cn vo : Int} {T : List Nat} (h : IsMo D M m xt os es so cn vo) (hf : Fr T M M') (hn : ∀ u ∈ T, u < 500) : IsMo D M' m xt os es so cn vo := by
  obtain ⟨tp, ou, sa, aa, na, va, lo, dm, tg, pc, ft, fm, w0, st, k0, s0, f0, o0, n0, ls, ds, ps, h1, h2, h3, h4, h5, h6, h7, h8, h9, h10⟩ := h
  have g : ∀ t : Nat, 500 ≤ t → t ∉ T := fun t ht z => by
    have := hn _ z
    omega
  exact ⟨tp, ou, sa, aa, na, va, lo, dm, tg, pc, ft, fm, w0, st, k0, s0, f0, o0, n0, ls, ds, ps, hf.at h1 (g 500 (by omega)), h2.fr hf (g 501 (by omega)), h3.fr hf (g 502 (by omega)) (g 503 (by omega)), h4.fr hf (fun u hu => by have := hn u hu; omega), h5.fr hf (g 508 (by omega)) (g 509 (by omega)), h6.fr hf (g 510 (by omega)) (g 511 (by omega)), h7.fr hf (g 513 (by omega)) (g 514 (by omega)), hf.at h8 (g 512 (by omega)), h9.fr hf (fun u hu => by have := hn u hu; omega), h10⟩
theorem IsMo.obj {D : Dg} {M : Mp} {m : Nat} {xt os : List Int} {es : List Ent} {so : Option Snd} {cn vo : Int} (h : IsMo D M m xt os es so cn vo) : IsObj M m cMo := by
  obtain ⟨tp, ou, sa, aa, na, va, lo, dm, tg, pc, ft, fm, w0, st, k0, s0, f0, o0, n0, ls, ds, ps, h1, -⟩ := h
  exact ⟨_, _, h1⟩
theorem IsMd_nil {D : Dg} {M : Mp} {sa aa na va : Nat} {es : List Ent} (h : IsMd D M sa aa na va es) : IsMd D M sa aa na va [] := by
  obtain ⟨g, ga, fn, fv, h1, h2, h3, h4, h5, h6, h7⟩ := h
  refine ⟨g, ga, fn, fv, h1, h2, h3, h4, by decide, fun j x hj => by simp at hj, fun j hj => ?_⟩
  obtain ⟨t, u, ns, vs, g1, g2, g3, g4, g5⟩ := h7 j hj
  exact ⟨t, u, ns, vs, g1, g2, g3, g4, fun x hx => by simp at hx⟩
theorem snd_P {xs : List Int} {ad : Int32} {s : Snd} (h : sndS xs ad = some s) : sndP s := by
  unfold sndS at h
  split at h
  · next hc =>
    have e1 := nameL_ne hc.2
    have e2 := locaS_ne hc.1
    cases h
    refine ⟨?_, ?_, ?_, ?_⟩
    · show 1 ≤ (xs.take (findS xs 64 0 xs.length).toNat).length
      rw [List.length_take]
      omega
    · show (xs.take (findS xs 64 0 xs.length).toNat).length ≤ 30
      rw [List.length_take]
      omega
    · show 1 ≤ (xs.drop (findS xs 64 0 xs.length + 1).toNat).length
      rw [List.length_drop]
      omega
    · show (xs.drop (findS xs 64 0 xs.length + 1).toNat).length ≤ 60
      rw [List.length_drop]
      omega
  · cases h
theorem snT_sender {so : Option Snd} {st : Int} {ls ds xs : List Int} {fm ad : Int32} (h : snT so st ls ds fm) : snT ((sndS xs ad).or so) ((sndS xs ad).elim st (fun _ => 1)) ((sndS xs ad).elim ls (fun s => s.1)) ((sndS xs ad).elim ds (fun s => s.2.1)) ((sndS xs ad).elim fm (fun s => s.2.2)) := by
  cases hP : sndS xs ad with
  | none => exact h
  | some s => exact Or.inr ⟨rfl, rfl, snd_P hP⟩
theorem snT_P {so : Option Snd} {st : Int} {ls ds : List Int} {fm : Int32} (h : snT so st ls ds fm) : ∀ sd, so = some sd → sndP sd := fun sd hs => by
  rcases h with h | h
  · rw [h.2] at hs
    cases hs
  · rw [h.2.1] at hs
    cases hs
    exact h.2.2
-- the tape
theorem feed_2 {b : Bv} {x1 x2 x3 x4 x5 : Int} : (if 800 < (b.2.length : Int) + 20 then b else feedB b x1 x2 x3 x4 x5).2 = (if 800 < (b.2.length : Int) + 20 then b.2 else fdL b.2 x1 x2 x3 x4 x5) := by
  by_cases h : 800 < (b.2.length : Int) + 20
  · rw [if_pos h, if_pos h]
  · rw [if_neg h, if_neg h, feed_fd (by omega)]
theorem feed_r {b : Bv} {x1 x2 x3 x4 x5 : Int} : (if 800 < (b.2.length : Int) + 20 then -3 else ((feedB b x1 x2 x3 x4 x5).2.length : Int)) = (if 800 < (b.2.length : Int) + 20 then -3 else (b.2.length : Int) + 20) := by
  by_cases h : 800 < (b.2.length : Int) + 20
  · rw [if_pos h, if_pos h]
  · rw [if_neg h, if_neg h, feed_fd (by omega), fdL_len]
theorem feed_l {xs : List Int} {x1 x2 x3 x4 x5 : Int} : (((if 800 < (xs.length : Int) + 20 then xs else fdL xs x1 x2 x3 x4 x5).length : Nat) : Int) = (if 800 < (xs.length : Int) + 20 then (xs.length : Int) else (xs.length : Int) + 20) := by
  by_cases h : 800 < (xs.length : Int) + 20
  · rw [if_pos h, if_pos h]
  · rw [if_neg h, if_neg h, fdL_len]
theorem cut_2 {b : Bv} {n : Int} (h : ¬ (n < 0 ∨ (b.2.length : Int) < n)) : (cutB b n).2 = b.2.take n.toNat := by
  unfold cutB
  by_cases h1 : 0 ≤ n ∧ n < b.2.length
  · rw [if_pos h1]
  · rw [if_neg h1, List.take_of_length_le (by omega)]
theorem end_2 {b : Bv} {n : Int} : (if n < 0 ∨ (b.2.length : Int) < n then b else cutB b n).2 = (if n < 0 ∨ (b.2.length : Int) < n then b.2 else b.2.take n.toNat) := by
  by_cases h : n < 0 ∨ (b.2.length : Int) < n
  · rw [if_pos h, if_pos h]
  · rw [if_neg h, if_neg h, cut_2 h]
theorem end_l {xs : List Int} {n : Int} : (((if n < 0 ∨ (xs.length : Int) < n then xs else xs.take n.toNat).length : Nat) : Int) = (if n < 0 ∨ (xs.length : Int) < n then (xs.length : Int) else n) := by
  by_cases h : n < 0 ∨ (xs.length : Int) < n
  · rw [if_pos h, if_pos h]
  · rw [if_neg h, if_neg h, List.length_take]
    omega
theorem end_row {D : Dg} {M : Mp} {r t len : Nat} {xs : List Int} {n : Int} (h : Row D M r t len xs) : Row D M r t len (if n < 0 ∨ (xs.length : Int) < n then xs else xs.take n.toNat) := by
  split
  · exact h
  · exact h.take _
-- what is written
theorem exp_r {ob tb : Bv} {so : Option Snd} (hl : tb.2.length ≤ 800) (hs : ∀ sd, so = some sd → sndP sd) : (if (expO ob tb so).isSome = true then (((expO ob tb so).getD ob).2.length : Int) else -1) = (rexO tb.2 so).elim (-1) (fun l => (l.length : Int)) := by
  rw [← rex_exp (ob := ob) hl hs]
  cases expO ob tb so with
  | none => rfl
  | some b => rfl
theorem exp_2 {ob tb : Bv} {so : Option Snd} (hl : tb.2.length ≤ 800) (hs : ∀ sd, so = some sd → sndP sd) : (rexO tb.2 so).elim ob.2 id = ((expO ob tb so).getD ob).2 := by
  rw [← rex_exp (ob := ob) hl hs]
  cases expO ob tb so with
  | none => rfl
  | some b => rfl
