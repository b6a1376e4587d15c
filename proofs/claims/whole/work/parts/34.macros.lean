/-! MACROS: what a D becomes; the sender -/
/-- where parts end: one behind each dot and one behind the end -/
def stL (xs : List Int) (k : Int) : List Int :=
  if h : k ≤ xs.length then (if k = xs.length ∨ atS xs k = 46 then (k + 1) :: stL xs (k + 1) else stL xs (k + 1)) else []
termination_by (xs.length + 1 - k).toNat
decreasing_by all_goals omega
def sliS (xs : List Int) (fr to : Int) : List Int := (xs.drop fr.toNat).take (to - fr).toNat
/-- part p of a text -/
def partS (xs : List Int) (p : Int) : List Int := sliS xs ((0 :: stL xs 0).getD p.toNat 0) ((stL xs 0).getD p.toNat 0 - 1)
def outL (xs : List Int) (first : Int) (turned : Bool) (k : Int) : List Int :=
  if h : k < (stL xs 0).length then (if first < k then [46] else []) ++ partS xs (if turned = true then (stL xs 0).length - 1 - k else k) ++ outL xs first turned (k + 1) else []
termination_by ((stL xs 0).length - k).toNat
decreasing_by all_goals omega
def outS (xs : List Int) (most : Int) (turned : Bool) : List Int := outL xs (max 0 ((stL xs 0).length - most)) turned (max 0 ((stL xs 0).length - most))
/-- a number of 0 to 255 -/
def numS (v : Int) : List Int := (if 100 ≤ v then [48 + v / 100] else []) ++ (if 10 ≤ v then [48 + v / 10 % 10] else []) ++ [48 + v % 10]
/-- an address in four numbers -/
def dotS (a : Int) : List Int := numS (a / 16777216 % 256) ++ [46] ++ numS (a / 65536 % 256) ++ [46] ++ numS (a / 256 % 256) ++ [46] ++ numS (a % 256)
/-- the sender: local, domain, address -/
abbrev Snd : Type := List Int × List Int × Int32
def srcS (s : Snd) (chk : List Int) (c : Int) : List Int := if c = 115 then s.1 ++ [64] ++ s.2.1 else if c = 108 then s.1 else if c = 111 then s.2.1 else if c = 105 then dotS s.2.2.toInt else chk
def signS (c : Int) : List Int := if c = 37 then [37] else if c = 95 then [32] else [37, 50, 48]
def macS (s : Snd) (chk xs : List Int) (k len : Int) : List Int :=
  outS (srcS s chk (atS xs (k + 2))) (if pnP (atS xs (k + 3)) then atS xs (k + 3) - 48 else (srcS s chk (atS xs (k + 2))).length + 1) (decide (atS xs (k + len - 2) = 114))
def expL (s : Snd) (chk xs : List Int) (to k : Int) : List Int :=
  if h : k < to then
    (if h1 : atS xs k = 37 ∧ ¬ mlenS xs k to = 0 then
      (if mlenS xs k to = 2 then signS (atS xs (k + 1)) else macS s chk xs k (mlenS xs k to)) ++ expL s chk xs to (k + mlenS xs k to)
    else [(atS xs k + 128) % 256 - 128] ++ expL s chk xs to (k + 1))
  else []
termination_by (to - k).toNat
decreasing_by
  · have h9 := mlenS_rng xs k to
    omega
  · omega
/-! the sender and the macros' own rows -/
/-- a sender as the class takes it: its parts' lengths -/
abbrev sndP (s : Snd) : Prop := 1 ≤ s.1.length ∧ s.1.length ≤ 30 ∧ 1 ≤ s.2.1.length ∧ s.2.1.length ≤ 60
def IsSe (D : Dg) (M : Mp) (a : Nat) (so : Option Snd) : Prop := ∃ (m l d e : Nat) (bm bl bd be : Bv) (ad : Int32), M a = some (8, .inr (cSe, [.ref m, .ref l, .ref d, .ref e, .int ad])) ∧ IsB D M m 9 91 bm ∧ IsB D M l 11 30 bl ∧ IsB D M d 13 60 bd ∧ IsB D M e 15 15 be ∧ (be.1 : Int) = 15 ∧ (so = none → bm.2 = []) ∧ ∀ s : Snd, so = some s → sndP s ∧ bm.2 = s.1 ++ [64] ++ s.2.1 ∧ bl.2 = s.1 ∧ bd.2 = s.2.1 ∧ be.2 = dotS s.2.2.toInt ∧ ad = s.2.2
theorem IsSe.fr {D : Dg} {M M' : Mp} {a : Nat} {so : Option Snd} {T : List Nat} (h : IsSe D M a so) (hf : Fr T M M') (hn : ∀ u ∈ T, u < 8 ∨ 16 < u) : IsSe D M' a so := by
  obtain ⟨m, l, d, e, bm, bl, bd, be, ad, h1, h2, h3, h4, h5, h6⟩ := h
  have g : ∀ i : Nat, 8 ≤ i → i ≤ 16 → i ∉ T := fun i hi hj z => by
    have := hn _ z
    omega
  exact ⟨m, l, d, e, bm, bl, bd, be, ad, hf.at h1 (g 8 (by omega) (by omega)), h2.fr hf (g 9 (by omega) (by omega)) (g 10 (by omega) (by omega)), h3.fr hf (g 11 (by omega) (by omega)) (g 12 (by omega) (by omega)), h4.fr hf (g 13 (by omega) (by omega)) (g 14 (by omega) (by omega)), h5.fr hf (g 15 (by omega) (by omega)) (g 16 (by omega) (by omega)), h6⟩
theorem IsSe.obj {D : Dg} {M : Mp} {a : Nat} {so : Option Snd} (h : IsSe D M a so) : IsObj M a cSe := by
  obtain ⟨m, l, d, e, bm, bl, bd, be, ad, h1, -⟩ := h
  exact ⟨_, _, h1⟩
def IsMa (D : Dg) (M : Mp) (a : Nat) (se : Nat) : Prop := ∃ (r : Nat) (g : Nat → Int), M a = some (17, .inr (cMa, [.ref se, .ref r])) ∧ M r = some (18, arI D 93 g)
theorem IsMa.fr {D : Dg} {M M' : Mp} {a se : Nat} {T : List Nat} (h : IsMa D M a se) (hf : Fr T M M') (hn : 17 ∉ T) (hn2 : 18 ∉ T) : IsMa D M' a se := by
  obtain ⟨r, g, h1, h2⟩ := h
  exact ⟨r, g, hf.at h1 hn, hf.at h2 hn2⟩
theorem IsMa.obj {D : Dg} {M : Mp} {a se : Nat} (h : IsMa D M a se) : IsObj M a cMa := by
  obtain ⟨r, g, h1, -⟩ := h
  exact ⟨_, _, h1⟩
