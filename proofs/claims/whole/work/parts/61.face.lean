/-! EXPAND AND PERMISSION, as the class answers -/
def expO (ob tb : Bv) (so : Option Snd) : Option Bv := match so with
  | none => none
  | some sd => if targS tb.2 0 tb.2.length = true then some (wrL 18200 sd sd.2.1 tb.2 tb.2.length 0 (ob.1, [])) else none
theorem expO_f {ob tb : Bv} {sd : Snd} (h : targS tb.2 0 tb.2.length = false) : expO ob tb (some sd) = none := by
  unfold expO
  dsimp only
  rw [if_neg (by rw [h]; decide)]
theorem expO_t {ob tb : Bv} {sd : Snd} (h : targS tb.2 0 tb.2.length = true) : expO ob tb (some sd) = some (wrL 18200 sd sd.2.1 tb.2 tb.2.length 0 (ob.1, [])) := by
  unfold expO
  dsimp only
  rw [if_pos h]
def perR (es : List Ent) (so : Option Snd) (cn vo : Int) : Rs := match so with
  | none => (-1, cn, vo)
  | some sd => chkS es sd 11 sd.2.1 0 0
