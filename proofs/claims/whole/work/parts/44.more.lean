/-! MORE FACTS -/
theorem IsSe.snd {D : Dg} {M : Mp} {a : Nat} {s : Snd} (h : IsSe D M a (some s)) : sndP s := by
  obtain ⟨m, l, d, e, bm, bl, bd, be, ad, h1, h2, h3, h4, h5, h6, h7, h8⟩ := h
  exact (h8 s rfl).1
