set_option maxRecDepth 100000
def tmTX (i : Nat) : Term := ([.string "SendPolicy$Entry" 30, .string "SendPolicy$Term" 77, .string "SendPolicy$Term" 48, .string "SendPolicy$Term" 58, .string "SendPolicy$Term" 63, .string "SendPolicy$Term" 65, .string "SendPolicy$Term" 70, .string "SendPolicy$Term" 72, .string "SendPolicyModel" 206] : List Term).getD i (.int 0)

theorem tx_all : ∀ i, i < nTX → lenTX.getD i 0 < 2 ^ 31 ∧ (Cond.exactly (tmTX i) "java/lang/String" ∈ flatC (Jvm.Cond.and given_1 narrow_1)) ∧ (Cond.eq (.field (tmTX i) "java/lang/String" "coder" "B") (.int 0) ∈ flatC (Jvm.Cond.and given_1 narrow_1)) ∧ (Cond.arrayOf (.field (tmTX i) "java/lang/String" "value" "[B") .byte ∈ flatC (Jvm.Cond.and given_1 narrow_1)) ∧ (Cond.eq (.length (.field (tmTX i) "java/lang/String" "value" "[B")) (.int (Int32.ofNat (lenTX.getD i 0))) ∈ flatC (Jvm.Cond.and given_1 narrow_1)) := by decide +kernel
theorem el_all : ∀ i, i < nTX → ∀ j, j < lenTX.getD i 0 → (Cond.eq (.elem (.field (tmTX i) "java/lang/String" "value" "[B") (.int (Int32.ofNat j))) (.int ((bytTX.getD i []).getD j 0))) ∈ flatC (Jvm.Cond.and given_1 narrow_1) := by decide +kernel
theorem ne_all : ∀ i, i < nTX → ∀ j, j < nTX → i ≠ j → ((Cond.not (Cond.eq (tmTX i) (tmTX j))) ∈ flatC (Jvm.Cond.and given_1 narrow_1) ∨ (Cond.not (Cond.eq (tmTX j) (tmTX i))) ∈ flatC (Jvm.Cond.and given_1 narrow_1)) := by decide +kernel
set_option maxHeartbeats 4000000 in
set_option maxRecDepth 100000 in
theorem kn_start {p : Program} {s : State} {m : MethodId} {meth : Method} {c : Code} {b L : Nat} {xs : Nat → Int32} (C0 : lw_At p s m meth c b L xs) : ∃ D : Dg, Kn D s.heap.size s := by
  obtain ⟨hx, hb, hr, hml, hown, hts, hX, hbl, hlocks, hgv⟩ := C0
  have hs := flat_of_before _ hgv
  have htb : ∀ w ∈ TB, w.before #[Value.ref b] s = true := fun w hw => hts w (List.mem_filter.mp hw).1
  obtain ⟨c0, i0, k0⟩ := u_known (C := R_By) (T := F_By) (N := 3) (n := 3) htb fws_By (htb _ (tb_in 58 (by decide +kernel) rfl))
  obtain ⟨c1, i1, k1⟩ := u_known (C := R_En) (T := F_En) (N := 4) (n := 4) htb fws_En (htb _ (tb_in 304 (by decide +kernel) rfl))
  obtain ⟨c2, i2, k2⟩ := u_known (C := R_Di) (T := F_Di) (N := 2) (n := 2) htb fws_Di (htb _ (tb_in 78 (by decide +kernel) rfl))
  obtain ⟨c3, i3, k3⟩ := u_known (C := R_Se) (T := F_Se) (N := 5) (n := 5) htb fws_Se (htb _ (tb_in 93 (by decide +kernel) rfl))
  obtain ⟨c4, i4, k4⟩ := u_known (C := R_Ma) (T := F_Ma) (N := 2) (n := 2) htb fws_Ma (htb _ (tb_in 117 (by decide +kernel) rfl))
  obtain ⟨c5, i5, k5⟩ := u_known (C := R_Te) (T := F_Te) (N := 6) (n := 6) htb fws_Te (htb _ (tb_in 146 (by decide +kernel) rfl))
  obtain ⟨c6, i6, k6⟩ := u_known (C := R_Le) (T := F_Le) (N := 4) (n := 4) htb fws_Le (htb _ (tb_in 138 (by decide +kernel) rfl))
  obtain ⟨c7, i7, k7⟩ := u_known (C := R_Ch) (T := F_Ch) (N := 7) (n := 7) htb fws_Ch (htb _ (tb_in 131 (by decide +kernel) rfl))
  obtain ⟨c8, i8, k8⟩ := u_known (C := R_Po) (T := F_Po) (N := 6) (n := 6) htb fws_Po (htb _ (tb_in 50 (by decide +kernel) rfl))
  obtain ⟨c9, i9, k9⟩ := u_known (C := R_Tx) (T := F_Tx) (N := 2) (n := 2) htb fws_Tx (htb _ (tb_in 676 (by decide +kernel) rfl))
  obtain ⟨c10, i10, k10⟩ := u_known (C := R_Mo) (T := F_Mo) (N := 22) (n := 22) htb fws_Mo (htb _ (tb_in 670 (by decide +kernel) rfl))
  obtain ⟨a0, A0, p0, f0, g0, h0⟩ := Cond.arrayClass_spec (htb (Cond.arrayClass .byte) (tb_in 76 (by decide +kernel) rfl))
  obtain ⟨a1, A1, p1, f1, g1, h1⟩ := Cond.arrayClass_spec (htb (Cond.arrayClass .int) (tb_in 129 (by decide +kernel) rfl))
  obtain ⟨p2, a2, A2, f2, -, g2, h2, n2⟩ := Cond.arrayOver_spec (hts (Cond.arrayOver (.object "SendPolicy$Entry")) (by decide +kernel))
  obtain ⟨p3, a3, A3, f3, -, g3, h3, n3⟩ := Cond.arrayOver_spec (hts (Cond.arrayOver (.object "SendPolicy$Level")) (by decide +kernel))
  obtain ⟨p4, a4, A4, f4, -, g4, h4, n4⟩ := Cond.arrayOver_spec (hts (Cond.arrayOver (.object "SendPolicyModel$Text")) (by decide +kernel))
  obtain ⟨adK, adV, hvk, hev⟩ := vk_Sof (args := #[Value.ref b]) (s := s) (N := nTX) (tm := tmTX) (len := lenTX) (byt := bytTX) (A := fun q => s.heap.size ≤ q)
    (fun i hi => (tx_all i hi).1) (fun i hi => hs _ (tx_all i hi).2.1) (fun i hi => hs _ (tx_all i hi).2.2.1) (fun i hi => hs _ (tx_all i hi).2.2.2.1) (fun i hi => hs _ (tx_all i hi).2.2.2.2)
    (fun i hi j hj => hs _ (el_all i hi j hj))
    (fun i j hi hj hij => by rcases ne_all i hi j hj hij with h | h; exact Or.inl (hs _ h); exact Or.inr (hs _ h))
    (fun a ha => Nat.not_le.mpr ha)
  have hcp : va_Z "java/lang/String" "COMPACT_STRINGS" "Z" (.int 1) (fun q => s.heap.size ≤ q) s s.heap := va_Zof (hts (.laysStatic "java/lang/String" "COMPACT_STRINGS" "Z") (by decide +kernel)) (hts (.initialized "java/lang/String") (by decide +kernel)) (va_eqi (hs _ (by decide +kernel))) (fun a ha => Nat.not_le.mpr ha)
  have hsf : va_Zq "jdk/internal/util/Preconditions" "SIOOBE_FORMATTER" "Ljava/util/function/BiFunction;" (fun q => s.heap.size ≤ q) s s.heap := va_Zqof (hts (.laysStatic "jdk/internal/util/Preconditions" "SIOOBE_FORMATTER" "Ljava/util/function/BiFunction;") (by decide +kernel)) (hts (.initialized "jdk/internal/util/Preconditions") (by decide +kernel)) (hs _ (by decide +kernel)) (fun a ha => Nat.not_le.mpr ha)
  refine ⟨((fun k => if k = 0 then c0 else if k = 1 then c1 else if k = 2 then c2 else if k = 3 then c3 else if k = 4 then c4 else if k = 5 then c5 else if k = 6 then c6 else if k = 7 then c7 else if k = 8 then c8 else if k = 9 then c9 else c10, fun k => if k = 0 then i0 else if k = 1 then i1 else if k = 2 then i2 else if k = 3 then i3 else if k = 4 then i4 else if k = 5 then i5 else if k = 6 then i6 else if k = 7 then i7 else if k = 8 then i8 else if k = 9 then i9 else i10), (fun k => if k = 0 then a0 else if k = 1 then a1 else if k = 2 then a2 else if k = 3 then a3 else a4), adK, adV), ⟨fun k q hq => ?_, fun k q hq => ?_⟩, fun C hC => ?_, hvk, fun q hq => ?_, fun q hq => ?_, hcp, ?_⟩
  · match k, hq with
    | 0, hq => cases hq; exact k0
    | 1, hq => cases hq; exact k1
    | 2, hq => cases hq; exact k2
    | 3, hq => cases hq; exact k3
    | 4, hq => cases hq; exact k4
    | 5, hq => cases hq; exact k5
    | 6, hq => cases hq; exact k6
    | 7, hq => cases hq; exact k7
    | 8, hq => cases hq; exact k8
    | 9, hq => cases hq; exact k9
    | 10, hq => cases hq; exact k10
    | k + 11, hq => simp [vwCl] at hq
  · match k, hq with
    | 0, hq => cases hq; exact ⟨fun N z => ⟨(fun k h => by cases h), A0, g0, p0, h0⟩, f0⟩
    | 1, hq => cases hq; exact ⟨fun N z => ⟨(fun k h => by cases h), A1, g1, p1, h1⟩, f1⟩
    | 2, hq => cases hq; exact ⟨fun N z => ⟨(fun k h => by cases h), A2, g2, p2, h2⟩, A2, p2, g2, h2, f2, n2⟩
    | 3, hq => cases hq; exact ⟨fun N z => ⟨(fun k h => by cases h), A3, g3, p3, h3⟩, A3, p3, g3, h3, f3, n3⟩
    | 4, hq => cases hq; exact ⟨fun N z => ⟨(fun k h => by cases h), A4, g4, p4, h4⟩, A4, p4, g4, h4, f4, n4⟩
    | k + 5, hq => simp [TYS] at hq
  · simp only [List.mem_cons, List.not_mem_nil, or_false] at hC
    rcases hC with rfl | rfl | rfl
    · exact va_AO.of (hts (Cond.arrayOver (.object "SendPolicy$Entry")) (by decide +kernel))
    · exact va_AO.of (hts (Cond.arrayOver (.object "SendPolicy$Level")) (by decide +kernel))
    · exact va_AO.of (hts (Cond.arrayOver (.object "SendPolicyModel$Text")) (by decide +kernel))
  · simp only [refTX, List.mem_cons, List.not_mem_nil, or_false] at hq
    rcases hq with rfl | rfl | rfl | rfl | rfl | rfl | rfl | rfl | rfl | rfl | rfl | rfl | rfl | rfl | rfl | rfl | rfl
    · exact vk_R.of (hts (Cond.stringRef "SendPolicy$Entry" 30 "v=spf1") (by decide +kernel)) (hev 0 (by decide))
    · exact vk_R.of (hts (Cond.stringRef "SendPolicy$Term" 77 "all") (by decide +kernel)) (hev 1 (by decide))
    · exact vk_R.of (hts (Cond.stringRef "SendPolicy$Term" 48 "include:") (by decide +kernel)) (hev 2 (by decide))
    · exact vk_R.of (hts (Cond.stringRef "SendPolicy$Term" 58 "a") (by decide +kernel)) (hev 3 (by decide))
    · exact vk_R.of (hts (Cond.stringRef "SendPolicy$Term" 63 "mx") (by decide +kernel)) (hev 4 (by decide))
    · exact vk_R.of (hts (Cond.stringRef "SendPolicy$Term" 65 "ip4:") (by decide +kernel)) (hev 5 (by decide))
    · exact vk_R.of (hts (Cond.stringRef "SendPolicy$Term" 70 "exists:") (by decide +kernel)) (hev 6 (by decide))
    · exact vk_R.of (hts (Cond.stringRef "SendPolicy$Term" 72 "redirect=") (by decide +kernel)) (hev 7 (by decide))
    · exact vk_R.of (hts (Cond.stringRef "SendPolicyModel" 204 "v=spf1") (by decide +kernel)) (va_eqR (hs (Cond.eq (.string "SendPolicy$Entry" 30) (.string "SendPolicyModel" 204)) (by decide +kernel)) (hev 0 (by decide)))
    · exact vk_R.of (hts (Cond.stringRef "SendPolicyModel" 206 "v=spf1 ") (by decide +kernel)) (hev 8 (by decide))
    · exact vk_R.of (hts (Cond.stringRef "SendPolicyModel" 150 "all") (by decide +kernel)) (va_eqR (hs (Cond.eq (.string "SendPolicy$Term" 77) (.string "SendPolicyModel" 150)) (by decide +kernel)) (hev 1 (by decide)))
    · exact vk_R.of (hts (Cond.stringRef "SendPolicyModel" 152 "include:") (by decide +kernel)) (va_eqR (hs (Cond.eq (.string "SendPolicy$Term" 48) (.string "SendPolicyModel" 152)) (by decide +kernel)) (hev 2 (by decide)))
    · exact vk_R.of (hts (Cond.stringRef "SendPolicyModel" 161 "exists:") (by decide +kernel)) (va_eqR (hs (Cond.eq (.string "SendPolicy$Term" 70) (.string "SendPolicyModel" 161)) (by decide +kernel)) (hev 6 (by decide)))
    · exact vk_R.of (hts (Cond.stringRef "SendPolicyModel" 163 "ip4:") (by decide +kernel)) (va_eqR (hs (Cond.eq (.string "SendPolicy$Term" 65) (.string "SendPolicyModel" 163)) (by decide +kernel)) (hev 5 (by decide)))
    · exact vk_R.of (hts (Cond.stringRef "SendPolicyModel" 174 "a") (by decide +kernel)) (va_eqR (hs (Cond.eq (.string "SendPolicy$Term" 58) (.string "SendPolicyModel" 174)) (by decide +kernel)) (hev 3 (by decide)))
    · exact vk_R.of (hts (Cond.stringRef "SendPolicyModel" 180 "mx") (by decide +kernel)) (va_eqR (hs (Cond.eq (.string "SendPolicy$Term" 63) (.string "SendPolicyModel" 180)) (by decide +kernel)) (hev 4 (by decide)))
    · exact vk_R.of (hts (Cond.stringRef "SendPolicyModel" 182 "redirect=") (by decide +kernel)) (va_eqR (hs (Cond.eq (.string "SendPolicy$Term" 72) (.string "SendPolicyModel" 182)) (by decide +kernel)) (hev 7 (by decide)))
  · simp only [nestTX, List.mem_cons, List.not_mem_nil, or_false] at hq
    rcases hq with rfl | rfl | rfl | rfl <;> exact va_Nw.of rfl (hts _ (by decide +kernel))
  · rcases hsf with h | ⟨t, h⟩
    · exact ⟨_, Or.inl rfl, h⟩
    · exact ⟨_, Or.inr ⟨t, rfl⟩, h⟩
