set_option maxHeartbeats 4000000 in
set_option maxRecDepth 100000 in
theorem c_Mo_init {l : Launch} {D : Dg} {b0 : Nat} {M : Mp} {a : Nat} (h_obj_a : M a = some (500, .inr (cMo, [.null, vI 0, vI 0, .null, .null, .null, .null, .null, .null, .null, .int 0, vI 0, .null, vI 0, vI 0, .null, vI 0, vI 0, vI 0, vI 0, vI 0, .int 0]))) : Ok l D b0 4 y_Mo_init b_Mo_init 2 none M [.ref a] 250 60000 (fun r M' => ∃ tp : Nat, ∃ ou : Nat, ∃ sa : Nat, ∃ aa : Nat, ∃ na : Nat, ∃ va : Nat, ∃ lo : Nat, ∃ dm : Nat, ∃ tg : Nat, ∃ pc : Nat, ∃ ft : Nat → Option Nat, r = none ∧ M' a = some (500, .inr (cMo, [.ref tp, vI 0, vI 0, .ref ou, .ref sa, .ref aa, .ref na, .ref va, .ref lo, .ref dm, .int 0, vI 0, .ref tg, vI 0, vI 0, .ref pc, vI 0, vI 0, vI 0, vI 0, vI 0, .int 0])) ∧ Row D M' tp 501 800 ([]) ∧ IsT D M' ou 502 20000 ([]) ∧ IsMd D M' sa aa na va ([]) ∧ IsT D M' lo 508 30 ([]) ∧ IsT D M' dm 510 60 ([]) ∧ IsT D M' pc 513 100 ([]) ∧ M' tg = some (512, arR D 4 13 ft) ∧ TgA D M' ft 0 ∧ Fr ([500, 506, 507, 512, 502, 508, 510, 513] ++ meT ++ tgT 0) M M') := by
  refine Ok_of rfl (Nat.le_of_ble_eq_true rfl) (fun E hC hQ hl hD hB hN hR => ?_)
  subst hl hD hB
  show G E M 0 0 [(0, .ref a)] [] 0
  refine G_aload_n hC 0 rfl rfl d_Mo_init_0 ?_
  refine G_objI hC hR lm_Mo_17 (Nat.le_of_ble_eq_true rfl) (Nat.le_of_ble_eq_true rfl) d_Mo_init_1 ?_
  refine G_aload_n hC 0 rfl rfl d_Mo_init_4 ?_
  refine G_sipush (j := 800) hC (by decide +kernel) d_Mo_init_5 ?_
  refine G_newBX 501 hC hR w_acB (by omega) (by omega) (by omega) d_Mo_init_8 (fun q_1 M_2 h_3 h_4 fr_5 => ?_)
  have h_6 := fr_5.at h_obj_a (by decide)
  refine G_putFX (fs' := [.ref q_1, vI 0, vI 0, .null, .null, .null, .null, .null, .null, .null, .int 0, vI 0, .null, vI 0, vI 0, .null, vI 0, vI 0, vI 0, vI 0, vI 0, .int 0]) hC fl_Mo_23 ft_Mo ff_Mo_0 rfl h_6 rfl rfl (Nat.le_of_ble_eq_true rfl) rfl d_Mo_init_10 (fun M_7 h_8 fr_9 => ?_)
  refine G_aload_n hC 0 rfl rfl d_Mo_init_13 ?_
  refine G_newX 502 [.null, vI 0] hC hR nw_Mo_27 (fun j hj => by rcases (show j = 0 ∨ j = 1 by omega) with rfl | rfl <;> rfl) (by omega) (by omega) d_Mo_init_14 (fun q_10 M_11 h_12 fr_13 => ?_)
  refine G_dup hC rfl d_Mo_init_17 ?_
  refine G_sipush (j := 20000) hC (by decide +kernel) d_Mo_init_18 ?_
  refine G_xI (rest := [.ref q_10, .ref a]) hC hR (c_Tx_init h_12 (by omega)) ci_Mo_29 (by decide) (by omega) (by omega) rfl rfl (Nat.le_of_ble_eq_true rfl) d_Mo_init_21 (fun r_16 M_14 p_15 => ?_)
  obtain ⟨rfl, h_17, fr_18⟩ := p_15
  show G E M_14 (0 + 1 + 1 + (1)) (0 + (800 : Int).toNat + 2 + ((20000 : Int).toNat)) [(0, .ref a)] [.ref q_10, .ref a] 24
  have h_19 := fr_13.at h_8 (by decide)
  have h_20 := fr_18.at h_19 (by decide)
  refine G_putFX (fs' := [.ref q_1, vI 0, vI 0, .ref q_10, .null, .null, .null, .null, .null, .null, .int 0, vI 0, .null, vI 0, vI 0, .null, vI 0, vI 0, vI 0, vI 0, vI 0, .int 0]) hC fl_Mo_32 ft_Mo ff_Mo_3 rfl h_20 rfl rfl (Nat.le_of_ble_eq_true rfl) rfl d_Mo_init_24 (fun M_21 h_22 fr_23 => ?_)
  refine G_aload_n hC 0 rfl rfl d_Mo_init_27 ?_
  refine G_bipush (j := 40) hC (by decide +kernel) d_Mo_init_28 ?_
  refine G_newIX 504 hC hR w_acI (by omega) (by omega) (by omega) d_Mo_init_30 (fun q_24 M_25 h_26 fr_27 => ?_)
  have h_28 := fr_27.at h_22 (by decide)
  refine G_putFX (fs' := [.ref q_1, vI 0, vI 0, .ref q_10, .ref q_24, .null, .null, .null, .null, .null, .int 0, vI 0, .null, vI 0, vI 0, .null, vI 0, vI 0, vI 0, vI 0, vI 0, .int 0]) hC fl_Mo_36 ft_Mo ff_Mo_4 rfl h_28 rfl rfl (Nat.le_of_ble_eq_true rfl) rfl d_Mo_init_32 (fun M_29 h_30 fr_31 => ?_)
  refine G_aload_n hC 0 rfl rfl d_Mo_init_35 ?_
  refine G_bipush (j := 40) hC (by decide +kernel) d_Mo_init_36 ?_
  refine G_newIX 505 hC hR w_acI (by omega) (by omega) (by omega) d_Mo_init_38 (fun q_32 M_33 h_34 fr_35 => ?_)
  have h_36 := fr_35.at h_30 (by decide)
  refine G_putFX (fs' := [.ref q_1, vI 0, vI 0, .ref q_10, .ref q_24, .ref q_32, .null, .null, .null, .null, .int 0, vI 0, .null, vI 0, vI 0, .null, vI 0, vI 0, vI 0, vI 0, vI 0, .int 0]) hC fl_Mo_40 ft_Mo ff_Mo_5 rfl h_36 rfl rfl (Nat.le_of_ble_eq_true rfl) rfl d_Mo_init_40 (fun M_37 h_38 fr_39 => ?_)
  refine G_aload_n hC 0 rfl rfl d_Mo_init_43 ?_
  refine G_bipush (j := 40) hC (by decide +kernel) d_Mo_init_44 ?_
  refine G_anewX (q0 := 4) 506 hC hR kl_Mo_27 (by decide) rfl (by omega) (by omega) (by omega) d_Mo_init_46 (fun q_40 M_41 h_42 fr_43 => ?_)
  have h_44 := fr_43.at h_38 (by decide)
  refine G_putFX (fs' := [.ref q_1, vI 0, vI 0, .ref q_10, .ref q_24, .ref q_32, .ref q_40, .null, .null, .null, .int 0, vI 0, .null, vI 0, vI 0, .null, vI 0, vI 0, vI 0, vI 0, vI 0, .int 0]) hC fl_Mo_43 ft_Mo ff_Mo_6 rfl h_44 rfl rfl (Nat.le_of_ble_eq_true rfl) rfl d_Mo_init_49 (fun M_45 h_46 fr_47 => ?_)
  refine G_aload_n hC 0 rfl rfl d_Mo_init_52 ?_
  refine G_bipush (j := 40) hC (by decide +kernel) d_Mo_init_53 ?_
  refine G_anewX (q0 := 4) 507 hC hR kl_Mo_27 (by decide) rfl (by omega) (by omega) (by omega) d_Mo_init_55 (fun q_48 M_49 h_50 fr_51 => ?_)
  have h_52 := fr_51.at h_46 (by decide)
  refine G_putFX (fs' := [.ref q_1, vI 0, vI 0, .ref q_10, .ref q_24, .ref q_32, .ref q_40, .ref q_48, .null, .null, .int 0, vI 0, .null, vI 0, vI 0, .null, vI 0, vI 0, vI 0, vI 0, vI 0, .int 0]) hC fl_Mo_47 ft_Mo ff_Mo_7 rfl h_52 rfl rfl (Nat.le_of_ble_eq_true rfl) rfl d_Mo_init_58 (fun M_53 h_54 fr_55 => ?_)
  refine G_aload_n hC 0 rfl rfl d_Mo_init_61 ?_
  refine G_newX 508 [.null, vI 0] hC hR nw_Mo_27 (fun j hj => by rcases (show j = 0 ∨ j = 1 by omega) with rfl | rfl <;> rfl) (by omega) (by omega) d_Mo_init_62 (fun q_56 M_57 h_58 fr_59 => ?_)
  refine G_dup hC rfl d_Mo_init_65 ?_
  refine G_bipush (j := 30) hC (by decide +kernel) d_Mo_init_66 ?_
  refine G_xI (rest := [.ref q_56, .ref a]) hC hR (c_Tx_init h_58 (by omega)) ci_Mo_29 (by decide) (by omega) (by omega) rfl rfl (Nat.le_of_ble_eq_true rfl) d_Mo_init_68 (fun r_62 M_60 p_61 => ?_)
  obtain ⟨rfl, h_63, fr_64⟩ := p_61
  show G E M_60 (0 + 1 + 1 + (1) + 1 + 1 + 1 + 1 + 1 + (1)) (0 + (800 : Int).toNat + 2 + ((20000 : Int).toNat) + (40 : Int).toNat + (40 : Int).toNat + (40 : Int).toNat + (40 : Int).toNat + 2 + ((30 : Int).toNat)) [(0, .ref a)] [.ref q_56, .ref a] 71
  have h_65 := fr_59.at h_54 (by decide)
  have h_66 := fr_64.at h_65 (by decide)
  refine G_putFX (fs' := [.ref q_1, vI 0, vI 0, .ref q_10, .ref q_24, .ref q_32, .ref q_40, .ref q_48, .ref q_56, .null, .int 0, vI 0, .null, vI 0, vI 0, .null, vI 0, vI 0, vI 0, vI 0, vI 0, .int 0]) hC fl_Mo_50 ft_Mo ff_Mo_8 rfl h_66 rfl rfl (Nat.le_of_ble_eq_true rfl) rfl d_Mo_init_71 (fun M_67 h_68 fr_69 => ?_)
  refine G_aload_n hC 0 rfl rfl d_Mo_init_74 ?_
  refine G_newX 510 [.null, vI 0] hC hR nw_Mo_27 (fun j hj => by rcases (show j = 0 ∨ j = 1 by omega) with rfl | rfl <;> rfl) (by omega) (by omega) d_Mo_init_75 (fun q_70 M_71 h_72 fr_73 => ?_)
  refine G_dup hC rfl d_Mo_init_78 ?_
  refine G_bipush (j := 60) hC (by decide +kernel) d_Mo_init_79 ?_
  refine G_xI (rest := [.ref q_70, .ref a]) hC hR (c_Tx_init h_72 (by omega)) ci_Mo_29 (by decide) (by omega) (by omega) rfl rfl (Nat.le_of_ble_eq_true rfl) d_Mo_init_81 (fun r_76 M_74 p_75 => ?_)
  obtain ⟨rfl, h_77, fr_78⟩ := p_75
  show G E M_74 (0 + 1 + 1 + (1) + 1 + 1 + 1 + 1 + 1 + (1) + 1 + (1)) (0 + (800 : Int).toNat + 2 + ((20000 : Int).toNat) + (40 : Int).toNat + (40 : Int).toNat + (40 : Int).toNat + (40 : Int).toNat + 2 + ((30 : Int).toNat) + 2 + ((60 : Int).toNat)) [(0, .ref a)] [.ref q_70, .ref a] 84
  have h_79 := fr_73.at h_68 (by decide)
  have h_80 := fr_78.at h_79 (by decide)
  refine G_putFX (fs' := [.ref q_1, vI 0, vI 0, .ref q_10, .ref q_24, .ref q_32, .ref q_40, .ref q_48, .ref q_56, .ref q_70, .int 0, vI 0, .null, vI 0, vI 0, .null, vI 0, vI 0, vI 0, vI 0, vI 0, .int 0]) hC fl_Mo_53 ft_Mo ff_Mo_9 rfl h_80 rfl rfl (Nat.le_of_ble_eq_true rfl) rfl d_Mo_init_84 (fun M_81 h_82 fr_83 => ?_)
  refine G_aload_n hC 0 rfl rfl d_Mo_init_87 ?_
  refine G_bipush (j := 13) hC (by decide +kernel) d_Mo_init_88 ?_
  refine G_anewX (q0 := 4) 512 hC hR kl_Mo_27 (by decide) rfl (by omega) (by omega) (by omega) d_Mo_init_90 (fun q_84 M_85 h_86 fr_87 => ?_)
  have h_88 := fr_87.at h_82 (by decide)
  refine G_putFX (fs' := [.ref q_1, vI 0, vI 0, .ref q_10, .ref q_24, .ref q_32, .ref q_40, .ref q_48, .ref q_56, .ref q_70, .int 0, vI 0, .ref q_84, vI 0, vI 0, .null, vI 0, vI 0, vI 0, vI 0, vI 0, .int 0]) hC fl_Mo_56 ft_Mo ff_Mo_12 rfl h_88 rfl rfl (Nat.le_of_ble_eq_true rfl) rfl d_Mo_init_93 (fun M_89 h_90 fr_91 => ?_)
  refine G_aload_n hC 0 rfl rfl d_Mo_init_96 ?_
  refine G_newX 513 [.null, vI 0] hC hR nw_Mo_27 (fun j hj => by rcases (show j = 0 ∨ j = 1 by omega) with rfl | rfl <;> rfl) (by omega) (by omega) d_Mo_init_97 (fun q_92 M_93 h_94 fr_95 => ?_)
  refine G_dup hC rfl d_Mo_init_100 ?_
  refine G_bipush (j := 100) hC (by decide +kernel) d_Mo_init_101 ?_
  refine G_xI (rest := [.ref q_92, .ref a]) hC hR (c_Tx_init h_94 (by omega)) ci_Mo_29 (by decide) (by omega) (by omega) rfl rfl (Nat.le_of_ble_eq_true rfl) d_Mo_init_103 (fun r_98 M_96 p_97 => ?_)
  obtain ⟨rfl, h_99, fr_100⟩ := p_97
  show G E M_96 (0 + 1 + 1 + (1) + 1 + 1 + 1 + 1 + 1 + (1) + 1 + (1) + 1 + 1 + (1)) (0 + (800 : Int).toNat + 2 + ((20000 : Int).toNat) + (40 : Int).toNat + (40 : Int).toNat + (40 : Int).toNat + (40 : Int).toNat + 2 + ((30 : Int).toNat) + 2 + ((60 : Int).toNat) + (13 : Int).toNat + 2 + ((100 : Int).toNat)) [(0, .ref a)] [.ref q_92, .ref a] 106
  have h_101 := fr_95.at h_90 (by decide)
  have h_102 := fr_100.at h_101 (by decide)
  refine G_putFX (fs' := [.ref q_1, vI 0, vI 0, .ref q_10, .ref q_24, .ref q_32, .ref q_40, .ref q_48, .ref q_56, .ref q_70, .int 0, vI 0, .ref q_84, vI 0, vI 0, .ref q_92, vI 0, vI 0, vI 0, vI 0, vI 0, .int 0]) hC fl_Mo_59 ft_Mo ff_Mo_15 rfl h_102 rfl rfl (Nat.le_of_ble_eq_true rfl) rfl d_Mo_init_106 (fun M_103 h_104 fr_105 => ?_)
  have h_106 := fr_47.at h_42 (by decide)
  have h_107 := fr_51.at h_106 (by decide)
  have h_108 := fr_55.at h_107 (by decide)
  have h_109 := fr_59.at h_108 (by decide)
  have h_110 := fr_64.at h_109 (by decide)
  have h_111 := fr_69.at h_110 (by decide)
  have h_112 := fr_73.at h_111 (by decide)
  have h_113 := fr_78.at h_112 (by decide)
  have h_114 := fr_83.at h_113 (by decide)
  have h_115 := fr_87.at h_114 (by decide)
  have h_116 := fr_91.at h_115 (by decide)
  have h_117 := fr_95.at h_116 (by decide)
  have h_118 := fr_100.at h_117 (by decide)
  have h_119 := fr_105.at h_118 (by decide)
  have h_120 : M_103 q_40 = some (506, arR (eD E) 4 40 (fun _ => none)) := h_119
  have h_121 := fr_55.at h_50 (by decide)
  have h_122 := fr_59.at h_121 (by decide)
  have h_123 := fr_64.at h_122 (by decide)
  have h_124 := fr_69.at h_123 (by decide)
  have h_125 := fr_73.at h_124 (by decide)
  have h_126 := fr_78.at h_125 (by decide)
  have h_127 := fr_83.at h_126 (by decide)
  have h_128 := fr_87.at h_127 (by decide)
  have h_129 := fr_91.at h_128 (by decide)
  have h_130 := fr_95.at h_129 (by decide)
  have h_131 := fr_100.at h_130 (by decide)
  have h_132 := fr_105.at h_131 (by decide)
  have h_133 : M_103 q_48 = some (507, arR (eD E) 4 40 (fun _ => none)) := h_132
  have h_134 := fr_91.at h_86 (by decide)
  have h_135 := fr_95.at h_134 (by decide)
  have h_136 := fr_100.at h_135 (by decide)
  have h_137 := fr_105.at h_136 (by decide)
  have h_138 : M_103 q_84 = some (512, arR (eD E) 4 13 (fun _ => none)) := h_137
  refine G_iconst (i := 0) hC d_Mo_init_109 ?_
  refine G_istore_n (lv' := [(1, vI 0), (0, .ref a)]) hC rfl (by rw [hN]; decide) rfl d_Mo_init_110 ?_
  have L111 : ∀ (N : Nat) (M1 : Mp) (k : Int) (fn : Nat → Option Nat) (fv : Nat → Option Nat), (40 - k).toNat < N → (Fr ([506, 507] ++ meT) M_103 M1) → (M1 q_40 = some (506, arR (eD E) 4 40 fn)) → (M1 q_48 = some (507, arR (eD E) 4 40 fv)) → (0 ≤ k ∧ k ≤ 40) → (MdB (eD E) M1 fn fv k) → G E M1 (20 + 4 * (k : Int).toNat) (22000 + 770 * (k : Int).toNat) [(0, .ref a), (1, vI k)] [] 111 := by
    intro N
    induction N with
    | zero => intro M1 k fn fv hN111 hfr1 hna hva hk hmb; exact absurd hN111 (Nat.not_lt_zero _)
    | succ N ih111 =>
      intro M1 k fn fv hN111 hfr1 hna hva hk hmb
      refine G_iload_n hC 1 rfl rfl d_Mo_init_111 ?_
      refine G_bipush (j := 40) hC (by decide +kernel) d_Mo_init_112 ?_
      refine G_icmp_ge hC 154 (by omega) (by decide) (by decide) d_Mo_init_114 (fun c_139 => ?_) (fun c_139 => ?_)
      · have h_140 := fr_31.at h_26 (by decide)
        have h_141 := fr_35.at h_140 (by decide)
        have h_142 := fr_39.at h_141 (by decide)
        have h_143 := fr_43.at h_142 (by decide)
        have h_144 := fr_47.at h_143 (by decide)
        have h_145 := fr_51.at h_144 (by decide)
        have h_146 := fr_55.at h_145 (by decide)
        have h_147 := fr_59.at h_146 (by decide)
        have h_148 := fr_64.at h_147 (by decide)
        have h_149 := fr_69.at h_148 (by decide)
        have h_150 := fr_73.at h_149 (by decide)
        have h_151 := fr_78.at h_150 (by decide)
        have h_152 := fr_83.at h_151 (by decide)
        have h_153 := fr_87.at h_152 (by decide)
        have h_154 := fr_91.at h_153 (by decide)
        have h_155 := fr_95.at h_154 (by decide)
        have h_156 := fr_100.at h_155 (by decide)
        have h_157 := fr_105.at h_156 (by decide)
        have h_158 := hfr1.at h_157 (by simp only [List.mem_append, mem_meT, List.mem_range, List.mem_cons, List.not_mem_nil, or_false, false_or]; omega)
        have h_159 := fr_39.at h_34 (by decide)
        have h_160 := fr_43.at h_159 (by decide)
        have h_161 := fr_47.at h_160 (by decide)
        have h_162 := fr_51.at h_161 (by decide)
        have h_163 := fr_55.at h_162 (by decide)
        have h_164 := fr_59.at h_163 (by decide)
        have h_165 := fr_64.at h_164 (by decide)
        have h_166 := fr_69.at h_165 (by decide)
        have h_167 := fr_73.at h_166 (by decide)
        have h_168 := fr_78.at h_167 (by decide)
        have h_169 := fr_83.at h_168 (by decide)
        have h_170 := fr_87.at h_169 (by decide)
        have h_171 := fr_91.at h_170 (by decide)
        have h_172 := fr_95.at h_171 (by decide)
        have h_173 := fr_100.at h_172 (by decide)
        have h_174 := fr_105.at h_173 (by decide)
        have h_175 := hfr1.at h_174 (by simp only [List.mem_append, mem_meT, List.mem_range, List.mem_cons, List.not_mem_nil, or_false, false_or]; omega)
        have hmd : IsMd (eD E) M1 q_24 q_32 q_40 q_48 [] := MdB_all hmb (by omega) h_158 h_175 hna hva
        refine G_iconst (i := 0) hC d_Mo_init_154 ?_
        refine G_istore_n (lv' := [(1, vI 0), (0, .ref a)]) hC rfl (by rw [hN]; decide) rfl d_Mo_init_155 ?_
        have L156 : ∀ (N : Nat) (M2 : Mp) (j : Int) (f2 : Nat → Option Nat), (13 - j).toNat < N → (Fr ([512] ++ tgT 0) M1 M2) → (M2 q_84 = some (512, arR (eD E) 4 13 f2)) → (0 ≤ j ∧ j ≤ 13) → (TgB (eD E) M2 f2 j) → G E M2 (180 + 2 * (j : Int).toNat) (53000 + 70 * (j : Int).toNat) [(0, .ref a), (1, vI j)] [] 156 := by
          intro N
          induction N with
          | zero => intro M2 j f2 hN156 hfr2 htg2 hj htb; exact absurd hN156 (Nat.not_lt_zero _)
          | succ N ih156 =>
            intro M2 j f2 hN156 hfr2 htg2 hj htb
            refine G_iload_n hC 1 rfl rfl d_Mo_init_156 ?_
            refine G_bipush (j := 13) hC (by decide +kernel) d_Mo_init_157 ?_
            refine G_icmp_ge hC 183 (by omega) (by decide) (by decide) d_Mo_init_159 (fun c_176 => ?_) (fun c_176 => ?_)
            · have hta := TgB_all htb (by omega)
              have h_177 := hfr1.at h_104 (by simp only [List.mem_append, mem_meT, List.mem_range, List.mem_cons, List.not_mem_nil, or_false, false_or]; omega)
              have h_178 := hfr2.at h_177 (by simp only [List.mem_append, mem_tgT, List.mem_range, List.mem_cons, List.not_mem_nil, or_false, false_or]; omega)
              have h_179 := h_4.fr fr_9 (by decide)
              have h_180 := h_179.fr fr_13 (by decide)
              have h_181 := h_180.fr fr_18 (by decide)
              have h_182 := h_181.fr fr_23 (by decide)
              have h_183 := h_182.fr fr_27 (by decide)
              have h_184 := h_183.fr fr_31 (by decide)
              have h_185 := h_184.fr fr_35 (by decide)
              have h_186 := h_185.fr fr_39 (by decide)
              have h_187 := h_186.fr fr_43 (by decide)
              have h_188 := h_187.fr fr_47 (by decide)
              have h_189 := h_188.fr fr_51 (by decide)
              have h_190 := h_189.fr fr_55 (by decide)
              have h_191 := h_190.fr fr_59 (by decide)
              have h_192 := h_191.fr fr_64 (by decide)
              have h_193 := h_192.fr fr_69 (by decide)
              have h_194 := h_193.fr fr_73 (by decide)
              have h_195 := h_194.fr fr_78 (by decide)
              have h_196 := h_195.fr fr_83 (by decide)
              have h_197 := h_196.fr fr_87 (by decide)
              have h_198 := h_197.fr fr_91 (by decide)
              have h_199 := h_198.fr fr_95 (by decide)
              have h_200 := h_199.fr fr_100 (by decide)
              have h_201 := h_200.fr fr_105 (by decide)
              have h_202 := h_201.fr hfr1 (by simp only [List.mem_append, mem_meT, List.mem_range, List.mem_cons, List.not_mem_nil, or_false, false_or]; omega)
              have h_203 := h_202.fr hfr2 (by simp only [List.mem_append, mem_tgT, List.mem_range, List.mem_cons, List.not_mem_nil, or_false, false_or]; omega)
              have h_204 := h_17.fr fr_23 (by decide) (by decide)
              have h_205 := h_204.fr fr_27 (by decide) (by decide)
              have h_206 := h_205.fr fr_31 (by decide) (by decide)
              have h_207 := h_206.fr fr_35 (by decide) (by decide)
              have h_208 := h_207.fr fr_39 (by decide) (by decide)
              have h_209 := h_208.fr fr_43 (by decide) (by decide)
              have h_210 := h_209.fr fr_47 (by decide) (by decide)
              have h_211 := h_210.fr fr_51 (by decide) (by decide)
              have h_212 := h_211.fr fr_55 (by decide) (by decide)
              have h_213 := h_212.fr fr_59 (by decide) (by decide)
              have h_214 := h_213.fr fr_64 (by decide) (by decide)
              have h_215 := h_214.fr fr_69 (by decide) (by decide)
              have h_216 := h_215.fr fr_73 (by decide) (by decide)
              have h_217 := h_216.fr fr_78 (by decide) (by decide)
              have h_218 := h_217.fr fr_83 (by decide) (by decide)
              have h_219 := h_218.fr fr_87 (by decide) (by decide)
              have h_220 := h_219.fr fr_91 (by decide) (by decide)
              have h_221 := h_220.fr fr_95 (by decide) (by decide)
              have h_222 := h_221.fr fr_100 (by decide) (by decide)
              have h_223 := h_222.fr fr_105 (by decide) (by decide)
              have h_224 := h_223.fr hfr1 (by simp only [List.mem_append, mem_meT, List.mem_range, List.mem_cons, List.not_mem_nil, or_false, false_or]; omega) (by simp only [List.mem_append, mem_meT, List.mem_range, List.mem_cons, List.not_mem_nil, or_false, false_or]; omega)
              have h_225 := h_224.fr hfr2 (by simp only [List.mem_append, mem_tgT, List.mem_range, List.mem_cons, List.not_mem_nil, or_false, false_or]; omega) (by simp only [List.mem_append, mem_tgT, List.mem_range, List.mem_cons, List.not_mem_nil, or_false, false_or]; omega)
              have h_226 := hmd.fr hfr2 (by intro u hu; simp only [List.mem_append, mem_tgT, List.mem_range, List.mem_cons, List.not_mem_nil, or_false, false_or] at hu; omega)
              have h_227 := h_63.fr fr_69 (by decide) (by decide)
              have h_228 := h_227.fr fr_73 (by decide) (by decide)
              have h_229 := h_228.fr fr_78 (by decide) (by decide)
              have h_230 := h_229.fr fr_83 (by decide) (by decide)
              have h_231 := h_230.fr fr_87 (by decide) (by decide)
              have h_232 := h_231.fr fr_91 (by decide) (by decide)
              have h_233 := h_232.fr fr_95 (by decide) (by decide)
              have h_234 := h_233.fr fr_100 (by decide) (by decide)
              have h_235 := h_234.fr fr_105 (by decide) (by decide)
              have h_236 := h_235.fr hfr1 (by simp only [List.mem_append, mem_meT, List.mem_range, List.mem_cons, List.not_mem_nil, or_false, false_or]; omega) (by simp only [List.mem_append, mem_meT, List.mem_range, List.mem_cons, List.not_mem_nil, or_false, false_or]; omega)
              have h_237 := h_236.fr hfr2 (by simp only [List.mem_append, mem_tgT, List.mem_range, List.mem_cons, List.not_mem_nil, or_false, false_or]; omega) (by simp only [List.mem_append, mem_tgT, List.mem_range, List.mem_cons, List.not_mem_nil, or_false, false_or]; omega)
              have h_238 := h_77.fr fr_83 (by decide) (by decide)
              have h_239 := h_238.fr fr_87 (by decide) (by decide)
              have h_240 := h_239.fr fr_91 (by decide) (by decide)
              have h_241 := h_240.fr fr_95 (by decide) (by decide)
              have h_242 := h_241.fr fr_100 (by decide) (by decide)
              have h_243 := h_242.fr fr_105 (by decide) (by decide)
              have h_244 := h_243.fr hfr1 (by simp only [List.mem_append, mem_meT, List.mem_range, List.mem_cons, List.not_mem_nil, or_false, false_or]; omega) (by simp only [List.mem_append, mem_meT, List.mem_range, List.mem_cons, List.not_mem_nil, or_false, false_or]; omega)
              have h_245 := h_244.fr hfr2 (by simp only [List.mem_append, mem_tgT, List.mem_range, List.mem_cons, List.not_mem_nil, or_false, false_or]; omega) (by simp only [List.mem_append, mem_tgT, List.mem_range, List.mem_cons, List.not_mem_nil, or_false, false_or]; omega)
              have h_246 := h_99.fr fr_105 (by decide) (by decide)
              have h_247 := h_246.fr hfr1 (by simp only [List.mem_append, mem_meT, List.mem_range, List.mem_cons, List.not_mem_nil, or_false, false_or]; omega) (by simp only [List.mem_append, mem_meT, List.mem_range, List.mem_cons, List.not_mem_nil, or_false, false_or]; omega)
              have h_248 := h_247.fr hfr2 (by simp only [List.mem_append, mem_tgT, List.mem_range, List.mem_cons, List.not_mem_nil, or_false, false_or]; omega) (by simp only [List.mem_append, mem_tgT, List.mem_range, List.mem_cons, List.not_mem_nil, or_false, false_or]; omega)
              exact G_return hC hQ (by omega) (by omega) d_Mo_init_183 ⟨q_1, q_10, q_24, q_32, q_40, q_48, q_56, q_70, q_84, q_92, _, rfl, h_178, h_203, h_225, h_226, h_237, h_245, h_248, htg2, hta, ((((((((((((((((((((((((((fr_5.up (T := ([500, 506, 507, 512, 502, 508, 510, 513] ++ meT ++ tgT 0)) (by intro u hu; simp only [List.mem_append, mem_meT, mem_tgT, List.mem_range, List.mem_cons, List.not_mem_nil, or_false, false_or] at hu ⊢ <;> omega)).tr' (T := ([500, 506, 507, 512, 502, 508, 510, 513] ++ meT ++ tgT 0)) fr_9 (fun _ z => z) (by intro u hu; simp only [List.mem_append, mem_meT, mem_tgT, List.mem_range, List.mem_cons, List.not_mem_nil, or_false, false_or] at hu ⊢ <;> omega)).tr' (T := ([500, 506, 507, 512, 502, 508, 510, 513] ++ meT ++ tgT 0)) fr_13 (fun _ z => z) (by intro u hu; simp only [List.mem_append, mem_meT, mem_tgT, List.mem_range, List.mem_cons, List.not_mem_nil, or_false, false_or] at hu ⊢ <;> omega)).tr' (T := ([500, 506, 507, 512, 502, 508, 510, 513] ++ meT ++ tgT 0)) fr_18 (fun _ z => z) (by intro u hu; simp only [List.mem_append, mem_meT, mem_tgT, List.mem_range, List.mem_cons, List.not_mem_nil, or_false, false_or] at hu ⊢ <;> omega)).tr' (T := ([500, 506, 507, 512, 502, 508, 510, 513] ++ meT ++ tgT 0)) fr_23 (fun _ z => z) (by intro u hu; simp only [List.mem_append, mem_meT, mem_tgT, List.mem_range, List.mem_cons, List.not_mem_nil, or_false, false_or] at hu ⊢ <;> omega)).tr' (T := ([500, 506, 507, 512, 502, 508, 510, 513] ++ meT ++ tgT 0)) fr_27 (fun _ z => z) (by intro u hu; simp only [List.mem_append, mem_meT, mem_tgT, List.mem_range, List.mem_cons, List.not_mem_nil, or_false, false_or] at hu ⊢ <;> omega)).tr' (T := ([500, 506, 507, 512, 502, 508, 510, 513] ++ meT ++ tgT 0)) fr_31 (fun _ z => z) (by intro u hu; simp only [List.mem_append, mem_meT, mem_tgT, List.mem_range, List.mem_cons, List.not_mem_nil, or_false, false_or] at hu ⊢ <;> omega)).tr' (T := ([500, 506, 507, 512, 502, 508, 510, 513] ++ meT ++ tgT 0)) fr_35 (fun _ z => z) (by intro u hu; simp only [List.mem_append, mem_meT, mem_tgT, List.mem_range, List.mem_cons, List.not_mem_nil, or_false, false_or] at hu ⊢ <;> omega)).tr' (T := ([500, 506, 507, 512, 502, 508, 510, 513] ++ meT ++ tgT 0)) fr_39 (fun _ z => z) (by intro u hu; simp only [List.mem_append, mem_meT, mem_tgT, List.mem_range, List.mem_cons, List.not_mem_nil, or_false, false_or] at hu ⊢ <;> omega)).tr' (T := ([500, 506, 507, 512, 502, 508, 510, 513] ++ meT ++ tgT 0)) fr_43 (fun _ z => z) (by intro u hu; simp only [List.mem_append, mem_meT, mem_tgT, List.mem_range, List.mem_cons, List.not_mem_nil, or_false, false_or] at hu ⊢ <;> omega)).tr' (T := ([500, 506, 507, 512, 502, 508, 510, 513] ++ meT ++ tgT 0)) fr_47 (fun _ z => z) (by intro u hu; simp only [List.mem_append, mem_meT, mem_tgT, List.mem_range, List.mem_cons, List.not_mem_nil, or_false, false_or] at hu ⊢ <;> omega)).tr' (T := ([500, 506, 507, 512, 502, 508, 510, 513] ++ meT ++ tgT 0)) fr_51 (fun _ z => z) (by intro u hu; simp only [List.mem_append, mem_meT, mem_tgT, List.mem_range, List.mem_cons, List.not_mem_nil, or_false, false_or] at hu ⊢ <;> omega)).tr' (T := ([500, 506, 507, 512, 502, 508, 510, 513] ++ meT ++ tgT 0)) fr_55 (fun _ z => z) (by intro u hu; simp only [List.mem_append, mem_meT, mem_tgT, List.mem_range, List.mem_cons, List.not_mem_nil, or_false, false_or] at hu ⊢ <;> omega)).tr' (T := ([500, 506, 507, 512, 502, 508, 510, 513] ++ meT ++ tgT 0)) fr_59 (fun _ z => z) (by intro u hu; simp only [List.mem_append, mem_meT, mem_tgT, List.mem_range, List.mem_cons, List.not_mem_nil, or_false, false_or] at hu ⊢ <;> omega)).tr' (T := ([500, 506, 507, 512, 502, 508, 510, 513] ++ meT ++ tgT 0)) fr_64 (fun _ z => z) (by intro u hu; simp only [List.mem_append, mem_meT, mem_tgT, List.mem_range, List.mem_cons, List.not_mem_nil, or_false, false_or] at hu ⊢ <;> omega)).tr' (T := ([500, 506, 507, 512, 502, 508, 510, 513] ++ meT ++ tgT 0)) fr_69 (fun _ z => z) (by intro u hu; simp only [List.mem_append, mem_meT, mem_tgT, List.mem_range, List.mem_cons, List.not_mem_nil, or_false, false_or] at hu ⊢ <;> omega)).tr' (T := ([500, 506, 507, 512, 502, 508, 510, 513] ++ meT ++ tgT 0)) fr_73 (fun _ z => z) (by intro u hu; simp only [List.mem_append, mem_meT, mem_tgT, List.mem_range, List.mem_cons, List.not_mem_nil, or_false, false_or] at hu ⊢ <;> omega)).tr' (T := ([500, 506, 507, 512, 502, 508, 510, 513] ++ meT ++ tgT 0)) fr_78 (fun _ z => z) (by intro u hu; simp only [List.mem_append, mem_meT, mem_tgT, List.mem_range, List.mem_cons, List.not_mem_nil, or_false, false_or] at hu ⊢ <;> omega)).tr' (T := ([500, 506, 507, 512, 502, 508, 510, 513] ++ meT ++ tgT 0)) fr_83 (fun _ z => z) (by intro u hu; simp only [List.mem_append, mem_meT, mem_tgT, List.mem_range, List.mem_cons, List.not_mem_nil, or_false, false_or] at hu ⊢ <;> omega)).tr' (T := ([500, 506, 507, 512, 502, 508, 510, 513] ++ meT ++ tgT 0)) fr_87 (fun _ z => z) (by intro u hu; simp only [List.mem_append, mem_meT, mem_tgT, List.mem_range, List.mem_cons, List.not_mem_nil, or_false, false_or] at hu ⊢ <;> omega)).tr' (T := ([500, 506, 507, 512, 502, 508, 510, 513] ++ meT ++ tgT 0)) fr_91 (fun _ z => z) (by intro u hu; simp only [List.mem_append, mem_meT, mem_tgT, List.mem_range, List.mem_cons, List.not_mem_nil, or_false, false_or] at hu ⊢ <;> omega)).tr' (T := ([500, 506, 507, 512, 502, 508, 510, 513] ++ meT ++ tgT 0)) fr_95 (fun _ z => z) (by intro u hu; simp only [List.mem_append, mem_meT, mem_tgT, List.mem_range, List.mem_cons, List.not_mem_nil, or_false, false_or] at hu ⊢ <;> omega)).tr' (T := ([500, 506, 507, 512, 502, 508, 510, 513] ++ meT ++ tgT 0)) fr_100 (fun _ z => z) (by intro u hu; simp only [List.mem_append, mem_meT, mem_tgT, List.mem_range, List.mem_cons, List.not_mem_nil, or_false, false_or] at hu ⊢ <;> omega)).tr' (T := ([500, 506, 507, 512, 502, 508, 510, 513] ++ meT ++ tgT 0)) fr_105 (fun _ z => z) (by intro u hu; simp only [List.mem_append, mem_meT, mem_tgT, List.mem_range, List.mem_cons, List.not_mem_nil, or_false, false_or] at hu ⊢ <;> omega)).tr' (T := ([500, 506, 507, 512, 502, 508, 510, 513] ++ meT ++ tgT 0)) hfr1 (fun _ z => z) (by intro u hu; simp only [List.mem_append, mem_meT, mem_tgT, List.mem_range, List.mem_cons, List.not_mem_nil, or_false, false_or] at hu ⊢ <;> omega)).tr' (T := ([500, 506, 507, 512, 502, 508, 510, 513] ++ meT ++ tgT 0)) hfr2 (fun _ z => z) (by intro u hu; simp only [List.mem_append, mem_meT, mem_tgT, List.mem_range, List.mem_cons, List.not_mem_nil, or_false, false_or] at hu ⊢ <;> omega))⟩
            · refine G_aload_n hC 0 rfl rfl d_Mo_init_162 ?_
              have h_249 := hfr1.at h_104 (by simp only [List.mem_append, mem_meT, List.mem_range, List.mem_cons, List.not_mem_nil, or_false, false_or]; omega)
              have h_250 := hfr2.at h_249 (by simp only [List.mem_append, mem_tgT, List.mem_range, List.mem_cons, List.not_mem_nil, or_false, false_or]; omega)
              refine G_get hC fl_Mo_56 h_250 rfl d_Mo_init_163 ?_
              refine G_iload_n hC 1 rfl rfl d_Mo_init_166 ?_
              refine G_newX (520 + 2 * j.toNat) [.null, vI 0] hC hR nw_Mo_27 (fun j hj => by rcases (show j = 0 ∨ j = 1 by omega) with rfl | rfl <;> rfl) (by omega) (by omega) d_Mo_init_167 (fun q_251 M_252 h_253 fr_254 => ?_)
              refine G_dup hC rfl d_Mo_init_170 ?_
              refine G_bipush (j := 61) hC (by decide +kernel) d_Mo_init_171 ?_
              refine G_xI (rest := [.ref q_251, vI j, .ref q_84]) hC hR (c_Tx_init h_253 (by omega)) ci_Mo_29 (by decide) (by omega) (by omega) rfl rfl (Nat.le_of_ble_eq_true rfl) d_Mo_init_173 (fun r_257 M_255 p_256 => ?_)
              obtain ⟨rfl, h_258, fr_259⟩ := p_256
              show G E M_255 (180 + 2 * (j : Int).toNat + 1 + (1)) (53000 + 70 * (j : Int).toNat + 2 + ((61 : Int).toNat)) [(0, .ref a), (1, vI j)] [.ref q_251, vI j, .ref q_84] 176
              have h_260 := fr_254.at htg2 (by decide)
              have h_261 := fr_259.at h_260 (by simp only [List.mem_cons, List.not_mem_nil, or_false, not_or, not_false_eq_true]; try omega)
              refine G_aastX hC h_261 rfl rfl h_258.obj.choose_spec.choose_spec (by omega) (by omega) d_Mo_init_176 (fun M_262 h_263 fr_264 => ?_)
              refine G_iinc (lv' := [(1, vI (j + 1)), (0, .ref a)]) hC 1 rfl (by rw [hN]; decide) rfl d_Mo_init_177 ?_
              refine G_goto hC 156 (by decide) d_Mo_init_180 ?_
              refine G_lv [1, 0] rfl ?_
              have h_265 := h_258.fr fr_264 (by simp only [List.mem_cons, List.not_mem_nil, or_false, not_or, not_false_eq_true]; try omega) (by simp only [List.mem_cons, List.not_mem_nil, or_false, not_or, not_false_eq_true]; try omega)
              refine G_widen (k' := 180 + 2 * ((j + 1) : Int).toNat) (n' := 53000 + 70 * ((j + 1) : Int).toNat) (by omega) (by omega) ?_
              exact ih156 M_262 (j + 1) _ (by omega) ((((hfr2.up (T := ([512] ++ tgT 0)) (by intro u hu; simp only [List.mem_append, mem_tgT, List.mem_range, List.mem_cons, List.not_mem_nil, or_false, false_or] at hu ⊢ <;> omega)).tr' (T := ([512] ++ tgT 0)) fr_254 (fun _ z => z) (by intro u hu; simp only [List.mem_append, mem_tgT, List.mem_range, List.mem_cons, List.not_mem_nil, or_false, false_or] at hu ⊢ <;> omega)).tr' (T := ([512] ++ tgT 0)) fr_259 (fun _ z => z) (by intro u hu; simp only [List.mem_append, mem_tgT, List.mem_range, List.mem_cons, List.not_mem_nil, or_false, false_or] at hu ⊢ <;> omega)).tr' (T := ([512] ++ tgT 0)) fr_264 (fun _ z => z) (by intro u hu; simp only [List.mem_append, mem_tgT, List.mem_range, List.mem_cons, List.not_mem_nil, or_false, false_or] at hu ⊢ <;> omega)) h_263 (by omega) (TgB_step htb (((fr_254.up (T := ([512, 520 + 2 * j.toNat])) (by simp)).tr' (T := ([512, 520 + 2 * j.toNat])) fr_259 (fun _ z => z) (by simp)).tr' (T := ([512, 520 + 2 * j.toNat])) fr_264 (fun _ z => z) (by simp)) (by intro u hu; simp only [List.mem_cons, List.not_mem_nil, or_false] at hu; omega) (by omega) h_265)
        refine G_lv [1, 0] rfl ?_
        have h_266 := hfr1.at h_138 (by simp only [List.mem_append, mem_meT, List.mem_range, List.mem_cons, List.not_mem_nil, or_false, false_or]; omega)
        refine G_widen (k' := 180 + 2 * (0 : Int).toNat) (n' := 53000 + 70 * (0 : Int).toNat) (by omega) (by omega) ?_
        exact L156 _ M1 0 _ (Nat.lt_succ_self _) Fr.rf h_266 (by omega) (TgB_0 _ _ _)
      · refine G_aload_n hC 0 rfl rfl d_Mo_init_117 ?_
        have h_267 := hfr1.at h_104 (by simp only [List.mem_append, mem_meT, List.mem_range, List.mem_cons, List.not_mem_nil, or_false, false_or]; omega)
        refine G_get hC fl_Mo_43 h_267 rfl d_Mo_init_118 ?_
        refine G_iload_n hC 1 rfl rfl d_Mo_init_121 ?_
        refine G_newX (600 + 4 * k.toNat) [.null, vI 0] hC hR nw_Mo_27 (fun j hj => by rcases (show j = 0 ∨ j = 1 by omega) with rfl | rfl <;> rfl) (by omega) (by omega) d_Mo_init_122 (fun q_268 M_269 h_270 fr_271 => ?_)
        refine G_dup hC rfl d_Mo_init_125 ?_
        refine G_bipush (j := 60) hC (by decide +kernel) d_Mo_init_126 ?_
        refine G_xI (rest := [.ref q_268, vI k, .ref q_40]) hC hR (c_Tx_init h_270 (by omega)) ci_Mo_29 (by decide) (by omega) (by omega) rfl rfl (Nat.le_of_ble_eq_true rfl) d_Mo_init_128 (fun r_274 M_272 p_273 => ?_)
        obtain ⟨rfl, h_275, fr_276⟩ := p_273
        show G E M_272 (20 + 4 * (k : Int).toNat + 1 + (1)) (22000 + 770 * (k : Int).toNat + 2 + ((60 : Int).toNat)) [(0, .ref a), (1, vI k)] [.ref q_268, vI k, .ref q_40] 131
        have h_277 := fr_271.at hna (by decide)
        have h_278 := fr_276.at h_277 (by simp only [List.mem_cons, List.not_mem_nil, or_false, not_or, not_false_eq_true]; try omega)
        refine G_aastX hC h_278 rfl rfl h_275.obj.choose_spec.choose_spec (by omega) (by omega) d_Mo_init_131 (fun M_279 h_280 fr_281 => ?_)
        refine G_aload_n hC 0 rfl rfl d_Mo_init_132 ?_
        have h_282 := fr_271.at h_267 (by decide)
        have h_283 := fr_276.at h_282 (by simp only [List.mem_cons, List.not_mem_nil, or_false, not_or, not_false_eq_true]; try omega)
        have h_284 := fr_281.at h_283 (by decide)
        refine G_get hC fl_Mo_47 h_284 rfl d_Mo_init_133 ?_
        refine G_iload_n hC 1 rfl rfl d_Mo_init_136 ?_
        refine G_newX (600 + 4 * k.toNat + 2) [.null, vI 0] hC hR nw_Mo_27 (fun j hj => by rcases (show j = 0 ∨ j = 1 by omega) with rfl | rfl <;> rfl) (by omega) (by omega) d_Mo_init_137 (fun q_285 M_286 h_287 fr_288 => ?_)
        refine G_dup hC rfl d_Mo_init_140 ?_
        refine G_sipush (j := 700) hC (by decide +kernel) d_Mo_init_141 ?_
        refine G_xI (rest := [.ref q_285, vI k, .ref q_48]) hC hR (c_Tx_init h_287 (by omega)) ci_Mo_29 (by decide) (by omega) (by omega) rfl rfl (Nat.le_of_ble_eq_true rfl) d_Mo_init_144 (fun r_291 M_289 p_290 => ?_)
        obtain ⟨rfl, h_292, fr_293⟩ := p_290
        show G E M_289 (20 + 4 * (k : Int).toNat + 1 + (1) + 1 + (1)) (22000 + 770 * (k : Int).toNat + 2 + ((60 : Int).toNat) + 2 + ((700 : Int).toNat)) [(0, .ref a), (1, vI k)] [.ref q_285, vI k, .ref q_48] 147
        have h_294 := fr_271.at hva (by decide)
        have h_295 := fr_276.at h_294 (by simp only [List.mem_cons, List.not_mem_nil, or_false, not_or, not_false_eq_true]; try omega)
        have h_296 := fr_281.at h_295 (by decide)
        have h_297 := fr_288.at h_296 (by decide)
        have h_298 := fr_293.at h_297 (by simp only [List.mem_cons, List.not_mem_nil, or_false, not_or, not_false_eq_true]; try omega)
        refine G_aastX hC h_298 rfl rfl h_292.obj.choose_spec.choose_spec (by omega) (by omega) d_Mo_init_147 (fun M_299 h_300 fr_301 => ?_)
        refine G_iinc (lv' := [(1, vI (k + 1)), (0, .ref a)]) hC 1 rfl (by rw [hN]; decide) rfl d_Mo_init_148 ?_
        refine G_goto hC 111 (by decide) d_Mo_init_151 ?_
        refine G_lv [1, 0] rfl ?_
        have h_302 := fr_288.at h_280 (by decide)
        have h_303 := fr_293.at h_302 (by simp only [List.mem_cons, List.not_mem_nil, or_false, not_or, not_false_eq_true]; try omega)
        have h_304 := fr_301.at h_303 (by decide)
        have h_305 := h_275.fr fr_281 (by simp only [List.mem_cons, List.not_mem_nil, or_false, not_or, not_false_eq_true]; try omega) (by simp only [List.mem_cons, List.not_mem_nil, or_false, not_or, not_false_eq_true]; try omega)
        have h_306 := h_305.fr fr_288 (by simp only [List.mem_cons, List.not_mem_nil, or_false, not_or, not_false_eq_true]; try omega) (by simp only [List.mem_cons, List.not_mem_nil, or_false, not_or, not_false_eq_true]; try omega)
        have h_307 := h_306.fr fr_293 (by simp only [List.mem_cons, List.not_mem_nil, or_false, not_or, not_false_eq_true]; try omega) (by simp only [List.mem_cons, List.not_mem_nil, or_false, not_or, not_false_eq_true]; try omega)
        have h_308 := h_307.fr fr_301 (by simp only [List.mem_cons, List.not_mem_nil, or_false, not_or, not_false_eq_true]; try omega) (by simp only [List.mem_cons, List.not_mem_nil, or_false, not_or, not_false_eq_true]; try omega)
        have h_309 := h_292.fr fr_301 (by simp only [List.mem_cons, List.not_mem_nil, or_false, not_or, not_false_eq_true]; try omega) (by simp only [List.mem_cons, List.not_mem_nil, or_false, not_or, not_false_eq_true]; try omega)
        refine G_widen (k' := 20 + 4 * ((k + 1) : Int).toNat) (n' := 22000 + 770 * ((k + 1) : Int).toNat) (by omega) (by omega) ?_
        exact ih111 M_299 (k + 1) _ _ (by omega) (((((((hfr1.up (T := ([506, 507] ++ meT)) (by intro u hu; simp only [List.mem_append, mem_meT, List.mem_range, List.mem_cons, List.not_mem_nil, or_false, false_or] at hu ⊢ <;> omega)).tr' (T := ([506, 507] ++ meT)) fr_271 (fun _ z => z) (by intro u hu; simp only [List.mem_append, mem_meT, List.mem_range, List.mem_cons, List.not_mem_nil, or_false, false_or] at hu ⊢ <;> omega)).tr' (T := ([506, 507] ++ meT)) fr_276 (fun _ z => z) (by intro u hu; simp only [List.mem_append, mem_meT, List.mem_range, List.mem_cons, List.not_mem_nil, or_false, false_or] at hu ⊢ <;> omega)).tr' (T := ([506, 507] ++ meT)) fr_281 (fun _ z => z) (by intro u hu; simp only [List.mem_append, mem_meT, List.mem_range, List.mem_cons, List.not_mem_nil, or_false, false_or] at hu ⊢ <;> omega)).tr' (T := ([506, 507] ++ meT)) fr_288 (fun _ z => z) (by intro u hu; simp only [List.mem_append, mem_meT, List.mem_range, List.mem_cons, List.not_mem_nil, or_false, false_or] at hu ⊢ <;> omega)).tr' (T := ([506, 507] ++ meT)) fr_293 (fun _ z => z) (by intro u hu; simp only [List.mem_append, mem_meT, List.mem_range, List.mem_cons, List.not_mem_nil, or_false, false_or] at hu ⊢ <;> omega)).tr' (T := ([506, 507] ++ meT)) fr_301 (fun _ z => z) (by intro u hu; simp only [List.mem_append, mem_meT, List.mem_range, List.mem_cons, List.not_mem_nil, or_false, false_or] at hu ⊢ <;> omega)) h_304 h_300 (by omega) (MdB_step hmb ((((((fr_271.up (T := ([506, 507, 600 + 4 * k.toNat, 600 + 4 * k.toNat + 2])) (by simp)).tr' (T := ([506, 507, 600 + 4 * k.toNat, 600 + 4 * k.toNat + 2])) fr_276 (fun _ z => z) (by simp)).tr' (T := ([506, 507, 600 + 4 * k.toNat, 600 + 4 * k.toNat + 2])) fr_281 (fun _ z => z) (by simp)).tr' (T := ([506, 507, 600 + 4 * k.toNat, 600 + 4 * k.toNat + 2])) fr_288 (fun _ z => z) (by simp)).tr' (T := ([506, 507, 600 + 4 * k.toNat, 600 + 4 * k.toNat + 2])) fr_293 (fun _ z => z) (by simp)).tr' (T := ([506, 507, 600 + 4 * k.toNat, 600 + 4 * k.toNat + 2])) fr_301 (fun _ z => z) (by simp)) (by intro u hu; simp only [List.mem_cons, List.not_mem_nil, or_false] at hu; omega) (by omega) h_308 h_309)
  refine G_lv [1, 0] rfl ?_
  refine G_widen (k' := 20 + 4 * (0 : Int).toNat) (n' := 22000 + 770 * (0 : Int).toNat) (by omega) (by omega) ?_
  exact L111 _ M_103 0 _ _ (Nat.lt_succ_self _) Fr.rf h_120 h_133 (by omega) (MdB_0 _ _ _ _)
