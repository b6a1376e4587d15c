/-! LINKS: words by their places: printed by wip/gen/names.py -/
theorem w_acB : Cond.arrayClass .byte ∈ TB := tb_in 76 (by decide +kernel) rfl
theorem w_acI : Cond.arrayClass .int ∈ TB := tb_in 129 (by decide +kernel) rfl
theorem w_acN : Cond.native arraycopyName ∈ TB := tb_in 257 (by decide +kernel) rfl
theorem w_acS : Cond.static arraycopyName ∈ TB := tb_in 256 (by decide +kernel) rfl
theorem w_syI : Cond.initialized "java/lang/System" ∈ TB := tb_in 42 (by decide +kernel) rfl
theorem w_oiM : Cond.instanceMethod Lib.objectInit ∈ TB := tb_in 55 (by decide +kernel) rfl
theorem w_oiC : Cond.code Lib.objectInit ⟨#[0xb1]⟩ 1 none ∈ TB := tb_in 56 (by decide +kernel) rfl
theorem w_maI : Cond.initialized "java/lang/Math" ∈ TB := tb_in 32 (by decide +kernel) rfl
theorem w_miS : Cond.static Lib.Math.min.name ∈ TB := tb_in 64 (by decide +kernel) rfl
theorem w_miC : Cond.code Lib.Math.min.name Lib.Math.min.code 2 (some .int) ∈ TB := tb_in 65 (by decide +kernel) rfl
theorem w_mxS : Cond.static Lib.Math.max.name ∈ TB := tb_in 607 (by decide +kernel) rfl
theorem w_mxC : Cond.code Lib.Math.max.name Lib.Math.max.code 2 (some .int) ∈ TB := tb_in 608 (by decide +kernel) rfl
