/-! ===== links, each by its place in the tables (by program: wip/tools/links.py) ===== -/
set_option maxRecDepth 100000 in
theorem hinX0 : ∀ z ∈ u_ws RX0 TX0 10, z ∈ f_GW := by decide +kernel
set_option maxRecDepth 100000 in
theorem hinX1 : ∀ z ∈ u_ws RX1 TX1 3, z ∈ f_GW := by decide +kernel
set_option maxRecDepth 100000 in
theorem hinX2 : ∀ z ∈ u_ws RX2 TX2 5, z ∈ f_GW := by decide +kernel
set_option maxRecDepth 100000 in
theorem hinX3 : ∀ z ∈ u_ws RX3 TX3 3, z ∈ f_GW := by decide +kernel
set_option maxRecDepth 100000 in
theorem hinX4 : ∀ z ∈ u_ws RX4 TX4 12, z ∈ f_GW := by decide +kernel
theorem kl_L_11 : Cond.classLink RL 11 RX4 ∈ f_GW := f_in 43 (by decide +kernel) (by decide +kernel)
theorem lk_L_208 : f_LkI RL 208 yX4_init cX4_init 2 0 := ⟨⟨f_in 45 (by decide +kernel) (by decide +kernel), f_in 46 (by decide +kernel) (by decide +kernel), f_in 29 (by decide +kernel) (by decide +kernel), f_in 47 (by decide +kernel) (by decide +kernel), by decide +kernel⟩, ⟨by decide +kernel, by decide +kernel, by decide +kernel⟩⟩
theorem oi_X4_1 : Cond.methodLink RX4 1 objectInit ∈ f_GW := f_in 48 (by decide +kernel) (by decide +kernel)
theorem kl_X4_9 : Cond.classLink RX4 9 RX2 ∈ f_GW := f_in 51 (by decide +kernel) (by decide +kernel)
theorem kl_X4_15 : Cond.classLink RX4 15 RX0 ∈ f_GW := f_in 53 (by decide +kernel) (by decide +kernel)
theorem lk_X4_17 : f_LkI RX4 17 yX0_init cX0_init 1 0 := ⟨⟨f_in 55 (by decide +kernel) (by decide +kernel), f_in 56 (by decide +kernel) (by decide +kernel), f_in 30 (by decide +kernel) (by decide +kernel), f_in 57 (by decide +kernel) (by decide +kernel), by decide +kernel⟩, ⟨by decide +kernel, by decide +kernel, by decide +kernel⟩⟩
theorem oi_X0_3 : Cond.methodLink RX0 3 objectInit ∈ f_GW := f_in 58 (by decide +kernel) (by decide +kernel)
theorem fl_X0_9 : Cond.fieldLink RX0 9 (TX0 0).1 (TX0 0).2.1 (TX0 0).2.2.1 ∈ f_GW := f_in 59 (by decide +kernel) (by decide +kernel)
theorem fl_X0_15 : Cond.fieldLink RX0 15 (TX0 1).1 (TX0 1).2.1 (TX0 1).2.2.1 ∈ f_GW := f_in 60 (by decide +kernel) (by decide +kernel)
theorem fl_X4_152 : Cond.fieldLink RX4 152 (TX0 1).1 (TX0 1).2.1 (TX0 1).2.2.1 ∈ f_GW := f_in 61 (by decide +kernel) (by decide +kernel)
theorem fl_X0_19 : Cond.fieldLink RX0 19 (TX0 2).1 (TX0 2).2.1 (TX0 2).2.2.1 ∈ f_GW := f_in 62 (by decide +kernel) (by decide +kernel)
theorem fl_X4_127 : Cond.fieldLink RX4 127 (TX0 2).1 (TX0 2).2.1 (TX0 2).2.2.1 ∈ f_GW := f_in 63 (by decide +kernel) (by decide +kernel)
theorem fl_X0_22 : Cond.fieldLink RX0 22 (TX0 3).1 (TX0 3).2.1 (TX0 3).2.2.1 ∈ f_GW := f_in 64 (by decide +kernel) (by decide +kernel)
theorem fl_X4_161 : Cond.fieldLink RX4 161 (TX0 3).1 (TX0 3).2.1 (TX0 3).2.2.1 ∈ f_GW := f_in 65 (by decide +kernel) (by decide +kernel)
theorem fl_X0_25 : Cond.fieldLink RX0 25 (TX0 4).1 (TX0 4).2.1 (TX0 4).2.2.1 ∈ f_GW := f_in 66 (by decide +kernel) (by decide +kernel)
theorem fl_X0_28 : Cond.fieldLink RX0 28 (TX0 5).1 (TX0 5).2.1 (TX0 5).2.2.1 ∈ f_GW := f_in 67 (by decide +kernel) (by decide +kernel)
theorem fl_X0_31 : Cond.fieldLink RX0 31 (TX0 6).1 (TX0 6).2.1 (TX0 6).2.2.1 ∈ f_GW := f_in 68 (by decide +kernel) (by decide +kernel)
theorem fl_X0_35 : Cond.fieldLink RX0 35 (TX0 7).1 (TX0 7).2.1 (TX0 7).2.2.1 ∈ f_GW := f_in 69 (by decide +kernel) (by decide +kernel)
theorem fl_X0_38 : Cond.fieldLink RX0 38 (TX0 8).1 (TX0 8).2.1 (TX0 8).2.2.1 ∈ f_GW := f_in 70 (by decide +kernel) (by decide +kernel)
theorem fl_X4_117 : Cond.fieldLink RX4 117 (TX0 8).1 (TX0 8).2.1 (TX0 8).2.2.1 ∈ f_GW := f_in 71 (by decide +kernel) (by decide +kernel)
theorem fl_X0_41 : Cond.fieldLink RX0 41 (TX0 9).1 (TX0 9).2.1 (TX0 9).2.2.1 ∈ f_GW := f_in 72 (by decide +kernel) (by decide +kernel)
theorem fl_X4_120 : Cond.fieldLink RX4 120 (TX0 9).1 (TX0 9).2.1 (TX0 9).2.2.1 ∈ f_GW := f_in 73 (by decide +kernel) (by decide +kernel)
theorem ac_int : Cond.arrayClass .int ∈ f_GW := f_in 95 (by decide +kernel) (by decide +kernel)
theorem ac_boolean : Cond.arrayClass .boolean ∈ f_GW := f_in 96 (by decide +kernel) (by decide +kernel)
theorem lk_X4_22 : f_LkV RX4 22 yX0_foldBy cX0_foldBy 4 none 2 := ⟨⟨f_in 97 (by decide +kernel) (by decide +kernel), f_in 98 (by decide +kernel) (by decide +kernel), f_in 99 (by decide +kernel) (by decide +kernel), f_in 30 (by decide +kernel) (by decide +kernel), f_in 100 (by decide +kernel) (by decide +kernel)⟩, ⟨by decide +kernel, by decide +kernel, by decide +kernel⟩⟩
set_option maxRecDepth 100000 in
theorem lk_X0_44 : f_LkS RX0 44 yX0_isSideways cX0_isSideways 1 (some .boolean) 1 := ⟨⟨f_in 101 (by decide +kernel) (by decide +kernel), f_in 102 (by decide +kernel) (by decide +kernel), f_in 30 (by decide +kernel) (by decide +kernel), f_in 103 (by decide +kernel) (by decide +kernel)⟩, ⟨by decide +kernel, by decide +kernel, by decide +kernel⟩⟩
theorem lk_X0_48 : f_LkV RX0 48 yX0_foldFlatSheet cX0_foldFlatSheet 5 none 0 := ⟨⟨f_in 104 (by decide +kernel) (by decide +kernel), f_in 106 (by decide +kernel) (by decide +kernel), f_in 0 (by decide +kernel) (by decide +kernel), f_in 30 (by decide +kernel) (by decide +kernel), f_in 107 (by decide +kernel) (by decide +kernel)⟩, ⟨by decide +kernel, by decide +kernel, by decide +kernel⟩⟩
theorem lk_X0_54 : f_LkN RX0 54 yX4_faceOf "ProofSheet" cX4_faceOf 2 (some .int) 2 := ⟨⟨by decide +kernel, f_in 109 (by decide +kernel) (by decide +kernel), f_in 29 (by decide +kernel) (by decide +kernel), f_in 110 (by decide +kernel) (by decide +kernel)⟩, ⟨by decide +kernel, by decide +kernel, by decide +kernel⟩⟩
theorem lk_X0_58 : f_LkV RX0 58 yX0_foldSideways cX0_foldSideways 10 none 4 := ⟨⟨f_in 111 (by decide +kernel) (by decide +kernel), f_in 113 (by decide +kernel) (by decide +kernel), f_in 1 (by decide +kernel) (by decide +kernel), f_in 30 (by decide +kernel) (by decide +kernel), f_in 114 (by decide +kernel) (by decide +kernel)⟩, ⟨by decide +kernel, by decide +kernel, by decide +kernel⟩⟩
theorem lk_X0_71 : f_LkV RX0 71 yX0_layOver cX0_layOver 8 none 4 := ⟨⟨f_in 115 (by decide +kernel) (by decide +kernel), f_in 117 (by decide +kernel) (by decide +kernel), f_in 2 (by decide +kernel) (by decide +kernel), f_in 30 (by decide +kernel) (by decide +kernel), f_in 118 (by decide +kernel) (by decide +kernel)⟩, ⟨by decide +kernel, by decide +kernel, by decide +kernel⟩⟩
theorem lk_X0_78 : f_LkN RX0 78 yX4_leafUnder "ProofSheet" cX4_leafUnder 1 (some .int) 1 := ⟨⟨by decide +kernel, f_in 120 (by decide +kernel) (by decide +kernel), f_in 29 (by decide +kernel) (by decide +kernel), f_in 121 (by decide +kernel) (by decide +kernel)⟩, ⟨by decide +kernel, by decide +kernel, by decide +kernel⟩⟩
theorem lk_X0_82 : f_LkN RX0 82 yX4_sideOf "ProofSheet" cX4_sideOf 1 (some .int) 1 := ⟨⟨by decide +kernel, f_in 123 (by decide +kernel) (by decide +kernel), f_in 29 (by decide +kernel) (by decide +kernel), f_in 124 (by decide +kernel) (by decide +kernel)⟩, ⟨by decide +kernel, by decide +kernel, by decide +kernel⟩⟩
theorem lk_X0_62 : f_LkV RX0 62 yX0_foldUpOrDown cX0_foldUpOrDown 10 none 4 := ⟨⟨f_in 125 (by decide +kernel) (by decide +kernel), f_in 127 (by decide +kernel) (by decide +kernel), f_in 3 (by decide +kernel) (by decide +kernel), f_in 30 (by decide +kernel) (by decide +kernel), f_in 128 (by decide +kernel) (by decide +kernel)⟩, ⟨by decide +kernel, by decide +kernel, by decide +kernel⟩⟩
theorem lk_X0_74 : f_LkV RX0 74 yX0_turnLeaves cX0_turnLeaves 5 none 2 := ⟨⟨f_in 129 (by decide +kernel) (by decide +kernel), f_in 131 (by decide +kernel) (by decide +kernel), f_in 4 (by decide +kernel) (by decide +kernel), f_in 30 (by decide +kernel) (by decide +kernel), f_in 132 (by decide +kernel) (by decide +kernel)⟩, ⟨by decide +kernel, by decide +kernel, by decide +kernel⟩⟩
theorem lk_X0_51 : f_LkV RX0 51 yX0_readPile cX0_readPile 5 none 0 := ⟨⟨f_in 136 (by decide +kernel) (by decide +kernel), f_in 138 (by decide +kernel) (by decide +kernel), f_in 5 (by decide +kernel) (by decide +kernel), f_in 30 (by decide +kernel) (by decide +kernel), f_in 139 (by decide +kernel) (by decide +kernel)⟩, ⟨by decide +kernel, by decide +kernel, by decide +kernel⟩⟩
theorem kl_X4_26 : Cond.classLink RX4 26 RX1 ∈ f_GW := f_in 140 (by decide +kernel) (by decide +kernel)
theorem lk_X4_32 : f_LkNI RX4 32 yX1_init "ProofSheet" cX1_init 1 0 := ⟨⟨by decide +kernel, f_in 144 (by decide +kernel) (by decide +kernel), f_in 32 (by decide +kernel) (by decide +kernel), f_in 145 (by decide +kernel) (by decide +kernel), by decide +kernel⟩, ⟨by decide +kernel, by decide +kernel, by decide +kernel⟩⟩
theorem oi_X1_1 : Cond.methodLink RX1 1 objectInit ∈ f_GW := f_in 146 (by decide +kernel) (by decide +kernel)
theorem fl_X1_7 : Cond.fieldLink RX1 7 (TX1 0).1 (TX1 0).2.1 (TX1 0).2.2.1 ∈ f_GW := f_in 147 (by decide +kernel) (by decide +kernel)
theorem fl_X4_198 : Cond.fieldLink RX4 198 (TX1 0).1 (TX1 0).2.1 (TX1 0).2.2.1 ∈ f_GW := f_in 148 (by decide +kernel) (by decide +kernel)
theorem fl_X1_13 : Cond.fieldLink RX1 13 (TX1 1).1 (TX1 1).2.1 (TX1 1).2.2.1 ∈ f_GW := f_in 149 (by decide +kernel) (by decide +kernel)
theorem fl_X1_17 : Cond.fieldLink RX1 17 (TX1 2).1 (TX1 2).2.1 (TX1 2).2.2.1 ∈ f_GW := f_in 150 (by decide +kernel) (by decide +kernel)
theorem kl_X4_37 : Cond.classLink RX4 37 RX3 ∈ f_GW := f_in 158 (by decide +kernel) (by decide +kernel)
theorem fl_X4_11 : Cond.fieldLink RX4 11 (TX4 0).1 (TX4 0).2.1 (TX4 0).2.2.1 ∈ f_GW := f_in 160 (by decide +kernel) (by decide +kernel)
