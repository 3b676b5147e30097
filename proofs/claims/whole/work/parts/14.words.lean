set_option maxRecDepth 20000 in
theorem olX9_1 : Cond.methodLink RX9 1 objectInit ∈ TB := TB_1 28 rfl rfl
set_option maxRecDepth 20000 in
theorem olX8_3 : Cond.methodLink RX8 3 objectInit ∈ TB := TB_1 36 rfl rfl
set_option maxRecDepth 20000 in
theorem olX3_3 : Cond.methodLink RX3 3 objectInit ∈ TB := TB_1 73 rfl rfl
set_option maxRecDepth 20000 in
theorem olX0_3 : Cond.methodLink RX0 3 objectInit ∈ TB := TB_1 83 rfl rfl
set_option maxRecDepth 20000 in
theorem olX5_3 : Cond.methodLink RX5 3 objectInit ∈ TB := TB_1 101 rfl rfl
set_option maxRecDepth 20000 in
theorem olX6_3 : Cond.methodLink RX6 3 objectInit ∈ TB := TB_1 107 rfl rfl
set_option maxRecDepth 20000 in
theorem olX1_3 : Cond.methodLink RX1 3 objectInit ∈ TB := TB_1 140 rfl rfl
set_option maxRecDepth 20000 in
theorem olX4_3 : Cond.methodLink RX4 3 objectInit ∈ TB := TB_1 167 rfl rfl
set_option maxRecDepth 20000 in
theorem olX7_3 : Cond.methodLink RX7 3 objectInit ∈ TB := TB_1 187 rfl rfl
set_option maxRecDepth 20000 in
theorem olX2_3 : Cond.methodLink RX2 3 objectInit ∈ TB := TB_1 202 rfl rfl
set_option maxRecDepth 20000 in
theorem mnX8_41 : Cond.methodLink RX8 41 Lib.Math.min.name ∈ TB := TB_2 145 rfl rfl
set_option maxRecDepth 20000 in
theorem mnX3_125 : Cond.methodLink RX3 125 Lib.Math.min.name ∈ TB := TB_2 204 rfl rfl
set_option maxRecDepth 20000 in
theorem cpX6_47 : Cond.methodLink RX6 47 arraycopyName ∈ TB := TB_3 68 rfl rfl
set_option maxRecDepth 20000 in
theorem cpX1_30 : Cond.methodLink RX1 30 arraycopyName ∈ TB := TB_3 75 rfl rfl
set_option maxRecDepth 20000 in
theorem cpX4_27 : Cond.methodLink RX4 27 arraycopyName ∈ TB := TB_3 80 rfl rfl
set_option maxRecDepth 20000 in
theorem cpX7_38 : Cond.methodLink RX7 38 arraycopyName ∈ TB := TB_3 85 rfl rfl
set_option maxRecDepth 20000 in
theorem cpX2_19 : Cond.methodLink RX2 19 arraycopyName ∈ TB := TB_3 90 rfl rfl
set_option maxRecDepth 20000 in
theorem mnX5_206 : Cond.methodLink RX5 206 Lib.Math.min.name ∈ TB := TB_4 34 rfl rfl
set_option maxRecDepth 20000 in
theorem mnX9_179 : Cond.methodLink RX9 179 Lib.Math.min.name ∈ TB := TB_5 87 rfl rfl
set_option maxRecDepth 20000 in
theorem mxX9_184 : Cond.methodLink RX9 184 Lib.Math.max.name ∈ TB := TB_5 88 rfl rfl
set_option maxRecDepth 20000 in
theorem mxX1_60 : Cond.methodLink RX1 60 Lib.Math.max.name ∈ TB := TB_5 150 rfl rfl
set_option maxRecDepth 20000 in
theorem mxX4_36 : Cond.methodLink RX4 36 Lib.Math.max.name ∈ TB := TB_5 231 rfl rfl
set_option maxRecDepth 20000 in
theorem olX10_3 : Cond.methodLink RX10 3 objectInit ∈ TB := TB_6 154 rfl rfl
set_option maxRecDepth 20000 in
theorem mnX10_189 : Cond.methodLink RX10 189 Lib.Math.min.name ∈ TB := TB_7 173 rfl rfl
set_option maxRecDepth 20000 in
theorem mxX10_287 : Cond.methodLink RX10 287 Lib.Math.max.name ∈ TB := TB_8 52 rfl rfl
set_option maxRecDepth 20000 in
theorem ax_oi : Cond.instanceMethod objectInit ∈ TB := TB_1 29 rfl rfl
set_option maxRecDepth 20000 in
theorem ax_oc : Cond.code objectInit ⟨#[0xb1]⟩ 1 none ∈ TB := TB_1 30 rfl rfl
set_option maxRecDepth 20000 in
theorem ax_mxs : Cond.static Lib.Math.max.name ∈ TB := TB_5 89 rfl rfl
set_option maxRecDepth 20000 in
theorem ax_mns : Cond.static Lib.Math.min.name ∈ TB := TB_2 146 rfl rfl
set_option maxRecDepth 20000 in
theorem ax_mi : Cond.initialized "java/lang/Math" ∈ TB := TB_1 20 rfl rfl
set_option maxRecDepth 20000 in
theorem ax_mxc : Cond.code Lib.Math.max.name Lib.Math.max.code 2 (some .int) ∈ TB := TB_5 90 rfl rfl
set_option maxRecDepth 20000 in
theorem ax_mnc : Cond.code Lib.Math.min.name Lib.Math.min.code 2 (some .int) ∈ TB := TB_2 147 rfl rfl
set_option maxRecDepth 20000 in
theorem ax_cn : Cond.native arraycopyName ∈ TB := TB_3 70 rfl rfl
set_option maxRecDepth 20000 in
theorem ax_cs : Cond.static arraycopyName ∈ TB := TB_3 69 rfl rfl
set_option maxRecDepth 20000 in
theorem ax_ci : Cond.initialized "java/lang/System" ∈ TB := TB_1 22 rfl rfl
set_option maxRecDepth 20000 in
theorem kcX5_184 : Cond.constant RX5 184 1000000 ∈ TB := TB_3 155 rfl rfl
set_option maxRecDepth 20000 in
theorem kcX10_146 : Cond.constant RX10 146 1000000 ∈ TB := TB_7 123 rfl rfl
set_option maxRecDepth 20000 in
theorem kcX10_188 : Cond.constant RX10 188 10000000 ∈ TB := TB_7 172 rfl rfl
set_option maxRecDepth 20000 in
theorem kcX10_298 : Cond.constant RX10 298 2147483647 ∈ TB := TB_8 121 rfl rfl
set_option maxRecDepth 20000 in
theorem kfX5_199 : Cond.constantFloat RX5 199 1120403456 ∈ TB := TB_3 160 rfl rfl
set_option maxRecDepth 20000 in
theorem kfX10_145 : Cond.constantFloat RX10 145 1120403456 ∈ TB := TB_7 128 rfl rfl
theorem ax_nw : ∀ w ∈ ax_nests, w.onTables = true := by decide +kernel
set_option maxRecDepth 20000 in
theorem ax_iaei : Cond.initialized "java/lang/IllegalArgumentException" ∈ TB := TB_1 15 rfl rfl
set_option maxRecDepth 20000 in
theorem ax_iobi : Cond.initialized "java/lang/IndexOutOfBoundsException" ∈ TB := TB_1 21 rfl rfl
set_option maxRecDepth 20000 in
theorem clL_13 : Cond.classLink RL 13 "java/lang/IllegalArgumentException" ∈ TB := TB_4 54 rfl rfl
set_option maxRecDepth 20000 in
theorem clX9_54 : Cond.classLink RX9 54 "java/lang/IllegalArgumentException" ∈ TB := TB_4 59 rfl rfl
set_option maxRecDepth 20000 in
theorem clL_19 : Cond.classLink RL 19 "java/lang/IndexOutOfBoundsException" ∈ TB := TB_4 132 rfl rfl
set_option maxRecDepth 20000 in
theorem clX9_336 : Cond.classLink RX9 336 "java/lang/IndexOutOfBoundsException" ∈ TB := TB_4 141 rfl rfl
theorem atX9_58 : ∀ w ∈ vx_atS RX9 58 "java/lang/IllegalArgumentException" ["java/lang/RuntimeException", "java/lang/Exception"], w ∈ TB ∨ w ∈ ax_nests := by
  have h1 : ∀ w ∈ vx_atS RX9 58 "java/lang/IllegalArgumentException" ["java/lang/RuntimeException", "java/lang/Exception"], w ∈ lw_tbl := by decide +kernel
  have h2 : ∀ w ∈ vx_atS RX9 58 "java/lang/IllegalArgumentException" ["java/lang/RuntimeException", "java/lang/Exception"], goodWord w = true ∨ w ∈ ax_nests := by decide +kernel
  exact fun w hw => (h2 w hw).elim (fun q => Or.inl (List.mem_filter.mpr ⟨h1 w hw, q⟩)) Or.inr
theorem agX9_58 : ∀ w ∈ Cond.classLink RX9 54 "java/lang/IllegalArgumentException" :: Cond.initialized "java/lang/IllegalArgumentException" :: vx_atS RX9 58 "java/lang/IllegalArgumentException" ["java/lang/RuntimeException", "java/lang/Exception"], vx_ot w = true := by decide +kernel
theorem atX9_340 : ∀ w ∈ vx_atS RX9 340 "java/lang/IndexOutOfBoundsException" ["java/lang/RuntimeException", "java/lang/Exception"], w ∈ TB ∨ w ∈ ax_nests := by
  have h1 : ∀ w ∈ vx_atS RX9 340 "java/lang/IndexOutOfBoundsException" ["java/lang/RuntimeException", "java/lang/Exception"], w ∈ lw_tbl := by decide +kernel
  have h2 : ∀ w ∈ vx_atS RX9 340 "java/lang/IndexOutOfBoundsException" ["java/lang/RuntimeException", "java/lang/Exception"], goodWord w = true ∨ w ∈ ax_nests := by decide +kernel
  exact fun w hw => (h2 w hw).elim (fun q => Or.inl (List.mem_filter.mpr ⟨h1 w hw, q⟩)) Or.inr
theorem agX9_340 : ∀ w ∈ Cond.classLink RX9 336 "java/lang/IndexOutOfBoundsException" :: Cond.initialized "java/lang/IndexOutOfBoundsException" :: vx_atS RX9 340 "java/lang/IndexOutOfBoundsException" ["java/lang/RuntimeException", "java/lang/Exception"], vx_ot w = true := by decide +kernel
