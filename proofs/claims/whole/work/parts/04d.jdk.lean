set_option maxRecDepth 100000 in
theorem lm_X9_35 : Cond.methodLink RX9 35 arraycopyName ∈ BG := bg_of 518 rfl rfl
set_option maxRecDepth 100000 in
theorem js_arraycopy : Cond.static arraycopyName ∈ BG := bg_of 519 rfl rfl
set_option maxRecDepth 100000 in
theorem jn_arraycopy : Cond.native arraycopyName ∈ BG := bg_of 520 rfl rfl
set_option maxRecDepth 100000 in
theorem lm_X5_18 : Cond.methodLink RX5 18 Lib.Math.min.name ∈ BG := bg_of 587 rfl rfl
set_option maxRecDepth 100000 in
theorem js_min : Cond.static Lib.Math.min.name ∈ BG := bg_of 588 rfl rfl
set_option maxRecDepth 100000 in
theorem jc_min : Cond.code Lib.Math.min.name Lib.Math.min.code 2 (some .int) ∈ BG := bg_of 589 (by decide +kernel) rfl
set_option maxRecDepth 100000 in
theorem lm_X10_256 : Cond.methodLink RX10 256 Lib.Math.abs.name ∈ BG := bg_of 669 rfl rfl
set_option maxRecDepth 100000 in
theorem js_abs : Cond.static Lib.Math.abs.name ∈ BG := bg_of 670 rfl rfl
set_option maxRecDepth 100000 in
theorem jc_abs : Cond.code Lib.Math.abs.name Lib.Math.abs.code 1 (some .int) ∈ BG := bg_of 671 (by decide +kernel) rfl
set_option maxRecDepth 100000 in
theorem lm_X10_261 : Cond.methodLink RX10 261 Lib.Math.min.name ∈ BG := bg_of 676 rfl rfl
set_option maxRecDepth 100000 in
theorem lm_X1_58 : Cond.methodLink RX1 58 Lib.Math.min.name ∈ BG := bg_of 712 rfl rfl
set_option maxRecDepth 100000 in
theorem lm_X0_32 : Cond.methodLink RX0 32 Lib.Math.min.name ∈ BG := bg_of 726 rfl rfl
set_option maxRecDepth 100000 in
theorem lm_X3_57 : Cond.methodLink RX3 57 Lib.Math.min.name ∈ BG := bg_of 860 rfl rfl
set_option maxRecDepth 100000 in
theorem lm_X5_28 : Cond.methodLink RX5 28 arraycopyName ∈ BG := bg_of 889 rfl rfl
set_option maxRecDepth 100000 in
theorem ji_Math : Cond.initialized "java/lang/Math" ∈ BG := bg_of 112 rfl rfl
set_option maxRecDepth 100000 in
theorem ji_System : Cond.initialized "java/lang/System" ∈ BG := bg_of 111 rfl rfl
