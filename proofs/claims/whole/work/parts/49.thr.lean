/-! What the class throws -/
abbrev xn : List String := ["java/lang/RuntimeException", "java/lang/Exception"]
theorem xf_n : ∀ n ∈ xn, Bundle.fit n = true := by decide +kernel
abbrev xIA : String := "java/lang/IllegalArgumentException"
theorem xf_IA : Bundle.fit xIA = true := by decide +kernel
theorem xz_IA : Cond.initialized xIA ∈ sv_T := sv_in 11 (by decide +kernel) rfl
theorem xh_IA : ∀ w ∈ vx_atS "StateLogic" 29 xIA xn, w ∈ lw_tbl ∧ (goodWord w || sv_dc w) = true := by decide +kernel
theorem xg_IA : ∀ w ∈ Cond.classLink "StateLogic" 25 xIA :: Cond.initialized xIA :: vx_atS "StateLogic" 29 xIA xn, vx_ot w = true := by decide +kernel
abbrev xUO : String := "java/lang/UnsupportedOperationException"
theorem xf_UO : Bundle.fit xUO = true := by decide +kernel
theorem xz_UO : Cond.initialized xUO ∈ sv_T := sv_in 12 (by decide +kernel) rfl
theorem xh_UO : ∀ w ∈ vx_atS "StateLogic" 57 xUO xn, w ∈ lw_tbl ∧ (goodWord w || sv_dc w) = true := by decide +kernel
theorem xg_UO : ∀ w ∈ Cond.classLink "StateLogic" 53 xUO :: Cond.initialized xUO :: vx_atS "StateLogic" 57 xUO xn, vx_ot w = true := by decide +kernel
abbrev xIO : String := "java/lang/IndexOutOfBoundsException"
theorem xf_IO : Bundle.fit xIO = true := by decide +kernel
theorem xz_IO : Cond.initialized xIO ∈ sv_T := sv_in 13 (by decide +kernel) rfl
theorem xh_IO : ∀ w ∈ vx_atS "StateLogic" 133 xIO xn, w ∈ lw_tbl ∧ (goodWord w || sv_dc w) = true := by decide +kernel
theorem xg_IO : ∀ w ∈ Cond.classLink "StateLogic" 129 xIO :: Cond.initialized xIO :: vx_atS "StateLogic" 133 xIO xn, vx_ot w = true := by decide +kernel
abbrev xNS : String := "java/util/NoSuchElementException"
theorem xf_NS : Bundle.fit xNS = true := by decide +kernel
theorem xz_NS : Cond.initialized xNS ∈ sv_T := sv_in 16 (by decide +kernel) rfl
theorem xr_0 : decode prog_18_method_4_code 0 = .ok (.aload_n 0, 1) := by decide +kernel
theorem xr_1 : decode prog_18_method_4_code 1 = .ok (.aload_n 1, 1) := by decide +kernel
theorem xr_2 : decode prog_18_method_4_code 2 = .ok (.invokespecial 13, 3) := by decide +kernel
theorem xr_5 : decode prog_18_method_4_code 5 = .ok (.return_, 1) := by decide +kernel
theorem xh_NS : ∀ w ∈ nz_at "StateLogic" 118 xNS 13 prog_18_method_4_code xn, w ∈ lw_tbl ∧ (goodWord w || sv_dc w) = true := by decide +kernel
theorem xg_NS : ∀ w ∈ Cond.classLink "StateLogic" 114 xNS :: Cond.initialized xNS :: nz_at "StateLogic" 118 xNS 13 prog_18_method_4_code xn, vx_ot w = true := by decide +kernel
