/-! the class's two kinds of exception -/
abbrev x_sup : String := "java/lang/RuntimeException"
abbrev x_exc : List String := ["java/lang/Exception"]
abbrev x_bN : ByteArray := prog_17_method_4_code
abbrev x_bI : ByteArray := prog_11_method_2_code
theorem x_bN0 : decode x_bN 0 = .ok (.aload_n 0, 1) := by decide +kernel
theorem x_bN1 : decode x_bN 1 = .ok (.aload_n 1, 1) := by decide +kernel
theorem x_bN2 : decode x_bN 2 = .ok (.invokespecial 13, 3) := by decide +kernel
theorem x_bN5 : decode x_bN 5 = .ok (.return_, 1) := by decide +kernel
theorem x_bI0 : decode x_bI 0 = .ok (.aload_n 0, 1) := by decide +kernel
theorem x_bI1 : decode x_bI 1 = .ok (.aload_n 1, 1) := by decide +kernel
theorem x_bI2 : decode x_bI 2 = .ok (.invokespecial 7, 3) := by decide +kernel
theorem x_bI5 : decode x_bI 5 = .ok (.return_, 1) := by decide +kernel
abbrev x_atN : List Cond := (xt_atoms RX6 105 x_nse 13 x_bN x_sup x_exc).filter vx_no
abbrev x_atI : List Cond := (xt_atoms RX6 116 x_iae 7 x_bI x_sup x_exc).filter vx_no
theorem x_atN_in : ∀ w ∈ x_atN.filter goodWord, w ∈ lw_tbl := by decide +kernel
theorem x_atI_in : ∀ w ∈ x_atI.filter goodWord, w ∈ lw_tbl := by decide +kernel
theorem x_atN_no : ∀ w ∈ x_atN.filter (fun w => !goodWord w), x_isN w = true ∧ w ∈ tables_1 := by decide +kernel
theorem x_atI_no : ∀ w ∈ x_atI.filter (fun w => !goodWord w), x_isN w = true ∧ w ∈ tables_1 := by decide +kernel
theorem x_atN_ot : ∀ w ∈ Cond.classLink RX6 101 x_nse :: Cond.initialized x_nse :: x_atN, vx_ot w = true := by decide +kernel
theorem x_atI_ot : ∀ w ∈ Cond.classLink RX6 112 x_iae :: Cond.initialized x_iae :: x_atI, vx_ot w = true := by decide +kernel
