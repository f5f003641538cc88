/-! ===== the words of letter's throw ===== -/
def xNS : String := "java/util/NoSuchElementException"
def xw : List Cond := xsAt RX10 398 xNS 13 prog_23_method_4_code ["java/lang/RuntimeException", "java/lang/Exception"]
def xnb : List Cond := [.declares (Bundle.initS "java/lang/RuntimeException"), .declares (Bundle.initS "java/lang/Exception"), .declares (Bundle.initS Bundle.tN), .castable xNS xNS]
theorem xw_g0 : ∀ w ∈ xw.filter goodWord, w ∈ lw_tbl := by decide +kernel
theorem xw_g : ∀ w ∈ xw.filter goodWord, w ∈ zt_tbl := fun w h => List.mem_filter.mpr ⟨xw_g0 w h, (List.mem_filter.mp h).2⟩
theorem xw_b : ∀ w ∈ xw.filter (fun w => !goodWord w), w ∈ xnb := by decide +kernel
theorem xnb_in : ∀ w ∈ xnb, w ∈ tables_1 := by decide +kernel
theorem xw_ot : ∀ w ∈ Cond.classLink RX10 394 xNS :: Cond.initialized xNS :: xw, vx_ot w = true := by decide +kernel
theorem xb_0 : decode prog_23_method_4_code 0 = .ok (.aload_n 0, 1) := by decide +kernel
theorem xb_1 : decode prog_23_method_4_code 1 = .ok (.aload_n 1, 1) := by decide +kernel
theorem xb_2 : decode prog_23_method_4_code 2 = .ok (.invokespecial 13, 3) := by decide +kernel
theorem xb_5 : decode prog_23_method_4_code 5 = .ok (.return_, 1) := by decide +kernel
theorem xk_390 : Cond.classLink RX10 394 xNS ∈ zt_tbl := zt_t 988 (by decide +kernel) rfl
theorem xk_13 : Cond.classLink RL 13 xNS ∈ zt_tbl := zt_t 982 (by decide +kernel) rfl
theorem xk_i : Cond.initialized xNS ∈ zt_tbl := zt_t 20 (by decide +kernel) rfl
theorem xk_c : Cond.castable xNS xNS ∈ xnb := by decide +kernel
