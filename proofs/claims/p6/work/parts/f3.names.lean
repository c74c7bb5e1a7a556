theorem d_M_thrown_0 : decode prog_12_method_2_code 0 = .ok (.aload_n 0, 1) := by decide +kernel
theorem d_M_thrown_1 : decode prog_12_method_2_code 1 = .ok (.getfield 94, 3) := by decide +kernel
theorem d_M_thrown_4 : decode prog_12_method_2_code 4 = .ok (.ireturn, 1) := by decide +kernel

