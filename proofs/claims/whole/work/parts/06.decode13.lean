theorem d_C_init_63 : decode prog_1_method_1_code 63 = .ok (.invokespecial 39, 3) := by decide +kernel
theorem d_C_init_66 : decode prog_1_method_1_code 66 = .ok (.putfield 40, 3) := by decide +kernel
theorem d_C_init_69 : decode prog_1_method_1_code 69 = .ok (.aload_n 0, 1) := by decide +kernel
theorem d_C_init_70 : decode prog_1_method_1_code 70 = .ok (.new 44, 3) := by decide +kernel
theorem d_C_init_73 : decode prog_1_method_1_code 73 = .ok (.dup, 1) := by decide +kernel
theorem d_C_init_74 : decode prog_1_method_1_code 74 = .ok (.invokespecial 46, 3) := by decide +kernel
theorem d_C_init_77 : decode prog_1_method_1_code 77 = .ok (.putfield 47, 3) := by decide +kernel
theorem d_C_init_80 : decode prog_1_method_1_code 80 = .ok (.aload_n 0, 1) := by decide +kernel
theorem d_C_init_81 : decode prog_1_method_1_code 81 = .ok (.new 44, 3) := by decide +kernel
theorem d_C_init_84 : decode prog_1_method_1_code 84 = .ok (.dup, 1) := by decide +kernel
theorem d_C_init_85 : decode prog_1_method_1_code 85 = .ok (.invokespecial 46, 3) := by decide +kernel
theorem d_C_init_88 : decode prog_1_method_1_code 88 = .ok (.putfield 51, 3) := by decide +kernel
theorem d_C_init_91 : decode prog_1_method_1_code 91 = .ok (.aload_n 0, 1) := by decide +kernel
theorem d_C_init_92 : decode prog_1_method_1_code 92 = .ok (.getfield 33, 3) := by decide +kernel
theorem d_C_init_95 : decode prog_1_method_1_code 95 = .ok (.aload_n 0, 1) := by decide +kernel
theorem d_C_init_96 : decode prog_1_method_1_code 96 = .ok (.getfield 47, 3) := by decide +kernel
theorem d_C_init_99 : decode prog_1_method_1_code 99 = .ok (.invokevirtual 54, 3) := by decide +kernel
theorem d_C_init_102 : decode prog_1_method_1_code 102 = .ok (.return_, 1) := by decide +kernel
