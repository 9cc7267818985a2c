/-! the law's own methods: what stands in the bytes -/
theorem dL_act_922 : decode cL_act 922 = .ok (.aload_n 0, 1) := by decide +kernel
theorem dL_act_923 : decode cL_act 923 = .ok (.iload_n 3, 1) := by decide +kernel
theorem dL_act_924 : decode cL_act 924 = .ok (.iload 4, 2) := by decide +kernel
theorem dL_act_926 : decode cL_act 926 = .ok (.invokestatic 96, 3) := by decide +kernel
theorem dL_act_929 : decode cL_act 929 = .ok (.ireturn, 1) := by decide +kernel
