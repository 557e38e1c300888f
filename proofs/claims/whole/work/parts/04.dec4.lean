theorem dL_quietShare_3 : decode cL_quietShare 3 = .ok (.invokevirtual 109, 3) := by decide +kernel
theorem dL_quietShare_6 : decode cL_quietShare 6 = .ok (.f2d, 1) := by decide +kernel
theorem dL_quietShare_7 : decode cL_quietShare 7 = .ok (.dastore, 1) := by decide +kernel
theorem dL_quietShare_8 : decode cL_quietShare 8 = .ok (.goto 6, 3) := by decide +kernel
theorem dL_quietShare_11 : decode cL_quietShare 11 = .ok (.astore_n 2, 1) := by decide +kernel
theorem dL_quietShare_12 : decode cL_quietShare 12 = .ok (.iconst 1, 1) := by decide +kernel
theorem dL_quietShare_13 : decode cL_quietShare 13 = .ok (.ireturn, 1) := by decide +kernel
theorem dL_quietShare_14 : decode cL_quietShare 14 = .ok (.iconst 0, 1) := by decide +kernel
theorem dL_quietShare_15 : decode cL_quietShare 15 = .ok (.ireturn, 1) := by decide +kernel
