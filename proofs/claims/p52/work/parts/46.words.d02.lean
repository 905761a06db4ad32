theorem dX11_weightOn_33 : decode cX11_weightOn 33 = .ok (.iload_n 2, 1) := by decide +kernel
theorem dX11_weightOn_34 : decode cX11_weightOn 34 = .ok (.iload 5, 2) := by decide +kernel
theorem dX11_weightOn_36 : decode cX11_weightOn 36 = .ok (.invokestatic 286, 3) := by decide +kernel
theorem dX11_weightOn_39 : decode cX11_weightOn 39 = .ok (.iaload, 1) := by decide +kernel
theorem dX11_weightOn_40 : decode cX11_weightOn 40 = .ok (.invokevirtual 289, 3) := by decide +kernel
theorem dX11_weightOn_43 : decode cX11_weightOn 43 = .ok (.iadd, 1) := by decide +kernel
theorem dX11_weightOn_44 : decode cX11_weightOn 44 = .ok (.istore 4, 2) := by decide +kernel
theorem dX11_weightOn_46 : decode cX11_weightOn 46 = .ok (.iinc 5 1, 3) := by decide +kernel
theorem dX11_weightOn_49 : decode cX11_weightOn 49 = .ok (.goto (-41), 3) := by decide +kernel
theorem dX11_weightOn_52 : decode cX11_weightOn 52 = .ok (.iload 4, 2) := by decide +kernel
theorem dX11_weightOn_54 : decode cX11_weightOn 54 = .ok (.ireturn, 1) := by decide +kernel
