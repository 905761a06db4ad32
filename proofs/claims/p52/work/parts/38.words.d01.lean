theorem dX11_write_31 : decode cX11_write 31 = .ok (.aload_n 0, 1) := by decide +kernel
theorem dX11_write_32 : decode cX11_write 32 = .ok (.getfield 13, 3) := by decide +kernel
theorem dX11_write_35 : decode cX11_write 35 = .ok (.iload_n 1, 1) := by decide +kernel
theorem dX11_write_36 : decode cX11_write 36 = .ok (.iaload, 1) := by decide +kernel
theorem dX11_write_37 : decode cX11_write 37 = .ok (.iconst 1, 1) := by decide +kernel
theorem dX11_write_38 : decode cX11_write 38 = .ok (.isub, 1) := by decide +kernel
theorem dX11_write_39 : decode cX11_write 39 = .ok (.i2l, 1) := by decide +kernel
theorem dX11_write_40 : decode cX11_write 40 = .ok (.invokestatic 104, 3) := by decide +kernel
theorem dX11_write_43 : decode cX11_write 43 = .ok (.ifCond .ne 6, 3) := by decide +kernel
theorem dX11_write_46 : decode cX11_write 46 = .ok (.bipush (-7), 2) := by decide +kernel
theorem dX11_write_48 : decode cX11_write 48 = .ok (.ireturn, 1) := by decide +kernel
theorem dX11_write_49 : decode cX11_write 49 = .ok (.aload_n 0, 1) := by decide +kernel
theorem dX11_write_50 : decode cX11_write 50 = .ok (.getfield 16, 3) := by decide +kernel
theorem dX11_write_53 : decode cX11_write 53 = .ok (.bipush 60, 2) := by decide +kernel
theorem dX11_write_55 : decode cX11_write 55 = .ok (.iload_n 1, 1) := by decide +kernel
theorem dX11_write_56 : decode cX11_write 56 = .ok (.imul, 1) := by decide +kernel
theorem dX11_write_57 : decode cX11_write 57 = .ok (.iload_n 2, 1) := by decide +kernel
theorem dX11_write_58 : decode cX11_write 58 = .ok (.iadd, 1) := by decide +kernel
theorem dX11_write_59 : decode cX11_write 59 = .ok (.lload_n 3, 1) := by decide +kernel
theorem dX11_write_60 : decode cX11_write 60 = .ok (.aload_n 0, 1) := by decide +kernel
theorem dX11_write_61 : decode cX11_write 61 = .ok (.getfield 7, 3) := by decide +kernel
theorem dX11_write_64 : decode cX11_write 64 = .ok (.iload_n 1, 1) := by decide +kernel
theorem dX11_write_65 : decode cX11_write 65 = .ok (.iaload, 1) := by decide +kernel
theorem dX11_write_66 : decode cX11_write 66 = .ok (.invokestatic 112, 3) := by decide +kernel
theorem dX11_write_69 : decode cX11_write 69 = .ok (.lastore, 1) := by decide +kernel
theorem dX11_write_70 : decode cX11_write 70 = .ok (.iconst 0, 1) := by decide +kernel
theorem dX11_write_71 : decode cX11_write 71 = .ok (.ireturn, 1) := by decide +kernel
