theorem dX10_firstFalse_10 : decode cX10_firstFalse 10 = .ok (.iload_n 3, 1) := by decide +kernel
theorem dX10_firstFalse_11 : decode cX10_firstFalse 11 = .ok (.aload_n 0, 1) := by decide +kernel
theorem dX10_firstFalse_12 : decode cX10_firstFalse 12 = .ok (.getfield 78, 3) := by decide +kernel
theorem dX10_firstFalse_15 : decode cX10_firstFalse 15 = .ok (.iload_n 1, 1) := by decide +kernel
theorem dX10_firstFalse_16 : decode cX10_firstFalse 16 = .ok (.iaload, 1) := by decide +kernel
theorem dX10_firstFalse_17 : decode cX10_firstFalse 17 = .ok (.if_icmp .ge 50, 3) := by decide +kernel
theorem dX10_firstFalse_67 : decode cX10_firstFalse 67 = .ok (.bipush (-2), 2) := by decide +kernel
theorem dX10_firstFalse_69 : decode cX10_firstFalse 69 = .ok (.ireturn, 1) := by decide +kernel
theorem dX10_firstFalse_20 : decode cX10_firstFalse 20 = .ok (.iload_n 3, 1) := by decide +kernel
theorem dX10_firstFalse_21 : decode cX10_firstFalse 21 = .ok (.sipush 200, 3) := by decide +kernel
theorem dX10_firstFalse_24 : decode cX10_firstFalse 24 = .ok (.if_icmp .ge 43, 3) := by decide +kernel
theorem dX10_firstFalse_27 : decode cX10_firstFalse 27 = .ok (.aload_n 0, 1) := by decide +kernel
theorem dX10_firstFalse_28 : decode cX10_firstFalse 28 = .ok (.aload_n 0, 1) := by decide +kernel
theorem dX10_firstFalse_29 : decode cX10_firstFalse 29 = .ok (.getfield 151, 3) := by decide +kernel
theorem dX10_firstFalse_32 : decode cX10_firstFalse 32 = .ok (.iload_n 3, 1) := by decide +kernel
theorem dX10_firstFalse_33 : decode cX10_firstFalse 33 = .ok (.iadd, 1) := by decide +kernel
theorem dX10_firstFalse_34 : decode cX10_firstFalse 34 = .ok (.invokevirtual 255, 3) := by decide +kernel
theorem dX10_firstFalse_37 : decode cX10_firstFalse 37 = .ok (.aload_n 0, 1) := by decide +kernel
theorem dX10_firstFalse_38 : decode cX10_firstFalse 38 = .ok (.getfield 81, 3) := by decide +kernel
theorem dX10_firstFalse_41 : decode cX10_firstFalse 41 = .ok (.bipush 60, 2) := by decide +kernel
theorem dX10_firstFalse_43 : decode cX10_firstFalse 43 = .ok (.iload_n 1, 1) := by decide +kernel
theorem dX10_firstFalse_44 : decode cX10_firstFalse 44 = .ok (.imul, 1) := by decide +kernel
theorem dX10_firstFalse_45 : decode cX10_firstFalse 45 = .ok (.iload_n 3, 1) := by decide +kernel
theorem dX10_firstFalse_46 : decode cX10_firstFalse 46 = .ok (.iadd, 1) := by decide +kernel
theorem dX10_firstFalse_47 : decode cX10_firstFalse 47 = .ok (.laload, 1) := by decide +kernel
theorem dX10_firstFalse_48 : decode cX10_firstFalse 48 = .ok (.aload_n 0, 1) := by decide +kernel
theorem dX10_firstFalse_49 : decode cX10_firstFalse 49 = .ok (.getfield 37, 3) := by decide +kernel
theorem dX10_firstFalse_52 : decode cX10_firstFalse 52 = .ok (.iload_n 2, 1) := by decide +kernel
theorem dX10_firstFalse_53 : decode cX10_firstFalse 53 = .ok (.iaload, 1) := by decide +kernel
theorem dX10_firstFalse_54 : decode cX10_firstFalse 54 = .ok (.i2l, 1) := by decide +kernel
theorem dX10_firstFalse_55 : decode cX10_firstFalse 55 = .ok (.lcmp, 1) := by decide +kernel
theorem dX10_firstFalse_56 : decode cX10_firstFalse 56 = .ok (.ifCond .eq 5, 3) := by decide +kernel
theorem dX10_firstFalse_61 : decode cX10_firstFalse 61 = .ok (.iinc 3 1, 3) := by decide +kernel
theorem dX10_firstFalse_64 : decode cX10_firstFalse 64 = .ok (.goto (-54), 3) := by decide +kernel
theorem dX10_firstFalse_59 : decode cX10_firstFalse 59 = .ok (.iload_n 3, 1) := by decide +kernel
theorem dX10_firstFalse_60 : decode cX10_firstFalse 60 = .ok (.ireturn, 1) := by decide +kernel
theorem dX10_firstFalse_0 : decode cX10_firstFalse 0 = .ok (.aload_n 0, 1) := by decide +kernel
theorem dX10_firstFalse_1 : decode cX10_firstFalse 1 = .ok (.aload_n 0, 1) := by decide +kernel
theorem dX10_firstFalse_2 : decode cX10_firstFalse 2 = .ok (.invokevirtual 246, 3) := by decide +kernel
theorem dX10_firstFalse_5 : decode cX10_firstFalse 5 = .ok (.invokevirtual 249, 3) := by decide +kernel
theorem dX10_firstFalse_8 : decode cX10_firstFalse 8 = .ok (.iconst 0, 1) := by decide +kernel
theorem dX10_firstFalse_9 : decode cX10_firstFalse 9 = .ok (.istore_n 3, 1) := by decide +kernel