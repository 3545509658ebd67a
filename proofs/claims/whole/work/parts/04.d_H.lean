theorem d_H_floorMod_0 : decode b_H_floorMod 0 = .ok (.iload_n 0, 1) := by decide +kernel
theorem d_H_floorMod_1 : decode b_H_floorMod 1 = .ok (.iload_n 1, 1) := by decide +kernel
theorem d_H_floorMod_2 : decode b_H_floorMod 2 = .ok (.irem, 1) := by decide +kernel
theorem d_H_floorMod_3 : decode b_H_floorMod 3 = .ok (.istore_n 2, 1) := by decide +kernel
theorem d_H_floorMod_4 : decode b_H_floorMod 4 = .ok (.iload_n 0, 1) := by decide +kernel
theorem d_H_floorMod_5 : decode b_H_floorMod 5 = .ok (.iload_n 1, 1) := by decide +kernel
theorem d_H_floorMod_6 : decode b_H_floorMod 6 = .ok (.ixor, 1) := by decide +kernel
theorem d_H_floorMod_7 : decode b_H_floorMod 7 = .ok (.ifCond .ge 11, 3) := by decide +kernel
theorem d_H_floorMod_10 : decode b_H_floorMod 10 = .ok (.iload_n 2, 1) := by decide +kernel
theorem d_H_floorMod_11 : decode b_H_floorMod 11 = .ok (.ifCond .eq 7, 3) := by decide +kernel
theorem d_H_floorMod_14 : decode b_H_floorMod 14 = .ok (.iload_n 2, 1) := by decide +kernel
theorem d_H_floorMod_15 : decode b_H_floorMod 15 = .ok (.iload_n 1, 1) := by decide +kernel
theorem d_H_floorMod_16 : decode b_H_floorMod 16 = .ok (.iadd, 1) := by decide +kernel
theorem d_H_floorMod_17 : decode b_H_floorMod 17 = .ok (.ireturn, 1) := by decide +kernel
theorem d_H_floorMod_18 : decode b_H_floorMod 18 = .ok (.iload_n 2, 1) := by decide +kernel
theorem d_H_floorMod_19 : decode b_H_floorMod 19 = .ok (.ireturn, 1) := by decide +kernel
