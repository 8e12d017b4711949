theorem dX11_mustExist_0 : decode cX11_mustExist 0 = .ok (.iload_n 1, 1) := by decide +kernel
theorem dX11_mustExist_1 : decode cX11_mustExist 1 = .ok (.ifCond .ne 24, 3) := by decide +kernel
theorem dX11_mustExist_4 : decode cX11_mustExist 4 = .ok (.aload_n 0, 1) := by decide +kernel
theorem dX11_mustExist_5 : decode cX11_mustExist 5 = .ok (.dup, 1) := by decide +kernel
theorem dX11_mustExist_6 : decode cX11_mustExist 6 = .ok (.getfield 436, 3) := by decide +kernel
theorem dX11_mustExist_9 : decode cX11_mustExist 9 = .ok (.iconst 1, 1) := by decide +kernel
theorem dX11_mustExist_10 : decode cX11_mustExist 10 = .ok (.iadd, 1) := by decide +kernel
theorem dX11_mustExist_11 : decode cX11_mustExist 11 = .ok (.putfield 436, 3) := by decide +kernel
theorem dX11_mustExist_14 : decode cX11_mustExist 14 = .ok (.new 442, 3) := by decide +kernel
theorem dX11_mustExist_17 : decode cX11_mustExist 17 = .ok (.dup, 1) := by decide +kernel
theorem dX11_mustExist_18 : decode cX11_mustExist 18 = .ok (.ldc_w 444, 3) := by decide +kernel
theorem dX11_mustExist_21 : decode cX11_mustExist 21 = .ok (.invokespecial 446, 3) := by decide +kernel
theorem dX11_mustExist_24 : decode cX11_mustExist 24 = .ok (.athrow, 1) := by decide +kernel
theorem dX11_mustFit_0 : decode cX11_mustFit 0 = .ok (.iload_n 1, 1) := by decide +kernel
theorem dX11_mustFit_1 : decode cX11_mustFit 1 = .ok (.ifCond .ne 24, 3) := by decide +kernel
theorem dX11_mustFit_4 : decode cX11_mustFit 4 = .ok (.aload_n 0, 1) := by decide +kernel
theorem dX11_mustFit_5 : decode cX11_mustFit 5 = .ok (.dup, 1) := by decide +kernel
theorem dX11_mustFit_6 : decode cX11_mustFit 6 = .ok (.getfield 439, 3) := by decide +kernel
theorem dX11_mustFit_9 : decode cX11_mustFit 9 = .ok (.iconst 1, 1) := by decide +kernel
theorem dX11_mustFit_10 : decode cX11_mustFit 10 = .ok (.iadd, 1) := by decide +kernel
theorem dX11_mustFit_11 : decode cX11_mustFit 11 = .ok (.putfield 439, 3) := by decide +kernel
theorem dX11_mustFit_14 : decode cX11_mustFit 14 = .ok (.new 449, 3) := by decide +kernel
theorem dX11_mustFit_17 : decode cX11_mustFit 17 = .ok (.dup, 1) := by decide +kernel
theorem dX11_mustFit_18 : decode cX11_mustFit 18 = .ok (.ldc_w 451, 3) := by decide +kernel
theorem dX11_mustFit_21 : decode cX11_mustFit 21 = .ok (.invokespecial 453, 3) := by decide +kernel
theorem dX11_mustFit_24 : decode cX11_mustFit 24 = .ok (.athrow, 1) := by decide +kernel
theorem dX11_mustFit_25 : decode cX11_mustFit 25 = .ok (.return_, 1) := by decide +kernel
theorem dX11_within_0 : decode cX11_within 0 = .ok (.iload_n 0, 1) := by decide +kernel
theorem dX11_within_1 : decode cX11_within 1 = .ok (.iload_n 1, 1) := by decide +kernel
theorem dX11_within_2 : decode cX11_within 2 = .ok (.if_icmp .lt 12, 3) := by decide +kernel
theorem dX11_within_5 : decode cX11_within 5 = .ok (.iload_n 0, 1) := by decide +kernel
theorem dX11_within_6 : decode cX11_within 6 = .ok (.iload_n 2, 1) := by decide +kernel
theorem dX11_within_7 : decode cX11_within 7 = .ok (.if_icmp .gt 7, 3) := by decide +kernel
theorem dX11_within_10 : decode cX11_within 10 = .ok (.iconst 1, 1) := by decide +kernel
theorem dX11_within_11 : decode cX11_within 11 = .ok (.goto 4, 3) := by decide +kernel
theorem dX11_within_14 : decode cX11_within 14 = .ok (.iconst 0, 1) := by decide +kernel
theorem dX11_within_15 : decode cX11_within 15 = .ok (.ireturn, 1) := by decide +kernel
theorem dX12_in_0 : decode cX12_in 0 = .ok (.iload_n 0, 1) := by decide +kernel
theorem dX12_in_1 : decode cX12_in 1 = .ok (.iload_n 1, 1) := by decide +kernel
theorem dX12_in_2 : decode cX12_in 2 = .ok (.if_icmp .lt 12, 3) := by decide +kernel
theorem dX12_in_5 : decode cX12_in 5 = .ok (.iload_n 0, 1) := by decide +kernel
theorem dX12_in_6 : decode cX12_in 6 = .ok (.iload_n 2, 1) := by decide +kernel
theorem dX12_in_7 : decode cX12_in 7 = .ok (.if_icmp .gt 7, 3) := by decide +kernel
theorem dX12_in_10 : decode cX12_in 10 = .ok (.iconst 1, 1) := by decide +kernel
theorem dX12_in_11 : decode cX12_in 11 = .ok (.goto 4, 3) := by decide +kernel
theorem dX12_in_14 : decode cX12_in 14 = .ok (.iconst 0, 1) := by decide +kernel
theorem dX12_in_15 : decode cX12_in 15 = .ok (.ireturn, 1) := by decide +kernel
