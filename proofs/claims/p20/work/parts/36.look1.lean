theorem dX0_lookAtSize_11 : decode cX0_lookAtSize 11 = .ok (.iload 5, 2) := by decide +kernel
theorem dX0_lookAtSize_13 : decode cX0_lookAtSize 13 = .ok (.goto 4, 3) := by decide +kernel
theorem dX0_lookAtSize_76 : decode cX0_lookAtSize 76 = .ok (.aload_n 1, 1) := by decide +kernel
theorem dX0_lookAtSize_77 : decode cX0_lookAtSize 77 = .ok (.iload 8, 2) := by decide +kernel
theorem dX0_lookAtSize_79 : decode cX0_lookAtSize 79 = .ok (.invokevirtual 55, 3) := by decide +kernel
theorem dX0_lookAtSize_82 : decode cX0_lookAtSize 82 = .ok (.goto 4, 3) := by decide +kernel