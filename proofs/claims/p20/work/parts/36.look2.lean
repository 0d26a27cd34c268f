theorem dX0_lookAtSize_101 : decode cX0_lookAtSize 101 = .ok (.invokevirtual 55, 3) := by decide +kernel
theorem dX0_lookAtSize_104 : decode cX0_lookAtSize 104 = .ok (.goto 4, 3) := by decide +kernel
theorem dX0_lookAtSize_25 : decode cX0_lookAtSize 25 = .ok (.iload 5, 2) := by decide +kernel
theorem dX0_lookAtSize_27 : decode cX0_lookAtSize 27 = .ok (.goto 4, 3) := by decide +kernel
theorem dX0_lookAtSize_49 : decode cX0_lookAtSize 49 = .ok (.iload 8, 2) := by decide +kernel
theorem dX0_lookAtSize_51 : decode cX0_lookAtSize 51 = .ok (.iconst 1, 1) := by decide +kernel
theorem dX0_lookAtSize_52 : decode cX0_lookAtSize 52 = .ok (.iadd, 1) := by decide +kernel
theorem dX0_lookAtSize_53 : decode cX0_lookAtSize 53 = .ok (.goto 4, 3) := by decide +kernel
theorem dX0_lookAtSize_98 : decode cX0_lookAtSize 98 = .ok (.aload_n 1, 1) := by decide +kernel
theorem dX0_lookAtSize_99 : decode cX0_lookAtSize 99 = .ok (.iload 9, 2) := by decide +kernel