theorem dL_law_27 : decode cL_law 27 = .ok (.aload_n 0, 1) := by decide +kernel
theorem dL_law_28 : decode cL_law 28 = .ok (.iload_n 3, 1) := by decide +kernel
theorem dL_law_29 : decode cL_law 29 = .ok (.iaload, 1) := by decide +kernel
theorem dL_law_30 : decode cL_law 30 = .ok (.bipush 63, 2) := by decide +kernel
theorem dL_law_32 : decode cL_law 32 = .ok (.iand, 1) := by decide +kernel
theorem dL_law_33 : decode cL_law 33 = .ok (.tableswitch 1337 0 33 #[151, 214, 237, 276, 289, 302, 325, 358, 381, 444, 467, 546, 625, 658, 717, 740, 783, 816, 849, 872, 905, 948, 991, 1044, 1067, 1090, 1123, 1156, 1179, 1202, 1225, 1258, 1291, 1314], 151) := by decide +kernel
