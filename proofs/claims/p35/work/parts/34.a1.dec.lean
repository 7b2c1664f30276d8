theorem dX10_startsChain_188 : decode cX10_startsChain 188 = .ok (.iadd, 1) := by decide +kernel
theorem dX10_startsChain_189 : decode cX10_startsChain 189 = .ok (.aload_n 0, 1) := by decide +kernel
theorem dX10_startsChain_190 : decode cX10_startsChain 190 = .ok (.getfield 7, 3) := by decide +kernel
theorem dX10_startsChain_193 : decode cX10_startsChain 193 = .ok (.iload_n 1, 1) := by decide +kernel
theorem dX10_startsChain_194 : decode cX10_startsChain 194 = .ok (.bipush 20, 2) := by decide +kernel
theorem dX10_startsChain_196 : decode cX10_startsChain 196 = .ok (.iadd, 1) := by decide +kernel
theorem dX10_startsChain_197 : decode cX10_startsChain 197 = .ok (.iload_n 3, 1) := by decide +kernel
theorem dX10_startsChain_198 : decode cX10_startsChain 198 = .ok (.iadd, 1) := by decide +kernel
theorem dX10_startsChain_199 : decode cX10_startsChain 199 = .ok (.iaload, 1) := by decide +kernel
theorem dX10_startsChain_200 : decode cX10_startsChain 200 = .ok (.iastore, 1) := by decide +kernel
theorem dX10_startsChain_201 : decode cX10_startsChain 201 = .ok (.return_, 1) := by decide +kernel
