theorem dL_law_1176 : decode cL_law 1176 = .ok (.iadd, 1) := by decide +kernel
theorem dL_law_1177 : decode cL_law 1177 = .ok (.iaload, 1) := by decide +kernel
theorem dL_law_1178 : decode cL_law 1178 = .ok (.invokevirtual 158, 3) := by decide +kernel
theorem dL_law_1181 : decode cL_law 1181 = .ok (.pop, 1) := by decide +kernel
theorem dL_law_1182 : decode cL_law 1182 = .ok (.aload_n 2, 1) := by decide +kernel
theorem dL_law_1183 : decode cL_law 1183 = .ok (.aload_n 0, 1) := by decide +kernel
theorem dL_law_1184 : decode cL_law 1184 = .ok (.iload 4, 2) := by decide +kernel
theorem dL_law_1186 : decode cL_law 1186 = .ok (.iconst 1, 1) := by decide +kernel
theorem dL_law_1187 : decode cL_law 1187 = .ok (.iadd, 1) := by decide +kernel
theorem dL_law_1188 : decode cL_law 1188 = .ok (.iaload, 1) := by decide +kernel
theorem dL_law_1189 : decode cL_law 1189 = .ok (.invokevirtual 161, 3) := by decide +kernel
theorem dL_law_1192 : decode cL_law 1192 = .ok (.pop, 1) := by decide +kernel
theorem dL_law_1193 : decode cL_law 1193 = .ok (.goto 3, 3) := by decide +kernel
theorem dL_law_1196 : decode cL_law 1196 = .ok (.iinc 4 6, 3) := by decide +kernel
theorem dL_law_1199 : decode cL_law 1199 = .ok (.goto (-1176), 3) := by decide +kernel
theorem dL_law_1202 : decode cL_law 1202 = .ok (.iconst 1, 1) := by decide +kernel
theorem dL_law_1203 : decode cL_law 1203 = .ok (.ireturn, 1) := by decide +kernel
