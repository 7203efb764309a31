theorem dL_law_1164 : decode cL_law 1164 = .ok (.iload 4, 2) := by decide +kernel
theorem dL_law_1166 : decode cL_law 1166 = .ok (.iconst 2, 1) := by decide +kernel
theorem dL_law_1167 : decode cL_law 1167 = .ok (.iadd, 1) := by decide +kernel
theorem dL_law_1168 : decode cL_law 1168 = .ok (.iaload, 1) := by decide +kernel
theorem dL_law_1169 : decode cL_law 1169 = .ok (.invokevirtual 157, 3) := by decide +kernel
theorem dL_law_1172 : decode cL_law 1172 = .ok (.istore 6, 2) := by decide +kernel
theorem dL_law_1174 : decode cL_law 1174 = .ok (.aload_n 2, 1) := by decide +kernel
theorem dL_law_1175 : decode cL_law 1175 = .ok (.invokevirtual 158, 3) := by decide +kernel
theorem dL_law_1178 : decode cL_law 1178 = .ok (.iload 5, 2) := by decide +kernel
theorem dL_law_1180 : decode cL_law 1180 = .ok (.if_icmp .eq 5, 3) := by decide +kernel
theorem dL_law_1185 : decode cL_law 1185 = .ok (.iload 5, 2) := by decide +kernel
theorem dL_law_1187 : decode cL_law 1187 = .ok (.ifCond .ne 15, 3) := by decide +kernel
theorem dL_law_1202 : decode cL_law 1202 = .ok (.goto 28, 3) := by decide +kernel
theorem dL_law_1205 : decode cL_law 1205 = .ok (.aload_n 1, 1) := by decide +kernel
theorem dL_law_1206 : decode cL_law 1206 = .ok (.aload_n 0, 1) := by decide +kernel
theorem dL_law_1207 : decode cL_law 1207 = .ok (.iload 4, 2) := by decide +kernel
theorem dL_law_1209 : decode cL_law 1209 = .ok (.iconst 1, 1) := by decide +kernel
theorem dL_law_1210 : decode cL_law 1210 = .ok (.iadd, 1) := by decide +kernel
theorem dL_law_1211 : decode cL_law 1211 = .ok (.iaload, 1) := by decide +kernel
theorem dL_law_1212 : decode cL_law 1212 = .ok (.invokevirtual 161, 3) := by decide +kernel
theorem dL_law_1215 : decode cL_law 1215 = .ok (.aload_n 2, 1) := by decide +kernel
theorem dL_law_1216 : decode cL_law 1216 = .ok (.aload_n 0, 1) := by decide +kernel
theorem dL_law_1217 : decode cL_law 1217 = .ok (.iload 4, 2) := by decide +kernel
theorem dL_law_1219 : decode cL_law 1219 = .ok (.iconst 1, 1) := by decide +kernel
theorem dL_law_1220 : decode cL_law 1220 = .ok (.iadd, 1) := by decide +kernel
theorem dL_law_1221 : decode cL_law 1221 = .ok (.iaload, 1) := by decide +kernel
theorem dL_law_1222 : decode cL_law 1222 = .ok (.invokevirtual 164, 3) := by decide +kernel
theorem dL_law_1225 : decode cL_law 1225 = .ok (.if_icmp .eq 5, 3) := by decide +kernel
theorem dL_law_1230 : decode cL_law 1230 = .ok (.iinc 4 6, 3) := by decide +kernel
theorem dL_law_1233 : decode cL_law 1233 = .ok (.goto (-1210), 3) := by decide +kernel
theorem dL_law_1236 : decode cL_law 1236 = .ok (.iconst 1, 1) := by decide +kernel
theorem dL_law_1237 : decode cL_law 1237 = .ok (.ireturn, 1) := by decide +kernel
