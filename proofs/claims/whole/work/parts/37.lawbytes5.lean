/-! Bytes of the law. -/
theorem d_law_1206 : decode code 1206 = .ok (.iconst 1, 1) := by decide +kernel
theorem d_law_1207 : decode code 1207 = .ok (.iadd, 1) := by decide +kernel
theorem d_law_1208 : decode code 1208 = .ok (.iaload, 1) := by decide +kernel
theorem d_law_1209 : decode code 1209 = .ok (.invokevirtual 163, 3) := by decide +kernel
theorem d_law_1212 : decode code 1212 = .ok (.if_icmp .eq 51, 3) := by decide +kernel
theorem d_law_1217 : decode code 1217 = .ok (.aload_n 1, 1) := by decide +kernel
theorem d_law_1218 : decode code 1218 = .ok (.aload_n 0, 1) := by decide +kernel
theorem d_law_1219 : decode code 1219 = .ok (.iload_n 3, 1) := by decide +kernel
theorem d_law_1220 : decode code 1220 = .ok (.iconst 1, 1) := by decide +kernel
theorem d_law_1221 : decode code 1221 = .ok (.iadd, 1) := by decide +kernel
theorem d_law_1222 : decode code 1222 = .ok (.iaload, 1) := by decide +kernel
theorem d_law_1223 : decode code 1223 = .ok (.invokevirtual 164, 3) := by decide +kernel
theorem d_law_1226 : decode code 1226 = .ok (.aload_n 2, 1) := by decide +kernel
theorem d_law_1227 : decode code 1227 = .ok (.aload_n 0, 1) := by decide +kernel
theorem d_law_1228 : decode code 1228 = .ok (.iload_n 3, 1) := by decide +kernel
theorem d_law_1229 : decode code 1229 = .ok (.iconst 1, 1) := by decide +kernel
theorem d_law_1230 : decode code 1230 = .ok (.iadd, 1) := by decide +kernel
theorem d_law_1231 : decode code 1231 = .ok (.iaload, 1) := by decide +kernel
theorem d_law_1232 : decode code 1232 = .ok (.invokevirtual 167, 3) := by decide +kernel
theorem d_law_1235 : decode code 1235 = .ok (.if_icmp .eq 28, 3) := by decide +kernel
theorem d_law_1240 : decode code 1240 = .ok (.aload_n 1, 1) := by decide +kernel
theorem d_law_1241 : decode code 1241 = .ok (.aload_n 0, 1) := by decide +kernel
theorem d_law_1242 : decode code 1242 = .ok (.iload_n 3, 1) := by decide +kernel
theorem d_law_1243 : decode code 1243 = .ok (.iconst 1, 1) := by decide +kernel
theorem d_law_1244 : decode code 1244 = .ok (.iadd, 1) := by decide +kernel
theorem d_law_1245 : decode code 1245 = .ok (.iaload, 1) := by decide +kernel
theorem d_law_1246 : decode code 1246 = .ok (.invokevirtual 168, 3) := by decide +kernel
theorem d_law_1249 : decode code 1249 = .ok (.aload_n 2, 1) := by decide +kernel
theorem d_law_1250 : decode code 1250 = .ok (.aload_n 0, 1) := by decide +kernel
theorem d_law_1251 : decode code 1251 = .ok (.iload_n 3, 1) := by decide +kernel
theorem d_law_1252 : decode code 1252 = .ok (.iconst 1, 1) := by decide +kernel
theorem d_law_1253 : decode code 1253 = .ok (.iadd, 1) := by decide +kernel
theorem d_law_1254 : decode code 1254 = .ok (.iaload, 1) := by decide +kernel
theorem d_law_1255 : decode code 1255 = .ok (.invokevirtual 171, 3) := by decide +kernel
theorem d_law_1258 : decode code 1258 = .ok (.if_icmp .eq 5, 3) := by decide +kernel
theorem d_law_1263 : decode code 1263 = .ok (.iinc 3 6, 3) := by decide +kernel
theorem d_law_1266 : decode code 1266 = .ok (.goto (-1248), 3) := by decide +kernel
theorem d_law_1269 : decode code 1269 = .ok (.iconst 1, 1) := by decide +kernel
theorem d_law_1270 : decode code 1270 = .ok (.ireturn, 1) := by decide +kernel
