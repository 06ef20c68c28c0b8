theorem dL_law_0 : decode cL_law 0 = .ok (.new 8, 3) := by decide +kernel
theorem dL_law_1000 : decode cL_law 1000 = .ok (.aload_n 3, 1) := by decide +kernel
theorem dL_law_1001 : decode cL_law 1001 = .ok (.invokestatic 123, 3) := by decide +kernel
theorem dL_law_1004 : decode cL_law 1004 = .ok (.istore 5, 2) := by decide +kernel
theorem dL_law_1006 : decode cL_law 1006 = .ok (.aload_n 2, 1) := by decide +kernel
theorem dL_law_1007 : decode cL_law 1007 = .ok (.aload_n 0, 1) := by decide +kernel
theorem dL_law_1008 : decode cL_law 1008 = .ok (.iload 4, 2) := by decide +kernel
theorem dL_law_1010 : decode cL_law 1010 = .ok (.iconst 1, 1) := by decide +kernel
theorem dL_law_1011 : decode cL_law 1011 = .ok (.iadd, 1) := by decide +kernel
theorem dL_law_1012 : decode cL_law 1012 = .ok (.iaload, 1) := by decide +kernel
theorem dL_law_1013 : decode cL_law 1013 = .ok (.aload_n 0, 1) := by decide +kernel
theorem dL_law_1014 : decode cL_law 1014 = .ok (.iload 4, 2) := by decide +kernel
theorem dL_law_1016 : decode cL_law 1016 = .ok (.iconst 2, 1) := by decide +kernel
theorem dL_law_1017 : decode cL_law 1017 = .ok (.iadd, 1) := by decide +kernel
theorem dL_law_1018 : decode cL_law 1018 = .ok (.iaload, 1) := by decide +kernel
theorem dL_law_1019 : decode cL_law 1019 = .ok (.invokevirtual 125, 3) := by decide +kernel
theorem dL_law_1022 : decode cL_law 1022 = .ok (.istore 6, 2) := by decide +kernel
theorem dL_law_1024 : decode cL_law 1024 = .ok (.aload_n 2, 1) := by decide +kernel
theorem dL_law_1025 : decode cL_law 1025 = .ok (.invokevirtual 81, 3) := by decide +kernel
theorem dL_law_1028 : decode cL_law 1028 = .ok (.iload 5, 2) := by decide +kernel
theorem dL_law_1030 : decode cL_law 1030 = .ok (.if_icmp .eq 5, 3) := by decide +kernel
theorem dL_law_1035 : decode cL_law 1035 = .ok (.iload 5, 2) := by decide +kernel
theorem dL_law_1037 : decode cL_law 1037 = .ok (.ifCond .ne 15, 3) := by decide +kernel
theorem dL_law_1052 : decode cL_law 1052 = .ok (.goto 251, 3) := by decide +kernel
theorem dL_law_1055 : decode cL_law 1055 = .ok (.aload_n 1, 1) := by decide +kernel
theorem dL_law_1056 : decode cL_law 1056 = .ok (.aload_n 0, 1) := by decide +kernel
theorem dL_law_1057 : decode cL_law 1057 = .ok (.iload 4, 2) := by decide +kernel
theorem dL_law_1059 : decode cL_law 1059 = .ok (.iconst 1, 1) := by decide +kernel
theorem dL_law_1060 : decode cL_law 1060 = .ok (.iadd, 1) := by decide +kernel
theorem dL_law_1061 : decode cL_law 1061 = .ok (.iaload, 1) := by decide +kernel
theorem dL_law_1062 : decode cL_law 1062 = .ok (.aload_n 0, 1) := by decide +kernel
theorem dL_law_1063 : decode cL_law 1063 = .ok (.iload 4, 2) := by decide +kernel
theorem dL_law_1065 : decode cL_law 1065 = .ok (.iconst 2, 1) := by decide +kernel
theorem dL_law_1066 : decode cL_law 1066 = .ok (.iadd, 1) := by decide +kernel
theorem dL_law_1067 : decode cL_law 1067 = .ok (.iaload, 1) := by decide +kernel
theorem dL_law_1068 : decode cL_law 1068 = .ok (.aload_n 3, 1) := by decide +kernel
theorem dL_law_1069 : decode cL_law 1069 = .ok (.invokestatic 126, 3) := by decide +kernel
theorem dL_law_1072 : decode cL_law 1072 = .ok (.istore 5, 2) := by decide +kernel
theorem dL_law_1074 : decode cL_law 1074 = .ok (.aload_n 2, 1) := by decide +kernel
theorem dL_law_1075 : decode cL_law 1075 = .ok (.aload_n 0, 1) := by decide +kernel
theorem dL_law_1076 : decode cL_law 1076 = .ok (.iload 4, 2) := by decide +kernel
theorem dL_law_1078 : decode cL_law 1078 = .ok (.iconst 1, 1) := by decide +kernel
theorem dL_law_1079 : decode cL_law 1079 = .ok (.iadd, 1) := by decide +kernel
theorem dL_law_1080 : decode cL_law 1080 = .ok (.iaload, 1) := by decide +kernel
theorem dL_law_1081 : decode cL_law 1081 = .ok (.aload_n 0, 1) := by decide +kernel
theorem dL_law_1082 : decode cL_law 1082 = .ok (.iload 4, 2) := by decide +kernel
theorem dL_law_1084 : decode cL_law 1084 = .ok (.iconst 2, 1) := by decide +kernel
theorem dL_law_1085 : decode cL_law 1085 = .ok (.iadd, 1) := by decide +kernel
theorem dL_law_1086 : decode cL_law 1086 = .ok (.iaload, 1) := by decide +kernel
theorem dL_law_1087 : decode cL_law 1087 = .ok (.invokevirtual 128, 3) := by decide +kernel
theorem dL_law_1090 : decode cL_law 1090 = .ok (.istore 6, 2) := by decide +kernel
theorem dL_law_1092 : decode cL_law 1092 = .ok (.aload_n 2, 1) := by decide +kernel
theorem dL_law_1093 : decode cL_law 1093 = .ok (.invokevirtual 81, 3) := by decide +kernel
theorem dL_law_1096 : decode cL_law 1096 = .ok (.iload 5, 2) := by decide +kernel
theorem dL_law_1098 : decode cL_law 1098 = .ok (.if_icmp .eq 5, 3) := by decide +kernel
theorem dL_law_11 : decode cL_law 11 = .ok (.dup, 1) := by decide +kernel
theorem dL_law_1103 : decode cL_law 1103 = .ok (.iload 5, 2) := by decide +kernel
theorem dL_law_1105 : decode cL_law 1105 = .ok (.ifCond .ne 15, 3) := by decide +kernel
theorem dL_law_1120 : decode cL_law 1120 = .ok (.goto 183, 3) := by decide +kernel
theorem dL_law_1123 : decode cL_law 1123 = .ok (.aload_n 1, 1) := by decide +kernel
theorem dL_law_1124 : decode cL_law 1124 = .ok (.aload_n 0, 1) := by decide +kernel
theorem dL_law_1125 : decode cL_law 1125 = .ok (.iload 4, 2) := by decide +kernel
theorem dL_law_1127 : decode cL_law 1127 = .ok (.iconst 1, 1) := by decide +kernel
theorem dL_law_1128 : decode cL_law 1128 = .ok (.iadd, 1) := by decide +kernel
theorem dL_law_1129 : decode cL_law 1129 = .ok (.iaload, 1) := by decide +kernel
theorem dL_law_1130 : decode cL_law 1130 = .ok (.aload_n 3, 1) := by decide +kernel
theorem dL_law_1131 : decode cL_law 1131 = .ok (.invokestatic 129, 3) := by decide +kernel
theorem dL_law_1134 : decode cL_law 1134 = .ok (.istore 5, 2) := by decide +kernel
theorem dL_law_1136 : decode cL_law 1136 = .ok (.aload_n 2, 1) := by decide +kernel
theorem dL_law_1137 : decode cL_law 1137 = .ok (.aload_n 0, 1) := by decide +kernel
theorem dL_law_1138 : decode cL_law 1138 = .ok (.iload 4, 2) := by decide +kernel
theorem dL_law_1140 : decode cL_law 1140 = .ok (.iconst 1, 1) := by decide +kernel
theorem dL_law_1141 : decode cL_law 1141 = .ok (.iadd, 1) := by decide +kernel
theorem dL_law_1142 : decode cL_law 1142 = .ok (.iaload, 1) := by decide +kernel
theorem dL_law_1143 : decode cL_law 1143 = .ok (.invokevirtual 131, 3) := by decide +kernel
theorem dL_law_1146 : decode cL_law 1146 = .ok (.istore 6, 2) := by decide +kernel
theorem dL_law_1148 : decode cL_law 1148 = .ok (.aload_n 2, 1) := by decide +kernel
theorem dL_law_1149 : decode cL_law 1149 = .ok (.invokevirtual 81, 3) := by decide +kernel
theorem dL_law_1152 : decode cL_law 1152 = .ok (.iload 5, 2) := by decide +kernel
theorem dL_law_1154 : decode cL_law 1154 = .ok (.if_icmp .eq 5, 3) := by decide +kernel
theorem dL_law_1159 : decode cL_law 1159 = .ok (.iload 5, 2) := by decide +kernel
theorem dL_law_1161 : decode cL_law 1161 = .ok (.ifCond .ne 15, 3) := by decide +kernel
theorem dL_law_1164 : decode cL_law 1164 = .ok (.aload_n 3, 1) := by decide +kernel
theorem dL_law_1165 : decode cL_law 1165 = .ok (.iconst 0, 1) := by decide +kernel
theorem dL_law_1166 : decode cL_law 1166 = .ok (.laload, 1) := by decide +kernel
theorem dL_law_1167 : decode cL_law 1167 = .ok (.iload 6, 2) := by decide +kernel
theorem dL_law_1169 : decode cL_law 1169 = .ok (.i2l, 1) := by decide +kernel
theorem dL_law_1170 : decode cL_law 1170 = .ok (.lcmp, 1) := by decide +kernel
theorem dL_law_1171 : decode cL_law 1171 = .ok (.ifCond .eq 5, 3) := by decide +kernel
theorem dL_law_1176 : decode cL_law 1176 = .ok (.goto 127, 3) := by decide +kernel
theorem dL_law_1179 : decode cL_law 1179 = .ok (.aload_n 1, 1) := by decide +kernel
theorem dL_law_1180 : decode cL_law 1180 = .ok (.invokevirtual 132, 3) := by decide +kernel
theorem dL_law_1183 : decode cL_law 1183 = .ok (.aload_n 2, 1) := by decide +kernel
theorem dL_law_1184 : decode cL_law 1184 = .ok (.invokevirtual 135, 3) := by decide +kernel
theorem dL_law_1187 : decode cL_law 1187 = .ok (.if_icmp .eq 116, 3) := by decide +kernel
theorem dL_law_1192 : decode cL_law 1192 = .ok (.aload_n 1, 1) := by decide +kernel
theorem dL_law_1193 : decode cL_law 1193 = .ok (.aload_n 0, 1) := by decide +kernel
theorem dL_law_1194 : decode cL_law 1194 = .ok (.iload 4, 2) := by decide +kernel
theorem dL_law_1196 : decode cL_law 1196 = .ok (.iconst 1, 1) := by decide +kernel
theorem dL_law_1197 : decode cL_law 1197 = .ok (.iadd, 1) := by decide +kernel
theorem dL_law_1198 : decode cL_law 1198 = .ok (.iaload, 1) := by decide +kernel
theorem dL_law_1199 : decode cL_law 1199 = .ok (.aload_n 3, 1) := by decide +kernel
theorem dL_law_12 : decode cL_law 12 = .ok (.invokespecial 74, 3) := by decide +kernel
theorem dL_law_1200 : decode cL_law 1200 = .ok (.invokestatic 136, 3) := by decide +kernel
theorem dL_law_1203 : decode cL_law 1203 = .ok (.istore 5, 2) := by decide +kernel
theorem dL_law_1205 : decode cL_law 1205 = .ok (.aload_n 2, 1) := by decide +kernel
theorem dL_law_1206 : decode cL_law 1206 = .ok (.aload_n 0, 1) := by decide +kernel
theorem dL_law_1207 : decode cL_law 1207 = .ok (.iload 4, 2) := by decide +kernel
theorem dL_law_1209 : decode cL_law 1209 = .ok (.iconst 1, 1) := by decide +kernel
theorem dL_law_1210 : decode cL_law 1210 = .ok (.iadd, 1) := by decide +kernel
theorem dL_law_1211 : decode cL_law 1211 = .ok (.iaload, 1) := by decide +kernel
theorem dL_law_1212 : decode cL_law 1212 = .ok (.invokevirtual 138, 3) := by decide +kernel
theorem dL_law_1215 : decode cL_law 1215 = .ok (.istore 6, 2) := by decide +kernel
theorem dL_law_1217 : decode cL_law 1217 = .ok (.aload_n 2, 1) := by decide +kernel
theorem dL_law_1218 : decode cL_law 1218 = .ok (.invokevirtual 81, 3) := by decide +kernel
theorem dL_law_1221 : decode cL_law 1221 = .ok (.iload 5, 2) := by decide +kernel
theorem dL_law_1223 : decode cL_law 1223 = .ok (.if_icmp .eq 5, 3) := by decide +kernel
theorem dL_law_1228 : decode cL_law 1228 = .ok (.iload 5, 2) := by decide +kernel
theorem dL_law_1230 : decode cL_law 1230 = .ok (.ifCond .ne 15, 3) := by decide +kernel
theorem dL_law_1245 : decode cL_law 1245 = .ok (.goto 58, 3) := by decide +kernel
theorem dL_law_1248 : decode cL_law 1248 = .ok (.aload_n 1, 1) := by decide +kernel
theorem dL_law_1249 : decode cL_law 1249 = .ok (.invokevirtual 139, 3) := by decide +kernel
theorem dL_law_1252 : decode cL_law 1252 = .ok (.dstore 5, 2) := by decide +kernel
theorem dL_law_1254 : decode cL_law 1254 = .ok (.aload_n 2, 1) := by decide +kernel
theorem dL_law_1255 : decode cL_law 1255 = .ok (.invokevirtual 143, 3) := by decide +kernel
theorem dL_law_1258 : decode cL_law 1258 = .ok (.dstore 7, 2) := by decide +kernel
theorem dL_law_1260 : decode cL_law 1260 = .ok (.dload 5, 2) := by decide +kernel
theorem dL_law_1262 : decode cL_law 1262 = .ok (.dload 7, 2) := by decide +kernel
theorem dL_law_1264 : decode cL_law 1264 = .ok (.dcmp .l, 1) := by decide +kernel
theorem dL_law_1265 : decode cL_law 1265 = .ok (.ifCond .eq 21, 3) := by decide +kernel
theorem dL_law_1286 : decode cL_law 1286 = .ok (.goto 17, 3) := by decide +kernel
theorem dL_law_1289 : decode cL_law 1289 = .ok (.aload_n 1, 1) := by decide +kernel
theorem dL_law_1290 : decode cL_law 1290 = .ok (.invokevirtual 144, 3) := by decide +kernel
theorem dL_law_1293 : decode cL_law 1293 = .ok (.aload_n 2, 1) := by decide +kernel
theorem dL_law_1294 : decode cL_law 1294 = .ok (.invokevirtual 148, 3) := by decide +kernel
theorem dL_law_1297 : decode cL_law 1297 = .ok (.lcmp, 1) := by decide +kernel
theorem dL_law_1298 : decode cL_law 1298 = .ok (.ifCond .eq 5, 3) := by decide +kernel
theorem dL_law_1303 : decode cL_law 1303 = .ok (.iinc 4 4, 3) := by decide +kernel
theorem dL_law_1306 : decode cL_law 1306 = .ok (.goto (-1283), 3) := by decide +kernel
theorem dL_law_1309 : decode cL_law 1309 = .ok (.iconst 1, 1) := by decide +kernel
theorem dL_law_1310 : decode cL_law 1310 = .ok (.ireturn, 1) := by decide +kernel
theorem dL_law_132 : decode cL_law 132 = .ok (.aload_n 1, 1) := by decide +kernel
theorem dL_law_133 : decode cL_law 133 = .ok (.aload_n 0, 1) := by decide +kernel
theorem dL_law_134 : decode cL_law 134 = .ok (.iload 4, 2) := by decide +kernel
theorem dL_law_136 : decode cL_law 136 = .ok (.iconst 1, 1) := by decide +kernel
theorem dL_law_137 : decode cL_law 137 = .ok (.iadd, 1) := by decide +kernel
theorem dL_law_138 : decode cL_law 138 = .ok (.iaload, 1) := by decide +kernel
theorem dL_law_139 : decode cL_law 139 = .ok (.aload_n 3, 1) := by decide +kernel
theorem dL_law_140 : decode cL_law 140 = .ok (.invokestatic 75, 3) := by decide +kernel
theorem dL_law_143 : decode cL_law 143 = .ok (.istore 5, 2) := by decide +kernel
theorem dL_law_145 : decode cL_law 145 = .ok (.aload_n 2, 1) := by decide +kernel
theorem dL_law_146 : decode cL_law 146 = .ok (.aload_n 0, 1) := by decide +kernel
theorem dL_law_147 : decode cL_law 147 = .ok (.iload 4, 2) := by decide +kernel
theorem dL_law_149 : decode cL_law 149 = .ok (.iconst 1, 1) := by decide +kernel
theorem dL_law_15 : decode cL_law 15 = .ok (.astore_n 2, 1) := by decide +kernel
theorem dL_law_150 : decode cL_law 150 = .ok (.iadd, 1) := by decide +kernel
theorem dL_law_151 : decode cL_law 151 = .ok (.iaload, 1) := by decide +kernel
theorem dL_law_152 : decode cL_law 152 = .ok (.invokevirtual 80, 3) := by decide +kernel
theorem dL_law_155 : decode cL_law 155 = .ok (.istore 6, 2) := by decide +kernel
theorem dL_law_157 : decode cL_law 157 = .ok (.aload_n 2, 1) := by decide +kernel
theorem dL_law_158 : decode cL_law 158 = .ok (.invokevirtual 81, 3) := by decide +kernel
theorem dL_law_16 : decode cL_law 16 = .ok (.iconst 1, 1) := by decide +kernel
theorem dL_law_161 : decode cL_law 161 = .ok (.iload 5, 2) := by decide +kernel
theorem dL_law_163 : decode cL_law 163 = .ok (.if_icmp .eq 5, 3) := by decide +kernel
theorem dL_law_168 : decode cL_law 168 = .ok (.iload 5, 2) := by decide +kernel
theorem dL_law_17 : decode cL_law 17 = .ok (.newarray .long, 2) := by decide +kernel
theorem dL_law_170 : decode cL_law 170 = .ok (.ifCond .ne 15, 3) := by decide +kernel
theorem dL_law_173 : decode cL_law 173 = .ok (.aload_n 3, 1) := by decide +kernel
theorem dL_law_174 : decode cL_law 174 = .ok (.iconst 0, 1) := by decide +kernel
theorem dL_law_175 : decode cL_law 175 = .ok (.laload, 1) := by decide +kernel
theorem dL_law_176 : decode cL_law 176 = .ok (.iload 6, 2) := by decide +kernel
theorem dL_law_178 : decode cL_law 178 = .ok (.i2l, 1) := by decide +kernel
theorem dL_law_179 : decode cL_law 179 = .ok (.lcmp, 1) := by decide +kernel
theorem dL_law_180 : decode cL_law 180 = .ok (.ifCond .eq 5, 3) := by decide +kernel
theorem dL_law_185 : decode cL_law 185 = .ok (.goto 1118, 3) := by decide +kernel
theorem dL_law_188 : decode cL_law 188 = .ok (.aload_n 1, 1) := by decide +kernel
theorem dL_law_189 : decode cL_law 189 = .ok (.aload_n 0, 1) := by decide +kernel
theorem dL_law_19 : decode cL_law 19 = .ok (.astore_n 3, 1) := by decide +kernel
theorem dL_law_190 : decode cL_law 190 = .ok (.iload 4, 2) := by decide +kernel
theorem dL_law_192 : decode cL_law 192 = .ok (.iconst 1, 1) := by decide +kernel
theorem dL_law_193 : decode cL_law 193 = .ok (.iadd, 1) := by decide +kernel
theorem dL_law_194 : decode cL_law 194 = .ok (.iaload, 1) := by decide +kernel
theorem dL_law_195 : decode cL_law 195 = .ok (.aload_n 0, 1) := by decide +kernel
theorem dL_law_196 : decode cL_law 196 = .ok (.iload 4, 2) := by decide +kernel
theorem dL_law_198 : decode cL_law 198 = .ok (.iconst 2, 1) := by decide +kernel
theorem dL_law_199 : decode cL_law 199 = .ok (.iadd, 1) := by decide +kernel
theorem dL_law_20 : decode cL_law 20 = .ok (.iconst 0, 1) := by decide +kernel
theorem dL_law_200 : decode cL_law 200 = .ok (.iaload, 1) := by decide +kernel
theorem dL_law_201 : decode cL_law 201 = .ok (.aload_n 0, 1) := by decide +kernel
theorem dL_law_202 : decode cL_law 202 = .ok (.iload 4, 2) := by decide +kernel
theorem dL_law_204 : decode cL_law 204 = .ok (.iconst 3, 1) := by decide +kernel
theorem dL_law_205 : decode cL_law 205 = .ok (.iadd, 1) := by decide +kernel
theorem dL_law_206 : decode cL_law 206 = .ok (.iaload, 1) := by decide +kernel
theorem dL_law_207 : decode cL_law 207 = .ok (.aload_n 3, 1) := by decide +kernel
theorem dL_law_208 : decode cL_law 208 = .ok (.invokestatic 84, 3) := by decide +kernel
theorem dL_law_21 : decode cL_law 21 = .ok (.istore 4, 2) := by decide +kernel
theorem dL_law_211 : decode cL_law 211 = .ok (.istore 5, 2) := by decide +kernel
theorem dL_law_213 : decode cL_law 213 = .ok (.aload_n 2, 1) := by decide +kernel
theorem dL_law_214 : decode cL_law 214 = .ok (.aload_n 0, 1) := by decide +kernel
theorem dL_law_215 : decode cL_law 215 = .ok (.iload 4, 2) := by decide +kernel
theorem dL_law_217 : decode cL_law 217 = .ok (.iconst 1, 1) := by decide +kernel
theorem dL_law_218 : decode cL_law 218 = .ok (.iadd, 1) := by decide +kernel
theorem dL_law_219 : decode cL_law 219 = .ok (.iaload, 1) := by decide +kernel
theorem dL_law_220 : decode cL_law 220 = .ok (.aload_n 0, 1) := by decide +kernel
theorem dL_law_221 : decode cL_law 221 = .ok (.iload 4, 2) := by decide +kernel
theorem dL_law_223 : decode cL_law 223 = .ok (.iconst 2, 1) := by decide +kernel
theorem dL_law_224 : decode cL_law 224 = .ok (.iadd, 1) := by decide +kernel
theorem dL_law_225 : decode cL_law 225 = .ok (.iaload, 1) := by decide +kernel
theorem dL_law_226 : decode cL_law 226 = .ok (.aload_n 0, 1) := by decide +kernel
theorem dL_law_227 : decode cL_law 227 = .ok (.iload 4, 2) := by decide +kernel
theorem dL_law_229 : decode cL_law 229 = .ok (.iconst 3, 1) := by decide +kernel
theorem dL_law_23 : decode cL_law 23 = .ok (.iload 4, 2) := by decide +kernel
theorem dL_law_230 : decode cL_law 230 = .ok (.iadd, 1) := by decide +kernel
theorem dL_law_231 : decode cL_law 231 = .ok (.iaload, 1) := by decide +kernel
theorem dL_law_232 : decode cL_law 232 = .ok (.invokevirtual 87, 3) := by decide +kernel
theorem dL_law_235 : decode cL_law 235 = .ok (.istore 6, 2) := by decide +kernel
theorem dL_law_237 : decode cL_law 237 = .ok (.aload_n 2, 1) := by decide +kernel
theorem dL_law_238 : decode cL_law 238 = .ok (.invokevirtual 81, 3) := by decide +kernel
theorem dL_law_241 : decode cL_law 241 = .ok (.iload 5, 2) := by decide +kernel
theorem dL_law_243 : decode cL_law 243 = .ok (.if_icmp .eq 5, 3) := by decide +kernel
theorem dL_law_248 : decode cL_law 248 = .ok (.iload 5, 2) := by decide +kernel
theorem dL_law_25 : decode cL_law 25 = .ok (.aload_n 0, 1) := by decide +kernel
theorem dL_law_250 : decode cL_law 250 = .ok (.ifCond .ne 15, 3) := by decide +kernel
theorem dL_law_26 : decode cL_law 26 = .ok (.arraylength, 1) := by decide +kernel
theorem dL_law_265 : decode cL_law 265 = .ok (.goto 1038, 3) := by decide +kernel
theorem dL_law_268 : decode cL_law 268 = .ok (.aload_n 1, 1) := by decide +kernel
theorem dL_law_269 : decode cL_law 269 = .ok (.aload_n 3, 1) := by decide +kernel
theorem dL_law_27 : decode cL_law 27 = .ok (.iconst 4, 1) := by decide +kernel
theorem dL_law_270 : decode cL_law 270 = .ok (.invokestatic 88, 3) := by decide +kernel
theorem dL_law_273 : decode cL_law 273 = .ok (.istore 5, 2) := by decide +kernel
theorem dL_law_275 : decode cL_law 275 = .ok (.aload_n 2, 1) := by decide +kernel
theorem dL_law_276 : decode cL_law 276 = .ok (.invokevirtual 91, 3) := by decide +kernel
theorem dL_law_279 : decode cL_law 279 = .ok (.istore 6, 2) := by decide +kernel
theorem dL_law_28 : decode cL_law 28 = .ok (.isub, 1) := by decide +kernel
theorem dL_law_281 : decode cL_law 281 = .ok (.aload_n 2, 1) := by decide +kernel
theorem dL_law_282 : decode cL_law 282 = .ok (.invokevirtual 81, 3) := by decide +kernel
theorem dL_law_285 : decode cL_law 285 = .ok (.iload 5, 2) := by decide +kernel
theorem dL_law_287 : decode cL_law 287 = .ok (.if_icmp .eq 5, 3) := by decide +kernel
theorem dL_law_29 : decode cL_law 29 = .ok (.if_icmp .gt 1280, 3) := by decide +kernel
theorem dL_law_292 : decode cL_law 292 = .ok (.iload 5, 2) := by decide +kernel
theorem dL_law_294 : decode cL_law 294 = .ok (.ifCond .ne 15, 3) := by decide +kernel
theorem dL_law_297 : decode cL_law 297 = .ok (.aload_n 3, 1) := by decide +kernel
theorem dL_law_298 : decode cL_law 298 = .ok (.iconst 0, 1) := by decide +kernel
theorem dL_law_299 : decode cL_law 299 = .ok (.laload, 1) := by decide +kernel
theorem dL_law_3 : decode cL_law 3 = .ok (.dup, 1) := by decide +kernel
theorem dL_law_300 : decode cL_law 300 = .ok (.iload 6, 2) := by decide +kernel
theorem dL_law_302 : decode cL_law 302 = .ok (.i2l, 1) := by decide +kernel
theorem dL_law_303 : decode cL_law 303 = .ok (.lcmp, 1) := by decide +kernel
theorem dL_law_304 : decode cL_law 304 = .ok (.ifCond .eq 5, 3) := by decide +kernel
theorem dL_law_309 : decode cL_law 309 = .ok (.goto 994, 3) := by decide +kernel
theorem dL_law_312 : decode cL_law 312 = .ok (.aload_n 1, 1) := by decide +kernel
theorem dL_law_313 : decode cL_law 313 = .ok (.aload_n 0, 1) := by decide +kernel
theorem dL_law_314 : decode cL_law 314 = .ok (.iload 4, 2) := by decide +kernel
theorem dL_law_316 : decode cL_law 316 = .ok (.iconst 1, 1) := by decide +kernel
theorem dL_law_317 : decode cL_law 317 = .ok (.iadd, 1) := by decide +kernel
theorem dL_law_318 : decode cL_law 318 = .ok (.iaload, 1) := by decide +kernel
theorem dL_law_319 : decode cL_law 319 = .ok (.aload_n 0, 1) := by decide +kernel
theorem dL_law_32 : decode cL_law 32 = .ok (.aload_n 0, 1) := by decide +kernel
theorem dL_law_320 : decode cL_law 320 = .ok (.iload 4, 2) := by decide +kernel
theorem dL_law_322 : decode cL_law 322 = .ok (.iconst 2, 1) := by decide +kernel
theorem dL_law_323 : decode cL_law 323 = .ok (.iadd, 1) := by decide +kernel
theorem dL_law_324 : decode cL_law 324 = .ok (.iaload, 1) := by decide +kernel
theorem dL_law_325 : decode cL_law 325 = .ok (.aload_n 0, 1) := by decide +kernel
theorem dL_law_326 : decode cL_law 326 = .ok (.iload 4, 2) := by decide +kernel
theorem dL_law_328 : decode cL_law 328 = .ok (.iconst 3, 1) := by decide +kernel
theorem dL_law_329 : decode cL_law 329 = .ok (.iadd, 1) := by decide +kernel
theorem dL_law_33 : decode cL_law 33 = .ok (.iload 4, 2) := by decide +kernel
theorem dL_law_330 : decode cL_law 330 = .ok (.iaload, 1) := by decide +kernel
theorem dL_law_331 : decode cL_law 331 = .ok (.aload_n 3, 1) := by decide +kernel
theorem dL_law_332 : decode cL_law 332 = .ok (.invokestatic 92, 3) := by decide +kernel
theorem dL_law_335 : decode cL_law 335 = .ok (.istore 5, 2) := by decide +kernel
theorem dL_law_337 : decode cL_law 337 = .ok (.aload_n 2, 1) := by decide +kernel
theorem dL_law_338 : decode cL_law 338 = .ok (.aload_n 0, 1) := by decide +kernel
theorem dL_law_339 : decode cL_law 339 = .ok (.iload 4, 2) := by decide +kernel
theorem dL_law_341 : decode cL_law 341 = .ok (.iconst 1, 1) := by decide +kernel
theorem dL_law_342 : decode cL_law 342 = .ok (.iadd, 1) := by decide +kernel
theorem dL_law_343 : decode cL_law 343 = .ok (.iaload, 1) := by decide +kernel
theorem dL_law_344 : decode cL_law 344 = .ok (.aload_n 0, 1) := by decide +kernel
theorem dL_law_345 : decode cL_law 345 = .ok (.iload 4, 2) := by decide +kernel
theorem dL_law_347 : decode cL_law 347 = .ok (.iconst 2, 1) := by decide +kernel
theorem dL_law_348 : decode cL_law 348 = .ok (.iadd, 1) := by decide +kernel
theorem dL_law_349 : decode cL_law 349 = .ok (.iaload, 1) := by decide +kernel
theorem dL_law_35 : decode cL_law 35 = .ok (.iaload, 1) := by decide +kernel
theorem dL_law_350 : decode cL_law 350 = .ok (.aload_n 0, 1) := by decide +kernel
theorem dL_law_351 : decode cL_law 351 = .ok (.iload 4, 2) := by decide +kernel
theorem dL_law_353 : decode cL_law 353 = .ok (.iconst 3, 1) := by decide +kernel
theorem dL_law_354 : decode cL_law 354 = .ok (.iadd, 1) := by decide +kernel
theorem dL_law_355 : decode cL_law 355 = .ok (.iaload, 1) := by decide +kernel
theorem dL_law_356 : decode cL_law 356 = .ok (.invokevirtual 94, 3) := by decide +kernel
theorem dL_law_359 : decode cL_law 359 = .ok (.istore 6, 2) := by decide +kernel
theorem dL_law_36 : decode cL_law 36 = .ok (.bipush 31, 2) := by decide +kernel
theorem dL_law_361 : decode cL_law 361 = .ok (.aload_n 2, 1) := by decide +kernel
theorem dL_law_362 : decode cL_law 362 = .ok (.invokevirtual 81, 3) := by decide +kernel
theorem dL_law_365 : decode cL_law 365 = .ok (.iload 5, 2) := by decide +kernel
theorem dL_law_367 : decode cL_law 367 = .ok (.if_icmp .eq 5, 3) := by decide +kernel
theorem dL_law_372 : decode cL_law 372 = .ok (.iload 5, 2) := by decide +kernel
theorem dL_law_374 : decode cL_law 374 = .ok (.ifCond .ne 15, 3) := by decide +kernel
theorem dL_law_38 : decode cL_law 38 = .ok (.iand, 1) := by decide +kernel
theorem dL_law_389 : decode cL_law 389 = .ok (.goto 914, 3) := by decide +kernel
theorem dL_law_39 : decode cL_law 39 = .ok (.tableswitch 1264 0 19 #[93, 149, 229, 273, 353, 421, 508, 576, 644, 712, 780, 836, 892, 948, 1016, 1084, 1140, 1153, 1209, 1250], 93) := by decide +kernel
theorem dL_law_392 : decode cL_law 392 = .ok (.aload_n 1, 1) := by decide +kernel
theorem dL_law_393 : decode cL_law 393 = .ok (.aload_n 0, 1) := by decide +kernel
theorem dL_law_394 : decode cL_law 394 = .ok (.iload 4, 2) := by decide +kernel
theorem dL_law_396 : decode cL_law 396 = .ok (.iconst 1, 1) := by decide +kernel
theorem dL_law_397 : decode cL_law 397 = .ok (.iadd, 1) := by decide +kernel
theorem dL_law_398 : decode cL_law 398 = .ok (.iaload, 1) := by decide +kernel
theorem dL_law_399 : decode cL_law 399 = .ok (.aload_n 0, 1) := by decide +kernel
theorem dL_law_4 : decode cL_law 4 = .ok (.invokespecial 71, 3) := by decide +kernel
theorem dL_law_400 : decode cL_law 400 = .ok (.iload 4, 2) := by decide +kernel
theorem dL_law_402 : decode cL_law 402 = .ok (.iconst 2, 1) := by decide +kernel
theorem dL_law_403 : decode cL_law 403 = .ok (.iadd, 1) := by decide +kernel
theorem dL_law_404 : decode cL_law 404 = .ok (.iaload, 1) := by decide +kernel
theorem dL_law_405 : decode cL_law 405 = .ok (.aload_n 3, 1) := by decide +kernel
theorem dL_law_406 : decode cL_law 406 = .ok (.invokestatic 95, 3) := by decide +kernel
theorem dL_law_409 : decode cL_law 409 = .ok (.istore 5, 2) := by decide +kernel
theorem dL_law_411 : decode cL_law 411 = .ok (.aload_n 2, 1) := by decide +kernel
theorem dL_law_412 : decode cL_law 412 = .ok (.aload_n 0, 1) := by decide +kernel
theorem dL_law_413 : decode cL_law 413 = .ok (.iload 4, 2) := by decide +kernel
theorem dL_law_415 : decode cL_law 415 = .ok (.iconst 1, 1) := by decide +kernel
theorem dL_law_416 : decode cL_law 416 = .ok (.iadd, 1) := by decide +kernel
theorem dL_law_417 : decode cL_law 417 = .ok (.iaload, 1) := by decide +kernel
theorem dL_law_418 : decode cL_law 418 = .ok (.aload_n 0, 1) := by decide +kernel
theorem dL_law_419 : decode cL_law 419 = .ok (.iload 4, 2) := by decide +kernel
theorem dL_law_421 : decode cL_law 421 = .ok (.iconst 2, 1) := by decide +kernel
theorem dL_law_422 : decode cL_law 422 = .ok (.iadd, 1) := by decide +kernel
theorem dL_law_423 : decode cL_law 423 = .ok (.iaload, 1) := by decide +kernel
theorem dL_law_424 : decode cL_law 424 = .ok (.invokevirtual 98, 3) := by decide +kernel
theorem dL_law_427 : decode cL_law 427 = .ok (.istore 6, 2) := by decide +kernel
theorem dL_law_429 : decode cL_law 429 = .ok (.aload_n 2, 1) := by decide +kernel
theorem dL_law_430 : decode cL_law 430 = .ok (.invokevirtual 81, 3) := by decide +kernel
theorem dL_law_433 : decode cL_law 433 = .ok (.iload 5, 2) := by decide +kernel
theorem dL_law_435 : decode cL_law 435 = .ok (.if_icmp .eq 5, 3) := by decide +kernel
theorem dL_law_440 : decode cL_law 440 = .ok (.iload 5, 2) := by decide +kernel
theorem dL_law_442 : decode cL_law 442 = .ok (.ifCond .ne 15, 3) := by decide +kernel
theorem dL_law_457 : decode cL_law 457 = .ok (.goto 846, 3) := by decide +kernel
theorem dL_law_460 : decode cL_law 460 = .ok (.aload_n 1, 1) := by decide +kernel
theorem dL_law_461 : decode cL_law 461 = .ok (.aload_n 0, 1) := by decide +kernel
theorem dL_law_462 : decode cL_law 462 = .ok (.iload 4, 2) := by decide +kernel
theorem dL_law_464 : decode cL_law 464 = .ok (.iconst 1, 1) := by decide +kernel
theorem dL_law_465 : decode cL_law 465 = .ok (.iadd, 1) := by decide +kernel
theorem dL_law_466 : decode cL_law 466 = .ok (.iaload, 1) := by decide +kernel
theorem dL_law_467 : decode cL_law 467 = .ok (.aload_n 0, 1) := by decide +kernel
theorem dL_law_468 : decode cL_law 468 = .ok (.iload 4, 2) := by decide +kernel
theorem dL_law_470 : decode cL_law 470 = .ok (.iconst 2, 1) := by decide +kernel
theorem dL_law_471 : decode cL_law 471 = .ok (.iadd, 1) := by decide +kernel
theorem dL_law_472 : decode cL_law 472 = .ok (.iaload, 1) := by decide +kernel
theorem dL_law_473 : decode cL_law 473 = .ok (.aload_n 0, 1) := by decide +kernel
theorem dL_law_474 : decode cL_law 474 = .ok (.iload 4, 2) := by decide +kernel
theorem dL_law_476 : decode cL_law 476 = .ok (.iconst 3, 1) := by decide +kernel
theorem dL_law_477 : decode cL_law 477 = .ok (.iadd, 1) := by decide +kernel
theorem dL_law_478 : decode cL_law 478 = .ok (.iaload, 1) := by decide +kernel
theorem dL_law_479 : decode cL_law 479 = .ok (.aload_n 3, 1) := by decide +kernel
theorem dL_law_480 : decode cL_law 480 = .ok (.invokestatic 99, 3) := by decide +kernel
theorem dL_law_483 : decode cL_law 483 = .ok (.istore 5, 2) := by decide +kernel
theorem dL_law_485 : decode cL_law 485 = .ok (.aload_n 2, 1) := by decide +kernel
theorem dL_law_486 : decode cL_law 486 = .ok (.aload_n 0, 1) := by decide +kernel
theorem dL_law_487 : decode cL_law 487 = .ok (.iload 4, 2) := by decide +kernel
theorem dL_law_489 : decode cL_law 489 = .ok (.iconst 1, 1) := by decide +kernel
theorem dL_law_490 : decode cL_law 490 = .ok (.iadd, 1) := by decide +kernel
theorem dL_law_491 : decode cL_law 491 = .ok (.iaload, 1) := by decide +kernel
theorem dL_law_492 : decode cL_law 492 = .ok (.aload_n 0, 1) := by decide +kernel
theorem dL_law_493 : decode cL_law 493 = .ok (.iload 4, 2) := by decide +kernel
theorem dL_law_495 : decode cL_law 495 = .ok (.iconst 2, 1) := by decide +kernel
theorem dL_law_496 : decode cL_law 496 = .ok (.iadd, 1) := by decide +kernel
theorem dL_law_497 : decode cL_law 497 = .ok (.iaload, 1) := by decide +kernel
theorem dL_law_498 : decode cL_law 498 = .ok (.aload_n 0, 1) := by decide +kernel
theorem dL_law_499 : decode cL_law 499 = .ok (.iload 4, 2) := by decide +kernel
theorem dL_law_501 : decode cL_law 501 = .ok (.iconst 3, 1) := by decide +kernel
theorem dL_law_502 : decode cL_law 502 = .ok (.iadd, 1) := by decide +kernel
theorem dL_law_503 : decode cL_law 503 = .ok (.iaload, 1) := by decide +kernel
theorem dL_law_504 : decode cL_law 504 = .ok (.invokevirtual 101, 3) := by decide +kernel
theorem dL_law_507 : decode cL_law 507 = .ok (.istore 6, 2) := by decide +kernel
theorem dL_law_509 : decode cL_law 509 = .ok (.aload_n 2, 1) := by decide +kernel
theorem dL_law_510 : decode cL_law 510 = .ok (.invokevirtual 81, 3) := by decide +kernel
theorem dL_law_513 : decode cL_law 513 = .ok (.iload 5, 2) := by decide +kernel
theorem dL_law_515 : decode cL_law 515 = .ok (.if_icmp .eq 5, 3) := by decide +kernel
theorem dL_law_520 : decode cL_law 520 = .ok (.iload 5, 2) := by decide +kernel
theorem dL_law_522 : decode cL_law 522 = .ok (.ifCond .ne 22, 3) := by decide +kernel
theorem dL_law_544 : decode cL_law 544 = .ok (.goto 759, 3) := by decide +kernel
theorem dL_law_547 : decode cL_law 547 = .ok (.aload_n 1, 1) := by decide +kernel
theorem dL_law_548 : decode cL_law 548 = .ok (.aload_n 0, 1) := by decide +kernel
theorem dL_law_549 : decode cL_law 549 = .ok (.iload 4, 2) := by decide +kernel
theorem dL_law_551 : decode cL_law 551 = .ok (.iconst 1, 1) := by decide +kernel
theorem dL_law_552 : decode cL_law 552 = .ok (.iadd, 1) := by decide +kernel
theorem dL_law_553 : decode cL_law 553 = .ok (.iaload, 1) := by decide +kernel
theorem dL_law_554 : decode cL_law 554 = .ok (.aload_n 0, 1) := by decide +kernel
theorem dL_law_555 : decode cL_law 555 = .ok (.iload 4, 2) := by decide +kernel
theorem dL_law_557 : decode cL_law 557 = .ok (.iconst 2, 1) := by decide +kernel
theorem dL_law_558 : decode cL_law 558 = .ok (.iadd, 1) := by decide +kernel
theorem dL_law_559 : decode cL_law 559 = .ok (.iaload, 1) := by decide +kernel
theorem dL_law_560 : decode cL_law 560 = .ok (.aload_n 3, 1) := by decide +kernel
theorem dL_law_561 : decode cL_law 561 = .ok (.invokestatic 102, 3) := by decide +kernel
theorem dL_law_564 : decode cL_law 564 = .ok (.istore 5, 2) := by decide +kernel
theorem dL_law_566 : decode cL_law 566 = .ok (.aload_n 2, 1) := by decide +kernel
theorem dL_law_567 : decode cL_law 567 = .ok (.aload_n 0, 1) := by decide +kernel
theorem dL_law_568 : decode cL_law 568 = .ok (.iload 4, 2) := by decide +kernel
theorem dL_law_570 : decode cL_law 570 = .ok (.iconst 1, 1) := by decide +kernel
theorem dL_law_571 : decode cL_law 571 = .ok (.iadd, 1) := by decide +kernel
theorem dL_law_572 : decode cL_law 572 = .ok (.iaload, 1) := by decide +kernel
theorem dL_law_573 : decode cL_law 573 = .ok (.aload_n 0, 1) := by decide +kernel
theorem dL_law_574 : decode cL_law 574 = .ok (.iload 4, 2) := by decide +kernel
theorem dL_law_576 : decode cL_law 576 = .ok (.iconst 2, 1) := by decide +kernel
theorem dL_law_577 : decode cL_law 577 = .ok (.iadd, 1) := by decide +kernel
theorem dL_law_578 : decode cL_law 578 = .ok (.iaload, 1) := by decide +kernel
theorem dL_law_579 : decode cL_law 579 = .ok (.invokevirtual 104, 3) := by decide +kernel
theorem dL_law_582 : decode cL_law 582 = .ok (.istore 6, 2) := by decide +kernel
theorem dL_law_584 : decode cL_law 584 = .ok (.aload_n 2, 1) := by decide +kernel
theorem dL_law_585 : decode cL_law 585 = .ok (.invokevirtual 81, 3) := by decide +kernel
theorem dL_law_588 : decode cL_law 588 = .ok (.iload 5, 2) := by decide +kernel
theorem dL_law_590 : decode cL_law 590 = .ok (.if_icmp .eq 5, 3) := by decide +kernel
theorem dL_law_595 : decode cL_law 595 = .ok (.iload 5, 2) := by decide +kernel
theorem dL_law_597 : decode cL_law 597 = .ok (.ifCond .ne 15, 3) := by decide +kernel
theorem dL_law_612 : decode cL_law 612 = .ok (.goto 691, 3) := by decide +kernel
theorem dL_law_615 : decode cL_law 615 = .ok (.aload_n 1, 1) := by decide +kernel
theorem dL_law_616 : decode cL_law 616 = .ok (.aload_n 0, 1) := by decide +kernel
theorem dL_law_617 : decode cL_law 617 = .ok (.iload 4, 2) := by decide +kernel
theorem dL_law_619 : decode cL_law 619 = .ok (.iconst 1, 1) := by decide +kernel
theorem dL_law_620 : decode cL_law 620 = .ok (.iadd, 1) := by decide +kernel
theorem dL_law_621 : decode cL_law 621 = .ok (.iaload, 1) := by decide +kernel
theorem dL_law_622 : decode cL_law 622 = .ok (.aload_n 0, 1) := by decide +kernel
theorem dL_law_623 : decode cL_law 623 = .ok (.iload 4, 2) := by decide +kernel
theorem dL_law_625 : decode cL_law 625 = .ok (.iconst 2, 1) := by decide +kernel
theorem dL_law_626 : decode cL_law 626 = .ok (.iadd, 1) := by decide +kernel
theorem dL_law_627 : decode cL_law 627 = .ok (.iaload, 1) := by decide +kernel
theorem dL_law_628 : decode cL_law 628 = .ok (.aload_n 3, 1) := by decide +kernel
theorem dL_law_629 : decode cL_law 629 = .ok (.invokestatic 105, 3) := by decide +kernel
theorem dL_law_632 : decode cL_law 632 = .ok (.istore 5, 2) := by decide +kernel
theorem dL_law_634 : decode cL_law 634 = .ok (.aload_n 2, 1) := by decide +kernel
theorem dL_law_635 : decode cL_law 635 = .ok (.aload_n 0, 1) := by decide +kernel
theorem dL_law_636 : decode cL_law 636 = .ok (.iload 4, 2) := by decide +kernel
theorem dL_law_638 : decode cL_law 638 = .ok (.iconst 1, 1) := by decide +kernel
theorem dL_law_639 : decode cL_law 639 = .ok (.iadd, 1) := by decide +kernel
theorem dL_law_640 : decode cL_law 640 = .ok (.iaload, 1) := by decide +kernel
theorem dL_law_641 : decode cL_law 641 = .ok (.aload_n 0, 1) := by decide +kernel
theorem dL_law_642 : decode cL_law 642 = .ok (.iload 4, 2) := by decide +kernel
theorem dL_law_644 : decode cL_law 644 = .ok (.iconst 2, 1) := by decide +kernel
theorem dL_law_645 : decode cL_law 645 = .ok (.iadd, 1) := by decide +kernel
theorem dL_law_646 : decode cL_law 646 = .ok (.iaload, 1) := by decide +kernel
theorem dL_law_647 : decode cL_law 647 = .ok (.invokevirtual 107, 3) := by decide +kernel
theorem dL_law_650 : decode cL_law 650 = .ok (.istore 6, 2) := by decide +kernel
theorem dL_law_652 : decode cL_law 652 = .ok (.aload_n 2, 1) := by decide +kernel
theorem dL_law_653 : decode cL_law 653 = .ok (.invokevirtual 81, 3) := by decide +kernel
theorem dL_law_656 : decode cL_law 656 = .ok (.iload 5, 2) := by decide +kernel
theorem dL_law_658 : decode cL_law 658 = .ok (.if_icmp .eq 5, 3) := by decide +kernel
theorem dL_law_663 : decode cL_law 663 = .ok (.iload 5, 2) := by decide +kernel
theorem dL_law_665 : decode cL_law 665 = .ok (.ifCond .ne 15, 3) := by decide +kernel
theorem dL_law_680 : decode cL_law 680 = .ok (.goto 623, 3) := by decide +kernel
theorem dL_law_683 : decode cL_law 683 = .ok (.aload_n 1, 1) := by decide +kernel
theorem dL_law_684 : decode cL_law 684 = .ok (.aload_n 0, 1) := by decide +kernel
theorem dL_law_685 : decode cL_law 685 = .ok (.iload 4, 2) := by decide +kernel
theorem dL_law_687 : decode cL_law 687 = .ok (.iconst 1, 1) := by decide +kernel
theorem dL_law_688 : decode cL_law 688 = .ok (.iadd, 1) := by decide +kernel
theorem dL_law_689 : decode cL_law 689 = .ok (.iaload, 1) := by decide +kernel
theorem dL_law_690 : decode cL_law 690 = .ok (.aload_n 0, 1) := by decide +kernel
theorem dL_law_691 : decode cL_law 691 = .ok (.iload 4, 2) := by decide +kernel
theorem dL_law_693 : decode cL_law 693 = .ok (.iconst 2, 1) := by decide +kernel
theorem dL_law_694 : decode cL_law 694 = .ok (.iadd, 1) := by decide +kernel
theorem dL_law_695 : decode cL_law 695 = .ok (.iaload, 1) := by decide +kernel
theorem dL_law_696 : decode cL_law 696 = .ok (.aload_n 3, 1) := by decide +kernel
theorem dL_law_697 : decode cL_law 697 = .ok (.invokestatic 108, 3) := by decide +kernel
theorem dL_law_7 : decode cL_law 7 = .ok (.astore_n 1, 1) := by decide +kernel
theorem dL_law_700 : decode cL_law 700 = .ok (.istore 5, 2) := by decide +kernel
theorem dL_law_702 : decode cL_law 702 = .ok (.aload_n 2, 1) := by decide +kernel
theorem dL_law_703 : decode cL_law 703 = .ok (.aload_n 0, 1) := by decide +kernel
theorem dL_law_704 : decode cL_law 704 = .ok (.iload 4, 2) := by decide +kernel
theorem dL_law_706 : decode cL_law 706 = .ok (.iconst 1, 1) := by decide +kernel
theorem dL_law_707 : decode cL_law 707 = .ok (.iadd, 1) := by decide +kernel
theorem dL_law_708 : decode cL_law 708 = .ok (.iaload, 1) := by decide +kernel
theorem dL_law_709 : decode cL_law 709 = .ok (.aload_n 0, 1) := by decide +kernel
theorem dL_law_710 : decode cL_law 710 = .ok (.iload 4, 2) := by decide +kernel
theorem dL_law_712 : decode cL_law 712 = .ok (.iconst 2, 1) := by decide +kernel
theorem dL_law_713 : decode cL_law 713 = .ok (.iadd, 1) := by decide +kernel
theorem dL_law_714 : decode cL_law 714 = .ok (.iaload, 1) := by decide +kernel
theorem dL_law_715 : decode cL_law 715 = .ok (.invokevirtual 110, 3) := by decide +kernel
theorem dL_law_718 : decode cL_law 718 = .ok (.istore 6, 2) := by decide +kernel
theorem dL_law_720 : decode cL_law 720 = .ok (.aload_n 2, 1) := by decide +kernel
theorem dL_law_721 : decode cL_law 721 = .ok (.invokevirtual 81, 3) := by decide +kernel
theorem dL_law_724 : decode cL_law 724 = .ok (.iload 5, 2) := by decide +kernel
theorem dL_law_726 : decode cL_law 726 = .ok (.if_icmp .eq 5, 3) := by decide +kernel
theorem dL_law_731 : decode cL_law 731 = .ok (.iload 5, 2) := by decide +kernel
theorem dL_law_733 : decode cL_law 733 = .ok (.ifCond .ne 15, 3) := by decide +kernel
theorem dL_law_748 : decode cL_law 748 = .ok (.goto 555, 3) := by decide +kernel
theorem dL_law_751 : decode cL_law 751 = .ok (.aload_n 1, 1) := by decide +kernel
theorem dL_law_752 : decode cL_law 752 = .ok (.aload_n 0, 1) := by decide +kernel
theorem dL_law_753 : decode cL_law 753 = .ok (.iload 4, 2) := by decide +kernel
theorem dL_law_755 : decode cL_law 755 = .ok (.iconst 1, 1) := by decide +kernel
theorem dL_law_756 : decode cL_law 756 = .ok (.iadd, 1) := by decide +kernel
theorem dL_law_757 : decode cL_law 757 = .ok (.iaload, 1) := by decide +kernel
theorem dL_law_758 : decode cL_law 758 = .ok (.aload_n 0, 1) := by decide +kernel
theorem dL_law_759 : decode cL_law 759 = .ok (.iload 4, 2) := by decide +kernel
theorem dL_law_761 : decode cL_law 761 = .ok (.iconst 2, 1) := by decide +kernel
theorem dL_law_762 : decode cL_law 762 = .ok (.iadd, 1) := by decide +kernel
theorem dL_law_763 : decode cL_law 763 = .ok (.iaload, 1) := by decide +kernel
theorem dL_law_764 : decode cL_law 764 = .ok (.aload_n 3, 1) := by decide +kernel
theorem dL_law_765 : decode cL_law 765 = .ok (.invokestatic 111, 3) := by decide +kernel
theorem dL_law_768 : decode cL_law 768 = .ok (.istore 5, 2) := by decide +kernel
theorem dL_law_770 : decode cL_law 770 = .ok (.aload_n 2, 1) := by decide +kernel
theorem dL_law_771 : decode cL_law 771 = .ok (.aload_n 0, 1) := by decide +kernel
theorem dL_law_772 : decode cL_law 772 = .ok (.iload 4, 2) := by decide +kernel
theorem dL_law_774 : decode cL_law 774 = .ok (.iconst 1, 1) := by decide +kernel
theorem dL_law_775 : decode cL_law 775 = .ok (.iadd, 1) := by decide +kernel
theorem dL_law_776 : decode cL_law 776 = .ok (.iaload, 1) := by decide +kernel
theorem dL_law_777 : decode cL_law 777 = .ok (.aload_n 0, 1) := by decide +kernel
theorem dL_law_778 : decode cL_law 778 = .ok (.iload 4, 2) := by decide +kernel
theorem dL_law_780 : decode cL_law 780 = .ok (.iconst 2, 1) := by decide +kernel
theorem dL_law_781 : decode cL_law 781 = .ok (.iadd, 1) := by decide +kernel
theorem dL_law_782 : decode cL_law 782 = .ok (.iaload, 1) := by decide +kernel
theorem dL_law_783 : decode cL_law 783 = .ok (.invokevirtual 113, 3) := by decide +kernel
theorem dL_law_786 : decode cL_law 786 = .ok (.istore 6, 2) := by decide +kernel
theorem dL_law_788 : decode cL_law 788 = .ok (.aload_n 2, 1) := by decide +kernel
theorem dL_law_789 : decode cL_law 789 = .ok (.invokevirtual 81, 3) := by decide +kernel
theorem dL_law_792 : decode cL_law 792 = .ok (.iload 5, 2) := by decide +kernel
theorem dL_law_794 : decode cL_law 794 = .ok (.if_icmp .eq 5, 3) := by decide +kernel
theorem dL_law_799 : decode cL_law 799 = .ok (.iload 5, 2) := by decide +kernel
theorem dL_law_8 : decode cL_law 8 = .ok (.new 72, 3) := by decide +kernel
theorem dL_law_801 : decode cL_law 801 = .ok (.ifCond .ne 15, 3) := by decide +kernel
theorem dL_law_816 : decode cL_law 816 = .ok (.goto 487, 3) := by decide +kernel
theorem dL_law_819 : decode cL_law 819 = .ok (.aload_n 1, 1) := by decide +kernel
theorem dL_law_820 : decode cL_law 820 = .ok (.aload_n 0, 1) := by decide +kernel
theorem dL_law_821 : decode cL_law 821 = .ok (.iload 4, 2) := by decide +kernel
theorem dL_law_823 : decode cL_law 823 = .ok (.iconst 1, 1) := by decide +kernel
theorem dL_law_824 : decode cL_law 824 = .ok (.iadd, 1) := by decide +kernel
theorem dL_law_825 : decode cL_law 825 = .ok (.iaload, 1) := by decide +kernel
theorem dL_law_826 : decode cL_law 826 = .ok (.aload_n 3, 1) := by decide +kernel
theorem dL_law_827 : decode cL_law 827 = .ok (.invokestatic 114, 3) := by decide +kernel
theorem dL_law_830 : decode cL_law 830 = .ok (.istore 5, 2) := by decide +kernel
theorem dL_law_832 : decode cL_law 832 = .ok (.aload_n 2, 1) := by decide +kernel
theorem dL_law_833 : decode cL_law 833 = .ok (.aload_n 0, 1) := by decide +kernel
theorem dL_law_834 : decode cL_law 834 = .ok (.iload 4, 2) := by decide +kernel
theorem dL_law_836 : decode cL_law 836 = .ok (.iconst 1, 1) := by decide +kernel
theorem dL_law_837 : decode cL_law 837 = .ok (.iadd, 1) := by decide +kernel
theorem dL_law_838 : decode cL_law 838 = .ok (.iaload, 1) := by decide +kernel
theorem dL_law_839 : decode cL_law 839 = .ok (.invokevirtual 116, 3) := by decide +kernel
theorem dL_law_842 : decode cL_law 842 = .ok (.istore 6, 2) := by decide +kernel
theorem dL_law_844 : decode cL_law 844 = .ok (.aload_n 2, 1) := by decide +kernel
theorem dL_law_845 : decode cL_law 845 = .ok (.invokevirtual 81, 3) := by decide +kernel
theorem dL_law_848 : decode cL_law 848 = .ok (.iload 5, 2) := by decide +kernel
theorem dL_law_850 : decode cL_law 850 = .ok (.if_icmp .eq 5, 3) := by decide +kernel
theorem dL_law_855 : decode cL_law 855 = .ok (.iload 5, 2) := by decide +kernel
theorem dL_law_857 : decode cL_law 857 = .ok (.ifCond .ne 15, 3) := by decide +kernel
theorem dL_law_860 : decode cL_law 860 = .ok (.aload_n 3, 1) := by decide +kernel
theorem dL_law_861 : decode cL_law 861 = .ok (.iconst 0, 1) := by decide +kernel
theorem dL_law_862 : decode cL_law 862 = .ok (.laload, 1) := by decide +kernel
theorem dL_law_863 : decode cL_law 863 = .ok (.iload 6, 2) := by decide +kernel
theorem dL_law_865 : decode cL_law 865 = .ok (.i2l, 1) := by decide +kernel
theorem dL_law_866 : decode cL_law 866 = .ok (.lcmp, 1) := by decide +kernel
theorem dL_law_867 : decode cL_law 867 = .ok (.ifCond .eq 5, 3) := by decide +kernel
theorem dL_law_872 : decode cL_law 872 = .ok (.goto 431, 3) := by decide +kernel
theorem dL_law_875 : decode cL_law 875 = .ok (.aload_n 1, 1) := by decide +kernel
theorem dL_law_876 : decode cL_law 876 = .ok (.aload_n 0, 1) := by decide +kernel
theorem dL_law_877 : decode cL_law 877 = .ok (.iload 4, 2) := by decide +kernel
theorem dL_law_879 : decode cL_law 879 = .ok (.iconst 1, 1) := by decide +kernel
theorem dL_law_880 : decode cL_law 880 = .ok (.iadd, 1) := by decide +kernel
theorem dL_law_881 : decode cL_law 881 = .ok (.iaload, 1) := by decide +kernel
theorem dL_law_882 : decode cL_law 882 = .ok (.aload_n 3, 1) := by decide +kernel
theorem dL_law_883 : decode cL_law 883 = .ok (.invokestatic 117, 3) := by decide +kernel
theorem dL_law_886 : decode cL_law 886 = .ok (.istore 5, 2) := by decide +kernel
theorem dL_law_888 : decode cL_law 888 = .ok (.aload_n 2, 1) := by decide +kernel
theorem dL_law_889 : decode cL_law 889 = .ok (.aload_n 0, 1) := by decide +kernel
theorem dL_law_890 : decode cL_law 890 = .ok (.iload 4, 2) := by decide +kernel
theorem dL_law_892 : decode cL_law 892 = .ok (.iconst 1, 1) := by decide +kernel
theorem dL_law_893 : decode cL_law 893 = .ok (.iadd, 1) := by decide +kernel
theorem dL_law_894 : decode cL_law 894 = .ok (.iaload, 1) := by decide +kernel
theorem dL_law_895 : decode cL_law 895 = .ok (.invokevirtual 119, 3) := by decide +kernel
theorem dL_law_898 : decode cL_law 898 = .ok (.istore 6, 2) := by decide +kernel
theorem dL_law_900 : decode cL_law 900 = .ok (.aload_n 2, 1) := by decide +kernel
theorem dL_law_901 : decode cL_law 901 = .ok (.invokevirtual 81, 3) := by decide +kernel
theorem dL_law_904 : decode cL_law 904 = .ok (.iload 5, 2) := by decide +kernel
theorem dL_law_906 : decode cL_law 906 = .ok (.if_icmp .eq 5, 3) := by decide +kernel
theorem dL_law_911 : decode cL_law 911 = .ok (.iload 5, 2) := by decide +kernel
theorem dL_law_913 : decode cL_law 913 = .ok (.ifCond .ne 15, 3) := by decide +kernel
theorem dL_law_916 : decode cL_law 916 = .ok (.aload_n 3, 1) := by decide +kernel
theorem dL_law_917 : decode cL_law 917 = .ok (.iconst 0, 1) := by decide +kernel
theorem dL_law_918 : decode cL_law 918 = .ok (.laload, 1) := by decide +kernel
theorem dL_law_919 : decode cL_law 919 = .ok (.iload 6, 2) := by decide +kernel
theorem dL_law_921 : decode cL_law 921 = .ok (.i2l, 1) := by decide +kernel
theorem dL_law_922 : decode cL_law 922 = .ok (.lcmp, 1) := by decide +kernel
theorem dL_law_923 : decode cL_law 923 = .ok (.ifCond .eq 5, 3) := by decide +kernel
theorem dL_law_928 : decode cL_law 928 = .ok (.goto 375, 3) := by decide +kernel
theorem dL_law_931 : decode cL_law 931 = .ok (.aload_n 1, 1) := by decide +kernel
theorem dL_law_932 : decode cL_law 932 = .ok (.aload_n 0, 1) := by decide +kernel
theorem dL_law_933 : decode cL_law 933 = .ok (.iload 4, 2) := by decide +kernel
theorem dL_law_935 : decode cL_law 935 = .ok (.iconst 1, 1) := by decide +kernel
theorem dL_law_936 : decode cL_law 936 = .ok (.iadd, 1) := by decide +kernel
theorem dL_law_937 : decode cL_law 937 = .ok (.iaload, 1) := by decide +kernel
theorem dL_law_938 : decode cL_law 938 = .ok (.aload_n 3, 1) := by decide +kernel
theorem dL_law_939 : decode cL_law 939 = .ok (.invokestatic 120, 3) := by decide +kernel
theorem dL_law_942 : decode cL_law 942 = .ok (.istore 5, 2) := by decide +kernel
theorem dL_law_944 : decode cL_law 944 = .ok (.aload_n 2, 1) := by decide +kernel
theorem dL_law_945 : decode cL_law 945 = .ok (.aload_n 0, 1) := by decide +kernel
theorem dL_law_946 : decode cL_law 946 = .ok (.iload 4, 2) := by decide +kernel
theorem dL_law_948 : decode cL_law 948 = .ok (.iconst 1, 1) := by decide +kernel
theorem dL_law_949 : decode cL_law 949 = .ok (.iadd, 1) := by decide +kernel
theorem dL_law_950 : decode cL_law 950 = .ok (.iaload, 1) := by decide +kernel
theorem dL_law_951 : decode cL_law 951 = .ok (.invokevirtual 122, 3) := by decide +kernel
theorem dL_law_954 : decode cL_law 954 = .ok (.istore 6, 2) := by decide +kernel
theorem dL_law_956 : decode cL_law 956 = .ok (.aload_n 2, 1) := by decide +kernel
theorem dL_law_957 : decode cL_law 957 = .ok (.invokevirtual 81, 3) := by decide +kernel
theorem dL_law_960 : decode cL_law 960 = .ok (.iload 5, 2) := by decide +kernel
theorem dL_law_962 : decode cL_law 962 = .ok (.if_icmp .eq 5, 3) := by decide +kernel
theorem dL_law_967 : decode cL_law 967 = .ok (.iload 5, 2) := by decide +kernel
theorem dL_law_969 : decode cL_law 969 = .ok (.ifCond .ne 15, 3) := by decide +kernel
theorem dL_law_972 : decode cL_law 972 = .ok (.aload_n 3, 1) := by decide +kernel
theorem dL_law_973 : decode cL_law 973 = .ok (.iconst 0, 1) := by decide +kernel
theorem dL_law_974 : decode cL_law 974 = .ok (.laload, 1) := by decide +kernel
theorem dL_law_975 : decode cL_law 975 = .ok (.iload 6, 2) := by decide +kernel
theorem dL_law_977 : decode cL_law 977 = .ok (.i2l, 1) := by decide +kernel
theorem dL_law_978 : decode cL_law 978 = .ok (.lcmp, 1) := by decide +kernel
theorem dL_law_979 : decode cL_law 979 = .ok (.ifCond .eq 5, 3) := by decide +kernel
theorem dL_law_984 : decode cL_law 984 = .ok (.goto 319, 3) := by decide +kernel
theorem dL_law_987 : decode cL_law 987 = .ok (.aload_n 1, 1) := by decide +kernel
theorem dL_law_988 : decode cL_law 988 = .ok (.aload_n 0, 1) := by decide +kernel
theorem dL_law_989 : decode cL_law 989 = .ok (.iload 4, 2) := by decide +kernel
theorem dL_law_991 : decode cL_law 991 = .ok (.iconst 1, 1) := by decide +kernel
theorem dL_law_992 : decode cL_law 992 = .ok (.iadd, 1) := by decide +kernel
theorem dL_law_993 : decode cL_law 993 = .ok (.iaload, 1) := by decide +kernel
theorem dL_law_994 : decode cL_law 994 = .ok (.aload_n 0, 1) := by decide +kernel
theorem dL_law_995 : decode cL_law 995 = .ok (.iload 4, 2) := by decide +kernel
theorem dL_law_997 : decode cL_law 997 = .ok (.iconst 2, 1) := by decide +kernel
theorem dL_law_998 : decode cL_law 998 = .ok (.iadd, 1) := by decide +kernel
theorem dL_law_999 : decode cL_law 999 = .ok (.iaload, 1) := by decide +kernel
set_option maxRecDepth 100000 in
theorem gg_law_w_addFloor_t : GoodIn vlaw v_w_addFloor_t := goodIn_r _ [0, 1, 2, 3, 4, 5, 6, 7, 8, 9, 10, 11, 12, 13, 14, 15, 16, 17, 18, 19, 20, 21, 22, 23, 24, 25, 26, 27, 28, 29, 30, 31, 32, 33, 34, 35, 36, 37, 38, 39, 40, 41, 42, 43, 44, 45, 46, 47, 48, 49, 571, 572, 573, 574, 575, 576, 577, 578, 579, 550, 551, 552, 556, 557, 558, 559] (by rfl) (by decide +kernel)
set_option maxRecDepth 100000 in
theorem gg_law_c_M_addFloor_t : GoodIn vlaw v_c_M_addFloor_t := goodIn_r _ [53, 54, 55, 56, 57, 58, 59, 60, 61, 62, 63, 64, 580, 581, 582, 583, 584, 585] (by rfl) (by decide +kernel)
set_option maxRecDepth 100000 in
theorem gg_law_c_M_thrown : GoodIn vlaw v_c_M_thrown := goodIn_r _ [68, 54, 580, 581, 582, 583, 584, 585] (by rfl) (by decide +kernel)
set_option maxRecDepth 100000 in
theorem gg_law_w_addFloor_f : GoodIn vlaw vh_w_addFloor_f := goodIn_r _ [0, 1, 72, 73, 46, 47, 48, 49, 74] (by rfl) (by decide +kernel)
set_option maxRecDepth 100000 in
theorem gt_law_w_addFloor_f : GoodIn vlaw v_w_addFloor_f := goodIn_app gg_law_w_addFloor_f (goodIn_sub thrI_in (by decide +kernel))
set_option maxRecDepth 100000 in
theorem gg_law_c_M_addFloor_f : GoodIn vlaw v_c_M_addFloor_f := goodIn_r _ [53, 54, 55, 56, 57, 58, 75, 76, 77, 78, 580, 581, 582, 583, 584, 585] (by rfl) (by decide +kernel)
set_option maxRecDepth 100000 in
theorem gg_law_w_setTune : GoodIn vlaw vh_w_setTune := goodIn_r _ [79, 80, 81, 2, 3, 4, 5, 6, 7, 8, 82, 83, 84, 49, 85, 86, 87, 88, 89, 90, 571, 572, 573, 574, 575, 576, 577, 578, 579, 550, 551, 552] (by rfl) (by decide +kernel)
set_option maxRecDepth 100000 in
theorem gt_law_w_setTune : GoodIn vlaw v_w_setTune := goodIn_app gg_law_w_setTune (goodIn_sub thrX_in (by decide +kernel))
set_option maxRecDepth 100000 in
theorem gg_law_c_M_setTune : GoodIn vlaw v_c_M_setTune := goodIn_r _ [93, 54, 94, 59, 55, 56, 57, 58, 95, 96, 97, 75, 76, 77, 78, 580, 581, 582, 583, 584, 585] (by rfl) (by decide +kernel)
set_option maxRecDepth 100000 in
theorem gg_law_w_addLift : GoodIn vlaw v_w_addLift := goodIn_r _ [101, 102, 103, 3, 4, 5, 6, 7, 8, 104, 105, 106, 107, 108, 14, 15, 109, 110, 111, 112, 21, 22, 23, 24, 25, 26, 27, 28, 29, 30, 31, 32, 33, 34, 35, 36, 37, 38, 39, 40, 41, 42, 43, 44, 45, 113, 114, 115, 49, 571, 572, 573, 574, 575, 576, 577, 578, 579, 550, 551, 552, 570] (by rfl) (by decide +kernel)
set_option maxRecDepth 100000 in
theorem gg_law_c_M_addLift : GoodIn vlaw v_c_M_addLift := goodIn_r _ [118, 54, 119, 120, 61, 121, 122, 123, 58, 580, 581, 582, 583, 584, 585] (by rfl) (by decide +kernel)
set_option maxRecDepth 100000 in
theorem gg_law_w_setDoor : GoodIn vlaw vh_w_setDoor := goodIn_r _ [127, 128, 129, 103, 3, 4, 5, 6, 7, 8, 130, 131, 132, 49, 85, 86, 133, 134, 135, 90, 571, 572, 573, 574, 575, 576, 577, 578, 579, 550, 551, 552] (by rfl) (by decide +kernel)
set_option maxRecDepth 100000 in
theorem gt_law_w_setDoor : GoodIn vlaw v_w_setDoor := goodIn_app gg_law_w_setDoor (goodIn_sub thrX_in (by decide +kernel))
set_option maxRecDepth 100000 in
theorem gg_law_c_M_setDoor : GoodIn vlaw v_c_M_setDoor := goodIn_r _ [138, 54, 139, 119, 55, 56, 57, 58, 140, 141, 142, 75, 76, 77, 78, 580, 581, 582, 583, 584, 585] (by rfl) (by decide +kernel)
set_option maxRecDepth 100000 in
theorem gg_law_w_addGuest : GoodIn vlaw vh_w_addGuest := goodIn_r _ [146, 147, 148, 81, 2, 3, 4, 5, 6, 7, 8, 82, 83, 84, 49, 149, 150, 151, 85, 86, 152, 153, 154, 90, 571, 572, 573, 574, 575, 576, 577, 578, 579, 550, 551, 552] (by rfl) (by decide +kernel)
set_option maxRecDepth 100000 in
theorem gt_law_w_addGuest : GoodIn vlaw v_w_addGuest := goodIn_app gg_law_w_addGuest (goodIn_sub thrX_in (by decide +kernel))
set_option maxRecDepth 100000 in
theorem gg_law_c_M_addGuest : GoodIn vlaw v_c_M_addGuest := goodIn_r _ [157, 54, 158, 94, 59, 55, 56, 57, 58, 95, 96, 97, 159, 160, 161, 75, 76, 77, 78, 580, 581, 582, 583, 584, 585] (by rfl) (by decide +kernel)
set_option maxRecDepth 100000 in
theorem gg_law_w_want : GoodIn vlaw vh_w_want := goodIn_r _ [165, 166, 167, 168, 3, 4, 5, 6, 7, 8, 169, 170, 171, 49, 85, 86, 172, 173, 174, 90, 571, 572, 573, 574, 575, 576, 577, 578, 579, 550, 551, 552] (by rfl) (by decide +kernel)
set_option maxRecDepth 100000 in
theorem gt_law_w_want : GoodIn vlaw v_w_want := goodIn_app gg_law_w_want (goodIn_sub thrX_in (by decide +kernel))
set_option maxRecDepth 100000 in
theorem gg_law_c_M_want : GoodIn vlaw v_c_M_want := goodIn_r _ [177, 178, 179, 55, 56, 57, 58, 180, 181, 182, 54, 580, 581, 582, 583, 584, 585] (by rfl) (by decide +kernel)
set_option maxRecDepth 100000 in
theorem gg_law_w_floor : GoodIn vlaw vh_w_floor := goodIn_r _ [186, 187, 81, 2, 3, 4, 5, 6, 7, 8, 82, 83, 84, 49, 85, 86, 188, 189, 190, 90, 571, 572, 573, 574, 575, 576, 577, 578, 579, 550, 551, 552] (by rfl) (by decide +kernel)
set_option maxRecDepth 100000 in
theorem gt_law_w_floor : GoodIn vlaw v_w_floor := goodIn_app gg_law_w_floor (goodIn_sub thrX_in (by decide +kernel))
set_option maxRecDepth 100000 in
theorem gg_law_c_M_floor : GoodIn vlaw v_c_M_floor := goodIn_r _ [193, 54, 94, 59, 55, 56, 57, 58, 95, 96, 97, 75, 76, 77, 78, 580, 581, 582, 583, 584, 585] (by rfl) (by decide +kernel)
set_option maxRecDepth 100000 in
theorem gg_law_w_place : GoodIn vlaw vh_w_place := goodIn_r _ [197, 198, 148, 81, 2, 3, 4, 5, 6, 7, 8, 82, 83, 84, 49, 149, 150, 151, 85, 86, 199, 200, 201, 90, 571, 572, 573, 574, 575, 576, 577, 578, 579, 550, 551, 552] (by rfl) (by decide +kernel)
set_option maxRecDepth 100000 in
theorem gt_law_w_place : GoodIn vlaw v_w_place := goodIn_app gg_law_w_place (goodIn_sub thrX_in (by decide +kernel))
set_option maxRecDepth 100000 in
theorem gg_law_c_M_place : GoodIn vlaw v_c_M_place := goodIn_r _ [204, 54, 158, 94, 59, 55, 56, 57, 58, 95, 96, 97, 159, 160, 161, 75, 76, 77, 78, 580, 581, 582, 583, 584, 585] (by rfl) (by decide +kernel)
set_option maxRecDepth 100000 in
theorem gg_law_w_lift : GoodIn vlaw vh_w_lift := goodIn_r _ [208, 209, 129, 103, 3, 4, 5, 6, 7, 8, 130, 131, 132, 49, 85, 86, 210, 211, 212, 90, 571, 572, 573, 574, 575, 576, 577, 578, 579, 550, 551, 552] (by rfl) (by decide +kernel)
set_option maxRecDepth 100000 in
theorem gt_law_w_lift : GoodIn vlaw v_w_lift := goodIn_app gg_law_w_lift (goodIn_sub thrX_in (by decide +kernel))
set_option maxRecDepth 100000 in
theorem gg_law_c_M_lift : GoodIn vlaw v_c_M_lift := goodIn_r _ [215, 54, 139, 119, 55, 56, 57, 58, 140, 141, 142, 75, 76, 77, 78, 580, 581, 582, 583, 584, 585] (by rfl) (by decide +kernel)
set_option maxRecDepth 100000 in
theorem gg_law_w_guest : GoodIn vlaw vh_w_guest := goodIn_r _ [219, 220, 167, 168, 3, 4, 5, 6, 7, 8, 169, 170, 171, 49, 85, 86, 221, 222, 223, 90, 571, 572, 573, 574, 575, 576, 577, 578, 579, 550, 551, 552] (by rfl) (by decide +kernel)
set_option maxRecDepth 100000 in
theorem gt_law_w_guest : GoodIn vlaw v_w_guest := goodIn_app gg_law_w_guest (goodIn_sub thrX_in (by decide +kernel))
set_option maxRecDepth 100000 in
theorem gg_law_c_M_guest : GoodIn vlaw v_c_M_guest := goodIn_r _ [226, 54, 178, 179, 55, 56, 57, 58, 180, 181, 182, 75, 76, 77, 78, 580, 581, 582, 583, 584, 585] (by rfl) (by decide +kernel)
set_option maxRecDepth 100000 in
theorem gg_law_w_count_0 : GoodIn vlaw v_w_count_0 := goodIn_r _ [230, 231, 2, 3, 4, 5, 6, 7, 8, 232, 233, 234, 49, 571, 572, 573, 574, 575, 576, 577, 578, 579, 550, 551, 552] (by rfl) (by decide +kernel)
set_option maxRecDepth 100000 in
theorem gg_law_c_M_count_0 : GoodIn vlaw v_c_M_count_0 := goodIn_r _ [237, 54, 55, 56, 57, 58, 238, 179, 59, 239, 240, 241, 580, 581, 582, 583, 584, 585] (by rfl) (by decide +kernel)
set_option maxRecDepth 100000 in
theorem gg_law_w_count_1 : GoodIn vlaw v_w_count_1 := goodIn_r _ [230, 231, 103, 3, 4, 5, 6, 7, 8, 232, 233, 234, 49, 571, 572, 573, 574, 575, 576, 577, 578, 579, 550, 551, 552] (by rfl) (by decide +kernel)
set_option maxRecDepth 100000 in
theorem gg_law_c_M_count_1 : GoodIn vlaw v_c_M_count_1 := goodIn_r _ [237, 54, 55, 56, 57, 58, 238, 179, 119, 239, 240, 241, 580, 581, 582, 583, 584, 585] (by rfl) (by decide +kernel)
set_option maxRecDepth 100000 in
theorem gg_law_w_count_2 : GoodIn vlaw v_w_count_2 := goodIn_r _ [230, 231, 168, 3, 4, 5, 6, 7, 8, 232, 233, 234, 49, 571, 572, 573, 574, 575, 576, 577, 578, 579, 550, 551, 552] (by rfl) (by decide +kernel)
set_option maxRecDepth 100000 in
theorem gg_law_c_M_count_2 : GoodIn vlaw v_c_M_count_2 := goodIn_r _ [237, 54, 55, 56, 57, 58, 238, 179, 239, 240, 241, 580, 581, 582, 583, 584, 585] (by rfl) (by decide +kernel)
set_option maxRecDepth 100000 in
theorem gg_law_w_count_3 : GoodIn vlaw v_w_count_3 := goodIn_r _ [230, 231, 245, 168, 3, 4, 5, 6, 7, 8, 246, 247, 248, 49, 232, 233, 234, 571, 572, 573, 574, 575, 576, 577, 578, 579, 550, 551, 552] (by rfl) (by decide +kernel)
set_option maxRecDepth 100000 in
theorem gg_law_c_M_count_3 : GoodIn vlaw v_c_M_count_3 := goodIn_r _ [237, 54, 55, 56, 57, 58, 238, 179, 239, 240, 241, 580, 581, 582, 583, 584, 585] (by rfl) (by decide +kernel)
set_option maxRecDepth 100000 in
theorem gg_law_w_count_4 : GoodIn vlaw v_w_count_4 := goodIn_r _ [230, 231, 249, 168, 3, 4, 5, 6, 7, 8, 250, 251, 252, 253, 49, 254, 255, 256, 232, 233, 234, 571, 572, 573, 574, 575, 576, 577, 578, 579, 550, 551, 552] (by rfl) (by decide +kernel)
set_option maxRecDepth 100000 in
theorem gg_law_c_M_count_4 : GoodIn vlaw v_c_M_count_4 := goodIn_r _ [237, 54, 55, 56, 57, 58, 238, 179, 239, 240, 241, 580, 581, 582, 583, 584, 585] (by rfl) (by decide +kernel)
set_option maxRecDepth 100000 in
theorem gg_law_w_count_5 : GoodIn vlaw v_w_count_5 := goodIn_r _ [230, 231, 257, 232, 233, 234, 49, 571, 572, 573, 574, 575, 576, 577, 578, 579] (by rfl) (by decide +kernel)
set_option maxRecDepth 100000 in
theorem gg_law_c_M_count_5 : GoodIn vlaw v_c_M_count_5 := goodIn_r _ [237, 54, 55, 56, 57, 58, 238, 179, 61, 239, 240, 241, 580, 581, 582, 583, 584, 585] (by rfl) (by decide +kernel)
set_option maxRecDepth 100000 in
theorem gg_law_w_count_6 : GoodIn vlaw v_w_count_6 := goodIn_r _ [230, 231, 258, 232, 233, 234, 49, 571, 572, 573, 574, 575, 576, 577, 578, 579] (by rfl) (by decide +kernel)
set_option maxRecDepth 100000 in
theorem gg_law_c_M_count_6 : GoodIn vlaw v_c_M_count_6 := goodIn_r _ [237, 54, 55, 56, 57, 58, 238, 179, 61, 239, 240, 241, 580, 581, 582, 583, 584, 585] (by rfl) (by decide +kernel)
set_option maxRecDepth 100000 in
theorem gg_law_w_count_7 : GoodIn vlaw v_w_count_7 := goodIn_r _ [230, 231, 259, 232, 233, 234, 49, 571, 572, 573, 574, 575, 576, 577, 578, 579] (by rfl) (by decide +kernel)
set_option maxRecDepth 100000 in
theorem gg_law_c_M_count_7 : GoodIn vlaw v_c_M_count_7 := goodIn_r _ [237, 54, 55, 56, 57, 58, 238, 179, 260, 261, 262, 263, 264, 265, 266, 267, 268, 269, 270, 271, 272, 239, 240, 241, 580, 581, 582, 583, 584, 585, 534, 535, 536, 537] (by rfl) (by decide +kernel)
set_option maxRecDepth 100000 in
theorem gg_law_w_count_f : GoodIn vlaw vh_w_count_f := goodIn_r _ [230, 231, 85, 86, 232, 233, 234, 49, 90] (by rfl) (by decide +kernel)
set_option maxRecDepth 100000 in
theorem gt_law_w_count_f : GoodIn vlaw v_w_count_f := goodIn_app gg_law_w_count_f (goodIn_sub thrX_in (by decide +kernel))
set_option maxRecDepth 100000 in
theorem gg_law_c_M_count_f : GoodIn vlaw v_c_M_count_f := goodIn_r _ [237, 54, 55, 56, 57, 58, 75, 76, 77, 78, 580, 581, 582, 583, 584, 585] (by rfl) (by decide +kernel)
set_option maxRecDepth 100000 in
theorem gg_law_w_ring_t : GoodIn vlaw v_w_ring_t := goodIn_r _ [273, 274, 275, 276, 277, 49, 278, 168, 3, 4, 5, 6, 7, 8, 257, 258, 279, 280, 281, 282, 283, 284, 285, 2, 103, 286, 287, 288, 289, 290, 291, 292, 293, 294, 571, 572, 573, 574, 575, 576, 577, 578, 579, 550, 551, 552, 566, 567, 568, 569] (by rfl) (by decide +kernel)
set_option maxRecDepth 100000 in
theorem gg_law_c_M_ring_t : GoodIn vlaw v_c_M_ring_t := goodIn_r _ [297, 54, 55, 56, 57, 58, 298, 179, 61, 299, 300, 301, 59, 119, 302, 303, 304, 580, 581, 582, 583, 584, 585] (by rfl) (by decide +kernel)
set_option maxRecDepth 100000 in
theorem gg_law_w_ring_f : GoodIn vlaw vh_w_ring_f := goodIn_r _ [273, 274, 275, 276, 277, 49, 72, 73, 292, 293, 294, 74] (by rfl) (by decide +kernel)
set_option maxRecDepth 100000 in
theorem gt_law_w_ring_f : GoodIn vlaw v_w_ring_f := goodIn_app gg_law_w_ring_f (goodIn_sub thrI_in (by decide +kernel))
set_option maxRecDepth 100000 in
theorem gg_law_c_M_ring_f : GoodIn vlaw v_c_M_ring_f := goodIn_r _ [297, 54, 55, 56, 57, 58, 75, 76, 77, 78, 580, 581, 582, 583, 584, 585] (by rfl) (by decide +kernel)
set_option maxRecDepth 100000 in
theorem gg_law_w_play_0 : GoodIn vlaw vh_w_play_0 := goodIn_r _ [308, 309, 310, 311, 312, 313, 49, 72, 73, 314, 315, 316, 74] (by rfl) (by decide +kernel)
set_option maxRecDepth 100000 in
theorem gt_law_w_play_0 : GoodIn vlaw v_w_play_0 := goodIn_app gg_law_w_play_0 (goodIn_sub thrI_in (by decide +kernel))
set_option maxRecDepth 100000 in
theorem gg_law_c_M_play_0 : GoodIn vlaw v_c_M_play_0 := goodIn_r _ [319, 54, 320, 55, 56, 57, 58, 321, 322, 75, 76, 77, 78, 580, 581, 582, 583, 584, 585] (by rfl) (by decide +kernel)
set_option maxRecDepth 100000 in
theorem gg_law_w_play_1 : GoodIn vlaw v_w_play_1 := goodIn_r _ [308, 309, 310, 311, 312, 313, 49, 326, 327, 328, 278, 168, 3, 4, 5, 6, 7, 8, 257, 258, 279, 280, 281, 282, 283, 284, 285, 2, 103, 286, 287, 288, 289, 290, 291, 314, 315, 316, 571, 572, 573, 574, 575, 576, 577, 578, 579, 550, 551, 552, 566, 567, 568, 569] (by rfl) (by decide +kernel)
set_option maxRecDepth 100000 in
theorem gg_law_c_M_play_1 : GoodIn vlaw v_c_M_play_1 := goodIn_r _ [319, 54, 320, 55, 56, 57, 58, 321, 322, 299, 300, 301, 298, 179, 61, 59, 119, 302, 303, 304, 580, 581, 582, 583, 584, 585] (by rfl) (by decide +kernel)
set_option maxRecDepth 100000 in
theorem gg_law_w_play_2 : GoodIn vlaw v_w_play_2 := goodIn_r _ [308, 309, 310, 311, 312, 313, 49, 326, 327, 328, 278, 168, 3, 4, 5, 6, 7, 8, 257, 258, 279, 280, 281, 282, 283, 284, 285, 2, 103, 286, 287, 288, 289, 290, 291, 314, 315, 316, 571, 572, 573, 574, 575, 576, 577, 578, 579, 550, 551, 552, 566, 567, 568, 569] (by rfl) (by decide +kernel)
set_option maxRecDepth 100000 in
theorem gg_law_c_M_play_2 : GoodIn vlaw v_c_M_play_2 := goodIn_r _ [319, 54, 320, 55, 56, 57, 58, 321, 322, 299, 300, 301, 298, 179, 61, 59, 119, 302, 303, 304, 580, 581, 582, 583, 584, 585] (by rfl) (by decide +kernel)
set_option maxRecDepth 100000 in
theorem gg_law_w_play_3 : GoodIn vlaw v_w_play_3 := goodIn_r _ [308, 309, 310, 311, 312, 313, 49, 326, 327, 328, 278, 168, 3, 4, 5, 6, 7, 8, 257, 258, 279, 280, 281, 282, 283, 284, 285, 2, 103, 286, 287, 288, 289, 290, 291, 314, 315, 316, 571, 572, 573, 574, 575, 576, 577, 578, 579, 550, 551, 552, 566, 567, 568, 569] (by rfl) (by decide +kernel)
set_option maxRecDepth 100000 in
theorem gg_law_c_M_play_3 : GoodIn vlaw v_c_M_play_3 := goodIn_r _ [319, 54, 320, 55, 56, 57, 58, 321, 322, 299, 300, 301, 298, 179, 61, 59, 119, 302, 303, 304, 580, 581, 582, 583, 584, 585] (by rfl) (by decide +kernel)
set_option maxRecDepth 100000 in
theorem gg_law_w_play_4 : GoodIn vlaw v_w_play_4 := goodIn_r _ [308, 309, 310, 311, 312, 313, 49, 326, 327, 328, 278, 168, 3, 4, 5, 6, 7, 8, 257, 258, 279, 280, 281, 282, 283, 284, 285, 2, 103, 286, 287, 288, 289, 290, 291, 314, 315, 316, 571, 572, 573, 574, 575, 576, 577, 578, 579, 550, 551, 552, 566, 567, 568, 569] (by rfl) (by decide +kernel)
set_option maxRecDepth 100000 in
theorem gg_law_c_M_play_4 : GoodIn vlaw v_c_M_play_4 := goodIn_r _ [319, 54, 320, 55, 56, 57, 58, 321, 322, 299, 300, 301, 298, 179, 61, 59, 119, 302, 303, 304, 580, 581, 582, 583, 584, 585] (by rfl) (by decide +kernel)
set_option maxRecDepth 100000 in
theorem gg_law_w_play_5 : GoodIn vlaw v_w_play_5 := goodIn_r _ [308, 309, 310, 311, 312, 313, 49, 326, 327, 328, 278, 168, 3, 4, 5, 6, 7, 8, 257, 258, 279, 280, 281, 282, 283, 284, 285, 2, 103, 286, 287, 288, 289, 290, 291, 314, 315, 316, 571, 572, 573, 574, 575, 576, 577, 578, 579, 550, 551, 552, 566, 567, 568, 569] (by rfl) (by decide +kernel)
set_option maxRecDepth 100000 in
theorem gg_law_c_M_play_5 : GoodIn vlaw v_c_M_play_5 := goodIn_r _ [319, 54, 320, 55, 56, 57, 58, 321, 322, 299, 300, 301, 298, 179, 61, 59, 119, 302, 303, 304, 580, 581, 582, 583, 584, 585] (by rfl) (by decide +kernel)
set_option maxRecDepth 100000 in
theorem gg_law_w_play_6 : GoodIn vlaw v_w_play_6 := goodIn_r _ [308, 309, 310, 311, 312, 313, 49, 326, 327, 328, 278, 168, 3, 4, 5, 6, 7, 8, 257, 258, 279, 280, 281, 282, 283, 284, 285, 2, 103, 286, 287, 288, 289, 290, 291, 314, 315, 316, 571, 572, 573, 574, 575, 576, 577, 578, 579, 550, 551, 552, 566, 567, 568, 569] (by rfl) (by decide +kernel)
set_option maxRecDepth 100000 in
theorem gg_law_c_M_play_6 : GoodIn vlaw v_c_M_play_6 := goodIn_r _ [319, 54, 320, 55, 56, 57, 58, 321, 322, 299, 300, 301, 298, 179, 61, 59, 119, 302, 303, 304, 580, 581, 582, 583, 584, 585] (by rfl) (by decide +kernel)
set_option maxRecDepth 100000 in
theorem gg_law_w_foresee : GoodIn vlaw vh_w_foresee := goodIn_r _ [329, 330, 167, 168, 3, 4, 5, 6, 7, 8, 169, 170, 171, 49, 85, 86, 331, 332, 333, 90, 571, 572, 573, 574, 575, 576, 577, 578, 579, 550, 551, 552] (by rfl) (by decide +kernel)
set_option maxRecDepth 100000 in
theorem gt_law_w_foresee : GoodIn vlaw v_w_foresee := goodIn_app gg_law_w_foresee (goodIn_sub thrX_in (by decide +kernel))
set_option maxRecDepth 100000 in
theorem gg_law_c_M_foresee : GoodIn vlaw v_c_M_foresee := goodIn_r _ [336, 54, 178, 179, 55, 56, 57, 58, 180, 181, 182, 75, 76, 77, 78, 580, 581, 582, 583, 584, 585] (by rfl) (by decide +kernel)
set_option maxRecDepth 100000 in
theorem gg_law_w_advise : GoodIn vlaw vh_w_advise := goodIn_r _ [340, 341, 167, 168, 3, 4, 5, 6, 7, 8, 169, 170, 171, 49, 85, 86, 342, 343, 344, 90, 571, 572, 573, 574, 575, 576, 577, 578, 579, 550, 551, 552] (by rfl) (by decide +kernel)
set_option maxRecDepth 100000 in
theorem gt_law_w_advise : GoodIn vlaw v_w_advise := goodIn_app gg_law_w_advise (goodIn_sub thrX_in (by decide +kernel))
set_option maxRecDepth 100000 in
theorem gg_law_c_M_advise : GoodIn vlaw v_c_M_advise := goodIn_r _ [347, 54, 178, 179, 55, 56, 57, 58, 180, 181, 182, 75, 76, 77, 78, 580, 581, 582, 583, 584, 585] (by rfl) (by decide +kernel)
set_option maxRecDepth 100000 in
theorem gg_law_w_wouldTurn_t : GoodIn vlaw v_w_wouldTurn_t := goodIn_r _ [351, 352, 275, 276, 277, 49, 279, 281, 282, 283, 284, 285, 2, 3, 4, 5, 6, 7, 8, 353, 354, 355, 571, 572, 573, 574, 575, 576, 577, 578, 579, 566, 567, 568, 569, 550, 551, 552] (by rfl) (by decide +kernel)
set_option maxRecDepth 100000 in
theorem gg_law_c_M_wouldTurn_t : GoodIn vlaw v_c_M_wouldTurn_t := goodIn_r _ [358, 54, 55, 56, 57, 58, 61, 299, 300, 301, 59, 580, 581, 582, 583, 584, 585] (by rfl) (by decide +kernel)
set_option maxRecDepth 100000 in
theorem gg_law_w_wouldTurn_f : GoodIn vlaw vh_w_wouldTurn_f := goodIn_r _ [351, 352, 275, 276, 277, 49, 72, 73, 353, 354, 355, 74] (by rfl) (by decide +kernel)
set_option maxRecDepth 100000 in
theorem gt_law_w_wouldTurn_f : GoodIn vlaw v_w_wouldTurn_f := goodIn_app gg_law_w_wouldTurn_f (goodIn_sub thrI_in (by decide +kernel))
set_option maxRecDepth 100000 in
theorem gg_law_c_M_wouldTurn_f : GoodIn vlaw v_c_M_wouldTurn_f := goodIn_r _ [358, 54, 55, 56, 57, 58, 75, 76, 77, 78, 580, 581, 582, 583, 584, 585] (by rfl) (by decide +kernel)
set_option maxRecDepth 100000 in
theorem gg_law_c_write : GoodIn vlaw v_c_write := goodIn_r _ [362, 259, 2, 3, 4, 5, 6, 7, 8, 103, 168, 571, 572, 573, 574, 575, 576, 577, 578, 579, 550, 551, 552] (by rfl) (by decide +kernel)
set_option maxRecDepth 100000 in
theorem gg_law_c_M_write : GoodIn vlaw v_c_M_write := goodIn_r _ [366, 54, 260, 367, 368, 369, 370, 371, 372, 373, 374, 375, 268, 263, 376, 377, 266, 378, 379, 380, 381, 272, 59, 119, 179, 261, 262, 264, 265, 267, 269, 270, 271, 580, 581, 582, 583, 584, 585, 534, 535, 536, 537] (by rfl) (by decide +kernel)
set_option maxRecDepth 100000 in
theorem gg_law_w_byteAt : GoodIn vlaw vh_w_byteAt := goodIn_r _ [385, 386, 85, 86, 259, 387, 388, 389, 49, 90, 571, 572, 573, 574, 575, 576, 577, 578, 579] (by rfl) (by decide +kernel)
set_option maxRecDepth 100000 in
theorem gt_law_w_byteAt : GoodIn vlaw v_w_byteAt := goodIn_app gg_law_w_byteAt (goodIn_sub thrX_in (by decide +kernel))
set_option maxRecDepth 100000 in
theorem gg_law_c_M_byteAt : GoodIn vlaw v_c_M_byteAt := goodIn_r _ [392, 54, 260, 261, 262, 263, 264, 265, 266, 267, 268, 269, 270, 271, 272, 55, 56, 57, 58, 75, 76, 77, 78, 580, 581, 582, 583, 584, 585, 534, 535, 536, 537] (by rfl) (by decide +kernel)
set_option maxRecDepth 100000 in
theorem gg_law_c_home : GoodIn vlaw v_c_home := goodIn_r _ [396, 168, 3, 4, 5, 6, 7, 8, 571, 572, 573, 574, 575, 576, 577, 578, 579, 550, 551, 552] (by rfl) (by decide +kernel)
set_option maxRecDepth 100000 in
theorem gg_law_c_M_home : GoodIn vlaw v_c_M_home := goodIn_r _ [400, 54, 179, 580, 581, 582, 583, 584, 585] (by rfl) (by decide +kernel)
set_option maxRecDepth 100000 in
theorem gg_law_c_digest : GoodIn vlaw v_c_digest := goodIn_r _ [404, 405, 406, 231, 2, 3, 4, 5, 6, 7, 8, 407, 233, 234, 49, 103, 168, 245, 246, 247, 248, 249, 250, 251, 252, 253, 254, 255, 256, 257, 258, 259, 571, 572, 573, 574, 575, 576, 577, 578, 579, 550, 551, 552] (by rfl) (by decide +kernel)
set_option maxRecDepth 100000 in
theorem gg_law_c_M_digest : GoodIn vlaw v_c_M_digest := goodIn_r _ [411, 54, 412, 413, 238, 179, 59, 239, 240, 241, 58, 119, 61, 260, 261, 262, 263, 264, 265, 266, 267, 268, 269, 270, 271, 272, 580, 581, 582, 583, 584, 585, 534, 535, 536, 537] (by rfl) (by decide +kernel)
set_option maxRecDepth 100000 in
theorem gg_law_c_init : GoodIn vlaw v_c_init := goodIn_r _ [419, 420, 14, 15, 421, 422, 8, 423, 424, 425, 426, 427, 428, 429, 430, 431, 432, 433, 28, 24, 434, 435, 2, 103, 168, 436, 437, 438, 439, 440, 109, 441, 442, 443, 444, 445, 279, 446, 447, 448, 449, 450, 451, 452, 453, 454, 455, 456, 457, 458, 459, 460, 461, 462, 463, 464, 465, 466, 467, 468, 469, 470, 471, 550, 551, 552, 571, 572, 573, 574, 575, 576, 577, 578, 579, 566, 567, 568, 569, 553, 554, 555, 560, 561, 562, 563, 564, 565] (by rfl) (by decide +kernel)
set_option maxRecDepth 100000 in
theorem gg_law_c_M_init : GoodIn vlaw v_c_M_init := goodIn_r _ [476, 477, 14, 15, 109, 61, 478, 479, 272, 480, 481, 482, 483, 446, 370, 371, 268, 484, 485, 486, 487, 260, 580, 581, 582, 583, 584, 585, 534, 535, 536, 537] (by rfl) (by decide +kernel)
