/-- the law's own body, under any name -/
def m_L (nm : String) : zMD := (⟨"BucketSheetLaw", nm, "([I)Z"⟩, code, 4, ret, room_1, 600000, 7302250)
set_option maxRecDepth 20000 in
theorem e_L_0 : decode code 0 = .ok (.new 7, 3) := by decide +kernel
theorem d_L_0 {nm : String} : zD (m_L nm) 0 (.new 7) 3 3 := ⟨e_L_0, rfl⟩
set_option maxRecDepth 20000 in
theorem e_L_3 : decode code 3 = .ok (.dup, 1) := by decide +kernel
theorem d_L_3 {nm : String} : zD (m_L nm) 3 (.dup) 1 4 := ⟨e_L_3, rfl⟩
set_option maxRecDepth 20000 in
theorem e_L_4 : decode code 4 = .ok (.invokespecial 9, 3) := by decide +kernel
theorem d_L_4 {nm : String} : zD (m_L nm) 4 (.invokespecial 9) 3 7 := ⟨e_L_4, rfl⟩
set_option maxRecDepth 20000 in
theorem e_L_7 : decode code 7 = .ok (.astore_n 1, 1) := by decide +kernel
theorem d_L_7 {nm : String} : zD (m_L nm) 7 (.astore_n 1) 1 8 := ⟨e_L_7, rfl⟩
set_option maxRecDepth 20000 in
theorem e_L_8 : decode code 8 = .ok (.new 10, 3) := by decide +kernel
theorem d_L_8 {nm : String} : zD (m_L nm) 8 (.new 10) 3 11 := ⟨e_L_8, rfl⟩
set_option maxRecDepth 20000 in
theorem e_L_11 : decode code 11 = .ok (.dup, 1) := by decide +kernel
theorem d_L_11 {nm : String} : zD (m_L nm) 11 (.dup) 1 12 := ⟨e_L_11, rfl⟩
set_option maxRecDepth 20000 in
theorem e_L_12 : decode code 12 = .ok (.invokespecial 12, 3) := by decide +kernel
theorem d_L_12 {nm : String} : zD (m_L nm) 12 (.invokespecial 12) 3 15 := ⟨e_L_12, rfl⟩
set_option maxRecDepth 20000 in
theorem e_L_15 : decode code 15 = .ok (.astore_n 2, 1) := by decide +kernel
theorem d_L_15 {nm : String} : zD (m_L nm) 15 (.astore_n 2) 1 16 := ⟨e_L_15, rfl⟩
set_option maxRecDepth 20000 in
theorem e_L_16 : decode code 16 = .ok (.iconst 0, 1) := by decide +kernel
theorem d_L_16 {nm : String} : zD (m_L nm) 16 (.iconst 0) 1 17 := ⟨e_L_16, rfl⟩
set_option maxRecDepth 20000 in
theorem e_L_17 : decode code 17 = .ok (.istore_n 3, 1) := by decide +kernel
theorem d_L_17 {nm : String} : zD (m_L nm) 17 (.istore_n 3) 1 18 := ⟨e_L_17, rfl⟩
set_option maxRecDepth 20000 in
theorem e_L_18 : decode code 18 = .ok (.iload_n 3, 1) := by decide +kernel
theorem d_L_18 {nm : String} : zD (m_L nm) 18 (.iload_n 3) 1 19 := ⟨e_L_18, rfl⟩
set_option maxRecDepth 20000 in
theorem e_L_19 : decode code 19 = .ok (.aload_n 0, 1) := by decide +kernel
theorem d_L_19 {nm : String} : zD (m_L nm) 19 (.aload_n 0) 1 20 := ⟨e_L_19, rfl⟩
set_option maxRecDepth 20000 in
theorem e_L_20 : decode code 20 = .ok (.arraylength, 1) := by decide +kernel
theorem d_L_20 {nm : String} : zD (m_L nm) 20 (.arraylength) 1 21 := ⟨e_L_20, rfl⟩
set_option maxRecDepth 20000 in
theorem e_L_21 : decode code 21 = .ok (.iconst 5, 1) := by decide +kernel
theorem d_L_21 {nm : String} : zD (m_L nm) 21 (.iconst 5) 1 22 := ⟨e_L_21, rfl⟩
set_option maxRecDepth 20000 in
theorem e_L_22 : decode code 22 = .ok (.isub, 1) := by decide +kernel
theorem d_L_22 {nm : String} : zD (m_L nm) 22 (.isub) 1 23 := ⟨e_L_22, rfl⟩
set_option maxRecDepth 20000 in
theorem e_L_23 : decode code 23 = .ok (.if_icmp .gt (1163), 3) := by decide +kernel
theorem d_L_23 {nm : String} : zDj (m_L nm) 23 (.if_icmp .gt) 26 1186 := ⟨1163, e_L_23, rfl, by decide⟩
set_option maxRecDepth 20000 in
theorem e_L_26 : decode code 26 = .ok (.aload_n 0, 1) := by decide +kernel
theorem d_L_26 {nm : String} : zD (m_L nm) 26 (.aload_n 0) 1 27 := ⟨e_L_26, rfl⟩
set_option maxRecDepth 20000 in
theorem e_L_27 : decode code 27 = .ok (.iload_n 3, 1) := by decide +kernel
theorem d_L_27 {nm : String} : zD (m_L nm) 27 (.iload_n 3) 1 28 := ⟨e_L_27, rfl⟩
set_option maxRecDepth 20000 in
theorem e_L_28 : decode code 28 = .ok (.iaload, 1) := by decide +kernel
theorem d_L_28 {nm : String} : zD (m_L nm) 28 (.iaload) 1 29 := ⟨e_L_28, rfl⟩
set_option maxRecDepth 20000 in
theorem e_L_29 : decode code 29 = .ok (.bipush 63, 2) := by decide +kernel
theorem d_L_29 {nm : String} : zD (m_L nm) 29 (.bipush 63) 2 31 := ⟨e_L_29, rfl⟩
set_option maxRecDepth 20000 in
theorem e_L_31 : decode code 31 = .ok (.iand, 1) := by decide +kernel
theorem d_L_31 {nm : String} : zD (m_L nm) 31 (.iand) 1 32 := ⟨e_L_31, rfl⟩
set_option maxRecDepth 20000 in
theorem d_L_32 : decode code 32 = .ok (.tableswitch 1148 0 36 #[164, 217, 240, 253, 266, 289, 322, 355, 378, 391, 404, 427, 451, 464, 517, 560, 583, 606, 629, 652, 665, 688, 722, 745, 768, 781, 804, 827, 860, 883, 927, 950, 973, 1016, 1059, 1112, 1125], 164) := by decide +kernel
set_option maxRecDepth 20000 in
theorem e_L_196 : decode code 196 = .ok (.aload_n 1, 1) := by decide +kernel
theorem d_L_196 {nm : String} : zD (m_L nm) 196 (.aload_n 1) 1 197 := ⟨e_L_196, rfl⟩
set_option maxRecDepth 20000 in
theorem e_L_197 : decode code 197 = .ok (.aload_n 0, 1) := by decide +kernel
theorem d_L_197 {nm : String} : zD (m_L nm) 197 (.aload_n 0) 1 198 := ⟨e_L_197, rfl⟩
set_option maxRecDepth 20000 in
theorem e_L_198 : decode code 198 = .ok (.iload_n 3, 1) := by decide +kernel
theorem d_L_198 {nm : String} : zD (m_L nm) 198 (.iload_n 3) 1 199 := ⟨e_L_198, rfl⟩
set_option maxRecDepth 20000 in
theorem e_L_199 : decode code 199 = .ok (.iconst 1, 1) := by decide +kernel
theorem d_L_199 {nm : String} : zD (m_L nm) 199 (.iconst 1) 1 200 := ⟨e_L_199, rfl⟩
set_option maxRecDepth 20000 in
theorem e_L_200 : decode code 200 = .ok (.iadd, 1) := by decide +kernel
theorem d_L_200 {nm : String} : zD (m_L nm) 200 (.iadd) 1 201 := ⟨e_L_200, rfl⟩
set_option maxRecDepth 20000 in
theorem e_L_201 : decode code 201 = .ok (.iaload, 1) := by decide +kernel
theorem d_L_201 {nm : String} : zD (m_L nm) 201 (.iaload) 1 202 := ⟨e_L_201, rfl⟩
set_option maxRecDepth 20000 in
theorem e_L_202 : decode code 202 = .ok (.i2l, 1) := by decide +kernel
theorem d_L_202 {nm : String} : zD (m_L nm) 202 (.i2l) 1 203 := ⟨e_L_202, rfl⟩
set_option maxRecDepth 20000 in
theorem e_L_203 : decode code 203 = .ok (.bipush 32, 2) := by decide +kernel
theorem d_L_203 {nm : String} : zD (m_L nm) 203 (.bipush 32) 2 205 := ⟨e_L_203, rfl⟩
set_option maxRecDepth 20000 in
theorem e_L_205 : decode code 205 = .ok (.lshl, 1) := by decide +kernel
theorem d_L_205 {nm : String} : zD (m_L nm) 205 (.lshl) 1 206 := ⟨e_L_205, rfl⟩
set_option maxRecDepth 20000 in
theorem e_L_206 : decode code 206 = .ok (.aload_n 0, 1) := by decide +kernel
theorem d_L_206 {nm : String} : zD (m_L nm) 206 (.aload_n 0) 1 207 := ⟨e_L_206, rfl⟩
set_option maxRecDepth 20000 in
theorem e_L_207 : decode code 207 = .ok (.iload_n 3, 1) := by decide +kernel
theorem d_L_207 {nm : String} : zD (m_L nm) 207 (.iload_n 3) 1 208 := ⟨e_L_207, rfl⟩
set_option maxRecDepth 20000 in
theorem e_L_208 : decode code 208 = .ok (.iconst 2, 1) := by decide +kernel
theorem d_L_208 {nm : String} : zD (m_L nm) 208 (.iconst 2) 1 209 := ⟨e_L_208, rfl⟩
set_option maxRecDepth 20000 in
theorem e_L_209 : decode code 209 = .ok (.iadd, 1) := by decide +kernel
theorem d_L_209 {nm : String} : zD (m_L nm) 209 (.iadd) 1 210 := ⟨e_L_209, rfl⟩
set_option maxRecDepth 20000 in
theorem e_L_210 : decode code 210 = .ok (.iaload, 1) := by decide +kernel
theorem d_L_210 {nm : String} : zD (m_L nm) 210 (.iaload) 1 211 := ⟨e_L_210, rfl⟩
set_option maxRecDepth 20000 in
theorem e_L_211 : decode code 211 = .ok (.i2l, 1) := by decide +kernel
theorem d_L_211 {nm : String} : zD (m_L nm) 211 (.i2l) 1 212 := ⟨e_L_211, rfl⟩
set_option maxRecDepth 20000 in
theorem e_L_212 : decode code 212 = .ok (.ldc2_w 13, 3) := by decide +kernel
theorem d_L_212 {nm : String} : zD (m_L nm) 212 (.ldc2_w 13) 3 215 := ⟨e_L_212, rfl⟩
set_option maxRecDepth 20000 in
theorem e_L_215 : decode code 215 = .ok (.land, 1) := by decide +kernel
theorem d_L_215 {nm : String} : zD (m_L nm) 215 (.land) 1 216 := ⟨e_L_215, rfl⟩
set_option maxRecDepth 20000 in
theorem e_L_216 : decode code 216 = .ok (.lor, 1) := by decide +kernel
theorem d_L_216 {nm : String} : zD (m_L nm) 216 (.lor) 1 217 := ⟨e_L_216, rfl⟩
set_option maxRecDepth 20000 in
theorem e_L_217 : decode code 217 = .ok (.invokevirtual 15, 3) := by decide +kernel
theorem d_L_217 {nm : String} : zD (m_L nm) 217 (.invokevirtual 15) 3 220 := ⟨e_L_217, rfl⟩
set_option maxRecDepth 20000 in
theorem e_L_220 : decode code 220 = .ok (.aload_n 2, 1) := by decide +kernel
theorem d_L_220 {nm : String} : zD (m_L nm) 220 (.aload_n 2) 1 221 := ⟨e_L_220, rfl⟩
set_option maxRecDepth 20000 in
theorem e_L_221 : decode code 221 = .ok (.aload_n 0, 1) := by decide +kernel
theorem d_L_221 {nm : String} : zD (m_L nm) 221 (.aload_n 0) 1 222 := ⟨e_L_221, rfl⟩
set_option maxRecDepth 20000 in
theorem e_L_222 : decode code 222 = .ok (.iload_n 3, 1) := by decide +kernel
theorem d_L_222 {nm : String} : zD (m_L nm) 222 (.iload_n 3) 1 223 := ⟨e_L_222, rfl⟩
set_option maxRecDepth 20000 in
theorem e_L_223 : decode code 223 = .ok (.iconst 1, 1) := by decide +kernel
theorem d_L_223 {nm : String} : zD (m_L nm) 223 (.iconst 1) 1 224 := ⟨e_L_223, rfl⟩
set_option maxRecDepth 20000 in
theorem e_L_224 : decode code 224 = .ok (.iadd, 1) := by decide +kernel
theorem d_L_224 {nm : String} : zD (m_L nm) 224 (.iadd) 1 225 := ⟨e_L_224, rfl⟩
set_option maxRecDepth 20000 in
theorem e_L_225 : decode code 225 = .ok (.iaload, 1) := by decide +kernel
theorem d_L_225 {nm : String} : zD (m_L nm) 225 (.iaload) 1 226 := ⟨e_L_225, rfl⟩
set_option maxRecDepth 20000 in
theorem e_L_226 : decode code 226 = .ok (.i2l, 1) := by decide +kernel
theorem d_L_226 {nm : String} : zD (m_L nm) 226 (.i2l) 1 227 := ⟨e_L_226, rfl⟩
set_option maxRecDepth 20000 in
theorem e_L_227 : decode code 227 = .ok (.bipush 32, 2) := by decide +kernel
theorem d_L_227 {nm : String} : zD (m_L nm) 227 (.bipush 32) 2 229 := ⟨e_L_227, rfl⟩
set_option maxRecDepth 20000 in
theorem e_L_229 : decode code 229 = .ok (.lshl, 1) := by decide +kernel
theorem d_L_229 {nm : String} : zD (m_L nm) 229 (.lshl) 1 230 := ⟨e_L_229, rfl⟩
set_option maxRecDepth 20000 in
theorem e_L_230 : decode code 230 = .ok (.aload_n 0, 1) := by decide +kernel
theorem d_L_230 {nm : String} : zD (m_L nm) 230 (.aload_n 0) 1 231 := ⟨e_L_230, rfl⟩
set_option maxRecDepth 20000 in
theorem e_L_231 : decode code 231 = .ok (.iload_n 3, 1) := by decide +kernel
theorem d_L_231 {nm : String} : zD (m_L nm) 231 (.iload_n 3) 1 232 := ⟨e_L_231, rfl⟩
set_option maxRecDepth 20000 in
theorem e_L_232 : decode code 232 = .ok (.iconst 2, 1) := by decide +kernel
theorem d_L_232 {nm : String} : zD (m_L nm) 232 (.iconst 2) 1 233 := ⟨e_L_232, rfl⟩
set_option maxRecDepth 20000 in
theorem e_L_233 : decode code 233 = .ok (.iadd, 1) := by decide +kernel
theorem d_L_233 {nm : String} : zD (m_L nm) 233 (.iadd) 1 234 := ⟨e_L_233, rfl⟩
set_option maxRecDepth 20000 in
theorem e_L_234 : decode code 234 = .ok (.iaload, 1) := by decide +kernel
theorem d_L_234 {nm : String} : zD (m_L nm) 234 (.iaload) 1 235 := ⟨e_L_234, rfl⟩
set_option maxRecDepth 20000 in
theorem e_L_235 : decode code 235 = .ok (.i2l, 1) := by decide +kernel
theorem d_L_235 {nm : String} : zD (m_L nm) 235 (.i2l) 1 236 := ⟨e_L_235, rfl⟩
set_option maxRecDepth 20000 in
theorem e_L_236 : decode code 236 = .ok (.ldc2_w 13, 3) := by decide +kernel
theorem d_L_236 {nm : String} : zD (m_L nm) 236 (.ldc2_w 13) 3 239 := ⟨e_L_236, rfl⟩
set_option maxRecDepth 20000 in
theorem e_L_239 : decode code 239 = .ok (.land, 1) := by decide +kernel
theorem d_L_239 {nm : String} : zD (m_L nm) 239 (.land) 1 240 := ⟨e_L_239, rfl⟩
set_option maxRecDepth 20000 in
theorem e_L_240 : decode code 240 = .ok (.lor, 1) := by decide +kernel
theorem d_L_240 {nm : String} : zD (m_L nm) 240 (.lor) 1 241 := ⟨e_L_240, rfl⟩
set_option maxRecDepth 20000 in
theorem e_L_241 : decode code 241 = .ok (.invokevirtual 19, 3) := by decide +kernel
theorem d_L_241 {nm : String} : zD (m_L nm) 241 (.invokevirtual 19) 3 244 := ⟨e_L_241, rfl⟩
set_option maxRecDepth 20000 in
theorem e_L_244 : decode code 244 = .ok (.if_icmp .eq (936), 3) := by decide +kernel
theorem d_L_244 {nm : String} : zDj (m_L nm) 244 (.if_icmp .eq) 247 1180 := ⟨936, e_L_244, rfl, by decide⟩
set_option maxRecDepth 20000 in
theorem e_L_247 : decode code 247 = .ok (.iconst 0, 1) := by decide +kernel
theorem d_L_247 {nm : String} : zD (m_L nm) 247 (.iconst 0) 1 248 := ⟨e_L_247, rfl⟩
set_option maxRecDepth 20000 in
theorem d_L_248 : decode code 248 = .ok (.ireturn, 1) := by decide +kernel
set_option maxRecDepth 20000 in
theorem e_L_249 : decode code 249 = .ok (.aload_n 1, 1) := by decide +kernel
theorem d_L_249 {nm : String} : zD (m_L nm) 249 (.aload_n 1) 1 250 := ⟨e_L_249, rfl⟩
set_option maxRecDepth 20000 in
theorem e_L_250 : decode code 250 = .ok (.aload_n 0, 1) := by decide +kernel
theorem d_L_250 {nm : String} : zD (m_L nm) 250 (.aload_n 0) 1 251 := ⟨e_L_250, rfl⟩
set_option maxRecDepth 20000 in
theorem e_L_251 : decode code 251 = .ok (.iload_n 3, 1) := by decide +kernel
theorem d_L_251 {nm : String} : zD (m_L nm) 251 (.iload_n 3) 1 252 := ⟨e_L_251, rfl⟩
set_option maxRecDepth 20000 in
theorem e_L_252 : decode code 252 = .ok (.iconst 1, 1) := by decide +kernel
theorem d_L_252 {nm : String} : zD (m_L nm) 252 (.iconst 1) 1 253 := ⟨e_L_252, rfl⟩
set_option maxRecDepth 20000 in
theorem e_L_253 : decode code 253 = .ok (.iadd, 1) := by decide +kernel
theorem d_L_253 {nm : String} : zD (m_L nm) 253 (.iadd) 1 254 := ⟨e_L_253, rfl⟩
set_option maxRecDepth 20000 in
theorem e_L_254 : decode code 254 = .ok (.iaload, 1) := by decide +kernel
theorem d_L_254 {nm : String} : zD (m_L nm) 254 (.iaload) 1 255 := ⟨e_L_254, rfl⟩
set_option maxRecDepth 20000 in
theorem e_L_255 : decode code 255 = .ok (.invokevirtual 20, 3) := by decide +kernel
theorem d_L_255 {nm : String} : zD (m_L nm) 255 (.invokevirtual 20) 3 258 := ⟨e_L_255, rfl⟩
set_option maxRecDepth 20000 in
theorem e_L_258 : decode code 258 = .ok (.aload_n 2, 1) := by decide +kernel
theorem d_L_258 {nm : String} : zD (m_L nm) 258 (.aload_n 2) 1 259 := ⟨e_L_258, rfl⟩
set_option maxRecDepth 20000 in
theorem e_L_259 : decode code 259 = .ok (.aload_n 0, 1) := by decide +kernel
theorem d_L_259 {nm : String} : zD (m_L nm) 259 (.aload_n 0) 1 260 := ⟨e_L_259, rfl⟩
set_option maxRecDepth 20000 in
theorem e_L_260 : decode code 260 = .ok (.iload_n 3, 1) := by decide +kernel
theorem d_L_260 {nm : String} : zD (m_L nm) 260 (.iload_n 3) 1 261 := ⟨e_L_260, rfl⟩
set_option maxRecDepth 20000 in
theorem e_L_261 : decode code 261 = .ok (.iconst 1, 1) := by decide +kernel
theorem d_L_261 {nm : String} : zD (m_L nm) 261 (.iconst 1) 1 262 := ⟨e_L_261, rfl⟩
set_option maxRecDepth 20000 in
theorem e_L_262 : decode code 262 = .ok (.iadd, 1) := by decide +kernel
theorem d_L_262 {nm : String} : zD (m_L nm) 262 (.iadd) 1 263 := ⟨e_L_262, rfl⟩
set_option maxRecDepth 20000 in
theorem e_L_263 : decode code 263 = .ok (.iaload, 1) := by decide +kernel
theorem d_L_263 {nm : String} : zD (m_L nm) 263 (.iaload) 1 264 := ⟨e_L_263, rfl⟩
set_option maxRecDepth 20000 in
theorem e_L_264 : decode code 264 = .ok (.invokevirtual 24, 3) := by decide +kernel
theorem d_L_264 {nm : String} : zD (m_L nm) 264 (.invokevirtual 24) 3 267 := ⟨e_L_264, rfl⟩
set_option maxRecDepth 20000 in
theorem e_L_267 : decode code 267 = .ok (.if_icmp .eq (913), 3) := by decide +kernel
theorem d_L_267 {nm : String} : zDj (m_L nm) 267 (.if_icmp .eq) 270 1180 := ⟨913, e_L_267, rfl, by decide⟩
set_option maxRecDepth 20000 in
theorem e_L_270 : decode code 270 = .ok (.iconst 0, 1) := by decide +kernel
theorem d_L_270 {nm : String} : zD (m_L nm) 270 (.iconst 0) 1 271 := ⟨e_L_270, rfl⟩
set_option maxRecDepth 20000 in
theorem d_L_271 : decode code 271 = .ok (.ireturn, 1) := by decide +kernel
set_option maxRecDepth 20000 in
theorem e_L_272 : decode code 272 = .ok (.aload_n 1, 1) := by decide +kernel
theorem d_L_272 {nm : String} : zD (m_L nm) 272 (.aload_n 1) 1 273 := ⟨e_L_272, rfl⟩
set_option maxRecDepth 20000 in
theorem e_L_273 : decode code 273 = .ok (.invokevirtual 25, 3) := by decide +kernel
theorem d_L_273 {nm : String} : zD (m_L nm) 273 (.invokevirtual 25) 3 276 := ⟨e_L_273, rfl⟩
set_option maxRecDepth 20000 in
theorem e_L_276 : decode code 276 = .ok (.aload_n 2, 1) := by decide +kernel
theorem d_L_276 {nm : String} : zD (m_L nm) 276 (.aload_n 2) 1 277 := ⟨e_L_276, rfl⟩
set_option maxRecDepth 20000 in
theorem e_L_277 : decode code 277 = .ok (.invokevirtual 29, 3) := by decide +kernel
theorem d_L_277 {nm : String} : zD (m_L nm) 277 (.invokevirtual 29) 3 280 := ⟨e_L_277, rfl⟩
set_option maxRecDepth 20000 in
theorem e_L_280 : decode code 280 = .ok (.if_icmp .eq (900), 3) := by decide +kernel
theorem d_L_280 {nm : String} : zDj (m_L nm) 280 (.if_icmp .eq) 283 1180 := ⟨900, e_L_280, rfl, by decide⟩
set_option maxRecDepth 20000 in
theorem e_L_283 : decode code 283 = .ok (.iconst 0, 1) := by decide +kernel
theorem d_L_283 {nm : String} : zD (m_L nm) 283 (.iconst 0) 1 284 := ⟨e_L_283, rfl⟩
set_option maxRecDepth 20000 in
theorem d_L_284 : decode code 284 = .ok (.ireturn, 1) := by decide +kernel
set_option maxRecDepth 20000 in
theorem e_L_285 : decode code 285 = .ok (.aload_n 1, 1) := by decide +kernel
theorem d_L_285 {nm : String} : zD (m_L nm) 285 (.aload_n 1) 1 286 := ⟨e_L_285, rfl⟩
set_option maxRecDepth 20000 in
theorem e_L_286 : decode code 286 = .ok (.invokevirtual 30, 3) := by decide +kernel
theorem d_L_286 {nm : String} : zD (m_L nm) 286 (.invokevirtual 30) 3 289 := ⟨e_L_286, rfl⟩
set_option maxRecDepth 20000 in
theorem e_L_289 : decode code 289 = .ok (.aload_n 2, 1) := by decide +kernel
theorem d_L_289 {nm : String} : zD (m_L nm) 289 (.aload_n 2) 1 290 := ⟨e_L_289, rfl⟩
set_option maxRecDepth 20000 in
theorem e_L_290 : decode code 290 = .ok (.invokevirtual 33, 3) := by decide +kernel
theorem d_L_290 {nm : String} : zD (m_L nm) 290 (.invokevirtual 33) 3 293 := ⟨e_L_290, rfl⟩
set_option maxRecDepth 20000 in
theorem e_L_293 : decode code 293 = .ok (.if_icmp .eq (887), 3) := by decide +kernel
theorem d_L_293 {nm : String} : zDj (m_L nm) 293 (.if_icmp .eq) 296 1180 := ⟨887, e_L_293, rfl, by decide⟩
set_option maxRecDepth 20000 in
theorem e_L_296 : decode code 296 = .ok (.iconst 0, 1) := by decide +kernel
theorem d_L_296 {nm : String} : zD (m_L nm) 296 (.iconst 0) 1 297 := ⟨e_L_296, rfl⟩
set_option maxRecDepth 20000 in
theorem d_L_297 : decode code 297 = .ok (.ireturn, 1) := by decide +kernel
set_option maxRecDepth 20000 in
theorem e_L_298 : decode code 298 = .ok (.aload_n 1, 1) := by decide +kernel
theorem d_L_298 {nm : String} : zD (m_L nm) 298 (.aload_n 1) 1 299 := ⟨e_L_298, rfl⟩
set_option maxRecDepth 20000 in
theorem e_L_299 : decode code 299 = .ok (.aload_n 0, 1) := by decide +kernel
theorem d_L_299 {nm : String} : zD (m_L nm) 299 (.aload_n 0) 1 300 := ⟨e_L_299, rfl⟩
set_option maxRecDepth 20000 in
theorem e_L_300 : decode code 300 = .ok (.iload_n 3, 1) := by decide +kernel
theorem d_L_300 {nm : String} : zD (m_L nm) 300 (.iload_n 3) 1 301 := ⟨e_L_300, rfl⟩
set_option maxRecDepth 20000 in
theorem e_L_301 : decode code 301 = .ok (.iconst 1, 1) := by decide +kernel
theorem d_L_301 {nm : String} : zD (m_L nm) 301 (.iconst 1) 1 302 := ⟨e_L_301, rfl⟩
set_option maxRecDepth 20000 in
theorem e_L_302 : decode code 302 = .ok (.iadd, 1) := by decide +kernel
theorem d_L_302 {nm : String} : zD (m_L nm) 302 (.iadd) 1 303 := ⟨e_L_302, rfl⟩
set_option maxRecDepth 20000 in
theorem e_L_303 : decode code 303 = .ok (.iaload, 1) := by decide +kernel
theorem d_L_303 {nm : String} : zD (m_L nm) 303 (.iaload) 1 304 := ⟨e_L_303, rfl⟩
set_option maxRecDepth 20000 in
theorem e_L_304 : decode code 304 = .ok (.invokevirtual 34, 3) := by decide +kernel
theorem d_L_304 {nm : String} : zD (m_L nm) 304 (.invokevirtual 34) 3 307 := ⟨e_L_304, rfl⟩
set_option maxRecDepth 20000 in
theorem e_L_307 : decode code 307 = .ok (.aload_n 2, 1) := by decide +kernel
theorem d_L_307 {nm : String} : zD (m_L nm) 307 (.aload_n 2) 1 308 := ⟨e_L_307, rfl⟩
set_option maxRecDepth 20000 in
theorem e_L_308 : decode code 308 = .ok (.aload_n 0, 1) := by decide +kernel
theorem d_L_308 {nm : String} : zD (m_L nm) 308 (.aload_n 0) 1 309 := ⟨e_L_308, rfl⟩
set_option maxRecDepth 20000 in
theorem e_L_309 : decode code 309 = .ok (.iload_n 3, 1) := by decide +kernel
theorem d_L_309 {nm : String} : zD (m_L nm) 309 (.iload_n 3) 1 310 := ⟨e_L_309, rfl⟩
set_option maxRecDepth 20000 in
theorem e_L_310 : decode code 310 = .ok (.iconst 1, 1) := by decide +kernel
theorem d_L_310 {nm : String} : zD (m_L nm) 310 (.iconst 1) 1 311 := ⟨e_L_310, rfl⟩
set_option maxRecDepth 20000 in
theorem e_L_311 : decode code 311 = .ok (.iadd, 1) := by decide +kernel
theorem d_L_311 {nm : String} : zD (m_L nm) 311 (.iadd) 1 312 := ⟨e_L_311, rfl⟩
set_option maxRecDepth 20000 in
theorem e_L_312 : decode code 312 = .ok (.iaload, 1) := by decide +kernel
theorem d_L_312 {nm : String} : zD (m_L nm) 312 (.iaload) 1 313 := ⟨e_L_312, rfl⟩
set_option maxRecDepth 20000 in
theorem e_L_313 : decode code 313 = .ok (.invokevirtual 37, 3) := by decide +kernel
theorem d_L_313 {nm : String} : zD (m_L nm) 313 (.invokevirtual 37) 3 316 := ⟨e_L_313, rfl⟩
set_option maxRecDepth 20000 in
theorem e_L_316 : decode code 316 = .ok (.if_icmp .eq (864), 3) := by decide +kernel
theorem d_L_316 {nm : String} : zDj (m_L nm) 316 (.if_icmp .eq) 319 1180 := ⟨864, e_L_316, rfl, by decide⟩
set_option maxRecDepth 20000 in
theorem e_L_319 : decode code 319 = .ok (.iconst 0, 1) := by decide +kernel
theorem d_L_319 {nm : String} : zD (m_L nm) 319 (.iconst 0) 1 320 := ⟨e_L_319, rfl⟩
set_option maxRecDepth 20000 in
theorem d_L_320 : decode code 320 = .ok (.ireturn, 1) := by decide +kernel
set_option maxRecDepth 20000 in
theorem e_L_321 : decode code 321 = .ok (.aload_n 1, 1) := by decide +kernel
theorem d_L_321 {nm : String} : zD (m_L nm) 321 (.aload_n 1) 1 322 := ⟨e_L_321, rfl⟩
set_option maxRecDepth 20000 in
theorem e_L_322 : decode code 322 = .ok (.aload_n 0, 1) := by decide +kernel
theorem d_L_322 {nm : String} : zD (m_L nm) 322 (.aload_n 0) 1 323 := ⟨e_L_322, rfl⟩
set_option maxRecDepth 20000 in
theorem e_L_323 : decode code 323 = .ok (.iload_n 3, 1) := by decide +kernel
theorem d_L_323 {nm : String} : zD (m_L nm) 323 (.iload_n 3) 1 324 := ⟨e_L_323, rfl⟩
set_option maxRecDepth 20000 in
theorem e_L_324 : decode code 324 = .ok (.iconst 1, 1) := by decide +kernel
theorem d_L_324 {nm : String} : zD (m_L nm) 324 (.iconst 1) 1 325 := ⟨e_L_324, rfl⟩
set_option maxRecDepth 20000 in
theorem e_L_325 : decode code 325 = .ok (.iadd, 1) := by decide +kernel
theorem d_L_325 {nm : String} : zD (m_L nm) 325 (.iadd) 1 326 := ⟨e_L_325, rfl⟩
set_option maxRecDepth 20000 in
theorem e_L_326 : decode code 326 = .ok (.iaload, 1) := by decide +kernel
theorem d_L_326 {nm : String} : zD (m_L nm) 326 (.iaload) 1 327 := ⟨e_L_326, rfl⟩
set_option maxRecDepth 20000 in
theorem e_L_327 : decode code 327 = .ok (.aload_n 0, 1) := by decide +kernel
theorem d_L_327 {nm : String} : zD (m_L nm) 327 (.aload_n 0) 1 328 := ⟨e_L_327, rfl⟩
set_option maxRecDepth 20000 in
theorem e_L_328 : decode code 328 = .ok (.iload_n 3, 1) := by decide +kernel
theorem d_L_328 {nm : String} : zD (m_L nm) 328 (.iload_n 3) 1 329 := ⟨e_L_328, rfl⟩
set_option maxRecDepth 20000 in
theorem e_L_329 : decode code 329 = .ok (.iconst 2, 1) := by decide +kernel
theorem d_L_329 {nm : String} : zD (m_L nm) 329 (.iconst 2) 1 330 := ⟨e_L_329, rfl⟩
set_option maxRecDepth 20000 in
theorem e_L_330 : decode code 330 = .ok (.iadd, 1) := by decide +kernel
theorem d_L_330 {nm : String} : zD (m_L nm) 330 (.iadd) 1 331 := ⟨e_L_330, rfl⟩
set_option maxRecDepth 20000 in
theorem e_L_331 : decode code 331 = .ok (.iaload, 1) := by decide +kernel
theorem d_L_331 {nm : String} : zD (m_L nm) 331 (.iaload) 1 332 := ⟨e_L_331, rfl⟩
set_option maxRecDepth 20000 in
theorem e_L_332 : decode code 332 = .ok (.invokevirtual 38, 3) := by decide +kernel
theorem d_L_332 {nm : String} : zD (m_L nm) 332 (.invokevirtual 38) 3 335 := ⟨e_L_332, rfl⟩
set_option maxRecDepth 20000 in
theorem e_L_335 : decode code 335 = .ok (.aload_n 2, 1) := by decide +kernel
theorem d_L_335 {nm : String} : zD (m_L nm) 335 (.aload_n 2) 1 336 := ⟨e_L_335, rfl⟩
set_option maxRecDepth 20000 in
theorem e_L_336 : decode code 336 = .ok (.aload_n 0, 1) := by decide +kernel
theorem d_L_336 {nm : String} : zD (m_L nm) 336 (.aload_n 0) 1 337 := ⟨e_L_336, rfl⟩
set_option maxRecDepth 20000 in
theorem e_L_337 : decode code 337 = .ok (.iload_n 3, 1) := by decide +kernel
theorem d_L_337 {nm : String} : zD (m_L nm) 337 (.iload_n 3) 1 338 := ⟨e_L_337, rfl⟩
set_option maxRecDepth 20000 in
theorem e_L_338 : decode code 338 = .ok (.iconst 1, 1) := by decide +kernel
theorem d_L_338 {nm : String} : zD (m_L nm) 338 (.iconst 1) 1 339 := ⟨e_L_338, rfl⟩
set_option maxRecDepth 20000 in
theorem e_L_339 : decode code 339 = .ok (.iadd, 1) := by decide +kernel
theorem d_L_339 {nm : String} : zD (m_L nm) 339 (.iadd) 1 340 := ⟨e_L_339, rfl⟩
set_option maxRecDepth 20000 in
theorem e_L_340 : decode code 340 = .ok (.iaload, 1) := by decide +kernel
theorem d_L_340 {nm : String} : zD (m_L nm) 340 (.iaload) 1 341 := ⟨e_L_340, rfl⟩
set_option maxRecDepth 20000 in
theorem e_L_341 : decode code 341 = .ok (.aload_n 0, 1) := by decide +kernel
theorem d_L_341 {nm : String} : zD (m_L nm) 341 (.aload_n 0) 1 342 := ⟨e_L_341, rfl⟩
set_option maxRecDepth 20000 in
theorem e_L_342 : decode code 342 = .ok (.iload_n 3, 1) := by decide +kernel
theorem d_L_342 {nm : String} : zD (m_L nm) 342 (.iload_n 3) 1 343 := ⟨e_L_342, rfl⟩
set_option maxRecDepth 20000 in
theorem e_L_343 : decode code 343 = .ok (.iconst 2, 1) := by decide +kernel
theorem d_L_343 {nm : String} : zD (m_L nm) 343 (.iconst 2) 1 344 := ⟨e_L_343, rfl⟩
set_option maxRecDepth 20000 in
theorem e_L_344 : decode code 344 = .ok (.iadd, 1) := by decide +kernel
theorem d_L_344 {nm : String} : zD (m_L nm) 344 (.iadd) 1 345 := ⟨e_L_344, rfl⟩
set_option maxRecDepth 20000 in
theorem e_L_345 : decode code 345 = .ok (.iaload, 1) := by decide +kernel
theorem d_L_345 {nm : String} : zD (m_L nm) 345 (.iaload) 1 346 := ⟨e_L_345, rfl⟩
set_option maxRecDepth 20000 in
theorem e_L_346 : decode code 346 = .ok (.invokevirtual 42, 3) := by decide +kernel
theorem d_L_346 {nm : String} : zD (m_L nm) 346 (.invokevirtual 42) 3 349 := ⟨e_L_346, rfl⟩
set_option maxRecDepth 20000 in
theorem e_L_349 : decode code 349 = .ok (.if_icmp .eq (831), 3) := by decide +kernel
theorem d_L_349 {nm : String} : zDj (m_L nm) 349 (.if_icmp .eq) 352 1180 := ⟨831, e_L_349, rfl, by decide⟩
set_option maxRecDepth 20000 in
theorem e_L_352 : decode code 352 = .ok (.iconst 0, 1) := by decide +kernel
theorem d_L_352 {nm : String} : zD (m_L nm) 352 (.iconst 0) 1 353 := ⟨e_L_352, rfl⟩
set_option maxRecDepth 20000 in
theorem d_L_353 : decode code 353 = .ok (.ireturn, 1) := by decide +kernel
set_option maxRecDepth 20000 in
theorem e_L_354 : decode code 354 = .ok (.aload_n 1, 1) := by decide +kernel
theorem d_L_354 {nm : String} : zD (m_L nm) 354 (.aload_n 1) 1 355 := ⟨e_L_354, rfl⟩
set_option maxRecDepth 20000 in
theorem e_L_355 : decode code 355 = .ok (.aload_n 0, 1) := by decide +kernel
theorem d_L_355 {nm : String} : zD (m_L nm) 355 (.aload_n 0) 1 356 := ⟨e_L_355, rfl⟩
set_option maxRecDepth 20000 in
theorem e_L_356 : decode code 356 = .ok (.iload_n 3, 1) := by decide +kernel
theorem d_L_356 {nm : String} : zD (m_L nm) 356 (.iload_n 3) 1 357 := ⟨e_L_356, rfl⟩
set_option maxRecDepth 20000 in
theorem e_L_357 : decode code 357 = .ok (.iconst 1, 1) := by decide +kernel
theorem d_L_357 {nm : String} : zD (m_L nm) 357 (.iconst 1) 1 358 := ⟨e_L_357, rfl⟩
set_option maxRecDepth 20000 in
theorem e_L_358 : decode code 358 = .ok (.iadd, 1) := by decide +kernel
theorem d_L_358 {nm : String} : zD (m_L nm) 358 (.iadd) 1 359 := ⟨e_L_358, rfl⟩
set_option maxRecDepth 20000 in
theorem e_L_359 : decode code 359 = .ok (.iaload, 1) := by decide +kernel
theorem d_L_359 {nm : String} : zD (m_L nm) 359 (.iaload) 1 360 := ⟨e_L_359, rfl⟩
set_option maxRecDepth 20000 in
theorem e_L_360 : decode code 360 = .ok (.aload_n 0, 1) := by decide +kernel
theorem d_L_360 {nm : String} : zD (m_L nm) 360 (.aload_n 0) 1 361 := ⟨e_L_360, rfl⟩
set_option maxRecDepth 20000 in
theorem e_L_361 : decode code 361 = .ok (.iload_n 3, 1) := by decide +kernel
theorem d_L_361 {nm : String} : zD (m_L nm) 361 (.iload_n 3) 1 362 := ⟨e_L_361, rfl⟩
set_option maxRecDepth 20000 in
theorem e_L_362 : decode code 362 = .ok (.iconst 2, 1) := by decide +kernel
theorem d_L_362 {nm : String} : zD (m_L nm) 362 (.iconst 2) 1 363 := ⟨e_L_362, rfl⟩
set_option maxRecDepth 20000 in
theorem e_L_363 : decode code 363 = .ok (.iadd, 1) := by decide +kernel
theorem d_L_363 {nm : String} : zD (m_L nm) 363 (.iadd) 1 364 := ⟨e_L_363, rfl⟩
set_option maxRecDepth 20000 in
theorem e_L_364 : decode code 364 = .ok (.iaload, 1) := by decide +kernel
theorem d_L_364 {nm : String} : zD (m_L nm) 364 (.iaload) 1 365 := ⟨e_L_364, rfl⟩
set_option maxRecDepth 20000 in
theorem e_L_365 : decode code 365 = .ok (.invokevirtual 43, 3) := by decide +kernel
theorem d_L_365 {nm : String} : zD (m_L nm) 365 (.invokevirtual 43) 3 368 := ⟨e_L_365, rfl⟩
set_option maxRecDepth 20000 in
theorem e_L_368 : decode code 368 = .ok (.aload_n 2, 1) := by decide +kernel
theorem d_L_368 {nm : String} : zD (m_L nm) 368 (.aload_n 2) 1 369 := ⟨e_L_368, rfl⟩
set_option maxRecDepth 20000 in
theorem e_L_369 : decode code 369 = .ok (.aload_n 0, 1) := by decide +kernel
theorem d_L_369 {nm : String} : zD (m_L nm) 369 (.aload_n 0) 1 370 := ⟨e_L_369, rfl⟩
set_option maxRecDepth 20000 in
theorem e_L_370 : decode code 370 = .ok (.iload_n 3, 1) := by decide +kernel
theorem d_L_370 {nm : String} : zD (m_L nm) 370 (.iload_n 3) 1 371 := ⟨e_L_370, rfl⟩
set_option maxRecDepth 20000 in
theorem e_L_371 : decode code 371 = .ok (.iconst 1, 1) := by decide +kernel
theorem d_L_371 {nm : String} : zD (m_L nm) 371 (.iconst 1) 1 372 := ⟨e_L_371, rfl⟩
set_option maxRecDepth 20000 in
theorem e_L_372 : decode code 372 = .ok (.iadd, 1) := by decide +kernel
theorem d_L_372 {nm : String} : zD (m_L nm) 372 (.iadd) 1 373 := ⟨e_L_372, rfl⟩
set_option maxRecDepth 20000 in
theorem e_L_373 : decode code 373 = .ok (.iaload, 1) := by decide +kernel
theorem d_L_373 {nm : String} : zD (m_L nm) 373 (.iaload) 1 374 := ⟨e_L_373, rfl⟩
set_option maxRecDepth 20000 in
theorem e_L_374 : decode code 374 = .ok (.aload_n 0, 1) := by decide +kernel
theorem d_L_374 {nm : String} : zD (m_L nm) 374 (.aload_n 0) 1 375 := ⟨e_L_374, rfl⟩
set_option maxRecDepth 20000 in
theorem e_L_375 : decode code 375 = .ok (.iload_n 3, 1) := by decide +kernel
theorem d_L_375 {nm : String} : zD (m_L nm) 375 (.iload_n 3) 1 376 := ⟨e_L_375, rfl⟩
set_option maxRecDepth 20000 in
theorem e_L_376 : decode code 376 = .ok (.iconst 2, 1) := by decide +kernel
theorem d_L_376 {nm : String} : zD (m_L nm) 376 (.iconst 2) 1 377 := ⟨e_L_376, rfl⟩
set_option maxRecDepth 20000 in
theorem e_L_377 : decode code 377 = .ok (.iadd, 1) := by decide +kernel
theorem d_L_377 {nm : String} : zD (m_L nm) 377 (.iadd) 1 378 := ⟨e_L_377, rfl⟩
set_option maxRecDepth 20000 in
theorem e_L_378 : decode code 378 = .ok (.iaload, 1) := by decide +kernel
theorem d_L_378 {nm : String} : zD (m_L nm) 378 (.iaload) 1 379 := ⟨e_L_378, rfl⟩
set_option maxRecDepth 20000 in
theorem e_L_379 : decode code 379 = .ok (.invokevirtual 46, 3) := by decide +kernel
theorem d_L_379 {nm : String} : zD (m_L nm) 379 (.invokevirtual 46) 3 382 := ⟨e_L_379, rfl⟩
set_option maxRecDepth 20000 in
theorem e_L_382 : decode code 382 = .ok (.if_icmp .eq (798), 3) := by decide +kernel
theorem d_L_382 {nm : String} : zDj (m_L nm) 382 (.if_icmp .eq) 385 1180 := ⟨798, e_L_382, rfl, by decide⟩
set_option maxRecDepth 20000 in
theorem e_L_385 : decode code 385 = .ok (.iconst 0, 1) := by decide +kernel
theorem d_L_385 {nm : String} : zD (m_L nm) 385 (.iconst 0) 1 386 := ⟨e_L_385, rfl⟩
set_option maxRecDepth 20000 in
theorem d_L_386 : decode code 386 = .ok (.ireturn, 1) := by decide +kernel
set_option maxRecDepth 20000 in
theorem e_L_387 : decode code 387 = .ok (.aload_n 1, 1) := by decide +kernel
theorem d_L_387 {nm : String} : zD (m_L nm) 387 (.aload_n 1) 1 388 := ⟨e_L_387, rfl⟩
set_option maxRecDepth 20000 in
theorem e_L_388 : decode code 388 = .ok (.aload_n 0, 1) := by decide +kernel
theorem d_L_388 {nm : String} : zD (m_L nm) 388 (.aload_n 0) 1 389 := ⟨e_L_388, rfl⟩
set_option maxRecDepth 20000 in
theorem e_L_389 : decode code 389 = .ok (.iload_n 3, 1) := by decide +kernel
theorem d_L_389 {nm : String} : zD (m_L nm) 389 (.iload_n 3) 1 390 := ⟨e_L_389, rfl⟩
set_option maxRecDepth 20000 in
theorem e_L_390 : decode code 390 = .ok (.iconst 1, 1) := by decide +kernel
theorem d_L_390 {nm : String} : zD (m_L nm) 390 (.iconst 1) 1 391 := ⟨e_L_390, rfl⟩
set_option maxRecDepth 20000 in
theorem e_L_391 : decode code 391 = .ok (.iadd, 1) := by decide +kernel
theorem d_L_391 {nm : String} : zD (m_L nm) 391 (.iadd) 1 392 := ⟨e_L_391, rfl⟩
set_option maxRecDepth 20000 in
theorem e_L_392 : decode code 392 = .ok (.iaload, 1) := by decide +kernel
theorem d_L_392 {nm : String} : zD (m_L nm) 392 (.iaload) 1 393 := ⟨e_L_392, rfl⟩
set_option maxRecDepth 20000 in
theorem e_L_393 : decode code 393 = .ok (.invokevirtual 47, 3) := by decide +kernel
theorem d_L_393 {nm : String} : zD (m_L nm) 393 (.invokevirtual 47) 3 396 := ⟨e_L_393, rfl⟩
set_option maxRecDepth 20000 in
theorem e_L_396 : decode code 396 = .ok (.aload_n 2, 1) := by decide +kernel
theorem d_L_396 {nm : String} : zD (m_L nm) 396 (.aload_n 2) 1 397 := ⟨e_L_396, rfl⟩
set_option maxRecDepth 20000 in
theorem e_L_397 : decode code 397 = .ok (.aload_n 0, 1) := by decide +kernel
theorem d_L_397 {nm : String} : zD (m_L nm) 397 (.aload_n 0) 1 398 := ⟨e_L_397, rfl⟩
set_option maxRecDepth 20000 in
theorem e_L_398 : decode code 398 = .ok (.iload_n 3, 1) := by decide +kernel
theorem d_L_398 {nm : String} : zD (m_L nm) 398 (.iload_n 3) 1 399 := ⟨e_L_398, rfl⟩
set_option maxRecDepth 20000 in
theorem e_L_399 : decode code 399 = .ok (.iconst 1, 1) := by decide +kernel
theorem d_L_399 {nm : String} : zD (m_L nm) 399 (.iconst 1) 1 400 := ⟨e_L_399, rfl⟩
set_option maxRecDepth 20000 in
theorem e_L_400 : decode code 400 = .ok (.iadd, 1) := by decide +kernel
theorem d_L_400 {nm : String} : zD (m_L nm) 400 (.iadd) 1 401 := ⟨e_L_400, rfl⟩
set_option maxRecDepth 20000 in
theorem e_L_401 : decode code 401 = .ok (.iaload, 1) := by decide +kernel
theorem d_L_401 {nm : String} : zD (m_L nm) 401 (.iaload) 1 402 := ⟨e_L_401, rfl⟩
set_option maxRecDepth 20000 in
theorem e_L_402 : decode code 402 = .ok (.invokevirtual 50, 3) := by decide +kernel
theorem d_L_402 {nm : String} : zD (m_L nm) 402 (.invokevirtual 50) 3 405 := ⟨e_L_402, rfl⟩
set_option maxRecDepth 20000 in
theorem e_L_405 : decode code 405 = .ok (.if_icmp .eq (775), 3) := by decide +kernel
theorem d_L_405 {nm : String} : zDj (m_L nm) 405 (.if_icmp .eq) 408 1180 := ⟨775, e_L_405, rfl, by decide⟩
set_option maxRecDepth 20000 in
theorem e_L_408 : decode code 408 = .ok (.iconst 0, 1) := by decide +kernel
theorem d_L_408 {nm : String} : zD (m_L nm) 408 (.iconst 0) 1 409 := ⟨e_L_408, rfl⟩
set_option maxRecDepth 20000 in
theorem d_L_409 : decode code 409 = .ok (.ireturn, 1) := by decide +kernel
set_option maxRecDepth 20000 in
theorem e_L_410 : decode code 410 = .ok (.aload_n 1, 1) := by decide +kernel
theorem d_L_410 {nm : String} : zD (m_L nm) 410 (.aload_n 1) 1 411 := ⟨e_L_410, rfl⟩
set_option maxRecDepth 20000 in
theorem e_L_411 : decode code 411 = .ok (.invokevirtual 51, 3) := by decide +kernel
theorem d_L_411 {nm : String} : zD (m_L nm) 411 (.invokevirtual 51) 3 414 := ⟨e_L_411, rfl⟩
set_option maxRecDepth 20000 in
theorem e_L_414 : decode code 414 = .ok (.aload_n 2, 1) := by decide +kernel
theorem d_L_414 {nm : String} : zD (m_L nm) 414 (.aload_n 2) 1 415 := ⟨e_L_414, rfl⟩
set_option maxRecDepth 20000 in
theorem e_L_415 : decode code 415 = .ok (.invokevirtual 54, 3) := by decide +kernel
theorem d_L_415 {nm : String} : zD (m_L nm) 415 (.invokevirtual 54) 3 418 := ⟨e_L_415, rfl⟩
set_option maxRecDepth 20000 in
theorem e_L_418 : decode code 418 = .ok (.if_icmp .eq (762), 3) := by decide +kernel
theorem d_L_418 {nm : String} : zDj (m_L nm) 418 (.if_icmp .eq) 421 1180 := ⟨762, e_L_418, rfl, by decide⟩
set_option maxRecDepth 20000 in
theorem e_L_421 : decode code 421 = .ok (.iconst 0, 1) := by decide +kernel
theorem d_L_421 {nm : String} : zD (m_L nm) 421 (.iconst 0) 1 422 := ⟨e_L_421, rfl⟩
set_option maxRecDepth 20000 in
theorem d_L_422 : decode code 422 = .ok (.ireturn, 1) := by decide +kernel
set_option maxRecDepth 20000 in
theorem e_L_423 : decode code 423 = .ok (.aload_n 1, 1) := by decide +kernel
theorem d_L_423 {nm : String} : zD (m_L nm) 423 (.aload_n 1) 1 424 := ⟨e_L_423, rfl⟩
set_option maxRecDepth 20000 in
theorem e_L_424 : decode code 424 = .ok (.invokevirtual 55, 3) := by decide +kernel
theorem d_L_424 {nm : String} : zD (m_L nm) 424 (.invokevirtual 55) 3 427 := ⟨e_L_424, rfl⟩
set_option maxRecDepth 20000 in
theorem e_L_427 : decode code 427 = .ok (.aload_n 2, 1) := by decide +kernel
theorem d_L_427 {nm : String} : zD (m_L nm) 427 (.aload_n 2) 1 428 := ⟨e_L_427, rfl⟩
set_option maxRecDepth 20000 in
theorem e_L_428 : decode code 428 = .ok (.invokevirtual 58, 3) := by decide +kernel
theorem d_L_428 {nm : String} : zD (m_L nm) 428 (.invokevirtual 58) 3 431 := ⟨e_L_428, rfl⟩
set_option maxRecDepth 20000 in
theorem e_L_431 : decode code 431 = .ok (.if_icmp .eq (749), 3) := by decide +kernel
theorem d_L_431 {nm : String} : zDj (m_L nm) 431 (.if_icmp .eq) 434 1180 := ⟨749, e_L_431, rfl, by decide⟩
set_option maxRecDepth 20000 in
theorem e_L_434 : decode code 434 = .ok (.iconst 0, 1) := by decide +kernel
theorem d_L_434 {nm : String} : zD (m_L nm) 434 (.iconst 0) 1 435 := ⟨e_L_434, rfl⟩
set_option maxRecDepth 20000 in
theorem d_L_435 : decode code 435 = .ok (.ireturn, 1) := by decide +kernel
set_option maxRecDepth 20000 in
theorem e_L_436 : decode code 436 = .ok (.aload_n 1, 1) := by decide +kernel
theorem d_L_436 {nm : String} : zD (m_L nm) 436 (.aload_n 1) 1 437 := ⟨e_L_436, rfl⟩
set_option maxRecDepth 20000 in
theorem e_L_437 : decode code 437 = .ok (.aload_n 0, 1) := by decide +kernel
theorem d_L_437 {nm : String} : zD (m_L nm) 437 (.aload_n 0) 1 438 := ⟨e_L_437, rfl⟩
set_option maxRecDepth 20000 in
theorem e_L_438 : decode code 438 = .ok (.iload_n 3, 1) := by decide +kernel
theorem d_L_438 {nm : String} : zD (m_L nm) 438 (.iload_n 3) 1 439 := ⟨e_L_438, rfl⟩
set_option maxRecDepth 20000 in
theorem e_L_439 : decode code 439 = .ok (.iconst 1, 1) := by decide +kernel
theorem d_L_439 {nm : String} : zD (m_L nm) 439 (.iconst 1) 1 440 := ⟨e_L_439, rfl⟩
set_option maxRecDepth 20000 in
theorem e_L_440 : decode code 440 = .ok (.iadd, 1) := by decide +kernel
theorem d_L_440 {nm : String} : zD (m_L nm) 440 (.iadd) 1 441 := ⟨e_L_440, rfl⟩
set_option maxRecDepth 20000 in
theorem e_L_441 : decode code 441 = .ok (.iaload, 1) := by decide +kernel
theorem d_L_441 {nm : String} : zD (m_L nm) 441 (.iaload) 1 442 := ⟨e_L_441, rfl⟩
set_option maxRecDepth 20000 in
theorem e_L_442 : decode code 442 = .ok (.invokevirtual 59, 3) := by decide +kernel
theorem d_L_442 {nm : String} : zD (m_L nm) 442 (.invokevirtual 59) 3 445 := ⟨e_L_442, rfl⟩
set_option maxRecDepth 20000 in
theorem e_L_445 : decode code 445 = .ok (.aload_n 2, 1) := by decide +kernel
theorem d_L_445 {nm : String} : zD (m_L nm) 445 (.aload_n 2) 1 446 := ⟨e_L_445, rfl⟩
set_option maxRecDepth 20000 in
theorem e_L_446 : decode code 446 = .ok (.aload_n 0, 1) := by decide +kernel
theorem d_L_446 {nm : String} : zD (m_L nm) 446 (.aload_n 0) 1 447 := ⟨e_L_446, rfl⟩
set_option maxRecDepth 20000 in
theorem e_L_447 : decode code 447 = .ok (.iload_n 3, 1) := by decide +kernel
theorem d_L_447 {nm : String} : zD (m_L nm) 447 (.iload_n 3) 1 448 := ⟨e_L_447, rfl⟩
set_option maxRecDepth 20000 in
theorem e_L_448 : decode code 448 = .ok (.iconst 1, 1) := by decide +kernel
theorem d_L_448 {nm : String} : zD (m_L nm) 448 (.iconst 1) 1 449 := ⟨e_L_448, rfl⟩
set_option maxRecDepth 20000 in
theorem e_L_449 : decode code 449 = .ok (.iadd, 1) := by decide +kernel
theorem d_L_449 {nm : String} : zD (m_L nm) 449 (.iadd) 1 450 := ⟨e_L_449, rfl⟩
set_option maxRecDepth 20000 in
theorem e_L_450 : decode code 450 = .ok (.iaload, 1) := by decide +kernel
theorem d_L_450 {nm : String} : zD (m_L nm) 450 (.iaload) 1 451 := ⟨e_L_450, rfl⟩
set_option maxRecDepth 20000 in
theorem e_L_451 : decode code 451 = .ok (.invokevirtual 62, 3) := by decide +kernel
theorem d_L_451 {nm : String} : zD (m_L nm) 451 (.invokevirtual 62) 3 454 := ⟨e_L_451, rfl⟩
set_option maxRecDepth 20000 in
theorem e_L_454 : decode code 454 = .ok (.if_icmp .eq (726), 3) := by decide +kernel
theorem d_L_454 {nm : String} : zDj (m_L nm) 454 (.if_icmp .eq) 457 1180 := ⟨726, e_L_454, rfl, by decide⟩
set_option maxRecDepth 20000 in
theorem e_L_457 : decode code 457 = .ok (.iconst 0, 1) := by decide +kernel
theorem d_L_457 {nm : String} : zD (m_L nm) 457 (.iconst 0) 1 458 := ⟨e_L_457, rfl⟩
set_option maxRecDepth 20000 in
theorem d_L_458 : decode code 458 = .ok (.ireturn, 1) := by decide +kernel
set_option maxRecDepth 20000 in
theorem e_L_459 : decode code 459 = .ok (.aload_n 1, 1) := by decide +kernel
theorem d_L_459 {nm : String} : zD (m_L nm) 459 (.aload_n 1) 1 460 := ⟨e_L_459, rfl⟩
set_option maxRecDepth 20000 in
theorem e_L_460 : decode code 460 = .ok (.aload_n 0, 1) := by decide +kernel
theorem d_L_460 {nm : String} : zD (m_L nm) 460 (.aload_n 0) 1 461 := ⟨e_L_460, rfl⟩
set_option maxRecDepth 20000 in
theorem e_L_461 : decode code 461 = .ok (.iload_n 3, 1) := by decide +kernel
theorem d_L_461 {nm : String} : zD (m_L nm) 461 (.iload_n 3) 1 462 := ⟨e_L_461, rfl⟩
set_option maxRecDepth 20000 in
theorem e_L_462 : decode code 462 = .ok (.iconst 1, 1) := by decide +kernel
theorem d_L_462 {nm : String} : zD (m_L nm) 462 (.iconst 1) 1 463 := ⟨e_L_462, rfl⟩
set_option maxRecDepth 20000 in
theorem e_L_463 : decode code 463 = .ok (.iadd, 1) := by decide +kernel
theorem d_L_463 {nm : String} : zD (m_L nm) 463 (.iadd) 1 464 := ⟨e_L_463, rfl⟩
set_option maxRecDepth 20000 in
theorem e_L_464 : decode code 464 = .ok (.iaload, 1) := by decide +kernel
theorem d_L_464 {nm : String} : zD (m_L nm) 464 (.iaload) 1 465 := ⟨e_L_464, rfl⟩
set_option maxRecDepth 20000 in
theorem e_L_465 : decode code 465 = .ok (.invokevirtual 63, 3) := by decide +kernel
theorem d_L_465 {nm : String} : zD (m_L nm) 465 (.invokevirtual 63) 3 468 := ⟨e_L_465, rfl⟩
set_option maxRecDepth 20000 in
theorem e_L_468 : decode code 468 = .ok (.aload_n 2, 1) := by decide +kernel
theorem d_L_468 {nm : String} : zD (m_L nm) 468 (.aload_n 2) 1 469 := ⟨e_L_468, rfl⟩
set_option maxRecDepth 20000 in
theorem e_L_469 : decode code 469 = .ok (.aload_n 0, 1) := by decide +kernel
theorem d_L_469 {nm : String} : zD (m_L nm) 469 (.aload_n 0) 1 470 := ⟨e_L_469, rfl⟩
set_option maxRecDepth 20000 in
theorem e_L_470 : decode code 470 = .ok (.iload_n 3, 1) := by decide +kernel
theorem d_L_470 {nm : String} : zD (m_L nm) 470 (.iload_n 3) 1 471 := ⟨e_L_470, rfl⟩
set_option maxRecDepth 20000 in
theorem e_L_471 : decode code 471 = .ok (.iconst 1, 1) := by decide +kernel
theorem d_L_471 {nm : String} : zD (m_L nm) 471 (.iconst 1) 1 472 := ⟨e_L_471, rfl⟩
set_option maxRecDepth 20000 in
theorem e_L_472 : decode code 472 = .ok (.iadd, 1) := by decide +kernel
theorem d_L_472 {nm : String} : zD (m_L nm) 472 (.iadd) 1 473 := ⟨e_L_472, rfl⟩
set_option maxRecDepth 20000 in
theorem e_L_473 : decode code 473 = .ok (.iaload, 1) := by decide +kernel
theorem d_L_473 {nm : String} : zD (m_L nm) 473 (.iaload) 1 474 := ⟨e_L_473, rfl⟩
set_option maxRecDepth 20000 in
theorem e_L_474 : decode code 474 = .ok (.invokevirtual 67, 3) := by decide +kernel
theorem d_L_474 {nm : String} : zD (m_L nm) 474 (.invokevirtual 67) 3 477 := ⟨e_L_474, rfl⟩
set_option maxRecDepth 20000 in
theorem e_L_477 : decode code 477 = .ok (.lcmp, 1) := by decide +kernel
theorem d_L_477 {nm : String} : zD (m_L nm) 477 (.lcmp) 1 478 := ⟨e_L_477, rfl⟩
set_option maxRecDepth 20000 in
theorem e_L_478 : decode code 478 = .ok (.ifCond .eq (702), 3) := by decide +kernel
theorem d_L_478 {nm : String} : zDj (m_L nm) 478 (.ifCond .eq) 481 1180 := ⟨702, e_L_478, rfl, by decide⟩
set_option maxRecDepth 20000 in
theorem e_L_481 : decode code 481 = .ok (.iconst 0, 1) := by decide +kernel
theorem d_L_481 {nm : String} : zD (m_L nm) 481 (.iconst 0) 1 482 := ⟨e_L_481, rfl⟩
set_option maxRecDepth 20000 in
theorem d_L_482 : decode code 482 = .ok (.ireturn, 1) := by decide +kernel
set_option maxRecDepth 20000 in
theorem e_L_483 : decode code 483 = .ok (.aload_n 1, 1) := by decide +kernel
theorem d_L_483 {nm : String} : zD (m_L nm) 483 (.aload_n 1) 1 484 := ⟨e_L_483, rfl⟩
set_option maxRecDepth 20000 in
theorem e_L_484 : decode code 484 = .ok (.invokevirtual 68, 3) := by decide +kernel
theorem d_L_484 {nm : String} : zD (m_L nm) 484 (.invokevirtual 68) 3 487 := ⟨e_L_484, rfl⟩
set_option maxRecDepth 20000 in
theorem e_L_487 : decode code 487 = .ok (.aload_n 2, 1) := by decide +kernel
theorem d_L_487 {nm : String} : zD (m_L nm) 487 (.aload_n 2) 1 488 := ⟨e_L_487, rfl⟩
set_option maxRecDepth 20000 in
theorem e_L_488 : decode code 488 = .ok (.invokevirtual 71, 3) := by decide +kernel
theorem d_L_488 {nm : String} : zD (m_L nm) 488 (.invokevirtual 71) 3 491 := ⟨e_L_488, rfl⟩
set_option maxRecDepth 20000 in
theorem e_L_491 : decode code 491 = .ok (.if_icmp .eq (689), 3) := by decide +kernel
theorem d_L_491 {nm : String} : zDj (m_L nm) 491 (.if_icmp .eq) 494 1180 := ⟨689, e_L_491, rfl, by decide⟩
set_option maxRecDepth 20000 in
theorem e_L_494 : decode code 494 = .ok (.iconst 0, 1) := by decide +kernel
theorem d_L_494 {nm : String} : zD (m_L nm) 494 (.iconst 0) 1 495 := ⟨e_L_494, rfl⟩
set_option maxRecDepth 20000 in
theorem d_L_495 : decode code 495 = .ok (.ireturn, 1) := by decide +kernel
set_option maxRecDepth 20000 in
theorem e_L_496 : decode code 496 = .ok (.aload_n 1, 1) := by decide +kernel
theorem d_L_496 {nm : String} : zD (m_L nm) 496 (.aload_n 1) 1 497 := ⟨e_L_496, rfl⟩
set_option maxRecDepth 20000 in
theorem e_L_497 : decode code 497 = .ok (.aload_n 0, 1) := by decide +kernel
theorem d_L_497 {nm : String} : zD (m_L nm) 497 (.aload_n 0) 1 498 := ⟨e_L_497, rfl⟩
set_option maxRecDepth 20000 in
theorem e_L_498 : decode code 498 = .ok (.iload_n 3, 1) := by decide +kernel
theorem d_L_498 {nm : String} : zD (m_L nm) 498 (.iload_n 3) 1 499 := ⟨e_L_498, rfl⟩
set_option maxRecDepth 20000 in
theorem e_L_499 : decode code 499 = .ok (.iconst 1, 1) := by decide +kernel
theorem d_L_499 {nm : String} : zD (m_L nm) 499 (.iconst 1) 1 500 := ⟨e_L_499, rfl⟩
set_option maxRecDepth 20000 in
theorem e_L_500 : decode code 500 = .ok (.iadd, 1) := by decide +kernel
theorem d_L_500 {nm : String} : zD (m_L nm) 500 (.iadd) 1 501 := ⟨e_L_500, rfl⟩
set_option maxRecDepth 20000 in
theorem e_L_501 : decode code 501 = .ok (.iaload, 1) := by decide +kernel
theorem d_L_501 {nm : String} : zD (m_L nm) 501 (.iaload) 1 502 := ⟨e_L_501, rfl⟩
set_option maxRecDepth 20000 in
theorem e_L_502 : decode code 502 = .ok (.aload_n 0, 1) := by decide +kernel
theorem d_L_502 {nm : String} : zD (m_L nm) 502 (.aload_n 0) 1 503 := ⟨e_L_502, rfl⟩
set_option maxRecDepth 20000 in
theorem e_L_503 : decode code 503 = .ok (.iload_n 3, 1) := by decide +kernel
theorem d_L_503 {nm : String} : zD (m_L nm) 503 (.iload_n 3) 1 504 := ⟨e_L_503, rfl⟩
set_option maxRecDepth 20000 in
theorem e_L_504 : decode code 504 = .ok (.iconst 2, 1) := by decide +kernel
theorem d_L_504 {nm : String} : zD (m_L nm) 504 (.iconst 2) 1 505 := ⟨e_L_504, rfl⟩
set_option maxRecDepth 20000 in
theorem e_L_505 : decode code 505 = .ok (.iadd, 1) := by decide +kernel
theorem d_L_505 {nm : String} : zD (m_L nm) 505 (.iadd) 1 506 := ⟨e_L_505, rfl⟩
set_option maxRecDepth 20000 in
theorem e_L_506 : decode code 506 = .ok (.iaload, 1) := by decide +kernel
theorem d_L_506 {nm : String} : zD (m_L nm) 506 (.iaload) 1 507 := ⟨e_L_506, rfl⟩
set_option maxRecDepth 20000 in
theorem e_L_507 : decode code 507 = .ok (.aload_n 0, 1) := by decide +kernel
theorem d_L_507 {nm : String} : zD (m_L nm) 507 (.aload_n 0) 1 508 := ⟨e_L_507, rfl⟩
set_option maxRecDepth 20000 in
theorem e_L_508 : decode code 508 = .ok (.iload_n 3, 1) := by decide +kernel
theorem d_L_508 {nm : String} : zD (m_L nm) 508 (.iload_n 3) 1 509 := ⟨e_L_508, rfl⟩
set_option maxRecDepth 20000 in
theorem e_L_509 : decode code 509 = .ok (.iconst 3, 1) := by decide +kernel
theorem d_L_509 {nm : String} : zD (m_L nm) 509 (.iconst 3) 1 510 := ⟨e_L_509, rfl⟩
set_option maxRecDepth 20000 in
theorem e_L_510 : decode code 510 = .ok (.iadd, 1) := by decide +kernel
theorem d_L_510 {nm : String} : zD (m_L nm) 510 (.iadd) 1 511 := ⟨e_L_510, rfl⟩
set_option maxRecDepth 20000 in
theorem e_L_511 : decode code 511 = .ok (.iaload, 1) := by decide +kernel
theorem d_L_511 {nm : String} : zD (m_L nm) 511 (.iaload) 1 512 := ⟨e_L_511, rfl⟩
set_option maxRecDepth 20000 in
theorem e_L_512 : decode code 512 = .ok (.aload_n 0, 1) := by decide +kernel
theorem d_L_512 {nm : String} : zD (m_L nm) 512 (.aload_n 0) 1 513 := ⟨e_L_512, rfl⟩
set_option maxRecDepth 20000 in
theorem e_L_513 : decode code 513 = .ok (.iload_n 3, 1) := by decide +kernel
theorem d_L_513 {nm : String} : zD (m_L nm) 513 (.iload_n 3) 1 514 := ⟨e_L_513, rfl⟩
set_option maxRecDepth 20000 in
theorem e_L_514 : decode code 514 = .ok (.iconst 4, 1) := by decide +kernel
theorem d_L_514 {nm : String} : zD (m_L nm) 514 (.iconst 4) 1 515 := ⟨e_L_514, rfl⟩
set_option maxRecDepth 20000 in
theorem e_L_515 : decode code 515 = .ok (.iadd, 1) := by decide +kernel
theorem d_L_515 {nm : String} : zD (m_L nm) 515 (.iadd) 1 516 := ⟨e_L_515, rfl⟩
set_option maxRecDepth 20000 in
theorem e_L_516 : decode code 516 = .ok (.iaload, 1) := by decide +kernel
theorem d_L_516 {nm : String} : zD (m_L nm) 516 (.iaload) 1 517 := ⟨e_L_516, rfl⟩
set_option maxRecDepth 20000 in
theorem e_L_517 : decode code 517 = .ok (.invokevirtual 72, 3) := by decide +kernel
theorem d_L_517 {nm : String} : zD (m_L nm) 517 (.invokevirtual 72) 3 520 := ⟨e_L_517, rfl⟩
set_option maxRecDepth 20000 in
theorem e_L_520 : decode code 520 = .ok (.aload_n 2, 1) := by decide +kernel
theorem d_L_520 {nm : String} : zD (m_L nm) 520 (.aload_n 2) 1 521 := ⟨e_L_520, rfl⟩
set_option maxRecDepth 20000 in
theorem e_L_521 : decode code 521 = .ok (.aload_n 0, 1) := by decide +kernel
theorem d_L_521 {nm : String} : zD (m_L nm) 521 (.aload_n 0) 1 522 := ⟨e_L_521, rfl⟩
set_option maxRecDepth 20000 in
theorem e_L_522 : decode code 522 = .ok (.iload_n 3, 1) := by decide +kernel
theorem d_L_522 {nm : String} : zD (m_L nm) 522 (.iload_n 3) 1 523 := ⟨e_L_522, rfl⟩
set_option maxRecDepth 20000 in
theorem e_L_523 : decode code 523 = .ok (.iconst 1, 1) := by decide +kernel
theorem d_L_523 {nm : String} : zD (m_L nm) 523 (.iconst 1) 1 524 := ⟨e_L_523, rfl⟩
set_option maxRecDepth 20000 in
theorem e_L_524 : decode code 524 = .ok (.iadd, 1) := by decide +kernel
theorem d_L_524 {nm : String} : zD (m_L nm) 524 (.iadd) 1 525 := ⟨e_L_524, rfl⟩
set_option maxRecDepth 20000 in
theorem e_L_525 : decode code 525 = .ok (.iaload, 1) := by decide +kernel
theorem d_L_525 {nm : String} : zD (m_L nm) 525 (.iaload) 1 526 := ⟨e_L_525, rfl⟩
set_option maxRecDepth 20000 in
theorem e_L_526 : decode code 526 = .ok (.aload_n 0, 1) := by decide +kernel
theorem d_L_526 {nm : String} : zD (m_L nm) 526 (.aload_n 0) 1 527 := ⟨e_L_526, rfl⟩
set_option maxRecDepth 20000 in
theorem e_L_527 : decode code 527 = .ok (.iload_n 3, 1) := by decide +kernel
theorem d_L_527 {nm : String} : zD (m_L nm) 527 (.iload_n 3) 1 528 := ⟨e_L_527, rfl⟩
set_option maxRecDepth 20000 in
theorem e_L_528 : decode code 528 = .ok (.iconst 2, 1) := by decide +kernel
theorem d_L_528 {nm : String} : zD (m_L nm) 528 (.iconst 2) 1 529 := ⟨e_L_528, rfl⟩
set_option maxRecDepth 20000 in
theorem e_L_529 : decode code 529 = .ok (.iadd, 1) := by decide +kernel
theorem d_L_529 {nm : String} : zD (m_L nm) 529 (.iadd) 1 530 := ⟨e_L_529, rfl⟩
set_option maxRecDepth 20000 in
theorem e_L_530 : decode code 530 = .ok (.iaload, 1) := by decide +kernel
theorem d_L_530 {nm : String} : zD (m_L nm) 530 (.iaload) 1 531 := ⟨e_L_530, rfl⟩
set_option maxRecDepth 20000 in
theorem e_L_531 : decode code 531 = .ok (.aload_n 0, 1) := by decide +kernel
theorem d_L_531 {nm : String} : zD (m_L nm) 531 (.aload_n 0) 1 532 := ⟨e_L_531, rfl⟩
set_option maxRecDepth 20000 in
theorem e_L_532 : decode code 532 = .ok (.iload_n 3, 1) := by decide +kernel
theorem d_L_532 {nm : String} : zD (m_L nm) 532 (.iload_n 3) 1 533 := ⟨e_L_532, rfl⟩
set_option maxRecDepth 20000 in
theorem e_L_533 : decode code 533 = .ok (.iconst 3, 1) := by decide +kernel
theorem d_L_533 {nm : String} : zD (m_L nm) 533 (.iconst 3) 1 534 := ⟨e_L_533, rfl⟩
set_option maxRecDepth 20000 in
theorem e_L_534 : decode code 534 = .ok (.iadd, 1) := by decide +kernel
theorem d_L_534 {nm : String} : zD (m_L nm) 534 (.iadd) 1 535 := ⟨e_L_534, rfl⟩
set_option maxRecDepth 20000 in
theorem e_L_535 : decode code 535 = .ok (.iaload, 1) := by decide +kernel
theorem d_L_535 {nm : String} : zD (m_L nm) 535 (.iaload) 1 536 := ⟨e_L_535, rfl⟩
set_option maxRecDepth 20000 in
theorem e_L_536 : decode code 536 = .ok (.aload_n 0, 1) := by decide +kernel
theorem d_L_536 {nm : String} : zD (m_L nm) 536 (.aload_n 0) 1 537 := ⟨e_L_536, rfl⟩
set_option maxRecDepth 20000 in
theorem e_L_537 : decode code 537 = .ok (.iload_n 3, 1) := by decide +kernel
theorem d_L_537 {nm : String} : zD (m_L nm) 537 (.iload_n 3) 1 538 := ⟨e_L_537, rfl⟩
set_option maxRecDepth 20000 in
theorem e_L_538 : decode code 538 = .ok (.iconst 4, 1) := by decide +kernel
theorem d_L_538 {nm : String} : zD (m_L nm) 538 (.iconst 4) 1 539 := ⟨e_L_538, rfl⟩
set_option maxRecDepth 20000 in
theorem e_L_539 : decode code 539 = .ok (.iadd, 1) := by decide +kernel
theorem d_L_539 {nm : String} : zD (m_L nm) 539 (.iadd) 1 540 := ⟨e_L_539, rfl⟩
set_option maxRecDepth 20000 in
theorem e_L_540 : decode code 540 = .ok (.iaload, 1) := by decide +kernel
theorem d_L_540 {nm : String} : zD (m_L nm) 540 (.iaload) 1 541 := ⟨e_L_540, rfl⟩
set_option maxRecDepth 20000 in
theorem e_L_541 : decode code 541 = .ok (.invokevirtual 76, 3) := by decide +kernel
theorem d_L_541 {nm : String} : zD (m_L nm) 541 (.invokevirtual 76) 3 544 := ⟨e_L_541, rfl⟩
set_option maxRecDepth 20000 in
theorem e_L_544 : decode code 544 = .ok (.if_icmp .eq (636), 3) := by decide +kernel
theorem d_L_544 {nm : String} : zDj (m_L nm) 544 (.if_icmp .eq) 547 1180 := ⟨636, e_L_544, rfl, by decide⟩
set_option maxRecDepth 20000 in
theorem e_L_547 : decode code 547 = .ok (.iconst 0, 1) := by decide +kernel
theorem d_L_547 {nm : String} : zD (m_L nm) 547 (.iconst 0) 1 548 := ⟨e_L_547, rfl⟩
set_option maxRecDepth 20000 in
theorem d_L_548 : decode code 548 = .ok (.ireturn, 1) := by decide +kernel
set_option maxRecDepth 20000 in
theorem e_L_549 : decode code 549 = .ok (.aload_n 1, 1) := by decide +kernel
theorem d_L_549 {nm : String} : zD (m_L nm) 549 (.aload_n 1) 1 550 := ⟨e_L_549, rfl⟩
set_option maxRecDepth 20000 in
theorem e_L_550 : decode code 550 = .ok (.aload_n 0, 1) := by decide +kernel
theorem d_L_550 {nm : String} : zD (m_L nm) 550 (.aload_n 0) 1 551 := ⟨e_L_550, rfl⟩
set_option maxRecDepth 20000 in
theorem e_L_551 : decode code 551 = .ok (.iload_n 3, 1) := by decide +kernel
theorem d_L_551 {nm : String} : zD (m_L nm) 551 (.iload_n 3) 1 552 := ⟨e_L_551, rfl⟩
set_option maxRecDepth 20000 in
theorem e_L_552 : decode code 552 = .ok (.iconst 1, 1) := by decide +kernel
theorem d_L_552 {nm : String} : zD (m_L nm) 552 (.iconst 1) 1 553 := ⟨e_L_552, rfl⟩
set_option maxRecDepth 20000 in
theorem e_L_553 : decode code 553 = .ok (.iadd, 1) := by decide +kernel
theorem d_L_553 {nm : String} : zD (m_L nm) 553 (.iadd) 1 554 := ⟨e_L_553, rfl⟩
set_option maxRecDepth 20000 in
theorem e_L_554 : decode code 554 = .ok (.iaload, 1) := by decide +kernel
theorem d_L_554 {nm : String} : zD (m_L nm) 554 (.iaload) 1 555 := ⟨e_L_554, rfl⟩
set_option maxRecDepth 20000 in
theorem e_L_555 : decode code 555 = .ok (.aload_n 0, 1) := by decide +kernel
theorem d_L_555 {nm : String} : zD (m_L nm) 555 (.aload_n 0) 1 556 := ⟨e_L_555, rfl⟩
set_option maxRecDepth 20000 in
theorem e_L_556 : decode code 556 = .ok (.iload_n 3, 1) := by decide +kernel
theorem d_L_556 {nm : String} : zD (m_L nm) 556 (.iload_n 3) 1 557 := ⟨e_L_556, rfl⟩
set_option maxRecDepth 20000 in
theorem e_L_557 : decode code 557 = .ok (.iconst 2, 1) := by decide +kernel
theorem d_L_557 {nm : String} : zD (m_L nm) 557 (.iconst 2) 1 558 := ⟨e_L_557, rfl⟩
set_option maxRecDepth 20000 in
theorem e_L_558 : decode code 558 = .ok (.iadd, 1) := by decide +kernel
theorem d_L_558 {nm : String} : zD (m_L nm) 558 (.iadd) 1 559 := ⟨e_L_558, rfl⟩
set_option maxRecDepth 20000 in
theorem e_L_559 : decode code 559 = .ok (.iaload, 1) := by decide +kernel
theorem d_L_559 {nm : String} : zD (m_L nm) 559 (.iaload) 1 560 := ⟨e_L_559, rfl⟩
set_option maxRecDepth 20000 in
theorem e_L_560 : decode code 560 = .ok (.aload_n 0, 1) := by decide +kernel
theorem d_L_560 {nm : String} : zD (m_L nm) 560 (.aload_n 0) 1 561 := ⟨e_L_560, rfl⟩
set_option maxRecDepth 20000 in
theorem e_L_561 : decode code 561 = .ok (.iload_n 3, 1) := by decide +kernel
theorem d_L_561 {nm : String} : zD (m_L nm) 561 (.iload_n 3) 1 562 := ⟨e_L_561, rfl⟩
set_option maxRecDepth 20000 in
theorem e_L_562 : decode code 562 = .ok (.iconst 3, 1) := by decide +kernel
theorem d_L_562 {nm : String} : zD (m_L nm) 562 (.iconst 3) 1 563 := ⟨e_L_562, rfl⟩
set_option maxRecDepth 20000 in
theorem e_L_563 : decode code 563 = .ok (.iadd, 1) := by decide +kernel
theorem d_L_563 {nm : String} : zD (m_L nm) 563 (.iadd) 1 564 := ⟨e_L_563, rfl⟩
set_option maxRecDepth 20000 in
theorem e_L_564 : decode code 564 = .ok (.iaload, 1) := by decide +kernel
theorem d_L_564 {nm : String} : zD (m_L nm) 564 (.iaload) 1 565 := ⟨e_L_564, rfl⟩
set_option maxRecDepth 20000 in
theorem e_L_565 : decode code 565 = .ok (.invokevirtual 77, 3) := by decide +kernel
theorem d_L_565 {nm : String} : zD (m_L nm) 565 (.invokevirtual 77) 3 568 := ⟨e_L_565, rfl⟩
set_option maxRecDepth 20000 in
theorem e_L_568 : decode code 568 = .ok (.aload_n 2, 1) := by decide +kernel
theorem d_L_568 {nm : String} : zD (m_L nm) 568 (.aload_n 2) 1 569 := ⟨e_L_568, rfl⟩
set_option maxRecDepth 20000 in
theorem e_L_569 : decode code 569 = .ok (.aload_n 0, 1) := by decide +kernel
theorem d_L_569 {nm : String} : zD (m_L nm) 569 (.aload_n 0) 1 570 := ⟨e_L_569, rfl⟩
set_option maxRecDepth 20000 in
theorem e_L_570 : decode code 570 = .ok (.iload_n 3, 1) := by decide +kernel
theorem d_L_570 {nm : String} : zD (m_L nm) 570 (.iload_n 3) 1 571 := ⟨e_L_570, rfl⟩
set_option maxRecDepth 20000 in
theorem e_L_571 : decode code 571 = .ok (.iconst 1, 1) := by decide +kernel
theorem d_L_571 {nm : String} : zD (m_L nm) 571 (.iconst 1) 1 572 := ⟨e_L_571, rfl⟩
set_option maxRecDepth 20000 in
theorem e_L_572 : decode code 572 = .ok (.iadd, 1) := by decide +kernel
theorem d_L_572 {nm : String} : zD (m_L nm) 572 (.iadd) 1 573 := ⟨e_L_572, rfl⟩
set_option maxRecDepth 20000 in
theorem e_L_573 : decode code 573 = .ok (.iaload, 1) := by decide +kernel
theorem d_L_573 {nm : String} : zD (m_L nm) 573 (.iaload) 1 574 := ⟨e_L_573, rfl⟩
set_option maxRecDepth 20000 in
theorem e_L_574 : decode code 574 = .ok (.aload_n 0, 1) := by decide +kernel
theorem d_L_574 {nm : String} : zD (m_L nm) 574 (.aload_n 0) 1 575 := ⟨e_L_574, rfl⟩
set_option maxRecDepth 20000 in
theorem e_L_575 : decode code 575 = .ok (.iload_n 3, 1) := by decide +kernel
theorem d_L_575 {nm : String} : zD (m_L nm) 575 (.iload_n 3) 1 576 := ⟨e_L_575, rfl⟩
set_option maxRecDepth 20000 in
theorem e_L_576 : decode code 576 = .ok (.iconst 2, 1) := by decide +kernel
theorem d_L_576 {nm : String} : zD (m_L nm) 576 (.iconst 2) 1 577 := ⟨e_L_576, rfl⟩
set_option maxRecDepth 20000 in
theorem e_L_577 : decode code 577 = .ok (.iadd, 1) := by decide +kernel
theorem d_L_577 {nm : String} : zD (m_L nm) 577 (.iadd) 1 578 := ⟨e_L_577, rfl⟩
set_option maxRecDepth 20000 in
theorem e_L_578 : decode code 578 = .ok (.iaload, 1) := by decide +kernel
theorem d_L_578 {nm : String} : zD (m_L nm) 578 (.iaload) 1 579 := ⟨e_L_578, rfl⟩
set_option maxRecDepth 20000 in
theorem e_L_579 : decode code 579 = .ok (.aload_n 0, 1) := by decide +kernel
theorem d_L_579 {nm : String} : zD (m_L nm) 579 (.aload_n 0) 1 580 := ⟨e_L_579, rfl⟩
set_option maxRecDepth 20000 in
theorem e_L_580 : decode code 580 = .ok (.iload_n 3, 1) := by decide +kernel
theorem d_L_580 {nm : String} : zD (m_L nm) 580 (.iload_n 3) 1 581 := ⟨e_L_580, rfl⟩
set_option maxRecDepth 20000 in
theorem e_L_581 : decode code 581 = .ok (.iconst 3, 1) := by decide +kernel
theorem d_L_581 {nm : String} : zD (m_L nm) 581 (.iconst 3) 1 582 := ⟨e_L_581, rfl⟩
set_option maxRecDepth 20000 in
theorem e_L_582 : decode code 582 = .ok (.iadd, 1) := by decide +kernel
theorem d_L_582 {nm : String} : zD (m_L nm) 582 (.iadd) 1 583 := ⟨e_L_582, rfl⟩
set_option maxRecDepth 20000 in
theorem e_L_583 : decode code 583 = .ok (.iaload, 1) := by decide +kernel
theorem d_L_583 {nm : String} : zD (m_L nm) 583 (.iaload) 1 584 := ⟨e_L_583, rfl⟩
set_option maxRecDepth 20000 in
theorem e_L_584 : decode code 584 = .ok (.invokevirtual 81, 3) := by decide +kernel
theorem d_L_584 {nm : String} : zD (m_L nm) 584 (.invokevirtual 81) 3 587 := ⟨e_L_584, rfl⟩
set_option maxRecDepth 20000 in
theorem e_L_587 : decode code 587 = .ok (.if_icmp .eq (593), 3) := by decide +kernel
theorem d_L_587 {nm : String} : zDj (m_L nm) 587 (.if_icmp .eq) 590 1180 := ⟨593, e_L_587, rfl, by decide⟩
set_option maxRecDepth 20000 in
theorem e_L_590 : decode code 590 = .ok (.iconst 0, 1) := by decide +kernel
theorem d_L_590 {nm : String} : zD (m_L nm) 590 (.iconst 0) 1 591 := ⟨e_L_590, rfl⟩
set_option maxRecDepth 20000 in
theorem d_L_591 : decode code 591 = .ok (.ireturn, 1) := by decide +kernel
set_option maxRecDepth 20000 in
theorem e_L_592 : decode code 592 = .ok (.aload_n 1, 1) := by decide +kernel
theorem d_L_592 {nm : String} : zD (m_L nm) 592 (.aload_n 1) 1 593 := ⟨e_L_592, rfl⟩
set_option maxRecDepth 20000 in
theorem e_L_593 : decode code 593 = .ok (.aload_n 0, 1) := by decide +kernel
theorem d_L_593 {nm : String} : zD (m_L nm) 593 (.aload_n 0) 1 594 := ⟨e_L_593, rfl⟩
set_option maxRecDepth 20000 in
theorem e_L_594 : decode code 594 = .ok (.iload_n 3, 1) := by decide +kernel
theorem d_L_594 {nm : String} : zD (m_L nm) 594 (.iload_n 3) 1 595 := ⟨e_L_594, rfl⟩
set_option maxRecDepth 20000 in
theorem e_L_595 : decode code 595 = .ok (.iconst 1, 1) := by decide +kernel
theorem d_L_595 {nm : String} : zD (m_L nm) 595 (.iconst 1) 1 596 := ⟨e_L_595, rfl⟩
set_option maxRecDepth 20000 in
theorem e_L_596 : decode code 596 = .ok (.iadd, 1) := by decide +kernel
theorem d_L_596 {nm : String} : zD (m_L nm) 596 (.iadd) 1 597 := ⟨e_L_596, rfl⟩
set_option maxRecDepth 20000 in
theorem e_L_597 : decode code 597 = .ok (.iaload, 1) := by decide +kernel
theorem d_L_597 {nm : String} : zD (m_L nm) 597 (.iaload) 1 598 := ⟨e_L_597, rfl⟩
set_option maxRecDepth 20000 in
theorem e_L_598 : decode code 598 = .ok (.invokevirtual 82, 3) := by decide +kernel
theorem d_L_598 {nm : String} : zD (m_L nm) 598 (.invokevirtual 82) 3 601 := ⟨e_L_598, rfl⟩
set_option maxRecDepth 20000 in
theorem e_L_601 : decode code 601 = .ok (.aload_n 2, 1) := by decide +kernel
theorem d_L_601 {nm : String} : zD (m_L nm) 601 (.aload_n 2) 1 602 := ⟨e_L_601, rfl⟩
set_option maxRecDepth 20000 in
theorem e_L_602 : decode code 602 = .ok (.aload_n 0, 1) := by decide +kernel
theorem d_L_602 {nm : String} : zD (m_L nm) 602 (.aload_n 0) 1 603 := ⟨e_L_602, rfl⟩
set_option maxRecDepth 20000 in
theorem e_L_603 : decode code 603 = .ok (.iload_n 3, 1) := by decide +kernel
theorem d_L_603 {nm : String} : zD (m_L nm) 603 (.iload_n 3) 1 604 := ⟨e_L_603, rfl⟩
set_option maxRecDepth 20000 in
theorem e_L_604 : decode code 604 = .ok (.iconst 1, 1) := by decide +kernel
theorem d_L_604 {nm : String} : zD (m_L nm) 604 (.iconst 1) 1 605 := ⟨e_L_604, rfl⟩
set_option maxRecDepth 20000 in
theorem e_L_605 : decode code 605 = .ok (.iadd, 1) := by decide +kernel
theorem d_L_605 {nm : String} : zD (m_L nm) 605 (.iadd) 1 606 := ⟨e_L_605, rfl⟩
set_option maxRecDepth 20000 in
theorem e_L_606 : decode code 606 = .ok (.iaload, 1) := by decide +kernel
theorem d_L_606 {nm : String} : zD (m_L nm) 606 (.iaload) 1 607 := ⟨e_L_606, rfl⟩
set_option maxRecDepth 20000 in
theorem e_L_607 : decode code 607 = .ok (.invokevirtual 85, 3) := by decide +kernel
theorem d_L_607 {nm : String} : zD (m_L nm) 607 (.invokevirtual 85) 3 610 := ⟨e_L_607, rfl⟩
set_option maxRecDepth 20000 in
theorem e_L_610 : decode code 610 = .ok (.if_icmp .eq (570), 3) := by decide +kernel
theorem d_L_610 {nm : String} : zDj (m_L nm) 610 (.if_icmp .eq) 613 1180 := ⟨570, e_L_610, rfl, by decide⟩
set_option maxRecDepth 20000 in
theorem e_L_613 : decode code 613 = .ok (.iconst 0, 1) := by decide +kernel
theorem d_L_613 {nm : String} : zD (m_L nm) 613 (.iconst 0) 1 614 := ⟨e_L_613, rfl⟩
set_option maxRecDepth 20000 in
theorem d_L_614 : decode code 614 = .ok (.ireturn, 1) := by decide +kernel
set_option maxRecDepth 20000 in
theorem e_L_615 : decode code 615 = .ok (.aload_n 1, 1) := by decide +kernel
theorem d_L_615 {nm : String} : zD (m_L nm) 615 (.aload_n 1) 1 616 := ⟨e_L_615, rfl⟩
set_option maxRecDepth 20000 in
theorem e_L_616 : decode code 616 = .ok (.aload_n 0, 1) := by decide +kernel
theorem d_L_616 {nm : String} : zD (m_L nm) 616 (.aload_n 0) 1 617 := ⟨e_L_616, rfl⟩
set_option maxRecDepth 20000 in
theorem e_L_617 : decode code 617 = .ok (.iload_n 3, 1) := by decide +kernel
theorem d_L_617 {nm : String} : zD (m_L nm) 617 (.iload_n 3) 1 618 := ⟨e_L_617, rfl⟩
set_option maxRecDepth 20000 in
theorem e_L_618 : decode code 618 = .ok (.iconst 1, 1) := by decide +kernel
theorem d_L_618 {nm : String} : zD (m_L nm) 618 (.iconst 1) 1 619 := ⟨e_L_618, rfl⟩
set_option maxRecDepth 20000 in
theorem e_L_619 : decode code 619 = .ok (.iadd, 1) := by decide +kernel
theorem d_L_619 {nm : String} : zD (m_L nm) 619 (.iadd) 1 620 := ⟨e_L_619, rfl⟩
set_option maxRecDepth 20000 in
theorem e_L_620 : decode code 620 = .ok (.iaload, 1) := by decide +kernel
theorem d_L_620 {nm : String} : zD (m_L nm) 620 (.iaload) 1 621 := ⟨e_L_620, rfl⟩
set_option maxRecDepth 20000 in
theorem e_L_621 : decode code 621 = .ok (.invokevirtual 86, 3) := by decide +kernel
theorem d_L_621 {nm : String} : zD (m_L nm) 621 (.invokevirtual 86) 3 624 := ⟨e_L_621, rfl⟩
set_option maxRecDepth 20000 in
theorem e_L_624 : decode code 624 = .ok (.aload_n 2, 1) := by decide +kernel
theorem d_L_624 {nm : String} : zD (m_L nm) 624 (.aload_n 2) 1 625 := ⟨e_L_624, rfl⟩
set_option maxRecDepth 20000 in
theorem e_L_625 : decode code 625 = .ok (.aload_n 0, 1) := by decide +kernel
theorem d_L_625 {nm : String} : zD (m_L nm) 625 (.aload_n 0) 1 626 := ⟨e_L_625, rfl⟩
set_option maxRecDepth 20000 in
theorem e_L_626 : decode code 626 = .ok (.iload_n 3, 1) := by decide +kernel
theorem d_L_626 {nm : String} : zD (m_L nm) 626 (.iload_n 3) 1 627 := ⟨e_L_626, rfl⟩
set_option maxRecDepth 20000 in
theorem e_L_627 : decode code 627 = .ok (.iconst 1, 1) := by decide +kernel
theorem d_L_627 {nm : String} : zD (m_L nm) 627 (.iconst 1) 1 628 := ⟨e_L_627, rfl⟩
set_option maxRecDepth 20000 in
theorem e_L_628 : decode code 628 = .ok (.iadd, 1) := by decide +kernel
theorem d_L_628 {nm : String} : zD (m_L nm) 628 (.iadd) 1 629 := ⟨e_L_628, rfl⟩
set_option maxRecDepth 20000 in
theorem e_L_629 : decode code 629 = .ok (.iaload, 1) := by decide +kernel
theorem d_L_629 {nm : String} : zD (m_L nm) 629 (.iaload) 1 630 := ⟨e_L_629, rfl⟩
set_option maxRecDepth 20000 in
theorem e_L_630 : decode code 630 = .ok (.invokevirtual 89, 3) := by decide +kernel
theorem d_L_630 {nm : String} : zD (m_L nm) 630 (.invokevirtual 89) 3 633 := ⟨e_L_630, rfl⟩
set_option maxRecDepth 20000 in
theorem e_L_633 : decode code 633 = .ok (.if_icmp .eq (547), 3) := by decide +kernel
theorem d_L_633 {nm : String} : zDj (m_L nm) 633 (.if_icmp .eq) 636 1180 := ⟨547, e_L_633, rfl, by decide⟩
set_option maxRecDepth 20000 in
theorem e_L_636 : decode code 636 = .ok (.iconst 0, 1) := by decide +kernel
theorem d_L_636 {nm : String} : zD (m_L nm) 636 (.iconst 0) 1 637 := ⟨e_L_636, rfl⟩
set_option maxRecDepth 20000 in
theorem d_L_637 : decode code 637 = .ok (.ireturn, 1) := by decide +kernel
set_option maxRecDepth 20000 in
theorem e_L_638 : decode code 638 = .ok (.aload_n 1, 1) := by decide +kernel
theorem d_L_638 {nm : String} : zD (m_L nm) 638 (.aload_n 1) 1 639 := ⟨e_L_638, rfl⟩
set_option maxRecDepth 20000 in
theorem e_L_639 : decode code 639 = .ok (.aload_n 0, 1) := by decide +kernel
theorem d_L_639 {nm : String} : zD (m_L nm) 639 (.aload_n 0) 1 640 := ⟨e_L_639, rfl⟩
set_option maxRecDepth 20000 in
theorem e_L_640 : decode code 640 = .ok (.iload_n 3, 1) := by decide +kernel
theorem d_L_640 {nm : String} : zD (m_L nm) 640 (.iload_n 3) 1 641 := ⟨e_L_640, rfl⟩
set_option maxRecDepth 20000 in
theorem e_L_641 : decode code 641 = .ok (.iconst 1, 1) := by decide +kernel
theorem d_L_641 {nm : String} : zD (m_L nm) 641 (.iconst 1) 1 642 := ⟨e_L_641, rfl⟩
set_option maxRecDepth 20000 in
theorem e_L_642 : decode code 642 = .ok (.iadd, 1) := by decide +kernel
theorem d_L_642 {nm : String} : zD (m_L nm) 642 (.iadd) 1 643 := ⟨e_L_642, rfl⟩
set_option maxRecDepth 20000 in
theorem e_L_643 : decode code 643 = .ok (.iaload, 1) := by decide +kernel
theorem d_L_643 {nm : String} : zD (m_L nm) 643 (.iaload) 1 644 := ⟨e_L_643, rfl⟩
set_option maxRecDepth 20000 in
theorem e_L_644 : decode code 644 = .ok (.invokevirtual 90, 3) := by decide +kernel
theorem d_L_644 {nm : String} : zD (m_L nm) 644 (.invokevirtual 90) 3 647 := ⟨e_L_644, rfl⟩
set_option maxRecDepth 20000 in
theorem e_L_647 : decode code 647 = .ok (.aload_n 2, 1) := by decide +kernel
theorem d_L_647 {nm : String} : zD (m_L nm) 647 (.aload_n 2) 1 648 := ⟨e_L_647, rfl⟩
set_option maxRecDepth 20000 in
theorem e_L_648 : decode code 648 = .ok (.aload_n 0, 1) := by decide +kernel
theorem d_L_648 {nm : String} : zD (m_L nm) 648 (.aload_n 0) 1 649 := ⟨e_L_648, rfl⟩
set_option maxRecDepth 20000 in
theorem e_L_649 : decode code 649 = .ok (.iload_n 3, 1) := by decide +kernel
theorem d_L_649 {nm : String} : zD (m_L nm) 649 (.iload_n 3) 1 650 := ⟨e_L_649, rfl⟩
set_option maxRecDepth 20000 in
theorem e_L_650 : decode code 650 = .ok (.iconst 1, 1) := by decide +kernel
theorem d_L_650 {nm : String} : zD (m_L nm) 650 (.iconst 1) 1 651 := ⟨e_L_650, rfl⟩
set_option maxRecDepth 20000 in
theorem e_L_651 : decode code 651 = .ok (.iadd, 1) := by decide +kernel
theorem d_L_651 {nm : String} : zD (m_L nm) 651 (.iadd) 1 652 := ⟨e_L_651, rfl⟩
set_option maxRecDepth 20000 in
theorem e_L_652 : decode code 652 = .ok (.iaload, 1) := by decide +kernel
theorem d_L_652 {nm : String} : zD (m_L nm) 652 (.iaload) 1 653 := ⟨e_L_652, rfl⟩
set_option maxRecDepth 20000 in
theorem e_L_653 : decode code 653 = .ok (.invokevirtual 93, 3) := by decide +kernel
theorem d_L_653 {nm : String} : zD (m_L nm) 653 (.invokevirtual 93) 3 656 := ⟨e_L_653, rfl⟩
set_option maxRecDepth 20000 in
theorem e_L_656 : decode code 656 = .ok (.if_icmp .eq (524), 3) := by decide +kernel
theorem d_L_656 {nm : String} : zDj (m_L nm) 656 (.if_icmp .eq) 659 1180 := ⟨524, e_L_656, rfl, by decide⟩
set_option maxRecDepth 20000 in
theorem e_L_659 : decode code 659 = .ok (.iconst 0, 1) := by decide +kernel
theorem d_L_659 {nm : String} : zD (m_L nm) 659 (.iconst 0) 1 660 := ⟨e_L_659, rfl⟩
set_option maxRecDepth 20000 in
theorem d_L_660 : decode code 660 = .ok (.ireturn, 1) := by decide +kernel
set_option maxRecDepth 20000 in
theorem e_L_661 : decode code 661 = .ok (.aload_n 1, 1) := by decide +kernel
theorem d_L_661 {nm : String} : zD (m_L nm) 661 (.aload_n 1) 1 662 := ⟨e_L_661, rfl⟩
set_option maxRecDepth 20000 in
theorem e_L_662 : decode code 662 = .ok (.aload_n 0, 1) := by decide +kernel
theorem d_L_662 {nm : String} : zD (m_L nm) 662 (.aload_n 0) 1 663 := ⟨e_L_662, rfl⟩
set_option maxRecDepth 20000 in
theorem e_L_663 : decode code 663 = .ok (.iload_n 3, 1) := by decide +kernel
theorem d_L_663 {nm : String} : zD (m_L nm) 663 (.iload_n 3) 1 664 := ⟨e_L_663, rfl⟩
set_option maxRecDepth 20000 in
theorem e_L_664 : decode code 664 = .ok (.iconst 1, 1) := by decide +kernel
theorem d_L_664 {nm : String} : zD (m_L nm) 664 (.iconst 1) 1 665 := ⟨e_L_664, rfl⟩
set_option maxRecDepth 20000 in
theorem e_L_665 : decode code 665 = .ok (.iadd, 1) := by decide +kernel
theorem d_L_665 {nm : String} : zD (m_L nm) 665 (.iadd) 1 666 := ⟨e_L_665, rfl⟩
set_option maxRecDepth 20000 in
theorem e_L_666 : decode code 666 = .ok (.iaload, 1) := by decide +kernel
theorem d_L_666 {nm : String} : zD (m_L nm) 666 (.iaload) 1 667 := ⟨e_L_666, rfl⟩
set_option maxRecDepth 20000 in
theorem e_L_667 : decode code 667 = .ok (.invokevirtual 94, 3) := by decide +kernel
theorem d_L_667 {nm : String} : zD (m_L nm) 667 (.invokevirtual 94) 3 670 := ⟨e_L_667, rfl⟩
set_option maxRecDepth 20000 in
theorem e_L_670 : decode code 670 = .ok (.aload_n 2, 1) := by decide +kernel
theorem d_L_670 {nm : String} : zD (m_L nm) 670 (.aload_n 2) 1 671 := ⟨e_L_670, rfl⟩
set_option maxRecDepth 20000 in
theorem e_L_671 : decode code 671 = .ok (.aload_n 0, 1) := by decide +kernel
theorem d_L_671 {nm : String} : zD (m_L nm) 671 (.aload_n 0) 1 672 := ⟨e_L_671, rfl⟩
set_option maxRecDepth 20000 in
theorem e_L_672 : decode code 672 = .ok (.iload_n 3, 1) := by decide +kernel
theorem d_L_672 {nm : String} : zD (m_L nm) 672 (.iload_n 3) 1 673 := ⟨e_L_672, rfl⟩
set_option maxRecDepth 20000 in
theorem e_L_673 : decode code 673 = .ok (.iconst 1, 1) := by decide +kernel
theorem d_L_673 {nm : String} : zD (m_L nm) 673 (.iconst 1) 1 674 := ⟨e_L_673, rfl⟩
set_option maxRecDepth 20000 in
theorem e_L_674 : decode code 674 = .ok (.iadd, 1) := by decide +kernel
theorem d_L_674 {nm : String} : zD (m_L nm) 674 (.iadd) 1 675 := ⟨e_L_674, rfl⟩
set_option maxRecDepth 20000 in
theorem e_L_675 : decode code 675 = .ok (.iaload, 1) := by decide +kernel
theorem d_L_675 {nm : String} : zD (m_L nm) 675 (.iaload) 1 676 := ⟨e_L_675, rfl⟩
set_option maxRecDepth 20000 in
theorem e_L_676 : decode code 676 = .ok (.invokevirtual 97, 3) := by decide +kernel
theorem d_L_676 {nm : String} : zD (m_L nm) 676 (.invokevirtual 97) 3 679 := ⟨e_L_676, rfl⟩
set_option maxRecDepth 20000 in
theorem e_L_679 : decode code 679 = .ok (.if_icmp .eq (501), 3) := by decide +kernel
theorem d_L_679 {nm : String} : zDj (m_L nm) 679 (.if_icmp .eq) 682 1180 := ⟨501, e_L_679, rfl, by decide⟩
set_option maxRecDepth 20000 in
theorem e_L_682 : decode code 682 = .ok (.iconst 0, 1) := by decide +kernel
theorem d_L_682 {nm : String} : zD (m_L nm) 682 (.iconst 0) 1 683 := ⟨e_L_682, rfl⟩
set_option maxRecDepth 20000 in
theorem d_L_683 : decode code 683 = .ok (.ireturn, 1) := by decide +kernel
set_option maxRecDepth 20000 in
theorem e_L_684 : decode code 684 = .ok (.aload_n 1, 1) := by decide +kernel
theorem d_L_684 {nm : String} : zD (m_L nm) 684 (.aload_n 1) 1 685 := ⟨e_L_684, rfl⟩
set_option maxRecDepth 20000 in
theorem e_L_685 : decode code 685 = .ok (.invokevirtual 98, 3) := by decide +kernel
theorem d_L_685 {nm : String} : zD (m_L nm) 685 (.invokevirtual 98) 3 688 := ⟨e_L_685, rfl⟩
set_option maxRecDepth 20000 in
theorem e_L_688 : decode code 688 = .ok (.aload_n 2, 1) := by decide +kernel
theorem d_L_688 {nm : String} : zD (m_L nm) 688 (.aload_n 2) 1 689 := ⟨e_L_688, rfl⟩
set_option maxRecDepth 20000 in
theorem e_L_689 : decode code 689 = .ok (.invokevirtual 101, 3) := by decide +kernel
theorem d_L_689 {nm : String} : zD (m_L nm) 689 (.invokevirtual 101) 3 692 := ⟨e_L_689, rfl⟩
set_option maxRecDepth 20000 in
theorem e_L_692 : decode code 692 = .ok (.if_icmp .eq (488), 3) := by decide +kernel
theorem d_L_692 {nm : String} : zDj (m_L nm) 692 (.if_icmp .eq) 695 1180 := ⟨488, e_L_692, rfl, by decide⟩
set_option maxRecDepth 20000 in
theorem e_L_695 : decode code 695 = .ok (.iconst 0, 1) := by decide +kernel
theorem d_L_695 {nm : String} : zD (m_L nm) 695 (.iconst 0) 1 696 := ⟨e_L_695, rfl⟩
set_option maxRecDepth 20000 in
theorem d_L_696 : decode code 696 = .ok (.ireturn, 1) := by decide +kernel
set_option maxRecDepth 20000 in
theorem e_L_697 : decode code 697 = .ok (.aload_n 1, 1) := by decide +kernel
theorem d_L_697 {nm : String} : zD (m_L nm) 697 (.aload_n 1) 1 698 := ⟨e_L_697, rfl⟩
set_option maxRecDepth 20000 in
theorem e_L_698 : decode code 698 = .ok (.aload_n 0, 1) := by decide +kernel
theorem d_L_698 {nm : String} : zD (m_L nm) 698 (.aload_n 0) 1 699 := ⟨e_L_698, rfl⟩
set_option maxRecDepth 20000 in
theorem e_L_699 : decode code 699 = .ok (.iload_n 3, 1) := by decide +kernel
theorem d_L_699 {nm : String} : zD (m_L nm) 699 (.iload_n 3) 1 700 := ⟨e_L_699, rfl⟩
set_option maxRecDepth 20000 in
theorem e_L_700 : decode code 700 = .ok (.iconst 1, 1) := by decide +kernel
theorem d_L_700 {nm : String} : zD (m_L nm) 700 (.iconst 1) 1 701 := ⟨e_L_700, rfl⟩
set_option maxRecDepth 20000 in
theorem e_L_701 : decode code 701 = .ok (.iadd, 1) := by decide +kernel
theorem d_L_701 {nm : String} : zD (m_L nm) 701 (.iadd) 1 702 := ⟨e_L_701, rfl⟩
set_option maxRecDepth 20000 in
theorem e_L_702 : decode code 702 = .ok (.iaload, 1) := by decide +kernel
theorem d_L_702 {nm : String} : zD (m_L nm) 702 (.iaload) 1 703 := ⟨e_L_702, rfl⟩
set_option maxRecDepth 20000 in
theorem e_L_703 : decode code 703 = .ok (.invokevirtual 102, 3) := by decide +kernel
theorem d_L_703 {nm : String} : zD (m_L nm) 703 (.invokevirtual 102) 3 706 := ⟨e_L_703, rfl⟩
set_option maxRecDepth 20000 in
theorem e_L_706 : decode code 706 = .ok (.aload_n 2, 1) := by decide +kernel
theorem d_L_706 {nm : String} : zD (m_L nm) 706 (.aload_n 2) 1 707 := ⟨e_L_706, rfl⟩
set_option maxRecDepth 20000 in
theorem e_L_707 : decode code 707 = .ok (.aload_n 0, 1) := by decide +kernel
theorem d_L_707 {nm : String} : zD (m_L nm) 707 (.aload_n 0) 1 708 := ⟨e_L_707, rfl⟩
set_option maxRecDepth 20000 in
theorem e_L_708 : decode code 708 = .ok (.iload_n 3, 1) := by decide +kernel
theorem d_L_708 {nm : String} : zD (m_L nm) 708 (.iload_n 3) 1 709 := ⟨e_L_708, rfl⟩
set_option maxRecDepth 20000 in
theorem e_L_709 : decode code 709 = .ok (.iconst 1, 1) := by decide +kernel
theorem d_L_709 {nm : String} : zD (m_L nm) 709 (.iconst 1) 1 710 := ⟨e_L_709, rfl⟩
set_option maxRecDepth 20000 in
theorem e_L_710 : decode code 710 = .ok (.iadd, 1) := by decide +kernel
theorem d_L_710 {nm : String} : zD (m_L nm) 710 (.iadd) 1 711 := ⟨e_L_710, rfl⟩
set_option maxRecDepth 20000 in
theorem e_L_711 : decode code 711 = .ok (.iaload, 1) := by decide +kernel
theorem d_L_711 {nm : String} : zD (m_L nm) 711 (.iaload) 1 712 := ⟨e_L_711, rfl⟩
set_option maxRecDepth 20000 in
theorem e_L_712 : decode code 712 = .ok (.invokevirtual 105, 3) := by decide +kernel
theorem d_L_712 {nm : String} : zD (m_L nm) 712 (.invokevirtual 105) 3 715 := ⟨e_L_712, rfl⟩
set_option maxRecDepth 20000 in
theorem e_L_715 : decode code 715 = .ok (.if_icmp .eq (465), 3) := by decide +kernel
theorem d_L_715 {nm : String} : zDj (m_L nm) 715 (.if_icmp .eq) 718 1180 := ⟨465, e_L_715, rfl, by decide⟩
set_option maxRecDepth 20000 in
theorem e_L_718 : decode code 718 = .ok (.iconst 0, 1) := by decide +kernel
theorem d_L_718 {nm : String} : zD (m_L nm) 718 (.iconst 0) 1 719 := ⟨e_L_718, rfl⟩
set_option maxRecDepth 20000 in
theorem d_L_719 : decode code 719 = .ok (.ireturn, 1) := by decide +kernel
set_option maxRecDepth 20000 in
theorem e_L_720 : decode code 720 = .ok (.aload_n 1, 1) := by decide +kernel
theorem d_L_720 {nm : String} : zD (m_L nm) 720 (.aload_n 1) 1 721 := ⟨e_L_720, rfl⟩
set_option maxRecDepth 20000 in
theorem e_L_721 : decode code 721 = .ok (.aload_n 0, 1) := by decide +kernel
theorem d_L_721 {nm : String} : zD (m_L nm) 721 (.aload_n 0) 1 722 := ⟨e_L_721, rfl⟩
set_option maxRecDepth 20000 in
theorem e_L_722 : decode code 722 = .ok (.iload_n 3, 1) := by decide +kernel
theorem d_L_722 {nm : String} : zD (m_L nm) 722 (.iload_n 3) 1 723 := ⟨e_L_722, rfl⟩
set_option maxRecDepth 20000 in
theorem e_L_723 : decode code 723 = .ok (.iconst 1, 1) := by decide +kernel
theorem d_L_723 {nm : String} : zD (m_L nm) 723 (.iconst 1) 1 724 := ⟨e_L_723, rfl⟩
set_option maxRecDepth 20000 in
theorem e_L_724 : decode code 724 = .ok (.iadd, 1) := by decide +kernel
theorem d_L_724 {nm : String} : zD (m_L nm) 724 (.iadd) 1 725 := ⟨e_L_724, rfl⟩
set_option maxRecDepth 20000 in
theorem e_L_725 : decode code 725 = .ok (.iaload, 1) := by decide +kernel
theorem d_L_725 {nm : String} : zD (m_L nm) 725 (.iaload) 1 726 := ⟨e_L_725, rfl⟩
set_option maxRecDepth 20000 in
theorem e_L_726 : decode code 726 = .ok (.aload_n 0, 1) := by decide +kernel
theorem d_L_726 {nm : String} : zD (m_L nm) 726 (.aload_n 0) 1 727 := ⟨e_L_726, rfl⟩
set_option maxRecDepth 20000 in
theorem e_L_727 : decode code 727 = .ok (.iload_n 3, 1) := by decide +kernel
theorem d_L_727 {nm : String} : zD (m_L nm) 727 (.iload_n 3) 1 728 := ⟨e_L_727, rfl⟩
set_option maxRecDepth 20000 in
theorem e_L_728 : decode code 728 = .ok (.iconst 2, 1) := by decide +kernel
theorem d_L_728 {nm : String} : zD (m_L nm) 728 (.iconst 2) 1 729 := ⟨e_L_728, rfl⟩
set_option maxRecDepth 20000 in
theorem e_L_729 : decode code 729 = .ok (.iadd, 1) := by decide +kernel
theorem d_L_729 {nm : String} : zD (m_L nm) 729 (.iadd) 1 730 := ⟨e_L_729, rfl⟩
set_option maxRecDepth 20000 in
theorem e_L_730 : decode code 730 = .ok (.iaload, 1) := by decide +kernel
theorem d_L_730 {nm : String} : zD (m_L nm) 730 (.iaload) 1 731 := ⟨e_L_730, rfl⟩
set_option maxRecDepth 20000 in
theorem e_L_731 : decode code 731 = .ok (.invokevirtual 106, 3) := by decide +kernel
theorem d_L_731 {nm : String} : zD (m_L nm) 731 (.invokevirtual 106) 3 734 := ⟨e_L_731, rfl⟩
set_option maxRecDepth 20000 in
theorem e_L_734 : decode code 734 = .ok (.aload_n 2, 1) := by decide +kernel
theorem d_L_734 {nm : String} : zD (m_L nm) 734 (.aload_n 2) 1 735 := ⟨e_L_734, rfl⟩
set_option maxRecDepth 20000 in
theorem e_L_735 : decode code 735 = .ok (.aload_n 0, 1) := by decide +kernel
theorem d_L_735 {nm : String} : zD (m_L nm) 735 (.aload_n 0) 1 736 := ⟨e_L_735, rfl⟩
set_option maxRecDepth 20000 in
theorem e_L_736 : decode code 736 = .ok (.iload_n 3, 1) := by decide +kernel
theorem d_L_736 {nm : String} : zD (m_L nm) 736 (.iload_n 3) 1 737 := ⟨e_L_736, rfl⟩
set_option maxRecDepth 20000 in
theorem e_L_737 : decode code 737 = .ok (.iconst 1, 1) := by decide +kernel
theorem d_L_737 {nm : String} : zD (m_L nm) 737 (.iconst 1) 1 738 := ⟨e_L_737, rfl⟩
set_option maxRecDepth 20000 in
theorem e_L_738 : decode code 738 = .ok (.iadd, 1) := by decide +kernel
theorem d_L_738 {nm : String} : zD (m_L nm) 738 (.iadd) 1 739 := ⟨e_L_738, rfl⟩
set_option maxRecDepth 20000 in
theorem e_L_739 : decode code 739 = .ok (.iaload, 1) := by decide +kernel
theorem d_L_739 {nm : String} : zD (m_L nm) 739 (.iaload) 1 740 := ⟨e_L_739, rfl⟩
set_option maxRecDepth 20000 in
theorem e_L_740 : decode code 740 = .ok (.aload_n 0, 1) := by decide +kernel
theorem d_L_740 {nm : String} : zD (m_L nm) 740 (.aload_n 0) 1 741 := ⟨e_L_740, rfl⟩
set_option maxRecDepth 20000 in
theorem e_L_741 : decode code 741 = .ok (.iload_n 3, 1) := by decide +kernel
theorem d_L_741 {nm : String} : zD (m_L nm) 741 (.iload_n 3) 1 742 := ⟨e_L_741, rfl⟩
set_option maxRecDepth 20000 in
theorem e_L_742 : decode code 742 = .ok (.iconst 2, 1) := by decide +kernel
theorem d_L_742 {nm : String} : zD (m_L nm) 742 (.iconst 2) 1 743 := ⟨e_L_742, rfl⟩
set_option maxRecDepth 20000 in
theorem e_L_743 : decode code 743 = .ok (.iadd, 1) := by decide +kernel
theorem d_L_743 {nm : String} : zD (m_L nm) 743 (.iadd) 1 744 := ⟨e_L_743, rfl⟩
set_option maxRecDepth 20000 in
theorem e_L_744 : decode code 744 = .ok (.iaload, 1) := by decide +kernel
theorem d_L_744 {nm : String} : zD (m_L nm) 744 (.iaload) 1 745 := ⟨e_L_744, rfl⟩
set_option maxRecDepth 20000 in
theorem e_L_745 : decode code 745 = .ok (.invokevirtual 110, 3) := by decide +kernel
theorem d_L_745 {nm : String} : zD (m_L nm) 745 (.invokevirtual 110) 3 748 := ⟨e_L_745, rfl⟩
set_option maxRecDepth 20000 in
theorem e_L_748 : decode code 748 = .ok (.lcmp, 1) := by decide +kernel
theorem d_L_748 {nm : String} : zD (m_L nm) 748 (.lcmp) 1 749 := ⟨e_L_748, rfl⟩
set_option maxRecDepth 20000 in
theorem e_L_749 : decode code 749 = .ok (.ifCond .eq (431), 3) := by decide +kernel
theorem d_L_749 {nm : String} : zDj (m_L nm) 749 (.ifCond .eq) 752 1180 := ⟨431, e_L_749, rfl, by decide⟩
set_option maxRecDepth 20000 in
theorem e_L_752 : decode code 752 = .ok (.iconst 0, 1) := by decide +kernel
theorem d_L_752 {nm : String} : zD (m_L nm) 752 (.iconst 0) 1 753 := ⟨e_L_752, rfl⟩
set_option maxRecDepth 20000 in
theorem d_L_753 : decode code 753 = .ok (.ireturn, 1) := by decide +kernel
set_option maxRecDepth 20000 in
theorem e_L_754 : decode code 754 = .ok (.aload_n 1, 1) := by decide +kernel
theorem d_L_754 {nm : String} : zD (m_L nm) 754 (.aload_n 1) 1 755 := ⟨e_L_754, rfl⟩
set_option maxRecDepth 20000 in
theorem e_L_755 : decode code 755 = .ok (.aload_n 0, 1) := by decide +kernel
theorem d_L_755 {nm : String} : zD (m_L nm) 755 (.aload_n 0) 1 756 := ⟨e_L_755, rfl⟩
set_option maxRecDepth 20000 in
theorem e_L_756 : decode code 756 = .ok (.iload_n 3, 1) := by decide +kernel
theorem d_L_756 {nm : String} : zD (m_L nm) 756 (.iload_n 3) 1 757 := ⟨e_L_756, rfl⟩
set_option maxRecDepth 20000 in
theorem e_L_757 : decode code 757 = .ok (.iconst 1, 1) := by decide +kernel
theorem d_L_757 {nm : String} : zD (m_L nm) 757 (.iconst 1) 1 758 := ⟨e_L_757, rfl⟩
set_option maxRecDepth 20000 in
theorem e_L_758 : decode code 758 = .ok (.iadd, 1) := by decide +kernel
theorem d_L_758 {nm : String} : zD (m_L nm) 758 (.iadd) 1 759 := ⟨e_L_758, rfl⟩
set_option maxRecDepth 20000 in
theorem e_L_759 : decode code 759 = .ok (.iaload, 1) := by decide +kernel
theorem d_L_759 {nm : String} : zD (m_L nm) 759 (.iaload) 1 760 := ⟨e_L_759, rfl⟩
set_option maxRecDepth 20000 in
theorem e_L_760 : decode code 760 = .ok (.invokevirtual 111, 3) := by decide +kernel
theorem d_L_760 {nm : String} : zD (m_L nm) 760 (.invokevirtual 111) 3 763 := ⟨e_L_760, rfl⟩
set_option maxRecDepth 20000 in
theorem e_L_763 : decode code 763 = .ok (.aload_n 2, 1) := by decide +kernel
theorem d_L_763 {nm : String} : zD (m_L nm) 763 (.aload_n 2) 1 764 := ⟨e_L_763, rfl⟩
set_option maxRecDepth 20000 in
theorem e_L_764 : decode code 764 = .ok (.aload_n 0, 1) := by decide +kernel
theorem d_L_764 {nm : String} : zD (m_L nm) 764 (.aload_n 0) 1 765 := ⟨e_L_764, rfl⟩
set_option maxRecDepth 20000 in
theorem e_L_765 : decode code 765 = .ok (.iload_n 3, 1) := by decide +kernel
theorem d_L_765 {nm : String} : zD (m_L nm) 765 (.iload_n 3) 1 766 := ⟨e_L_765, rfl⟩
set_option maxRecDepth 20000 in
theorem e_L_766 : decode code 766 = .ok (.iconst 1, 1) := by decide +kernel
theorem d_L_766 {nm : String} : zD (m_L nm) 766 (.iconst 1) 1 767 := ⟨e_L_766, rfl⟩
set_option maxRecDepth 20000 in
theorem e_L_767 : decode code 767 = .ok (.iadd, 1) := by decide +kernel
theorem d_L_767 {nm : String} : zD (m_L nm) 767 (.iadd) 1 768 := ⟨e_L_767, rfl⟩
set_option maxRecDepth 20000 in
theorem e_L_768 : decode code 768 = .ok (.iaload, 1) := by decide +kernel
theorem d_L_768 {nm : String} : zD (m_L nm) 768 (.iaload) 1 769 := ⟨e_L_768, rfl⟩
set_option maxRecDepth 20000 in
theorem e_L_769 : decode code 769 = .ok (.invokevirtual 114, 3) := by decide +kernel
theorem d_L_769 {nm : String} : zD (m_L nm) 769 (.invokevirtual 114) 3 772 := ⟨e_L_769, rfl⟩
set_option maxRecDepth 20000 in
theorem e_L_772 : decode code 772 = .ok (.if_icmp .eq (408), 3) := by decide +kernel
theorem d_L_772 {nm : String} : zDj (m_L nm) 772 (.if_icmp .eq) 775 1180 := ⟨408, e_L_772, rfl, by decide⟩
set_option maxRecDepth 20000 in
theorem e_L_775 : decode code 775 = .ok (.iconst 0, 1) := by decide +kernel
theorem d_L_775 {nm : String} : zD (m_L nm) 775 (.iconst 0) 1 776 := ⟨e_L_775, rfl⟩
set_option maxRecDepth 20000 in
theorem d_L_776 : decode code 776 = .ok (.ireturn, 1) := by decide +kernel
set_option maxRecDepth 20000 in
theorem e_L_777 : decode code 777 = .ok (.aload_n 1, 1) := by decide +kernel
theorem d_L_777 {nm : String} : zD (m_L nm) 777 (.aload_n 1) 1 778 := ⟨e_L_777, rfl⟩
set_option maxRecDepth 20000 in
theorem e_L_778 : decode code 778 = .ok (.aload_n 0, 1) := by decide +kernel
theorem d_L_778 {nm : String} : zD (m_L nm) 778 (.aload_n 0) 1 779 := ⟨e_L_778, rfl⟩
set_option maxRecDepth 20000 in
theorem e_L_779 : decode code 779 = .ok (.iload_n 3, 1) := by decide +kernel
theorem d_L_779 {nm : String} : zD (m_L nm) 779 (.iload_n 3) 1 780 := ⟨e_L_779, rfl⟩
set_option maxRecDepth 20000 in
theorem e_L_780 : decode code 780 = .ok (.iconst 1, 1) := by decide +kernel
theorem d_L_780 {nm : String} : zD (m_L nm) 780 (.iconst 1) 1 781 := ⟨e_L_780, rfl⟩
set_option maxRecDepth 20000 in
theorem e_L_781 : decode code 781 = .ok (.iadd, 1) := by decide +kernel
theorem d_L_781 {nm : String} : zD (m_L nm) 781 (.iadd) 1 782 := ⟨e_L_781, rfl⟩
set_option maxRecDepth 20000 in
theorem e_L_782 : decode code 782 = .ok (.iaload, 1) := by decide +kernel
theorem d_L_782 {nm : String} : zD (m_L nm) 782 (.iaload) 1 783 := ⟨e_L_782, rfl⟩
set_option maxRecDepth 20000 in
theorem e_L_783 : decode code 783 = .ok (.invokevirtual 115, 3) := by decide +kernel
theorem d_L_783 {nm : String} : zD (m_L nm) 783 (.invokevirtual 115) 3 786 := ⟨e_L_783, rfl⟩
set_option maxRecDepth 20000 in
theorem e_L_786 : decode code 786 = .ok (.aload_n 2, 1) := by decide +kernel
theorem d_L_786 {nm : String} : zD (m_L nm) 786 (.aload_n 2) 1 787 := ⟨e_L_786, rfl⟩
set_option maxRecDepth 20000 in
theorem e_L_787 : decode code 787 = .ok (.aload_n 0, 1) := by decide +kernel
theorem d_L_787 {nm : String} : zD (m_L nm) 787 (.aload_n 0) 1 788 := ⟨e_L_787, rfl⟩
set_option maxRecDepth 20000 in
theorem e_L_788 : decode code 788 = .ok (.iload_n 3, 1) := by decide +kernel
theorem d_L_788 {nm : String} : zD (m_L nm) 788 (.iload_n 3) 1 789 := ⟨e_L_788, rfl⟩
set_option maxRecDepth 20000 in
theorem e_L_789 : decode code 789 = .ok (.iconst 1, 1) := by decide +kernel
theorem d_L_789 {nm : String} : zD (m_L nm) 789 (.iconst 1) 1 790 := ⟨e_L_789, rfl⟩
set_option maxRecDepth 20000 in
theorem e_L_790 : decode code 790 = .ok (.iadd, 1) := by decide +kernel
theorem d_L_790 {nm : String} : zD (m_L nm) 790 (.iadd) 1 791 := ⟨e_L_790, rfl⟩
set_option maxRecDepth 20000 in
theorem e_L_791 : decode code 791 = .ok (.iaload, 1) := by decide +kernel
theorem d_L_791 {nm : String} : zD (m_L nm) 791 (.iaload) 1 792 := ⟨e_L_791, rfl⟩
set_option maxRecDepth 20000 in
theorem e_L_792 : decode code 792 = .ok (.invokevirtual 118, 3) := by decide +kernel
theorem d_L_792 {nm : String} : zD (m_L nm) 792 (.invokevirtual 118) 3 795 := ⟨e_L_792, rfl⟩
set_option maxRecDepth 20000 in
theorem e_L_795 : decode code 795 = .ok (.if_icmp .eq (385), 3) := by decide +kernel
theorem d_L_795 {nm : String} : zDj (m_L nm) 795 (.if_icmp .eq) 798 1180 := ⟨385, e_L_795, rfl, by decide⟩
set_option maxRecDepth 20000 in
theorem e_L_798 : decode code 798 = .ok (.iconst 0, 1) := by decide +kernel
theorem d_L_798 {nm : String} : zD (m_L nm) 798 (.iconst 0) 1 799 := ⟨e_L_798, rfl⟩
set_option maxRecDepth 20000 in
theorem d_L_799 : decode code 799 = .ok (.ireturn, 1) := by decide +kernel
set_option maxRecDepth 20000 in
theorem e_L_800 : decode code 800 = .ok (.aload_n 1, 1) := by decide +kernel
theorem d_L_800 {nm : String} : zD (m_L nm) 800 (.aload_n 1) 1 801 := ⟨e_L_800, rfl⟩
set_option maxRecDepth 20000 in
theorem e_L_801 : decode code 801 = .ok (.invokevirtual 119, 3) := by decide +kernel
theorem d_L_801 {nm : String} : zD (m_L nm) 801 (.invokevirtual 119) 3 804 := ⟨e_L_801, rfl⟩
set_option maxRecDepth 20000 in
theorem e_L_804 : decode code 804 = .ok (.aload_n 2, 1) := by decide +kernel
theorem d_L_804 {nm : String} : zD (m_L nm) 804 (.aload_n 2) 1 805 := ⟨e_L_804, rfl⟩
set_option maxRecDepth 20000 in
theorem e_L_805 : decode code 805 = .ok (.invokevirtual 122, 3) := by decide +kernel
theorem d_L_805 {nm : String} : zD (m_L nm) 805 (.invokevirtual 122) 3 808 := ⟨e_L_805, rfl⟩
set_option maxRecDepth 20000 in
theorem e_L_808 : decode code 808 = .ok (.if_icmp .eq (372), 3) := by decide +kernel
theorem d_L_808 {nm : String} : zDj (m_L nm) 808 (.if_icmp .eq) 811 1180 := ⟨372, e_L_808, rfl, by decide⟩
set_option maxRecDepth 20000 in
theorem e_L_811 : decode code 811 = .ok (.iconst 0, 1) := by decide +kernel
theorem d_L_811 {nm : String} : zD (m_L nm) 811 (.iconst 0) 1 812 := ⟨e_L_811, rfl⟩
set_option maxRecDepth 20000 in
theorem d_L_812 : decode code 812 = .ok (.ireturn, 1) := by decide +kernel
set_option maxRecDepth 20000 in
theorem e_L_813 : decode code 813 = .ok (.aload_n 1, 1) := by decide +kernel
theorem d_L_813 {nm : String} : zD (m_L nm) 813 (.aload_n 1) 1 814 := ⟨e_L_813, rfl⟩
set_option maxRecDepth 20000 in
theorem e_L_814 : decode code 814 = .ok (.aload_n 0, 1) := by decide +kernel
theorem d_L_814 {nm : String} : zD (m_L nm) 814 (.aload_n 0) 1 815 := ⟨e_L_814, rfl⟩
set_option maxRecDepth 20000 in
theorem e_L_815 : decode code 815 = .ok (.iload_n 3, 1) := by decide +kernel
theorem d_L_815 {nm : String} : zD (m_L nm) 815 (.iload_n 3) 1 816 := ⟨e_L_815, rfl⟩
set_option maxRecDepth 20000 in
theorem e_L_816 : decode code 816 = .ok (.iconst 1, 1) := by decide +kernel
theorem d_L_816 {nm : String} : zD (m_L nm) 816 (.iconst 1) 1 817 := ⟨e_L_816, rfl⟩
set_option maxRecDepth 20000 in
theorem e_L_817 : decode code 817 = .ok (.iadd, 1) := by decide +kernel
theorem d_L_817 {nm : String} : zD (m_L nm) 817 (.iadd) 1 818 := ⟨e_L_817, rfl⟩
set_option maxRecDepth 20000 in
theorem e_L_818 : decode code 818 = .ok (.iaload, 1) := by decide +kernel
theorem d_L_818 {nm : String} : zD (m_L nm) 818 (.iaload) 1 819 := ⟨e_L_818, rfl⟩
set_option maxRecDepth 20000 in
theorem e_L_819 : decode code 819 = .ok (.invokevirtual 123, 3) := by decide +kernel
theorem d_L_819 {nm : String} : zD (m_L nm) 819 (.invokevirtual 123) 3 822 := ⟨e_L_819, rfl⟩
set_option maxRecDepth 20000 in
theorem e_L_822 : decode code 822 = .ok (.aload_n 2, 1) := by decide +kernel
theorem d_L_822 {nm : String} : zD (m_L nm) 822 (.aload_n 2) 1 823 := ⟨e_L_822, rfl⟩
set_option maxRecDepth 20000 in
theorem e_L_823 : decode code 823 = .ok (.aload_n 0, 1) := by decide +kernel
theorem d_L_823 {nm : String} : zD (m_L nm) 823 (.aload_n 0) 1 824 := ⟨e_L_823, rfl⟩
set_option maxRecDepth 20000 in
theorem e_L_824 : decode code 824 = .ok (.iload_n 3, 1) := by decide +kernel
theorem d_L_824 {nm : String} : zD (m_L nm) 824 (.iload_n 3) 1 825 := ⟨e_L_824, rfl⟩
set_option maxRecDepth 20000 in
theorem e_L_825 : decode code 825 = .ok (.iconst 1, 1) := by decide +kernel
theorem d_L_825 {nm : String} : zD (m_L nm) 825 (.iconst 1) 1 826 := ⟨e_L_825, rfl⟩
set_option maxRecDepth 20000 in
theorem e_L_826 : decode code 826 = .ok (.iadd, 1) := by decide +kernel
theorem d_L_826 {nm : String} : zD (m_L nm) 826 (.iadd) 1 827 := ⟨e_L_826, rfl⟩
set_option maxRecDepth 20000 in
theorem e_L_827 : decode code 827 = .ok (.iaload, 1) := by decide +kernel
theorem d_L_827 {nm : String} : zD (m_L nm) 827 (.iaload) 1 828 := ⟨e_L_827, rfl⟩
set_option maxRecDepth 20000 in
theorem e_L_828 : decode code 828 = .ok (.invokevirtual 126, 3) := by decide +kernel
theorem d_L_828 {nm : String} : zD (m_L nm) 828 (.invokevirtual 126) 3 831 := ⟨e_L_828, rfl⟩
set_option maxRecDepth 20000 in
theorem e_L_831 : decode code 831 = .ok (.if_icmp .eq (349), 3) := by decide +kernel
theorem d_L_831 {nm : String} : zDj (m_L nm) 831 (.if_icmp .eq) 834 1180 := ⟨349, e_L_831, rfl, by decide⟩
set_option maxRecDepth 20000 in
theorem e_L_834 : decode code 834 = .ok (.iconst 0, 1) := by decide +kernel
theorem d_L_834 {nm : String} : zD (m_L nm) 834 (.iconst 0) 1 835 := ⟨e_L_834, rfl⟩
set_option maxRecDepth 20000 in
theorem d_L_835 : decode code 835 = .ok (.ireturn, 1) := by decide +kernel
set_option maxRecDepth 20000 in
theorem e_L_836 : decode code 836 = .ok (.aload_n 1, 1) := by decide +kernel
theorem d_L_836 {nm : String} : zD (m_L nm) 836 (.aload_n 1) 1 837 := ⟨e_L_836, rfl⟩
set_option maxRecDepth 20000 in
theorem e_L_837 : decode code 837 = .ok (.aload_n 0, 1) := by decide +kernel
theorem d_L_837 {nm : String} : zD (m_L nm) 837 (.aload_n 0) 1 838 := ⟨e_L_837, rfl⟩
set_option maxRecDepth 20000 in
theorem e_L_838 : decode code 838 = .ok (.iload_n 3, 1) := by decide +kernel
theorem d_L_838 {nm : String} : zD (m_L nm) 838 (.iload_n 3) 1 839 := ⟨e_L_838, rfl⟩
set_option maxRecDepth 20000 in
theorem e_L_839 : decode code 839 = .ok (.iconst 1, 1) := by decide +kernel
theorem d_L_839 {nm : String} : zD (m_L nm) 839 (.iconst 1) 1 840 := ⟨e_L_839, rfl⟩
set_option maxRecDepth 20000 in
theorem e_L_840 : decode code 840 = .ok (.iadd, 1) := by decide +kernel
theorem d_L_840 {nm : String} : zD (m_L nm) 840 (.iadd) 1 841 := ⟨e_L_840, rfl⟩
set_option maxRecDepth 20000 in
theorem e_L_841 : decode code 841 = .ok (.iaload, 1) := by decide +kernel
theorem d_L_841 {nm : String} : zD (m_L nm) 841 (.iaload) 1 842 := ⟨e_L_841, rfl⟩
set_option maxRecDepth 20000 in
theorem e_L_842 : decode code 842 = .ok (.invokevirtual 127, 3) := by decide +kernel
theorem d_L_842 {nm : String} : zD (m_L nm) 842 (.invokevirtual 127) 3 845 := ⟨e_L_842, rfl⟩
set_option maxRecDepth 20000 in
theorem e_L_845 : decode code 845 = .ok (.aload_n 2, 1) := by decide +kernel
theorem d_L_845 {nm : String} : zD (m_L nm) 845 (.aload_n 2) 1 846 := ⟨e_L_845, rfl⟩
set_option maxRecDepth 20000 in
theorem e_L_846 : decode code 846 = .ok (.aload_n 0, 1) := by decide +kernel
theorem d_L_846 {nm : String} : zD (m_L nm) 846 (.aload_n 0) 1 847 := ⟨e_L_846, rfl⟩
set_option maxRecDepth 20000 in
theorem e_L_847 : decode code 847 = .ok (.iload_n 3, 1) := by decide +kernel
theorem d_L_847 {nm : String} : zD (m_L nm) 847 (.iload_n 3) 1 848 := ⟨e_L_847, rfl⟩
set_option maxRecDepth 20000 in
theorem e_L_848 : decode code 848 = .ok (.iconst 1, 1) := by decide +kernel
theorem d_L_848 {nm : String} : zD (m_L nm) 848 (.iconst 1) 1 849 := ⟨e_L_848, rfl⟩
set_option maxRecDepth 20000 in
theorem e_L_849 : decode code 849 = .ok (.iadd, 1) := by decide +kernel
theorem d_L_849 {nm : String} : zD (m_L nm) 849 (.iadd) 1 850 := ⟨e_L_849, rfl⟩
set_option maxRecDepth 20000 in
theorem e_L_850 : decode code 850 = .ok (.iaload, 1) := by decide +kernel
theorem d_L_850 {nm : String} : zD (m_L nm) 850 (.iaload) 1 851 := ⟨e_L_850, rfl⟩
set_option maxRecDepth 20000 in
theorem e_L_851 : decode code 851 = .ok (.invokevirtual 130, 3) := by decide +kernel
theorem d_L_851 {nm : String} : zD (m_L nm) 851 (.invokevirtual 130) 3 854 := ⟨e_L_851, rfl⟩
set_option maxRecDepth 20000 in
theorem e_L_854 : decode code 854 = .ok (.if_icmp .eq (326), 3) := by decide +kernel
theorem d_L_854 {nm : String} : zDj (m_L nm) 854 (.if_icmp .eq) 857 1180 := ⟨326, e_L_854, rfl, by decide⟩
set_option maxRecDepth 20000 in
theorem e_L_857 : decode code 857 = .ok (.iconst 0, 1) := by decide +kernel
theorem d_L_857 {nm : String} : zD (m_L nm) 857 (.iconst 0) 1 858 := ⟨e_L_857, rfl⟩
set_option maxRecDepth 20000 in
theorem d_L_858 : decode code 858 = .ok (.ireturn, 1) := by decide +kernel
set_option maxRecDepth 20000 in
theorem e_L_859 : decode code 859 = .ok (.aload_n 1, 1) := by decide +kernel
theorem d_L_859 {nm : String} : zD (m_L nm) 859 (.aload_n 1) 1 860 := ⟨e_L_859, rfl⟩
set_option maxRecDepth 20000 in
theorem e_L_860 : decode code 860 = .ok (.aload_n 0, 1) := by decide +kernel
theorem d_L_860 {nm : String} : zD (m_L nm) 860 (.aload_n 0) 1 861 := ⟨e_L_860, rfl⟩
set_option maxRecDepth 20000 in
theorem e_L_861 : decode code 861 = .ok (.iload_n 3, 1) := by decide +kernel
theorem d_L_861 {nm : String} : zD (m_L nm) 861 (.iload_n 3) 1 862 := ⟨e_L_861, rfl⟩
set_option maxRecDepth 20000 in
theorem e_L_862 : decode code 862 = .ok (.iconst 1, 1) := by decide +kernel
theorem d_L_862 {nm : String} : zD (m_L nm) 862 (.iconst 1) 1 863 := ⟨e_L_862, rfl⟩
set_option maxRecDepth 20000 in
theorem e_L_863 : decode code 863 = .ok (.iadd, 1) := by decide +kernel
theorem d_L_863 {nm : String} : zD (m_L nm) 863 (.iadd) 1 864 := ⟨e_L_863, rfl⟩
set_option maxRecDepth 20000 in
theorem e_L_864 : decode code 864 = .ok (.iaload, 1) := by decide +kernel
theorem d_L_864 {nm : String} : zD (m_L nm) 864 (.iaload) 1 865 := ⟨e_L_864, rfl⟩
set_option maxRecDepth 20000 in
theorem e_L_865 : decode code 865 = .ok (.aload_n 0, 1) := by decide +kernel
theorem d_L_865 {nm : String} : zD (m_L nm) 865 (.aload_n 0) 1 866 := ⟨e_L_865, rfl⟩
set_option maxRecDepth 20000 in
theorem e_L_866 : decode code 866 = .ok (.iload_n 3, 1) := by decide +kernel
theorem d_L_866 {nm : String} : zD (m_L nm) 866 (.iload_n 3) 1 867 := ⟨e_L_866, rfl⟩
set_option maxRecDepth 20000 in
theorem e_L_867 : decode code 867 = .ok (.iconst 2, 1) := by decide +kernel
theorem d_L_867 {nm : String} : zD (m_L nm) 867 (.iconst 2) 1 868 := ⟨e_L_867, rfl⟩
set_option maxRecDepth 20000 in
theorem e_L_868 : decode code 868 = .ok (.iadd, 1) := by decide +kernel
theorem d_L_868 {nm : String} : zD (m_L nm) 868 (.iadd) 1 869 := ⟨e_L_868, rfl⟩
set_option maxRecDepth 20000 in
theorem e_L_869 : decode code 869 = .ok (.iaload, 1) := by decide +kernel
theorem d_L_869 {nm : String} : zD (m_L nm) 869 (.iaload) 1 870 := ⟨e_L_869, rfl⟩
set_option maxRecDepth 20000 in
theorem e_L_870 : decode code 870 = .ok (.invokevirtual 131, 3) := by decide +kernel
theorem d_L_870 {nm : String} : zD (m_L nm) 870 (.invokevirtual 131) 3 873 := ⟨e_L_870, rfl⟩
set_option maxRecDepth 20000 in
theorem e_L_873 : decode code 873 = .ok (.aload_n 2, 1) := by decide +kernel
theorem d_L_873 {nm : String} : zD (m_L nm) 873 (.aload_n 2) 1 874 := ⟨e_L_873, rfl⟩
set_option maxRecDepth 20000 in
theorem e_L_874 : decode code 874 = .ok (.aload_n 0, 1) := by decide +kernel
theorem d_L_874 {nm : String} : zD (m_L nm) 874 (.aload_n 0) 1 875 := ⟨e_L_874, rfl⟩
set_option maxRecDepth 20000 in
theorem e_L_875 : decode code 875 = .ok (.iload_n 3, 1) := by decide +kernel
theorem d_L_875 {nm : String} : zD (m_L nm) 875 (.iload_n 3) 1 876 := ⟨e_L_875, rfl⟩
set_option maxRecDepth 20000 in
theorem e_L_876 : decode code 876 = .ok (.iconst 1, 1) := by decide +kernel
theorem d_L_876 {nm : String} : zD (m_L nm) 876 (.iconst 1) 1 877 := ⟨e_L_876, rfl⟩
set_option maxRecDepth 20000 in
theorem e_L_877 : decode code 877 = .ok (.iadd, 1) := by decide +kernel
theorem d_L_877 {nm : String} : zD (m_L nm) 877 (.iadd) 1 878 := ⟨e_L_877, rfl⟩
set_option maxRecDepth 20000 in
theorem e_L_878 : decode code 878 = .ok (.iaload, 1) := by decide +kernel
theorem d_L_878 {nm : String} : zD (m_L nm) 878 (.iaload) 1 879 := ⟨e_L_878, rfl⟩
set_option maxRecDepth 20000 in
theorem e_L_879 : decode code 879 = .ok (.aload_n 0, 1) := by decide +kernel
theorem d_L_879 {nm : String} : zD (m_L nm) 879 (.aload_n 0) 1 880 := ⟨e_L_879, rfl⟩
set_option maxRecDepth 20000 in
theorem e_L_880 : decode code 880 = .ok (.iload_n 3, 1) := by decide +kernel
theorem d_L_880 {nm : String} : zD (m_L nm) 880 (.iload_n 3) 1 881 := ⟨e_L_880, rfl⟩
set_option maxRecDepth 20000 in
theorem e_L_881 : decode code 881 = .ok (.iconst 2, 1) := by decide +kernel
theorem d_L_881 {nm : String} : zD (m_L nm) 881 (.iconst 2) 1 882 := ⟨e_L_881, rfl⟩
set_option maxRecDepth 20000 in
theorem e_L_882 : decode code 882 = .ok (.iadd, 1) := by decide +kernel
theorem d_L_882 {nm : String} : zD (m_L nm) 882 (.iadd) 1 883 := ⟨e_L_882, rfl⟩
set_option maxRecDepth 20000 in
theorem e_L_883 : decode code 883 = .ok (.iaload, 1) := by decide +kernel
theorem d_L_883 {nm : String} : zD (m_L nm) 883 (.iaload) 1 884 := ⟨e_L_883, rfl⟩
set_option maxRecDepth 20000 in
theorem e_L_884 : decode code 884 = .ok (.invokevirtual 134, 3) := by decide +kernel
theorem d_L_884 {nm : String} : zD (m_L nm) 884 (.invokevirtual 134) 3 887 := ⟨e_L_884, rfl⟩
set_option maxRecDepth 20000 in
theorem e_L_887 : decode code 887 = .ok (.if_icmp .eq (293), 3) := by decide +kernel
theorem d_L_887 {nm : String} : zDj (m_L nm) 887 (.if_icmp .eq) 890 1180 := ⟨293, e_L_887, rfl, by decide⟩
set_option maxRecDepth 20000 in
theorem e_L_890 : decode code 890 = .ok (.iconst 0, 1) := by decide +kernel
theorem d_L_890 {nm : String} : zD (m_L nm) 890 (.iconst 0) 1 891 := ⟨e_L_890, rfl⟩
set_option maxRecDepth 20000 in
theorem d_L_891 : decode code 891 = .ok (.ireturn, 1) := by decide +kernel
set_option maxRecDepth 20000 in
theorem e_L_892 : decode code 892 = .ok (.aload_n 1, 1) := by decide +kernel
theorem d_L_892 {nm : String} : zD (m_L nm) 892 (.aload_n 1) 1 893 := ⟨e_L_892, rfl⟩
set_option maxRecDepth 20000 in
theorem e_L_893 : decode code 893 = .ok (.aload_n 0, 1) := by decide +kernel
theorem d_L_893 {nm : String} : zD (m_L nm) 893 (.aload_n 0) 1 894 := ⟨e_L_893, rfl⟩
set_option maxRecDepth 20000 in
theorem e_L_894 : decode code 894 = .ok (.iload_n 3, 1) := by decide +kernel
theorem d_L_894 {nm : String} : zD (m_L nm) 894 (.iload_n 3) 1 895 := ⟨e_L_894, rfl⟩
set_option maxRecDepth 20000 in
theorem e_L_895 : decode code 895 = .ok (.iconst 1, 1) := by decide +kernel
theorem d_L_895 {nm : String} : zD (m_L nm) 895 (.iconst 1) 1 896 := ⟨e_L_895, rfl⟩
set_option maxRecDepth 20000 in
theorem e_L_896 : decode code 896 = .ok (.iadd, 1) := by decide +kernel
theorem d_L_896 {nm : String} : zD (m_L nm) 896 (.iadd) 1 897 := ⟨e_L_896, rfl⟩
set_option maxRecDepth 20000 in
theorem e_L_897 : decode code 897 = .ok (.iaload, 1) := by decide +kernel
theorem d_L_897 {nm : String} : zD (m_L nm) 897 (.iaload) 1 898 := ⟨e_L_897, rfl⟩
set_option maxRecDepth 20000 in
theorem e_L_898 : decode code 898 = .ok (.invokevirtual 135, 3) := by decide +kernel
theorem d_L_898 {nm : String} : zD (m_L nm) 898 (.invokevirtual 135) 3 901 := ⟨e_L_898, rfl⟩
set_option maxRecDepth 20000 in
theorem e_L_901 : decode code 901 = .ok (.aload_n 2, 1) := by decide +kernel
theorem d_L_901 {nm : String} : zD (m_L nm) 901 (.aload_n 2) 1 902 := ⟨e_L_901, rfl⟩
set_option maxRecDepth 20000 in
theorem e_L_902 : decode code 902 = .ok (.aload_n 0, 1) := by decide +kernel
theorem d_L_902 {nm : String} : zD (m_L nm) 902 (.aload_n 0) 1 903 := ⟨e_L_902, rfl⟩
set_option maxRecDepth 20000 in
theorem e_L_903 : decode code 903 = .ok (.iload_n 3, 1) := by decide +kernel
theorem d_L_903 {nm : String} : zD (m_L nm) 903 (.iload_n 3) 1 904 := ⟨e_L_903, rfl⟩
set_option maxRecDepth 20000 in
theorem e_L_904 : decode code 904 = .ok (.iconst 1, 1) := by decide +kernel
theorem d_L_904 {nm : String} : zD (m_L nm) 904 (.iconst 1) 1 905 := ⟨e_L_904, rfl⟩
set_option maxRecDepth 20000 in
theorem e_L_905 : decode code 905 = .ok (.iadd, 1) := by decide +kernel
theorem d_L_905 {nm : String} : zD (m_L nm) 905 (.iadd) 1 906 := ⟨e_L_905, rfl⟩
set_option maxRecDepth 20000 in
theorem e_L_906 : decode code 906 = .ok (.iaload, 1) := by decide +kernel
theorem d_L_906 {nm : String} : zD (m_L nm) 906 (.iaload) 1 907 := ⟨e_L_906, rfl⟩
set_option maxRecDepth 20000 in
theorem e_L_907 : decode code 907 = .ok (.invokevirtual 138, 3) := by decide +kernel
theorem d_L_907 {nm : String} : zD (m_L nm) 907 (.invokevirtual 138) 3 910 := ⟨e_L_907, rfl⟩
set_option maxRecDepth 20000 in
theorem e_L_910 : decode code 910 = .ok (.if_icmp .eq (270), 3) := by decide +kernel
theorem d_L_910 {nm : String} : zDj (m_L nm) 910 (.if_icmp .eq) 913 1180 := ⟨270, e_L_910, rfl, by decide⟩
set_option maxRecDepth 20000 in
theorem e_L_913 : decode code 913 = .ok (.iconst 0, 1) := by decide +kernel
theorem d_L_913 {nm : String} : zD (m_L nm) 913 (.iconst 0) 1 914 := ⟨e_L_913, rfl⟩
set_option maxRecDepth 20000 in
theorem d_L_914 : decode code 914 = .ok (.ireturn, 1) := by decide +kernel
set_option maxRecDepth 20000 in
theorem e_L_915 : decode code 915 = .ok (.aload_n 1, 1) := by decide +kernel
theorem d_L_915 {nm : String} : zD (m_L nm) 915 (.aload_n 1) 1 916 := ⟨e_L_915, rfl⟩
set_option maxRecDepth 20000 in
theorem e_L_916 : decode code 916 = .ok (.aload_n 0, 1) := by decide +kernel
theorem d_L_916 {nm : String} : zD (m_L nm) 916 (.aload_n 0) 1 917 := ⟨e_L_916, rfl⟩
set_option maxRecDepth 20000 in
theorem e_L_917 : decode code 917 = .ok (.iload_n 3, 1) := by decide +kernel
theorem d_L_917 {nm : String} : zD (m_L nm) 917 (.iload_n 3) 1 918 := ⟨e_L_917, rfl⟩
set_option maxRecDepth 20000 in
theorem e_L_918 : decode code 918 = .ok (.iconst 1, 1) := by decide +kernel
theorem d_L_918 {nm : String} : zD (m_L nm) 918 (.iconst 1) 1 919 := ⟨e_L_918, rfl⟩
set_option maxRecDepth 20000 in
theorem e_L_919 : decode code 919 = .ok (.iadd, 1) := by decide +kernel
theorem d_L_919 {nm : String} : zD (m_L nm) 919 (.iadd) 1 920 := ⟨e_L_919, rfl⟩
set_option maxRecDepth 20000 in
theorem e_L_920 : decode code 920 = .ok (.iaload, 1) := by decide +kernel
theorem d_L_920 {nm : String} : zD (m_L nm) 920 (.iaload) 1 921 := ⟨e_L_920, rfl⟩
set_option maxRecDepth 20000 in
theorem e_L_921 : decode code 921 = .ok (.aload_n 0, 1) := by decide +kernel
theorem d_L_921 {nm : String} : zD (m_L nm) 921 (.aload_n 0) 1 922 := ⟨e_L_921, rfl⟩
set_option maxRecDepth 20000 in
theorem e_L_922 : decode code 922 = .ok (.iload_n 3, 1) := by decide +kernel
theorem d_L_922 {nm : String} : zD (m_L nm) 922 (.iload_n 3) 1 923 := ⟨e_L_922, rfl⟩
set_option maxRecDepth 20000 in
theorem e_L_923 : decode code 923 = .ok (.iconst 2, 1) := by decide +kernel
theorem d_L_923 {nm : String} : zD (m_L nm) 923 (.iconst 2) 1 924 := ⟨e_L_923, rfl⟩
set_option maxRecDepth 20000 in
theorem e_L_924 : decode code 924 = .ok (.iadd, 1) := by decide +kernel
theorem d_L_924 {nm : String} : zD (m_L nm) 924 (.iadd) 1 925 := ⟨e_L_924, rfl⟩
set_option maxRecDepth 20000 in
theorem e_L_925 : decode code 925 = .ok (.iaload, 1) := by decide +kernel
theorem d_L_925 {nm : String} : zD (m_L nm) 925 (.iaload) 1 926 := ⟨e_L_925, rfl⟩
set_option maxRecDepth 20000 in
theorem e_L_926 : decode code 926 = .ok (.aload_n 0, 1) := by decide +kernel
theorem d_L_926 {nm : String} : zD (m_L nm) 926 (.aload_n 0) 1 927 := ⟨e_L_926, rfl⟩
set_option maxRecDepth 20000 in
theorem e_L_927 : decode code 927 = .ok (.iload_n 3, 1) := by decide +kernel
theorem d_L_927 {nm : String} : zD (m_L nm) 927 (.iload_n 3) 1 928 := ⟨e_L_927, rfl⟩
set_option maxRecDepth 20000 in
theorem e_L_928 : decode code 928 = .ok (.iconst 3, 1) := by decide +kernel
theorem d_L_928 {nm : String} : zD (m_L nm) 928 (.iconst 3) 1 929 := ⟨e_L_928, rfl⟩
set_option maxRecDepth 20000 in
theorem e_L_929 : decode code 929 = .ok (.iadd, 1) := by decide +kernel
theorem d_L_929 {nm : String} : zD (m_L nm) 929 (.iadd) 1 930 := ⟨e_L_929, rfl⟩
set_option maxRecDepth 20000 in
theorem e_L_930 : decode code 930 = .ok (.iaload, 1) := by decide +kernel
theorem d_L_930 {nm : String} : zD (m_L nm) 930 (.iaload) 1 931 := ⟨e_L_930, rfl⟩
set_option maxRecDepth 20000 in
theorem e_L_931 : decode code 931 = .ok (.invokevirtual 139, 3) := by decide +kernel
theorem d_L_931 {nm : String} : zD (m_L nm) 931 (.invokevirtual 139) 3 934 := ⟨e_L_931, rfl⟩
set_option maxRecDepth 20000 in
theorem e_L_934 : decode code 934 = .ok (.aload_n 2, 1) := by decide +kernel
theorem d_L_934 {nm : String} : zD (m_L nm) 934 (.aload_n 2) 1 935 := ⟨e_L_934, rfl⟩
set_option maxRecDepth 20000 in
theorem e_L_935 : decode code 935 = .ok (.aload_n 0, 1) := by decide +kernel
theorem d_L_935 {nm : String} : zD (m_L nm) 935 (.aload_n 0) 1 936 := ⟨e_L_935, rfl⟩
set_option maxRecDepth 20000 in
theorem e_L_936 : decode code 936 = .ok (.iload_n 3, 1) := by decide +kernel
theorem d_L_936 {nm : String} : zD (m_L nm) 936 (.iload_n 3) 1 937 := ⟨e_L_936, rfl⟩
set_option maxRecDepth 20000 in
theorem e_L_937 : decode code 937 = .ok (.iconst 1, 1) := by decide +kernel
theorem d_L_937 {nm : String} : zD (m_L nm) 937 (.iconst 1) 1 938 := ⟨e_L_937, rfl⟩
set_option maxRecDepth 20000 in
theorem e_L_938 : decode code 938 = .ok (.iadd, 1) := by decide +kernel
theorem d_L_938 {nm : String} : zD (m_L nm) 938 (.iadd) 1 939 := ⟨e_L_938, rfl⟩
set_option maxRecDepth 20000 in
theorem e_L_939 : decode code 939 = .ok (.iaload, 1) := by decide +kernel
theorem d_L_939 {nm : String} : zD (m_L nm) 939 (.iaload) 1 940 := ⟨e_L_939, rfl⟩
set_option maxRecDepth 20000 in
theorem e_L_940 : decode code 940 = .ok (.aload_n 0, 1) := by decide +kernel
theorem d_L_940 {nm : String} : zD (m_L nm) 940 (.aload_n 0) 1 941 := ⟨e_L_940, rfl⟩
set_option maxRecDepth 20000 in
theorem e_L_941 : decode code 941 = .ok (.iload_n 3, 1) := by decide +kernel
theorem d_L_941 {nm : String} : zD (m_L nm) 941 (.iload_n 3) 1 942 := ⟨e_L_941, rfl⟩
set_option maxRecDepth 20000 in
theorem e_L_942 : decode code 942 = .ok (.iconst 2, 1) := by decide +kernel
theorem d_L_942 {nm : String} : zD (m_L nm) 942 (.iconst 2) 1 943 := ⟨e_L_942, rfl⟩
set_option maxRecDepth 20000 in
theorem e_L_943 : decode code 943 = .ok (.iadd, 1) := by decide +kernel
theorem d_L_943 {nm : String} : zD (m_L nm) 943 (.iadd) 1 944 := ⟨e_L_943, rfl⟩
set_option maxRecDepth 20000 in
theorem e_L_944 : decode code 944 = .ok (.iaload, 1) := by decide +kernel
theorem d_L_944 {nm : String} : zD (m_L nm) 944 (.iaload) 1 945 := ⟨e_L_944, rfl⟩
set_option maxRecDepth 20000 in
theorem e_L_945 : decode code 945 = .ok (.aload_n 0, 1) := by decide +kernel
theorem d_L_945 {nm : String} : zD (m_L nm) 945 (.aload_n 0) 1 946 := ⟨e_L_945, rfl⟩
set_option maxRecDepth 20000 in
theorem e_L_946 : decode code 946 = .ok (.iload_n 3, 1) := by decide +kernel
theorem d_L_946 {nm : String} : zD (m_L nm) 946 (.iload_n 3) 1 947 := ⟨e_L_946, rfl⟩
set_option maxRecDepth 20000 in
theorem e_L_947 : decode code 947 = .ok (.iconst 3, 1) := by decide +kernel
theorem d_L_947 {nm : String} : zD (m_L nm) 947 (.iconst 3) 1 948 := ⟨e_L_947, rfl⟩
set_option maxRecDepth 20000 in
theorem e_L_948 : decode code 948 = .ok (.iadd, 1) := by decide +kernel
theorem d_L_948 {nm : String} : zD (m_L nm) 948 (.iadd) 1 949 := ⟨e_L_948, rfl⟩
set_option maxRecDepth 20000 in
theorem e_L_949 : decode code 949 = .ok (.iaload, 1) := by decide +kernel
theorem d_L_949 {nm : String} : zD (m_L nm) 949 (.iaload) 1 950 := ⟨e_L_949, rfl⟩
set_option maxRecDepth 20000 in
theorem e_L_950 : decode code 950 = .ok (.invokevirtual 143, 3) := by decide +kernel
theorem d_L_950 {nm : String} : zD (m_L nm) 950 (.invokevirtual 143) 3 953 := ⟨e_L_950, rfl⟩
set_option maxRecDepth 20000 in
theorem e_L_953 : decode code 953 = .ok (.lcmp, 1) := by decide +kernel
theorem d_L_953 {nm : String} : zD (m_L nm) 953 (.lcmp) 1 954 := ⟨e_L_953, rfl⟩
set_option maxRecDepth 20000 in
theorem e_L_954 : decode code 954 = .ok (.ifCond .eq (226), 3) := by decide +kernel
theorem d_L_954 {nm : String} : zDj (m_L nm) 954 (.ifCond .eq) 957 1180 := ⟨226, e_L_954, rfl, by decide⟩
set_option maxRecDepth 20000 in
theorem e_L_957 : decode code 957 = .ok (.iconst 0, 1) := by decide +kernel
theorem d_L_957 {nm : String} : zD (m_L nm) 957 (.iconst 0) 1 958 := ⟨e_L_957, rfl⟩
set_option maxRecDepth 20000 in
theorem d_L_958 : decode code 958 = .ok (.ireturn, 1) := by decide +kernel
set_option maxRecDepth 20000 in
theorem e_L_959 : decode code 959 = .ok (.aload_n 1, 1) := by decide +kernel
theorem d_L_959 {nm : String} : zD (m_L nm) 959 (.aload_n 1) 1 960 := ⟨e_L_959, rfl⟩
set_option maxRecDepth 20000 in
theorem e_L_960 : decode code 960 = .ok (.aload_n 0, 1) := by decide +kernel
theorem d_L_960 {nm : String} : zD (m_L nm) 960 (.aload_n 0) 1 961 := ⟨e_L_960, rfl⟩
set_option maxRecDepth 20000 in
theorem e_L_961 : decode code 961 = .ok (.iload_n 3, 1) := by decide +kernel
theorem d_L_961 {nm : String} : zD (m_L nm) 961 (.iload_n 3) 1 962 := ⟨e_L_961, rfl⟩
set_option maxRecDepth 20000 in
theorem e_L_962 : decode code 962 = .ok (.iconst 1, 1) := by decide +kernel
theorem d_L_962 {nm : String} : zD (m_L nm) 962 (.iconst 1) 1 963 := ⟨e_L_962, rfl⟩
set_option maxRecDepth 20000 in
theorem e_L_963 : decode code 963 = .ok (.iadd, 1) := by decide +kernel
theorem d_L_963 {nm : String} : zD (m_L nm) 963 (.iadd) 1 964 := ⟨e_L_963, rfl⟩
set_option maxRecDepth 20000 in
theorem e_L_964 : decode code 964 = .ok (.iaload, 1) := by decide +kernel
theorem d_L_964 {nm : String} : zD (m_L nm) 964 (.iaload) 1 965 := ⟨e_L_964, rfl⟩
set_option maxRecDepth 20000 in
theorem e_L_965 : decode code 965 = .ok (.invokevirtual 144, 3) := by decide +kernel
theorem d_L_965 {nm : String} : zD (m_L nm) 965 (.invokevirtual 144) 3 968 := ⟨e_L_965, rfl⟩
set_option maxRecDepth 20000 in
theorem e_L_968 : decode code 968 = .ok (.aload_n 2, 1) := by decide +kernel
theorem d_L_968 {nm : String} : zD (m_L nm) 968 (.aload_n 2) 1 969 := ⟨e_L_968, rfl⟩
set_option maxRecDepth 20000 in
theorem e_L_969 : decode code 969 = .ok (.aload_n 0, 1) := by decide +kernel
theorem d_L_969 {nm : String} : zD (m_L nm) 969 (.aload_n 0) 1 970 := ⟨e_L_969, rfl⟩
set_option maxRecDepth 20000 in
theorem e_L_970 : decode code 970 = .ok (.iload_n 3, 1) := by decide +kernel
theorem d_L_970 {nm : String} : zD (m_L nm) 970 (.iload_n 3) 1 971 := ⟨e_L_970, rfl⟩
set_option maxRecDepth 20000 in
theorem e_L_971 : decode code 971 = .ok (.iconst 1, 1) := by decide +kernel
theorem d_L_971 {nm : String} : zD (m_L nm) 971 (.iconst 1) 1 972 := ⟨e_L_971, rfl⟩
set_option maxRecDepth 20000 in
theorem e_L_972 : decode code 972 = .ok (.iadd, 1) := by decide +kernel
theorem d_L_972 {nm : String} : zD (m_L nm) 972 (.iadd) 1 973 := ⟨e_L_972, rfl⟩
set_option maxRecDepth 20000 in
theorem e_L_973 : decode code 973 = .ok (.iaload, 1) := by decide +kernel
theorem d_L_973 {nm : String} : zD (m_L nm) 973 (.iaload) 1 974 := ⟨e_L_973, rfl⟩
set_option maxRecDepth 20000 in
theorem e_L_974 : decode code 974 = .ok (.invokevirtual 147, 3) := by decide +kernel
theorem d_L_974 {nm : String} : zD (m_L nm) 974 (.invokevirtual 147) 3 977 := ⟨e_L_974, rfl⟩
set_option maxRecDepth 20000 in
theorem e_L_977 : decode code 977 = .ok (.if_icmp .eq (203), 3) := by decide +kernel
theorem d_L_977 {nm : String} : zDj (m_L nm) 977 (.if_icmp .eq) 980 1180 := ⟨203, e_L_977, rfl, by decide⟩
set_option maxRecDepth 20000 in
theorem e_L_980 : decode code 980 = .ok (.iconst 0, 1) := by decide +kernel
theorem d_L_980 {nm : String} : zD (m_L nm) 980 (.iconst 0) 1 981 := ⟨e_L_980, rfl⟩
set_option maxRecDepth 20000 in
theorem d_L_981 : decode code 981 = .ok (.ireturn, 1) := by decide +kernel
set_option maxRecDepth 20000 in
theorem e_L_982 : decode code 982 = .ok (.aload_n 1, 1) := by decide +kernel
theorem d_L_982 {nm : String} : zD (m_L nm) 982 (.aload_n 1) 1 983 := ⟨e_L_982, rfl⟩
set_option maxRecDepth 20000 in
theorem e_L_983 : decode code 983 = .ok (.aload_n 0, 1) := by decide +kernel
theorem d_L_983 {nm : String} : zD (m_L nm) 983 (.aload_n 0) 1 984 := ⟨e_L_983, rfl⟩
set_option maxRecDepth 20000 in
theorem e_L_984 : decode code 984 = .ok (.iload_n 3, 1) := by decide +kernel
theorem d_L_984 {nm : String} : zD (m_L nm) 984 (.iload_n 3) 1 985 := ⟨e_L_984, rfl⟩
set_option maxRecDepth 20000 in
theorem e_L_985 : decode code 985 = .ok (.iconst 1, 1) := by decide +kernel
theorem d_L_985 {nm : String} : zD (m_L nm) 985 (.iconst 1) 1 986 := ⟨e_L_985, rfl⟩
set_option maxRecDepth 20000 in
theorem e_L_986 : decode code 986 = .ok (.iadd, 1) := by decide +kernel
theorem d_L_986 {nm : String} : zD (m_L nm) 986 (.iadd) 1 987 := ⟨e_L_986, rfl⟩
set_option maxRecDepth 20000 in
theorem e_L_987 : decode code 987 = .ok (.iaload, 1) := by decide +kernel
theorem d_L_987 {nm : String} : zD (m_L nm) 987 (.iaload) 1 988 := ⟨e_L_987, rfl⟩
set_option maxRecDepth 20000 in
theorem e_L_988 : decode code 988 = .ok (.invokevirtual 148, 3) := by decide +kernel
theorem d_L_988 {nm : String} : zD (m_L nm) 988 (.invokevirtual 148) 3 991 := ⟨e_L_988, rfl⟩
set_option maxRecDepth 20000 in
theorem e_L_991 : decode code 991 = .ok (.aload_n 2, 1) := by decide +kernel
theorem d_L_991 {nm : String} : zD (m_L nm) 991 (.aload_n 2) 1 992 := ⟨e_L_991, rfl⟩
set_option maxRecDepth 20000 in
theorem e_L_992 : decode code 992 = .ok (.aload_n 0, 1) := by decide +kernel
theorem d_L_992 {nm : String} : zD (m_L nm) 992 (.aload_n 0) 1 993 := ⟨e_L_992, rfl⟩
set_option maxRecDepth 20000 in
theorem e_L_993 : decode code 993 = .ok (.iload_n 3, 1) := by decide +kernel
theorem d_L_993 {nm : String} : zD (m_L nm) 993 (.iload_n 3) 1 994 := ⟨e_L_993, rfl⟩
set_option maxRecDepth 20000 in
theorem e_L_994 : decode code 994 = .ok (.iconst 1, 1) := by decide +kernel
theorem d_L_994 {nm : String} : zD (m_L nm) 994 (.iconst 1) 1 995 := ⟨e_L_994, rfl⟩
set_option maxRecDepth 20000 in
theorem e_L_995 : decode code 995 = .ok (.iadd, 1) := by decide +kernel
theorem d_L_995 {nm : String} : zD (m_L nm) 995 (.iadd) 1 996 := ⟨e_L_995, rfl⟩
set_option maxRecDepth 20000 in
theorem e_L_996 : decode code 996 = .ok (.iaload, 1) := by decide +kernel
theorem d_L_996 {nm : String} : zD (m_L nm) 996 (.iaload) 1 997 := ⟨e_L_996, rfl⟩
set_option maxRecDepth 20000 in
theorem e_L_997 : decode code 997 = .ok (.invokevirtual 151, 3) := by decide +kernel
theorem d_L_997 {nm : String} : zD (m_L nm) 997 (.invokevirtual 151) 3 1000 := ⟨e_L_997, rfl⟩
set_option maxRecDepth 20000 in
theorem e_L_1000 : decode code 1000 = .ok (.if_icmp .eq (180), 3) := by decide +kernel
theorem d_L_1000 {nm : String} : zDj (m_L nm) 1000 (.if_icmp .eq) 1003 1180 := ⟨180, e_L_1000, rfl, by decide⟩
set_option maxRecDepth 20000 in
theorem e_L_1003 : decode code 1003 = .ok (.iconst 0, 1) := by decide +kernel
theorem d_L_1003 {nm : String} : zD (m_L nm) 1003 (.iconst 0) 1 1004 := ⟨e_L_1003, rfl⟩
set_option maxRecDepth 20000 in
theorem d_L_1004 : decode code 1004 = .ok (.ireturn, 1) := by decide +kernel
set_option maxRecDepth 20000 in
theorem e_L_1005 : decode code 1005 = .ok (.aload_n 1, 1) := by decide +kernel
theorem d_L_1005 {nm : String} : zD (m_L nm) 1005 (.aload_n 1) 1 1006 := ⟨e_L_1005, rfl⟩
set_option maxRecDepth 20000 in
theorem e_L_1006 : decode code 1006 = .ok (.aload_n 0, 1) := by decide +kernel
theorem d_L_1006 {nm : String} : zD (m_L nm) 1006 (.aload_n 0) 1 1007 := ⟨e_L_1006, rfl⟩
set_option maxRecDepth 20000 in
theorem e_L_1007 : decode code 1007 = .ok (.iload_n 3, 1) := by decide +kernel
theorem d_L_1007 {nm : String} : zD (m_L nm) 1007 (.iload_n 3) 1 1008 := ⟨e_L_1007, rfl⟩
set_option maxRecDepth 20000 in
theorem e_L_1008 : decode code 1008 = .ok (.iconst 1, 1) := by decide +kernel
theorem d_L_1008 {nm : String} : zD (m_L nm) 1008 (.iconst 1) 1 1009 := ⟨e_L_1008, rfl⟩
set_option maxRecDepth 20000 in
theorem e_L_1009 : decode code 1009 = .ok (.iadd, 1) := by decide +kernel
theorem d_L_1009 {nm : String} : zD (m_L nm) 1009 (.iadd) 1 1010 := ⟨e_L_1009, rfl⟩
set_option maxRecDepth 20000 in
theorem e_L_1010 : decode code 1010 = .ok (.iaload, 1) := by decide +kernel
theorem d_L_1010 {nm : String} : zD (m_L nm) 1010 (.iaload) 1 1011 := ⟨e_L_1010, rfl⟩
set_option maxRecDepth 20000 in
theorem e_L_1011 : decode code 1011 = .ok (.aload_n 0, 1) := by decide +kernel
theorem d_L_1011 {nm : String} : zD (m_L nm) 1011 (.aload_n 0) 1 1012 := ⟨e_L_1011, rfl⟩
set_option maxRecDepth 20000 in
theorem e_L_1012 : decode code 1012 = .ok (.iload_n 3, 1) := by decide +kernel
theorem d_L_1012 {nm : String} : zD (m_L nm) 1012 (.iload_n 3) 1 1013 := ⟨e_L_1012, rfl⟩
set_option maxRecDepth 20000 in
theorem e_L_1013 : decode code 1013 = .ok (.iconst 2, 1) := by decide +kernel
theorem d_L_1013 {nm : String} : zD (m_L nm) 1013 (.iconst 2) 1 1014 := ⟨e_L_1013, rfl⟩
set_option maxRecDepth 20000 in
theorem e_L_1014 : decode code 1014 = .ok (.iadd, 1) := by decide +kernel
theorem d_L_1014 {nm : String} : zD (m_L nm) 1014 (.iadd) 1 1015 := ⟨e_L_1014, rfl⟩
set_option maxRecDepth 20000 in
theorem e_L_1015 : decode code 1015 = .ok (.iaload, 1) := by decide +kernel
theorem d_L_1015 {nm : String} : zD (m_L nm) 1015 (.iaload) 1 1016 := ⟨e_L_1015, rfl⟩
set_option maxRecDepth 20000 in
theorem e_L_1016 : decode code 1016 = .ok (.aload_n 0, 1) := by decide +kernel
theorem d_L_1016 {nm : String} : zD (m_L nm) 1016 (.aload_n 0) 1 1017 := ⟨e_L_1016, rfl⟩
set_option maxRecDepth 20000 in
theorem e_L_1017 : decode code 1017 = .ok (.iload_n 3, 1) := by decide +kernel
theorem d_L_1017 {nm : String} : zD (m_L nm) 1017 (.iload_n 3) 1 1018 := ⟨e_L_1017, rfl⟩
set_option maxRecDepth 20000 in
theorem e_L_1018 : decode code 1018 = .ok (.iconst 3, 1) := by decide +kernel
theorem d_L_1018 {nm : String} : zD (m_L nm) 1018 (.iconst 3) 1 1019 := ⟨e_L_1018, rfl⟩
set_option maxRecDepth 20000 in
theorem e_L_1019 : decode code 1019 = .ok (.iadd, 1) := by decide +kernel
theorem d_L_1019 {nm : String} : zD (m_L nm) 1019 (.iadd) 1 1020 := ⟨e_L_1019, rfl⟩
set_option maxRecDepth 20000 in
theorem e_L_1020 : decode code 1020 = .ok (.iaload, 1) := by decide +kernel
theorem d_L_1020 {nm : String} : zD (m_L nm) 1020 (.iaload) 1 1021 := ⟨e_L_1020, rfl⟩
set_option maxRecDepth 20000 in
theorem e_L_1021 : decode code 1021 = .ok (.invokevirtual 152, 3) := by decide +kernel
theorem d_L_1021 {nm : String} : zD (m_L nm) 1021 (.invokevirtual 152) 3 1024 := ⟨e_L_1021, rfl⟩
set_option maxRecDepth 20000 in
theorem e_L_1024 : decode code 1024 = .ok (.aload_n 2, 1) := by decide +kernel
theorem d_L_1024 {nm : String} : zD (m_L nm) 1024 (.aload_n 2) 1 1025 := ⟨e_L_1024, rfl⟩
set_option maxRecDepth 20000 in
theorem e_L_1025 : decode code 1025 = .ok (.aload_n 0, 1) := by decide +kernel
theorem d_L_1025 {nm : String} : zD (m_L nm) 1025 (.aload_n 0) 1 1026 := ⟨e_L_1025, rfl⟩
set_option maxRecDepth 20000 in
theorem e_L_1026 : decode code 1026 = .ok (.iload_n 3, 1) := by decide +kernel
theorem d_L_1026 {nm : String} : zD (m_L nm) 1026 (.iload_n 3) 1 1027 := ⟨e_L_1026, rfl⟩
set_option maxRecDepth 20000 in
theorem e_L_1027 : decode code 1027 = .ok (.iconst 1, 1) := by decide +kernel
theorem d_L_1027 {nm : String} : zD (m_L nm) 1027 (.iconst 1) 1 1028 := ⟨e_L_1027, rfl⟩
set_option maxRecDepth 20000 in
theorem e_L_1028 : decode code 1028 = .ok (.iadd, 1) := by decide +kernel
theorem d_L_1028 {nm : String} : zD (m_L nm) 1028 (.iadd) 1 1029 := ⟨e_L_1028, rfl⟩
set_option maxRecDepth 20000 in
theorem e_L_1029 : decode code 1029 = .ok (.iaload, 1) := by decide +kernel
theorem d_L_1029 {nm : String} : zD (m_L nm) 1029 (.iaload) 1 1030 := ⟨e_L_1029, rfl⟩
set_option maxRecDepth 20000 in
theorem e_L_1030 : decode code 1030 = .ok (.aload_n 0, 1) := by decide +kernel
theorem d_L_1030 {nm : String} : zD (m_L nm) 1030 (.aload_n 0) 1 1031 := ⟨e_L_1030, rfl⟩
set_option maxRecDepth 20000 in
theorem e_L_1031 : decode code 1031 = .ok (.iload_n 3, 1) := by decide +kernel
theorem d_L_1031 {nm : String} : zD (m_L nm) 1031 (.iload_n 3) 1 1032 := ⟨e_L_1031, rfl⟩
set_option maxRecDepth 20000 in
theorem e_L_1032 : decode code 1032 = .ok (.iconst 2, 1) := by decide +kernel
theorem d_L_1032 {nm : String} : zD (m_L nm) 1032 (.iconst 2) 1 1033 := ⟨e_L_1032, rfl⟩
set_option maxRecDepth 20000 in
theorem e_L_1033 : decode code 1033 = .ok (.iadd, 1) := by decide +kernel
theorem d_L_1033 {nm : String} : zD (m_L nm) 1033 (.iadd) 1 1034 := ⟨e_L_1033, rfl⟩
set_option maxRecDepth 20000 in
theorem e_L_1034 : decode code 1034 = .ok (.iaload, 1) := by decide +kernel
theorem d_L_1034 {nm : String} : zD (m_L nm) 1034 (.iaload) 1 1035 := ⟨e_L_1034, rfl⟩
set_option maxRecDepth 20000 in
theorem e_L_1035 : decode code 1035 = .ok (.aload_n 0, 1) := by decide +kernel
theorem d_L_1035 {nm : String} : zD (m_L nm) 1035 (.aload_n 0) 1 1036 := ⟨e_L_1035, rfl⟩
set_option maxRecDepth 20000 in
theorem e_L_1036 : decode code 1036 = .ok (.iload_n 3, 1) := by decide +kernel
theorem d_L_1036 {nm : String} : zD (m_L nm) 1036 (.iload_n 3) 1 1037 := ⟨e_L_1036, rfl⟩
set_option maxRecDepth 20000 in
theorem e_L_1037 : decode code 1037 = .ok (.iconst 3, 1) := by decide +kernel
theorem d_L_1037 {nm : String} : zD (m_L nm) 1037 (.iconst 3) 1 1038 := ⟨e_L_1037, rfl⟩
set_option maxRecDepth 20000 in
theorem e_L_1038 : decode code 1038 = .ok (.iadd, 1) := by decide +kernel
theorem d_L_1038 {nm : String} : zD (m_L nm) 1038 (.iadd) 1 1039 := ⟨e_L_1038, rfl⟩
set_option maxRecDepth 20000 in
theorem e_L_1039 : decode code 1039 = .ok (.iaload, 1) := by decide +kernel
theorem d_L_1039 {nm : String} : zD (m_L nm) 1039 (.iaload) 1 1040 := ⟨e_L_1039, rfl⟩
set_option maxRecDepth 20000 in
theorem e_L_1040 : decode code 1040 = .ok (.invokevirtual 155, 3) := by decide +kernel
theorem d_L_1040 {nm : String} : zD (m_L nm) 1040 (.invokevirtual 155) 3 1043 := ⟨e_L_1040, rfl⟩
set_option maxRecDepth 20000 in
theorem e_L_1043 : decode code 1043 = .ok (.if_icmp .eq (137), 3) := by decide +kernel
theorem d_L_1043 {nm : String} : zDj (m_L nm) 1043 (.if_icmp .eq) 1046 1180 := ⟨137, e_L_1043, rfl, by decide⟩
set_option maxRecDepth 20000 in
theorem e_L_1046 : decode code 1046 = .ok (.iconst 0, 1) := by decide +kernel
theorem d_L_1046 {nm : String} : zD (m_L nm) 1046 (.iconst 0) 1 1047 := ⟨e_L_1046, rfl⟩
set_option maxRecDepth 20000 in
theorem d_L_1047 : decode code 1047 = .ok (.ireturn, 1) := by decide +kernel
set_option maxRecDepth 20000 in
theorem e_L_1048 : decode code 1048 = .ok (.aload_n 1, 1) := by decide +kernel
theorem d_L_1048 {nm : String} : zD (m_L nm) 1048 (.aload_n 1) 1 1049 := ⟨e_L_1048, rfl⟩
set_option maxRecDepth 20000 in
theorem e_L_1049 : decode code 1049 = .ok (.aload_n 0, 1) := by decide +kernel
theorem d_L_1049 {nm : String} : zD (m_L nm) 1049 (.aload_n 0) 1 1050 := ⟨e_L_1049, rfl⟩
set_option maxRecDepth 20000 in
theorem e_L_1050 : decode code 1050 = .ok (.iload_n 3, 1) := by decide +kernel
theorem d_L_1050 {nm : String} : zD (m_L nm) 1050 (.iload_n 3) 1 1051 := ⟨e_L_1050, rfl⟩
set_option maxRecDepth 20000 in
theorem e_L_1051 : decode code 1051 = .ok (.iconst 1, 1) := by decide +kernel
theorem d_L_1051 {nm : String} : zD (m_L nm) 1051 (.iconst 1) 1 1052 := ⟨e_L_1051, rfl⟩
set_option maxRecDepth 20000 in
theorem e_L_1052 : decode code 1052 = .ok (.iadd, 1) := by decide +kernel
theorem d_L_1052 {nm : String} : zD (m_L nm) 1052 (.iadd) 1 1053 := ⟨e_L_1052, rfl⟩
set_option maxRecDepth 20000 in
theorem e_L_1053 : decode code 1053 = .ok (.iaload, 1) := by decide +kernel
theorem d_L_1053 {nm : String} : zD (m_L nm) 1053 (.iaload) 1 1054 := ⟨e_L_1053, rfl⟩
set_option maxRecDepth 20000 in
theorem e_L_1054 : decode code 1054 = .ok (.aload_n 0, 1) := by decide +kernel
theorem d_L_1054 {nm : String} : zD (m_L nm) 1054 (.aload_n 0) 1 1055 := ⟨e_L_1054, rfl⟩
set_option maxRecDepth 20000 in
theorem e_L_1055 : decode code 1055 = .ok (.iload_n 3, 1) := by decide +kernel
theorem d_L_1055 {nm : String} : zD (m_L nm) 1055 (.iload_n 3) 1 1056 := ⟨e_L_1055, rfl⟩
set_option maxRecDepth 20000 in
theorem e_L_1056 : decode code 1056 = .ok (.iconst 2, 1) := by decide +kernel
theorem d_L_1056 {nm : String} : zD (m_L nm) 1056 (.iconst 2) 1 1057 := ⟨e_L_1056, rfl⟩
set_option maxRecDepth 20000 in
theorem e_L_1057 : decode code 1057 = .ok (.iadd, 1) := by decide +kernel
theorem d_L_1057 {nm : String} : zD (m_L nm) 1057 (.iadd) 1 1058 := ⟨e_L_1057, rfl⟩
set_option maxRecDepth 20000 in
theorem e_L_1058 : decode code 1058 = .ok (.iaload, 1) := by decide +kernel
theorem d_L_1058 {nm : String} : zD (m_L nm) 1058 (.iaload) 1 1059 := ⟨e_L_1058, rfl⟩
set_option maxRecDepth 20000 in
theorem e_L_1059 : decode code 1059 = .ok (.aload_n 0, 1) := by decide +kernel
theorem d_L_1059 {nm : String} : zD (m_L nm) 1059 (.aload_n 0) 1 1060 := ⟨e_L_1059, rfl⟩
set_option maxRecDepth 20000 in
theorem e_L_1060 : decode code 1060 = .ok (.iload_n 3, 1) := by decide +kernel
theorem d_L_1060 {nm : String} : zD (m_L nm) 1060 (.iload_n 3) 1 1061 := ⟨e_L_1060, rfl⟩
set_option maxRecDepth 20000 in
theorem e_L_1061 : decode code 1061 = .ok (.iconst 3, 1) := by decide +kernel
theorem d_L_1061 {nm : String} : zD (m_L nm) 1061 (.iconst 3) 1 1062 := ⟨e_L_1061, rfl⟩
set_option maxRecDepth 20000 in
theorem e_L_1062 : decode code 1062 = .ok (.iadd, 1) := by decide +kernel
theorem d_L_1062 {nm : String} : zD (m_L nm) 1062 (.iadd) 1 1063 := ⟨e_L_1062, rfl⟩
set_option maxRecDepth 20000 in
theorem e_L_1063 : decode code 1063 = .ok (.iaload, 1) := by decide +kernel
theorem d_L_1063 {nm : String} : zD (m_L nm) 1063 (.iaload) 1 1064 := ⟨e_L_1063, rfl⟩
set_option maxRecDepth 20000 in
theorem e_L_1064 : decode code 1064 = .ok (.invokevirtual 156, 3) := by decide +kernel
theorem d_L_1064 {nm : String} : zD (m_L nm) 1064 (.invokevirtual 156) 3 1067 := ⟨e_L_1064, rfl⟩
set_option maxRecDepth 20000 in
theorem e_L_1067 : decode code 1067 = .ok (.aload_n 2, 1) := by decide +kernel
theorem d_L_1067 {nm : String} : zD (m_L nm) 1067 (.aload_n 2) 1 1068 := ⟨e_L_1067, rfl⟩
set_option maxRecDepth 20000 in
theorem e_L_1068 : decode code 1068 = .ok (.aload_n 0, 1) := by decide +kernel
theorem d_L_1068 {nm : String} : zD (m_L nm) 1068 (.aload_n 0) 1 1069 := ⟨e_L_1068, rfl⟩
set_option maxRecDepth 20000 in
theorem e_L_1069 : decode code 1069 = .ok (.iload_n 3, 1) := by decide +kernel
theorem d_L_1069 {nm : String} : zD (m_L nm) 1069 (.iload_n 3) 1 1070 := ⟨e_L_1069, rfl⟩
set_option maxRecDepth 20000 in
theorem e_L_1070 : decode code 1070 = .ok (.iconst 1, 1) := by decide +kernel
theorem d_L_1070 {nm : String} : zD (m_L nm) 1070 (.iconst 1) 1 1071 := ⟨e_L_1070, rfl⟩
set_option maxRecDepth 20000 in
theorem e_L_1071 : decode code 1071 = .ok (.iadd, 1) := by decide +kernel
theorem d_L_1071 {nm : String} : zD (m_L nm) 1071 (.iadd) 1 1072 := ⟨e_L_1071, rfl⟩
set_option maxRecDepth 20000 in
theorem e_L_1072 : decode code 1072 = .ok (.iaload, 1) := by decide +kernel
theorem d_L_1072 {nm : String} : zD (m_L nm) 1072 (.iaload) 1 1073 := ⟨e_L_1072, rfl⟩
set_option maxRecDepth 20000 in
theorem e_L_1073 : decode code 1073 = .ok (.aload_n 0, 1) := by decide +kernel
theorem d_L_1073 {nm : String} : zD (m_L nm) 1073 (.aload_n 0) 1 1074 := ⟨e_L_1073, rfl⟩
set_option maxRecDepth 20000 in
theorem e_L_1074 : decode code 1074 = .ok (.iload_n 3, 1) := by decide +kernel
theorem d_L_1074 {nm : String} : zD (m_L nm) 1074 (.iload_n 3) 1 1075 := ⟨e_L_1074, rfl⟩
set_option maxRecDepth 20000 in
theorem e_L_1075 : decode code 1075 = .ok (.iconst 2, 1) := by decide +kernel
theorem d_L_1075 {nm : String} : zD (m_L nm) 1075 (.iconst 2) 1 1076 := ⟨e_L_1075, rfl⟩
set_option maxRecDepth 20000 in
theorem e_L_1076 : decode code 1076 = .ok (.iadd, 1) := by decide +kernel
theorem d_L_1076 {nm : String} : zD (m_L nm) 1076 (.iadd) 1 1077 := ⟨e_L_1076, rfl⟩
set_option maxRecDepth 20000 in
theorem e_L_1077 : decode code 1077 = .ok (.iaload, 1) := by decide +kernel
theorem d_L_1077 {nm : String} : zD (m_L nm) 1077 (.iaload) 1 1078 := ⟨e_L_1077, rfl⟩
set_option maxRecDepth 20000 in
theorem e_L_1078 : decode code 1078 = .ok (.aload_n 0, 1) := by decide +kernel
theorem d_L_1078 {nm : String} : zD (m_L nm) 1078 (.aload_n 0) 1 1079 := ⟨e_L_1078, rfl⟩
set_option maxRecDepth 20000 in
theorem e_L_1079 : decode code 1079 = .ok (.iload_n 3, 1) := by decide +kernel
theorem d_L_1079 {nm : String} : zD (m_L nm) 1079 (.iload_n 3) 1 1080 := ⟨e_L_1079, rfl⟩
set_option maxRecDepth 20000 in
theorem e_L_1080 : decode code 1080 = .ok (.iconst 3, 1) := by decide +kernel
theorem d_L_1080 {nm : String} : zD (m_L nm) 1080 (.iconst 3) 1 1081 := ⟨e_L_1080, rfl⟩
set_option maxRecDepth 20000 in
theorem e_L_1081 : decode code 1081 = .ok (.iadd, 1) := by decide +kernel
theorem d_L_1081 {nm : String} : zD (m_L nm) 1081 (.iadd) 1 1082 := ⟨e_L_1081, rfl⟩
set_option maxRecDepth 20000 in
theorem e_L_1082 : decode code 1082 = .ok (.iaload, 1) := by decide +kernel
theorem d_L_1082 {nm : String} : zD (m_L nm) 1082 (.iaload) 1 1083 := ⟨e_L_1082, rfl⟩
set_option maxRecDepth 20000 in
theorem e_L_1083 : decode code 1083 = .ok (.invokevirtual 159, 3) := by decide +kernel
theorem d_L_1083 {nm : String} : zD (m_L nm) 1083 (.invokevirtual 159) 3 1086 := ⟨e_L_1083, rfl⟩
set_option maxRecDepth 20000 in
theorem e_L_1086 : decode code 1086 = .ok (.if_icmp .eq (94), 3) := by decide +kernel
theorem d_L_1086 {nm : String} : zDj (m_L nm) 1086 (.if_icmp .eq) 1089 1180 := ⟨94, e_L_1086, rfl, by decide⟩
set_option maxRecDepth 20000 in
theorem e_L_1089 : decode code 1089 = .ok (.iconst 0, 1) := by decide +kernel
theorem d_L_1089 {nm : String} : zD (m_L nm) 1089 (.iconst 0) 1 1090 := ⟨e_L_1089, rfl⟩
set_option maxRecDepth 20000 in
theorem d_L_1090 : decode code 1090 = .ok (.ireturn, 1) := by decide +kernel
set_option maxRecDepth 20000 in
theorem e_L_1091 : decode code 1091 = .ok (.aload_n 1, 1) := by decide +kernel
theorem d_L_1091 {nm : String} : zD (m_L nm) 1091 (.aload_n 1) 1 1092 := ⟨e_L_1091, rfl⟩
set_option maxRecDepth 20000 in
theorem e_L_1092 : decode code 1092 = .ok (.aload_n 0, 1) := by decide +kernel
theorem d_L_1092 {nm : String} : zD (m_L nm) 1092 (.aload_n 0) 1 1093 := ⟨e_L_1092, rfl⟩
set_option maxRecDepth 20000 in
theorem e_L_1093 : decode code 1093 = .ok (.iload_n 3, 1) := by decide +kernel
theorem d_L_1093 {nm : String} : zD (m_L nm) 1093 (.iload_n 3) 1 1094 := ⟨e_L_1093, rfl⟩
set_option maxRecDepth 20000 in
theorem e_L_1094 : decode code 1094 = .ok (.iconst 1, 1) := by decide +kernel
theorem d_L_1094 {nm : String} : zD (m_L nm) 1094 (.iconst 1) 1 1095 := ⟨e_L_1094, rfl⟩
set_option maxRecDepth 20000 in
theorem e_L_1095 : decode code 1095 = .ok (.iadd, 1) := by decide +kernel
theorem d_L_1095 {nm : String} : zD (m_L nm) 1095 (.iadd) 1 1096 := ⟨e_L_1095, rfl⟩
set_option maxRecDepth 20000 in
theorem e_L_1096 : decode code 1096 = .ok (.iaload, 1) := by decide +kernel
theorem d_L_1096 {nm : String} : zD (m_L nm) 1096 (.iaload) 1 1097 := ⟨e_L_1096, rfl⟩
set_option maxRecDepth 20000 in
theorem e_L_1097 : decode code 1097 = .ok (.aload_n 0, 1) := by decide +kernel
theorem d_L_1097 {nm : String} : zD (m_L nm) 1097 (.aload_n 0) 1 1098 := ⟨e_L_1097, rfl⟩
set_option maxRecDepth 20000 in
theorem e_L_1098 : decode code 1098 = .ok (.iload_n 3, 1) := by decide +kernel
theorem d_L_1098 {nm : String} : zD (m_L nm) 1098 (.iload_n 3) 1 1099 := ⟨e_L_1098, rfl⟩
set_option maxRecDepth 20000 in
theorem e_L_1099 : decode code 1099 = .ok (.iconst 2, 1) := by decide +kernel
theorem d_L_1099 {nm : String} : zD (m_L nm) 1099 (.iconst 2) 1 1100 := ⟨e_L_1099, rfl⟩
set_option maxRecDepth 20000 in
theorem e_L_1100 : decode code 1100 = .ok (.iadd, 1) := by decide +kernel
theorem d_L_1100 {nm : String} : zD (m_L nm) 1100 (.iadd) 1 1101 := ⟨e_L_1100, rfl⟩
set_option maxRecDepth 20000 in
theorem e_L_1101 : decode code 1101 = .ok (.iaload, 1) := by decide +kernel
theorem d_L_1101 {nm : String} : zD (m_L nm) 1101 (.iaload) 1 1102 := ⟨e_L_1101, rfl⟩
set_option maxRecDepth 20000 in
theorem e_L_1102 : decode code 1102 = .ok (.aload_n 0, 1) := by decide +kernel
theorem d_L_1102 {nm : String} : zD (m_L nm) 1102 (.aload_n 0) 1 1103 := ⟨e_L_1102, rfl⟩
set_option maxRecDepth 20000 in
theorem e_L_1103 : decode code 1103 = .ok (.iload_n 3, 1) := by decide +kernel
theorem d_L_1103 {nm : String} : zD (m_L nm) 1103 (.iload_n 3) 1 1104 := ⟨e_L_1103, rfl⟩
set_option maxRecDepth 20000 in
theorem e_L_1104 : decode code 1104 = .ok (.iconst 3, 1) := by decide +kernel
theorem d_L_1104 {nm : String} : zD (m_L nm) 1104 (.iconst 3) 1 1105 := ⟨e_L_1104, rfl⟩
set_option maxRecDepth 20000 in
theorem e_L_1105 : decode code 1105 = .ok (.iadd, 1) := by decide +kernel
theorem d_L_1105 {nm : String} : zD (m_L nm) 1105 (.iadd) 1 1106 := ⟨e_L_1105, rfl⟩
set_option maxRecDepth 20000 in
theorem e_L_1106 : decode code 1106 = .ok (.iaload, 1) := by decide +kernel
theorem d_L_1106 {nm : String} : zD (m_L nm) 1106 (.iaload) 1 1107 := ⟨e_L_1106, rfl⟩
set_option maxRecDepth 20000 in
theorem e_L_1107 : decode code 1107 = .ok (.aload_n 0, 1) := by decide +kernel
theorem d_L_1107 {nm : String} : zD (m_L nm) 1107 (.aload_n 0) 1 1108 := ⟨e_L_1107, rfl⟩
set_option maxRecDepth 20000 in
theorem e_L_1108 : decode code 1108 = .ok (.iload_n 3, 1) := by decide +kernel
theorem d_L_1108 {nm : String} : zD (m_L nm) 1108 (.iload_n 3) 1 1109 := ⟨e_L_1108, rfl⟩
set_option maxRecDepth 20000 in
theorem e_L_1109 : decode code 1109 = .ok (.iconst 4, 1) := by decide +kernel
theorem d_L_1109 {nm : String} : zD (m_L nm) 1109 (.iconst 4) 1 1110 := ⟨e_L_1109, rfl⟩
set_option maxRecDepth 20000 in
theorem e_L_1110 : decode code 1110 = .ok (.iadd, 1) := by decide +kernel
theorem d_L_1110 {nm : String} : zD (m_L nm) 1110 (.iadd) 1 1111 := ⟨e_L_1110, rfl⟩
set_option maxRecDepth 20000 in
theorem e_L_1111 : decode code 1111 = .ok (.iaload, 1) := by decide +kernel
theorem d_L_1111 {nm : String} : zD (m_L nm) 1111 (.iaload) 1 1112 := ⟨e_L_1111, rfl⟩
set_option maxRecDepth 20000 in
theorem e_L_1112 : decode code 1112 = .ok (.invokevirtual 160, 3) := by decide +kernel
theorem d_L_1112 {nm : String} : zD (m_L nm) 1112 (.invokevirtual 160) 3 1115 := ⟨e_L_1112, rfl⟩
set_option maxRecDepth 20000 in
theorem e_L_1115 : decode code 1115 = .ok (.aload_n 2, 1) := by decide +kernel
theorem d_L_1115 {nm : String} : zD (m_L nm) 1115 (.aload_n 2) 1 1116 := ⟨e_L_1115, rfl⟩
set_option maxRecDepth 20000 in
theorem e_L_1116 : decode code 1116 = .ok (.aload_n 0, 1) := by decide +kernel
theorem d_L_1116 {nm : String} : zD (m_L nm) 1116 (.aload_n 0) 1 1117 := ⟨e_L_1116, rfl⟩
set_option maxRecDepth 20000 in
theorem e_L_1117 : decode code 1117 = .ok (.iload_n 3, 1) := by decide +kernel
theorem d_L_1117 {nm : String} : zD (m_L nm) 1117 (.iload_n 3) 1 1118 := ⟨e_L_1117, rfl⟩
set_option maxRecDepth 20000 in
theorem e_L_1118 : decode code 1118 = .ok (.iconst 1, 1) := by decide +kernel
theorem d_L_1118 {nm : String} : zD (m_L nm) 1118 (.iconst 1) 1 1119 := ⟨e_L_1118, rfl⟩
set_option maxRecDepth 20000 in
theorem e_L_1119 : decode code 1119 = .ok (.iadd, 1) := by decide +kernel
theorem d_L_1119 {nm : String} : zD (m_L nm) 1119 (.iadd) 1 1120 := ⟨e_L_1119, rfl⟩
set_option maxRecDepth 20000 in
theorem e_L_1120 : decode code 1120 = .ok (.iaload, 1) := by decide +kernel
theorem d_L_1120 {nm : String} : zD (m_L nm) 1120 (.iaload) 1 1121 := ⟨e_L_1120, rfl⟩
set_option maxRecDepth 20000 in
theorem e_L_1121 : decode code 1121 = .ok (.aload_n 0, 1) := by decide +kernel
theorem d_L_1121 {nm : String} : zD (m_L nm) 1121 (.aload_n 0) 1 1122 := ⟨e_L_1121, rfl⟩
set_option maxRecDepth 20000 in
theorem e_L_1122 : decode code 1122 = .ok (.iload_n 3, 1) := by decide +kernel
theorem d_L_1122 {nm : String} : zD (m_L nm) 1122 (.iload_n 3) 1 1123 := ⟨e_L_1122, rfl⟩
set_option maxRecDepth 20000 in
theorem e_L_1123 : decode code 1123 = .ok (.iconst 2, 1) := by decide +kernel
theorem d_L_1123 {nm : String} : zD (m_L nm) 1123 (.iconst 2) 1 1124 := ⟨e_L_1123, rfl⟩
set_option maxRecDepth 20000 in
theorem e_L_1124 : decode code 1124 = .ok (.iadd, 1) := by decide +kernel
theorem d_L_1124 {nm : String} : zD (m_L nm) 1124 (.iadd) 1 1125 := ⟨e_L_1124, rfl⟩
set_option maxRecDepth 20000 in
theorem e_L_1125 : decode code 1125 = .ok (.iaload, 1) := by decide +kernel
theorem d_L_1125 {nm : String} : zD (m_L nm) 1125 (.iaload) 1 1126 := ⟨e_L_1125, rfl⟩
set_option maxRecDepth 20000 in
theorem e_L_1126 : decode code 1126 = .ok (.aload_n 0, 1) := by decide +kernel
theorem d_L_1126 {nm : String} : zD (m_L nm) 1126 (.aload_n 0) 1 1127 := ⟨e_L_1126, rfl⟩
set_option maxRecDepth 20000 in
theorem e_L_1127 : decode code 1127 = .ok (.iload_n 3, 1) := by decide +kernel
theorem d_L_1127 {nm : String} : zD (m_L nm) 1127 (.iload_n 3) 1 1128 := ⟨e_L_1127, rfl⟩
set_option maxRecDepth 20000 in
theorem e_L_1128 : decode code 1128 = .ok (.iconst 3, 1) := by decide +kernel
theorem d_L_1128 {nm : String} : zD (m_L nm) 1128 (.iconst 3) 1 1129 := ⟨e_L_1128, rfl⟩
set_option maxRecDepth 20000 in
theorem e_L_1129 : decode code 1129 = .ok (.iadd, 1) := by decide +kernel
theorem d_L_1129 {nm : String} : zD (m_L nm) 1129 (.iadd) 1 1130 := ⟨e_L_1129, rfl⟩
set_option maxRecDepth 20000 in
theorem e_L_1130 : decode code 1130 = .ok (.iaload, 1) := by decide +kernel
theorem d_L_1130 {nm : String} : zD (m_L nm) 1130 (.iaload) 1 1131 := ⟨e_L_1130, rfl⟩
set_option maxRecDepth 20000 in
theorem e_L_1131 : decode code 1131 = .ok (.aload_n 0, 1) := by decide +kernel
theorem d_L_1131 {nm : String} : zD (m_L nm) 1131 (.aload_n 0) 1 1132 := ⟨e_L_1131, rfl⟩
set_option maxRecDepth 20000 in
theorem e_L_1132 : decode code 1132 = .ok (.iload_n 3, 1) := by decide +kernel
theorem d_L_1132 {nm : String} : zD (m_L nm) 1132 (.iload_n 3) 1 1133 := ⟨e_L_1132, rfl⟩
set_option maxRecDepth 20000 in
theorem e_L_1133 : decode code 1133 = .ok (.iconst 4, 1) := by decide +kernel
theorem d_L_1133 {nm : String} : zD (m_L nm) 1133 (.iconst 4) 1 1134 := ⟨e_L_1133, rfl⟩
set_option maxRecDepth 20000 in
theorem e_L_1134 : decode code 1134 = .ok (.iadd, 1) := by decide +kernel
theorem d_L_1134 {nm : String} : zD (m_L nm) 1134 (.iadd) 1 1135 := ⟨e_L_1134, rfl⟩
set_option maxRecDepth 20000 in
theorem e_L_1135 : decode code 1135 = .ok (.iaload, 1) := by decide +kernel
theorem d_L_1135 {nm : String} : zD (m_L nm) 1135 (.iaload) 1 1136 := ⟨e_L_1135, rfl⟩
set_option maxRecDepth 20000 in
theorem e_L_1136 : decode code 1136 = .ok (.invokevirtual 163, 3) := by decide +kernel
theorem d_L_1136 {nm : String} : zD (m_L nm) 1136 (.invokevirtual 163) 3 1139 := ⟨e_L_1136, rfl⟩
set_option maxRecDepth 20000 in
theorem e_L_1139 : decode code 1139 = .ok (.if_icmp .eq (41), 3) := by decide +kernel
theorem d_L_1139 {nm : String} : zDj (m_L nm) 1139 (.if_icmp .eq) 1142 1180 := ⟨41, e_L_1139, rfl, by decide⟩
set_option maxRecDepth 20000 in
theorem e_L_1142 : decode code 1142 = .ok (.iconst 0, 1) := by decide +kernel
theorem d_L_1142 {nm : String} : zD (m_L nm) 1142 (.iconst 0) 1 1143 := ⟨e_L_1142, rfl⟩
set_option maxRecDepth 20000 in
theorem d_L_1143 : decode code 1143 = .ok (.ireturn, 1) := by decide +kernel
set_option maxRecDepth 20000 in
theorem e_L_1144 : decode code 1144 = .ok (.aload_n 1, 1) := by decide +kernel
theorem d_L_1144 {nm : String} : zD (m_L nm) 1144 (.aload_n 1) 1 1145 := ⟨e_L_1144, rfl⟩
set_option maxRecDepth 20000 in
theorem e_L_1145 : decode code 1145 = .ok (.invokevirtual 164, 3) := by decide +kernel
theorem d_L_1145 {nm : String} : zD (m_L nm) 1145 (.invokevirtual 164) 3 1148 := ⟨e_L_1145, rfl⟩
set_option maxRecDepth 20000 in
theorem e_L_1148 : decode code 1148 = .ok (.aload_n 2, 1) := by decide +kernel
theorem d_L_1148 {nm : String} : zD (m_L nm) 1148 (.aload_n 2) 1 1149 := ⟨e_L_1148, rfl⟩
set_option maxRecDepth 20000 in
theorem e_L_1149 : decode code 1149 = .ok (.invokevirtual 167, 3) := by decide +kernel
theorem d_L_1149 {nm : String} : zD (m_L nm) 1149 (.invokevirtual 167) 3 1152 := ⟨e_L_1149, rfl⟩
set_option maxRecDepth 20000 in
theorem e_L_1152 : decode code 1152 = .ok (.if_icmp .eq (28), 3) := by decide +kernel
theorem d_L_1152 {nm : String} : zDj (m_L nm) 1152 (.if_icmp .eq) 1155 1180 := ⟨28, e_L_1152, rfl, by decide⟩
set_option maxRecDepth 20000 in
theorem e_L_1155 : decode code 1155 = .ok (.iconst 0, 1) := by decide +kernel
theorem d_L_1155 {nm : String} : zD (m_L nm) 1155 (.iconst 0) 1 1156 := ⟨e_L_1155, rfl⟩
set_option maxRecDepth 20000 in
theorem d_L_1156 : decode code 1156 = .ok (.ireturn, 1) := by decide +kernel
set_option maxRecDepth 20000 in
theorem e_L_1157 : decode code 1157 = .ok (.aload_n 1, 1) := by decide +kernel
theorem d_L_1157 {nm : String} : zD (m_L nm) 1157 (.aload_n 1) 1 1158 := ⟨e_L_1157, rfl⟩
set_option maxRecDepth 20000 in
theorem e_L_1158 : decode code 1158 = .ok (.aload_n 0, 1) := by decide +kernel
theorem d_L_1158 {nm : String} : zD (m_L nm) 1158 (.aload_n 0) 1 1159 := ⟨e_L_1158, rfl⟩
set_option maxRecDepth 20000 in
theorem e_L_1159 : decode code 1159 = .ok (.iload_n 3, 1) := by decide +kernel
theorem d_L_1159 {nm : String} : zD (m_L nm) 1159 (.iload_n 3) 1 1160 := ⟨e_L_1159, rfl⟩
set_option maxRecDepth 20000 in
theorem e_L_1160 : decode code 1160 = .ok (.iconst 1, 1) := by decide +kernel
theorem d_L_1160 {nm : String} : zD (m_L nm) 1160 (.iconst 1) 1 1161 := ⟨e_L_1160, rfl⟩
set_option maxRecDepth 20000 in
theorem e_L_1161 : decode code 1161 = .ok (.iadd, 1) := by decide +kernel
theorem d_L_1161 {nm : String} : zD (m_L nm) 1161 (.iadd) 1 1162 := ⟨e_L_1161, rfl⟩
set_option maxRecDepth 20000 in
theorem e_L_1162 : decode code 1162 = .ok (.iaload, 1) := by decide +kernel
theorem d_L_1162 {nm : String} : zD (m_L nm) 1162 (.iaload) 1 1163 := ⟨e_L_1162, rfl⟩
set_option maxRecDepth 20000 in
theorem e_L_1163 : decode code 1163 = .ok (.invokevirtual 168, 3) := by decide +kernel
theorem d_L_1163 {nm : String} : zD (m_L nm) 1163 (.invokevirtual 168) 3 1166 := ⟨e_L_1163, rfl⟩
set_option maxRecDepth 20000 in
theorem e_L_1166 : decode code 1166 = .ok (.aload_n 2, 1) := by decide +kernel
theorem d_L_1166 {nm : String} : zD (m_L nm) 1166 (.aload_n 2) 1 1167 := ⟨e_L_1166, rfl⟩
set_option maxRecDepth 20000 in
theorem e_L_1167 : decode code 1167 = .ok (.aload_n 0, 1) := by decide +kernel
theorem d_L_1167 {nm : String} : zD (m_L nm) 1167 (.aload_n 0) 1 1168 := ⟨e_L_1167, rfl⟩
set_option maxRecDepth 20000 in
theorem e_L_1168 : decode code 1168 = .ok (.iload_n 3, 1) := by decide +kernel
theorem d_L_1168 {nm : String} : zD (m_L nm) 1168 (.iload_n 3) 1 1169 := ⟨e_L_1168, rfl⟩
set_option maxRecDepth 20000 in
theorem e_L_1169 : decode code 1169 = .ok (.iconst 1, 1) := by decide +kernel
theorem d_L_1169 {nm : String} : zD (m_L nm) 1169 (.iconst 1) 1 1170 := ⟨e_L_1169, rfl⟩
set_option maxRecDepth 20000 in
theorem e_L_1170 : decode code 1170 = .ok (.iadd, 1) := by decide +kernel
theorem d_L_1170 {nm : String} : zD (m_L nm) 1170 (.iadd) 1 1171 := ⟨e_L_1170, rfl⟩
set_option maxRecDepth 20000 in
theorem e_L_1171 : decode code 1171 = .ok (.iaload, 1) := by decide +kernel
theorem d_L_1171 {nm : String} : zD (m_L nm) 1171 (.iaload) 1 1172 := ⟨e_L_1171, rfl⟩
set_option maxRecDepth 20000 in
theorem e_L_1172 : decode code 1172 = .ok (.invokevirtual 171, 3) := by decide +kernel
theorem d_L_1172 {nm : String} : zD (m_L nm) 1172 (.invokevirtual 171) 3 1175 := ⟨e_L_1172, rfl⟩
set_option maxRecDepth 20000 in
theorem e_L_1175 : decode code 1175 = .ok (.if_icmp .eq (5), 3) := by decide +kernel
theorem d_L_1175 {nm : String} : zDj (m_L nm) 1175 (.if_icmp .eq) 1178 1180 := ⟨5, e_L_1175, rfl, by decide⟩
set_option maxRecDepth 20000 in
theorem e_L_1178 : decode code 1178 = .ok (.iconst 0, 1) := by decide +kernel
theorem d_L_1178 {nm : String} : zD (m_L nm) 1178 (.iconst 0) 1 1179 := ⟨e_L_1178, rfl⟩
set_option maxRecDepth 20000 in
theorem d_L_1179 : decode code 1179 = .ok (.ireturn, 1) := by decide +kernel
set_option maxRecDepth 20000 in
theorem e_L_1180 : decode code 1180 = .ok (.iinc 3 5, 3) := by decide +kernel
theorem d_L_1180 {nm : String} : zD (m_L nm) 1180 (.iinc 3 5) 3 1183 := ⟨e_L_1180, rfl⟩
set_option maxRecDepth 20000 in
theorem e_L_1183 : decode code 1183 = .ok (.goto (-1165), 3) := by decide +kernel
theorem d_L_1183 {nm : String} : zDj (m_L nm) 1183 (.goto) 1186 18 := ⟨-1165, e_L_1183, rfl, by decide⟩
set_option maxRecDepth 20000 in
theorem e_L_1186 : decode code 1186 = .ok (.iconst 1, 1) := by decide +kernel
theorem d_L_1186 {nm : String} : zD (m_L nm) 1186 (.iconst 1) 1 1187 := ⟨e_L_1186, rfl⟩
set_option maxRecDepth 20000 in
theorem d_L_1187 : decode code 1187 = .ok (.ireturn, 1) := by decide +kernel
set_option maxRecDepth 20000 in
theorem q_L_9 {nm : String} : zCi (m_L nm) 9 m_X7_init 0 := ⟨⟨cc_X7_init.1, cc_X7_init.2.1, cc_X7_init.2.2.1, cc_X7_init.2.2.2, ⟨Nat.le_of_ble_eq_true rfl, Nat.le_of_ble_eq_true rfl⟩⟩, in_g (up_1 (List.mem_of_getElem? (i := 19) rfl)) rfl, in_g (up_1 (List.mem_of_getElem? (i := 20) rfl)) rfl, rfl, rfl⟩
set_option maxRecDepth 20000 in
theorem q_L_12 {nm : String} : zCi (m_L nm) 12 m_X8_init 0 := ⟨⟨cc_X8_init.1, cc_X8_init.2.1, cc_X8_init.2.2.1, cc_X8_init.2.2.2, ⟨Nat.le_of_ble_eq_true rfl, Nat.le_of_ble_eq_true rfl⟩⟩, in_g (up_4 (List.mem_of_getElem? (i := 116) rfl)) rfl, in_g (up_4 (List.mem_of_getElem? (i := 117) rfl)) rfl, rfl, rfl⟩
set_option maxRecDepth 20000 in
theorem q_L_15 {nm : String} : zCv (m_L nm) 15 m_X7_feed 7 1 := ⟨⟨cc_X7_feed.1, cc_X7_feed.2.1, cc_X7_feed.2.2.1, cc_X7_feed.2.2.2, ⟨Nat.le_of_ble_eq_true rfl, Nat.le_of_ble_eq_true rfl⟩⟩, in_g (up_2 (List.mem_of_getElem? (i := 56) rfl)) rfl, in_g (up_2 (List.mem_of_getElem? (i := 57) rfl)) rfl, ⟨_, _, _, rfl, in_g (up_2 (List.mem_of_getElem? (i := 58) rfl)) rfl⟩⟩
set_option maxRecDepth 20000 in
theorem q_L_19 {nm : String} : zCv (m_L nm) 19 m_X8_feed 8 1 := ⟨⟨cc_X8_feed.1, cc_X8_feed.2.1, cc_X8_feed.2.2.1, cc_X8_feed.2.2.2, ⟨Nat.le_of_ble_eq_true rfl, Nat.le_of_ble_eq_true rfl⟩⟩, in_g (up_5 (List.mem_of_getElem? (i := 6) rfl)) rfl, in_g (up_5 (List.mem_of_getElem? (i := 7) rfl)) rfl, ⟨_, _, _, rfl, in_g (up_5 (List.mem_of_getElem? (i := 8) rfl)) rfl⟩⟩
set_option maxRecDepth 20000 in
theorem q_L_20 {nm : String} : zCv (m_L nm) 20 m_X7_end 7 1 := ⟨⟨cc_X7_end.1, cc_X7_end.2.1, cc_X7_end.2.2.1, cc_X7_end.2.2.2, ⟨Nat.le_of_ble_eq_true rfl, Nat.le_of_ble_eq_true rfl⟩⟩, in_g (up_2 (List.mem_of_getElem? (i := 64) rfl)) rfl, in_g (up_2 (List.mem_of_getElem? (i := 65) rfl)) rfl, ⟨_, _, _, rfl, in_g (up_2 (List.mem_of_getElem? (i := 66) rfl)) rfl⟩⟩
set_option maxRecDepth 20000 in
theorem q_L_24 {nm : String} : zCv (m_L nm) 24 m_X8_end 8 1 := ⟨⟨cc_X8_end.1, cc_X8_end.2.1, cc_X8_end.2.2.1, cc_X8_end.2.2.2, ⟨Nat.le_of_ble_eq_true rfl, Nat.le_of_ble_eq_true rfl⟩⟩, in_g (up_5 (List.mem_of_getElem? (i := 11) rfl)) rfl, in_g (up_5 (List.mem_of_getElem? (i := 12) rfl)) rfl, ⟨_, _, _, rfl, in_g (up_5 (List.mem_of_getElem? (i := 13) rfl)) rfl⟩⟩
set_option maxRecDepth 20000 in
theorem q_L_25 {nm : String} : zCv (m_L nm) 25 m_X7_text 7 0 := ⟨⟨cc_X7_text.1, cc_X7_text.2.1, cc_X7_text.2.2.1, cc_X7_text.2.2.2, ⟨Nat.le_of_ble_eq_true rfl, Nat.le_of_ble_eq_true rfl⟩⟩, in_g (up_2 (List.mem_of_getElem? (i := 68) rfl)) rfl, in_g (up_2 (List.mem_of_getElem? (i := 69) rfl)) rfl, ⟨_, _, _, rfl, in_g (up_2 (List.mem_of_getElem? (i := 70) rfl)) rfl⟩⟩
set_option maxRecDepth 20000 in
theorem q_L_29 {nm : String} : zCv (m_L nm) 29 m_X8_text 8 0 := ⟨⟨cc_X8_text.1, cc_X8_text.2.1, cc_X8_text.2.2.1, cc_X8_text.2.2.2, ⟨Nat.le_of_ble_eq_true rfl, Nat.le_of_ble_eq_true rfl⟩⟩, in_g (up_5 (List.mem_of_getElem? (i := 15) rfl)) rfl, in_g (up_5 (List.mem_of_getElem? (i := 16) rfl)) rfl, ⟨_, _, _, rfl, in_g (up_5 (List.mem_of_getElem? (i := 17) rfl)) rfl⟩⟩
set_option maxRecDepth 20000 in
theorem q_L_30 {nm : String} : zCv (m_L nm) 30 m_X7_fault 7 0 := ⟨⟨cc_X7_fault.1, cc_X7_fault.2.1, cc_X7_fault.2.2.1, cc_X7_fault.2.2.2, ⟨Nat.le_of_ble_eq_true rfl, Nat.le_of_ble_eq_true rfl⟩⟩, in_g (up_2 (List.mem_of_getElem? (i := 219) rfl)) rfl, in_g (up_2 (List.mem_of_getElem? (i := 220) rfl)) rfl, ⟨_, _, _, rfl, in_g (up_2 (List.mem_of_getElem? (i := 221) rfl)) rfl⟩⟩
set_option maxRecDepth 20000 in
theorem q_L_33 {nm : String} : zCv (m_L nm) 33 m_X8_fault 8 0 := ⟨⟨cc_X8_fault.1, cc_X8_fault.2.1, cc_X8_fault.2.2.1, cc_X8_fault.2.2.2, ⟨Nat.le_of_ble_eq_true rfl, Nat.le_of_ble_eq_true rfl⟩⟩, in_g (up_5 (List.mem_of_getElem? (i := 72) rfl)) rfl, in_g (up_5 (List.mem_of_getElem? (i := 73) rfl)) rfl, ⟨_, _, _, rfl, in_g (up_5 (List.mem_of_getElem? (i := 74) rfl)) rfl⟩⟩
set_option maxRecDepth 20000 in
theorem q_L_34 {nm : String} : zCv (m_L nm) 34 m_X7_rule 7 1 := ⟨⟨cc_X7_rule.1, cc_X7_rule.2.1, cc_X7_rule.2.2.1, cc_X7_rule.2.2.2, ⟨Nat.le_of_ble_eq_true rfl, Nat.le_of_ble_eq_true rfl⟩⟩, in_g (up_2 (List.mem_of_getElem? (i := 223) rfl)) rfl, in_g (up_2 (List.mem_of_getElem? (i := 224) rfl)) rfl, ⟨_, _, _, rfl, in_g (up_2 (List.mem_of_getElem? (i := 225) rfl)) rfl⟩⟩
set_option maxRecDepth 20000 in
theorem q_L_37 {nm : String} : zCv (m_L nm) 37 m_X8_rule 8 1 := ⟨⟨cc_X8_rule.1, cc_X8_rule.2.1, cc_X8_rule.2.2.1, cc_X8_rule.2.2.2, ⟨Nat.le_of_ble_eq_true rfl, Nat.le_of_ble_eq_true rfl⟩⟩, in_g (up_5 (List.mem_of_getElem? (i := 76) rfl)) rfl, in_g (up_5 (List.mem_of_getElem? (i := 77) rfl)) rfl, ⟨_, _, _, rfl, in_g (up_5 (List.mem_of_getElem? (i := 78) rfl)) rfl⟩⟩
set_option maxRecDepth 20000 in
theorem q_L_38 {nm : String} : zCv (m_L nm) 38 m_X7_well 7 2 := ⟨⟨cc_X7_well.1, cc_X7_well.2.1, cc_X7_well.2.2.1, cc_X7_well.2.2.2, ⟨Nat.le_of_ble_eq_true rfl, Nat.le_of_ble_eq_true rfl⟩⟩, in_g (up_2 (List.mem_of_getElem? (i := 227) rfl)) rfl, in_g (up_2 (List.mem_of_getElem? (i := 228) rfl)) rfl, ⟨_, _, _, rfl, in_g (up_2 (List.mem_of_getElem? (i := 229) rfl)) rfl⟩⟩
set_option maxRecDepth 20000 in
theorem q_L_42 {nm : String} : zCv (m_L nm) 42 m_X8_well 8 2 := ⟨⟨cc_X8_well.1, cc_X8_well.2.1, cc_X8_well.2.2.1, cc_X8_well.2.2.2, ⟨Nat.le_of_ble_eq_true rfl, Nat.le_of_ble_eq_true rfl⟩⟩, in_g (up_5 (List.mem_of_getElem? (i := 81) rfl)) rfl, in_g (up_5 (List.mem_of_getElem? (i := 82) rfl)) rfl, ⟨_, _, _, rfl, in_g (up_5 (List.mem_of_getElem? (i := 83) rfl)) rfl⟩⟩
set_option maxRecDepth 20000 in
theorem q_L_43 {nm : String} : zCv (m_L nm) 43 m_X7_light 7 2 := ⟨⟨cc_X7_light.1, cc_X7_light.2.1, cc_X7_light.2.2.1, cc_X7_light.2.2.2, ⟨Nat.le_of_ble_eq_true rfl, Nat.le_of_ble_eq_true rfl⟩⟩, in_g (up_2 (List.mem_of_getElem? (i := 234) rfl)) rfl, in_g (up_2 (List.mem_of_getElem? (i := 235) rfl)) rfl, ⟨_, _, _, rfl, in_g (up_2 (List.mem_of_getElem? (i := 236) rfl)) rfl⟩⟩
set_option maxRecDepth 20000 in
theorem q_L_46 {nm : String} : zCv (m_L nm) 46 m_X8_light 8 2 := ⟨⟨cc_X8_light.1, cc_X8_light.2.1, cc_X8_light.2.2.1, cc_X8_light.2.2.2, ⟨Nat.le_of_ble_eq_true rfl, Nat.le_of_ble_eq_true rfl⟩⟩, in_g (up_5 (List.mem_of_getElem? (i := 90) rfl)) rfl, in_g (up_5 (List.mem_of_getElem? (i := 91) rfl)) rfl, ⟨_, _, _, rfl, in_g (up_5 (List.mem_of_getElem? (i := 92) rfl)) rfl⟩⟩
set_option maxRecDepth 20000 in
theorem q_L_47 {nm : String} : zCv (m_L nm) 47 m_X7_expose 7 1 := ⟨⟨cc_X7_expose.1, cc_X7_expose.2.1, cc_X7_expose.2.2.1, cc_X7_expose.2.2.2, ⟨Nat.le_of_ble_eq_true rfl, Nat.le_of_ble_eq_true rfl⟩⟩, in_g (up_3 (List.mem_of_getElem? (i := 1) rfl)) rfl, in_g (up_3 (List.mem_of_getElem? (i := 2) rfl)) rfl, ⟨_, _, _, rfl, in_g (up_3 (List.mem_of_getElem? (i := 3) rfl)) rfl⟩⟩
set_option maxRecDepth 20000 in
theorem q_L_50 {nm : String} : zCv (m_L nm) 50 m_X8_expose 8 1 := ⟨⟨cc_X8_expose.1, cc_X8_expose.2.1, cc_X8_expose.2.2.1, cc_X8_expose.2.2.2, ⟨Nat.le_of_ble_eq_true rfl, Nat.le_of_ble_eq_true rfl⟩⟩, in_g (up_5 (List.mem_of_getElem? (i := 95) rfl)) rfl, in_g (up_5 (List.mem_of_getElem? (i := 96) rfl)) rfl, ⟨_, _, _, rfl, in_g (up_5 (List.mem_of_getElem? (i := 97) rfl)) rfl⟩⟩
set_option maxRecDepth 20000 in
theorem q_L_51 {nm : String} : zCv (m_L nm) 51 m_X7_down 7 0 := ⟨⟨cc_X7_down.1, cc_X7_down.2.1, cc_X7_down.2.2.1, cc_X7_down.2.2.2, ⟨Nat.le_of_ble_eq_true rfl, Nat.le_of_ble_eq_true rfl⟩⟩, in_g (up_3 (List.mem_of_getElem? (i := 35) rfl)) rfl, in_g (up_3 (List.mem_of_getElem? (i := 36) rfl)) rfl, ⟨_, _, _, rfl, in_g (up_3 (List.mem_of_getElem? (i := 37) rfl)) rfl⟩⟩
set_option maxRecDepth 20000 in
theorem q_L_54 {nm : String} : zCv (m_L nm) 54 m_X8_down 8 0 := ⟨⟨cc_X8_down.1, cc_X8_down.2.1, cc_X8_down.2.2.1, cc_X8_down.2.2.2, ⟨Nat.le_of_ble_eq_true rfl, Nat.le_of_ble_eq_true rfl⟩⟩, in_g (up_5 (List.mem_of_getElem? (i := 127) rfl)) rfl, in_g (up_5 (List.mem_of_getElem? (i := 128) rfl)) rfl, ⟨_, _, _, rfl, in_g (up_5 (List.mem_of_getElem? (i := 129) rfl)) rfl⟩⟩
set_option maxRecDepth 20000 in
theorem q_L_55 {nm : String} : zCv (m_L nm) 55 m_X7_read 7 0 := ⟨⟨cc_X7_read.1, cc_X7_read.2.1, cc_X7_read.2.2.1, cc_X7_read.2.2.2, ⟨Nat.le_of_ble_eq_true rfl, Nat.le_of_ble_eq_true rfl⟩⟩, in_g (up_3 (List.mem_of_getElem? (i := 51) rfl)) rfl, in_g (up_3 (List.mem_of_getElem? (i := 52) rfl)) rfl, ⟨_, _, _, rfl, in_g (up_3 (List.mem_of_getElem? (i := 53) rfl)) rfl⟩⟩
set_option maxRecDepth 20000 in
theorem q_L_58 {nm : String} : zCv (m_L nm) 58 m_X8_read 8 0 := ⟨⟨cc_X8_read.1, cc_X8_read.2.1, cc_X8_read.2.2.1, cc_X8_read.2.2.2, ⟨Nat.le_of_ble_eq_true rfl, Nat.le_of_ble_eq_true rfl⟩⟩, in_g (up_5 (List.mem_of_getElem? (i := 147) rfl)) rfl, in_g (up_5 (List.mem_of_getElem? (i := 148) rfl)) rfl, ⟨_, _, _, rfl, in_g (up_5 (List.mem_of_getElem? (i := 149) rfl)) rfl⟩⟩
set_option maxRecDepth 20000 in
theorem q_L_59 {nm : String} : zCv (m_L nm) 59 m_X7_line 7 1 := ⟨⟨cc_X7_line.1, cc_X7_line.2.1, cc_X7_line.2.2.1, cc_X7_line.2.2.2, ⟨Nat.le_of_ble_eq_true rfl, Nat.le_of_ble_eq_true rfl⟩⟩, in_g (up_3 (List.mem_of_getElem? (i := 66) rfl)) rfl, in_g (up_3 (List.mem_of_getElem? (i := 67) rfl)) rfl, ⟨_, _, _, rfl, in_g (up_3 (List.mem_of_getElem? (i := 68) rfl)) rfl⟩⟩
set_option maxRecDepth 20000 in
theorem q_L_62 {nm : String} : zCv (m_L nm) 62 m_X8_line 8 1 := ⟨⟨cc_X8_line.1, cc_X8_line.2.1, cc_X8_line.2.2.1, cc_X8_line.2.2.2, ⟨Nat.le_of_ble_eq_true rfl, Nat.le_of_ble_eq_true rfl⟩⟩, in_g (up_5 (List.mem_of_getElem? (i := 159) rfl)) rfl, in_g (up_5 (List.mem_of_getElem? (i := 160) rfl)) rfl, ⟨_, _, _, rfl, in_g (up_5 (List.mem_of_getElem? (i := 161) rfl)) rfl⟩⟩
set_option maxRecDepth 20000 in
theorem q_L_63 {nm : String} : zCv (m_L nm) 63 m_X7_now 7 1 := ⟨⟨cc_X7_now.1, cc_X7_now.2.1, cc_X7_now.2.2.1, cc_X7_now.2.2.2, ⟨Nat.le_of_ble_eq_true rfl, Nat.le_of_ble_eq_true rfl⟩⟩, in_g (up_3 (List.mem_of_getElem? (i := 73) rfl)) rfl, in_g (up_3 (List.mem_of_getElem? (i := 74) rfl)) rfl, ⟨_, _, _, rfl, in_g (up_3 (List.mem_of_getElem? (i := 75) rfl)) rfl⟩⟩
set_option maxRecDepth 20000 in
theorem q_L_67 {nm : String} : zCv (m_L nm) 67 m_X8_now 8 1 := ⟨⟨cc_X8_now.1, cc_X8_now.2.1, cc_X8_now.2.2.1, cc_X8_now.2.2.2, ⟨Nat.le_of_ble_eq_true rfl, Nat.le_of_ble_eq_true rfl⟩⟩, in_g (up_5 (List.mem_of_getElem? (i := 164) rfl)) rfl, in_g (up_5 (List.mem_of_getElem? (i := 165) rfl)) rfl, ⟨_, _, _, rfl, in_g (up_5 (List.mem_of_getElem? (i := 166) rfl)) rfl⟩⟩
set_option maxRecDepth 20000 in
theorem q_L_68 {nm : String} : zCv (m_L nm) 68 m_X7_clear 7 0 := ⟨⟨cc_X7_clear.1, cc_X7_clear.2.1, cc_X7_clear.2.2.1, cc_X7_clear.2.2.2, ⟨Nat.le_of_ble_eq_true rfl, Nat.le_of_ble_eq_true rfl⟩⟩, in_g (up_3 (List.mem_of_getElem? (i := 82) rfl)) rfl, in_g (up_3 (List.mem_of_getElem? (i := 83) rfl)) rfl, ⟨_, _, _, rfl, in_g (up_3 (List.mem_of_getElem? (i := 84) rfl)) rfl⟩⟩
set_option maxRecDepth 20000 in
theorem q_L_71 {nm : String} : zCv (m_L nm) 71 m_X8_clear 8 0 := ⟨⟨cc_X8_clear.1, cc_X8_clear.2.1, cc_X8_clear.2.2.1, cc_X8_clear.2.2.2, ⟨Nat.le_of_ble_eq_true rfl, Nat.le_of_ble_eq_true rfl⟩⟩, in_g (up_5 (List.mem_of_getElem? (i := 172) rfl)) rfl, in_g (up_5 (List.mem_of_getElem? (i := 173) rfl)) rfl, ⟨_, _, _, rfl, in_g (up_5 (List.mem_of_getElem? (i := 174) rfl)) rfl⟩⟩
set_option maxRecDepth 20000 in
theorem q_L_72 {nm : String} : zCv (m_L nm) 72 m_X7_picture 7 4 := ⟨⟨cc_X7_picture.1, cc_X7_picture.2.1, cc_X7_picture.2.2.1, cc_X7_picture.2.2.2, ⟨Nat.le_of_ble_eq_true rfl, Nat.le_of_ble_eq_true rfl⟩⟩, in_g (up_3 (List.mem_of_getElem? (i := 86) rfl)) rfl, in_g (up_3 (List.mem_of_getElem? (i := 87) rfl)) rfl, ⟨_, _, _, rfl, in_g (up_3 (List.mem_of_getElem? (i := 88) rfl)) rfl⟩⟩
set_option maxRecDepth 20000 in
theorem q_L_76 {nm : String} : zCv (m_L nm) 76 m_X8_picture 8 4 := ⟨⟨cc_X8_picture.1, cc_X8_picture.2.1, cc_X8_picture.2.2.1, cc_X8_picture.2.2.2, ⟨Nat.le_of_ble_eq_true rfl, Nat.le_of_ble_eq_true rfl⟩⟩, in_g (up_5 (List.mem_of_getElem? (i := 176) rfl)) rfl, in_g (up_5 (List.mem_of_getElem? (i := 177) rfl)) rfl, ⟨_, _, _, rfl, in_g (up_5 (List.mem_of_getElem? (i := 178) rfl)) rfl⟩⟩
set_option maxRecDepth 20000 in
theorem q_L_77 {nm : String} : zCv (m_L nm) 77 m_X7_shades 7 3 := ⟨⟨cc_X7_shades.1, cc_X7_shades.2.1, cc_X7_shades.2.2.1, cc_X7_shades.2.2.2, ⟨Nat.le_of_ble_eq_true rfl, Nat.le_of_ble_eq_true rfl⟩⟩, in_g (up_3 (List.mem_of_getElem? (i := 115) rfl)) rfl, in_g (up_3 (List.mem_of_getElem? (i := 116) rfl)) rfl, ⟨_, _, _, rfl, in_g (up_3 (List.mem_of_getElem? (i := 117) rfl)) rfl⟩⟩
set_option maxRecDepth 20000 in
theorem q_L_81 {nm : String} : zCv (m_L nm) 81 m_X8_shades 8 3 := ⟨⟨cc_X8_shades.1, cc_X8_shades.2.1, cc_X8_shades.2.2.1, cc_X8_shades.2.2.2, ⟨Nat.le_of_ble_eq_true rfl, Nat.le_of_ble_eq_true rfl⟩⟩, in_g (up_5 (List.mem_of_getElem? (i := 192) rfl)) rfl, in_g (up_5 (List.mem_of_getElem? (i := 193) rfl)) rfl, ⟨_, _, _, rfl, in_g (up_5 (List.mem_of_getElem? (i := 194) rfl)) rfl⟩⟩
set_option maxRecDepth 20000 in
theorem q_L_82 {nm : String} : zCv (m_L nm) 82 m_X7_late 7 1 := ⟨⟨cc_X7_late.1, cc_X7_late.2.1, cc_X7_late.2.2.1, cc_X7_late.2.2.2, ⟨Nat.le_of_ble_eq_true rfl, Nat.le_of_ble_eq_true rfl⟩⟩, in_g (up_3 (List.mem_of_getElem? (i := 140) rfl)) rfl, in_g (up_3 (List.mem_of_getElem? (i := 141) rfl)) rfl, ⟨_, _, _, rfl, in_g (up_3 (List.mem_of_getElem? (i := 142) rfl)) rfl⟩⟩
set_option maxRecDepth 20000 in
theorem q_L_85 {nm : String} : zCv (m_L nm) 85 m_X8_late 8 1 := ⟨⟨cc_X8_late.1, cc_X8_late.2.1, cc_X8_late.2.2.1, cc_X8_late.2.2.2, ⟨Nat.le_of_ble_eq_true rfl, Nat.le_of_ble_eq_true rfl⟩⟩, in_g (up_5 (List.mem_of_getElem? (i := 196) rfl)) rfl, in_g (up_5 (List.mem_of_getElem? (i := 197) rfl)) rfl, ⟨_, _, _, rfl, in_g (up_5 (List.mem_of_getElem? (i := 198) rfl)) rfl⟩⟩
set_option maxRecDepth 20000 in
theorem q_L_86 {nm : String} : zCv (m_L nm) 86 m_X7_smear 7 1 := ⟨⟨cc_X7_smear.1, cc_X7_smear.2.1, cc_X7_smear.2.2.1, cc_X7_smear.2.2.2, ⟨Nat.le_of_ble_eq_true rfl, Nat.le_of_ble_eq_true rfl⟩⟩, in_g (up_3 (List.mem_of_getElem? (i := 144) rfl)) rfl, in_g (up_3 (List.mem_of_getElem? (i := 145) rfl)) rfl, ⟨_, _, _, rfl, in_g (up_3 (List.mem_of_getElem? (i := 146) rfl)) rfl⟩⟩
set_option maxRecDepth 20000 in
theorem q_L_89 {nm : String} : zCv (m_L nm) 89 m_X8_smear 8 1 := ⟨⟨cc_X8_smear.1, cc_X8_smear.2.1, cc_X8_smear.2.2.1, cc_X8_smear.2.2.2, ⟨Nat.le_of_ble_eq_true rfl, Nat.le_of_ble_eq_true rfl⟩⟩, in_g (up_5 (List.mem_of_getElem? (i := 200) rfl)) rfl, in_g (up_5 (List.mem_of_getElem? (i := 201) rfl)) rfl, ⟨_, _, _, rfl, in_g (up_5 (List.mem_of_getElem? (i := 202) rfl)) rfl⟩⟩
set_option maxRecDepth 20000 in
theorem q_L_90 {nm : String} : zCv (m_L nm) 90 m_X7_spoiled 7 1 := ⟨⟨cc_X7_spoiled.1, cc_X7_spoiled.2.1, cc_X7_spoiled.2.2.1, cc_X7_spoiled.2.2.2, ⟨Nat.le_of_ble_eq_true rfl, Nat.le_of_ble_eq_true rfl⟩⟩, in_g (up_3 (List.mem_of_getElem? (i := 148) rfl)) rfl, in_g (up_3 (List.mem_of_getElem? (i := 149) rfl)) rfl, ⟨_, _, _, rfl, in_g (up_3 (List.mem_of_getElem? (i := 150) rfl)) rfl⟩⟩
set_option maxRecDepth 20000 in
theorem q_L_93 {nm : String} : zCv (m_L nm) 93 m_X8_spoiled 8 1 := ⟨⟨cc_X8_spoiled.1, cc_X8_spoiled.2.1, cc_X8_spoiled.2.2.1, cc_X8_spoiled.2.2.2, ⟨Nat.le_of_ble_eq_true rfl, Nat.le_of_ble_eq_true rfl⟩⟩, in_g (up_5 (List.mem_of_getElem? (i := 204) rfl)) rfl, in_g (up_5 (List.mem_of_getElem? (i := 205) rfl)) rfl, ⟨_, _, _, rfl, in_g (up_5 (List.mem_of_getElem? (i := 206) rfl)) rfl⟩⟩
set_option maxRecDepth 20000 in
theorem q_L_94 {nm : String} : zCv (m_L nm) 94 m_X7_full 7 1 := ⟨⟨cc_X7_full.1, cc_X7_full.2.1, cc_X7_full.2.2.1, cc_X7_full.2.2.2, ⟨Nat.le_of_ble_eq_true rfl, Nat.le_of_ble_eq_true rfl⟩⟩, in_g (up_3 (List.mem_of_getElem? (i := 155) rfl)) rfl, in_g (up_3 (List.mem_of_getElem? (i := 156) rfl)) rfl, ⟨_, _, _, rfl, in_g (up_3 (List.mem_of_getElem? (i := 157) rfl)) rfl⟩⟩
set_option maxRecDepth 20000 in
theorem q_L_97 {nm : String} : zCv (m_L nm) 97 m_X8_full 8 1 := ⟨⟨cc_X8_full.1, cc_X8_full.2.1, cc_X8_full.2.2.1, cc_X8_full.2.2.2, ⟨Nat.le_of_ble_eq_true rfl, Nat.le_of_ble_eq_true rfl⟩⟩, in_g (up_5 (List.mem_of_getElem? (i := 208) rfl)) rfl, in_g (up_5 (List.mem_of_getElem? (i := 209) rfl)) rfl, ⟨_, _, _, rfl, in_g (up_5 (List.mem_of_getElem? (i := 210) rfl)) rfl⟩⟩
set_option maxRecDepth 20000 in
theorem q_L_98 {nm : String} : zCv (m_L nm) 98 m_X7_longest 7 0 := ⟨⟨cc_X7_longest.1, cc_X7_longest.2.1, cc_X7_longest.2.2.1, cc_X7_longest.2.2.2, ⟨Nat.le_of_ble_eq_true rfl, Nat.le_of_ble_eq_true rfl⟩⟩, in_g (up_3 (List.mem_of_getElem? (i := 163) rfl)) rfl, in_g (up_3 (List.mem_of_getElem? (i := 164) rfl)) rfl, ⟨_, _, _, rfl, in_g (up_3 (List.mem_of_getElem? (i := 165) rfl)) rfl⟩⟩
set_option maxRecDepth 20000 in
theorem q_L_101 {nm : String} : zCv (m_L nm) 101 m_X8_longest 8 0 := ⟨⟨cc_X8_longest.1, cc_X8_longest.2.1, cc_X8_longest.2.2.1, cc_X8_longest.2.2.2, ⟨Nat.le_of_ble_eq_true rfl, Nat.le_of_ble_eq_true rfl⟩⟩, in_g (up_5 (List.mem_of_getElem? (i := 212) rfl)) rfl, in_g (up_5 (List.mem_of_getElem? (i := 213) rfl)) rfl, ⟨_, _, _, rfl, in_g (up_5 (List.mem_of_getElem? (i := 214) rfl)) rfl⟩⟩
set_option maxRecDepth 20000 in
theorem q_L_102 {nm : String} : zCv (m_L nm) 102 m_X7_enough 7 1 := ⟨⟨cc_X7_enough.1, cc_X7_enough.2.1, cc_X7_enough.2.2.1, cc_X7_enough.2.2.2, ⟨Nat.le_of_ble_eq_true rfl, Nat.le_of_ble_eq_true rfl⟩⟩, in_g (up_3 (List.mem_of_getElem? (i := 167) rfl)) rfl, in_g (up_3 (List.mem_of_getElem? (i := 168) rfl)) rfl, ⟨_, _, _, rfl, in_g (up_3 (List.mem_of_getElem? (i := 169) rfl)) rfl⟩⟩
set_option maxRecDepth 20000 in
theorem q_L_105 {nm : String} : zCv (m_L nm) 105 m_X8_enough 8 1 := ⟨⟨cc_X8_enough.1, cc_X8_enough.2.1, cc_X8_enough.2.2.1, cc_X8_enough.2.2.2, ⟨Nat.le_of_ble_eq_true rfl, Nat.le_of_ble_eq_true rfl⟩⟩, in_g (up_5 (List.mem_of_getElem? (i := 216) rfl)) rfl, in_g (up_5 (List.mem_of_getElem? (i := 217) rfl)) rfl, ⟨_, _, _, rfl, in_g (up_5 (List.mem_of_getElem? (i := 218) rfl)) rfl⟩⟩
set_option maxRecDepth 20000 in
theorem q_L_106 {nm : String} : zCv (m_L nm) 106 m_X7_hots 7 2 := ⟨⟨cc_X7_hots.1, cc_X7_hots.2.1, cc_X7_hots.2.2.1, cc_X7_hots.2.2.2, ⟨Nat.le_of_ble_eq_true rfl, Nat.le_of_ble_eq_true rfl⟩⟩, in_g (up_3 (List.mem_of_getElem? (i := 172) rfl)) rfl, in_g (up_3 (List.mem_of_getElem? (i := 173) rfl)) rfl, ⟨_, _, _, rfl, in_g (up_3 (List.mem_of_getElem? (i := 174) rfl)) rfl⟩⟩
set_option maxRecDepth 20000 in
theorem q_L_110 {nm : String} : zCv (m_L nm) 110 m_X8_hots 8 2 := ⟨⟨cc_X8_hots.1, cc_X8_hots.2.1, cc_X8_hots.2.2.1, cc_X8_hots.2.2.2, ⟨Nat.le_of_ble_eq_true rfl, Nat.le_of_ble_eq_true rfl⟩⟩, in_g (up_5 (List.mem_of_getElem? (i := 221) rfl)) rfl, in_g (up_5 (List.mem_of_getElem? (i := 222) rfl)) rfl, ⟨_, _, _, rfl, in_g (up_5 (List.mem_of_getElem? (i := 223) rfl)) rfl⟩⟩
set_option maxRecDepth 20000 in
theorem q_L_111 {nm : String} : zCv (m_L nm) 111 m_X7_mended 7 1 := ⟨⟨cc_X7_mended.1, cc_X7_mended.2.1, cc_X7_mended.2.2.1, cc_X7_mended.2.2.2, ⟨Nat.le_of_ble_eq_true rfl, Nat.le_of_ble_eq_true rfl⟩⟩, in_g (up_3 (List.mem_of_getElem? (i := 176) rfl)) rfl, in_g (up_3 (List.mem_of_getElem? (i := 177) rfl)) rfl, ⟨_, _, _, rfl, in_g (up_3 (List.mem_of_getElem? (i := 178) rfl)) rfl⟩⟩
set_option maxRecDepth 20000 in
theorem q_L_114 {nm : String} : zCv (m_L nm) 114 m_X8_mended 8 1 := ⟨⟨cc_X8_mended.1, cc_X8_mended.2.1, cc_X8_mended.2.2.1, cc_X8_mended.2.2.2, ⟨Nat.le_of_ble_eq_true rfl, Nat.le_of_ble_eq_true rfl⟩⟩, in_g (up_5 (List.mem_of_getElem? (i := 226) rfl)) rfl, in_g (up_5 (List.mem_of_getElem? (i := 227) rfl)) rfl, ⟨_, _, _, rfl, in_g (up_5 (List.mem_of_getElem? (i := 228) rfl)) rfl⟩⟩
set_option maxRecDepth 20000 in
theorem q_L_115 {nm : String} : zCv (m_L nm) 115 m_X7_word 7 1 := ⟨⟨cc_X7_word.1, cc_X7_word.2.1, cc_X7_word.2.2.1, cc_X7_word.2.2.2, ⟨Nat.le_of_ble_eq_true rfl, Nat.le_of_ble_eq_true rfl⟩⟩, in_g (up_3 (List.mem_of_getElem? (i := 183) rfl)) rfl, in_g (up_3 (List.mem_of_getElem? (i := 184) rfl)) rfl, ⟨_, _, _, rfl, in_g (up_3 (List.mem_of_getElem? (i := 185) rfl)) rfl⟩⟩
set_option maxRecDepth 20000 in
theorem q_L_118 {nm : String} : zCv (m_L nm) 118 m_X8_word 8 1 := ⟨⟨cc_X8_word.1, cc_X8_word.2.1, cc_X8_word.2.2.1, cc_X8_word.2.2.2, ⟨Nat.le_of_ble_eq_true rfl, Nat.le_of_ble_eq_true rfl⟩⟩, in_g (up_5 (List.mem_of_getElem? (i := 230) rfl)) rfl, in_g (up_5 (List.mem_of_getElem? (i := 231) rfl)) rfl, ⟨_, _, _, rfl, in_g (up_5 (List.mem_of_getElem? (i := 232) rfl)) rfl⟩⟩
set_option maxRecDepth 20000 in
theorem q_L_119 {nm : String} : zCv (m_L nm) 119 m_X7_still 7 0 := ⟨⟨cc_X7_still.1, cc_X7_still.2.1, cc_X7_still.2.2.1, cc_X7_still.2.2.2, ⟨Nat.le_of_ble_eq_true rfl, Nat.le_of_ble_eq_true rfl⟩⟩, in_g (up_3 (List.mem_of_getElem? (i := 195) rfl)) rfl, in_g (up_3 (List.mem_of_getElem? (i := 196) rfl)) rfl, ⟨_, _, _, rfl, in_g (up_3 (List.mem_of_getElem? (i := 197) rfl)) rfl⟩⟩
set_option maxRecDepth 20000 in
theorem q_L_122 {nm : String} : zCv (m_L nm) 122 m_X8_still 8 0 := ⟨⟨cc_X8_still.1, cc_X8_still.2.1, cc_X8_still.2.2.1, cc_X8_still.2.2.2, ⟨Nat.le_of_ble_eq_true rfl, Nat.le_of_ble_eq_true rfl⟩⟩, in_g (up_6 (List.mem_of_getElem? (i := 2) rfl)) rfl, in_g (up_6 (List.mem_of_getElem? (i := 3) rfl)) rfl, ⟨_, _, _, rfl, in_g (up_6 (List.mem_of_getElem? (i := 4) rfl)) rfl⟩⟩
set_option maxRecDepth 20000 in
theorem q_L_123 {nm : String} : zCv (m_L nm) 123 m_X7_words 7 1 := ⟨⟨cc_X7_words.1, cc_X7_words.2.1, cc_X7_words.2.2.1, cc_X7_words.2.2.2, ⟨Nat.le_of_ble_eq_true rfl, Nat.le_of_ble_eq_true rfl⟩⟩, in_g (up_3 (List.mem_of_getElem? (i := 199) rfl)) rfl, in_g (up_3 (List.mem_of_getElem? (i := 200) rfl)) rfl, ⟨_, _, _, rfl, in_g (up_3 (List.mem_of_getElem? (i := 201) rfl)) rfl⟩⟩
set_option maxRecDepth 20000 in
theorem q_L_126 {nm : String} : zCv (m_L nm) 126 m_X8_words 8 1 := ⟨⟨cc_X8_words.1, cc_X8_words.2.1, cc_X8_words.2.2.1, cc_X8_words.2.2.2, ⟨Nat.le_of_ble_eq_true rfl, Nat.le_of_ble_eq_true rfl⟩⟩, in_g (up_6 (List.mem_of_getElem? (i := 6) rfl)) rfl, in_g (up_6 (List.mem_of_getElem? (i := 7) rfl)) rfl, ⟨_, _, _, rfl, in_g (up_6 (List.mem_of_getElem? (i := 8) rfl)) rfl⟩⟩
set_option maxRecDepth 20000 in
theorem q_L_127 {nm : String} : zCv (m_L nm) 127 m_X7_clock 7 1 := ⟨⟨cc_X7_clock.1, cc_X7_clock.2.1, cc_X7_clock.2.2.1, cc_X7_clock.2.2.2, ⟨Nat.le_of_ble_eq_true rfl, Nat.le_of_ble_eq_true rfl⟩⟩, in_g (up_3 (List.mem_of_getElem? (i := 203) rfl)) rfl, in_g (up_3 (List.mem_of_getElem? (i := 204) rfl)) rfl, ⟨_, _, _, rfl, in_g (up_3 (List.mem_of_getElem? (i := 205) rfl)) rfl⟩⟩
set_option maxRecDepth 20000 in
theorem q_L_130 {nm : String} : zCv (m_L nm) 130 m_X8_clock 8 1 := ⟨⟨cc_X8_clock.1, cc_X8_clock.2.1, cc_X8_clock.2.2.1, cc_X8_clock.2.2.2, ⟨Nat.le_of_ble_eq_true rfl, Nat.le_of_ble_eq_true rfl⟩⟩, in_g (up_6 (List.mem_of_getElem? (i := 10) rfl)) rfl, in_g (up_6 (List.mem_of_getElem? (i := 11) rfl)) rfl, ⟨_, _, _, rfl, in_g (up_6 (List.mem_of_getElem? (i := 12) rfl)) rfl⟩⟩
set_option maxRecDepth 20000 in
theorem q_L_131 {nm : String} : zCv (m_L nm) 131 m_X7_goes 7 2 := ⟨⟨cc_X7_goes.1, cc_X7_goes.2.1, cc_X7_goes.2.2.1, cc_X7_goes.2.2.2, ⟨Nat.le_of_ble_eq_true rfl, Nat.le_of_ble_eq_true rfl⟩⟩, in_g (up_4 (List.mem_of_getElem? (i := 27) rfl)) rfl, in_g (up_4 (List.mem_of_getElem? (i := 28) rfl)) rfl, ⟨_, _, _, rfl, in_g (up_4 (List.mem_of_getElem? (i := 29) rfl)) rfl⟩⟩
set_option maxRecDepth 20000 in
theorem q_L_134 {nm : String} : zCv (m_L nm) 134 m_X8_goes 8 2 := ⟨⟨cc_X8_goes.1, cc_X8_goes.2.1, cc_X8_goes.2.2.1, cc_X8_goes.2.2.2, ⟨Nat.le_of_ble_eq_true rfl, Nat.le_of_ble_eq_true rfl⟩⟩, in_g (up_6 (List.mem_of_getElem? (i := 47) rfl)) rfl, in_g (up_6 (List.mem_of_getElem? (i := 48) rfl)) rfl, ⟨_, _, _, rfl, in_g (up_6 (List.mem_of_getElem? (i := 49) rfl)) rfl⟩⟩
set_option maxRecDepth 20000 in
theorem q_L_135 {nm : String} : zCv (m_L nm) 135 m_X7_fewest 7 1 := ⟨⟨cc_X7_fewest.1, cc_X7_fewest.2.1, cc_X7_fewest.2.2.1, cc_X7_fewest.2.2.2, ⟨Nat.le_of_ble_eq_true rfl, Nat.le_of_ble_eq_true rfl⟩⟩, in_g (up_4 (List.mem_of_getElem? (i := 33) rfl)) rfl, in_g (up_4 (List.mem_of_getElem? (i := 34) rfl)) rfl, ⟨_, _, _, rfl, in_g (up_4 (List.mem_of_getElem? (i := 35) rfl)) rfl⟩⟩
set_option maxRecDepth 20000 in
theorem q_L_138 {nm : String} : zCv (m_L nm) 138 m_X8_fewest 8 1 := ⟨⟨cc_X8_fewest.1, cc_X8_fewest.2.1, cc_X8_fewest.2.2.1, cc_X8_fewest.2.2.2, ⟨Nat.le_of_ble_eq_true rfl, Nat.le_of_ble_eq_true rfl⟩⟩, in_g (up_6 (List.mem_of_getElem? (i := 51) rfl)) rfl, in_g (up_6 (List.mem_of_getElem? (i := 52) rfl)) rfl, ⟨_, _, _, rfl, in_g (up_6 (List.mem_of_getElem? (i := 53) rfl)) rfl⟩⟩
set_option maxRecDepth 20000 in
theorem q_L_139 {nm : String} : zCv (m_L nm) 139 m_X7_rounds 7 3 := ⟨⟨cc_X7_rounds.1, cc_X7_rounds.2.1, cc_X7_rounds.2.2.1, cc_X7_rounds.2.2.2, ⟨Nat.le_of_ble_eq_true rfl, Nat.le_of_ble_eq_true rfl⟩⟩, in_g (up_4 (List.mem_of_getElem? (i := 54) rfl)) rfl, in_g (up_4 (List.mem_of_getElem? (i := 55) rfl)) rfl, ⟨_, _, _, rfl, in_g (up_4 (List.mem_of_getElem? (i := 56) rfl)) rfl⟩⟩
set_option maxRecDepth 20000 in
theorem q_L_143 {nm : String} : zCv (m_L nm) 143 m_X8_rounds 8 3 := ⟨⟨cc_X8_rounds.1, cc_X8_rounds.2.1, cc_X8_rounds.2.2.1, cc_X8_rounds.2.2.2, ⟨Nat.le_of_ble_eq_true rfl, Nat.le_of_ble_eq_true rfl⟩⟩, in_g (up_6 (List.mem_of_getElem? (i := 63) rfl)) rfl, in_g (up_6 (List.mem_of_getElem? (i := 64) rfl)) rfl, ⟨_, _, _, rfl, in_g (up_6 (List.mem_of_getElem? (i := 65) rfl)) rfl⟩⟩
set_option maxRecDepth 20000 in
theorem q_L_144 {nm : String} : zCv (m_L nm) 144 m_X7_keep 7 1 := ⟨⟨cc_X7_keep.1, cc_X7_keep.2.1, cc_X7_keep.2.2.1, cc_X7_keep.2.2.2, ⟨Nat.le_of_ble_eq_true rfl, Nat.le_of_ble_eq_true rfl⟩⟩, in_g (up_4 (List.mem_of_getElem? (i := 58) rfl)) rfl, in_g (up_4 (List.mem_of_getElem? (i := 59) rfl)) rfl, ⟨_, _, _, rfl, in_g (up_4 (List.mem_of_getElem? (i := 60) rfl)) rfl⟩⟩
set_option maxRecDepth 20000 in
theorem q_L_147 {nm : String} : zCv (m_L nm) 147 m_X8_keep 8 1 := ⟨⟨cc_X8_keep.1, cc_X8_keep.2.1, cc_X8_keep.2.2.1, cc_X8_keep.2.2.2, ⟨Nat.le_of_ble_eq_true rfl, Nat.le_of_ble_eq_true rfl⟩⟩, in_g (up_6 (List.mem_of_getElem? (i := 69) rfl)) rfl, in_g (up_6 (List.mem_of_getElem? (i := 70) rfl)) rfl, ⟨_, _, _, rfl, in_g (up_6 (List.mem_of_getElem? (i := 71) rfl)) rfl⟩⟩
set_option maxRecDepth 20000 in
theorem q_L_148 {nm : String} : zCv (m_L nm) 148 m_X7_back 7 1 := ⟨⟨cc_X7_back.1, cc_X7_back.2.1, cc_X7_back.2.2.1, cc_X7_back.2.2.2, ⟨Nat.le_of_ble_eq_true rfl, Nat.le_of_ble_eq_true rfl⟩⟩, in_g (up_4 (List.mem_of_getElem? (i := 63) rfl)) rfl, in_g (up_4 (List.mem_of_getElem? (i := 64) rfl)) rfl, ⟨_, _, _, rfl, in_g (up_4 (List.mem_of_getElem? (i := 65) rfl)) rfl⟩⟩
set_option maxRecDepth 20000 in
theorem q_L_151 {nm : String} : zCv (m_L nm) 151 m_X8_back 8 1 := ⟨⟨cc_X8_back.1, cc_X8_back.2.1, cc_X8_back.2.2.1, cc_X8_back.2.2.2, ⟨Nat.le_of_ble_eq_true rfl, Nat.le_of_ble_eq_true rfl⟩⟩, in_g (up_6 (List.mem_of_getElem? (i := 73) rfl)) rfl, in_g (up_6 (List.mem_of_getElem? (i := 74) rfl)) rfl, ⟨_, _, _, rfl, in_g (up_6 (List.mem_of_getElem? (i := 75) rfl)) rfl⟩⟩
set_option maxRecDepth 20000 in
theorem q_L_152 {nm : String} : zCv (m_L nm) 152 m_X7_sheet 7 3 := ⟨⟨cc_X7_sheet.1, cc_X7_sheet.2.1, cc_X7_sheet.2.2.1, cc_X7_sheet.2.2.2, ⟨Nat.le_of_ble_eq_true rfl, Nat.le_of_ble_eq_true rfl⟩⟩, in_g (up_4 (List.mem_of_getElem? (i := 67) rfl)) rfl, in_g (up_4 (List.mem_of_getElem? (i := 68) rfl)) rfl, ⟨_, _, _, rfl, in_g (up_4 (List.mem_of_getElem? (i := 69) rfl)) rfl⟩⟩
set_option maxRecDepth 20000 in
theorem q_L_155 {nm : String} : zCv (m_L nm) 155 m_X8_sheet 8 3 := ⟨⟨cc_X8_sheet.1, cc_X8_sheet.2.1, cc_X8_sheet.2.2.1, cc_X8_sheet.2.2.2, ⟨Nat.le_of_ble_eq_true rfl, Nat.le_of_ble_eq_true rfl⟩⟩, in_g (up_6 (List.mem_of_getElem? (i := 77) rfl)) rfl, in_g (up_6 (List.mem_of_getElem? (i := 78) rfl)) rfl, ⟨_, _, _, rfl, in_g (up_6 (List.mem_of_getElem? (i := 79) rfl)) rfl⟩⟩
set_option maxRecDepth 20000 in
theorem q_L_156 {nm : String} : zCv (m_L nm) 156 m_X7_lay 7 3 := ⟨⟨cc_X7_lay.1, cc_X7_lay.2.1, cc_X7_lay.2.2.1, cc_X7_lay.2.2.2, ⟨Nat.le_of_ble_eq_true rfl, Nat.le_of_ble_eq_true rfl⟩⟩, in_g (up_4 (List.mem_of_getElem? (i := 82) rfl)) rfl, in_g (up_4 (List.mem_of_getElem? (i := 83) rfl)) rfl, ⟨_, _, _, rfl, in_g (up_4 (List.mem_of_getElem? (i := 84) rfl)) rfl⟩⟩
set_option maxRecDepth 20000 in
theorem q_L_159 {nm : String} : zCv (m_L nm) 159 m_X8_lay 8 3 := ⟨⟨cc_X8_lay.1, cc_X8_lay.2.1, cc_X8_lay.2.2.1, cc_X8_lay.2.2.2, ⟨Nat.le_of_ble_eq_true rfl, Nat.le_of_ble_eq_true rfl⟩⟩, in_g (up_6 (List.mem_of_getElem? (i := 84) rfl)) rfl, in_g (up_6 (List.mem_of_getElem? (i := 85) rfl)) rfl, ⟨_, _, _, rfl, in_g (up_6 (List.mem_of_getElem? (i := 86) rfl)) rfl⟩⟩
set_option maxRecDepth 20000 in
theorem q_L_160 {nm : String} : zCv (m_L nm) 160 m_X7_reads 7 4 := ⟨⟨cc_X7_reads.1, cc_X7_reads.2.1, cc_X7_reads.2.2.1, cc_X7_reads.2.2.2, ⟨Nat.le_of_ble_eq_true rfl, Nat.le_of_ble_eq_true rfl⟩⟩, in_g (up_4 (List.mem_of_getElem? (i := 94) rfl)) rfl, in_g (up_4 (List.mem_of_getElem? (i := 95) rfl)) rfl, ⟨_, _, _, rfl, in_g (up_4 (List.mem_of_getElem? (i := 96) rfl)) rfl⟩⟩
set_option maxRecDepth 20000 in
theorem q_L_163 {nm : String} : zCv (m_L nm) 163 m_X8_reads 8 4 := ⟨⟨cc_X8_reads.1, cc_X8_reads.2.1, cc_X8_reads.2.2.1, cc_X8_reads.2.2.2, ⟨Nat.le_of_ble_eq_true rfl, Nat.le_of_ble_eq_true rfl⟩⟩, in_g (up_6 (List.mem_of_getElem? (i := 88) rfl)) rfl, in_g (up_6 (List.mem_of_getElem? (i := 89) rfl)) rfl, ⟨_, _, _, rfl, in_g (up_6 (List.mem_of_getElem? (i := 90) rfl)) rfl⟩⟩
set_option maxRecDepth 20000 in
theorem q_L_164 {nm : String} : zCv (m_L nm) 164 m_X7_torn 7 0 := ⟨⟨cc_X7_torn.1, cc_X7_torn.2.1, cc_X7_torn.2.2.1, cc_X7_torn.2.2.2, ⟨Nat.le_of_ble_eq_true rfl, Nat.le_of_ble_eq_true rfl⟩⟩, in_g (up_4 (List.mem_of_getElem? (i := 103) rfl)) rfl, in_g (up_4 (List.mem_of_getElem? (i := 104) rfl)) rfl, ⟨_, _, _, rfl, in_g (up_4 (List.mem_of_getElem? (i := 105) rfl)) rfl⟩⟩
set_option maxRecDepth 20000 in
theorem q_L_167 {nm : String} : zCv (m_L nm) 167 m_X8_torn 8 0 := ⟨⟨cc_X8_torn.1, cc_X8_torn.2.1, cc_X8_torn.2.2.1, cc_X8_torn.2.2.2, ⟨Nat.le_of_ble_eq_true rfl, Nat.le_of_ble_eq_true rfl⟩⟩, in_g (up_6 (List.mem_of_getElem? (i := 93) rfl)) rfl, in_g (up_6 (List.mem_of_getElem? (i := 94) rfl)) rfl, ⟨_, _, _, rfl, in_g (up_6 (List.mem_of_getElem? (i := 95) rfl)) rfl⟩⟩
set_option maxRecDepth 20000 in
theorem q_L_168 {nm : String} : zCv (m_L nm) 168 m_X7_count 7 1 := ⟨⟨cc_X7_count.1, cc_X7_count.2.1, cc_X7_count.2.2.1, cc_X7_count.2.2.2, ⟨Nat.le_of_ble_eq_true rfl, Nat.le_of_ble_eq_true rfl⟩⟩, in_g (up_4 (List.mem_of_getElem? (i := 107) rfl)) rfl, in_g (up_4 (List.mem_of_getElem? (i := 108) rfl)) rfl, ⟨_, _, _, rfl, in_g (up_4 (List.mem_of_getElem? (i := 109) rfl)) rfl⟩⟩
set_option maxRecDepth 20000 in
theorem q_L_171 {nm : String} : zCv (m_L nm) 171 m_X8_count 8 1 := ⟨⟨cc_X8_count.1, cc_X8_count.2.1, cc_X8_count.2.2.1, cc_X8_count.2.2.2, ⟨Nat.le_of_ble_eq_true rfl, Nat.le_of_ble_eq_true rfl⟩⟩, in_g (up_6 (List.mem_of_getElem? (i := 97) rfl)) rfl, in_g (up_6 (List.mem_of_getElem? (i := 98) rfl)) rfl, ⟨_, _, _, rfl, in_g (up_6 (List.mem_of_getElem? (i := 99) rfl)) rfl⟩⟩
set_option maxRecDepth 20000 in
theorem nw_L_7 {nm : String} : zNw (m_L nm) 7 7 11 := ⟨RX7, TX7, tyX7, rfl, in_X7, tyX7_ok, in_g (up_1 (List.mem_of_getElem? (i := 17) rfl)) rfl, in_g (up_1 (List.mem_of_getElem? (i := 18) rfl)) rfl, in_g (up_1 (List.mem_of_getElem? (i := 1) rfl)) rfl, fun j hj => by rcases (show j = 0 ∨ j = 1 ∨ j = 2 ∨ j = 3 ∨ j = 4 ∨ j = 5 ∨ j = 6 ∨ j = 7 ∨ j = 8 ∨ j = 9 ∨ j = 10 by omega) with rfl | rfl | rfl | rfl | rfl | rfl | rfl | rfl | rfl | rfl | rfl <;> exact ⟨_, rfl, rfl⟩⟩
set_option maxRecDepth 20000 in
theorem nw_L_10 {nm : String} : zNw (m_L nm) 10 8 36 := ⟨RX8, TX8, tyX8, rfl, in_X8, tyX8_ok, in_g (up_4 (List.mem_of_getElem? (i := 114) rfl)) rfl, in_g (up_4 (List.mem_of_getElem? (i := 115) rfl)) rfl, in_g (up_1 (List.mem_of_getElem? (i := 10) rfl)) rfl, fun j hj => by rcases (show j = 0 ∨ j = 1 ∨ j = 2 ∨ j = 3 ∨ j = 4 ∨ j = 5 ∨ j = 6 ∨ j = 7 ∨ j = 8 ∨ j = 9 ∨ j = 10 ∨ j = 11 ∨ j = 12 ∨ j = 13 ∨ j = 14 ∨ j = 15 ∨ j = 16 ∨ j = 17 ∨ j = 18 ∨ j = 19 ∨ j = 20 ∨ j = 21 ∨ j = 22 ∨ j = 23 ∨ j = 24 ∨ j = 25 ∨ j = 26 ∨ j = 27 ∨ j = 28 ∨ j = 29 ∨ j = 30 ∨ j = 31 ∨ j = 32 ∨ j = 33 ∨ j = 34 ∨ j = 35 by omega) with rfl | rfl | rfl | rfl | rfl | rfl | rfl | rfl | rfl | rfl | rfl | rfl | rfl | rfl | rfl | rfl | rfl | rfl | rfl | rfl | rfl | rfl | rfl | rfl | rfl | rfl | rfl | rfl | rfl | rfl | rfl | rfl | rfl | rfl | rfl | rfl <;> exact ⟨_, rfl, rfl⟩⟩
set_option maxRecDepth 20000 in
theorem l_L_13 {nm : String} : Cond.constantLong (m_L nm).1.cls 13 (4294967295) ∈ lw_g := in_g (up_6 (List.mem_of_getElem? (i := 101) rfl)) rfl
