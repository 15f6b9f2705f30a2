-- the law's code, forty rows at once
theorem dLg {Z : List (Nat × Instr × Nat)} (hZ : Z.all (fun e => match decode code e.1 with | .ok x => decide (x.1 = e.2.1 ∧ x.2 = e.2.2) | _ => false) = true) {pc : Nat} {i : Instr} {n : Nat} (h : Z.lookup pc = some (i, n)) : decode code pc = .ok (i, n) := by
  obtain ⟨j, hj⟩ := z_lookup h
  have h1 := List.all_eq_true.mp hZ _ (List.mem_of_getElem? hj)
  simp only at h1
  split at h1
  · rename_i x hx
    obtain ⟨e1, e2⟩ := of_decide_eq_true h1
    rw [hx]
    obtain ⟨x1, x2⟩ := x
    simp only at e1 e2
    rw [e1, e2]
  · cases h1
def zLaw0 : List (Nat × Instr × Nat) := [(0, .new 7, 3), (3, .dup, 1), (4, .invokespecial 9, 3), (7, .astore_n 1, 1), (8, .new 10, 3), (11, .dup, 1), (12, .invokespecial 12, 3), (15, .astore_n 2, 1), (16, .iconst 0, 1), (17, .istore_n 3, 1), (18, .iload_n 3, 1), (19, .aload_n 0, 1), (20, .arraylength, 1), (21, .bipush 6, 2), (23, .isub, 1), (24, .if_icmp .gt 1284, 3), (27, .aload_n 0, 1), (28, .iload_n 3, 1), (29, .iaload, 1), (30, .bipush 63, 2), (32, .iand, 1), (33, .tableswitch 1269 0 35 #[159, 212, 245, 268, 301, 334, 367, 390, 413, 436, 459, 482, 505, 568, 591, 624, 647, 670, 693, 746, 789, 812, 835, 858, 881, 925, 968, 991, 1034, 1078, 1141, 1164, 1187, 1220, 1233, 1246], 159), (192, .aload_n 1, 1), (193, .aload_n 0, 1), (194, .iload_n 3, 1), (195, .iconst 1, 1), (196, .iadd, 1), (197, .iaload, 1), (198, .aload_n 0, 1), (199, .iload_n 3, 1), (200, .iconst 2, 1), (201, .iadd, 1), (202, .iaload, 1), (203, .aload_n 0, 1), (204, .iload_n 3, 1), (205, .iconst 3, 1), (206, .iadd, 1), (207, .iaload, 1), (208, .aload_n 0, 1), (209, .iload_n 3, 1)]
theorem zLaw0_ok : zLaw0.all (fun e => match decode code e.1 with | .ok x => decide (x.1 = e.2.1 ∧ x.2 = e.2.2) | _ => false) = true := by decide +kernel
set_option maxRecDepth 100000 in
theorem dL_0 : decode code 0 = .ok (.new 7, 3) := dLg zLaw0_ok (by decide +kernel)
set_option maxRecDepth 100000 in
theorem dL_3 : decode code 3 = .ok (.dup, 1) := dLg zLaw0_ok (by decide +kernel)
set_option maxRecDepth 100000 in
theorem dL_4 : decode code 4 = .ok (.invokespecial 9, 3) := dLg zLaw0_ok (by decide +kernel)
set_option maxRecDepth 100000 in
theorem dL_7 : decode code 7 = .ok (.astore_n 1, 1) := dLg zLaw0_ok (by decide +kernel)
set_option maxRecDepth 100000 in
theorem dL_8 : decode code 8 = .ok (.new 10, 3) := dLg zLaw0_ok (by decide +kernel)
set_option maxRecDepth 100000 in
theorem dL_11 : decode code 11 = .ok (.dup, 1) := dLg zLaw0_ok (by decide +kernel)
set_option maxRecDepth 100000 in
theorem dL_12 : decode code 12 = .ok (.invokespecial 12, 3) := dLg zLaw0_ok (by decide +kernel)
set_option maxRecDepth 100000 in
theorem dL_15 : decode code 15 = .ok (.astore_n 2, 1) := dLg zLaw0_ok (by decide +kernel)
set_option maxRecDepth 100000 in
theorem dL_16 : decode code 16 = .ok (.iconst 0, 1) := dLg zLaw0_ok (by decide +kernel)
set_option maxRecDepth 100000 in
theorem dL_17 : decode code 17 = .ok (.istore_n 3, 1) := dLg zLaw0_ok (by decide +kernel)
set_option maxRecDepth 100000 in
theorem dL_18 : decode code 18 = .ok (.iload_n 3, 1) := dLg zLaw0_ok (by decide +kernel)
set_option maxRecDepth 100000 in
theorem dL_19 : decode code 19 = .ok (.aload_n 0, 1) := dLg zLaw0_ok (by decide +kernel)
set_option maxRecDepth 100000 in
theorem dL_20 : decode code 20 = .ok (.arraylength, 1) := dLg zLaw0_ok (by decide +kernel)
set_option maxRecDepth 100000 in
theorem dL_21 : decode code 21 = .ok (.bipush 6, 2) := dLg zLaw0_ok (by decide +kernel)
set_option maxRecDepth 100000 in
theorem dL_23 : decode code 23 = .ok (.isub, 1) := dLg zLaw0_ok (by decide +kernel)
set_option maxRecDepth 100000 in
theorem dL_24 : decode code 24 = .ok (.if_icmp .gt 1284, 3) := dLg zLaw0_ok (by decide +kernel)
set_option maxRecDepth 100000 in
theorem dL_27 : decode code 27 = .ok (.aload_n 0, 1) := dLg zLaw0_ok (by decide +kernel)
set_option maxRecDepth 100000 in
theorem dL_28 : decode code 28 = .ok (.iload_n 3, 1) := dLg zLaw0_ok (by decide +kernel)
set_option maxRecDepth 100000 in
theorem dL_29 : decode code 29 = .ok (.iaload, 1) := dLg zLaw0_ok (by decide +kernel)
set_option maxRecDepth 100000 in
theorem dL_30 : decode code 30 = .ok (.bipush 63, 2) := dLg zLaw0_ok (by decide +kernel)
set_option maxRecDepth 100000 in
theorem dL_32 : decode code 32 = .ok (.iand, 1) := dLg zLaw0_ok (by decide +kernel)
set_option maxRecDepth 100000 in
theorem dL_33 : decode code 33 = .ok (.tableswitch 1269 0 35 #[159, 212, 245, 268, 301, 334, 367, 390, 413, 436, 459, 482, 505, 568, 591, 624, 647, 670, 693, 746, 789, 812, 835, 858, 881, 925, 968, 991, 1034, 1078, 1141, 1164, 1187, 1220, 1233, 1246], 159) := dLg zLaw0_ok (by decide +kernel)
set_option maxRecDepth 100000 in
theorem dL_192 : decode code 192 = .ok (.aload_n 1, 1) := dLg zLaw0_ok (by decide +kernel)
set_option maxRecDepth 100000 in
theorem dL_193 : decode code 193 = .ok (.aload_n 0, 1) := dLg zLaw0_ok (by decide +kernel)
set_option maxRecDepth 100000 in
theorem dL_194 : decode code 194 = .ok (.iload_n 3, 1) := dLg zLaw0_ok (by decide +kernel)
set_option maxRecDepth 100000 in
theorem dL_195 : decode code 195 = .ok (.iconst 1, 1) := dLg zLaw0_ok (by decide +kernel)
set_option maxRecDepth 100000 in
theorem dL_196 : decode code 196 = .ok (.iadd, 1) := dLg zLaw0_ok (by decide +kernel)
set_option maxRecDepth 100000 in
theorem dL_197 : decode code 197 = .ok (.iaload, 1) := dLg zLaw0_ok (by decide +kernel)
set_option maxRecDepth 100000 in
theorem dL_198 : decode code 198 = .ok (.aload_n 0, 1) := dLg zLaw0_ok (by decide +kernel)
set_option maxRecDepth 100000 in
theorem dL_199 : decode code 199 = .ok (.iload_n 3, 1) := dLg zLaw0_ok (by decide +kernel)
set_option maxRecDepth 100000 in
theorem dL_200 : decode code 200 = .ok (.iconst 2, 1) := dLg zLaw0_ok (by decide +kernel)
set_option maxRecDepth 100000 in
theorem dL_201 : decode code 201 = .ok (.iadd, 1) := dLg zLaw0_ok (by decide +kernel)
set_option maxRecDepth 100000 in
theorem dL_202 : decode code 202 = .ok (.iaload, 1) := dLg zLaw0_ok (by decide +kernel)
set_option maxRecDepth 100000 in
theorem dL_203 : decode code 203 = .ok (.aload_n 0, 1) := dLg zLaw0_ok (by decide +kernel)
set_option maxRecDepth 100000 in
theorem dL_204 : decode code 204 = .ok (.iload_n 3, 1) := dLg zLaw0_ok (by decide +kernel)
set_option maxRecDepth 100000 in
theorem dL_205 : decode code 205 = .ok (.iconst 3, 1) := dLg zLaw0_ok (by decide +kernel)
set_option maxRecDepth 100000 in
theorem dL_206 : decode code 206 = .ok (.iadd, 1) := dLg zLaw0_ok (by decide +kernel)
set_option maxRecDepth 100000 in
theorem dL_207 : decode code 207 = .ok (.iaload, 1) := dLg zLaw0_ok (by decide +kernel)
set_option maxRecDepth 100000 in
theorem dL_208 : decode code 208 = .ok (.aload_n 0, 1) := dLg zLaw0_ok (by decide +kernel)
set_option maxRecDepth 100000 in
theorem dL_209 : decode code 209 = .ok (.iload_n 3, 1) := dLg zLaw0_ok (by decide +kernel)
def zLaw1 : List (Nat × Instr × Nat) := [(210, .iconst 4, 1), (211, .iadd, 1), (212, .iaload, 1), (213, .invokevirtual 13, 3), (216, .aload_n 2, 1), (217, .aload_n 0, 1), (218, .iload_n 3, 1), (219, .iconst 1, 1), (220, .iadd, 1), (221, .iaload, 1), (222, .aload_n 0, 1), (223, .iload_n 3, 1), (224, .iconst 2, 1), (225, .iadd, 1), (226, .iaload, 1), (227, .aload_n 0, 1), (228, .iload_n 3, 1), (229, .iconst 3, 1), (230, .iadd, 1), (231, .iaload, 1), (232, .aload_n 0, 1), (233, .iload_n 3, 1), (234, .iconst 4, 1), (235, .iadd, 1), (236, .iaload, 1), (237, .invokevirtual 17, 3), (240, .if_icmp .eq 1062, 3), (243, .iconst 0, 1), (244, .ireturn, 1), (245, .aload_n 1, 1), (246, .aload_n 0, 1), (247, .iload_n 3, 1), (248, .iconst 1, 1), (249, .iadd, 1), (250, .iaload, 1), (251, .aload_n 0, 1), (252, .iload_n 3, 1), (253, .iconst 2, 1), (254, .iadd, 1), (255, .iaload, 1)]
theorem zLaw1_ok : zLaw1.all (fun e => match decode code e.1 with | .ok x => decide (x.1 = e.2.1 ∧ x.2 = e.2.2) | _ => false) = true := by decide +kernel
set_option maxRecDepth 100000 in
theorem dL_210 : decode code 210 = .ok (.iconst 4, 1) := dLg zLaw1_ok (by decide +kernel)
set_option maxRecDepth 100000 in
theorem dL_211 : decode code 211 = .ok (.iadd, 1) := dLg zLaw1_ok (by decide +kernel)
set_option maxRecDepth 100000 in
theorem dL_212 : decode code 212 = .ok (.iaload, 1) := dLg zLaw1_ok (by decide +kernel)
set_option maxRecDepth 100000 in
theorem dL_213 : decode code 213 = .ok (.invokevirtual 13, 3) := dLg zLaw1_ok (by decide +kernel)
set_option maxRecDepth 100000 in
theorem dL_216 : decode code 216 = .ok (.aload_n 2, 1) := dLg zLaw1_ok (by decide +kernel)
set_option maxRecDepth 100000 in
theorem dL_217 : decode code 217 = .ok (.aload_n 0, 1) := dLg zLaw1_ok (by decide +kernel)
set_option maxRecDepth 100000 in
theorem dL_218 : decode code 218 = .ok (.iload_n 3, 1) := dLg zLaw1_ok (by decide +kernel)
set_option maxRecDepth 100000 in
theorem dL_219 : decode code 219 = .ok (.iconst 1, 1) := dLg zLaw1_ok (by decide +kernel)
set_option maxRecDepth 100000 in
theorem dL_220 : decode code 220 = .ok (.iadd, 1) := dLg zLaw1_ok (by decide +kernel)
set_option maxRecDepth 100000 in
theorem dL_221 : decode code 221 = .ok (.iaload, 1) := dLg zLaw1_ok (by decide +kernel)
set_option maxRecDepth 100000 in
theorem dL_222 : decode code 222 = .ok (.aload_n 0, 1) := dLg zLaw1_ok (by decide +kernel)
set_option maxRecDepth 100000 in
theorem dL_223 : decode code 223 = .ok (.iload_n 3, 1) := dLg zLaw1_ok (by decide +kernel)
set_option maxRecDepth 100000 in
theorem dL_224 : decode code 224 = .ok (.iconst 2, 1) := dLg zLaw1_ok (by decide +kernel)
set_option maxRecDepth 100000 in
theorem dL_225 : decode code 225 = .ok (.iadd, 1) := dLg zLaw1_ok (by decide +kernel)
set_option maxRecDepth 100000 in
theorem dL_226 : decode code 226 = .ok (.iaload, 1) := dLg zLaw1_ok (by decide +kernel)
set_option maxRecDepth 100000 in
theorem dL_227 : decode code 227 = .ok (.aload_n 0, 1) := dLg zLaw1_ok (by decide +kernel)
set_option maxRecDepth 100000 in
theorem dL_228 : decode code 228 = .ok (.iload_n 3, 1) := dLg zLaw1_ok (by decide +kernel)
set_option maxRecDepth 100000 in
theorem dL_229 : decode code 229 = .ok (.iconst 3, 1) := dLg zLaw1_ok (by decide +kernel)
set_option maxRecDepth 100000 in
theorem dL_230 : decode code 230 = .ok (.iadd, 1) := dLg zLaw1_ok (by decide +kernel)
set_option maxRecDepth 100000 in
theorem dL_231 : decode code 231 = .ok (.iaload, 1) := dLg zLaw1_ok (by decide +kernel)
set_option maxRecDepth 100000 in
theorem dL_232 : decode code 232 = .ok (.aload_n 0, 1) := dLg zLaw1_ok (by decide +kernel)
set_option maxRecDepth 100000 in
theorem dL_233 : decode code 233 = .ok (.iload_n 3, 1) := dLg zLaw1_ok (by decide +kernel)
set_option maxRecDepth 100000 in
theorem dL_234 : decode code 234 = .ok (.iconst 4, 1) := dLg zLaw1_ok (by decide +kernel)
set_option maxRecDepth 100000 in
theorem dL_235 : decode code 235 = .ok (.iadd, 1) := dLg zLaw1_ok (by decide +kernel)
set_option maxRecDepth 100000 in
theorem dL_236 : decode code 236 = .ok (.iaload, 1) := dLg zLaw1_ok (by decide +kernel)
set_option maxRecDepth 100000 in
theorem dL_237 : decode code 237 = .ok (.invokevirtual 17, 3) := dLg zLaw1_ok (by decide +kernel)
set_option maxRecDepth 100000 in
theorem dL_240 : decode code 240 = .ok (.if_icmp .eq 1062, 3) := dLg zLaw1_ok (by decide +kernel)
set_option maxRecDepth 100000 in
theorem dL_243 : decode code 243 = .ok (.iconst 0, 1) := dLg zLaw1_ok (by decide +kernel)
set_option maxRecDepth 100000 in
theorem dL_244 : decode code 244 = .ok (.ireturn, 1) := dLg zLaw1_ok (by decide +kernel)
set_option maxRecDepth 100000 in
theorem dL_245 : decode code 245 = .ok (.aload_n 1, 1) := dLg zLaw1_ok (by decide +kernel)
set_option maxRecDepth 100000 in
theorem dL_246 : decode code 246 = .ok (.aload_n 0, 1) := dLg zLaw1_ok (by decide +kernel)
set_option maxRecDepth 100000 in
theorem dL_247 : decode code 247 = .ok (.iload_n 3, 1) := dLg zLaw1_ok (by decide +kernel)
set_option maxRecDepth 100000 in
theorem dL_248 : decode code 248 = .ok (.iconst 1, 1) := dLg zLaw1_ok (by decide +kernel)
set_option maxRecDepth 100000 in
theorem dL_249 : decode code 249 = .ok (.iadd, 1) := dLg zLaw1_ok (by decide +kernel)
set_option maxRecDepth 100000 in
theorem dL_250 : decode code 250 = .ok (.iaload, 1) := dLg zLaw1_ok (by decide +kernel)
set_option maxRecDepth 100000 in
theorem dL_251 : decode code 251 = .ok (.aload_n 0, 1) := dLg zLaw1_ok (by decide +kernel)
set_option maxRecDepth 100000 in
theorem dL_252 : decode code 252 = .ok (.iload_n 3, 1) := dLg zLaw1_ok (by decide +kernel)
set_option maxRecDepth 100000 in
theorem dL_253 : decode code 253 = .ok (.iconst 2, 1) := dLg zLaw1_ok (by decide +kernel)
set_option maxRecDepth 100000 in
theorem dL_254 : decode code 254 = .ok (.iadd, 1) := dLg zLaw1_ok (by decide +kernel)
set_option maxRecDepth 100000 in
theorem dL_255 : decode code 255 = .ok (.iaload, 1) := dLg zLaw1_ok (by decide +kernel)
def zLaw2 : List (Nat × Instr × Nat) := [(256, .invokevirtual 18, 3), (259, .aload_n 2, 1), (260, .aload_n 0, 1), (261, .iload_n 3, 1), (262, .iconst 1, 1), (263, .iadd, 1), (264, .iaload, 1), (265, .aload_n 0, 1), (266, .iload_n 3, 1), (267, .iconst 2, 1), (268, .iadd, 1), (269, .iaload, 1), (270, .invokevirtual 22, 3), (273, .if_icmp .eq 1029, 3), (276, .iconst 0, 1), (277, .ireturn, 1), (278, .aload_n 1, 1), (279, .aload_n 0, 1), (280, .iload_n 3, 1), (281, .iconst 1, 1), (282, .iadd, 1), (283, .iaload, 1), (284, .invokevirtual 23, 3), (287, .aload_n 2, 1), (288, .aload_n 0, 1), (289, .iload_n 3, 1), (290, .iconst 1, 1), (291, .iadd, 1), (292, .iaload, 1), (293, .invokevirtual 27, 3), (296, .if_icmp .eq 1006, 3), (299, .iconst 0, 1), (300, .ireturn, 1), (301, .aload_n 1, 1), (302, .aload_n 0, 1), (303, .iload_n 3, 1), (304, .iconst 1, 1), (305, .iadd, 1), (306, .iaload, 1), (307, .aload_n 0, 1)]
theorem zLaw2_ok : zLaw2.all (fun e => match decode code e.1 with | .ok x => decide (x.1 = e.2.1 ∧ x.2 = e.2.2) | _ => false) = true := by decide +kernel
set_option maxRecDepth 100000 in
theorem dL_256 : decode code 256 = .ok (.invokevirtual 18, 3) := dLg zLaw2_ok (by decide +kernel)
set_option maxRecDepth 100000 in
theorem dL_259 : decode code 259 = .ok (.aload_n 2, 1) := dLg zLaw2_ok (by decide +kernel)
set_option maxRecDepth 100000 in
theorem dL_260 : decode code 260 = .ok (.aload_n 0, 1) := dLg zLaw2_ok (by decide +kernel)
set_option maxRecDepth 100000 in
theorem dL_261 : decode code 261 = .ok (.iload_n 3, 1) := dLg zLaw2_ok (by decide +kernel)
set_option maxRecDepth 100000 in
theorem dL_262 : decode code 262 = .ok (.iconst 1, 1) := dLg zLaw2_ok (by decide +kernel)
set_option maxRecDepth 100000 in
theorem dL_263 : decode code 263 = .ok (.iadd, 1) := dLg zLaw2_ok (by decide +kernel)
set_option maxRecDepth 100000 in
theorem dL_264 : decode code 264 = .ok (.iaload, 1) := dLg zLaw2_ok (by decide +kernel)
set_option maxRecDepth 100000 in
theorem dL_265 : decode code 265 = .ok (.aload_n 0, 1) := dLg zLaw2_ok (by decide +kernel)
set_option maxRecDepth 100000 in
theorem dL_266 : decode code 266 = .ok (.iload_n 3, 1) := dLg zLaw2_ok (by decide +kernel)
set_option maxRecDepth 100000 in
theorem dL_267 : decode code 267 = .ok (.iconst 2, 1) := dLg zLaw2_ok (by decide +kernel)
set_option maxRecDepth 100000 in
theorem dL_268 : decode code 268 = .ok (.iadd, 1) := dLg zLaw2_ok (by decide +kernel)
set_option maxRecDepth 100000 in
theorem dL_269 : decode code 269 = .ok (.iaload, 1) := dLg zLaw2_ok (by decide +kernel)
set_option maxRecDepth 100000 in
theorem dL_270 : decode code 270 = .ok (.invokevirtual 22, 3) := dLg zLaw2_ok (by decide +kernel)
set_option maxRecDepth 100000 in
theorem dL_273 : decode code 273 = .ok (.if_icmp .eq 1029, 3) := dLg zLaw2_ok (by decide +kernel)
set_option maxRecDepth 100000 in
theorem dL_276 : decode code 276 = .ok (.iconst 0, 1) := dLg zLaw2_ok (by decide +kernel)
set_option maxRecDepth 100000 in
theorem dL_277 : decode code 277 = .ok (.ireturn, 1) := dLg zLaw2_ok (by decide +kernel)
set_option maxRecDepth 100000 in
theorem dL_278 : decode code 278 = .ok (.aload_n 1, 1) := dLg zLaw2_ok (by decide +kernel)
set_option maxRecDepth 100000 in
theorem dL_279 : decode code 279 = .ok (.aload_n 0, 1) := dLg zLaw2_ok (by decide +kernel)
set_option maxRecDepth 100000 in
theorem dL_280 : decode code 280 = .ok (.iload_n 3, 1) := dLg zLaw2_ok (by decide +kernel)
set_option maxRecDepth 100000 in
theorem dL_281 : decode code 281 = .ok (.iconst 1, 1) := dLg zLaw2_ok (by decide +kernel)
set_option maxRecDepth 100000 in
theorem dL_282 : decode code 282 = .ok (.iadd, 1) := dLg zLaw2_ok (by decide +kernel)
set_option maxRecDepth 100000 in
theorem dL_283 : decode code 283 = .ok (.iaload, 1) := dLg zLaw2_ok (by decide +kernel)
set_option maxRecDepth 100000 in
theorem dL_284 : decode code 284 = .ok (.invokevirtual 23, 3) := dLg zLaw2_ok (by decide +kernel)
set_option maxRecDepth 100000 in
theorem dL_287 : decode code 287 = .ok (.aload_n 2, 1) := dLg zLaw2_ok (by decide +kernel)
set_option maxRecDepth 100000 in
theorem dL_288 : decode code 288 = .ok (.aload_n 0, 1) := dLg zLaw2_ok (by decide +kernel)
set_option maxRecDepth 100000 in
theorem dL_289 : decode code 289 = .ok (.iload_n 3, 1) := dLg zLaw2_ok (by decide +kernel)
set_option maxRecDepth 100000 in
theorem dL_290 : decode code 290 = .ok (.iconst 1, 1) := dLg zLaw2_ok (by decide +kernel)
set_option maxRecDepth 100000 in
theorem dL_291 : decode code 291 = .ok (.iadd, 1) := dLg zLaw2_ok (by decide +kernel)
set_option maxRecDepth 100000 in
theorem dL_292 : decode code 292 = .ok (.iaload, 1) := dLg zLaw2_ok (by decide +kernel)
set_option maxRecDepth 100000 in
theorem dL_293 : decode code 293 = .ok (.invokevirtual 27, 3) := dLg zLaw2_ok (by decide +kernel)
set_option maxRecDepth 100000 in
theorem dL_296 : decode code 296 = .ok (.if_icmp .eq 1006, 3) := dLg zLaw2_ok (by decide +kernel)
set_option maxRecDepth 100000 in
theorem dL_299 : decode code 299 = .ok (.iconst 0, 1) := dLg zLaw2_ok (by decide +kernel)
set_option maxRecDepth 100000 in
theorem dL_300 : decode code 300 = .ok (.ireturn, 1) := dLg zLaw2_ok (by decide +kernel)
set_option maxRecDepth 100000 in
theorem dL_301 : decode code 301 = .ok (.aload_n 1, 1) := dLg zLaw2_ok (by decide +kernel)
set_option maxRecDepth 100000 in
theorem dL_302 : decode code 302 = .ok (.aload_n 0, 1) := dLg zLaw2_ok (by decide +kernel)
set_option maxRecDepth 100000 in
theorem dL_303 : decode code 303 = .ok (.iload_n 3, 1) := dLg zLaw2_ok (by decide +kernel)
set_option maxRecDepth 100000 in
theorem dL_304 : decode code 304 = .ok (.iconst 1, 1) := dLg zLaw2_ok (by decide +kernel)
set_option maxRecDepth 100000 in
theorem dL_305 : decode code 305 = .ok (.iadd, 1) := dLg zLaw2_ok (by decide +kernel)
set_option maxRecDepth 100000 in
theorem dL_306 : decode code 306 = .ok (.iaload, 1) := dLg zLaw2_ok (by decide +kernel)
set_option maxRecDepth 100000 in
theorem dL_307 : decode code 307 = .ok (.aload_n 0, 1) := dLg zLaw2_ok (by decide +kernel)
def zLaw3 : List (Nat × Instr × Nat) := [(308, .iload_n 3, 1), (309, .iconst 2, 1), (310, .iadd, 1), (311, .iaload, 1), (312, .invokevirtual 28, 3), (315, .aload_n 2, 1), (316, .aload_n 0, 1), (317, .iload_n 3, 1), (318, .iconst 1, 1), (319, .iadd, 1), (320, .iaload, 1), (321, .aload_n 0, 1), (322, .iload_n 3, 1), (323, .iconst 2, 1), (324, .iadd, 1), (325, .iaload, 1), (326, .invokevirtual 31, 3), (329, .if_icmp .eq 973, 3), (332, .iconst 0, 1), (333, .ireturn, 1), (334, .aload_n 1, 1), (335, .aload_n 0, 1), (336, .iload_n 3, 1), (337, .iconst 1, 1), (338, .iadd, 1), (339, .iaload, 1), (340, .aload_n 0, 1), (341, .iload_n 3, 1), (342, .iconst 2, 1), (343, .iadd, 1), (344, .iaload, 1), (345, .invokevirtual 32, 3), (348, .aload_n 2, 1), (349, .aload_n 0, 1), (350, .iload_n 3, 1), (351, .iconst 1, 1), (352, .iadd, 1), (353, .iaload, 1), (354, .aload_n 0, 1), (355, .iload_n 3, 1)]
theorem zLaw3_ok : zLaw3.all (fun e => match decode code e.1 with | .ok x => decide (x.1 = e.2.1 ∧ x.2 = e.2.2) | _ => false) = true := by decide +kernel
set_option maxRecDepth 100000 in
theorem dL_308 : decode code 308 = .ok (.iload_n 3, 1) := dLg zLaw3_ok (by decide +kernel)
set_option maxRecDepth 100000 in
theorem dL_309 : decode code 309 = .ok (.iconst 2, 1) := dLg zLaw3_ok (by decide +kernel)
set_option maxRecDepth 100000 in
theorem dL_310 : decode code 310 = .ok (.iadd, 1) := dLg zLaw3_ok (by decide +kernel)
set_option maxRecDepth 100000 in
theorem dL_311 : decode code 311 = .ok (.iaload, 1) := dLg zLaw3_ok (by decide +kernel)
set_option maxRecDepth 100000 in
theorem dL_312 : decode code 312 = .ok (.invokevirtual 28, 3) := dLg zLaw3_ok (by decide +kernel)
set_option maxRecDepth 100000 in
theorem dL_315 : decode code 315 = .ok (.aload_n 2, 1) := dLg zLaw3_ok (by decide +kernel)
set_option maxRecDepth 100000 in
theorem dL_316 : decode code 316 = .ok (.aload_n 0, 1) := dLg zLaw3_ok (by decide +kernel)
set_option maxRecDepth 100000 in
theorem dL_317 : decode code 317 = .ok (.iload_n 3, 1) := dLg zLaw3_ok (by decide +kernel)
set_option maxRecDepth 100000 in
theorem dL_318 : decode code 318 = .ok (.iconst 1, 1) := dLg zLaw3_ok (by decide +kernel)
set_option maxRecDepth 100000 in
theorem dL_319 : decode code 319 = .ok (.iadd, 1) := dLg zLaw3_ok (by decide +kernel)
set_option maxRecDepth 100000 in
theorem dL_320 : decode code 320 = .ok (.iaload, 1) := dLg zLaw3_ok (by decide +kernel)
set_option maxRecDepth 100000 in
theorem dL_321 : decode code 321 = .ok (.aload_n 0, 1) := dLg zLaw3_ok (by decide +kernel)
set_option maxRecDepth 100000 in
theorem dL_322 : decode code 322 = .ok (.iload_n 3, 1) := dLg zLaw3_ok (by decide +kernel)
set_option maxRecDepth 100000 in
theorem dL_323 : decode code 323 = .ok (.iconst 2, 1) := dLg zLaw3_ok (by decide +kernel)
set_option maxRecDepth 100000 in
theorem dL_324 : decode code 324 = .ok (.iadd, 1) := dLg zLaw3_ok (by decide +kernel)
set_option maxRecDepth 100000 in
theorem dL_325 : decode code 325 = .ok (.iaload, 1) := dLg zLaw3_ok (by decide +kernel)
set_option maxRecDepth 100000 in
theorem dL_326 : decode code 326 = .ok (.invokevirtual 31, 3) := dLg zLaw3_ok (by decide +kernel)
set_option maxRecDepth 100000 in
theorem dL_329 : decode code 329 = .ok (.if_icmp .eq 973, 3) := dLg zLaw3_ok (by decide +kernel)
set_option maxRecDepth 100000 in
theorem dL_332 : decode code 332 = .ok (.iconst 0, 1) := dLg zLaw3_ok (by decide +kernel)
set_option maxRecDepth 100000 in
theorem dL_333 : decode code 333 = .ok (.ireturn, 1) := dLg zLaw3_ok (by decide +kernel)
set_option maxRecDepth 100000 in
theorem dL_334 : decode code 334 = .ok (.aload_n 1, 1) := dLg zLaw3_ok (by decide +kernel)
set_option maxRecDepth 100000 in
theorem dL_335 : decode code 335 = .ok (.aload_n 0, 1) := dLg zLaw3_ok (by decide +kernel)
set_option maxRecDepth 100000 in
theorem dL_336 : decode code 336 = .ok (.iload_n 3, 1) := dLg zLaw3_ok (by decide +kernel)
set_option maxRecDepth 100000 in
theorem dL_337 : decode code 337 = .ok (.iconst 1, 1) := dLg zLaw3_ok (by decide +kernel)
set_option maxRecDepth 100000 in
theorem dL_338 : decode code 338 = .ok (.iadd, 1) := dLg zLaw3_ok (by decide +kernel)
set_option maxRecDepth 100000 in
theorem dL_339 : decode code 339 = .ok (.iaload, 1) := dLg zLaw3_ok (by decide +kernel)
set_option maxRecDepth 100000 in
theorem dL_340 : decode code 340 = .ok (.aload_n 0, 1) := dLg zLaw3_ok (by decide +kernel)
set_option maxRecDepth 100000 in
theorem dL_341 : decode code 341 = .ok (.iload_n 3, 1) := dLg zLaw3_ok (by decide +kernel)
set_option maxRecDepth 100000 in
theorem dL_342 : decode code 342 = .ok (.iconst 2, 1) := dLg zLaw3_ok (by decide +kernel)
set_option maxRecDepth 100000 in
theorem dL_343 : decode code 343 = .ok (.iadd, 1) := dLg zLaw3_ok (by decide +kernel)
set_option maxRecDepth 100000 in
theorem dL_344 : decode code 344 = .ok (.iaload, 1) := dLg zLaw3_ok (by decide +kernel)
set_option maxRecDepth 100000 in
theorem dL_345 : decode code 345 = .ok (.invokevirtual 32, 3) := dLg zLaw3_ok (by decide +kernel)
set_option maxRecDepth 100000 in
theorem dL_348 : decode code 348 = .ok (.aload_n 2, 1) := dLg zLaw3_ok (by decide +kernel)
set_option maxRecDepth 100000 in
theorem dL_349 : decode code 349 = .ok (.aload_n 0, 1) := dLg zLaw3_ok (by decide +kernel)
set_option maxRecDepth 100000 in
theorem dL_350 : decode code 350 = .ok (.iload_n 3, 1) := dLg zLaw3_ok (by decide +kernel)
set_option maxRecDepth 100000 in
theorem dL_351 : decode code 351 = .ok (.iconst 1, 1) := dLg zLaw3_ok (by decide +kernel)
set_option maxRecDepth 100000 in
theorem dL_352 : decode code 352 = .ok (.iadd, 1) := dLg zLaw3_ok (by decide +kernel)
set_option maxRecDepth 100000 in
theorem dL_353 : decode code 353 = .ok (.iaload, 1) := dLg zLaw3_ok (by decide +kernel)
set_option maxRecDepth 100000 in
theorem dL_354 : decode code 354 = .ok (.aload_n 0, 1) := dLg zLaw3_ok (by decide +kernel)
set_option maxRecDepth 100000 in
theorem dL_355 : decode code 355 = .ok (.iload_n 3, 1) := dLg zLaw3_ok (by decide +kernel)
def zLaw4 : List (Nat × Instr × Nat) := [(356, .iconst 2, 1), (357, .iadd, 1), (358, .iaload, 1), (359, .invokevirtual 35, 3), (362, .if_icmp .eq 940, 3), (365, .iconst 0, 1), (366, .ireturn, 1), (367, .aload_n 1, 1), (368, .aload_n 0, 1), (369, .iload_n 3, 1), (370, .iconst 1, 1), (371, .iadd, 1), (372, .iaload, 1), (373, .aload_n 0, 1), (374, .iload_n 3, 1), (375, .iconst 2, 1), (376, .iadd, 1), (377, .iaload, 1), (378, .invokevirtual 36, 3), (381, .aload_n 2, 1), (382, .aload_n 0, 1), (383, .iload_n 3, 1), (384, .iconst 1, 1), (385, .iadd, 1), (386, .iaload, 1), (387, .aload_n 0, 1), (388, .iload_n 3, 1), (389, .iconst 2, 1), (390, .iadd, 1), (391, .iaload, 1), (392, .invokevirtual 39, 3), (395, .if_icmp .eq 907, 3), (398, .iconst 0, 1), (399, .ireturn, 1), (400, .aload_n 1, 1), (401, .aload_n 0, 1), (402, .iload_n 3, 1), (403, .iconst 1, 1), (404, .iadd, 1), (405, .iaload, 1)]
theorem zLaw4_ok : zLaw4.all (fun e => match decode code e.1 with | .ok x => decide (x.1 = e.2.1 ∧ x.2 = e.2.2) | _ => false) = true := by decide +kernel
set_option maxRecDepth 100000 in
theorem dL_356 : decode code 356 = .ok (.iconst 2, 1) := dLg zLaw4_ok (by decide +kernel)
set_option maxRecDepth 100000 in
theorem dL_357 : decode code 357 = .ok (.iadd, 1) := dLg zLaw4_ok (by decide +kernel)
set_option maxRecDepth 100000 in
theorem dL_358 : decode code 358 = .ok (.iaload, 1) := dLg zLaw4_ok (by decide +kernel)
set_option maxRecDepth 100000 in
theorem dL_359 : decode code 359 = .ok (.invokevirtual 35, 3) := dLg zLaw4_ok (by decide +kernel)
set_option maxRecDepth 100000 in
theorem dL_362 : decode code 362 = .ok (.if_icmp .eq 940, 3) := dLg zLaw4_ok (by decide +kernel)
set_option maxRecDepth 100000 in
theorem dL_365 : decode code 365 = .ok (.iconst 0, 1) := dLg zLaw4_ok (by decide +kernel)
set_option maxRecDepth 100000 in
theorem dL_366 : decode code 366 = .ok (.ireturn, 1) := dLg zLaw4_ok (by decide +kernel)
set_option maxRecDepth 100000 in
theorem dL_367 : decode code 367 = .ok (.aload_n 1, 1) := dLg zLaw4_ok (by decide +kernel)
set_option maxRecDepth 100000 in
theorem dL_368 : decode code 368 = .ok (.aload_n 0, 1) := dLg zLaw4_ok (by decide +kernel)
set_option maxRecDepth 100000 in
theorem dL_369 : decode code 369 = .ok (.iload_n 3, 1) := dLg zLaw4_ok (by decide +kernel)
set_option maxRecDepth 100000 in
theorem dL_370 : decode code 370 = .ok (.iconst 1, 1) := dLg zLaw4_ok (by decide +kernel)
set_option maxRecDepth 100000 in
theorem dL_371 : decode code 371 = .ok (.iadd, 1) := dLg zLaw4_ok (by decide +kernel)
set_option maxRecDepth 100000 in
theorem dL_372 : decode code 372 = .ok (.iaload, 1) := dLg zLaw4_ok (by decide +kernel)
set_option maxRecDepth 100000 in
theorem dL_373 : decode code 373 = .ok (.aload_n 0, 1) := dLg zLaw4_ok (by decide +kernel)
set_option maxRecDepth 100000 in
theorem dL_374 : decode code 374 = .ok (.iload_n 3, 1) := dLg zLaw4_ok (by decide +kernel)
set_option maxRecDepth 100000 in
theorem dL_375 : decode code 375 = .ok (.iconst 2, 1) := dLg zLaw4_ok (by decide +kernel)
set_option maxRecDepth 100000 in
theorem dL_376 : decode code 376 = .ok (.iadd, 1) := dLg zLaw4_ok (by decide +kernel)
set_option maxRecDepth 100000 in
theorem dL_377 : decode code 377 = .ok (.iaload, 1) := dLg zLaw4_ok (by decide +kernel)
set_option maxRecDepth 100000 in
theorem dL_378 : decode code 378 = .ok (.invokevirtual 36, 3) := dLg zLaw4_ok (by decide +kernel)
set_option maxRecDepth 100000 in
theorem dL_381 : decode code 381 = .ok (.aload_n 2, 1) := dLg zLaw4_ok (by decide +kernel)
set_option maxRecDepth 100000 in
theorem dL_382 : decode code 382 = .ok (.aload_n 0, 1) := dLg zLaw4_ok (by decide +kernel)
set_option maxRecDepth 100000 in
theorem dL_383 : decode code 383 = .ok (.iload_n 3, 1) := dLg zLaw4_ok (by decide +kernel)
set_option maxRecDepth 100000 in
theorem dL_384 : decode code 384 = .ok (.iconst 1, 1) := dLg zLaw4_ok (by decide +kernel)
set_option maxRecDepth 100000 in
theorem dL_385 : decode code 385 = .ok (.iadd, 1) := dLg zLaw4_ok (by decide +kernel)
set_option maxRecDepth 100000 in
theorem dL_386 : decode code 386 = .ok (.iaload, 1) := dLg zLaw4_ok (by decide +kernel)
set_option maxRecDepth 100000 in
theorem dL_387 : decode code 387 = .ok (.aload_n 0, 1) := dLg zLaw4_ok (by decide +kernel)
set_option maxRecDepth 100000 in
theorem dL_388 : decode code 388 = .ok (.iload_n 3, 1) := dLg zLaw4_ok (by decide +kernel)
set_option maxRecDepth 100000 in
theorem dL_389 : decode code 389 = .ok (.iconst 2, 1) := dLg zLaw4_ok (by decide +kernel)
set_option maxRecDepth 100000 in
theorem dL_390 : decode code 390 = .ok (.iadd, 1) := dLg zLaw4_ok (by decide +kernel)
set_option maxRecDepth 100000 in
theorem dL_391 : decode code 391 = .ok (.iaload, 1) := dLg zLaw4_ok (by decide +kernel)
set_option maxRecDepth 100000 in
theorem dL_392 : decode code 392 = .ok (.invokevirtual 39, 3) := dLg zLaw4_ok (by decide +kernel)
set_option maxRecDepth 100000 in
theorem dL_395 : decode code 395 = .ok (.if_icmp .eq 907, 3) := dLg zLaw4_ok (by decide +kernel)
set_option maxRecDepth 100000 in
theorem dL_398 : decode code 398 = .ok (.iconst 0, 1) := dLg zLaw4_ok (by decide +kernel)
set_option maxRecDepth 100000 in
theorem dL_399 : decode code 399 = .ok (.ireturn, 1) := dLg zLaw4_ok (by decide +kernel)
set_option maxRecDepth 100000 in
theorem dL_400 : decode code 400 = .ok (.aload_n 1, 1) := dLg zLaw4_ok (by decide +kernel)
set_option maxRecDepth 100000 in
theorem dL_401 : decode code 401 = .ok (.aload_n 0, 1) := dLg zLaw4_ok (by decide +kernel)
set_option maxRecDepth 100000 in
theorem dL_402 : decode code 402 = .ok (.iload_n 3, 1) := dLg zLaw4_ok (by decide +kernel)
set_option maxRecDepth 100000 in
theorem dL_403 : decode code 403 = .ok (.iconst 1, 1) := dLg zLaw4_ok (by decide +kernel)
set_option maxRecDepth 100000 in
theorem dL_404 : decode code 404 = .ok (.iadd, 1) := dLg zLaw4_ok (by decide +kernel)
set_option maxRecDepth 100000 in
theorem dL_405 : decode code 405 = .ok (.iaload, 1) := dLg zLaw4_ok (by decide +kernel)
