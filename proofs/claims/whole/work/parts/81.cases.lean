-- THE LAW: its cases
section LC
variable {p : Program} {l : Launch} {e : Env} {s : State} {m : MethodId} {below : List Frame} {meth : Method} {c : Code} {H : Heap} {locs : List Loc} {ls : Array Slot} {D : va_G} {cI cZ cS : ClassId} {q : Nat → Nat} {M : zM} {b L : Nat} {xs : Nat → Int32} {x3 : Int32}
set_option maxHeartbeats 4000000 in
set_option maxRecDepth 100000 in
theorem law_c0 (X : LX p s m meth c b L xs D cI cZ cS q) (v1 : vp_in (x3 + 1) L) (v2 : vp_in (x3 + 2) L) (v3 : vp_in (x3 + 3) L) (v4 : vp_in (x3 + 4) L) (v5 : vp_in (x3 + 5) L) (J : zV M) (hP : va_P D vwCl (zW q cI cZ cS M) H) (hS : va_S (fun a : Nat => s.heap.size ≤ a) s.heap H locs) (hl : lv_has ls 4 [(0, .ref b), (1, .ref (q 0)), (2, .ref (q 42)), (3, .int x3)]) (K : LK p l e s m below meth c b D cI cZ cS q x3) : W p l e room_1 s m #[Value.ref b] below meth c H locs 600000 7302250 (lw_Z below #[Value.ref b] s) (F0 m 192 ls []) := by
  obtain ⟨hx, hb, hml, hown, hT, hN, hK, hX, hbl, hD0⟩ := X
  have hA : ∀ a : Nat, s.heap.size ≤ a → (fun a : Nat => s.heap.size ≤ a) a := fun _ h => h
  have hbA : ¬ (fun a : Nat => s.heap.size ≤ a) b := Nat.not_le.mpr hbl
  have hD := zD_any q cI cZ cS (M' := M) hD0
  obtain ⟨n1, r, M1, h1, n2, r2, M2, h2, hr2, hV⟩ := op_see (x := xs (x3 + 1).toNatClampNeg) (x2 := xs (x3 + 2).toNatClampNeg) (x3 := xs (x3 + 3).toNatClampNeg) (x4 := xs (x3 + 4).toNatClampNeg) J
  obtain ⟨v, rfl⟩ := zx_int h1 rfl
  subst hr2
  refine lv_aload_n hx hb dL_192 rfl (lv_at hl 1 rfl) ?_
  refine lv_aload_n hx hb dL_193 rfl (lv_at hl 0 rfl) ?_
  refine lv_iload_n hx hb dL_194 rfl (lv_at hl 3 rfl) ?_
  refine lv_iconst (v := 1) hx hb dL_195 (by decide) ?_
  refine lv_iadd hx hb dL_196 ?_
  refine va_sld hx hb hX hbl hbA hS v1 dL_197 ?_
  refine lv_aload_n hx hb dL_198 rfl (lv_at hl 0 rfl) ?_
  refine lv_iload_n hx hb dL_199 rfl (lv_at hl 3 rfl) ?_
  refine lv_iconst (v := 2) hx hb dL_200 (by decide) ?_
  refine lv_iadd hx hb dL_201 ?_
  refine va_sld hx hb hX hbl hbA hS v2 dL_202 ?_
  refine lv_aload_n hx hb dL_203 rfl (lv_at hl 0 rfl) ?_
  refine lv_iload_n hx hb dL_204 rfl (lv_at hl 3 rfl) ?_
  refine lv_iconst (v := 3) hx hb dL_205 (by decide) ?_
  refine lv_iadd hx hb dL_206 ?_
  refine va_sld hx hb hX hbl hbA hS v3 dL_207 ?_
  refine lv_aload_n hx hb dL_208 rfl (lv_at hl 0 rfl) ?_
  refine lv_iload_n hx hb dL_209 rfl (lv_at hl 3 rfl) ?_
  refine lv_iconst (v := 4) hx hb dL_210 (by decide) ?_
  refine lv_iadd hx hb dL_211 ?_
  refine va_sld hx hb hX hbl hbA hS v4 dL_212 ?_
  refine law_calli (j := 38) (n := 13) (a := 0) (As := [.int (xs (x3 + 1).toNatClampNeg), .int (xs (x3 + 2).toNatClampNeg), .int (xs (x3 + 3).toNatClampNeg), .int (xs (x3 + 4).toNatClampNeg)]) hx hb hml hown hT hN hK hP hD hS hA hl.1 (by decide) rfl ⟨by decide, rfl⟩ (by decide) h1 (Nat.le_of_ble_eq_true rfl) rfl (zT_of 239 (by decide +kernel) rfl) (by decide +kernel) (Nat.le_of_ble_eq_true rfl) dL_213 ⟨Nat.le_of_ble_eq_true rfl, Nat.le_of_ble_eq_true rfl⟩ (fun H locs hP hS => ?_)
  have hD := zD_any q cI cZ cS (M' := M1) hD
  refine lv_aload_n hx hb dL_216 rfl (lv_at hl 2 rfl) ?_
  refine lv_aload_n hx hb dL_217 rfl (lv_at hl 0 rfl) ?_
  refine lv_iload_n hx hb dL_218 rfl (lv_at hl 3 rfl) ?_
  refine lv_iconst (v := 1) hx hb dL_219 (by decide) ?_
  refine lv_iadd hx hb dL_220 ?_
  refine va_sld hx hb hX hbl hbA hS v1 dL_221 ?_
  refine lv_aload_n hx hb dL_222 rfl (lv_at hl 0 rfl) ?_
  refine lv_iload_n hx hb dL_223 rfl (lv_at hl 3 rfl) ?_
  refine lv_iconst (v := 2) hx hb dL_224 (by decide) ?_
  refine lv_iadd hx hb dL_225 ?_
  refine va_sld hx hb hX hbl hbA hS v2 dL_226 ?_
  refine lv_aload_n hx hb dL_227 rfl (lv_at hl 0 rfl) ?_
  refine lv_iload_n hx hb dL_228 rfl (lv_at hl 3 rfl) ?_
  refine lv_iconst (v := 3) hx hb dL_229 (by decide) ?_
  refine lv_iadd hx hb dL_230 ?_
  refine va_sld hx hb hX hbl hbA hS v3 dL_231 ?_
  refine lv_aload_n hx hb dL_232 rfl (lv_at hl 0 rfl) ?_
  refine lv_iload_n hx hb dL_233 rfl (lv_at hl 3 rfl) ?_
  refine lv_iconst (v := 4) hx hb dL_234 (by decide) ?_
  refine lv_iadd hx hb dL_235 ?_
  refine va_sld hx hb hX hbl hbA hS v4 dL_236 ?_
  refine law_calli (j := 98) (n := 17) (a := 42) (As := [.int (xs (x3 + 1).toNatClampNeg), .int (xs (x3 + 2).toNatClampNeg), .int (xs (x3 + 3).toNatClampNeg), .int (xs (x3 + 4).toNatClampNeg)]) hx hb hml hown hT hN hK hP hD hS hA hl.1 (by decide) rfl ⟨by decide, rfl⟩ (by decide) h2 (Nat.le_of_ble_eq_true rfl) rfl (zT_of 705 (by decide +kernel) rfl) (by decide +kernel) (Nat.le_of_ble_eq_true rfl) dL_237 ⟨Nat.le_of_ble_eq_true rfl, Nat.le_of_ble_eq_true rfl⟩ (fun H locs hP hS => ?_)
  exact lv_icmp_eq (tgt := 1302) hx hb dL_240 (by decide) (fun _ => K M2 H locs ls hV hP hS hl) (fun h => absurd rfl h)
set_option maxHeartbeats 4000000 in
set_option maxRecDepth 100000 in
theorem law_c1 (X : LX p s m meth c b L xs D cI cZ cS q) (v1 : vp_in (x3 + 1) L) (v2 : vp_in (x3 + 2) L) (v3 : vp_in (x3 + 3) L) (v4 : vp_in (x3 + 4) L) (v5 : vp_in (x3 + 5) L) (J : zV M) (hP : va_P D vwCl (zW q cI cZ cS M) H) (hS : va_S (fun a : Nat => s.heap.size ≤ a) s.heap H locs) (hl : lv_has ls 4 [(0, .ref b), (1, .ref (q 0)), (2, .ref (q 42)), (3, .int x3)]) (K : LK p l e s m below meth c b D cI cZ cS q x3) : W p l e room_1 s m #[Value.ref b] below meth c H locs 600000 7302250 (lw_Z below #[Value.ref b] s) (F0 m 245 ls []) := by
  obtain ⟨hx, hb, hml, hown, hT, hN, hK, hX, hbl, hD0⟩ := X
  have hA : ∀ a : Nat, s.heap.size ≤ a → (fun a : Nat => s.heap.size ≤ a) a := fun _ h => h
  have hbA : ¬ (fun a : Nat => s.heap.size ≤ a) b := Nat.not_le.mpr hbl
  have hD := zD_any q cI cZ cS (M' := M) hD0
  obtain ⟨n1, r, M1, h1, n2, r2, M2, h2, hr2, hV⟩ := op_ofGlass (x := xs (x3 + 1).toNatClampNeg) (x2 := xs (x3 + 2).toNatClampNeg) J
  obtain ⟨v, rfl⟩ := zx_int h1 rfl
  subst hr2
  refine lv_aload_n hx hb dL_245 rfl (lv_at hl 1 rfl) ?_
  refine lv_aload_n hx hb dL_246 rfl (lv_at hl 0 rfl) ?_
  refine lv_iload_n hx hb dL_247 rfl (lv_at hl 3 rfl) ?_
  refine lv_iconst (v := 1) hx hb dL_248 (by decide) ?_
  refine lv_iadd hx hb dL_249 ?_
  refine va_sld hx hb hX hbl hbA hS v1 dL_250 ?_
  refine lv_aload_n hx hb dL_251 rfl (lv_at hl 0 rfl) ?_
  refine lv_iload_n hx hb dL_252 rfl (lv_at hl 3 rfl) ?_
  refine lv_iconst (v := 2) hx hb dL_253 (by decide) ?_
  refine lv_iadd hx hb dL_254 ?_
  refine va_sld hx hb hX hbl hbA hS v2 dL_255 ?_
  refine law_calli (j := 39) (n := 18) (a := 0) (As := [.int (xs (x3 + 1).toNatClampNeg), .int (xs (x3 + 2).toNatClampNeg)]) hx hb hml hown hT hN hK hP hD hS hA hl.1 (by decide) rfl ⟨by decide, rfl⟩ (by decide) h1 (Nat.le_of_ble_eq_true rfl) rfl (zT_of 289 (by decide +kernel) rfl) (by decide +kernel) (Nat.le_of_ble_eq_true rfl) dL_256 ⟨Nat.le_of_ble_eq_true rfl, Nat.le_of_ble_eq_true rfl⟩ (fun H locs hP hS => ?_)
  have hD := zD_any q cI cZ cS (M' := M1) hD
  refine lv_aload_n hx hb dL_259 rfl (lv_at hl 2 rfl) ?_
  refine lv_aload_n hx hb dL_260 rfl (lv_at hl 0 rfl) ?_
  refine lv_iload_n hx hb dL_261 rfl (lv_at hl 3 rfl) ?_
  refine lv_iconst (v := 1) hx hb dL_262 (by decide) ?_
  refine lv_iadd hx hb dL_263 ?_
  refine va_sld hx hb hX hbl hbA hS v1 dL_264 ?_
  refine lv_aload_n hx hb dL_265 rfl (lv_at hl 0 rfl) ?_
  refine lv_iload_n hx hb dL_266 rfl (lv_at hl 3 rfl) ?_
  refine lv_iconst (v := 2) hx hb dL_267 (by decide) ?_
  refine lv_iadd hx hb dL_268 ?_
  refine va_sld hx hb hX hbl hbA hS v2 dL_269 ?_
  refine law_calli (j := 101) (n := 22) (a := 42) (As := [.int (xs (x3 + 1).toNatClampNeg), .int (xs (x3 + 2).toNatClampNeg)]) hx hb hml hown hT hN hK hP hD hS hA hl.1 (by decide) rfl ⟨by decide, rfl⟩ (by decide) h2 (Nat.le_of_ble_eq_true rfl) rfl (zT_of 748 (by decide +kernel) rfl) (by decide +kernel) (Nat.le_of_ble_eq_true rfl) dL_270 ⟨Nat.le_of_ble_eq_true rfl, Nat.le_of_ble_eq_true rfl⟩ (fun H locs hP hS => ?_)
  exact lv_icmp_eq (tgt := 1302) hx hb dL_273 (by decide) (fun _ => K M2 H locs ls hV hP hS hl) (fun h => absurd rfl h)
set_option maxHeartbeats 4000000 in
set_option maxRecDepth 100000 in
theorem law_c2 (X : LX p s m meth c b L xs D cI cZ cS q) (v1 : vp_in (x3 + 1) L) (v2 : vp_in (x3 + 2) L) (v3 : vp_in (x3 + 3) L) (v4 : vp_in (x3 + 4) L) (v5 : vp_in (x3 + 5) L) (J : zV M) (hP : va_P D vwCl (zW q cI cZ cS M) H) (hS : va_S (fun a : Nat => s.heap.size ≤ a) s.heap H locs) (hl : lv_has ls 4 [(0, .ref b), (1, .ref (q 0)), (2, .ref (q 42)), (3, .int x3)]) (K : LK p l e s m below meth c b D cI cZ cS q x3) : W p l e room_1 s m #[Value.ref b] below meth c H locs 600000 7302250 (lw_Z below #[Value.ref b] s) (F0 m 278 ls []) := by
  obtain ⟨hx, hb, hml, hown, hT, hN, hK, hX, hbl, hD0⟩ := X
  have hA : ∀ a : Nat, s.heap.size ≤ a → (fun a : Nat => s.heap.size ≤ a) a := fun _ h => h
  have hbA : ¬ (fun a : Nat => s.heap.size ≤ a) b := Nat.not_le.mpr hbl
  have hD := zD_any q cI cZ cS (M' := M) hD0
  obtain ⟨n1, r, M1, h1, n2, r2, M2, h2, hr2, hV⟩ := op_keeps (x := xs (x3 + 1).toNatClampNeg) J
  obtain ⟨v, rfl⟩ := zx_int h1 rfl
  subst hr2
  refine lv_aload_n hx hb dL_278 rfl (lv_at hl 1 rfl) ?_
  refine lv_aload_n hx hb dL_279 rfl (lv_at hl 0 rfl) ?_
  refine lv_iload_n hx hb dL_280 rfl (lv_at hl 3 rfl) ?_
  refine lv_iconst (v := 1) hx hb dL_281 (by decide) ?_
  refine lv_iadd hx hb dL_282 ?_
  refine va_sld hx hb hX hbl hbA hS v1 dL_283 ?_
  refine law_calli (j := 40) (n := 23) (a := 0) (As := [.int (xs (x3 + 1).toNatClampNeg)]) hx hb hml hown hT hN hK hP hD hS hA hl.1 (by decide) rfl ⟨by decide, rfl⟩ (by decide) h1 (Nat.le_of_ble_eq_true rfl) rfl (zT_of 298 (by decide +kernel) rfl) (by decide +kernel) (Nat.le_of_ble_eq_true rfl) dL_284 ⟨Nat.le_of_ble_eq_true rfl, Nat.le_of_ble_eq_true rfl⟩ (fun H locs hP hS => ?_)
  have hD := zD_any q cI cZ cS (M' := M1) hD
  refine lv_aload_n hx hb dL_287 rfl (lv_at hl 2 rfl) ?_
  refine lv_aload_n hx hb dL_288 rfl (lv_at hl 0 rfl) ?_
  refine lv_iload_n hx hb dL_289 rfl (lv_at hl 3 rfl) ?_
  refine lv_iconst (v := 1) hx hb dL_290 (by decide) ?_
  refine lv_iadd hx hb dL_291 ?_
  refine va_sld hx hb hX hbl hbA hS v1 dL_292 ?_
  refine law_calli (j := 102) (n := 27) (a := 42) (As := [.int (xs (x3 + 1).toNatClampNeg)]) hx hb hml hown hT hN hK hP hD hS hA hl.1 (by decide) rfl ⟨by decide, rfl⟩ (by decide) h2 (Nat.le_of_ble_eq_true rfl) rfl (zT_of 760 (by decide +kernel) rfl) (by decide +kernel) (Nat.le_of_ble_eq_true rfl) dL_293 ⟨Nat.le_of_ble_eq_true rfl, Nat.le_of_ble_eq_true rfl⟩ (fun H locs hP hS => ?_)
  exact lv_icmp_eq (tgt := 1302) hx hb dL_296 (by decide) (fun _ => K M2 H locs ls hV hP hS hl) (fun h => absurd rfl h)
set_option maxHeartbeats 4000000 in
set_option maxRecDepth 100000 in
theorem law_c3 (X : LX p s m meth c b L xs D cI cZ cS q) (v1 : vp_in (x3 + 1) L) (v2 : vp_in (x3 + 2) L) (v3 : vp_in (x3 + 3) L) (v4 : vp_in (x3 + 4) L) (v5 : vp_in (x3 + 5) L) (J : zV M) (hP : va_P D vwCl (zW q cI cZ cS M) H) (hS : va_S (fun a : Nat => s.heap.size ≤ a) s.heap H locs) (hl : lv_has ls 4 [(0, .ref b), (1, .ref (q 0)), (2, .ref (q 42)), (3, .int x3)]) (K : LK p l e s m below meth c b D cI cZ cS q x3) : W p l e room_1 s m #[Value.ref b] below meth c H locs 600000 7302250 (lw_Z below #[Value.ref b] s) (F0 m 301 ls []) := by
  obtain ⟨hx, hb, hml, hown, hT, hN, hK, hX, hbl, hD0⟩ := X
  have hA : ∀ a : Nat, s.heap.size ≤ a → (fun a : Nat => s.heap.size ≤ a) a := fun _ h => h
  have hbA : ¬ (fun a : Nat => s.heap.size ≤ a) b := Nat.not_le.mpr hbl
  have hD := zD_any q cI cZ cS (M' := M) hD0
  obtain ⟨n1, r, M1, h1, n2, r2, M2, h2, hr2, hV⟩ := op_chafe (x := xs (x3 + 1).toNatClampNeg) (x2 := xs (x3 + 2).toNatClampNeg) J
  obtain ⟨v, rfl⟩ := zx_int h1 rfl
  subst hr2
  refine lv_aload_n hx hb dL_301 rfl (lv_at hl 1 rfl) ?_
  refine lv_aload_n hx hb dL_302 rfl (lv_at hl 0 rfl) ?_
  refine lv_iload_n hx hb dL_303 rfl (lv_at hl 3 rfl) ?_
  refine lv_iconst (v := 1) hx hb dL_304 (by decide) ?_
  refine lv_iadd hx hb dL_305 ?_
  refine va_sld hx hb hX hbl hbA hS v1 dL_306 ?_
  refine lv_aload_n hx hb dL_307 rfl (lv_at hl 0 rfl) ?_
  refine lv_iload_n hx hb dL_308 rfl (lv_at hl 3 rfl) ?_
  refine lv_iconst (v := 2) hx hb dL_309 (by decide) ?_
  refine lv_iadd hx hb dL_310 ?_
  refine va_sld hx hb hX hbl hbA hS v2 dL_311 ?_
  refine law_calli (j := 41) (n := 28) (a := 0) (As := [.int (xs (x3 + 1).toNatClampNeg), .int (xs (x3 + 2).toNatClampNeg)]) hx hb hml hown hT hN hK hP hD hS hA hl.1 (by decide) rfl ⟨by decide, rfl⟩ (by decide) h1 (Nat.le_of_ble_eq_true rfl) rfl (zT_of 306 (by decide +kernel) rfl) (by decide +kernel) (Nat.le_of_ble_eq_true rfl) dL_312 ⟨Nat.le_of_ble_eq_true rfl, Nat.le_of_ble_eq_true rfl⟩ (fun H locs hP hS => ?_)
  have hD := zD_any q cI cZ cS (M' := M1) hD
  refine lv_aload_n hx hb dL_315 rfl (lv_at hl 2 rfl) ?_
  refine lv_aload_n hx hb dL_316 rfl (lv_at hl 0 rfl) ?_
  refine lv_iload_n hx hb dL_317 rfl (lv_at hl 3 rfl) ?_
  refine lv_iconst (v := 1) hx hb dL_318 (by decide) ?_
  refine lv_iadd hx hb dL_319 ?_
  refine va_sld hx hb hX hbl hbA hS v1 dL_320 ?_
  refine lv_aload_n hx hb dL_321 rfl (lv_at hl 0 rfl) ?_
  refine lv_iload_n hx hb dL_322 rfl (lv_at hl 3 rfl) ?_
  refine lv_iconst (v := 2) hx hb dL_323 (by decide) ?_
  refine lv_iadd hx hb dL_324 ?_
  refine va_sld hx hb hX hbl hbA hS v2 dL_325 ?_
  refine law_calli (j := 103) (n := 31) (a := 42) (As := [.int (xs (x3 + 1).toNatClampNeg), .int (xs (x3 + 2).toNatClampNeg)]) hx hb hml hown hT hN hK hP hD hS hA hl.1 (by decide) rfl ⟨by decide, rfl⟩ (by decide) h2 (Nat.le_of_ble_eq_true rfl) rfl (zT_of 764 (by decide +kernel) rfl) (by decide +kernel) (Nat.le_of_ble_eq_true rfl) dL_326 ⟨Nat.le_of_ble_eq_true rfl, Nat.le_of_ble_eq_true rfl⟩ (fun H locs hP hS => ?_)
  exact lv_icmp_eq (tgt := 1302) hx hb dL_329 (by decide) (fun _ => K M2 H locs ls hV hP hS hl) (fun h => absurd rfl h)
set_option maxHeartbeats 4000000 in
set_option maxRecDepth 100000 in
theorem law_c4 (X : LX p s m meth c b L xs D cI cZ cS q) (v1 : vp_in (x3 + 1) L) (v2 : vp_in (x3 + 2) L) (v3 : vp_in (x3 + 3) L) (v4 : vp_in (x3 + 4) L) (v5 : vp_in (x3 + 5) L) (J : zV M) (hP : va_P D vwCl (zW q cI cZ cS M) H) (hS : va_S (fun a : Nat => s.heap.size ≤ a) s.heap H locs) (hl : lv_has ls 4 [(0, .ref b), (1, .ref (q 0)), (2, .ref (q 42)), (3, .int x3)]) (K : LK p l e s m below meth c b D cI cZ cS q x3) : W p l e room_1 s m #[Value.ref b] below meth c H locs 600000 7302250 (lw_Z below #[Value.ref b] s) (F0 m 334 ls []) := by
  obtain ⟨hx, hb, hml, hown, hT, hN, hK, hX, hbl, hD0⟩ := X
  have hA : ∀ a : Nat, s.heap.size ≤ a → (fun a : Nat => s.heap.size ≤ a) a := fun _ h => h
  have hbA : ¬ (fun a : Nat => s.heap.size ≤ a) b := Nat.not_le.mpr hbl
  have hD := zD_any q cI cZ cS (M' := M) hD0
  obtain ⟨n1, r, M1, h1, n2, r2, M2, h2, hr2, hV⟩ := op_warm (x := xs (x3 + 1).toNatClampNeg) (x2 := xs (x3 + 2).toNatClampNeg) J
  obtain ⟨v, rfl⟩ := zx_int h1 rfl
  subst hr2
  refine lv_aload_n hx hb dL_334 rfl (lv_at hl 1 rfl) ?_
  refine lv_aload_n hx hb dL_335 rfl (lv_at hl 0 rfl) ?_
  refine lv_iload_n hx hb dL_336 rfl (lv_at hl 3 rfl) ?_
  refine lv_iconst (v := 1) hx hb dL_337 (by decide) ?_
  refine lv_iadd hx hb dL_338 ?_
  refine va_sld hx hb hX hbl hbA hS v1 dL_339 ?_
  refine lv_aload_n hx hb dL_340 rfl (lv_at hl 0 rfl) ?_
  refine lv_iload_n hx hb dL_341 rfl (lv_at hl 3 rfl) ?_
  refine lv_iconst (v := 2) hx hb dL_342 (by decide) ?_
  refine lv_iadd hx hb dL_343 ?_
  refine va_sld hx hb hX hbl hbA hS v2 dL_344 ?_
  refine law_calli (j := 42) (n := 32) (a := 0) (As := [.int (xs (x3 + 1).toNatClampNeg), .int (xs (x3 + 2).toNatClampNeg)]) hx hb hml hown hT hN hK hP hD hS hA hl.1 (by decide) rfl ⟨by decide, rfl⟩ (by decide) h1 (Nat.le_of_ble_eq_true rfl) rfl (zT_of 310 (by decide +kernel) rfl) (by decide +kernel) (Nat.le_of_ble_eq_true rfl) dL_345 ⟨Nat.le_of_ble_eq_true rfl, Nat.le_of_ble_eq_true rfl⟩ (fun H locs hP hS => ?_)
  have hD := zD_any q cI cZ cS (M' := M1) hD
  refine lv_aload_n hx hb dL_348 rfl (lv_at hl 2 rfl) ?_
  refine lv_aload_n hx hb dL_349 rfl (lv_at hl 0 rfl) ?_
  refine lv_iload_n hx hb dL_350 rfl (lv_at hl 3 rfl) ?_
  refine lv_iconst (v := 1) hx hb dL_351 (by decide) ?_
  refine lv_iadd hx hb dL_352 ?_
  refine va_sld hx hb hX hbl hbA hS v1 dL_353 ?_
  refine lv_aload_n hx hb dL_354 rfl (lv_at hl 0 rfl) ?_
  refine lv_iload_n hx hb dL_355 rfl (lv_at hl 3 rfl) ?_
  refine lv_iconst (v := 2) hx hb dL_356 (by decide) ?_
  refine lv_iadd hx hb dL_357 ?_
  refine va_sld hx hb hX hbl hbA hS v2 dL_358 ?_
  refine law_calli (j := 104) (n := 35) (a := 42) (As := [.int (xs (x3 + 1).toNatClampNeg), .int (xs (x3 + 2).toNatClampNeg)]) hx hb hml hown hT hN hK hP hD hS hA hl.1 (by decide) rfl ⟨by decide, rfl⟩ (by decide) h2 (Nat.le_of_ble_eq_true rfl) rfl (zT_of 769 (by decide +kernel) rfl) (by decide +kernel) (Nat.le_of_ble_eq_true rfl) dL_359 ⟨Nat.le_of_ble_eq_true rfl, Nat.le_of_ble_eq_true rfl⟩ (fun H locs hP hS => ?_)
  exact lv_icmp_eq (tgt := 1302) hx hb dL_362 (by decide) (fun _ => K M2 H locs ls hV hP hS hl) (fun h => absurd rfl h)
set_option maxHeartbeats 4000000 in
set_option maxRecDepth 100000 in
theorem law_c5 (X : LX p s m meth c b L xs D cI cZ cS q) (v1 : vp_in (x3 + 1) L) (v2 : vp_in (x3 + 2) L) (v3 : vp_in (x3 + 3) L) (v4 : vp_in (x3 + 4) L) (v5 : vp_in (x3 + 5) L) (J : zV M) (hP : va_P D vwCl (zW q cI cZ cS M) H) (hS : va_S (fun a : Nat => s.heap.size ≤ a) s.heap H locs) (hl : lv_has ls 4 [(0, .ref b), (1, .ref (q 0)), (2, .ref (q 42)), (3, .int x3)]) (K : LK p l e s m below meth c b D cI cZ cS q x3) : W p l e room_1 s m #[Value.ref b] below meth c H locs 600000 7302250 (lw_Z below #[Value.ref b] s) (F0 m 367 ls []) := by
  obtain ⟨hx, hb, hml, hown, hT, hN, hK, hX, hbl, hD0⟩ := X
  have hA : ∀ a : Nat, s.heap.size ≤ a → (fun a : Nat => s.heap.size ≤ a) a := fun _ h => h
  have hbA : ¬ (fun a : Nat => s.heap.size ≤ a) b := Nat.not_le.mpr hbl
  have hD := zD_any q cI cZ cS (M' := M) hD0
  obtain ⟨n1, r, M1, h1, n2, r2, M2, h2, hr2, hV⟩ := op_give (x := xs (x3 + 1).toNatClampNeg) (x2 := xs (x3 + 2).toNatClampNeg) J
  obtain ⟨v, rfl⟩ := zx_int h1 rfl
  subst hr2
  refine lv_aload_n hx hb dL_367 rfl (lv_at hl 1 rfl) ?_
  refine lv_aload_n hx hb dL_368 rfl (lv_at hl 0 rfl) ?_
  refine lv_iload_n hx hb dL_369 rfl (lv_at hl 3 rfl) ?_
  refine lv_iconst (v := 1) hx hb dL_370 (by decide) ?_
  refine lv_iadd hx hb dL_371 ?_
  refine va_sld hx hb hX hbl hbA hS v1 dL_372 ?_
  refine lv_aload_n hx hb dL_373 rfl (lv_at hl 0 rfl) ?_
  refine lv_iload_n hx hb dL_374 rfl (lv_at hl 3 rfl) ?_
  refine lv_iconst (v := 2) hx hb dL_375 (by decide) ?_
  refine lv_iadd hx hb dL_376 ?_
  refine va_sld hx hb hX hbl hbA hS v2 dL_377 ?_
  refine law_calli (j := 43) (n := 36) (a := 0) (As := [.int (xs (x3 + 1).toNatClampNeg), .int (xs (x3 + 2).toNatClampNeg)]) hx hb hml hown hT hN hK hP hD hS hA hl.1 (by decide) rfl ⟨by decide, rfl⟩ (by decide) h1 (Nat.le_of_ble_eq_true rfl) rfl (zT_of 314 (by decide +kernel) rfl) (by decide +kernel) (Nat.le_of_ble_eq_true rfl) dL_378 ⟨Nat.le_of_ble_eq_true rfl, Nat.le_of_ble_eq_true rfl⟩ (fun H locs hP hS => ?_)
  have hD := zD_any q cI cZ cS (M' := M1) hD
  refine lv_aload_n hx hb dL_381 rfl (lv_at hl 2 rfl) ?_
  refine lv_aload_n hx hb dL_382 rfl (lv_at hl 0 rfl) ?_
  refine lv_iload_n hx hb dL_383 rfl (lv_at hl 3 rfl) ?_
  refine lv_iconst (v := 1) hx hb dL_384 (by decide) ?_
  refine lv_iadd hx hb dL_385 ?_
  refine va_sld hx hb hX hbl hbA hS v1 dL_386 ?_
  refine lv_aload_n hx hb dL_387 rfl (lv_at hl 0 rfl) ?_
  refine lv_iload_n hx hb dL_388 rfl (lv_at hl 3 rfl) ?_
  refine lv_iconst (v := 2) hx hb dL_389 (by decide) ?_
  refine lv_iadd hx hb dL_390 ?_
  refine va_sld hx hb hX hbl hbA hS v2 dL_391 ?_
  refine law_calli (j := 105) (n := 39) (a := 42) (As := [.int (xs (x3 + 1).toNatClampNeg), .int (xs (x3 + 2).toNatClampNeg)]) hx hb hml hown hT hN hK hP hD hS hA hl.1 (by decide) rfl ⟨by decide, rfl⟩ (by decide) h2 (Nat.le_of_ble_eq_true rfl) rfl (zT_of 773 (by decide +kernel) rfl) (by decide +kernel) (Nat.le_of_ble_eq_true rfl) dL_392 ⟨Nat.le_of_ble_eq_true rfl, Nat.le_of_ble_eq_true rfl⟩ (fun H locs hP hS => ?_)
  exact lv_icmp_eq (tgt := 1302) hx hb dL_395 (by decide) (fun _ => K M2 H locs ls hV hP hS hl) (fun h => absurd rfl h)
set_option maxHeartbeats 4000000 in
set_option maxRecDepth 100000 in
theorem law_c6 (X : LX p s m meth c b L xs D cI cZ cS q) (v1 : vp_in (x3 + 1) L) (v2 : vp_in (x3 + 2) L) (v3 : vp_in (x3 + 3) L) (v4 : vp_in (x3 + 4) L) (v5 : vp_in (x3 + 5) L) (J : zV M) (hP : va_P D vwCl (zW q cI cZ cS M) H) (hS : va_S (fun a : Nat => s.heap.size ≤ a) s.heap H locs) (hl : lv_has ls 4 [(0, .ref b), (1, .ref (q 0)), (2, .ref (q 42)), (3, .int x3)]) (K : LK p l e s m below meth c b D cI cZ cS q x3) : W p l e room_1 s m #[Value.ref b] below meth c H locs 600000 7302250 (lw_Z below #[Value.ref b] s) (F0 m 400 ls []) := by
  obtain ⟨hx, hb, hml, hown, hT, hN, hK, hX, hbl, hD0⟩ := X
  have hA : ∀ a : Nat, s.heap.size ≤ a → (fun a : Nat => s.heap.size ≤ a) a := fun _ h => h
  have hbA : ¬ (fun a : Nat => s.heap.size ≤ a) b := Nat.not_le.mpr hbl
  have hD := zD_any q cI cZ cS (M' := M) hD0
  obtain ⟨n1, r, M1, h1, n2, r2, M2, h2, hr2, hV⟩ := op_alive (x := xs (x3 + 1).toNatClampNeg) J
  obtain ⟨v, rfl⟩ := zx_int h1 rfl
  subst hr2
  refine lv_aload_n hx hb dL_400 rfl (lv_at hl 1 rfl) ?_
  refine lv_aload_n hx hb dL_401 rfl (lv_at hl 0 rfl) ?_
  refine lv_iload_n hx hb dL_402 rfl (lv_at hl 3 rfl) ?_
  refine lv_iconst (v := 1) hx hb dL_403 (by decide) ?_
  refine lv_iadd hx hb dL_404 ?_
  refine va_sld hx hb hX hbl hbA hS v1 dL_405 ?_
  refine law_calli (j := 44) (n := 40) (a := 0) (As := [.int (xs (x3 + 1).toNatClampNeg)]) hx hb hml hown hT hN hK hP hD hS hA hl.1 (by decide) rfl ⟨by decide, rfl⟩ (by decide) h1 (Nat.le_of_ble_eq_true rfl) rfl (zT_of 318 (by decide +kernel) rfl) (by decide +kernel) (Nat.le_of_ble_eq_true rfl) dL_406 ⟨Nat.le_of_ble_eq_true rfl, Nat.le_of_ble_eq_true rfl⟩ (fun H locs hP hS => ?_)
  have hD := zD_any q cI cZ cS (M' := M1) hD
  refine lv_aload_n hx hb dL_409 rfl (lv_at hl 2 rfl) ?_
  refine lv_aload_n hx hb dL_410 rfl (lv_at hl 0 rfl) ?_
  refine lv_iload_n hx hb dL_411 rfl (lv_at hl 3 rfl) ?_
  refine lv_iconst (v := 1) hx hb dL_412 (by decide) ?_
  refine lv_iadd hx hb dL_413 ?_
  refine va_sld hx hb hX hbl hbA hS v1 dL_414 ?_
  refine law_calli (j := 107) (n := 43) (a := 42) (As := [.int (xs (x3 + 1).toNatClampNeg)]) hx hb hml hown hT hN hK hP hD hS hA hl.1 (by decide) rfl ⟨by decide, rfl⟩ (by decide) h2 (Nat.le_of_ble_eq_true rfl) rfl (zT_of 777 (by decide +kernel) rfl) (by decide +kernel) (Nat.le_of_ble_eq_true rfl) dL_415 ⟨Nat.le_of_ble_eq_true rfl, Nat.le_of_ble_eq_true rfl⟩ (fun H locs hP hS => ?_)
  exact lv_icmp_eq (tgt := 1302) hx hb dL_418 (by decide) (fun _ => K M2 H locs ls hV hP hS hl) (fun h => absurd rfl h)
set_option maxHeartbeats 4000000 in
set_option maxRecDepth 100000 in
theorem law_c7 (X : LX p s m meth c b L xs D cI cZ cS q) (v1 : vp_in (x3 + 1) L) (v2 : vp_in (x3 + 2) L) (v3 : vp_in (x3 + 3) L) (v4 : vp_in (x3 + 4) L) (v5 : vp_in (x3 + 5) L) (J : zV M) (hP : va_P D vwCl (zW q cI cZ cS M) H) (hS : va_S (fun a : Nat => s.heap.size ≤ a) s.heap H locs) (hl : lv_has ls 4 [(0, .ref b), (1, .ref (q 0)), (2, .ref (q 42)), (3, .int x3)]) (K : LK p l e s m below meth c b D cI cZ cS q x3) : W p l e room_1 s m #[Value.ref b] below meth c H locs 600000 7302250 (lw_Z below #[Value.ref b] s) (F0 m 423 ls []) := by
  obtain ⟨hx, hb, hml, hown, hT, hN, hK, hX, hbl, hD0⟩ := X
  have hA : ∀ a : Nat, s.heap.size ≤ a → (fun a : Nat => s.heap.size ≤ a) a := fun _ h => h
  have hbA : ¬ (fun a : Nat => s.heap.size ≤ a) b := Nat.not_le.mpr hbl
  have hD := zD_any q cI cZ cS (M' := M) hD0
  obtain ⟨n1, r, M1, h1, n2, r2, M2, h2, hr2, hV⟩ := op_lay (x := xs (x3 + 1).toNatClampNeg) J
  obtain ⟨v, rfl⟩ := zx_int h1 rfl
  subst hr2
  refine lv_aload_n hx hb dL_423 rfl (lv_at hl 1 rfl) ?_
  refine lv_aload_n hx hb dL_424 rfl (lv_at hl 0 rfl) ?_
  refine lv_iload_n hx hb dL_425 rfl (lv_at hl 3 rfl) ?_
  refine lv_iconst (v := 1) hx hb dL_426 (by decide) ?_
  refine lv_iadd hx hb dL_427 ?_
  refine va_sld hx hb hX hbl hbA hS v1 dL_428 ?_
  refine law_calli (j := 45) (n := 44) (a := 0) (As := [.int (xs (x3 + 1).toNatClampNeg)]) hx hb hml hown hT hN hK hP hD hS hA hl.1 (by decide) rfl ⟨by decide, rfl⟩ (by decide) h1 (Nat.le_of_ble_eq_true rfl) rfl (zT_of 334 (by decide +kernel) rfl) (by decide +kernel) (Nat.le_of_ble_eq_true rfl) dL_429 ⟨Nat.le_of_ble_eq_true rfl, Nat.le_of_ble_eq_true rfl⟩ (fun H locs hP hS => ?_)
  have hD := zD_any q cI cZ cS (M' := M1) hD
  refine lv_aload_n hx hb dL_432 rfl (lv_at hl 2 rfl) ?_
  refine lv_aload_n hx hb dL_433 rfl (lv_at hl 0 rfl) ?_
  refine lv_iload_n hx hb dL_434 rfl (lv_at hl 3 rfl) ?_
  refine lv_iconst (v := 1) hx hb dL_435 (by decide) ?_
  refine lv_iadd hx hb dL_436 ?_
  refine va_sld hx hb hX hbl hbA hS v1 dL_437 ?_
  refine law_calli (j := 110) (n := 47) (a := 42) (As := [.int (xs (x3 + 1).toNatClampNeg)]) hx hb hml hown hT hN hK hP hD hS hA hl.1 (by decide) rfl ⟨by decide, rfl⟩ (by decide) h2 (Nat.le_of_ble_eq_true rfl) rfl (zT_of 789 (by decide +kernel) rfl) (by decide +kernel) (Nat.le_of_ble_eq_true rfl) dL_438 ⟨Nat.le_of_ble_eq_true rfl, Nat.le_of_ble_eq_true rfl⟩ (fun H locs hP hS => ?_)
  exact lv_icmp_eq (tgt := 1302) hx hb dL_441 (by decide) (fun _ => K M2 H locs ls hV hP hS hl) (fun h => absurd rfl h)
set_option maxHeartbeats 4000000 in
set_option maxRecDepth 100000 in
theorem law_c8 (X : LX p s m meth c b L xs D cI cZ cS q) (v1 : vp_in (x3 + 1) L) (v2 : vp_in (x3 + 2) L) (v3 : vp_in (x3 + 3) L) (v4 : vp_in (x3 + 4) L) (v5 : vp_in (x3 + 5) L) (J : zV M) (hP : va_P D vwCl (zW q cI cZ cS M) H) (hS : va_S (fun a : Nat => s.heap.size ≤ a) s.heap H locs) (hl : lv_has ls 4 [(0, .ref b), (1, .ref (q 0)), (2, .ref (q 42)), (3, .int x3)]) (K : LK p l e s m below meth c b D cI cZ cS q x3) : W p l e room_1 s m #[Value.ref b] below meth c H locs 600000 7302250 (lw_Z below #[Value.ref b] s) (F0 m 446 ls []) := by
  obtain ⟨hx, hb, hml, hown, hT, hN, hK, hX, hbl, hD0⟩ := X
  have hA : ∀ a : Nat, s.heap.size ≤ a → (fun a : Nat => s.heap.size ≤ a) a := fun _ h => h
  have hbA : ¬ (fun a : Nat => s.heap.size ≤ a) b := Nat.not_le.mpr hbl
  have hD := zD_any q cI cZ cS (M' := M) hD0
  obtain ⟨n1, r, M1, h1, n2, r2, M2, h2, hr2, hV⟩ := op_raise (x := xs (x3 + 1).toNatClampNeg) J
  obtain ⟨v, rfl⟩ := zx_int h1 rfl
  subst hr2
  refine lv_aload_n hx hb dL_446 rfl (lv_at hl 1 rfl) ?_
  refine lv_aload_n hx hb dL_447 rfl (lv_at hl 0 rfl) ?_
  refine lv_iload_n hx hb dL_448 rfl (lv_at hl 3 rfl) ?_
  refine lv_iconst (v := 1) hx hb dL_449 (by decide) ?_
  refine lv_iadd hx hb dL_450 ?_
  refine va_sld hx hb hX hbl hbA hS v1 dL_451 ?_
  refine law_calli (j := 46) (n := 48) (a := 0) (As := [.int (xs (x3 + 1).toNatClampNeg)]) hx hb hml hown hT hN hK hP hD hS hA hl.1 (by decide) rfl ⟨by decide, rfl⟩ (by decide) h1 (Nat.le_of_ble_eq_true rfl) rfl (zT_of 350 (by decide +kernel) rfl) (by decide +kernel) (Nat.le_of_ble_eq_true rfl) dL_452 ⟨Nat.le_of_ble_eq_true rfl, Nat.le_of_ble_eq_true rfl⟩ (fun H locs hP hS => ?_)
  have hD := zD_any q cI cZ cS (M' := M1) hD
  refine lv_aload_n hx hb dL_455 rfl (lv_at hl 2 rfl) ?_
  refine lv_aload_n hx hb dL_456 rfl (lv_at hl 0 rfl) ?_
  refine lv_iload_n hx hb dL_457 rfl (lv_at hl 3 rfl) ?_
  refine lv_iconst (v := 1) hx hb dL_458 (by decide) ?_
  refine lv_iadd hx hb dL_459 ?_
  refine va_sld hx hb hX hbl hbA hS v1 dL_460 ?_
  refine law_calli (j := 111) (n := 51) (a := 42) (As := [.int (xs (x3 + 1).toNatClampNeg)]) hx hb hml hown hT hN hK hP hD hS hA hl.1 (by decide) rfl ⟨by decide, rfl⟩ (by decide) h2 (Nat.le_of_ble_eq_true rfl) rfl (zT_of 804 (by decide +kernel) rfl) (by decide +kernel) (Nat.le_of_ble_eq_true rfl) dL_461 ⟨Nat.le_of_ble_eq_true rfl, Nat.le_of_ble_eq_true rfl⟩ (fun H locs hP hS => ?_)
  exact lv_icmp_eq (tgt := 1302) hx hb dL_464 (by decide) (fun _ => K M2 H locs ls hV hP hS hl) (fun h => absurd rfl h)
set_option maxHeartbeats 4000000 in
set_option maxRecDepth 100000 in
theorem law_c9 (X : LX p s m meth c b L xs D cI cZ cS q) (v1 : vp_in (x3 + 1) L) (v2 : vp_in (x3 + 2) L) (v3 : vp_in (x3 + 3) L) (v4 : vp_in (x3 + 4) L) (v5 : vp_in (x3 + 5) L) (J : zV M) (hP : va_P D vwCl (zW q cI cZ cS M) H) (hS : va_S (fun a : Nat => s.heap.size ≤ a) s.heap H locs) (hl : lv_has ls 4 [(0, .ref b), (1, .ref (q 0)), (2, .ref (q 42)), (3, .int x3)]) (K : LK p l e s m below meth c b D cI cZ cS q x3) : W p l e room_1 s m #[Value.ref b] below meth c H locs 600000 7302250 (lw_Z below #[Value.ref b] s) (F0 m 469 ls []) := by
  obtain ⟨hx, hb, hml, hown, hT, hN, hK, hX, hbl, hD0⟩ := X
  have hA : ∀ a : Nat, s.heap.size ≤ a → (fun a : Nat => s.heap.size ≤ a) a := fun _ h => h
  have hbA : ¬ (fun a : Nat => s.heap.size ≤ a) b := Nat.not_le.mpr hbl
  have hD := zD_any q cI cZ cS (M' := M) hD0
  obtain ⟨n1, r, M1, h1, n2, r2, M2, h2, hr2, hV⟩ := op_turn (x := xs (x3 + 1).toNatClampNeg) J
  obtain ⟨v, rfl⟩ := zx_int h1 rfl
  subst hr2
  refine lv_aload_n hx hb dL_469 rfl (lv_at hl 1 rfl) ?_
  refine lv_aload_n hx hb dL_470 rfl (lv_at hl 0 rfl) ?_
  refine lv_iload_n hx hb dL_471 rfl (lv_at hl 3 rfl) ?_
  refine lv_iconst (v := 1) hx hb dL_472 (by decide) ?_
  refine lv_iadd hx hb dL_473 ?_
  refine va_sld hx hb hX hbl hbA hS v1 dL_474 ?_
  refine law_calli (j := 47) (n := 52) (a := 0) (As := [.int (xs (x3 + 1).toNatClampNeg)]) hx hb hml hown hT hN hK hP hD hS hA hl.1 (by decide) rfl ⟨by decide, rfl⟩ (by decide) h1 (Nat.le_of_ble_eq_true rfl) rfl (zT_of 354 (by decide +kernel) rfl) (by decide +kernel) (Nat.le_of_ble_eq_true rfl) dL_475 ⟨Nat.le_of_ble_eq_true rfl, Nat.le_of_ble_eq_true rfl⟩ (fun H locs hP hS => ?_)
  have hD := zD_any q cI cZ cS (M' := M1) hD
  refine lv_aload_n hx hb dL_478 rfl (lv_at hl 2 rfl) ?_
  refine lv_aload_n hx hb dL_479 rfl (lv_at hl 0 rfl) ?_
  refine lv_iload_n hx hb dL_480 rfl (lv_at hl 3 rfl) ?_
  refine lv_iconst (v := 1) hx hb dL_481 (by decide) ?_
  refine lv_iadd hx hb dL_482 ?_
  refine va_sld hx hb hX hbl hbA hS v1 dL_483 ?_
  refine law_calli (j := 112) (n := 55) (a := 42) (As := [.int (xs (x3 + 1).toNatClampNeg)]) hx hb hml hown hT hN hK hP hD hS hA hl.1 (by decide) rfl ⟨by decide, rfl⟩ (by decide) h2 (Nat.le_of_ble_eq_true rfl) rfl (zT_of 808 (by decide +kernel) rfl) (by decide +kernel) (Nat.le_of_ble_eq_true rfl) dL_484 ⟨Nat.le_of_ble_eq_true rfl, Nat.le_of_ble_eq_true rfl⟩ (fun H locs hP hS => ?_)
  exact lv_icmp_eq (tgt := 1302) hx hb dL_487 (by decide) (fun _ => K M2 H locs ls hV hP hS hl) (fun h => absurd rfl h)
set_option maxHeartbeats 4000000 in
set_option maxRecDepth 100000 in
theorem law_c10 (X : LX p s m meth c b L xs D cI cZ cS q) (v1 : vp_in (x3 + 1) L) (v2 : vp_in (x3 + 2) L) (v3 : vp_in (x3 + 3) L) (v4 : vp_in (x3 + 4) L) (v5 : vp_in (x3 + 5) L) (J : zV M) (hP : va_P D vwCl (zW q cI cZ cS M) H) (hS : va_S (fun a : Nat => s.heap.size ≤ a) s.heap H locs) (hl : lv_has ls 4 [(0, .ref b), (1, .ref (q 0)), (2, .ref (q 42)), (3, .int x3)]) (K : LK p l e s m below meth c b D cI cZ cS q x3) : W p l e room_1 s m #[Value.ref b] below meth c H locs 600000 7302250 (lw_Z below #[Value.ref b] s) (F0 m 492 ls []) := by
  obtain ⟨hx, hb, hml, hown, hT, hN, hK, hX, hbl, hD0⟩ := X
  have hA : ∀ a : Nat, s.heap.size ≤ a → (fun a : Nat => s.heap.size ≤ a) a := fun _ h => h
  have hbA : ¬ (fun a : Nat => s.heap.size ≤ a) b := Nat.not_le.mpr hbl
  have hD := zD_any q cI cZ cS (M' := M) hD0
  obtain ⟨n1, r, M1, h1, n2, r2, M2, h2, hr2, hV⟩ := op_go (x := xs (x3 + 1).toNatClampNeg) J
  obtain ⟨v, rfl⟩ := zx_int h1 rfl
  subst hr2
  refine lv_aload_n hx hb dL_492 rfl (lv_at hl 1 rfl) ?_
  refine lv_aload_n hx hb dL_493 rfl (lv_at hl 0 rfl) ?_
  refine lv_iload_n hx hb dL_494 rfl (lv_at hl 3 rfl) ?_
  refine lv_iconst (v := 1) hx hb dL_495 (by decide) ?_
  refine lv_iadd hx hb dL_496 ?_
  refine va_sld hx hb hX hbl hbA hS v1 dL_497 ?_
  refine law_calli (j := 48) (n := 56) (a := 0) (As := [.int (xs (x3 + 1).toNatClampNeg)]) hx hb hml hown hT hN hK hP hD hS hA hl.1 (by decide) rfl ⟨by decide, rfl⟩ (by decide) h1 (Nat.le_of_ble_eq_true rfl) rfl (zT_of 358 (by decide +kernel) rfl) (by decide +kernel) (Nat.le_of_ble_eq_true rfl) dL_498 ⟨Nat.le_of_ble_eq_true rfl, Nat.le_of_ble_eq_true rfl⟩ (fun H locs hP hS => ?_)
  have hD := zD_any q cI cZ cS (M' := M1) hD
  refine lv_aload_n hx hb dL_501 rfl (lv_at hl 2 rfl) ?_
  refine lv_aload_n hx hb dL_502 rfl (lv_at hl 0 rfl) ?_
  refine lv_iload_n hx hb dL_503 rfl (lv_at hl 3 rfl) ?_
  refine lv_iconst (v := 1) hx hb dL_504 (by decide) ?_
  refine lv_iadd hx hb dL_505 ?_
  refine va_sld hx hb hX hbl hbA hS v1 dL_506 ?_
  refine law_calli (j := 115) (n := 59) (a := 42) (As := [.int (xs (x3 + 1).toNatClampNeg)]) hx hb hml hown hT hN hK hP hD hS hA hl.1 (by decide) rfl ⟨by decide, rfl⟩ (by decide) h2 (Nat.le_of_ble_eq_true rfl) rfl (zT_of 812 (by decide +kernel) rfl) (by decide +kernel) (Nat.le_of_ble_eq_true rfl) dL_507 ⟨Nat.le_of_ble_eq_true rfl, Nat.le_of_ble_eq_true rfl⟩ (fun H locs hP hS => ?_)
  exact lv_icmp_eq (tgt := 1302) hx hb dL_510 (by decide) (fun _ => K M2 H locs ls hV hP hS hl) (fun h => absurd rfl h)
set_option maxHeartbeats 4000000 in
set_option maxRecDepth 100000 in
theorem law_c11 (X : LX p s m meth c b L xs D cI cZ cS q) (v1 : vp_in (x3 + 1) L) (v2 : vp_in (x3 + 2) L) (v3 : vp_in (x3 + 3) L) (v4 : vp_in (x3 + 4) L) (v5 : vp_in (x3 + 5) L) (J : zV M) (hP : va_P D vwCl (zW q cI cZ cS M) H) (hS : va_S (fun a : Nat => s.heap.size ≤ a) s.heap H locs) (hl : lv_has ls 4 [(0, .ref b), (1, .ref (q 0)), (2, .ref (q 42)), (3, .int x3)]) (K : LK p l e s m below meth c b D cI cZ cS q x3) : W p l e room_1 s m #[Value.ref b] below meth c H locs 600000 7302250 (lw_Z below #[Value.ref b] s) (F0 m 515 ls []) := by
  obtain ⟨hx, hb, hml, hown, hT, hN, hK, hX, hbl, hD0⟩ := X
  have hA : ∀ a : Nat, s.heap.size ≤ a → (fun a : Nat => s.heap.size ≤ a) a := fun _ h => h
  have hbA : ¬ (fun a : Nat => s.heap.size ≤ a) b := Nat.not_le.mpr hbl
  have hD := zD_any q cI cZ cS (M' := M) hD0
  obtain ⟨n1, r, M1, h1, n2, r2, M2, h2, hr2, hV⟩ := op_life (x := xs (x3 + 1).toNatClampNeg) J
  obtain ⟨v, rfl⟩ := zx_int h1 rfl
  subst hr2
  refine lv_aload_n hx hb dL_515 rfl (lv_at hl 1 rfl) ?_
  refine lv_aload_n hx hb dL_516 rfl (lv_at hl 0 rfl) ?_
  refine lv_iload_n hx hb dL_517 rfl (lv_at hl 3 rfl) ?_
  refine lv_iconst (v := 1) hx hb dL_518 (by decide) ?_
  refine lv_iadd hx hb dL_519 ?_
  refine va_sld hx hb hX hbl hbA hS v1 dL_520 ?_
  refine law_calli (j := 49) (n := 60) (a := 0) (As := [.int (xs (x3 + 1).toNatClampNeg)]) hx hb hml hown hT hN hK hP hD hS hA hl.1 (by decide) rfl ⟨by decide, rfl⟩ (by decide) h1 (Nat.le_of_ble_eq_true rfl) rfl (zT_of 380 (by decide +kernel) rfl) (by decide +kernel) (Nat.le_of_ble_eq_true rfl) dL_521 ⟨Nat.le_of_ble_eq_true rfl, Nat.le_of_ble_eq_true rfl⟩ (fun H locs hP hS => ?_)
  have hD := zD_any q cI cZ cS (M' := M1) hD
  refine lv_aload_n hx hb dL_524 rfl (lv_at hl 2 rfl) ?_
  refine lv_aload_n hx hb dL_525 rfl (lv_at hl 0 rfl) ?_
  refine lv_iload_n hx hb dL_526 rfl (lv_at hl 3 rfl) ?_
  refine lv_iconst (v := 1) hx hb dL_527 (by decide) ?_
  refine lv_iadd hx hb dL_528 ?_
  refine va_sld hx hb hX hbl hbA hS v1 dL_529 ?_
  refine law_calli (j := 117) (n := 63) (a := 42) (As := [.int (xs (x3 + 1).toNatClampNeg)]) hx hb hml hown hT hN hK hP hD hS hA hl.1 (by decide) rfl ⟨by decide, rfl⟩ (by decide) h2 (Nat.le_of_ble_eq_true rfl) rfl (zT_of 828 (by decide +kernel) rfl) (by decide +kernel) (Nat.le_of_ble_eq_true rfl) dL_530 ⟨Nat.le_of_ble_eq_true rfl, Nat.le_of_ble_eq_true rfl⟩ (fun H locs hP hS => ?_)
  exact lv_icmp_eq (tgt := 1302) hx hb dL_533 (by decide) (fun _ => K M2 H locs ls hV hP hS hl) (fun h => absurd rfl h)
set_option maxHeartbeats 4000000 in
set_option maxRecDepth 100000 in
theorem law_c12 (X : LX p s m meth c b L xs D cI cZ cS q) (v1 : vp_in (x3 + 1) L) (v2 : vp_in (x3 + 2) L) (v3 : vp_in (x3 + 3) L) (v4 : vp_in (x3 + 4) L) (v5 : vp_in (x3 + 5) L) (J : zV M) (hP : va_P D vwCl (zW q cI cZ cS M) H) (hS : va_S (fun a : Nat => s.heap.size ≤ a) s.heap H locs) (hl : lv_has ls 4 [(0, .ref b), (1, .ref (q 0)), (2, .ref (q 42)), (3, .int x3)]) (K : LK p l e s m below meth c b D cI cZ cS q x3) : W p l e room_1 s m #[Value.ref b] below meth c H locs 600000 7302250 (lw_Z below #[Value.ref b] s) (F0 m 538 ls []) := by
  obtain ⟨hx, hb, hml, hown, hT, hN, hK, hX, hbl, hD0⟩ := X
  have hA : ∀ a : Nat, s.heap.size ≤ a → (fun a : Nat => s.heap.size ≤ a) a := fun _ h => h
  have hbA : ¬ (fun a : Nat => s.heap.size ≤ a) b := Nat.not_le.mpr hbl
  have hD := zD_any q cI cZ cS (M' := M) hD0
  obtain ⟨n1, r, M1, h1, n2, r2, M2, h2, hr2, hV⟩ := op_chronicle (x := xs (x3 + 1).toNatClampNeg) (x2 := xs (x3 + 2).toNatClampNeg) (x3 := xs (x3 + 3).toNatClampNeg) (x4 := xs (x3 + 4).toNatClampNeg) (x5 := xs (x3 + 5).toNatClampNeg) J
  obtain ⟨v, rfl⟩ := zx_int h1 rfl
  subst hr2
  refine lv_aload_n hx hb dL_538 rfl (lv_at hl 1 rfl) ?_
  refine lv_aload_n hx hb dL_539 rfl (lv_at hl 0 rfl) ?_
  refine lv_iload_n hx hb dL_540 rfl (lv_at hl 3 rfl) ?_
  refine lv_iconst (v := 1) hx hb dL_541 (by decide) ?_
  refine lv_iadd hx hb dL_542 ?_
  refine va_sld hx hb hX hbl hbA hS v1 dL_543 ?_
  refine lv_aload_n hx hb dL_544 rfl (lv_at hl 0 rfl) ?_
  refine lv_iload_n hx hb dL_545 rfl (lv_at hl 3 rfl) ?_
  refine lv_iconst (v := 2) hx hb dL_546 (by decide) ?_
  refine lv_iadd hx hb dL_547 ?_
  refine va_sld hx hb hX hbl hbA hS v2 dL_548 ?_
  refine lv_aload_n hx hb dL_549 rfl (lv_at hl 0 rfl) ?_
  refine lv_iload_n hx hb dL_550 rfl (lv_at hl 3 rfl) ?_
  refine lv_iconst (v := 3) hx hb dL_551 (by decide) ?_
  refine lv_iadd hx hb dL_552 ?_
  refine va_sld hx hb hX hbl hbA hS v3 dL_553 ?_
  refine lv_aload_n hx hb dL_554 rfl (lv_at hl 0 rfl) ?_
  refine lv_iload_n hx hb dL_555 rfl (lv_at hl 3 rfl) ?_
  refine lv_iconst (v := 4) hx hb dL_556 (by decide) ?_
  refine lv_iadd hx hb dL_557 ?_
  refine va_sld hx hb hX hbl hbA hS v4 dL_558 ?_
  refine lv_aload_n hx hb dL_559 rfl (lv_at hl 0 rfl) ?_
  refine lv_iload_n hx hb dL_560 rfl (lv_at hl 3 rfl) ?_
  refine lv_iconst (v := 5) hx hb dL_561 (by decide) ?_
  refine lv_iadd hx hb dL_562 ?_
  refine va_sld hx hb hX hbl hbA hS v5 dL_563 ?_
  refine law_calli (j := 50) (n := 64) (a := 0) (As := [.int (xs (x3 + 1).toNatClampNeg), .int (xs (x3 + 2).toNatClampNeg), .int (xs (x3 + 3).toNatClampNeg), .int (xs (x3 + 4).toNatClampNeg), .int (xs (x3 + 5).toNatClampNeg)]) hx hb hml hown hT hN hK hP hD hS hA hl.1 (by decide) rfl ⟨by decide, rfl⟩ (by decide) h1 (Nat.le_of_ble_eq_true rfl) rfl (zT_of 392 (by decide +kernel) rfl) (by decide +kernel) (Nat.le_of_ble_eq_true rfl) dL_564 ⟨Nat.le_of_ble_eq_true rfl, Nat.le_of_ble_eq_true rfl⟩ (fun H locs hP hS => ?_)
  have hD := zD_any q cI cZ cS (M' := M1) hD
  refine lv_aload_n hx hb dL_567 rfl (lv_at hl 2 rfl) ?_
  refine lv_aload_n hx hb dL_568 rfl (lv_at hl 0 rfl) ?_
  refine lv_iload_n hx hb dL_569 rfl (lv_at hl 3 rfl) ?_
  refine lv_iconst (v := 1) hx hb dL_570 (by decide) ?_
  refine lv_iadd hx hb dL_571 ?_
  refine va_sld hx hb hX hbl hbA hS v1 dL_572 ?_
  refine lv_aload_n hx hb dL_573 rfl (lv_at hl 0 rfl) ?_
  refine lv_iload_n hx hb dL_574 rfl (lv_at hl 3 rfl) ?_
  refine lv_iconst (v := 2) hx hb dL_575 (by decide) ?_
  refine lv_iadd hx hb dL_576 ?_
  refine va_sld hx hb hX hbl hbA hS v2 dL_577 ?_
  refine lv_aload_n hx hb dL_578 rfl (lv_at hl 0 rfl) ?_
  refine lv_iload_n hx hb dL_579 rfl (lv_at hl 3 rfl) ?_
  refine lv_iconst (v := 3) hx hb dL_580 (by decide) ?_
  refine lv_iadd hx hb dL_581 ?_
  refine va_sld hx hb hX hbl hbA hS v3 dL_582 ?_
  refine lv_aload_n hx hb dL_583 rfl (lv_at hl 0 rfl) ?_
  refine lv_iload_n hx hb dL_584 rfl (lv_at hl 3 rfl) ?_
  refine lv_iconst (v := 4) hx hb dL_585 (by decide) ?_
  refine lv_iadd hx hb dL_586 ?_
  refine va_sld hx hb hX hbl hbA hS v4 dL_587 ?_
  refine lv_aload_n hx hb dL_588 rfl (lv_at hl 0 rfl) ?_
  refine lv_iload_n hx hb dL_589 rfl (lv_at hl 3 rfl) ?_
  refine lv_iconst (v := 5) hx hb dL_590 (by decide) ?_
  refine lv_iadd hx hb dL_591 ?_
  refine va_sld hx hb hX hbl hbA hS v5 dL_592 ?_
  refine law_calli (j := 122) (n := 68) (a := 42) (As := [.int (xs (x3 + 1).toNatClampNeg), .int (xs (x3 + 2).toNatClampNeg), .int (xs (x3 + 3).toNatClampNeg), .int (xs (x3 + 4).toNatClampNeg), .int (xs (x3 + 5).toNatClampNeg)]) hx hb hml hown hT hN hK hP hD hS hA hl.1 (by decide) rfl ⟨by decide, rfl⟩ (by decide) h2 (Nat.le_of_ble_eq_true rfl) rfl (zT_of 836 (by decide +kernel) rfl) (by decide +kernel) (Nat.le_of_ble_eq_true rfl) dL_593 ⟨Nat.le_of_ble_eq_true rfl, Nat.le_of_ble_eq_true rfl⟩ (fun H locs hP hS => ?_)
  exact lv_icmp_eq (tgt := 1302) hx hb dL_596 (by decide) (fun _ => K M2 H locs ls hV hP hS hl) (fun h => absurd rfl h)
set_option maxHeartbeats 4000000 in
set_option maxRecDepth 100000 in
theorem law_c13 (X : LX p s m meth c b L xs D cI cZ cS q) (v1 : vp_in (x3 + 1) L) (v2 : vp_in (x3 + 2) L) (v3 : vp_in (x3 + 3) L) (v4 : vp_in (x3 + 4) L) (v5 : vp_in (x3 + 5) L) (J : zV M) (hP : va_P D vwCl (zW q cI cZ cS M) H) (hS : va_S (fun a : Nat => s.heap.size ≤ a) s.heap H locs) (hl : lv_has ls 4 [(0, .ref b), (1, .ref (q 0)), (2, .ref (q 42)), (3, .int x3)]) (K : LK p l e s m below meth c b D cI cZ cS q x3) : W p l e room_1 s m #[Value.ref b] below meth c H locs 600000 7302250 (lw_Z below #[Value.ref b] s) (F0 m 601 ls []) := by
  obtain ⟨hx, hb, hml, hown, hT, hN, hK, hX, hbl, hD0⟩ := X
  have hA : ∀ a : Nat, s.heap.size ≤ a → (fun a : Nat => s.heap.size ≤ a) a := fun _ h => h
  have hbA : ¬ (fun a : Nat => s.heap.size ≤ a) b := Nat.not_le.mpr hbl
  have hD := zD_any q cI cZ cS (M' := M) hD0
  obtain ⟨n1, r, M1, h1, n2, r2, M2, h2, hr2, hV⟩ := op_ring (x := xs (x3 + 1).toNatClampNeg) J
  obtain ⟨v, rfl⟩ := zx_int h1 rfl
  subst hr2
  refine lv_aload_n hx hb dL_601 rfl (lv_at hl 1 rfl) ?_
  refine lv_aload_n hx hb dL_602 rfl (lv_at hl 0 rfl) ?_
  refine lv_iload_n hx hb dL_603 rfl (lv_at hl 3 rfl) ?_
  refine lv_iconst (v := 1) hx hb dL_604 (by decide) ?_
  refine lv_iadd hx hb dL_605 ?_
  refine va_sld hx hb hX hbl hbA hS v1 dL_606 ?_
  refine law_calli (j := 51) (n := 69) (a := 0) (As := [.int (xs (x3 + 1).toNatClampNeg)]) hx hb hml hown hT hN hK hP hD hS hA hl.1 (by decide) rfl ⟨by decide, rfl⟩ (by decide) h1 (Nat.le_of_ble_eq_true rfl) rfl (zT_of 430 (by decide +kernel) rfl) (by decide +kernel) (Nat.le_of_ble_eq_true rfl) dL_607 ⟨Nat.le_of_ble_eq_true rfl, Nat.le_of_ble_eq_true rfl⟩ (fun H locs hP hS => ?_)
  have hD := zD_any q cI cZ cS (M' := M1) hD
  refine lv_aload_n hx hb dL_610 rfl (lv_at hl 2 rfl) ?_
  refine lv_aload_n hx hb dL_611 rfl (lv_at hl 0 rfl) ?_
  refine lv_iload_n hx hb dL_612 rfl (lv_at hl 3 rfl) ?_
  refine lv_iconst (v := 1) hx hb dL_613 (by decide) ?_
  refine lv_iadd hx hb dL_614 ?_
  refine va_sld hx hb hX hbl hbA hS v1 dL_615 ?_
  refine law_calli (j := 124) (n := 72) (a := 42) (As := [.int (xs (x3 + 1).toNatClampNeg)]) hx hb hml hown hT hN hK hP hD hS hA hl.1 (by decide) rfl ⟨by decide, rfl⟩ (by decide) h2 (Nat.le_of_ble_eq_true rfl) rfl (zT_of 864 (by decide +kernel) rfl) (by decide +kernel) (Nat.le_of_ble_eq_true rfl) dL_616 ⟨Nat.le_of_ble_eq_true rfl, Nat.le_of_ble_eq_true rfl⟩ (fun H locs hP hS => ?_)
  exact lv_icmp_eq (tgt := 1302) hx hb dL_619 (by decide) (fun _ => K M2 H locs ls hV hP hS hl) (fun h => absurd rfl h)
set_option maxHeartbeats 4000000 in
set_option maxRecDepth 100000 in
theorem law_c14 (X : LX p s m meth c b L xs D cI cZ cS q) (v1 : vp_in (x3 + 1) L) (v2 : vp_in (x3 + 2) L) (v3 : vp_in (x3 + 3) L) (v4 : vp_in (x3 + 4) L) (v5 : vp_in (x3 + 5) L) (J : zV M) (hP : va_P D vwCl (zW q cI cZ cS M) H) (hS : va_S (fun a : Nat => s.heap.size ≤ a) s.heap H locs) (hl : lv_has ls 4 [(0, .ref b), (1, .ref (q 0)), (2, .ref (q 42)), (3, .int x3)]) (K : LK p l e s m below meth c b D cI cZ cS q x3) : W p l e room_1 s m #[Value.ref b] below meth c H locs 600000 7302250 (lw_Z below #[Value.ref b] s) (F0 m 624 ls []) := by
  obtain ⟨hx, hb, hml, hown, hT, hN, hK, hX, hbl, hD0⟩ := X
  have hA : ∀ a : Nat, s.heap.size ≤ a → (fun a : Nat => s.heap.size ≤ a) a := fun _ h => h
  have hbA : ¬ (fun a : Nat => s.heap.size ≤ a) b := Nat.not_le.mpr hbl
  have hD := zD_any q cI cZ cS (M' := M) hD0
  obtain ⟨n1, r, M1, h1, n2, r2, M2, h2, hr2, hV⟩ := op_reach (x := xs (x3 + 1).toNatClampNeg) (x2 := xs (x3 + 2).toNatClampNeg) J
  obtain ⟨v, rfl⟩ := zx_int h1 rfl
  subst hr2
  refine lv_aload_n hx hb dL_624 rfl (lv_at hl 1 rfl) ?_
  refine lv_aload_n hx hb dL_625 rfl (lv_at hl 0 rfl) ?_
  refine lv_iload_n hx hb dL_626 rfl (lv_at hl 3 rfl) ?_
  refine lv_iconst (v := 1) hx hb dL_627 (by decide) ?_
  refine lv_iadd hx hb dL_628 ?_
  refine va_sld hx hb hX hbl hbA hS v1 dL_629 ?_
  refine lv_aload_n hx hb dL_630 rfl (lv_at hl 0 rfl) ?_
  refine lv_iload_n hx hb dL_631 rfl (lv_at hl 3 rfl) ?_
  refine lv_iconst (v := 2) hx hb dL_632 (by decide) ?_
  refine lv_iadd hx hb dL_633 ?_
  refine va_sld hx hb hX hbl hbA hS v2 dL_634 ?_
  refine law_calli (j := 52) (n := 73) (a := 0) (As := [.int (xs (x3 + 1).toNatClampNeg), .int (xs (x3 + 2).toNatClampNeg)]) hx hb hml hown hT hN hK hP hD hS hA hl.1 (by decide) rfl ⟨by decide, rfl⟩ (by decide) h1 (Nat.le_of_ble_eq_true rfl) rfl (zT_of 438 (by decide +kernel) rfl) (by decide +kernel) (Nat.le_of_ble_eq_true rfl) dL_635 ⟨Nat.le_of_ble_eq_true rfl, Nat.le_of_ble_eq_true rfl⟩ (fun H locs hP hS => ?_)
  have hD := zD_any q cI cZ cS (M' := M1) hD
  refine lv_aload_n hx hb dL_638 rfl (lv_at hl 2 rfl) ?_
  refine lv_aload_n hx hb dL_639 rfl (lv_at hl 0 rfl) ?_
  refine lv_iload_n hx hb dL_640 rfl (lv_at hl 3 rfl) ?_
  refine lv_iconst (v := 1) hx hb dL_641 (by decide) ?_
  refine lv_iadd hx hb dL_642 ?_
  refine va_sld hx hb hX hbl hbA hS v1 dL_643 ?_
  refine lv_aload_n hx hb dL_644 rfl (lv_at hl 0 rfl) ?_
  refine lv_iload_n hx hb dL_645 rfl (lv_at hl 3 rfl) ?_
  refine lv_iconst (v := 2) hx hb dL_646 (by decide) ?_
  refine lv_iadd hx hb dL_647 ?_
  refine va_sld hx hb hX hbl hbA hS v2 dL_648 ?_
  refine law_calli (j := 123) (n := 76) (a := 42) (As := [.int (xs (x3 + 1).toNatClampNeg), .int (xs (x3 + 2).toNatClampNeg)]) hx hb hml hown hT hN hK hP hD hS hA hl.1 (by decide) rfl ⟨by decide, rfl⟩ (by decide) h2 (Nat.le_of_ble_eq_true rfl) rfl (zT_of 860 (by decide +kernel) rfl) (by decide +kernel) (Nat.le_of_ble_eq_true rfl) dL_649 ⟨Nat.le_of_ble_eq_true rfl, Nat.le_of_ble_eq_true rfl⟩ (fun H locs hP hS => ?_)
  exact lv_icmp_eq (tgt := 1302) hx hb dL_652 (by decide) (fun _ => K M2 H locs ls hV hP hS hl) (fun h => absurd rfl h)
set_option maxHeartbeats 4000000 in
set_option maxRecDepth 100000 in
theorem law_c15 (X : LX p s m meth c b L xs D cI cZ cS q) (v1 : vp_in (x3 + 1) L) (v2 : vp_in (x3 + 2) L) (v3 : vp_in (x3 + 3) L) (v4 : vp_in (x3 + 4) L) (v5 : vp_in (x3 + 5) L) (J : zV M) (hP : va_P D vwCl (zW q cI cZ cS M) H) (hS : va_S (fun a : Nat => s.heap.size ≤ a) s.heap H locs) (hl : lv_has ls 4 [(0, .ref b), (1, .ref (q 0)), (2, .ref (q 42)), (3, .int x3)]) (K : LK p l e s m below meth c b D cI cZ cS q x3) : W p l e room_1 s m #[Value.ref b] below meth c H locs 600000 7302250 (lw_Z below #[Value.ref b] s) (F0 m 657 ls []) := by
  obtain ⟨hx, hb, hml, hown, hT, hN, hK, hX, hbl, hD0⟩ := X
  have hA : ∀ a : Nat, s.heap.size ≤ a → (fun a : Nat => s.heap.size ≤ a) a := fun _ h => h
  have hbA : ¬ (fun a : Nat => s.heap.size ≤ a) b := Nat.not_le.mpr hbl
  have hD := zD_any q cI cZ cS (M' := M) hD0
  obtain ⟨n1, r, M1, h1, n2, r2, M2, h2, hr2, hV⟩ := op_keeping (x := xs (x3 + 1).toNatClampNeg) J
  obtain ⟨v, rfl⟩ := zx_int h1 rfl
  subst hr2
  refine lv_aload_n hx hb dL_657 rfl (lv_at hl 1 rfl) ?_
  refine lv_aload_n hx hb dL_658 rfl (lv_at hl 0 rfl) ?_
  refine lv_iload_n hx hb dL_659 rfl (lv_at hl 3 rfl) ?_
  refine lv_iconst (v := 1) hx hb dL_660 (by decide) ?_
  refine lv_iadd hx hb dL_661 ?_
  refine va_sld hx hb hX hbl hbA hS v1 dL_662 ?_
  refine law_calli (j := 53) (n := 77) (a := 0) (As := [.int (xs (x3 + 1).toNatClampNeg)]) hx hb hml hown hT hN hK hP hD hS hA hl.1 (by decide) rfl ⟨by decide, rfl⟩ (by decide) h1 (Nat.le_of_ble_eq_true rfl) rfl (zT_of 442 (by decide +kernel) rfl) (by decide +kernel) (Nat.le_of_ble_eq_true rfl) dL_663 ⟨Nat.le_of_ble_eq_true rfl, Nat.le_of_ble_eq_true rfl⟩ (fun H locs hP hS => ?_)
  have hD := zD_any q cI cZ cS (M' := M1) hD
  refine lv_aload_n hx hb dL_666 rfl (lv_at hl 2 rfl) ?_
  refine lv_aload_n hx hb dL_667 rfl (lv_at hl 0 rfl) ?_
  refine lv_iload_n hx hb dL_668 rfl (lv_at hl 3 rfl) ?_
  refine lv_iconst (v := 1) hx hb dL_669 (by decide) ?_
  refine lv_iadd hx hb dL_670 ?_
  refine va_sld hx hb hX hbl hbA hS v1 dL_671 ?_
  refine law_calli (j := 130) (n := 80) (a := 42) (As := [.int (xs (x3 + 1).toNatClampNeg)]) hx hb hml hown hT hN hK hP hD hS hA hl.1 (by decide) rfl ⟨by decide, rfl⟩ (by decide) h2 (Nat.le_of_ble_eq_true rfl) rfl (zT_of 869 (by decide +kernel) rfl) (by decide +kernel) (Nat.le_of_ble_eq_true rfl) dL_672 ⟨Nat.le_of_ble_eq_true rfl, Nat.le_of_ble_eq_true rfl⟩ (fun H locs hP hS => ?_)
  exact lv_icmp_eq (tgt := 1302) hx hb dL_675 (by decide) (fun _ => K M2 H locs ls hV hP hS hl) (fun h => absurd rfl h)
set_option maxHeartbeats 4000000 in
set_option maxRecDepth 100000 in
theorem law_c16 (X : LX p s m meth c b L xs D cI cZ cS q) (v1 : vp_in (x3 + 1) L) (v2 : vp_in (x3 + 2) L) (v3 : vp_in (x3 + 3) L) (v4 : vp_in (x3 + 4) L) (v5 : vp_in (x3 + 5) L) (J : zV M) (hP : va_P D vwCl (zW q cI cZ cS M) H) (hS : va_S (fun a : Nat => s.heap.size ≤ a) s.heap H locs) (hl : lv_has ls 4 [(0, .ref b), (1, .ref (q 0)), (2, .ref (q 42)), (3, .int x3)]) (K : LK p l e s m below meth c b D cI cZ cS q x3) : W p l e room_1 s m #[Value.ref b] below meth c H locs 600000 7302250 (lw_Z below #[Value.ref b] s) (F0 m 680 ls []) := by
  obtain ⟨hx, hb, hml, hown, hT, hN, hK, hX, hbl, hD0⟩ := X
  have hA : ∀ a : Nat, s.heap.size ≤ a → (fun a : Nat => s.heap.size ≤ a) a := fun _ h => h
  have hbA : ¬ (fun a : Nat => s.heap.size ≤ a) b := Nat.not_le.mpr hbl
  have hD := zD_any q cI cZ cS (M' := M) hD0
  obtain ⟨n1, r, M1, h1, n2, r2, M2, h2, hr2, hV⟩ := op_trade (x := xs (x3 + 1).toNatClampNeg) J
  obtain ⟨v, rfl⟩ := zx_int h1 rfl
  subst hr2
  refine lv_aload_n hx hb dL_680 rfl (lv_at hl 1 rfl) ?_
  refine lv_aload_n hx hb dL_681 rfl (lv_at hl 0 rfl) ?_
  refine lv_iload_n hx hb dL_682 rfl (lv_at hl 3 rfl) ?_
  refine lv_iconst (v := 1) hx hb dL_683 (by decide) ?_
  refine lv_iadd hx hb dL_684 ?_
  refine va_sld hx hb hX hbl hbA hS v1 dL_685 ?_
  refine law_calli (j := 54) (n := 81) (a := 0) (As := [.int (xs (x3 + 1).toNatClampNeg)]) hx hb hml hown hT hN hK hP hD hS hA hl.1 (by decide) rfl ⟨by decide, rfl⟩ (by decide) h1 (Nat.le_of_ble_eq_true rfl) rfl (zT_of 465 (by decide +kernel) rfl) (by decide +kernel) (Nat.le_of_ble_eq_true rfl) dL_686 ⟨Nat.le_of_ble_eq_true rfl, Nat.le_of_ble_eq_true rfl⟩ (fun H locs hP hS => ?_)
  have hD := zD_any q cI cZ cS (M' := M1) hD
  refine lv_aload_n hx hb dL_689 rfl (lv_at hl 2 rfl) ?_
  refine lv_aload_n hx hb dL_690 rfl (lv_at hl 0 rfl) ?_
  refine lv_iload_n hx hb dL_691 rfl (lv_at hl 3 rfl) ?_
  refine lv_iconst (v := 1) hx hb dL_692 (by decide) ?_
  refine lv_iadd hx hb dL_693 ?_
  refine va_sld hx hb hX hbl hbA hS v1 dL_694 ?_
  refine law_calli (j := 131) (n := 84) (a := 42) (As := [.int (xs (x3 + 1).toNatClampNeg)]) hx hb hml hown hT hN hK hP hD hS hA hl.1 (by decide) rfl ⟨by decide, rfl⟩ (by decide) h2 (Nat.le_of_ble_eq_true rfl) rfl (zT_of 895 (by decide +kernel) rfl) (by decide +kernel) (Nat.le_of_ble_eq_true rfl) dL_695 ⟨Nat.le_of_ble_eq_true rfl, Nat.le_of_ble_eq_true rfl⟩ (fun H locs hP hS => ?_)
  exact lv_icmp_eq (tgt := 1302) hx hb dL_698 (by decide) (fun _ => K M2 H locs ls hV hP hS hl) (fun h => absurd rfl h)
set_option maxHeartbeats 4000000 in
set_option maxRecDepth 100000 in
theorem law_c17 (X : LX p s m meth c b L xs D cI cZ cS q) (v1 : vp_in (x3 + 1) L) (v2 : vp_in (x3 + 2) L) (v3 : vp_in (x3 + 3) L) (v4 : vp_in (x3 + 4) L) (v5 : vp_in (x3 + 5) L) (J : zV M) (hP : va_P D vwCl (zW q cI cZ cS M) H) (hS : va_S (fun a : Nat => s.heap.size ≤ a) s.heap H locs) (hl : lv_has ls 4 [(0, .ref b), (1, .ref (q 0)), (2, .ref (q 42)), (3, .int x3)]) (K : LK p l e s m below meth c b D cI cZ cS q x3) : W p l e room_1 s m #[Value.ref b] below meth c H locs 600000 7302250 (lw_Z below #[Value.ref b] s) (F0 m 703 ls []) := by
  obtain ⟨hx, hb, hml, hown, hT, hN, hK, hX, hbl, hD0⟩ := X
  have hA : ∀ a : Nat, s.heap.size ≤ a → (fun a : Nat => s.heap.size ≤ a) a := fun _ h => h
  have hbA : ¬ (fun a : Nat => s.heap.size ≤ a) b := Nat.not_le.mpr hbl
  have hD := zD_any q cI cZ cS (M' := M) hD0
  obtain ⟨n1, r, M1, h1, n2, r2, M2, h2, hr2, hV⟩ := op_first (x := xs (x3 + 1).toNatClampNeg) J
  obtain ⟨v, rfl⟩ := zx_int h1 rfl
  subst hr2
  refine lv_aload_n hx hb dL_703 rfl (lv_at hl 1 rfl) ?_
  refine lv_aload_n hx hb dL_704 rfl (lv_at hl 0 rfl) ?_
  refine lv_iload_n hx hb dL_705 rfl (lv_at hl 3 rfl) ?_
  refine lv_iconst (v := 1) hx hb dL_706 (by decide) ?_
  refine lv_iadd hx hb dL_707 ?_
  refine va_sld hx hb hX hbl hbA hS v1 dL_708 ?_
  refine law_calli (j := 55) (n := 85) (a := 0) (As := [.int (xs (x3 + 1).toNatClampNeg)]) hx hb hml hown hT hN hK hP hD hS hA hl.1 (by decide) rfl ⟨by decide, rfl⟩ (by decide) h1 (Nat.le_of_ble_eq_true rfl) rfl (zT_of 474 (by decide +kernel) rfl) (by decide +kernel) (Nat.le_of_ble_eq_true rfl) dL_709 ⟨Nat.le_of_ble_eq_true rfl, Nat.le_of_ble_eq_true rfl⟩ (fun H locs hP hS => ?_)
  have hD := zD_any q cI cZ cS (M' := M1) hD
  refine lv_aload_n hx hb dL_712 rfl (lv_at hl 2 rfl) ?_
  refine lv_aload_n hx hb dL_713 rfl (lv_at hl 0 rfl) ?_
  refine lv_iload_n hx hb dL_714 rfl (lv_at hl 3 rfl) ?_
  refine lv_iconst (v := 1) hx hb dL_715 (by decide) ?_
  refine lv_iadd hx hb dL_716 ?_
  refine va_sld hx hb hX hbl hbA hS v1 dL_717 ?_
  refine law_calli (j := 132) (n := 88) (a := 42) (As := [.int (xs (x3 + 1).toNatClampNeg)]) hx hb hml hown hT hN hK hP hD hS hA hl.1 (by decide) rfl ⟨by decide, rfl⟩ (by decide) h2 (Nat.le_of_ble_eq_true rfl) rfl (zT_of 899 (by decide +kernel) rfl) (by decide +kernel) (Nat.le_of_ble_eq_true rfl) dL_718 ⟨Nat.le_of_ble_eq_true rfl, Nat.le_of_ble_eq_true rfl⟩ (fun H locs hP hS => ?_)
  exact lv_icmp_eq (tgt := 1302) hx hb dL_721 (by decide) (fun _ => K M2 H locs ls hV hP hS hl) (fun h => absurd rfl h)
set_option maxHeartbeats 4000000 in
set_option maxRecDepth 100000 in
theorem law_c18 (X : LX p s m meth c b L xs D cI cZ cS q) (v1 : vp_in (x3 + 1) L) (v2 : vp_in (x3 + 2) L) (v3 : vp_in (x3 + 3) L) (v4 : vp_in (x3 + 4) L) (v5 : vp_in (x3 + 5) L) (J : zV M) (hP : va_P D vwCl (zW q cI cZ cS M) H) (hS : va_S (fun a : Nat => s.heap.size ≤ a) s.heap H locs) (hl : lv_has ls 4 [(0, .ref b), (1, .ref (q 0)), (2, .ref (q 42)), (3, .int x3)]) (K : LK p l e s m below meth c b D cI cZ cS q x3) : W p l e room_1 s m #[Value.ref b] below meth c H locs 600000 7302250 (lw_Z below #[Value.ref b] s) (F0 m 726 ls []) := by
  obtain ⟨hx, hb, hml, hown, hT, hN, hK, hX, hbl, hD0⟩ := X
  have hA : ∀ a : Nat, s.heap.size ≤ a → (fun a : Nat => s.heap.size ≤ a) a := fun _ h => h
  have hbA : ¬ (fun a : Nat => s.heap.size ≤ a) b := Nat.not_le.mpr hbl
  have hD := zD_any q cI cZ cS (M' := M) hD0
  obtain ⟨n1, r, M1, h1, n2, r2, M2, h2, hr2, hV⟩ := op_found (x := xs (x3 + 1).toNatClampNeg) (x2 := xs (x3 + 2).toNatClampNeg) (x3 := xs (x3 + 3).toNatClampNeg) (x4 := xs (x3 + 4).toNatClampNeg) J
  obtain ⟨v, rfl⟩ := zx_int h1 rfl
  subst hr2
  refine lv_aload_n hx hb dL_726 rfl (lv_at hl 1 rfl) ?_
  refine lv_aload_n hx hb dL_727 rfl (lv_at hl 0 rfl) ?_
  refine lv_iload_n hx hb dL_728 rfl (lv_at hl 3 rfl) ?_
  refine lv_iconst (v := 1) hx hb dL_729 (by decide) ?_
  refine lv_iadd hx hb dL_730 ?_
  refine va_sld hx hb hX hbl hbA hS v1 dL_731 ?_
  refine lv_aload_n hx hb dL_732 rfl (lv_at hl 0 rfl) ?_
  refine lv_iload_n hx hb dL_733 rfl (lv_at hl 3 rfl) ?_
  refine lv_iconst (v := 2) hx hb dL_734 (by decide) ?_
  refine lv_iadd hx hb dL_735 ?_
  refine va_sld hx hb hX hbl hbA hS v2 dL_736 ?_
  refine lv_aload_n hx hb dL_737 rfl (lv_at hl 0 rfl) ?_
  refine lv_iload_n hx hb dL_738 rfl (lv_at hl 3 rfl) ?_
  refine lv_iconst (v := 3) hx hb dL_739 (by decide) ?_
  refine lv_iadd hx hb dL_740 ?_
  refine va_sld hx hb hX hbl hbA hS v3 dL_741 ?_
  refine lv_aload_n hx hb dL_742 rfl (lv_at hl 0 rfl) ?_
  refine lv_iload_n hx hb dL_743 rfl (lv_at hl 3 rfl) ?_
  refine lv_iconst (v := 4) hx hb dL_744 (by decide) ?_
  refine lv_iadd hx hb dL_745 ?_
  refine va_sld hx hb hX hbl hbA hS v4 dL_746 ?_
  refine law_calli (j := 56) (n := 89) (a := 0) (As := [.int (xs (x3 + 1).toNatClampNeg), .int (xs (x3 + 2).toNatClampNeg), .int (xs (x3 + 3).toNatClampNeg), .int (xs (x3 + 4).toNatClampNeg)]) hx hb hml hown hT hN hK hP hD hS hA hl.1 (by decide) rfl ⟨by decide, rfl⟩ (by decide) h1 (Nat.le_of_ble_eq_true rfl) rfl (zT_of 479 (by decide +kernel) rfl) (by decide +kernel) (Nat.le_of_ble_eq_true rfl) dL_747 ⟨Nat.le_of_ble_eq_true rfl, Nat.le_of_ble_eq_true rfl⟩ (fun H locs hP hS => ?_)
  have hD := zD_any q cI cZ cS (M' := M1) hD
  refine lv_aload_n hx hb dL_750 rfl (lv_at hl 2 rfl) ?_
  refine lv_aload_n hx hb dL_751 rfl (lv_at hl 0 rfl) ?_
  refine lv_iload_n hx hb dL_752 rfl (lv_at hl 3 rfl) ?_
  refine lv_iconst (v := 1) hx hb dL_753 (by decide) ?_
  refine lv_iadd hx hb dL_754 ?_
  refine va_sld hx hb hX hbl hbA hS v1 dL_755 ?_
  refine lv_aload_n hx hb dL_756 rfl (lv_at hl 0 rfl) ?_
  refine lv_iload_n hx hb dL_757 rfl (lv_at hl 3 rfl) ?_
  refine lv_iconst (v := 2) hx hb dL_758 (by decide) ?_
  refine lv_iadd hx hb dL_759 ?_
  refine va_sld hx hb hX hbl hbA hS v2 dL_760 ?_
  refine lv_aload_n hx hb dL_761 rfl (lv_at hl 0 rfl) ?_
  refine lv_iload_n hx hb dL_762 rfl (lv_at hl 3 rfl) ?_
  refine lv_iconst (v := 3) hx hb dL_763 (by decide) ?_
  refine lv_iadd hx hb dL_764 ?_
  refine va_sld hx hb hX hbl hbA hS v3 dL_765 ?_
  refine lv_aload_n hx hb dL_766 rfl (lv_at hl 0 rfl) ?_
  refine lv_iload_n hx hb dL_767 rfl (lv_at hl 3 rfl) ?_
  refine lv_iconst (v := 4) hx hb dL_768 (by decide) ?_
  refine lv_iadd hx hb dL_769 ?_
  refine va_sld hx hb hX hbl hbA hS v4 dL_770 ?_
  refine law_calli (j := 133) (n := 92) (a := 42) (As := [.int (xs (x3 + 1).toNatClampNeg), .int (xs (x3 + 2).toNatClampNeg), .int (xs (x3 + 3).toNatClampNeg), .int (xs (x3 + 4).toNatClampNeg)]) hx hb hml hown hT hN hK hP hD hS hA hl.1 (by decide) rfl ⟨by decide, rfl⟩ (by decide) h2 (Nat.le_of_ble_eq_true rfl) rfl (zT_of 903 (by decide +kernel) rfl) (by decide +kernel) (Nat.le_of_ble_eq_true rfl) dL_771 ⟨Nat.le_of_ble_eq_true rfl, Nat.le_of_ble_eq_true rfl⟩ (fun H locs hP hS => ?_)
  exact lv_icmp_eq (tgt := 1302) hx hb dL_774 (by decide) (fun _ => K M2 H locs ls hV hP hS hl) (fun h => absurd rfl h)
set_option maxHeartbeats 4000000 in
set_option maxRecDepth 100000 in
theorem law_c19 (X : LX p s m meth c b L xs D cI cZ cS q) (v1 : vp_in (x3 + 1) L) (v2 : vp_in (x3 + 2) L) (v3 : vp_in (x3 + 3) L) (v4 : vp_in (x3 + 4) L) (v5 : vp_in (x3 + 5) L) (J : zV M) (hP : va_P D vwCl (zW q cI cZ cS M) H) (hS : va_S (fun a : Nat => s.heap.size ≤ a) s.heap H locs) (hl : lv_has ls 4 [(0, .ref b), (1, .ref (q 0)), (2, .ref (q 42)), (3, .int x3)]) (K : LK p l e s m below meth c b D cI cZ cS q x3) : W p l e room_1 s m #[Value.ref b] below meth c H locs 600000 7302250 (lw_Z below #[Value.ref b] s) (F0 m 779 ls []) := by
  obtain ⟨hx, hb, hml, hown, hT, hN, hK, hX, hbl, hD0⟩ := X
  have hA : ∀ a : Nat, s.heap.size ≤ a → (fun a : Nat => s.heap.size ≤ a) a := fun _ h => h
  have hbA : ¬ (fun a : Nat => s.heap.size ≤ a) b := Nat.not_le.mpr hbl
  have hD := zD_any q cI cZ cS (M' := M) hD0
  obtain ⟨n1, r, M1, h1, n2, r2, M2, h2, hr2, hV⟩ := op_reading (x := xs (x3 + 1).toNatClampNeg) (x2 := xs (x3 + 2).toNatClampNeg) (x3 := xs (x3 + 3).toNatClampNeg) J
  obtain ⟨v, rfl⟩ := zx_int h1 rfl
  subst hr2
  refine lv_aload_n hx hb dL_779 rfl (lv_at hl 1 rfl) ?_
  refine lv_aload_n hx hb dL_780 rfl (lv_at hl 0 rfl) ?_
  refine lv_iload_n hx hb dL_781 rfl (lv_at hl 3 rfl) ?_
  refine lv_iconst (v := 1) hx hb dL_782 (by decide) ?_
  refine lv_iadd hx hb dL_783 ?_
  refine va_sld hx hb hX hbl hbA hS v1 dL_784 ?_
  refine lv_aload_n hx hb dL_785 rfl (lv_at hl 0 rfl) ?_
  refine lv_iload_n hx hb dL_786 rfl (lv_at hl 3 rfl) ?_
  refine lv_iconst (v := 2) hx hb dL_787 (by decide) ?_
  refine lv_iadd hx hb dL_788 ?_
  refine va_sld hx hb hX hbl hbA hS v2 dL_789 ?_
  refine lv_aload_n hx hb dL_790 rfl (lv_at hl 0 rfl) ?_
  refine lv_iload_n hx hb dL_791 rfl (lv_at hl 3 rfl) ?_
  refine lv_iconst (v := 3) hx hb dL_792 (by decide) ?_
  refine lv_iadd hx hb dL_793 ?_
  refine va_sld hx hb hX hbl hbA hS v3 dL_794 ?_
  refine law_calli (j := 57) (n := 93) (a := 0) (As := [.int (xs (x3 + 1).toNatClampNeg), .int (xs (x3 + 2).toNatClampNeg), .int (xs (x3 + 3).toNatClampNeg)]) hx hb hml hown hT hN hK hP hD hS hA hl.1 (by decide) rfl ⟨by decide, rfl⟩ (by decide) h1 (Nat.le_of_ble_eq_true rfl) rfl (zT_of 487 (by decide +kernel) rfl) (by decide +kernel) (Nat.le_of_ble_eq_true rfl) dL_795 ⟨Nat.le_of_ble_eq_true rfl, Nat.le_of_ble_eq_true rfl⟩ (fun H locs hP hS => ?_)
  have hD := zD_any q cI cZ cS (M' := M1) hD
  refine lv_aload_n hx hb dL_798 rfl (lv_at hl 2 rfl) ?_
  refine lv_aload_n hx hb dL_799 rfl (lv_at hl 0 rfl) ?_
  refine lv_iload_n hx hb dL_800 rfl (lv_at hl 3 rfl) ?_
  refine lv_iconst (v := 1) hx hb dL_801 (by decide) ?_
  refine lv_iadd hx hb dL_802 ?_
  refine va_sld hx hb hX hbl hbA hS v1 dL_803 ?_
  refine lv_aload_n hx hb dL_804 rfl (lv_at hl 0 rfl) ?_
  refine lv_iload_n hx hb dL_805 rfl (lv_at hl 3 rfl) ?_
  refine lv_iconst (v := 2) hx hb dL_806 (by decide) ?_
  refine lv_iadd hx hb dL_807 ?_
  refine va_sld hx hb hX hbl hbA hS v2 dL_808 ?_
  refine lv_aload_n hx hb dL_809 rfl (lv_at hl 0 rfl) ?_
  refine lv_iload_n hx hb dL_810 rfl (lv_at hl 3 rfl) ?_
  refine lv_iconst (v := 3) hx hb dL_811 (by decide) ?_
  refine lv_iadd hx hb dL_812 ?_
  refine va_sld hx hb hX hbl hbA hS v3 dL_813 ?_
  refine law_calli (j := 134) (n := 97) (a := 42) (As := [.int (xs (x3 + 1).toNatClampNeg), .int (xs (x3 + 2).toNatClampNeg), .int (xs (x3 + 3).toNatClampNeg)]) hx hb hml hown hT hN hK hP hD hS hA hl.1 (by decide) rfl ⟨by decide, rfl⟩ (by decide) h2 (Nat.le_of_ble_eq_true rfl) rfl (zT_of 908 (by decide +kernel) rfl) (by decide +kernel) (Nat.le_of_ble_eq_true rfl) dL_814 ⟨Nat.le_of_ble_eq_true rfl, Nat.le_of_ble_eq_true rfl⟩ (fun H locs hP hS => ?_)
  exact lv_icmp_eq (tgt := 1302) hx hb dL_817 (by decide) (fun _ => K M2 H locs ls hV hP hS hl) (fun h => absurd rfl h)
set_option maxHeartbeats 4000000 in
set_option maxRecDepth 100000 in
theorem law_c20 (X : LX p s m meth c b L xs D cI cZ cS q) (v1 : vp_in (x3 + 1) L) (v2 : vp_in (x3 + 2) L) (v3 : vp_in (x3 + 3) L) (v4 : vp_in (x3 + 4) L) (v5 : vp_in (x3 + 5) L) (J : zV M) (hP : va_P D vwCl (zW q cI cZ cS M) H) (hS : va_S (fun a : Nat => s.heap.size ≤ a) s.heap H locs) (hl : lv_has ls 4 [(0, .ref b), (1, .ref (q 0)), (2, .ref (q 42)), (3, .int x3)]) (K : LK p l e s m below meth c b D cI cZ cS q x3) : W p l e room_1 s m #[Value.ref b] below meth c H locs 600000 7302250 (lw_Z below #[Value.ref b] s) (F0 m 822 ls []) := by
  obtain ⟨hx, hb, hml, hown, hT, hN, hK, hX, hbl, hD0⟩ := X
  have hA : ∀ a : Nat, s.heap.size ≤ a → (fun a : Nat => s.heap.size ≤ a) a := fun _ h => h
  have hbA : ¬ (fun a : Nat => s.heap.size ≤ a) b := Nat.not_le.mpr hbl
  have hD := zD_any q cI cZ cS (M' := M) hD0
  obtain ⟨n1, r, M1, h1, n2, r2, M2, h2, hr2, hV⟩ := op_back (x := xs (x3 + 1).toNatClampNeg) J
  obtain ⟨v, rfl⟩ := zx_int h1 rfl
  subst hr2
  refine lv_aload_n hx hb dL_822 rfl (lv_at hl 1 rfl) ?_
  refine lv_aload_n hx hb dL_823 rfl (lv_at hl 0 rfl) ?_
  refine lv_iload_n hx hb dL_824 rfl (lv_at hl 3 rfl) ?_
  refine lv_iconst (v := 1) hx hb dL_825 (by decide) ?_
  refine lv_iadd hx hb dL_826 ?_
  refine va_sld hx hb hX hbl hbA hS v1 dL_827 ?_
  refine law_calli (j := 58) (n := 98) (a := 0) (As := [.int (xs (x3 + 1).toNatClampNeg)]) hx hb hml hown hT hN hK hP hD hS hA hl.1 (by decide) rfl ⟨by decide, rfl⟩ (by decide) h1 (Nat.le_of_ble_eq_true rfl) rfl (zT_of 495 (by decide +kernel) rfl) (by decide +kernel) (Nat.le_of_ble_eq_true rfl) dL_828 ⟨Nat.le_of_ble_eq_true rfl, Nat.le_of_ble_eq_true rfl⟩ (fun H locs hP hS => ?_)
  have hD := zD_any q cI cZ cS (M' := M1) hD
  refine lv_aload_n hx hb dL_831 rfl (lv_at hl 2 rfl) ?_
  refine lv_aload_n hx hb dL_832 rfl (lv_at hl 0 rfl) ?_
  refine lv_iload_n hx hb dL_833 rfl (lv_at hl 3 rfl) ?_
  refine lv_iconst (v := 1) hx hb dL_834 (by decide) ?_
  refine lv_iadd hx hb dL_835 ?_
  refine va_sld hx hb hX hbl hbA hS v1 dL_836 ?_
  refine law_calli (j := 135) (n := 101) (a := 42) (As := [.int (xs (x3 + 1).toNatClampNeg)]) hx hb hml hown hT hN hK hP hD hS hA hl.1 (by decide) rfl ⟨by decide, rfl⟩ (by decide) h2 (Nat.le_of_ble_eq_true rfl) rfl (zT_of 912 (by decide +kernel) rfl) (by decide +kernel) (Nat.le_of_ble_eq_true rfl) dL_837 ⟨Nat.le_of_ble_eq_true rfl, Nat.le_of_ble_eq_true rfl⟩ (fun H locs hP hS => ?_)
  exact lv_icmp_eq (tgt := 1302) hx hb dL_840 (by decide) (fun _ => K M2 H locs ls hV hP hS hl) (fun h => absurd rfl h)
set_option maxHeartbeats 4000000 in
set_option maxRecDepth 100000 in
theorem law_c21 (X : LX p s m meth c b L xs D cI cZ cS q) (v1 : vp_in (x3 + 1) L) (v2 : vp_in (x3 + 2) L) (v3 : vp_in (x3 + 3) L) (v4 : vp_in (x3 + 4) L) (v5 : vp_in (x3 + 5) L) (J : zV M) (hP : va_P D vwCl (zW q cI cZ cS M) H) (hS : va_S (fun a : Nat => s.heap.size ≤ a) s.heap H locs) (hl : lv_has ls 4 [(0, .ref b), (1, .ref (q 0)), (2, .ref (q 42)), (3, .int x3)]) (K : LK p l e s m below meth c b D cI cZ cS q x3) : W p l e room_1 s m #[Value.ref b] below meth c H locs 600000 7302250 (lw_Z below #[Value.ref b] s) (F0 m 845 ls []) := by
  obtain ⟨hx, hb, hml, hown, hT, hN, hK, hX, hbl, hD0⟩ := X
  have hA : ∀ a : Nat, s.heap.size ≤ a → (fun a : Nat => s.heap.size ≤ a) a := fun _ h => h
  have hbA : ¬ (fun a : Nat => s.heap.size ≤ a) b := Nat.not_le.mpr hbl
  have hD := zD_any q cI cZ cS (M' := M) hD0
  obtain ⟨n1, r, M1, h1, n2, r2, M2, h2, hr2, hV⟩ := op_necks (x := xs (x3 + 1).toNatClampNeg) J
  obtain ⟨v, rfl⟩ := zx_int h1 rfl
  subst hr2
  refine lv_aload_n hx hb dL_845 rfl (lv_at hl 1 rfl) ?_
  refine lv_aload_n hx hb dL_846 rfl (lv_at hl 0 rfl) ?_
  refine lv_iload_n hx hb dL_847 rfl (lv_at hl 3 rfl) ?_
  refine lv_iconst (v := 1) hx hb dL_848 (by decide) ?_
  refine lv_iadd hx hb dL_849 ?_
  refine va_sld hx hb hX hbl hbA hS v1 dL_850 ?_
  refine law_calli (j := 59) (n := 102) (a := 0) (As := [.int (xs (x3 + 1).toNatClampNeg)]) hx hb hml hown hT hN hK hP hD hS hA hl.1 (by decide) rfl ⟨by decide, rfl⟩ (by decide) h1 (Nat.le_of_ble_eq_true rfl) rfl (zT_of 499 (by decide +kernel) rfl) (by decide +kernel) (Nat.le_of_ble_eq_true rfl) dL_851 ⟨Nat.le_of_ble_eq_true rfl, Nat.le_of_ble_eq_true rfl⟩ (fun H locs hP hS => ?_)
  have hD := zD_any q cI cZ cS (M' := M1) hD
  refine lv_aload_n hx hb dL_854 rfl (lv_at hl 2 rfl) ?_
  refine lv_aload_n hx hb dL_855 rfl (lv_at hl 0 rfl) ?_
  refine lv_iload_n hx hb dL_856 rfl (lv_at hl 3 rfl) ?_
  refine lv_iconst (v := 1) hx hb dL_857 (by decide) ?_
  refine lv_iadd hx hb dL_858 ?_
  refine va_sld hx hb hX hbl hbA hS v1 dL_859 ?_
  refine law_calli (j := 137) (n := 105) (a := 42) (As := [.int (xs (x3 + 1).toNatClampNeg)]) hx hb hml hown hT hN hK hP hD hS hA hl.1 (by decide) rfl ⟨by decide, rfl⟩ (by decide) h2 (Nat.le_of_ble_eq_true rfl) rfl (zT_of 916 (by decide +kernel) rfl) (by decide +kernel) (Nat.le_of_ble_eq_true rfl) dL_860 ⟨Nat.le_of_ble_eq_true rfl, Nat.le_of_ble_eq_true rfl⟩ (fun H locs hP hS => ?_)
  exact lv_icmp_eq (tgt := 1302) hx hb dL_863 (by decide) (fun _ => K M2 H locs ls hV hP hS hl) (fun h => absurd rfl h)
set_option maxHeartbeats 4000000 in
set_option maxRecDepth 100000 in
theorem law_c22 (X : LX p s m meth c b L xs D cI cZ cS q) (v1 : vp_in (x3 + 1) L) (v2 : vp_in (x3 + 2) L) (v3 : vp_in (x3 + 3) L) (v4 : vp_in (x3 + 4) L) (v5 : vp_in (x3 + 5) L) (J : zV M) (hP : va_P D vwCl (zW q cI cZ cS M) H) (hS : va_S (fun a : Nat => s.heap.size ≤ a) s.heap H locs) (hl : lv_has ls 4 [(0, .ref b), (1, .ref (q 0)), (2, .ref (q 42)), (3, .int x3)]) (K : LK p l e s m below meth c b D cI cZ cS q x3) : W p l e room_1 s m #[Value.ref b] below meth c H locs 600000 7302250 (lw_Z below #[Value.ref b] s) (F0 m 868 ls []) := by
  obtain ⟨hx, hb, hml, hown, hT, hN, hK, hX, hbl, hD0⟩ := X
  have hA : ∀ a : Nat, s.heap.size ≤ a → (fun a : Nat => s.heap.size ≤ a) a := fun _ h => h
  have hbA : ¬ (fun a : Nat => s.heap.size ≤ a) b := Nat.not_le.mpr hbl
  have hD := zD_any q cI cZ cS (M' := M) hD0
  obtain ⟨n1, r, M1, h1, n2, r2, M2, h2, hr2, hV⟩ := op_kinds (x := xs (x3 + 1).toNatClampNeg) J
  obtain ⟨v, rfl⟩ := zx_int h1 rfl
  subst hr2
  refine lv_aload_n hx hb dL_868 rfl (lv_at hl 1 rfl) ?_
  refine lv_aload_n hx hb dL_869 rfl (lv_at hl 0 rfl) ?_
  refine lv_iload_n hx hb dL_870 rfl (lv_at hl 3 rfl) ?_
  refine lv_iconst (v := 1) hx hb dL_871 (by decide) ?_
  refine lv_iadd hx hb dL_872 ?_
  refine va_sld hx hb hX hbl hbA hS v1 dL_873 ?_
  refine law_calli (j := 60) (n := 106) (a := 0) (As := [.int (xs (x3 + 1).toNatClampNeg)]) hx hb hml hown hT hN hK hP hD hS hA hl.1 (by decide) rfl ⟨by decide, rfl⟩ (by decide) h1 (Nat.le_of_ble_eq_true rfl) rfl (zT_of 512 (by decide +kernel) rfl) (by decide +kernel) (Nat.le_of_ble_eq_true rfl) dL_874 ⟨Nat.le_of_ble_eq_true rfl, Nat.le_of_ble_eq_true rfl⟩ (fun H locs hP hS => ?_)
  have hD := zD_any q cI cZ cS (M' := M1) hD
  refine lv_aload_n hx hb dL_877 rfl (lv_at hl 2 rfl) ?_
  refine lv_aload_n hx hb dL_878 rfl (lv_at hl 0 rfl) ?_
  refine lv_iload_n hx hb dL_879 rfl (lv_at hl 3 rfl) ?_
  refine lv_iconst (v := 1) hx hb dL_880 (by decide) ?_
  refine lv_iadd hx hb dL_881 ?_
  refine va_sld hx hb hX hbl hbA hS v1 dL_882 ?_
  refine law_calli (j := 138) (n := 109) (a := 42) (As := [.int (xs (x3 + 1).toNatClampNeg)]) hx hb hml hown hT hN hK hP hD hS hA hl.1 (by decide) rfl ⟨by decide, rfl⟩ (by decide) h2 (Nat.le_of_ble_eq_true rfl) rfl (zT_of 924 (by decide +kernel) rfl) (by decide +kernel) (Nat.le_of_ble_eq_true rfl) dL_883 ⟨Nat.le_of_ble_eq_true rfl, Nat.le_of_ble_eq_true rfl⟩ (fun H locs hP hS => ?_)
  exact lv_icmp_eq (tgt := 1302) hx hb dL_886 (by decide) (fun _ => K M2 H locs ls hV hP hS hl) (fun h => absurd rfl h)
set_option maxHeartbeats 4000000 in
set_option maxRecDepth 100000 in
theorem law_c23 (X : LX p s m meth c b L xs D cI cZ cS q) (v1 : vp_in (x3 + 1) L) (v2 : vp_in (x3 + 2) L) (v3 : vp_in (x3 + 3) L) (v4 : vp_in (x3 + 4) L) (v5 : vp_in (x3 + 5) L) (J : zV M) (hP : va_P D vwCl (zW q cI cZ cS M) H) (hS : va_S (fun a : Nat => s.heap.size ≤ a) s.heap H locs) (hl : lv_has ls 4 [(0, .ref b), (1, .ref (q 0)), (2, .ref (q 42)), (3, .int x3)]) (K : LK p l e s m below meth c b D cI cZ cS q x3) : W p l e room_1 s m #[Value.ref b] below meth c H locs 600000 7302250 (lw_Z below #[Value.ref b] s) (F0 m 891 ls []) := by
  obtain ⟨hx, hb, hml, hown, hT, hN, hK, hX, hbl, hD0⟩ := X
  have hA : ∀ a : Nat, s.heap.size ≤ a → (fun a : Nat => s.heap.size ≤ a) a := fun _ h => h
  have hbA : ¬ (fun a : Nat => s.heap.size ≤ a) b := Nat.not_le.mpr hbl
  have hD := zD_any q cI cZ cS (M' := M) hD0
  obtain ⟨n1, r, M1, h1, n2, r2, M2, h2, hr2, hV⟩ := op_keepers (x := xs (x3 + 1).toNatClampNeg) J
  obtain ⟨v, rfl⟩ := zx_int h1 rfl
  subst hr2
  refine lv_aload_n hx hb dL_891 rfl (lv_at hl 1 rfl) ?_
  refine lv_aload_n hx hb dL_892 rfl (lv_at hl 0 rfl) ?_
  refine lv_iload_n hx hb dL_893 rfl (lv_at hl 3 rfl) ?_
  refine lv_iconst (v := 1) hx hb dL_894 (by decide) ?_
  refine lv_iadd hx hb dL_895 ?_
  refine va_sld hx hb hX hbl hbA hS v1 dL_896 ?_
  refine law_calli (j := 61) (n := 110) (a := 0) (As := [.int (xs (x3 + 1).toNatClampNeg)]) hx hb hml hown hT hN hK hP hD hS hA hl.1 (by decide) rfl ⟨by decide, rfl⟩ (by decide) h1 (Nat.le_of_ble_eq_true rfl) rfl (zT_of 516 (by decide +kernel) rfl) (by decide +kernel) (Nat.le_of_ble_eq_true rfl) dL_897 ⟨Nat.le_of_ble_eq_true rfl, Nat.le_of_ble_eq_true rfl⟩ (fun H locs hP hS => ?_)
  have hD := zD_any q cI cZ cS (M' := M1) hD
  refine lv_aload_n hx hb dL_900 rfl (lv_at hl 2 rfl) ?_
  refine lv_aload_n hx hb dL_901 rfl (lv_at hl 0 rfl) ?_
  refine lv_iload_n hx hb dL_902 rfl (lv_at hl 3 rfl) ?_
  refine lv_iconst (v := 1) hx hb dL_903 (by decide) ?_
  refine lv_iadd hx hb dL_904 ?_
  refine va_sld hx hb hX hbl hbA hS v1 dL_905 ?_
  refine law_calli (j := 139) (n := 113) (a := 42) (As := [.int (xs (x3 + 1).toNatClampNeg)]) hx hb hml hown hT hN hK hP hD hS hA hl.1 (by decide) rfl ⟨by decide, rfl⟩ (by decide) h2 (Nat.le_of_ble_eq_true rfl) rfl (zT_of 928 (by decide +kernel) rfl) (by decide +kernel) (Nat.le_of_ble_eq_true rfl) dL_906 ⟨Nat.le_of_ble_eq_true rfl, Nat.le_of_ble_eq_true rfl⟩ (fun H locs hP hS => ?_)
  exact lv_icmp_eq (tgt := 1302) hx hb dL_909 (by decide) (fun _ => K M2 H locs ls hV hP hS hl) (fun h => absurd rfl h)
set_option maxHeartbeats 4000000 in
set_option maxRecDepth 100000 in
theorem law_c24 (X : LX p s m meth c b L xs D cI cZ cS q) (v1 : vp_in (x3 + 1) L) (v2 : vp_in (x3 + 2) L) (v3 : vp_in (x3 + 3) L) (v4 : vp_in (x3 + 4) L) (v5 : vp_in (x3 + 5) L) (J : zV M) (hP : va_P D vwCl (zW q cI cZ cS M) H) (hS : va_S (fun a : Nat => s.heap.size ≤ a) s.heap H locs) (hl : lv_has ls 4 [(0, .ref b), (1, .ref (q 0)), (2, .ref (q 42)), (3, .int x3)]) (K : LK p l e s m below meth c b D cI cZ cS q x3) : W p l e room_1 s m #[Value.ref b] below meth c H locs 600000 7302250 (lw_Z below #[Value.ref b] s) (F0 m 914 ls []) := by
  obtain ⟨hx, hb, hml, hown, hT, hN, hK, hX, hbl, hD0⟩ := X
  have hA : ∀ a : Nat, s.heap.size ≤ a → (fun a : Nat => s.heap.size ≤ a) a := fun _ h => h
  have hbA : ¬ (fun a : Nat => s.heap.size ≤ a) b := Nat.not_le.mpr hbl
  have hD := zD_any q cI cZ cS (M' := M) hD0
  obtain ⟨n1, r, M1, h1, n2, r2, M2, h2, hr2, hV⟩ := op_odds (x := xs (x3 + 1).toNatClampNeg) (x2 := xs (x3 + 2).toNatClampNeg) (x3 := xs (x3 + 3).toNatClampNeg) J
  obtain ⟨v, rfl⟩ := zx_long h1 rfl
  subst hr2
  refine lv_aload_n hx hb dL_914 rfl (lv_at hl 1 rfl) ?_
  refine lv_aload_n hx hb dL_915 rfl (lv_at hl 0 rfl) ?_
  refine lv_iload_n hx hb dL_916 rfl (lv_at hl 3 rfl) ?_
  refine lv_iconst (v := 1) hx hb dL_917 (by decide) ?_
  refine lv_iadd hx hb dL_918 ?_
  refine va_sld hx hb hX hbl hbA hS v1 dL_919 ?_
  refine lv_aload_n hx hb dL_920 rfl (lv_at hl 0 rfl) ?_
  refine lv_iload_n hx hb dL_921 rfl (lv_at hl 3 rfl) ?_
  refine lv_iconst (v := 2) hx hb dL_922 (by decide) ?_
  refine lv_iadd hx hb dL_923 ?_
  refine va_sld hx hb hX hbl hbA hS v2 dL_924 ?_
  refine lv_aload_n hx hb dL_925 rfl (lv_at hl 0 rfl) ?_
  refine lv_iload_n hx hb dL_926 rfl (lv_at hl 3 rfl) ?_
  refine lv_iconst (v := 3) hx hb dL_927 (by decide) ?_
  refine lv_iadd hx hb dL_928 ?_
  refine va_sld hx hb hX hbl hbA hS v3 dL_929 ?_
  refine law_calll (j := 62) (n := 114) (a := 0) (As := [.int (xs (x3 + 1).toNatClampNeg), .int (xs (x3 + 2).toNatClampNeg), .int (xs (x3 + 3).toNatClampNeg)]) hx hb hml hown hT hN hK hP hD hS hA hl.1 (by decide) rfl ⟨by decide, rfl⟩ (by decide) h1 (Nat.le_of_ble_eq_true rfl) rfl (zT_of 520 (by decide +kernel) rfl) (by decide +kernel) (Nat.le_of_ble_eq_true rfl) dL_930 ⟨Nat.le_of_ble_eq_true rfl, Nat.le_of_ble_eq_true rfl⟩ (fun H locs hP hS => ?_)
  have hD := zD_any q cI cZ cS (M' := M1) hD
  refine lv_aload_n hx hb dL_933 rfl (lv_at hl 2 rfl) ?_
  refine lv_aload_n hx hb dL_934 rfl (lv_at hl 0 rfl) ?_
  refine lv_iload_n hx hb dL_935 rfl (lv_at hl 3 rfl) ?_
  refine lv_iconst (v := 1) hx hb dL_936 (by decide) ?_
  refine lv_iadd hx hb dL_937 ?_
  refine va_sld hx hb hX hbl hbA hS v1 dL_938 ?_
  refine lv_aload_n hx hb dL_939 rfl (lv_at hl 0 rfl) ?_
  refine lv_iload_n hx hb dL_940 rfl (lv_at hl 3 rfl) ?_
  refine lv_iconst (v := 2) hx hb dL_941 (by decide) ?_
  refine lv_iadd hx hb dL_942 ?_
  refine va_sld hx hb hX hbl hbA hS v2 dL_943 ?_
  refine lv_aload_n hx hb dL_944 rfl (lv_at hl 0 rfl) ?_
  refine lv_iload_n hx hb dL_945 rfl (lv_at hl 3 rfl) ?_
  refine lv_iconst (v := 3) hx hb dL_946 (by decide) ?_
  refine lv_iadd hx hb dL_947 ?_
  refine va_sld hx hb hX hbl hbA hS v3 dL_948 ?_
  refine law_calll (j := 140) (n := 118) (a := 42) (As := [.int (xs (x3 + 1).toNatClampNeg), .int (xs (x3 + 2).toNatClampNeg), .int (xs (x3 + 3).toNatClampNeg)]) hx hb hml hown hT hN hK hP hD hS hA hl.1 (by decide) rfl ⟨by decide, rfl⟩ (by decide) h2 (Nat.le_of_ble_eq_true rfl) rfl (zT_of 932 (by decide +kernel) rfl) (by decide +kernel) (Nat.le_of_ble_eq_true rfl) dL_949 ⟨Nat.le_of_ble_eq_true rfl, Nat.le_of_ble_eq_true rfl⟩ (fun H locs hP hS => ?_)
  refine W.lcmp hx hb dL_952 ?_
  exact lv_if_eq (tgt := 1302) hx hb dL_953 (by decide) (fun _ => K M2 H locs ls hV hP hS hl) (fun h => absurd (lgc_eq.mpr rfl) h)
set_option maxHeartbeats 4000000 in
set_option maxRecDepth 100000 in
theorem law_c25 (X : LX p s m meth c b L xs D cI cZ cS q) (v1 : vp_in (x3 + 1) L) (v2 : vp_in (x3 + 2) L) (v3 : vp_in (x3 + 3) L) (v4 : vp_in (x3 + 4) L) (v5 : vp_in (x3 + 5) L) (J : zV M) (hP : va_P D vwCl (zW q cI cZ cS M) H) (hS : va_S (fun a : Nat => s.heap.size ≤ a) s.heap H locs) (hl : lv_has ls 4 [(0, .ref b), (1, .ref (q 0)), (2, .ref (q 42)), (3, .int x3)]) (K : LK p l e s m below meth c b D cI cZ cS q x3) : W p l e room_1 s m #[Value.ref b] below meth c H locs 600000 7302250 (lw_Z below #[Value.ref b] s) (F0 m 958 ls []) := by
  obtain ⟨hx, hb, hml, hown, hT, hN, hK, hX, hbl, hD0⟩ := X
  have hA : ∀ a : Nat, s.heap.size ≤ a → (fun a : Nat => s.heap.size ≤ a) a := fun _ h => h
  have hbA : ¬ (fun a : Nat => s.heap.size ≤ a) b := Nat.not_le.mpr hbl
  have hD := zD_any q cI cZ cS (M' := M) hD0
  obtain ⟨n1, r, M1, h1, n2, r2, M2, h2, hr2, hV⟩ := op_sheet (x := xs (x3 + 1).toNatClampNeg) (x2 := xs (x3 + 2).toNatClampNeg) (x3 := xs (x3 + 3).toNatClampNeg) J
  obtain ⟨v, rfl⟩ := zx_int h1 rfl
  subst hr2
  refine lv_aload_n hx hb dL_958 rfl (lv_at hl 1 rfl) ?_
  refine lv_aload_n hx hb dL_959 rfl (lv_at hl 0 rfl) ?_
  refine lv_iload_n hx hb dL_960 rfl (lv_at hl 3 rfl) ?_
  refine lv_iconst (v := 1) hx hb dL_961 (by decide) ?_
  refine lv_iadd hx hb dL_962 ?_
  refine va_sld hx hb hX hbl hbA hS v1 dL_963 ?_
  refine lv_aload_n hx hb dL_964 rfl (lv_at hl 0 rfl) ?_
  refine lv_iload_n hx hb dL_965 rfl (lv_at hl 3 rfl) ?_
  refine lv_iconst (v := 2) hx hb dL_966 (by decide) ?_
  refine lv_iadd hx hb dL_967 ?_
  refine va_sld hx hb hX hbl hbA hS v2 dL_968 ?_
  refine lv_aload_n hx hb dL_969 rfl (lv_at hl 0 rfl) ?_
  refine lv_iload_n hx hb dL_970 rfl (lv_at hl 3 rfl) ?_
  refine lv_iconst (v := 3) hx hb dL_971 (by decide) ?_
  refine lv_iadd hx hb dL_972 ?_
  refine va_sld hx hb hX hbl hbA hS v3 dL_973 ?_
  refine law_calli (j := 63) (n := 119) (a := 0) (As := [.int (xs (x3 + 1).toNatClampNeg), .int (xs (x3 + 2).toNatClampNeg), .int (xs (x3 + 3).toNatClampNeg)]) hx hb hml hown hT hN hK hP hD hS hA hl.1 (by decide) rfl ⟨by decide, rfl⟩ (by decide) h1 (Nat.le_of_ble_eq_true rfl) rfl (zT_of 529 (by decide +kernel) rfl) (by decide +kernel) (Nat.le_of_ble_eq_true rfl) dL_974 ⟨Nat.le_of_ble_eq_true rfl, Nat.le_of_ble_eq_true rfl⟩ (fun H locs hP hS => ?_)
  have hD := zD_any q cI cZ cS (M' := M1) hD
  refine lv_aload_n hx hb dL_977 rfl (lv_at hl 2 rfl) ?_
  refine lv_aload_n hx hb dL_978 rfl (lv_at hl 0 rfl) ?_
  refine lv_iload_n hx hb dL_979 rfl (lv_at hl 3 rfl) ?_
  refine lv_iconst (v := 1) hx hb dL_980 (by decide) ?_
  refine lv_iadd hx hb dL_981 ?_
  refine va_sld hx hb hX hbl hbA hS v1 dL_982 ?_
  refine lv_aload_n hx hb dL_983 rfl (lv_at hl 0 rfl) ?_
  refine lv_iload_n hx hb dL_984 rfl (lv_at hl 3 rfl) ?_
  refine lv_iconst (v := 2) hx hb dL_985 (by decide) ?_
  refine lv_iadd hx hb dL_986 ?_
  refine va_sld hx hb hX hbl hbA hS v2 dL_987 ?_
  refine lv_aload_n hx hb dL_988 rfl (lv_at hl 0 rfl) ?_
  refine lv_iload_n hx hb dL_989 rfl (lv_at hl 3 rfl) ?_
  refine lv_iconst (v := 3) hx hb dL_990 (by decide) ?_
  refine lv_iadd hx hb dL_991 ?_
  refine va_sld hx hb hX hbl hbA hS v3 dL_992 ?_
  refine law_calli (j := 142) (n := 122) (a := 42) (As := [.int (xs (x3 + 1).toNatClampNeg), .int (xs (x3 + 2).toNatClampNeg), .int (xs (x3 + 3).toNatClampNeg)]) hx hb hml hown hT hN hK hP hD hS hA hl.1 (by decide) rfl ⟨by decide, rfl⟩ (by decide) h2 (Nat.le_of_ble_eq_true rfl) rfl (zT_of 943 (by decide +kernel) rfl) (by decide +kernel) (Nat.le_of_ble_eq_true rfl) dL_993 ⟨Nat.le_of_ble_eq_true rfl, Nat.le_of_ble_eq_true rfl⟩ (fun H locs hP hS => ?_)
  exact lv_icmp_eq (tgt := 1302) hx hb dL_996 (by decide) (fun _ => K M2 H locs ls hV hP hS hl) (fun h => absurd rfl h)
set_option maxHeartbeats 4000000 in
set_option maxRecDepth 100000 in
theorem law_c26 (X : LX p s m meth c b L xs D cI cZ cS q) (v1 : vp_in (x3 + 1) L) (v2 : vp_in (x3 + 2) L) (v3 : vp_in (x3 + 3) L) (v4 : vp_in (x3 + 4) L) (v5 : vp_in (x3 + 5) L) (J : zV M) (hP : va_P D vwCl (zW q cI cZ cS M) H) (hS : va_S (fun a : Nat => s.heap.size ≤ a) s.heap H locs) (hl : lv_has ls 4 [(0, .ref b), (1, .ref (q 0)), (2, .ref (q 42)), (3, .int x3)]) (K : LK p l e s m below meth c b D cI cZ cS q x3) : W p l e room_1 s m #[Value.ref b] below meth c H locs 600000 7302250 (lw_Z below #[Value.ref b] s) (F0 m 1001 ls []) := by
  obtain ⟨hx, hb, hml, hown, hT, hN, hK, hX, hbl, hD0⟩ := X
  have hA : ∀ a : Nat, s.heap.size ≤ a → (fun a : Nat => s.heap.size ≤ a) a := fun _ h => h
  have hbA : ¬ (fun a : Nat => s.heap.size ≤ a) b := Nat.not_le.mpr hbl
  have hD := zD_any q cI cZ cS (M' := M) hD0
  obtain ⟨n1, r, M1, h1, n2, r2, M2, h2, hr2, hV⟩ := op_lose (x := xs (x3 + 1).toNatClampNeg) J
  obtain ⟨v, rfl⟩ := zx_int h1 rfl
  subst hr2
  refine lv_aload_n hx hb dL_1001 rfl (lv_at hl 1 rfl) ?_
  refine lv_aload_n hx hb dL_1002 rfl (lv_at hl 0 rfl) ?_
  refine lv_iload_n hx hb dL_1003 rfl (lv_at hl 3 rfl) ?_
  refine lv_iconst (v := 1) hx hb dL_1004 (by decide) ?_
  refine lv_iadd hx hb dL_1005 ?_
  refine va_sld hx hb hX hbl hbA hS v1 dL_1006 ?_
  refine law_calli (j := 64) (n := 123) (a := 0) (As := [.int (xs (x3 + 1).toNatClampNeg)]) hx hb hml hown hT hN hK hP hD hS hA hl.1 (by decide) rfl ⟨by decide, rfl⟩ (by decide) h1 (Nat.le_of_ble_eq_true rfl) rfl (zT_of 537 (by decide +kernel) rfl) (by decide +kernel) (Nat.le_of_ble_eq_true rfl) dL_1007 ⟨Nat.le_of_ble_eq_true rfl, Nat.le_of_ble_eq_true rfl⟩ (fun H locs hP hS => ?_)
  have hD := zD_any q cI cZ cS (M' := M1) hD
  refine lv_aload_n hx hb dL_1010 rfl (lv_at hl 2 rfl) ?_
  refine lv_aload_n hx hb dL_1011 rfl (lv_at hl 0 rfl) ?_
  refine lv_iload_n hx hb dL_1012 rfl (lv_at hl 3 rfl) ?_
  refine lv_iconst (v := 1) hx hb dL_1013 (by decide) ?_
  refine lv_iadd hx hb dL_1014 ?_
  refine va_sld hx hb hX hbl hbA hS v1 dL_1015 ?_
  refine law_calli (j := 143) (n := 126) (a := 42) (As := [.int (xs (x3 + 1).toNatClampNeg)]) hx hb hml hown hT hN hK hP hD hS hA hl.1 (by decide) rfl ⟨by decide, rfl⟩ (by decide) h2 (Nat.le_of_ble_eq_true rfl) rfl (zT_of 947 (by decide +kernel) rfl) (by decide +kernel) (Nat.le_of_ble_eq_true rfl) dL_1016 ⟨Nat.le_of_ble_eq_true rfl, Nat.le_of_ble_eq_true rfl⟩ (fun H locs hP hS => ?_)
  exact lv_icmp_eq (tgt := 1302) hx hb dL_1019 (by decide) (fun _ => K M2 H locs ls hV hP hS hl) (fun h => absurd rfl h)
set_option maxHeartbeats 4000000 in
set_option maxRecDepth 100000 in
theorem law_c27 (X : LX p s m meth c b L xs D cI cZ cS q) (v1 : vp_in (x3 + 1) L) (v2 : vp_in (x3 + 2) L) (v3 : vp_in (x3 + 3) L) (v4 : vp_in (x3 + 4) L) (v5 : vp_in (x3 + 5) L) (J : zV M) (hP : va_P D vwCl (zW q cI cZ cS M) H) (hS : va_S (fun a : Nat => s.heap.size ≤ a) s.heap H locs) (hl : lv_has ls 4 [(0, .ref b), (1, .ref (q 0)), (2, .ref (q 42)), (3, .int x3)]) (K : LK p l e s m below meth c b D cI cZ cS q x3) : W p l e room_1 s m #[Value.ref b] below meth c H locs 600000 7302250 (lw_Z below #[Value.ref b] s) (F0 m 1024 ls []) := by
  obtain ⟨hx, hb, hml, hown, hT, hN, hK, hX, hbl, hD0⟩ := X
  have hA : ∀ a : Nat, s.heap.size ≤ a → (fun a : Nat => s.heap.size ≤ a) a := fun _ h => h
  have hbA : ¬ (fun a : Nat => s.heap.size ≤ a) b := Nat.not_le.mpr hbl
  have hD := zD_any q cI cZ cS (M' := M) hD0
  obtain ⟨n1, r, M1, h1, n2, r2, M2, h2, hr2, hV⟩ := op_put (x := xs (x3 + 1).toNatClampNeg) (x2 := xs (x3 + 2).toNatClampNeg) (x3 := xs (x3 + 3).toNatClampNeg) J
  obtain ⟨v, rfl⟩ := zx_int h1 rfl
  subst hr2
  refine lv_aload_n hx hb dL_1024 rfl (lv_at hl 1 rfl) ?_
  refine lv_aload_n hx hb dL_1025 rfl (lv_at hl 0 rfl) ?_
  refine lv_iload_n hx hb dL_1026 rfl (lv_at hl 3 rfl) ?_
  refine lv_iconst (v := 1) hx hb dL_1027 (by decide) ?_
  refine lv_iadd hx hb dL_1028 ?_
  refine va_sld hx hb hX hbl hbA hS v1 dL_1029 ?_
  refine lv_aload_n hx hb dL_1030 rfl (lv_at hl 0 rfl) ?_
  refine lv_iload_n hx hb dL_1031 rfl (lv_at hl 3 rfl) ?_
  refine lv_iconst (v := 2) hx hb dL_1032 (by decide) ?_
  refine lv_iadd hx hb dL_1033 ?_
  refine va_sld hx hb hX hbl hbA hS v2 dL_1034 ?_
  refine lv_aload_n hx hb dL_1035 rfl (lv_at hl 0 rfl) ?_
  refine lv_iload_n hx hb dL_1036 rfl (lv_at hl 3 rfl) ?_
  refine lv_iconst (v := 3) hx hb dL_1037 (by decide) ?_
  refine lv_iadd hx hb dL_1038 ?_
  refine va_sld hx hb hX hbl hbA hS v3 dL_1039 ?_
  refine law_calli (j := 65) (n := 127) (a := 0) (As := [.int (xs (x3 + 1).toNatClampNeg), .int (xs (x3 + 2).toNatClampNeg), .int (xs (x3 + 3).toNatClampNeg)]) hx hb hml hown hT hN hK hP hD hS hA hl.1 (by decide) rfl ⟨by decide, rfl⟩ (by decide) h1 (Nat.le_of_ble_eq_true rfl) rfl (zT_of 541 (by decide +kernel) rfl) (by decide +kernel) (Nat.le_of_ble_eq_true rfl) dL_1040 ⟨Nat.le_of_ble_eq_true rfl, Nat.le_of_ble_eq_true rfl⟩ (fun H locs hP hS => ?_)
  have hD := zD_any q cI cZ cS (M' := M1) hD
  refine lv_aload_n hx hb dL_1043 rfl (lv_at hl 2 rfl) ?_
  refine lv_aload_n hx hb dL_1044 rfl (lv_at hl 0 rfl) ?_
  refine lv_iload_n hx hb dL_1045 rfl (lv_at hl 3 rfl) ?_
  refine lv_iconst (v := 1) hx hb dL_1046 (by decide) ?_
  refine lv_iadd hx hb dL_1047 ?_
  refine va_sld hx hb hX hbl hbA hS v1 dL_1048 ?_
  refine lv_aload_n hx hb dL_1049 rfl (lv_at hl 0 rfl) ?_
  refine lv_iload_n hx hb dL_1050 rfl (lv_at hl 3 rfl) ?_
  refine lv_iconst (v := 2) hx hb dL_1051 (by decide) ?_
  refine lv_iadd hx hb dL_1052 ?_
  refine va_sld hx hb hX hbl hbA hS v2 dL_1053 ?_
  refine lv_aload_n hx hb dL_1054 rfl (lv_at hl 0 rfl) ?_
  refine lv_iload_n hx hb dL_1055 rfl (lv_at hl 3 rfl) ?_
  refine lv_iconst (v := 3) hx hb dL_1056 (by decide) ?_
  refine lv_iadd hx hb dL_1057 ?_
  refine va_sld hx hb hX hbl hbA hS v3 dL_1058 ?_
  refine law_calli (j := 145) (n := 130) (a := 42) (As := [.int (xs (x3 + 1).toNatClampNeg), .int (xs (x3 + 2).toNatClampNeg), .int (xs (x3 + 3).toNatClampNeg)]) hx hb hml hown hT hN hK hP hD hS hA hl.1 (by decide) rfl ⟨by decide, rfl⟩ (by decide) h2 (Nat.le_of_ble_eq_true rfl) rfl (zT_of 951 (by decide +kernel) rfl) (by decide +kernel) (Nat.le_of_ble_eq_true rfl) dL_1059 ⟨Nat.le_of_ble_eq_true rfl, Nat.le_of_ble_eq_true rfl⟩ (fun H locs hP hS => ?_)
  exact lv_icmp_eq (tgt := 1302) hx hb dL_1062 (by decide) (fun _ => K M2 H locs ls hV hP hS hl) (fun h => absurd rfl h)
set_option maxHeartbeats 4000000 in
set_option maxRecDepth 100000 in
theorem law_c28 (X : LX p s m meth c b L xs D cI cZ cS q) (v1 : vp_in (x3 + 1) L) (v2 : vp_in (x3 + 2) L) (v3 : vp_in (x3 + 3) L) (v4 : vp_in (x3 + 4) L) (v5 : vp_in (x3 + 5) L) (J : zV M) (hP : va_P D vwCl (zW q cI cZ cS M) H) (hS : va_S (fun a : Nat => s.heap.size ≤ a) s.heap H locs) (hl : lv_has ls 4 [(0, .ref b), (1, .ref (q 0)), (2, .ref (q 42)), (3, .int x3)]) (K : LK p l e s m below meth c b D cI cZ cS q x3) : W p l e room_1 s m #[Value.ref b] below meth c H locs 600000 7302250 (lw_Z below #[Value.ref b] s) (F0 m 1067 ls []) := by
  obtain ⟨hx, hb, hml, hown, hT, hN, hK, hX, hbl, hD0⟩ := X
  have hA : ∀ a : Nat, s.heap.size ≤ a → (fun a : Nat => s.heap.size ≤ a) a := fun _ h => h
  have hbA : ¬ (fun a : Nat => s.heap.size ≤ a) b := Nat.not_le.mpr hbl
  have hD := zD_any q cI cZ cS (M' := M) hD0
  obtain ⟨n1, r, M1, h1, n2, r2, M2, h2, hr2, hV⟩ := op_cell (x := xs (x3 + 1).toNatClampNeg) (x2 := xs (x3 + 2).toNatClampNeg) (x3 := xs (x3 + 3).toNatClampNeg) J
  obtain ⟨v, rfl⟩ := zx_long h1 rfl
  subst hr2
  refine lv_aload_n hx hb dL_1067 rfl (lv_at hl 1 rfl) ?_
  refine lv_aload_n hx hb dL_1068 rfl (lv_at hl 0 rfl) ?_
  refine lv_iload_n hx hb dL_1069 rfl (lv_at hl 3 rfl) ?_
  refine lv_iconst (v := 1) hx hb dL_1070 (by decide) ?_
  refine lv_iadd hx hb dL_1071 ?_
  refine va_sld hx hb hX hbl hbA hS v1 dL_1072 ?_
  refine lv_aload_n hx hb dL_1073 rfl (lv_at hl 0 rfl) ?_
  refine lv_iload_n hx hb dL_1074 rfl (lv_at hl 3 rfl) ?_
  refine lv_iconst (v := 2) hx hb dL_1075 (by decide) ?_
  refine lv_iadd hx hb dL_1076 ?_
  refine va_sld hx hb hX hbl hbA hS v2 dL_1077 ?_
  refine lv_aload_n hx hb dL_1078 rfl (lv_at hl 0 rfl) ?_
  refine lv_iload_n hx hb dL_1079 rfl (lv_at hl 3 rfl) ?_
  refine lv_iconst (v := 3) hx hb dL_1080 (by decide) ?_
  refine lv_iadd hx hb dL_1081 ?_
  refine va_sld hx hb hX hbl hbA hS v3 dL_1082 ?_
  refine law_calll (j := 66) (n := 131) (a := 0) (As := [.int (xs (x3 + 1).toNatClampNeg), .int (xs (x3 + 2).toNatClampNeg), .int (xs (x3 + 3).toNatClampNeg)]) hx hb hml hown hT hN hK hP hD hS hA hl.1 (by decide) rfl ⟨by decide, rfl⟩ (by decide) h1 (Nat.le_of_ble_eq_true rfl) rfl (zT_of 549 (by decide +kernel) rfl) (by decide +kernel) (Nat.le_of_ble_eq_true rfl) dL_1083 ⟨Nat.le_of_ble_eq_true rfl, Nat.le_of_ble_eq_true rfl⟩ (fun H locs hP hS => ?_)
  have hD := zD_any q cI cZ cS (M' := M1) hD
  refine lv_aload_n hx hb dL_1086 rfl (lv_at hl 2 rfl) ?_
  refine lv_aload_n hx hb dL_1087 rfl (lv_at hl 0 rfl) ?_
  refine lv_iload_n hx hb dL_1088 rfl (lv_at hl 3 rfl) ?_
  refine lv_iconst (v := 1) hx hb dL_1089 (by decide) ?_
  refine lv_iadd hx hb dL_1090 ?_
  refine va_sld hx hb hX hbl hbA hS v1 dL_1091 ?_
  refine lv_aload_n hx hb dL_1092 rfl (lv_at hl 0 rfl) ?_
  refine lv_iload_n hx hb dL_1093 rfl (lv_at hl 3 rfl) ?_
  refine lv_iconst (v := 2) hx hb dL_1094 (by decide) ?_
  refine lv_iadd hx hb dL_1095 ?_
  refine va_sld hx hb hX hbl hbA hS v2 dL_1096 ?_
  refine lv_aload_n hx hb dL_1097 rfl (lv_at hl 0 rfl) ?_
  refine lv_iload_n hx hb dL_1098 rfl (lv_at hl 3 rfl) ?_
  refine lv_iconst (v := 3) hx hb dL_1099 (by decide) ?_
  refine lv_iadd hx hb dL_1100 ?_
  refine va_sld hx hb hX hbl hbA hS v3 dL_1101 ?_
  refine law_calll (j := 146) (n := 134) (a := 42) (As := [.int (xs (x3 + 1).toNatClampNeg), .int (xs (x3 + 2).toNatClampNeg), .int (xs (x3 + 3).toNatClampNeg)]) hx hb hml hown hT hN hK hP hD hS hA hl.1 (by decide) rfl ⟨by decide, rfl⟩ (by decide) h2 (Nat.le_of_ble_eq_true rfl) rfl (zT_of 959 (by decide +kernel) rfl) (by decide +kernel) (Nat.le_of_ble_eq_true rfl) dL_1102 ⟨Nat.le_of_ble_eq_true rfl, Nat.le_of_ble_eq_true rfl⟩ (fun H locs hP hS => ?_)
  refine W.lcmp hx hb dL_1105 ?_
  exact lv_if_eq (tgt := 1302) hx hb dL_1106 (by decide) (fun _ => K M2 H locs ls hV hP hS hl) (fun h => absurd (lgc_eq.mpr rfl) h)
set_option maxHeartbeats 4000000 in
set_option maxRecDepth 100000 in
theorem law_c29 (X : LX p s m meth c b L xs D cI cZ cS q) (v1 : vp_in (x3 + 1) L) (v2 : vp_in (x3 + 2) L) (v3 : vp_in (x3 + 3) L) (v4 : vp_in (x3 + 4) L) (v5 : vp_in (x3 + 5) L) (J : zV M) (hP : va_P D vwCl (zW q cI cZ cS M) H) (hS : va_S (fun a : Nat => s.heap.size ≤ a) s.heap H locs) (hl : lv_has ls 4 [(0, .ref b), (1, .ref (q 0)), (2, .ref (q 42)), (3, .int x3)]) (K : LK p l e s m below meth c b D cI cZ cS q x3) : W p l e room_1 s m #[Value.ref b] below meth c H locs 600000 7302250 (lw_Z below #[Value.ref b] s) (F0 m 1111 ls []) := by
  obtain ⟨hx, hb, hml, hown, hT, hN, hK, hX, hbl, hD0⟩ := X
  have hA : ∀ a : Nat, s.heap.size ≤ a → (fun a : Nat => s.heap.size ≤ a) a := fun _ h => h
  have hbA : ¬ (fun a : Nat => s.heap.size ≤ a) b := Nat.not_le.mpr hbl
  have hD := zD_any q cI cZ cS (M' := M) hD0
  obtain ⟨n1, r, M1, h1, n2, r2, M2, h2, hr2, hV⟩ := op_copy (x := xs (x3 + 1).toNatClampNeg) (x2 := xs (x3 + 2).toNatClampNeg) (x3 := xs (x3 + 3).toNatClampNeg) (x4 := xs (x3 + 4).toNatClampNeg) (x5 := xs (x3 + 5).toNatClampNeg) J
  obtain ⟨v, rfl⟩ := zx_int h1 rfl
  subst hr2
  refine lv_aload_n hx hb dL_1111 rfl (lv_at hl 1 rfl) ?_
  refine lv_aload_n hx hb dL_1112 rfl (lv_at hl 0 rfl) ?_
  refine lv_iload_n hx hb dL_1113 rfl (lv_at hl 3 rfl) ?_
  refine lv_iconst (v := 1) hx hb dL_1114 (by decide) ?_
  refine lv_iadd hx hb dL_1115 ?_
  refine va_sld hx hb hX hbl hbA hS v1 dL_1116 ?_
  refine lv_aload_n hx hb dL_1117 rfl (lv_at hl 0 rfl) ?_
  refine lv_iload_n hx hb dL_1118 rfl (lv_at hl 3 rfl) ?_
  refine lv_iconst (v := 2) hx hb dL_1119 (by decide) ?_
  refine lv_iadd hx hb dL_1120 ?_
  refine va_sld hx hb hX hbl hbA hS v2 dL_1121 ?_
  refine lv_aload_n hx hb dL_1122 rfl (lv_at hl 0 rfl) ?_
  refine lv_iload_n hx hb dL_1123 rfl (lv_at hl 3 rfl) ?_
  refine lv_iconst (v := 3) hx hb dL_1124 (by decide) ?_
  refine lv_iadd hx hb dL_1125 ?_
  refine va_sld hx hb hX hbl hbA hS v3 dL_1126 ?_
  refine lv_aload_n hx hb dL_1127 rfl (lv_at hl 0 rfl) ?_
  refine lv_iload_n hx hb dL_1128 rfl (lv_at hl 3 rfl) ?_
  refine lv_iconst (v := 4) hx hb dL_1129 (by decide) ?_
  refine lv_iadd hx hb dL_1130 ?_
  refine va_sld hx hb hX hbl hbA hS v4 dL_1131 ?_
  refine lv_aload_n hx hb dL_1132 rfl (lv_at hl 0 rfl) ?_
  refine lv_iload_n hx hb dL_1133 rfl (lv_at hl 3 rfl) ?_
  refine lv_iconst (v := 5) hx hb dL_1134 (by decide) ?_
  refine lv_iadd hx hb dL_1135 ?_
  refine va_sld hx hb hX hbl hbA hS v5 dL_1136 ?_
  refine law_calli (j := 67) (n := 135) (a := 0) (As := [.int (xs (x3 + 1).toNatClampNeg), .int (xs (x3 + 2).toNatClampNeg), .int (xs (x3 + 3).toNatClampNeg), .int (xs (x3 + 4).toNatClampNeg), .int (xs (x3 + 5).toNatClampNeg)]) hx hb hml hown hT hN hK hP hD hS hA hl.1 (by decide) rfl ⟨by decide, rfl⟩ (by decide) h1 (Nat.le_of_ble_eq_true rfl) rfl (zT_of 554 (by decide +kernel) rfl) (by decide +kernel) (Nat.le_of_ble_eq_true rfl) dL_1137 ⟨Nat.le_of_ble_eq_true rfl, Nat.le_of_ble_eq_true rfl⟩ (fun H locs hP hS => ?_)
  have hD := zD_any q cI cZ cS (M' := M1) hD
  refine lv_aload_n hx hb dL_1140 rfl (lv_at hl 2 rfl) ?_
  refine lv_aload_n hx hb dL_1141 rfl (lv_at hl 0 rfl) ?_
  refine lv_iload_n hx hb dL_1142 rfl (lv_at hl 3 rfl) ?_
  refine lv_iconst (v := 1) hx hb dL_1143 (by decide) ?_
  refine lv_iadd hx hb dL_1144 ?_
  refine va_sld hx hb hX hbl hbA hS v1 dL_1145 ?_
  refine lv_aload_n hx hb dL_1146 rfl (lv_at hl 0 rfl) ?_
  refine lv_iload_n hx hb dL_1147 rfl (lv_at hl 3 rfl) ?_
  refine lv_iconst (v := 2) hx hb dL_1148 (by decide) ?_
  refine lv_iadd hx hb dL_1149 ?_
  refine va_sld hx hb hX hbl hbA hS v2 dL_1150 ?_
  refine lv_aload_n hx hb dL_1151 rfl (lv_at hl 0 rfl) ?_
  refine lv_iload_n hx hb dL_1152 rfl (lv_at hl 3 rfl) ?_
  refine lv_iconst (v := 3) hx hb dL_1153 (by decide) ?_
  refine lv_iadd hx hb dL_1154 ?_
  refine va_sld hx hb hX hbl hbA hS v3 dL_1155 ?_
  refine lv_aload_n hx hb dL_1156 rfl (lv_at hl 0 rfl) ?_
  refine lv_iload_n hx hb dL_1157 rfl (lv_at hl 3 rfl) ?_
  refine lv_iconst (v := 4) hx hb dL_1158 (by decide) ?_
  refine lv_iadd hx hb dL_1159 ?_
  refine va_sld hx hb hX hbl hbA hS v4 dL_1160 ?_
  refine lv_aload_n hx hb dL_1161 rfl (lv_at hl 0 rfl) ?_
  refine lv_iload_n hx hb dL_1162 rfl (lv_at hl 3 rfl) ?_
  refine lv_iconst (v := 5) hx hb dL_1163 (by decide) ?_
  refine lv_iadd hx hb dL_1164 ?_
  refine va_sld hx hb hX hbl hbA hS v5 dL_1165 ?_
  refine law_calli (j := 148) (n := 138) (a := 42) (As := [.int (xs (x3 + 1).toNatClampNeg), .int (xs (x3 + 2).toNatClampNeg), .int (xs (x3 + 3).toNatClampNeg), .int (xs (x3 + 4).toNatClampNeg), .int (xs (x3 + 5).toNatClampNeg)]) hx hb hml hown hT hN hK hP hD hS hA hl.1 (by decide) rfl ⟨by decide, rfl⟩ (by decide) h2 (Nat.le_of_ble_eq_true rfl) rfl (zT_of 967 (by decide +kernel) rfl) (by decide +kernel) (Nat.le_of_ble_eq_true rfl) dL_1166 ⟨Nat.le_of_ble_eq_true rfl, Nat.le_of_ble_eq_true rfl⟩ (fun H locs hP hS => ?_)
  exact lv_icmp_eq (tgt := 1302) hx hb dL_1169 (by decide) (fun _ => K M2 H locs ls hV hP hS hl) (fun h => absurd rfl h)
set_option maxHeartbeats 4000000 in
set_option maxRecDepth 100000 in
theorem law_c30 (X : LX p s m meth c b L xs D cI cZ cS q) (v1 : vp_in (x3 + 1) L) (v2 : vp_in (x3 + 2) L) (v3 : vp_in (x3 + 3) L) (v4 : vp_in (x3 + 4) L) (v5 : vp_in (x3 + 5) L) (J : zV M) (hP : va_P D vwCl (zW q cI cZ cS M) H) (hS : va_S (fun a : Nat => s.heap.size ≤ a) s.heap H locs) (hl : lv_has ls 4 [(0, .ref b), (1, .ref (q 0)), (2, .ref (q 42)), (3, .int x3)]) (K : LK p l e s m below meth c b D cI cZ cS q x3) : W p l e room_1 s m #[Value.ref b] below meth c H locs 600000 7302250 (lw_Z below #[Value.ref b] s) (F0 m 1174 ls []) := by
  obtain ⟨hx, hb, hml, hown, hT, hN, hK, hX, hbl, hD0⟩ := X
  have hA : ∀ a : Nat, s.heap.size ≤ a → (fun a : Nat => s.heap.size ≤ a) a := fun _ h => h
  have hbA : ¬ (fun a : Nat => s.heap.size ≤ a) b := Nat.not_le.mpr hbl
  have hD := zD_any q cI cZ cS (M' := M) hD0
  obtain ⟨n1, r, M1, h1, n2, r2, M2, h2, hr2, hV⟩ := op_tell (x := xs (x3 + 1).toNatClampNeg) J
  obtain ⟨v, rfl⟩ := zx_int h1 rfl
  subst hr2
  refine lv_aload_n hx hb dL_1174 rfl (lv_at hl 1 rfl) ?_
  refine lv_aload_n hx hb dL_1175 rfl (lv_at hl 0 rfl) ?_
  refine lv_iload_n hx hb dL_1176 rfl (lv_at hl 3 rfl) ?_
  refine lv_iconst (v := 1) hx hb dL_1177 (by decide) ?_
  refine lv_iadd hx hb dL_1178 ?_
  refine va_sld hx hb hX hbl hbA hS v1 dL_1179 ?_
  refine law_calli (j := 68) (n := 139) (a := 0) (As := [.int (xs (x3 + 1).toNatClampNeg)]) hx hb hml hown hT hN hK hP hD hS hA hl.1 (by decide) rfl ⟨by decide, rfl⟩ (by decide) h1 (Nat.le_of_ble_eq_true rfl) rfl (zT_of 562 (by decide +kernel) rfl) (by decide +kernel) (Nat.le_of_ble_eq_true rfl) dL_1180 ⟨Nat.le_of_ble_eq_true rfl, Nat.le_of_ble_eq_true rfl⟩ (fun H locs hP hS => ?_)
  have hD := zD_any q cI cZ cS (M' := M1) hD
  refine lv_aload_n hx hb dL_1183 rfl (lv_at hl 2 rfl) ?_
  refine lv_aload_n hx hb dL_1184 rfl (lv_at hl 0 rfl) ?_
  refine lv_iload_n hx hb dL_1185 rfl (lv_at hl 3 rfl) ?_
  refine lv_iconst (v := 1) hx hb dL_1186 (by decide) ?_
  refine lv_iadd hx hb dL_1187 ?_
  refine va_sld hx hb hX hbl hbA hS v1 dL_1188 ?_
  refine law_calli (j := 150) (n := 142) (a := 42) (As := [.int (xs (x3 + 1).toNatClampNeg)]) hx hb hml hown hT hN hK hP hD hS hA hl.1 (by decide) rfl ⟨by decide, rfl⟩ (by decide) h2 (Nat.le_of_ble_eq_true rfl) rfl (zT_of 971 (by decide +kernel) rfl) (by decide +kernel) (Nat.le_of_ble_eq_true rfl) dL_1189 ⟨Nat.le_of_ble_eq_true rfl, Nat.le_of_ble_eq_true rfl⟩ (fun H locs hP hS => ?_)
  exact lv_icmp_eq (tgt := 1302) hx hb dL_1192 (by decide) (fun _ => K M2 H locs ls hV hP hS hl) (fun h => absurd rfl h)
set_option maxHeartbeats 4000000 in
set_option maxRecDepth 100000 in
theorem law_c31 (X : LX p s m meth c b L xs D cI cZ cS q) (v1 : vp_in (x3 + 1) L) (v2 : vp_in (x3 + 2) L) (v3 : vp_in (x3 + 3) L) (v4 : vp_in (x3 + 4) L) (v5 : vp_in (x3 + 5) L) (J : zV M) (hP : va_P D vwCl (zW q cI cZ cS M) H) (hS : va_S (fun a : Nat => s.heap.size ≤ a) s.heap H locs) (hl : lv_has ls 4 [(0, .ref b), (1, .ref (q 0)), (2, .ref (q 42)), (3, .int x3)]) (K : LK p l e s m below meth c b D cI cZ cS q x3) : W p l e room_1 s m #[Value.ref b] below meth c H locs 600000 7302250 (lw_Z below #[Value.ref b] s) (F0 m 1197 ls []) := by
  obtain ⟨hx, hb, hml, hown, hT, hN, hK, hX, hbl, hD0⟩ := X
  have hA : ∀ a : Nat, s.heap.size ≤ a → (fun a : Nat => s.heap.size ≤ a) a := fun _ h => h
  have hbA : ¬ (fun a : Nat => s.heap.size ≤ a) b := Nat.not_le.mpr hbl
  have hD := zD_any q cI cZ cS (M' := M) hD0
  obtain ⟨n1, r, M1, h1, n2, r2, M2, h2, hr2, hV⟩ := op_dust (x := xs (x3 + 1).toNatClampNeg) J
  obtain ⟨v, rfl⟩ := zx_int h1 rfl
  subst hr2
  refine lv_aload_n hx hb dL_1197 rfl (lv_at hl 1 rfl) ?_
  refine lv_aload_n hx hb dL_1198 rfl (lv_at hl 0 rfl) ?_
  refine lv_iload_n hx hb dL_1199 rfl (lv_at hl 3 rfl) ?_
  refine lv_iconst (v := 1) hx hb dL_1200 (by decide) ?_
  refine lv_iadd hx hb dL_1201 ?_
  refine va_sld hx hb hX hbl hbA hS v1 dL_1202 ?_
  refine law_calli (j := 69) (n := 143) (a := 0) (As := [.int (xs (x3 + 1).toNatClampNeg)]) hx hb hml hown hT hN hK hP hD hS hA hl.1 (by decide) rfl ⟨by decide, rfl⟩ (by decide) h1 (Nat.le_of_ble_eq_true rfl) rfl (zT_of 582 (by decide +kernel) rfl) (by decide +kernel) (Nat.le_of_ble_eq_true rfl) dL_1203 ⟨Nat.le_of_ble_eq_true rfl, Nat.le_of_ble_eq_true rfl⟩ (fun H locs hP hS => ?_)
  have hD := zD_any q cI cZ cS (M' := M1) hD
  refine lv_aload_n hx hb dL_1206 rfl (lv_at hl 2 rfl) ?_
  refine lv_aload_n hx hb dL_1207 rfl (lv_at hl 0 rfl) ?_
  refine lv_iload_n hx hb dL_1208 rfl (lv_at hl 3 rfl) ?_
  refine lv_iconst (v := 1) hx hb dL_1209 (by decide) ?_
  refine lv_iadd hx hb dL_1210 ?_
  refine va_sld hx hb hX hbl hbA hS v1 dL_1211 ?_
  refine law_calli (j := 151) (n := 146) (a := 42) (As := [.int (xs (x3 + 1).toNatClampNeg)]) hx hb hml hown hT hN hK hP hD hS hA hl.1 (by decide) rfl ⟨by decide, rfl⟩ (by decide) h2 (Nat.le_of_ble_eq_true rfl) rfl (zT_of 979 (by decide +kernel) rfl) (by decide +kernel) (Nat.le_of_ble_eq_true rfl) dL_1212 ⟨Nat.le_of_ble_eq_true rfl, Nat.le_of_ble_eq_true rfl⟩ (fun H locs hP hS => ?_)
  exact lv_icmp_eq (tgt := 1302) hx hb dL_1215 (by decide) (fun _ => K M2 H locs ls hV hP hS hl) (fun h => absurd rfl h)
set_option maxHeartbeats 4000000 in
set_option maxRecDepth 100000 in
theorem law_c32 (X : LX p s m meth c b L xs D cI cZ cS q) (v1 : vp_in (x3 + 1) L) (v2 : vp_in (x3 + 2) L) (v3 : vp_in (x3 + 3) L) (v4 : vp_in (x3 + 4) L) (v5 : vp_in (x3 + 5) L) (J : zV M) (hP : va_P D vwCl (zW q cI cZ cS M) H) (hS : va_S (fun a : Nat => s.heap.size ≤ a) s.heap H locs) (hl : lv_has ls 4 [(0, .ref b), (1, .ref (q 0)), (2, .ref (q 42)), (3, .int x3)]) (K : LK p l e s m below meth c b D cI cZ cS q x3) : W p l e room_1 s m #[Value.ref b] below meth c H locs 600000 7302250 (lw_Z below #[Value.ref b] s) (F0 m 1220 ls []) := by
  obtain ⟨hx, hb, hml, hown, hT, hN, hK, hX, hbl, hD0⟩ := X
  have hA : ∀ a : Nat, s.heap.size ≤ a → (fun a : Nat => s.heap.size ≤ a) a := fun _ h => h
  have hbA : ¬ (fun a : Nat => s.heap.size ≤ a) b := Nat.not_le.mpr hbl
  have hD := zD_any q cI cZ cS (M' := M) hD0
  obtain ⟨n1, r, M1, h1, n2, r2, M2, h2, hr2, hV⟩ := op_as (x := xs (x3 + 1).toNatClampNeg) (x2 := xs (x3 + 2).toNatClampNeg) J
  obtain ⟨v, rfl⟩ := zx_int h1 rfl
  subst hr2
  refine lv_aload_n hx hb dL_1220 rfl (lv_at hl 1 rfl) ?_
  refine lv_aload_n hx hb dL_1221 rfl (lv_at hl 0 rfl) ?_
  refine lv_iload_n hx hb dL_1222 rfl (lv_at hl 3 rfl) ?_
  refine lv_iconst (v := 1) hx hb dL_1223 (by decide) ?_
  refine lv_iadd hx hb dL_1224 ?_
  refine va_sld hx hb hX hbl hbA hS v1 dL_1225 ?_
  refine lv_aload_n hx hb dL_1226 rfl (lv_at hl 0 rfl) ?_
  refine lv_iload_n hx hb dL_1227 rfl (lv_at hl 3 rfl) ?_
  refine lv_iconst (v := 2) hx hb dL_1228 (by decide) ?_
  refine lv_iadd hx hb dL_1229 ?_
  refine va_sld hx hb hX hbl hbA hS v2 dL_1230 ?_
  refine law_calli (j := 70) (n := 147) (a := 0) (As := [.int (xs (x3 + 1).toNatClampNeg), .int (xs (x3 + 2).toNatClampNeg)]) hx hb hml hown hT hN hK hP hD hS hA hl.1 (by decide) rfl ⟨by decide, rfl⟩ (by decide) h1 (Nat.le_of_ble_eq_true rfl) rfl (zT_of 586 (by decide +kernel) rfl) (by decide +kernel) (Nat.le_of_ble_eq_true rfl) dL_1231 ⟨Nat.le_of_ble_eq_true rfl, Nat.le_of_ble_eq_true rfl⟩ (fun H locs hP hS => ?_)
  have hD := zD_any q cI cZ cS (M' := M1) hD
  refine lv_aload_n hx hb dL_1234 rfl (lv_at hl 2 rfl) ?_
  refine lv_aload_n hx hb dL_1235 rfl (lv_at hl 0 rfl) ?_
  refine lv_iload_n hx hb dL_1236 rfl (lv_at hl 3 rfl) ?_
  refine lv_iconst (v := 1) hx hb dL_1237 (by decide) ?_
  refine lv_iadd hx hb dL_1238 ?_
  refine va_sld hx hb hX hbl hbA hS v1 dL_1239 ?_
  refine lv_aload_n hx hb dL_1240 rfl (lv_at hl 0 rfl) ?_
  refine lv_iload_n hx hb dL_1241 rfl (lv_at hl 3 rfl) ?_
  refine lv_iconst (v := 2) hx hb dL_1242 (by decide) ?_
  refine lv_iadd hx hb dL_1243 ?_
  refine va_sld hx hb hX hbl hbA hS v2 dL_1244 ?_
  refine law_calli (j := 152) (n := 150) (a := 42) (As := [.int (xs (x3 + 1).toNatClampNeg), .int (xs (x3 + 2).toNatClampNeg)]) hx hb hml hown hT hN hK hP hD hS hA hl.1 (by decide) rfl ⟨by decide, rfl⟩ (by decide) h2 (Nat.le_of_ble_eq_true rfl) rfl (zT_of 983 (by decide +kernel) rfl) (by decide +kernel) (Nat.le_of_ble_eq_true rfl) dL_1245 ⟨Nat.le_of_ble_eq_true rfl, Nat.le_of_ble_eq_true rfl⟩ (fun H locs hP hS => ?_)
  exact lv_icmp_eq (tgt := 1302) hx hb dL_1248 (by decide) (fun _ => K M2 H locs ls hV hP hS hl) (fun h => absurd rfl h)
set_option maxHeartbeats 4000000 in
set_option maxRecDepth 100000 in
theorem law_c33 (X : LX p s m meth c b L xs D cI cZ cS q) (v1 : vp_in (x3 + 1) L) (v2 : vp_in (x3 + 2) L) (v3 : vp_in (x3 + 3) L) (v4 : vp_in (x3 + 4) L) (v5 : vp_in (x3 + 5) L) (J : zV M) (hP : va_P D vwCl (zW q cI cZ cS M) H) (hS : va_S (fun a : Nat => s.heap.size ≤ a) s.heap H locs) (hl : lv_has ls 4 [(0, .ref b), (1, .ref (q 0)), (2, .ref (q 42)), (3, .int x3)]) (K : LK p l e s m below meth c b D cI cZ cS q x3) : W p l e room_1 s m #[Value.ref b] below meth c H locs 600000 7302250 (lw_Z below #[Value.ref b] s) (F0 m 1253 ls []) := by
  obtain ⟨hx, hb, hml, hown, hT, hN, hK, hX, hbl, hD0⟩ := X
  have hA : ∀ a : Nat, s.heap.size ≤ a → (fun a : Nat => s.heap.size ≤ a) a := fun _ h => h
  have hbA : ¬ (fun a : Nat => s.heap.size ≤ a) b := Nat.not_le.mpr hbl
  have hD := zD_any q cI cZ cS (M' := M) hD0
  obtain ⟨n1, r, M1, h1, n2, r2, M2, h2, hr2, hV⟩ := op_trace J
  obtain ⟨v, rfl⟩ := zx_int h1 rfl
  subst hr2
  refine lv_aload_n hx hb dL_1253 rfl (lv_at hl 1 rfl) ?_
  refine law_calli (j := 71) (n := 151) (a := 0) (As := []) hx hb hml hown hT hN hK hP hD hS hA hl.1 (by decide) rfl ⟨by decide, rfl⟩ (by decide) h1 (Nat.le_of_ble_eq_true rfl) rfl (zT_of 590 (by decide +kernel) rfl) (by decide +kernel) (Nat.le_of_ble_eq_true rfl) dL_1254 ⟨Nat.le_of_ble_eq_true rfl, Nat.le_of_ble_eq_true rfl⟩ (fun H locs hP hS => ?_)
  have hD := zD_any q cI cZ cS (M' := M1) hD
  refine lv_aload_n hx hb dL_1257 rfl (lv_at hl 2 rfl) ?_
  refine law_calli (j := 153) (n := 155) (a := 42) (As := []) hx hb hml hown hT hN hK hP hD hS hA hl.1 (by decide) rfl ⟨by decide, rfl⟩ (by decide) h2 (Nat.le_of_ble_eq_true rfl) rfl (zT_of 987 (by decide +kernel) rfl) (by decide +kernel) (Nat.le_of_ble_eq_true rfl) dL_1258 ⟨Nat.le_of_ble_eq_true rfl, Nat.le_of_ble_eq_true rfl⟩ (fun H locs hP hS => ?_)
  exact lv_icmp_eq (tgt := 1302) hx hb dL_1261 (by decide) (fun _ => K M2 H locs ls hV hP hS hl) (fun h => absurd rfl h)
set_option maxHeartbeats 4000000 in
set_option maxRecDepth 100000 in
theorem law_c34 (X : LX p s m meth c b L xs D cI cZ cS q) (v1 : vp_in (x3 + 1) L) (v2 : vp_in (x3 + 2) L) (v3 : vp_in (x3 + 3) L) (v4 : vp_in (x3 + 4) L) (v5 : vp_in (x3 + 5) L) (J : zV M) (hP : va_P D vwCl (zW q cI cZ cS M) H) (hS : va_S (fun a : Nat => s.heap.size ≤ a) s.heap H locs) (hl : lv_has ls 4 [(0, .ref b), (1, .ref (q 0)), (2, .ref (q 42)), (3, .int x3)]) (K : LK p l e s m below meth c b D cI cZ cS q x3) : W p l e room_1 s m #[Value.ref b] below meth c H locs 600000 7302250 (lw_Z below #[Value.ref b] s) (F0 m 1266 ls []) := by
  obtain ⟨hx, hb, hml, hown, hT, hN, hK, hX, hbl, hD0⟩ := X
  have hA : ∀ a : Nat, s.heap.size ≤ a → (fun a : Nat => s.heap.size ≤ a) a := fun _ h => h
  have hbA : ¬ (fun a : Nat => s.heap.size ≤ a) b := Nat.not_le.mpr hbl
  have hD := zD_any q cI cZ cS (M' := M) hD0
  obtain ⟨n1, r, M1, h1, n2, r2, M2, h2, hr2, hV⟩ := op_fault J
  obtain ⟨v, rfl⟩ := zx_int h1 rfl
  subst hr2
  refine lv_aload_n hx hb dL_1266 rfl (lv_at hl 1 rfl) ?_
  refine law_calli (j := 72) (n := 156) (a := 0) (As := []) hx hb hml hown hT hN hK hP hD hS hA hl.1 (by decide) rfl ⟨by decide, rfl⟩ (by decide) h1 (Nat.le_of_ble_eq_true rfl) rfl (zT_of 594 (by decide +kernel) rfl) (by decide +kernel) (Nat.le_of_ble_eq_true rfl) dL_1267 ⟨Nat.le_of_ble_eq_true rfl, Nat.le_of_ble_eq_true rfl⟩ (fun H locs hP hS => ?_)
  have hD := zD_any q cI cZ cS (M' := M1) hD
  refine lv_aload_n hx hb dL_1270 rfl (lv_at hl 2 rfl) ?_
  refine law_calli (j := 154) (n := 159) (a := 42) (As := []) hx hb hml hown hT hN hK hP hD hS hA hl.1 (by decide) rfl ⟨by decide, rfl⟩ (by decide) h2 (Nat.le_of_ble_eq_true rfl) rfl (zT_of 991 (by decide +kernel) rfl) (by decide +kernel) (Nat.le_of_ble_eq_true rfl) dL_1271 ⟨Nat.le_of_ble_eq_true rfl, Nat.le_of_ble_eq_true rfl⟩ (fun H locs hP hS => ?_)
  exact lv_icmp_eq (tgt := 1302) hx hb dL_1274 (by decide) (fun _ => K M2 H locs ls hV hP hS hl) (fun h => absurd rfl h)
set_option maxHeartbeats 4000000 in
set_option maxRecDepth 100000 in
theorem law_c35 (X : LX p s m meth c b L xs D cI cZ cS q) (v1 : vp_in (x3 + 1) L) (v2 : vp_in (x3 + 2) L) (v3 : vp_in (x3 + 3) L) (v4 : vp_in (x3 + 4) L) (v5 : vp_in (x3 + 5) L) (J : zV M) (hP : va_P D vwCl (zW q cI cZ cS M) H) (hS : va_S (fun a : Nat => s.heap.size ≤ a) s.heap H locs) (hl : lv_has ls 4 [(0, .ref b), (1, .ref (q 0)), (2, .ref (q 42)), (3, .int x3)]) (K : LK p l e s m below meth c b D cI cZ cS q x3) : W p l e room_1 s m #[Value.ref b] below meth c H locs 600000 7302250 (lw_Z below #[Value.ref b] s) (F0 m 1279 ls []) := by
  obtain ⟨hx, hb, hml, hown, hT, hN, hK, hX, hbl, hD0⟩ := X
  have hA : ∀ a : Nat, s.heap.size ≤ a → (fun a : Nat => s.heap.size ≤ a) a := fun _ h => h
  have hbA : ¬ (fun a : Nat => s.heap.size ≤ a) b := Nat.not_le.mpr hbl
  have hD := zD_any q cI cZ cS (M' := M) hD0
  obtain ⟨n1, r, M1, h1, n2, r2, M2, h2, hr2, hV⟩ := op_many (x := xs (x3 + 1).toNatClampNeg) J
  obtain ⟨v, rfl⟩ := zx_int h1 rfl
  subst hr2
  refine lv_aload_n hx hb dL_1279 rfl (lv_at hl 1 rfl) ?_
  refine lv_aload_n hx hb dL_1280 rfl (lv_at hl 0 rfl) ?_
  refine lv_iload_n hx hb dL_1281 rfl (lv_at hl 3 rfl) ?_
  refine lv_iconst (v := 1) hx hb dL_1282 (by decide) ?_
  refine lv_iadd hx hb dL_1283 ?_
  refine va_sld hx hb hX hbl hbA hS v1 dL_1284 ?_
  refine law_calli (j := 73) (n := 160) (a := 0) (As := [.int (xs (x3 + 1).toNatClampNeg)]) hx hb hml hown hT hN hK hP hD hS hA hl.1 (by decide) rfl ⟨by decide, rfl⟩ (by decide) h1 (Nat.le_of_ble_eq_true rfl) rfl (zT_of 598 (by decide +kernel) rfl) (by decide +kernel) (Nat.le_of_ble_eq_true rfl) dL_1285 ⟨Nat.le_of_ble_eq_true rfl, Nat.le_of_ble_eq_true rfl⟩ (fun H locs hP hS => ?_)
  have hD := zD_any q cI cZ cS (M' := M1) hD
  refine lv_aload_n hx hb dL_1288 rfl (lv_at hl 2 rfl) ?_
  refine lv_aload_n hx hb dL_1289 rfl (lv_at hl 0 rfl) ?_
  refine lv_iload_n hx hb dL_1290 rfl (lv_at hl 3 rfl) ?_
  refine lv_iconst (v := 1) hx hb dL_1291 (by decide) ?_
  refine lv_iadd hx hb dL_1292 ?_
  refine va_sld hx hb hX hbl hbA hS v1 dL_1293 ?_
  refine law_calli (j := 155) (n := 163) (a := 42) (As := [.int (xs (x3 + 1).toNatClampNeg)]) hx hb hml hown hT hN hK hP hD hS hA hl.1 (by decide) rfl ⟨by decide, rfl⟩ (by decide) h2 (Nat.le_of_ble_eq_true rfl) rfl (zT_of 995 (by decide +kernel) rfl) (by decide +kernel) (Nat.le_of_ble_eq_true rfl) dL_1294 ⟨Nat.le_of_ble_eq_true rfl, Nat.le_of_ble_eq_true rfl⟩ (fun H locs hP hS => ?_)
  exact lv_icmp_eq (tgt := 1302) hx hb dL_1297 (by decide) (fun _ => K M2 H locs ls hV hP hS hl) (fun h => absurd rfl h)
end LC
