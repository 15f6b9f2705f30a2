-- THE LAW: its loop
theorem and63 (x : Int32) : ∃ k : Nat, k < 64 ∧ x &&& 63 = nI k := by
  have h : (x &&& 63).toBitVec.toNat ≤ 63 := by
    rw [Int32.toBitVec_and, BitVec.toNat_and]
    exact Nat.and_le_right
  refine ⟨(x &&& 63).toBitVec.toNat, by omega, ?_⟩
  apply Int32.toBitVec_inj.mp
  show _ = BitVec.ofNat 32 _
  simp
section LC
variable {p : Program} {l : Launch} {e : Env} {s : State} {m : MethodId} {below : List Frame} {meth : Method} {c : Code} {D : va_G} {cI cZ cS : ClassId} {q : Nat → Nat} {b L : Nat} {xs : Nat → Int32}
set_option maxHeartbeats 4000000 in
set_option maxRecDepth 100000 in
theorem law_sw (X : LX p s m meth c b L xs D cI cZ cS q) {M : zM} {H : Heap} {locs : List Loc} {ls : Array Slot} {x3 y : Int32} (v1 : vp_in (x3 + 1) L) (v2 : vp_in (x3 + 2) L) (v3 : vp_in (x3 + 3) L) (v4 : vp_in (x3 + 4) L) (v5 : vp_in (x3 + 5) L) (J : zV M) (hP : va_P D vwCl (zW q cI cZ cS M) H) (hS : va_S (fun a : Nat => s.heap.size ≤ a) s.heap H locs) (hl : lv_has ls 4 [(0, .ref b), (1, .ref (q 0)), (2, .ref (q 42)), (3, .int x3)]) (K : LK p l e s m below meth c b D cI cZ cS q x3) : W p l e room_1 s m #[Value.ref b] below meth c H locs 600000 7302250 (lw_Z below #[Value.ref b] s) (F0 m 33 ls [.int (y &&& 63)]) := by
  have hx := X.1
  have hb := X.2.1
  obtain ⟨k, hk, ek⟩ := and63 y
  rw [ek]
  by_cases h36 : k < 36
  · match k, h36 with
    | 0, _ => exact lv_tableIn (off := 159) (tgt := 192) hx hb dL_33 (by decide) (by decide) rfl (by decide) (law_c0 X v1 v2 v3 v4 v5 J hP hS hl K)
    | 1, _ => exact lv_tableIn (off := 212) (tgt := 245) hx hb dL_33 (by decide) (by decide) rfl (by decide) (law_c1 X v1 v2 v3 v4 v5 J hP hS hl K)
    | 2, _ => exact lv_tableIn (off := 245) (tgt := 278) hx hb dL_33 (by decide) (by decide) rfl (by decide) (law_c2 X v1 v2 v3 v4 v5 J hP hS hl K)
    | 3, _ => exact lv_tableIn (off := 268) (tgt := 301) hx hb dL_33 (by decide) (by decide) rfl (by decide) (law_c3 X v1 v2 v3 v4 v5 J hP hS hl K)
    | 4, _ => exact lv_tableIn (off := 301) (tgt := 334) hx hb dL_33 (by decide) (by decide) rfl (by decide) (law_c4 X v1 v2 v3 v4 v5 J hP hS hl K)
    | 5, _ => exact lv_tableIn (off := 334) (tgt := 367) hx hb dL_33 (by decide) (by decide) rfl (by decide) (law_c5 X v1 v2 v3 v4 v5 J hP hS hl K)
    | 6, _ => exact lv_tableIn (off := 367) (tgt := 400) hx hb dL_33 (by decide) (by decide) rfl (by decide) (law_c6 X v1 v2 v3 v4 v5 J hP hS hl K)
    | 7, _ => exact lv_tableIn (off := 390) (tgt := 423) hx hb dL_33 (by decide) (by decide) rfl (by decide) (law_c7 X v1 v2 v3 v4 v5 J hP hS hl K)
    | 8, _ => exact lv_tableIn (off := 413) (tgt := 446) hx hb dL_33 (by decide) (by decide) rfl (by decide) (law_c8 X v1 v2 v3 v4 v5 J hP hS hl K)
    | 9, _ => exact lv_tableIn (off := 436) (tgt := 469) hx hb dL_33 (by decide) (by decide) rfl (by decide) (law_c9 X v1 v2 v3 v4 v5 J hP hS hl K)
    | 10, _ => exact lv_tableIn (off := 459) (tgt := 492) hx hb dL_33 (by decide) (by decide) rfl (by decide) (law_c10 X v1 v2 v3 v4 v5 J hP hS hl K)
    | 11, _ => exact lv_tableIn (off := 482) (tgt := 515) hx hb dL_33 (by decide) (by decide) rfl (by decide) (law_c11 X v1 v2 v3 v4 v5 J hP hS hl K)
    | 12, _ => exact lv_tableIn (off := 505) (tgt := 538) hx hb dL_33 (by decide) (by decide) rfl (by decide) (law_c12 X v1 v2 v3 v4 v5 J hP hS hl K)
    | 13, _ => exact lv_tableIn (off := 568) (tgt := 601) hx hb dL_33 (by decide) (by decide) rfl (by decide) (law_c13 X v1 v2 v3 v4 v5 J hP hS hl K)
    | 14, _ => exact lv_tableIn (off := 591) (tgt := 624) hx hb dL_33 (by decide) (by decide) rfl (by decide) (law_c14 X v1 v2 v3 v4 v5 J hP hS hl K)
    | 15, _ => exact lv_tableIn (off := 624) (tgt := 657) hx hb dL_33 (by decide) (by decide) rfl (by decide) (law_c15 X v1 v2 v3 v4 v5 J hP hS hl K)
    | 16, _ => exact lv_tableIn (off := 647) (tgt := 680) hx hb dL_33 (by decide) (by decide) rfl (by decide) (law_c16 X v1 v2 v3 v4 v5 J hP hS hl K)
    | 17, _ => exact lv_tableIn (off := 670) (tgt := 703) hx hb dL_33 (by decide) (by decide) rfl (by decide) (law_c17 X v1 v2 v3 v4 v5 J hP hS hl K)
    | 18, _ => exact lv_tableIn (off := 693) (tgt := 726) hx hb dL_33 (by decide) (by decide) rfl (by decide) (law_c18 X v1 v2 v3 v4 v5 J hP hS hl K)
    | 19, _ => exact lv_tableIn (off := 746) (tgt := 779) hx hb dL_33 (by decide) (by decide) rfl (by decide) (law_c19 X v1 v2 v3 v4 v5 J hP hS hl K)
    | 20, _ => exact lv_tableIn (off := 789) (tgt := 822) hx hb dL_33 (by decide) (by decide) rfl (by decide) (law_c20 X v1 v2 v3 v4 v5 J hP hS hl K)
    | 21, _ => exact lv_tableIn (off := 812) (tgt := 845) hx hb dL_33 (by decide) (by decide) rfl (by decide) (law_c21 X v1 v2 v3 v4 v5 J hP hS hl K)
    | 22, _ => exact lv_tableIn (off := 835) (tgt := 868) hx hb dL_33 (by decide) (by decide) rfl (by decide) (law_c22 X v1 v2 v3 v4 v5 J hP hS hl K)
    | 23, _ => exact lv_tableIn (off := 858) (tgt := 891) hx hb dL_33 (by decide) (by decide) rfl (by decide) (law_c23 X v1 v2 v3 v4 v5 J hP hS hl K)
    | 24, _ => exact lv_tableIn (off := 881) (tgt := 914) hx hb dL_33 (by decide) (by decide) rfl (by decide) (law_c24 X v1 v2 v3 v4 v5 J hP hS hl K)
    | 25, _ => exact lv_tableIn (off := 925) (tgt := 958) hx hb dL_33 (by decide) (by decide) rfl (by decide) (law_c25 X v1 v2 v3 v4 v5 J hP hS hl K)
    | 26, _ => exact lv_tableIn (off := 968) (tgt := 1001) hx hb dL_33 (by decide) (by decide) rfl (by decide) (law_c26 X v1 v2 v3 v4 v5 J hP hS hl K)
    | 27, _ => exact lv_tableIn (off := 991) (tgt := 1024) hx hb dL_33 (by decide) (by decide) rfl (by decide) (law_c27 X v1 v2 v3 v4 v5 J hP hS hl K)
    | 28, _ => exact lv_tableIn (off := 1034) (tgt := 1067) hx hb dL_33 (by decide) (by decide) rfl (by decide) (law_c28 X v1 v2 v3 v4 v5 J hP hS hl K)
    | 29, _ => exact lv_tableIn (off := 1078) (tgt := 1111) hx hb dL_33 (by decide) (by decide) rfl (by decide) (law_c29 X v1 v2 v3 v4 v5 J hP hS hl K)
    | 30, _ => exact lv_tableIn (off := 1141) (tgt := 1174) hx hb dL_33 (by decide) (by decide) rfl (by decide) (law_c30 X v1 v2 v3 v4 v5 J hP hS hl K)
    | 31, _ => exact lv_tableIn (off := 1164) (tgt := 1197) hx hb dL_33 (by decide) (by decide) rfl (by decide) (law_c31 X v1 v2 v3 v4 v5 J hP hS hl K)
    | 32, _ => exact lv_tableIn (off := 1187) (tgt := 1220) hx hb dL_33 (by decide) (by decide) rfl (by decide) (law_c32 X v1 v2 v3 v4 v5 J hP hS hl K)
    | 33, _ => exact lv_tableIn (off := 1220) (tgt := 1253) hx hb dL_33 (by decide) (by decide) rfl (by decide) (law_c33 X v1 v2 v3 v4 v5 J hP hS hl K)
    | 34, _ => exact lv_tableIn (off := 1233) (tgt := 1266) hx hb dL_33 (by decide) (by decide) rfl (by decide) (law_c34 X v1 v2 v3 v4 v5 J hP hS hl K)
    | 35, _ => exact lv_tableIn (off := 1246) (tgt := 1279) hx hb dL_33 (by decide) (by decide) rfl (by decide) (law_c35 X v1 v2 v3 v4 v5 J hP hS hl K)
    | k + 36, h => exact absurd h (by omega)
  · have t1 : (nI k).toInt = k := nI_toInt (by omega)
    exact lv_tableOut (tgt := 1302) hx hb dL_33 (Or.inr (by rw [t1]; omega)) (by decide) (K M H locs ls J hP hS hl)
set_option maxHeartbeats 4000000 in
set_option maxRecDepth 100000 in
theorem law_loop (X : LX p s m meth c b L xs D cI cZ cS q) (hL : L ≤ 3072) (hr : meth.sig.returnType = ret) (hlocks : meth.locks = false) : ∀ (n i : Nat), i ≤ L → L ≤ i + n → ∀ (M : zM) (H : Heap) (locs : List Loc) (ls : Array Slot), zV M → va_P D vwCl (zW q cI cZ cS M) H → va_S (fun a : Nat => s.heap.size ≤ a) s.heap H locs → lv_has ls 4 [(0, .ref b), (1, .ref (q 0)), (2, .ref (q 42)), (3, .int (nI i))] → W p l e room_1 s m #[Value.ref b] below meth c H locs 600000 7302250 (lw_Z below #[Value.ref b] s) (F0 m 18 ls []) := by
  have hx := X.1
  have hb := X.2.1
  have hX := X.2.2.2.2.2.2.2.1
  have hbl := X.2.2.2.2.2.2.2.2.1
  have hbA : ¬ (fun a : Nat => s.heap.size ≤ a) b := Nat.not_le.mpr hbl
  have tL : (nI L).toInt = L := nI_toInt (by omega)
  have tL6 : (nI L - 6).toInt = L - 6 := by
    rw [Int32.toInt_sub, tL, zt_6, Int.bmod_eq_of_le (by omega) (by omega)]
  intro n
  induction n with
  | zero =>
    intro i hi hin M H locs ls J hP hS hl
    have ti : (nI i).toInt = i := nI_toInt (by omega)
    refine lv_iload_n hx hb dL_18 rfl (lv_at hl 3 rfl) ?_
    refine lv_aload_n hx hb dL_19 rfl (lv_at hl 0 rfl) ?_
    refine va_slen hx hb hX hbl hbA hS dL_20 ?_
    refine lv_bipush (v := 6) hx hb dL_21 (by decide) ?_
    refine lv_isub hx hb dL_23 ?_
    refine lv_icmp_gt (tgt := 1308) hx hb dL_24 (by decide) (fun _ => ?_) (fun h => absurd ((fa_lt _ _).mpr (by show (nI L - 6).toInt < (nI i).toInt; rw [tL6, ti]; omega)) h)
    refine lv_iconst (v := 1) hx hb dL_1308 (by decide) ?_
    refine va_forget (fun q hq => hS.2.2 q hq) ?_
    exact lw_ret hx hb hr hlocks dL_1309
  | succ n ih =>
    intro i hi hin M H locs ls J hP hS hl
    have ti : (nI i).toInt = i := nI_toInt (by omega)
    refine lv_iload_n hx hb dL_18 rfl (lv_at hl 3 rfl) ?_
    refine lv_aload_n hx hb dL_19 rfl (lv_at hl 0 rfl) ?_
    refine va_slen hx hb hX hbl hbA hS dL_20 ?_
    refine lv_bipush (v := 6) hx hb dL_21 (by decide) ?_
    refine lv_isub hx hb dL_23 ?_
    refine lv_icmp_gt (tgt := 1308) hx hb dL_24 (by decide) (fun _ => ?_) (fun hle => ?_)
    · refine lv_iconst (v := 1) hx hb dL_1308 (by decide) ?_
      refine va_forget (fun q hq => hS.2.2 q hq) ?_
      exact lw_ret hx hb hr hlocks dL_1309
    · have h6 : i + 6 ≤ L := by
        have h7 : ¬ (nI L - 6).toInt < (nI i).toInt := fun h => hle ((fa_lt _ _).mpr h)
        rw [tL6, ti] at h7
        omega
      have vk : ∀ k : Nat, k < 6 → vp_in (nI i + nI k) L := fun k hk => by
        rw [nI_add]
        exact vp_in_nI (by omega) (by omega)
      refine lv_aload_n hx hb dL_27 rfl (lv_at hl 0 rfl) ?_
      refine lv_iload_n hx hb dL_28 rfl (lv_at hl 3 rfl) ?_
      refine va_sld hx hb hX hbl hbA hS (vp_in_nI (by omega) (by omega)) dL_29 ?_
      refine lv_bipush (v := 63) hx hb dL_30 (by decide) ?_
      refine lv_iand hx hb dL_32 ?_
      refine law_sw X (vk 1 (by decide)) (vk 2 (by decide)) (vk 3 (by decide)) (vk 4 (by decide)) (vk 5 (by decide)) J hP hS hl (fun M' H' locs' ls' J' hP' hS' hl' => ?_)
      refine lv_iinc (v := nI (i + 6)) (lv' := [(3, .int (nI (i + 6))), (0, .ref b), (1, .ref (q 0)), (2, .ref (q 42))]) hx hb dL_1302 hl' (k := 3) rfl (by show nI i + nI 6 = _; exact nI_add i 6) (by decide) rfl (fun ls'' hl'' => ?_)
      refine lv_goto (tgt := 18) hx hb dL_1305 (by decide) ?_
      exact ih (i + 6) h6 (by omega) M' H' locs' ls'' J' hP' hS' (lv_sub hl'' [1, 2, 3, 0] rfl)
end LC
