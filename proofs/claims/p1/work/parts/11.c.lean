theorem dL_law_248 : decode cL_law 248 = .ok (.aload_n 1, 1) := by decide +kernel
theorem dL_law_249 : decode cL_law 249 = .ok (.aload_n 0, 1) := by decide +kernel
theorem dL_law_250 : decode cL_law 250 = .ok (.iload 5, 2) := by decide +kernel
theorem dL_law_252 : decode cL_law 252 = .ok (.iconst 1, 1) := by decide +kernel
theorem dL_law_253 : decode cL_law 253 = .ok (.iadd, 1) := by decide +kernel
theorem dL_law_254 : decode cL_law 254 = .ok (.iaload, 1) := by decide +kernel
theorem dL_law_255 : decode cL_law 255 = .ok (.aload_n 0, 1) := by decide +kernel
theorem dL_law_256 : decode cL_law 256 = .ok (.iload 5, 2) := by decide +kernel
theorem dL_law_258 : decode cL_law 258 = .ok (.iconst 2, 1) := by decide +kernel
theorem dL_law_259 : decode cL_law 259 = .ok (.iadd, 1) := by decide +kernel
theorem dL_law_260 : decode cL_law 260 = .ok (.iaload, 1) := by decide +kernel
theorem dL_law_261 : decode cL_law 261 = .ok (.aload_n 0, 1) := by decide +kernel
theorem dL_law_262 : decode cL_law 262 = .ok (.iload 5, 2) := by decide +kernel
theorem dL_law_264 : decode cL_law 264 = .ok (.iconst 3, 1) := by decide +kernel
theorem dL_law_265 : decode cL_law 265 = .ok (.iadd, 1) := by decide +kernel
theorem dL_law_266 : decode cL_law 266 = .ok (.iaload, 1) := by decide +kernel
theorem dL_law_267 : decode cL_law 267 = .ok (.aload_n 0, 1) := by decide +kernel
theorem dL_law_268 : decode cL_law 268 = .ok (.iload 5, 2) := by decide +kernel
theorem dL_law_270 : decode cL_law 270 = .ok (.iconst 4, 1) := by decide +kernel
theorem dL_law_271 : decode cL_law 271 = .ok (.iadd, 1) := by decide +kernel
theorem dL_law_272 : decode cL_law 272 = .ok (.iaload, 1) := by decide +kernel
theorem dL_law_273 : decode cL_law 273 = .ok (.aload_n 3, 1) := by decide +kernel
theorem dL_law_274 : decode cL_law 274 = .ok (.invokestatic 159, 3) := by decide +kernel
theorem dL_law_277 : decode cL_law 277 = .ok (.istore 6, 2) := by decide +kernel
theorem dL_law_279 : decode cL_law 279 = .ok (.aload_n 2, 1) := by decide +kernel
theorem dL_law_280 : decode cL_law 280 = .ok (.aload_n 0, 1) := by decide +kernel
theorem dL_law_281 : decode cL_law 281 = .ok (.iload 5, 2) := by decide +kernel
theorem dL_law_283 : decode cL_law 283 = .ok (.iconst 1, 1) := by decide +kernel
theorem dL_law_284 : decode cL_law 284 = .ok (.iadd, 1) := by decide +kernel
theorem dL_law_285 : decode cL_law 285 = .ok (.iaload, 1) := by decide +kernel
theorem dL_law_286 : decode cL_law 286 = .ok (.aload_n 0, 1) := by decide +kernel
theorem dL_law_287 : decode cL_law 287 = .ok (.iload 5, 2) := by decide +kernel
theorem dL_law_289 : decode cL_law 289 = .ok (.iconst 2, 1) := by decide +kernel
theorem dL_law_290 : decode cL_law 290 = .ok (.iadd, 1) := by decide +kernel
theorem dL_law_291 : decode cL_law 291 = .ok (.iaload, 1) := by decide +kernel
theorem dL_law_292 : decode cL_law 292 = .ok (.aload_n 0, 1) := by decide +kernel
theorem dL_law_293 : decode cL_law 293 = .ok (.iload 5, 2) := by decide +kernel
theorem dL_law_295 : decode cL_law 295 = .ok (.iconst 3, 1) := by decide +kernel
theorem dL_law_296 : decode cL_law 296 = .ok (.iadd, 1) := by decide +kernel
theorem dL_law_297 : decode cL_law 297 = .ok (.iaload, 1) := by decide +kernel
theorem dL_law_298 : decode cL_law 298 = .ok (.aload_n 0, 1) := by decide +kernel
theorem dL_law_299 : decode cL_law 299 = .ok (.iload 5, 2) := by decide +kernel
theorem dL_law_301 : decode cL_law 301 = .ok (.iconst 4, 1) := by decide +kernel
theorem dL_law_302 : decode cL_law 302 = .ok (.iadd, 1) := by decide +kernel
theorem dL_law_303 : decode cL_law 303 = .ok (.iaload, 1) := by decide +kernel
theorem dL_law_304 : decode cL_law 304 = .ok (.invokevirtual 164, 3) := by decide +kernel
theorem dL_law_307 : decode cL_law 307 = .ok (.istore 7, 2) := by decide +kernel
theorem dL_law_309 : decode cL_law 309 = .ok (.aload_n 2, 1) := by decide +kernel
theorem dL_law_310 : decode cL_law 310 = .ok (.invokevirtual 165, 3) := by decide +kernel
theorem dL_law_313 : decode cL_law 313 = .ok (.iload 6, 2) := by decide +kernel
theorem dL_law_315 : decode cL_law 315 = .ok (.if_icmp .eq 5, 3) := by decide +kernel
theorem dL_law_320 : decode cL_law 320 = .ok (.iload 6, 2) := by decide +kernel
theorem dL_law_322 : decode cL_law 322 = .ok (.ifCond .ne 15, 3) := by decide +kernel
theorem dL_law_325 : decode cL_law 325 = .ok (.aload_n 3, 1) := by decide +kernel
theorem dL_law_326 : decode cL_law 326 = .ok (.iconst 0, 1) := by decide +kernel
theorem dL_law_327 : decode cL_law 327 = .ok (.laload, 1) := by decide +kernel
theorem dL_law_328 : decode cL_law 328 = .ok (.iload 7, 2) := by decide +kernel
theorem dL_law_330 : decode cL_law 330 = .ok (.i2l, 1) := by decide +kernel
theorem dL_law_331 : decode cL_law 331 = .ok (.lcmp, 1) := by decide +kernel
theorem dL_law_332 : decode cL_law 332 = .ok (.ifCond .eq 5, 3) := by decide +kernel
theorem dL_law_337 : decode cL_law 337 = .ok (.goto 2662, 3) := by decide +kernel
set_option maxHeartbeats 4000000 in
set_option maxRecDepth 100000 in
theorem zl_0 {p : Program} {e : Env} {s : State} {m : MethodId} {below : List Frame} {meth : Method} {c : Code} {Q : State → Prop} {args : Array Value} (l : Launch) (hnt : l.stackTraces = false) (D : va_G) (G : Nat × Nat × Nat) (xo : Nat) (xg : Nat) (xp : Nat) (xq : Nat) (r1 : Nat) (r2 : Nat) (r3 : Nat) (r4 : Nat) (se : Nat) (n1 : Nat) (n2 : Nat) (n3 : Nat) (mo : Nat) (gl : Nat) (po : Nat) (pi : Nat) (bu : Nat) (pa : Nat) (ou : Nat) (od : Nat) (cg : ClassId) (cp : ClassId) (cq : ClassId) (ci : ClassId) (cj : ClassId) (cJ : ClassId) (cD : ClassId) {b L : Nat} {xs : Nat → Int32} {A : Nat → Prop} {H : Heap} {locs : List Loc} {ls : Array Slot} (hx : p.tables.exec = Jvm.exec) (hb : c.code = code) (hml : c.maxLocals = 9) (hown : s.vm.findClass RL = some m.cls) (hts : ∀ w ∈ wzL_law, w.before args s = true) (hT : FT G s) (hA : ∀ q : Nat, s.heap.size ≤ q → A q) (hZ : FZ G A s s.heap) (hX : va_X b L xs s s.heap) (hbl : b < s.heap.size) (hbA : ¬ A b) (hL : L = 5) (hK : va_K D vwCl [(cg, .object "Gatherhouse$Glass"), (cp, .object "Gatherhouse$Pot"), (cq, .object "Gatherhouse$Piece"), (ci, .int), (cj, .int), (cJ, .long), (cD, .double)] s) (hP : va_P D vwCl [(xo, .inr (11, [.ref xg, .int 0, .ref xp, .int 0, .ref xq, .int 0, .ref r1, .ref r2, .ref r3, .ref r4, .ref se, .int 0, .int 0, .int 40, .int 0, .int 0])), (xg, .inl (cg, 6, .inr (.inr (.inr (.inr (fun _ => none)))))), (xp, .inl (cp, 4, .inr (.inr (.inr (.inr (fun _ => none)))))), (xq, .inl (cq, 16, .inr (.inr (.inr (.inr (fun _ => none)))))), (r1, .inr (9, [.int 0, .int 0])), (r2, .inr (9, [.int 0, .int 0])), (r3, .inr (9, [.int 0, .int 0])), (r4, .inr (9, [.int 0, .int 0])), (se, .inr (10, [.ref n1, .ref n2, .ref n3, .int 0, .int 0, .int 0, .int 0])), (mo, .inr (16, [.int 0, .ref gl, .ref po, .ref pi, .ref bu, .ref pa, .int 0, .int 0, .int 40, .int 0, .null, .int 0, .int 0])), (gl, .inr (4, [.int 0, .ref G.1, .int 0])), (po, .inr (4, [.int 0, .ref G.1, .int 0])), (pi, .inr (4, [.int 0, .ref G.1, .int 0])), (bu, .inl (ci, 4, .inl (fun _ => 0))), (pa, .inl (cj, 4, .inl (fun _ => 0))), (ou, .inl (cJ, 1, .inr (.inl (fun _ => 0)))), (od, .inl (cD, 1, .inr (.inr (.inr (.inl (fun _ => 0))))))] H) (hD : va_D A [(xo, .inr (11, [.ref xg, .int 0, .ref xp, .int 0, .ref xq, .int 0, .ref r1, .ref r2, .ref r3, .ref r4, .ref se, .int 0, .int 0, .int 40, .int 0, .int 0])), (xg, .inl (cg, 6, .inr (.inr (.inr (.inr (fun _ => none)))))), (xp, .inl (cp, 4, .inr (.inr (.inr (.inr (fun _ => none)))))), (xq, .inl (cq, 16, .inr (.inr (.inr (.inr (fun _ => none)))))), (r1, .inr (9, [.int 0, .int 0])), (r2, .inr (9, [.int 0, .int 0])), (r3, .inr (9, [.int 0, .int 0])), (r4, .inr (9, [.int 0, .int 0])), (se, .inr (10, [.ref n1, .ref n2, .ref n3, .int 0, .int 0, .int 0, .int 0])), (mo, .inr (16, [.int 0, .ref gl, .ref po, .ref pi, .ref bu, .ref pa, .int 0, .int 0, .int 40, .int 0, .null, .int 0, .int 0])), (gl, .inr (4, [.int 0, .ref G.1, .int 0])), (po, .inr (4, [.int 0, .ref G.1, .int 0])), (pi, .inr (4, [.int 0, .ref G.1, .int 0])), (bu, .inl (ci, 4, .inl (fun _ => 0))), (pa, .inl (cj, 4, .inl (fun _ => 0))), (ou, .inl (cJ, 1, .inr (.inl (fun _ => 0)))), (od, .inl (cD, 1, .inr (.inr (.inr (.inl (fun _ => 0))))))]) (hS : va_S A s.heap H locs) (hl : lv_has ls 9 [(5, .int 0), (4, .ref od), (3, .ref ou), (2, .ref mo), (1, .ref xo), (0, .ref b)]) (hE : ∀ (H : Heap) (locs : List Loc) (ls : Array Slot), va_S A s.heap H locs → lv_has ls 9 [(0, .ref b), (5, .int 0)] → W p l e room_1 s m args below meth c H locs 797152 6710780 Q (F0 m 2999 ls [])) : W p l e room_1 s m args below meth c H locs 60 300 Q (F0 m 248 ls []) := by
  have hP := hP.sub (ws' := [(xo, .inr (11, [.ref xg, .int 0, .ref xp, .int 0, .ref xq, .int 0, .ref r1, .ref r2, .ref r3, .ref r4, .ref se, .int 0, .int 0, .int 40, .int 0, .int 0])), (xg, .inl (cg, 6, .inr (.inr (.inr (.inr (fun _ => none)))))), (mo, .inr (16, [.int 0, .ref gl, .ref po, .ref pi, .ref bu, .ref pa, .int 0, .int 0, .int 40, .int 0, .null, .int 0, .int 0])), (gl, .inr (4, [.int 0, .ref G.1, .int 0])), (ou, .inl (cJ, 1, .inr (.inl (fun _ => 0))))]) [0, 1, 9, 10, 15] rfl
  have hD := hD.sub (ws' := [(xo, .inr (11, [.ref xg, .int 0, .ref xp, .int 0, .ref xq, .int 0, .ref r1, .ref r2, .ref r3, .ref r4, .ref se, .int 0, .int 0, .int 40, .int 0, .int 0])), (xg, .inl (cg, 6, .inr (.inr (.inr (.inr (fun _ => none)))))), (mo, .inr (16, [.int 0, .ref gl, .ref po, .ref pi, .ref bu, .ref pa, .int 0, .int 0, .int 40, .int 0, .null, .int 0, .int 0])), (gl, .inr (4, [.int 0, .ref G.1, .int 0])), (ou, .inl (cJ, 1, .inr (.inl (fun _ => 0))))]) [0, 1, 9, 10, 15] (by decide) rfl
  have hK := hK.sub (tys' := [(cg, .object "Gatherhouse$Glass"), (cJ, .long)]) [0, 5] rfl
  refine lv_aload_n hx hb dL_law_248 rfl (lv_at hl 4 rfl) ?_
  refine lv_aload_n hx hb dL_law_249 rfl (lv_at hl 5 rfl) ?_
  refine lv_iload hx hb dL_law_250 (lv_at hl 0 rfl) ?_
  refine lv_iconst (v := 1) hx hb dL_law_252 (by decide) ?_
  refine lv_iadd hx hb dL_law_253 ?_
  refine lv_topi (fun y_807 ey_807 => ?_)
  have ey_807 : y_807 = 1 := ey_807.trans (by decide +kernel)
  subst ey_807
  refine va_sld hx hb hX hbl hbA hS (vp_in_iff.mpr (by rw [hL]; decide +kernel)) dL_law_254 ?_
  refine lv_aload_n hx hb dL_law_255 rfl (lv_at hl 5 rfl) ?_
  refine lv_iload hx hb dL_law_256 (lv_at hl 0 rfl) ?_
  refine lv_iconst (v := 2) hx hb dL_law_258 (by decide) ?_
  refine lv_iadd hx hb dL_law_259 ?_
  refine lv_topi (fun y_808 ey_808 => ?_)
  have ey_808 : y_808 = 2 := ey_808.trans (by decide +kernel)
  subst ey_808
  refine va_sld hx hb hX hbl hbA hS (vp_in_iff.mpr (by rw [hL]; decide +kernel)) dL_law_260 ?_
  refine lv_aload_n hx hb dL_law_261 rfl (lv_at hl 5 rfl) ?_
  refine lv_iload hx hb dL_law_262 (lv_at hl 0 rfl) ?_
  refine lv_iconst (v := 3) hx hb dL_law_264 (by decide) ?_
  refine lv_iadd hx hb dL_law_265 ?_
  refine lv_topi (fun y_809 ey_809 => ?_)
  have ey_809 : y_809 = 3 := ey_809.trans (by decide +kernel)
  subst ey_809
  refine va_sld hx hb hX hbl hbA hS (vp_in_iff.mpr (by rw [hL]; decide +kernel)) dL_law_266 ?_
  refine lv_aload_n hx hb dL_law_267 rfl (lv_at hl 5 rfl) ?_
  refine lv_iload hx hb dL_law_268 (lv_at hl 0 rfl) ?_
  refine lv_iconst (v := 4) hx hb dL_law_270 (by decide) ?_
  refine lv_iadd hx hb dL_law_271 ?_
  refine lv_topi (fun y_810 ey_810 => ?_)
  have ey_810 : y_810 = 4 := ey_810.trans (by decide +kernel)
  subst ey_810
  refine va_sld hx hb hX hbl hbA hS (vp_in_iff.mpr (by rw [hL]; decide +kernel)) dL_law_272 ?_
  refine lv_aload_n hx hb dL_law_273 rfl (lv_at hl 2 rfl) ?_
  have hFc := va_free (wc := [(xo, .inr (11, [.ref xg, .int 0, .ref xp, .int 0, .ref xq, .int 0, .ref r1, .ref r2, .ref r3, .ref r4, .ref se, .int 0, .int 0, .int 40, .int 0, .int 0])), (xg, .inl (cg, 6, .inr (.inr (.inr (.inr (fun _ => none)))))), (ou, .inl (cJ, 1, .inr (.inl (fun _ => 0))))]) hD hS hA [0, 1, 4] rfl
  refine vx_calli (vx_runSX (As := [.ref xo, .int (xs (1 : Int32).toNatClampNeg), .int (xs (2 : Int32).toNatClampNeg), .int (xs (3 : Int32).toNatClampNeg), .int (xs (4 : Int32).toNatClampNeg), .ref ou]) (rest := []) ⟨hx, hb, hml, hown, hts⟩ (zc_L_glass l hnt D G xo xg xp xq r1 r2 r3 r4 se 0 0 cg ou cJ (xs (1 : Int32).toNatClampNeg) (xs (2 : Int32).toNatClampNeg) (xs (3 : Int32).toNatClampNeg) (xs (4 : Int32).toNatClampNeg) H.size) (vx_cwSW 6 hts gzL_law_L_glass_159 rfl rfl rfl (by decide +kernel) ⟨(Nat.le_of_ble_eq_true rfl), (Nat.le_of_ble_eq_true rfl)⟩) ⟨p_RW_blind, (p_RW_at (tc := [(cg, .object "Gatherhouse$Glass"), (cJ, .long)]) (wc := [(xo, .inr (11, [.ref xg, .int 0, .ref xp, .int 0, .ref xq, .int 0, .ref r1, .ref r2, .ref r3, .ref r4, .ref se, .int 0, .int 0, .int 40, .int 0, .int 0])), (xg, .inl (cg, 6, .inr (.inr (.inr (.inr (fun _ => none)))))), (ou, .inl (cJ, 1, .inr (.inl (fun _ => 0))))]) hP hK hD hS hA hT hZ [0, 1, 4] [0, 1] rfl rfl (by decide) rfl [.ref xo, .int (xs (1 : Int32).toNatClampNeg), .int (xs (2 : Int32).toNatClampNeg), .int (xs (3 : Int32).toNatClampNeg), .int (xs (4 : Int32).toNatClampNeg), .ref ou])⟩ rfl rfl hl.1 rfl (lv_room (Nat.le_of_ble_eq_true rfl)) dL_law_274 ⟨(Nat.le_of_ble_eq_true rfl), (Nat.le_of_ble_eq_true rfl)⟩) hS (fun q _ h => hFc q h) hFc (fun q _ h => hFc q h) (fun E ce q9 u t H locs ht hvm hpx hBX hz1 hk1 hS hce hcv hcl => ?_) (fun r_811 u t H locs ht hvm w_812 hB hz1 hk1 hS => ?_)
  · exact (show False from hBX).elim
  · obtain ⟨u_813, rfl⟩ : ∃ z, z = u := ⟨_, rfl⟩
    obtain ⟨hP, hD, hK⟩ := q_join (D := D) (wc := [(xo, .inr (11, [.ref xg, .int 0, .ref xp, .int 0, .ref xq, .int 0, .ref r1, .ref r2, .ref r3, .ref r4, .ref se, .int 0, .int 0, .int 40, .int 0, .int 0])), (xg, .inl (cg, 6, .inr (.inr (.inr (.inr (fun _ => none)))))), (ou, .inl (cJ, 1, .inr (.inl (fun _ => 0))))]) (wr := [(mo, .inr (16, [.int 0, .ref gl, .ref po, .ref pi, .ref bu, .ref pa, .int 0, .int 0, .int 40, .int 0, .null, .int 0, .int 0])), (gl, .inr (4, [.int 0, .ref G.1, .int 0]))]) (w1 := [(ou, .inl (cJ, 1, .inr (.inl u_813)))]) (tyr := [(cg, .object "Gatherhouse$Glass")]) (ty1 := [(cJ, .long)]) hP hD hK [0, 1, 4] [2, 3] [0] rfl rfl (by decide) (by decide) rfl hFc hk1 ht hvm hB
    have hP : va_P D vwCl [(mo, .inr (16, [.int 0, .ref gl, .ref po, .ref pi, .ref bu, .ref pa, .int 0, .int 0, .int 40, .int 0, .null, .int 0, .int 0])), (gl, .inr (4, [.int 0, .ref G.1, .int 0])), (ou, .inl (cJ, 1, .inr (.inl u_813)))] H := hP
    have hD : va_D A [(mo, .inr (16, [.int 0, .ref gl, .ref po, .ref pi, .ref bu, .ref pa, .int 0, .int 0, .int 40, .int 0, .null, .int 0, .int 0])), (gl, .inr (4, [.int 0, .ref G.1, .int 0])), (ou, .inl (cJ, 1, .inr (.inl u_813)))] := hD
    have hK : va_K D vwCl [(cg, .object "Gatherhouse$Glass"), (cJ, .long)] s := hK
    refine W.widen (k := 65) (n := 328) (Nat.le_of_ble_eq_true rfl) (Nat.le_of_ble_eq_true rfl) ?_
    rcases w_812 with ⟨c_814, c_815, rfl⟩ | ⟨c_816, rfl⟩
    · refine lv_istore (lv' := [(6, .int 0), (5, .int 0), (4, .ref od), (3, .ref ou), (2, .ref mo), (1, .ref xo), (0, .ref b)]) hx hb dL_law_277 hl (by decide) rfl (fun ls hl => ?_)
      refine lv_aload_n hx hb dL_law_279 rfl (lv_at hl 4 rfl) ?_
      refine lv_aload_n hx hb dL_law_280 rfl (lv_at hl 6 rfl) ?_
      refine lv_iload hx hb dL_law_281 (lv_at hl 1 rfl) ?_
      refine lv_iconst (v := 1) hx hb dL_law_283 (by decide) ?_
      refine lv_iadd hx hb dL_law_284 ?_
      refine lv_topi (fun y_817 ey_817 => ?_)
      have ey_817 : y_817 = 1 := ey_817.trans (by decide +kernel)
      subst ey_817
      refine va_sld hx hb hX hbl hbA hS (vp_in_iff.mpr (by rw [hL]; decide +kernel)) dL_law_285 ?_
      refine lv_aload_n hx hb dL_law_286 rfl (lv_at hl 6 rfl) ?_
      refine lv_iload hx hb dL_law_287 (lv_at hl 1 rfl) ?_
      refine lv_iconst (v := 2) hx hb dL_law_289 (by decide) ?_
      refine lv_iadd hx hb dL_law_290 ?_
      refine lv_topi (fun y_818 ey_818 => ?_)
      have ey_818 : y_818 = 2 := ey_818.trans (by decide +kernel)
      subst ey_818
      refine va_sld hx hb hX hbl hbA hS (vp_in_iff.mpr (by rw [hL]; decide +kernel)) dL_law_291 ?_
      refine lv_aload_n hx hb dL_law_292 rfl (lv_at hl 6 rfl) ?_
      refine lv_iload hx hb dL_law_293 (lv_at hl 1 rfl) ?_
      refine lv_iconst (v := 3) hx hb dL_law_295 (by decide) ?_
      refine lv_iadd hx hb dL_law_296 ?_
      refine lv_topi (fun y_819 ey_819 => ?_)
      have ey_819 : y_819 = 3 := ey_819.trans (by decide +kernel)
      subst ey_819
      refine va_sld hx hb hX hbl hbA hS (vp_in_iff.mpr (by rw [hL]; decide +kernel)) dL_law_297 ?_
      refine lv_aload_n hx hb dL_law_298 rfl (lv_at hl 6 rfl) ?_
      refine lv_iload hx hb dL_law_299 (lv_at hl 1 rfl) ?_
      refine lv_iconst (v := 4) hx hb dL_law_301 (by decide) ?_
      refine lv_iadd hx hb dL_law_302 ?_
      refine lv_topi (fun y_820 ey_820 => ?_)
      have ey_820 : y_820 = 4 := ey_820.trans (by decide +kernel)
      subst ey_820
      refine va_sld hx hb hX hbl hbA hS (vp_in_iff.mpr (by rw [hL]; decide +kernel)) dL_law_303 ?_
      have hFc := va_free (wc := [(mo, .inr (16, [.int 0, .ref gl, .ref po, .ref pi, .ref bu, .ref pa, .int 0, .int 0, .int 40, .int 0, .null, .int 0, .int 0])), (gl, .inr (4, [.int 0, .ref G.1, .int 0]))]) hD hS hA [0, 1] rfl
      refine va_calli (va_runV (As := [.int (xs (1 : Int32).toNatClampNeg), .int (xs (2 : Int32).toNatClampNeg), .int (xs (3 : Int32).toNatClampNeg), .int (xs (4 : Int32).toNatClampNeg)]) (rest := []) ⟨hx, hb, hml, hown, hts⟩ (zc_X11_glass l D G mo gl po pi bu pa 0 0 0 (xs (1 : Int32).toNatClampNeg) (xs (2 : Int32).toNatClampNeg) (xs (3 : Int32).toNatClampNeg) (xs (4 : Int32).toNatClampNeg) H.size) (cwV 4 hts gzL_law_X11_glass_164 rfl rfl rfl (by decide +kernel) ⟨(Nat.le_of_ble_eq_true rfl), (Nat.le_of_ble_eq_true rfl)⟩) ⟨p_RW_blind, va_recv hK hP (ci := 16) (q0 := 0) rfl rfl, (p_RW_at (tc := []) (wc := [(mo, .inr (16, [.int 0, .ref gl, .ref po, .ref pi, .ref bu, .ref pa, .int 0, .int 0, .int 40, .int 0, .null, .int 0, .int 0])), (gl, .inr (4, [.int 0, .ref G.1, .int 0]))]) hP hK hD hS hA hT hZ [0, 1] [] rfl rfl (by decide) rfl [.ref mo, .int (xs (1 : Int32).toNatClampNeg), .int (xs (2 : Int32).toNatClampNeg), .int (xs (3 : Int32).toNatClampNeg), .int (xs (4 : Int32).toNatClampNeg)])⟩ rfl rfl hl.1 rfl (lv_room (Nat.le_of_ble_eq_true rfl)) dL_law_304 ⟨(Nat.le_of_ble_eq_true rfl), (Nat.le_of_ble_eq_true rfl)⟩) hS (fun q _ h => hFc q h) hFc (fun r_821 u t H locs ht hvm w_822 hB hz1 hk1 hS => ?_)
      obtain ⟨u_823, rfl⟩ : ∃ z, z = u := ⟨_, rfl⟩
      obtain ⟨hP, hD, hK⟩ := q_join (D := D) (wc := [(mo, .inr (16, [.int 0, .ref gl, .ref po, .ref pi, .ref bu, .ref pa, .int 0, .int 0, .int 40, .int 0, .null, .int 0, .int 0])), (gl, .inr (4, [.int 0, .ref G.1, .int 0]))]) (wr := [(ou, .inl (cJ, 1, .inr (.inl u_813)))]) (w1 := [(mo, .inr (16, [.int u_823, .ref gl, .ref po, .ref pi, .ref bu, .ref pa, .int 0, .int 0, .int 40, .int 0, .null, .int 0, .int 0]))]) (tyr := [(cg, .object "Gatherhouse$Glass"), (cJ, .long)]) (ty1 := []) hP hD hK [0, 1] [2] [0, 1] rfl rfl (by decide) (by decide) rfl hFc hk1 ht hvm hB
      have hP : va_P D vwCl [(ou, .inl (cJ, 1, .inr (.inl u_813))), (mo, .inr (16, [.int u_823, .ref gl, .ref po, .ref pi, .ref bu, .ref pa, .int 0, .int 0, .int 40, .int 0, .null, .int 0, .int 0]))] H := hP
      have hD : va_D A [(ou, .inl (cJ, 1, .inr (.inl u_813))), (mo, .inr (16, [.int u_823, .ref gl, .ref po, .ref pi, .ref bu, .ref pa, .int 0, .int 0, .int 40, .int 0, .null, .int 0, .int 0]))] := hD
      have hK : va_K D vwCl [(cg, .object "Gatherhouse$Glass"), (cJ, .long)] s := hK
      refine W.widen (k := 67) (n := 342) (Nat.le_of_ble_eq_true rfl) (Nat.le_of_ble_eq_true rfl) ?_
      rcases w_822 with ⟨c_824, rfl, rfl⟩ | ⟨c_825, rfl, rfl⟩
      · refine lv_istore (lv' := [(7, .int 0), (6, .int 0), (5, .int 0), (4, .ref od), (3, .ref ou), (2, .ref mo), (1, .ref xo), (0, .ref b)]) hx hb dL_law_307 hl (by decide) rfl (fun ls hl => ?_)
        refine lv_aload_n hx hb dL_law_309 rfl (lv_at hl 5 rfl) ?_
        refine vp_callSi (va_runV (As := []) (rest := []) ⟨hx, hb, hml, hown, hts⟩ (zc_X11_thrown l D G mo gl po pi bu pa 0 0 0 40) (cwV 0 hts gzL_law_X11_thrown_165 rfl rfl rfl (by decide +kernel) ⟨(Nat.le_of_ble_eq_true rfl), (Nat.le_of_ble_eq_true rfl)⟩) ⟨p_RO_blind, va_recv hK hP (ci := 16) (q0 := 1) rfl rfl, (p_RO_at (tc := []) (wc := [(mo, .inr (16, [.int 0, .ref gl, .ref po, .ref pi, .ref bu, .ref pa, .int 0, .int 0, .int 40, .int 0, .null, .int 0, .int 0]))]) hP hK hT [1] [] rfl rfl [.ref mo])⟩ rfl rfl hl.1 rfl (lv_room (Nat.le_of_ble_eq_true rfl)) dL_law_310 ⟨(Nat.le_of_ble_eq_true rfl), (Nat.le_of_ble_eq_true rfl)⟩).run (fun r_826 w_827 => ?_)
        obtain rfl := w_827
        refine lv_iload hx hb dL_law_313 (lv_at hl 1 rfl) ?_
        refine lv_icmp_eq (tgt := 320) hx hb dL_law_315 (by decide) (fun _ => ?_) (fun cc => absurd (by decide) cc)
        refine lv_iload hx hb dL_law_320 (lv_at hl 1 rfl) ?_
        refine lv_if_ne (tgt := 337) hx hb dL_law_322 (by decide) (fun cc => absurd (by decide) cc) (fun _ => ?_)
        refine lv_aload_n hx hb dL_law_325 rfl (lv_at hl 4 rfl) ?_
        refine lv_iconst (v := 0) hx hb dL_law_326 (by decide) ?_
        refine va_lald (D := D) (cl := vwCl) hx hb hK hP 0 1 rfl rfl (vp_in_nI (n := 0) (N := 1) (by decide) (by decide)) dL_law_327 ?_
        refine lv_topl (fun y_828 ey_828 => ?_)
        have ey_828 : y_828 = 0 := ey_828.trans c_815
        subst ey_828
        refine lv_iload hx hb dL_law_328 (lv_at hl 0 rfl) ?_
        refine lv_i2l (v := 0) hx hb dL_law_330 (by decide) ?_
        refine W.lcmp hx hb dL_law_331 ?_
        refine lv_topi (fun y_829 ey_829 => ?_)
        have ey_829 : y_829 = 0 := ey_829.trans (by decide +kernel)
        subst ey_829
        refine lv_if_eq (tgt := 337) hx hb dL_law_332 (by decide) (fun _ => ?_) (fun cc => absurd (by decide) cc)
        refine lv_goto (tgt := 2999) hx hb dL_law_337 (by decide) ?_
        refine W.widen (k := 797152) (n := 6710780) (Nat.le_of_ble_eq_true rfl) (Nat.le_of_ble_eq_true rfl) ?_
        exact hE _ _ _ hS (lv_sub hl [7, 2] rfl)
      · exact absurd c_814 c_825
    · refine lv_istore (lv' := [(6, .int 1), (5, .int 0), (4, .ref od), (3, .ref ou), (2, .ref mo), (1, .ref xo), (0, .ref b)]) hx hb dL_law_277 hl (by decide) rfl (fun ls hl => ?_)
      refine lv_aload_n hx hb dL_law_279 rfl (lv_at hl 4 rfl) ?_
      refine lv_aload_n hx hb dL_law_280 rfl (lv_at hl 6 rfl) ?_
      refine lv_iload hx hb dL_law_281 (lv_at hl 1 rfl) ?_
      refine lv_iconst (v := 1) hx hb dL_law_283 (by decide) ?_
      refine lv_iadd hx hb dL_law_284 ?_
      refine lv_topi (fun y_830 ey_830 => ?_)
      have ey_830 : y_830 = 1 := ey_830.trans (by decide +kernel)
      subst ey_830
      refine va_sld hx hb hX hbl hbA hS (vp_in_iff.mpr (by rw [hL]; decide +kernel)) dL_law_285 ?_
      refine lv_aload_n hx hb dL_law_286 rfl (lv_at hl 6 rfl) ?_
      refine lv_iload hx hb dL_law_287 (lv_at hl 1 rfl) ?_
      refine lv_iconst (v := 2) hx hb dL_law_289 (by decide) ?_
      refine lv_iadd hx hb dL_law_290 ?_
      refine lv_topi (fun y_831 ey_831 => ?_)
      have ey_831 : y_831 = 2 := ey_831.trans (by decide +kernel)
      subst ey_831
      refine va_sld hx hb hX hbl hbA hS (vp_in_iff.mpr (by rw [hL]; decide +kernel)) dL_law_291 ?_
      refine lv_aload_n hx hb dL_law_292 rfl (lv_at hl 6 rfl) ?_
      refine lv_iload hx hb dL_law_293 (lv_at hl 1 rfl) ?_
      refine lv_iconst (v := 3) hx hb dL_law_295 (by decide) ?_
      refine lv_iadd hx hb dL_law_296 ?_
      refine lv_topi (fun y_832 ey_832 => ?_)
      have ey_832 : y_832 = 3 := ey_832.trans (by decide +kernel)
      subst ey_832
      refine va_sld hx hb hX hbl hbA hS (vp_in_iff.mpr (by rw [hL]; decide +kernel)) dL_law_297 ?_
      refine lv_aload_n hx hb dL_law_298 rfl (lv_at hl 6 rfl) ?_
      refine lv_iload hx hb dL_law_299 (lv_at hl 1 rfl) ?_
      refine lv_iconst (v := 4) hx hb dL_law_301 (by decide) ?_
      refine lv_iadd hx hb dL_law_302 ?_
      refine lv_topi (fun y_833 ey_833 => ?_)
      have ey_833 : y_833 = 4 := ey_833.trans (by decide +kernel)
      subst ey_833
      refine va_sld hx hb hX hbl hbA hS (vp_in_iff.mpr (by rw [hL]; decide +kernel)) dL_law_303 ?_
      have hFc := va_free (wc := [(mo, .inr (16, [.int 0, .ref gl, .ref po, .ref pi, .ref bu, .ref pa, .int 0, .int 0, .int 40, .int 0, .null, .int 0, .int 0])), (gl, .inr (4, [.int 0, .ref G.1, .int 0]))]) hD hS hA [0, 1] rfl
      refine va_calli (va_runV (As := [.int (xs (1 : Int32).toNatClampNeg), .int (xs (2 : Int32).toNatClampNeg), .int (xs (3 : Int32).toNatClampNeg), .int (xs (4 : Int32).toNatClampNeg)]) (rest := []) ⟨hx, hb, hml, hown, hts⟩ (zc_X11_glass l D G mo gl po pi bu pa 0 0 0 (xs (1 : Int32).toNatClampNeg) (xs (2 : Int32).toNatClampNeg) (xs (3 : Int32).toNatClampNeg) (xs (4 : Int32).toNatClampNeg) H.size) (cwV 4 hts gzL_law_X11_glass_164 rfl rfl rfl (by decide +kernel) ⟨(Nat.le_of_ble_eq_true rfl), (Nat.le_of_ble_eq_true rfl)⟩) ⟨p_RW_blind, va_recv hK hP (ci := 16) (q0 := 0) rfl rfl, (p_RW_at (tc := []) (wc := [(mo, .inr (16, [.int 0, .ref gl, .ref po, .ref pi, .ref bu, .ref pa, .int 0, .int 0, .int 40, .int 0, .null, .int 0, .int 0])), (gl, .inr (4, [.int 0, .ref G.1, .int 0]))]) hP hK hD hS hA hT hZ [0, 1] [] rfl rfl (by decide) rfl [.ref mo, .int (xs (1 : Int32).toNatClampNeg), .int (xs (2 : Int32).toNatClampNeg), .int (xs (3 : Int32).toNatClampNeg), .int (xs (4 : Int32).toNatClampNeg)])⟩ rfl rfl hl.1 rfl (lv_room (Nat.le_of_ble_eq_true rfl)) dL_law_304 ⟨(Nat.le_of_ble_eq_true rfl), (Nat.le_of_ble_eq_true rfl)⟩) hS (fun q _ h => hFc q h) hFc (fun r_834 u t H locs ht hvm w_835 hB hz1 hk1 hS => ?_)
      obtain ⟨u_836, rfl⟩ : ∃ z, z = u := ⟨_, rfl⟩
      obtain ⟨hP, hD, hK⟩ := q_join (D := D) (wc := [(mo, .inr (16, [.int 0, .ref gl, .ref po, .ref pi, .ref bu, .ref pa, .int 0, .int 0, .int 40, .int 0, .null, .int 0, .int 0])), (gl, .inr (4, [.int 0, .ref G.1, .int 0]))]) (wr := [(ou, .inl (cJ, 1, .inr (.inl u_813)))]) (w1 := [(mo, .inr (16, [.int u_836, .ref gl, .ref po, .ref pi, .ref bu, .ref pa, .int 0, .int 0, .int 40, .int 0, .null, .int 0, .int 0]))]) (tyr := [(cg, .object "Gatherhouse$Glass"), (cJ, .long)]) (ty1 := []) hP hD hK [0, 1] [2] [0, 1] rfl rfl (by decide) (by decide) rfl hFc hk1 ht hvm hB
      have hP : va_P D vwCl [(ou, .inl (cJ, 1, .inr (.inl u_813))), (mo, .inr (16, [.int u_836, .ref gl, .ref po, .ref pi, .ref bu, .ref pa, .int 0, .int 0, .int 40, .int 0, .null, .int 0, .int 0]))] H := hP
      have hD : va_D A [(ou, .inl (cJ, 1, .inr (.inl u_813))), (mo, .inr (16, [.int u_836, .ref gl, .ref po, .ref pi, .ref bu, .ref pa, .int 0, .int 0, .int 40, .int 0, .null, .int 0, .int 0]))] := hD
      have hK : va_K D vwCl [(cg, .object "Gatherhouse$Glass"), (cJ, .long)] s := hK
      refine W.widen (k := 67) (n := 342) (Nat.le_of_ble_eq_true rfl) (Nat.le_of_ble_eq_true rfl) ?_
      rcases w_835 with ⟨c_837, rfl, rfl⟩ | ⟨c_838, rfl, rfl⟩
      · exact absurd c_837 c_816
      · refine lv_istore (lv' := [(7, .int 0), (6, .int 1), (5, .int 0), (4, .ref od), (3, .ref ou), (2, .ref mo), (1, .ref xo), (0, .ref b)]) hx hb dL_law_307 hl (by decide) rfl (fun ls hl => ?_)
        refine lv_aload_n hx hb dL_law_309 rfl (lv_at hl 5 rfl) ?_
        refine vp_callSi (va_runV (As := []) (rest := []) ⟨hx, hb, hml, hown, hts⟩ (zc_X11_thrown l D G mo gl po pi bu pa 1 0 0 40) (cwV 0 hts gzL_law_X11_thrown_165 rfl rfl rfl (by decide +kernel) ⟨(Nat.le_of_ble_eq_true rfl), (Nat.le_of_ble_eq_true rfl)⟩) ⟨p_RO_blind, va_recv hK hP (ci := 16) (q0 := 1) rfl rfl, (p_RO_at (tc := []) (wc := [(mo, .inr (16, [.int 1, .ref gl, .ref po, .ref pi, .ref bu, .ref pa, .int 0, .int 0, .int 40, .int 0, .null, .int 0, .int 0]))]) hP hK hT [1] [] rfl rfl [.ref mo])⟩ rfl rfl hl.1 rfl (lv_room (Nat.le_of_ble_eq_true rfl)) dL_law_310 ⟨(Nat.le_of_ble_eq_true rfl), (Nat.le_of_ble_eq_true rfl)⟩).run (fun r_839 w_840 => ?_)
        obtain rfl := w_840
        refine lv_iload hx hb dL_law_313 (lv_at hl 1 rfl) ?_
        refine lv_icmp_eq (tgt := 320) hx hb dL_law_315 (by decide) (fun _ => ?_) (fun cc => absurd (by decide) cc)
        refine lv_iload hx hb dL_law_320 (lv_at hl 1 rfl) ?_
        refine lv_if_ne (tgt := 337) hx hb dL_law_322 (by decide) (fun _ => ?_) (fun cc => absurd cc (by decide))
        refine lv_goto (tgt := 2999) hx hb dL_law_337 (by decide) ?_
        refine W.widen (k := 797152) (n := 6710780) (Nat.le_of_ble_eq_true rfl) (Nat.le_of_ble_eq_true rfl) ?_
        exact hE _ _ _ hS (lv_sub hl [7, 2] rfl)
theorem dL_law_340 : decode cL_law 340 = .ok (.aload_n 1, 1) := by decide +kernel
theorem dL_law_341 : decode cL_law 341 = .ok (.aload_n 0, 1) := by decide +kernel
theorem dL_law_342 : decode cL_law 342 = .ok (.iload 5, 2) := by decide +kernel
theorem dL_law_344 : decode cL_law 344 = .ok (.iconst 1, 1) := by decide +kernel
theorem dL_law_345 : decode cL_law 345 = .ok (.iadd, 1) := by decide +kernel
theorem dL_law_346 : decode cL_law 346 = .ok (.iaload, 1) := by decide +kernel
theorem dL_law_347 : decode cL_law 347 = .ok (.aload_n 0, 1) := by decide +kernel
theorem dL_law_348 : decode cL_law 348 = .ok (.iload 5, 2) := by decide +kernel
theorem dL_law_350 : decode cL_law 350 = .ok (.iconst 2, 1) := by decide +kernel
theorem dL_law_351 : decode cL_law 351 = .ok (.iadd, 1) := by decide +kernel
theorem dL_law_352 : decode cL_law 352 = .ok (.iaload, 1) := by decide +kernel
theorem dL_law_353 : decode cL_law 353 = .ok (.aload_n 3, 1) := by decide +kernel
theorem dL_law_354 : decode cL_law 354 = .ok (.invokestatic 169, 3) := by decide +kernel
theorem dL_law_357 : decode cL_law 357 = .ok (.istore 6, 2) := by decide +kernel
theorem dL_law_359 : decode cL_law 359 = .ok (.aload_n 2, 1) := by decide +kernel
theorem dL_law_360 : decode cL_law 360 = .ok (.aload_n 0, 1) := by decide +kernel
theorem dL_law_361 : decode cL_law 361 = .ok (.iload 5, 2) := by decide +kernel
theorem dL_law_363 : decode cL_law 363 = .ok (.iconst 1, 1) := by decide +kernel
theorem dL_law_364 : decode cL_law 364 = .ok (.iadd, 1) := by decide +kernel
theorem dL_law_365 : decode cL_law 365 = .ok (.iaload, 1) := by decide +kernel
theorem dL_law_366 : decode cL_law 366 = .ok (.aload_n 0, 1) := by decide +kernel
theorem dL_law_367 : decode cL_law 367 = .ok (.iload 5, 2) := by decide +kernel
theorem dL_law_369 : decode cL_law 369 = .ok (.iconst 2, 1) := by decide +kernel
theorem dL_law_370 : decode cL_law 370 = .ok (.iadd, 1) := by decide +kernel
theorem dL_law_371 : decode cL_law 371 = .ok (.iaload, 1) := by decide +kernel
theorem dL_law_372 : decode cL_law 372 = .ok (.invokevirtual 172, 3) := by decide +kernel
theorem dL_law_375 : decode cL_law 375 = .ok (.istore 7, 2) := by decide +kernel
theorem dL_law_377 : decode cL_law 377 = .ok (.aload_n 2, 1) := by decide +kernel
theorem dL_law_378 : decode cL_law 378 = .ok (.invokevirtual 165, 3) := by decide +kernel
theorem dL_law_381 : decode cL_law 381 = .ok (.iload 6, 2) := by decide +kernel
theorem dL_law_383 : decode cL_law 383 = .ok (.if_icmp .eq 5, 3) := by decide +kernel
theorem dL_law_388 : decode cL_law 388 = .ok (.iload 6, 2) := by decide +kernel
theorem dL_law_390 : decode cL_law 390 = .ok (.ifCond .ne 22, 3) := by decide +kernel
theorem dL_law_412 : decode cL_law 412 = .ok (.goto 2587, 3) := by decide +kernel
set_option maxHeartbeats 4000000 in
set_option maxRecDepth 100000 in
theorem zl_1 {p : Program} {e : Env} {s : State} {m : MethodId} {below : List Frame} {meth : Method} {c : Code} {Q : State → Prop} {args : Array Value} (l : Launch) (hnt : l.stackTraces = false) (D : va_G) (G : Nat × Nat × Nat) (xo : Nat) (xg : Nat) (xp : Nat) (xq : Nat) (r1 : Nat) (r2 : Nat) (r3 : Nat) (r4 : Nat) (se : Nat) (n1 : Nat) (n2 : Nat) (n3 : Nat) (mo : Nat) (gl : Nat) (po : Nat) (pi : Nat) (bu : Nat) (pa : Nat) (ou : Nat) (od : Nat) (cg : ClassId) (cp : ClassId) (cq : ClassId) (ci : ClassId) (cj : ClassId) (cJ : ClassId) (cD : ClassId) {b L : Nat} {xs : Nat → Int32} {A : Nat → Prop} {H : Heap} {locs : List Loc} {ls : Array Slot} (hx : p.tables.exec = Jvm.exec) (hb : c.code = code) (hml : c.maxLocals = 9) (hown : s.vm.findClass RL = some m.cls) (hts : ∀ w ∈ wzL_law, w.before args s = true) (hT : FT G s) (hA : ∀ q : Nat, s.heap.size ≤ q → A q) (hZ : FZ G A s s.heap) (hX : va_X b L xs s s.heap) (hbl : b < s.heap.size) (hbA : ¬ A b) (hL : L = 5) (hK : va_K D vwCl [(cg, .object "Gatherhouse$Glass"), (cp, .object "Gatherhouse$Pot"), (cq, .object "Gatherhouse$Piece"), (ci, .int), (cj, .int), (cJ, .long), (cD, .double)] s) (hP : va_P D vwCl [(xo, .inr (11, [.ref xg, .int 0, .ref xp, .int 0, .ref xq, .int 0, .ref r1, .ref r2, .ref r3, .ref r4, .ref se, .int 0, .int 0, .int 40, .int 0, .int 0])), (xg, .inl (cg, 6, .inr (.inr (.inr (.inr (fun _ => none)))))), (xp, .inl (cp, 4, .inr (.inr (.inr (.inr (fun _ => none)))))), (xq, .inl (cq, 16, .inr (.inr (.inr (.inr (fun _ => none)))))), (r1, .inr (9, [.int 0, .int 0])), (r2, .inr (9, [.int 0, .int 0])), (r3, .inr (9, [.int 0, .int 0])), (r4, .inr (9, [.int 0, .int 0])), (se, .inr (10, [.ref n1, .ref n2, .ref n3, .int 0, .int 0, .int 0, .int 0])), (mo, .inr (16, [.int 0, .ref gl, .ref po, .ref pi, .ref bu, .ref pa, .int 0, .int 0, .int 40, .int 0, .null, .int 0, .int 0])), (gl, .inr (4, [.int 0, .ref G.1, .int 0])), (po, .inr (4, [.int 0, .ref G.1, .int 0])), (pi, .inr (4, [.int 0, .ref G.1, .int 0])), (bu, .inl (ci, 4, .inl (fun _ => 0))), (pa, .inl (cj, 4, .inl (fun _ => 0))), (ou, .inl (cJ, 1, .inr (.inl (fun _ => 0)))), (od, .inl (cD, 1, .inr (.inr (.inr (.inl (fun _ => 0))))))] H) (hD : va_D A [(xo, .inr (11, [.ref xg, .int 0, .ref xp, .int 0, .ref xq, .int 0, .ref r1, .ref r2, .ref r3, .ref r4, .ref se, .int 0, .int 0, .int 40, .int 0, .int 0])), (xg, .inl (cg, 6, .inr (.inr (.inr (.inr (fun _ => none)))))), (xp, .inl (cp, 4, .inr (.inr (.inr (.inr (fun _ => none)))))), (xq, .inl (cq, 16, .inr (.inr (.inr (.inr (fun _ => none)))))), (r1, .inr (9, [.int 0, .int 0])), (r2, .inr (9, [.int 0, .int 0])), (r3, .inr (9, [.int 0, .int 0])), (r4, .inr (9, [.int 0, .int 0])), (se, .inr (10, [.ref n1, .ref n2, .ref n3, .int 0, .int 0, .int 0, .int 0])), (mo, .inr (16, [.int 0, .ref gl, .ref po, .ref pi, .ref bu, .ref pa, .int 0, .int 0, .int 40, .int 0, .null, .int 0, .int 0])), (gl, .inr (4, [.int 0, .ref G.1, .int 0])), (po, .inr (4, [.int 0, .ref G.1, .int 0])), (pi, .inr (4, [.int 0, .ref G.1, .int 0])), (bu, .inl (ci, 4, .inl (fun _ => 0))), (pa, .inl (cj, 4, .inl (fun _ => 0))), (ou, .inl (cJ, 1, .inr (.inl (fun _ => 0)))), (od, .inl (cD, 1, .inr (.inr (.inr (.inl (fun _ => 0))))))]) (hS : va_S A s.heap H locs) (hl : lv_has ls 9 [(5, .int 0), (4, .ref od), (3, .ref ou), (2, .ref mo), (1, .ref xo), (0, .ref b)]) (hE : ∀ (H : Heap) (locs : List Loc) (ls : Array Slot), va_S A s.heap H locs → lv_has ls 9 [(0, .ref b), (5, .int 0)] → W p l e room_1 s m args below meth c H locs 797152 6710780 Q (F0 m 2999 ls [])) : W p l e room_1 s m args below meth c H locs 60 300 Q (F0 m 340 ls []) := by
  have hP := hP.sub (ws' := [(xo, .inr (11, [.ref xg, .int 0, .ref xp, .int 0, .ref xq, .int 0, .ref r1, .ref r2, .ref r3, .ref r4, .ref se, .int 0, .int 0, .int 40, .int 0, .int 0])), (xg, .inl (cg, 6, .inr (.inr (.inr (.inr (fun _ => none)))))), (mo, .inr (16, [.int 0, .ref gl, .ref po, .ref pi, .ref bu, .ref pa, .int 0, .int 0, .int 40, .int 0, .null, .int 0, .int 0])), (gl, .inr (4, [.int 0, .ref G.1, .int 0])), (ou, .inl (cJ, 1, .inr (.inl (fun _ => 0))))]) [0, 1, 9, 10, 15] rfl
  have hD := hD.sub (ws' := [(xo, .inr (11, [.ref xg, .int 0, .ref xp, .int 0, .ref xq, .int 0, .ref r1, .ref r2, .ref r3, .ref r4, .ref se, .int 0, .int 0, .int 40, .int 0, .int 0])), (xg, .inl (cg, 6, .inr (.inr (.inr (.inr (fun _ => none)))))), (mo, .inr (16, [.int 0, .ref gl, .ref po, .ref pi, .ref bu, .ref pa, .int 0, .int 0, .int 40, .int 0, .null, .int 0, .int 0])), (gl, .inr (4, [.int 0, .ref G.1, .int 0])), (ou, .inl (cJ, 1, .inr (.inl (fun _ => 0))))]) [0, 1, 9, 10, 15] (by decide) rfl
  have hK := hK.sub (tys' := [(cg, .object "Gatherhouse$Glass"), (cJ, .long)]) [0, 5] rfl
  refine lv_aload_n hx hb dL_law_340 rfl (lv_at hl 4 rfl) ?_
  refine lv_aload_n hx hb dL_law_341 rfl (lv_at hl 5 rfl) ?_
  refine lv_iload hx hb dL_law_342 (lv_at hl 0 rfl) ?_
  refine lv_iconst (v := 1) hx hb dL_law_344 (by decide) ?_
  refine lv_iadd hx hb dL_law_345 ?_
  refine lv_topi (fun y_841 ey_841 => ?_)
  have ey_841 : y_841 = 1 := ey_841.trans (by decide +kernel)
  subst ey_841
  refine va_sld hx hb hX hbl hbA hS (vp_in_iff.mpr (by rw [hL]; decide +kernel)) dL_law_346 ?_
  refine lv_aload_n hx hb dL_law_347 rfl (lv_at hl 5 rfl) ?_
  refine lv_iload hx hb dL_law_348 (lv_at hl 0 rfl) ?_
  refine lv_iconst (v := 2) hx hb dL_law_350 (by decide) ?_
  refine lv_iadd hx hb dL_law_351 ?_
  refine lv_topi (fun y_842 ey_842 => ?_)
  have ey_842 : y_842 = 2 := ey_842.trans (by decide +kernel)
  subst ey_842
  refine va_sld hx hb hX hbl hbA hS (vp_in_iff.mpr (by rw [hL]; decide +kernel)) dL_law_352 ?_
  refine lv_aload_n hx hb dL_law_353 rfl (lv_at hl 2 rfl) ?_
  have hFc := va_free (wc := [(xo, .inr (11, [.ref xg, .int 0, .ref xp, .int 0, .ref xq, .int 0, .ref r1, .ref r2, .ref r3, .ref r4, .ref se, .int 0, .int 0, .int 40, .int 0, .int 0])), (xg, .inl (cg, 6, .inr (.inr (.inr (.inr (fun _ => none)))))), (ou, .inl (cJ, 1, .inr (.inl (fun _ => 0))))]) hD hS hA [0, 1, 4] rfl
  refine vx_calli (vx_runSX (As := [.ref xo, .int (xs (1 : Int32).toNatClampNeg), .int (xs (2 : Int32).toNatClampNeg), .ref ou]) (rest := []) ⟨hx, hb, hml, hown, hts⟩ (zc_L_agree l hnt D G xo xg xp xq r1 r2 r3 r4 se 0 0 cg ou cJ (xs (1 : Int32).toNatClampNeg) (xs (2 : Int32).toNatClampNeg) H.size) (vx_cwSW 4 hts gzL_law_L_agree_169 rfl rfl rfl (by decide +kernel) ⟨(Nat.le_of_ble_eq_true rfl), (Nat.le_of_ble_eq_true rfl)⟩) ⟨p_RW_blind, (p_RW_at (tc := [(cg, .object "Gatherhouse$Glass"), (cJ, .long)]) (wc := [(xo, .inr (11, [.ref xg, .int 0, .ref xp, .int 0, .ref xq, .int 0, .ref r1, .ref r2, .ref r3, .ref r4, .ref se, .int 0, .int 0, .int 40, .int 0, .int 0])), (xg, .inl (cg, 6, .inr (.inr (.inr (.inr (fun _ => none)))))), (ou, .inl (cJ, 1, .inr (.inl (fun _ => 0))))]) hP hK hD hS hA hT hZ [0, 1, 4] [0, 1] rfl rfl (by decide) rfl [.ref xo, .int (xs (1 : Int32).toNatClampNeg), .int (xs (2 : Int32).toNatClampNeg), .ref ou])⟩ rfl rfl hl.1 rfl (lv_room (Nat.le_of_ble_eq_true rfl)) dL_law_354 ⟨(Nat.le_of_ble_eq_true rfl), (Nat.le_of_ble_eq_true rfl)⟩) hS (fun q _ h => hFc q h) hFc (fun q _ h => hFc q h) (fun E ce q9 u t H locs ht hvm hpx hBX hz1 hk1 hS hce hcv hcl => ?_) (fun r_843 u t H locs ht hvm w_844 hB hz1 hk1 hS => ?_)
  · exact (show False from hBX).elim
  · obtain ⟨hP, hD, hK⟩ := q_join (D := D) (wc := [(xo, .inr (11, [.ref xg, .int 0, .ref xp, .int 0, .ref xq, .int 0, .ref r1, .ref r2, .ref r3, .ref r4, .ref se, .int 0, .int 0, .int 40, .int 0, .int 0])), (xg, .inl (cg, 6, .inr (.inr (.inr (.inr (fun _ => none)))))), (ou, .inl (cJ, 1, .inr (.inl (fun _ => 0))))]) (wr := [(mo, .inr (16, [.int 0, .ref gl, .ref po, .ref pi, .ref bu, .ref pa, .int 0, .int 0, .int 40, .int 0, .null, .int 0, .int 0])), (gl, .inr (4, [.int 0, .ref G.1, .int 0]))]) (w1 := []) (tyr := [(cg, .object "Gatherhouse$Glass"), (cJ, .long)]) (ty1 := []) hP hD hK [0, 1, 4] [2, 3] [0, 1] rfl rfl (by decide) (by decide) rfl hFc hk1 ht hvm (q_none hK hvm)
    have hP : va_P D vwCl [(mo, .inr (16, [.int 0, .ref gl, .ref po, .ref pi, .ref bu, .ref pa, .int 0, .int 0, .int 40, .int 0, .null, .int 0, .int 0])), (gl, .inr (4, [.int 0, .ref G.1, .int 0]))] H := hP
    have hD : va_D A [(mo, .inr (16, [.int 0, .ref gl, .ref po, .ref pi, .ref bu, .ref pa, .int 0, .int 0, .int 40, .int 0, .null, .int 0, .int 0])), (gl, .inr (4, [.int 0, .ref G.1, .int 0]))] := hD
    have hK : va_K D vwCl [(cg, .object "Gatherhouse$Glass"), (cJ, .long)] s := hK
    refine W.widen (k := 61) (n := 306) (Nat.le_of_ble_eq_true rfl) (Nat.le_of_ble_eq_true rfl) ?_
    obtain rfl := w_844
    refine lv_istore (lv' := [(6, .int 1), (5, .int 0), (4, .ref od), (3, .ref ou), (2, .ref mo), (1, .ref xo), (0, .ref b)]) hx hb dL_law_357 hl (by decide) rfl (fun ls hl => ?_)
    refine lv_aload_n hx hb dL_law_359 rfl (lv_at hl 4 rfl) ?_
    refine lv_aload_n hx hb dL_law_360 rfl (lv_at hl 6 rfl) ?_
    refine lv_iload hx hb dL_law_361 (lv_at hl 1 rfl) ?_
    refine lv_iconst (v := 1) hx hb dL_law_363 (by decide) ?_
    refine lv_iadd hx hb dL_law_364 ?_
    refine lv_topi (fun y_845 ey_845 => ?_)
    have ey_845 : y_845 = 1 := ey_845.trans (by decide +kernel)
    subst ey_845
    refine va_sld hx hb hX hbl hbA hS (vp_in_iff.mpr (by rw [hL]; decide +kernel)) dL_law_365 ?_
    refine lv_aload_n hx hb dL_law_366 rfl (lv_at hl 6 rfl) ?_
    refine lv_iload hx hb dL_law_367 (lv_at hl 1 rfl) ?_
    refine lv_iconst (v := 2) hx hb dL_law_369 (by decide) ?_
    refine lv_iadd hx hb dL_law_370 ?_
    refine lv_topi (fun y_846 ey_846 => ?_)
    have ey_846 : y_846 = 2 := ey_846.trans (by decide +kernel)
    subst ey_846
    refine va_sld hx hb hX hbl hbA hS (vp_in_iff.mpr (by rw [hL]; decide +kernel)) dL_law_371 ?_
    have hFc := va_free (wc := [(mo, .inr (16, [.int 0, .ref gl, .ref po, .ref pi, .ref bu, .ref pa, .int 0, .int 0, .int 40, .int 0, .null, .int 0, .int 0])), (gl, .inr (4, [.int 0, .ref G.1, .int 0]))]) hD hS hA [0, 1] rfl
    refine va_calli (va_runV (As := [.int (xs (1 : Int32).toNatClampNeg), .int (xs (2 : Int32).toNatClampNeg)]) (rest := []) ⟨hx, hb, hml, hown, hts⟩ (zc_X11_agree l D G mo gl po pi bu pa 0 0 0 (xs (1 : Int32).toNatClampNeg) (xs (2 : Int32).toNatClampNeg) H.size) (cwV 2 hts gzL_law_X11_agree_172 rfl rfl rfl (by decide +kernel) ⟨(Nat.le_of_ble_eq_true rfl), (Nat.le_of_ble_eq_true rfl)⟩) ⟨p_RW_blind, va_recv hK hP (ci := 16) (q0 := 0) rfl rfl, (p_RW_at (tc := []) (wc := [(mo, .inr (16, [.int 0, .ref gl, .ref po, .ref pi, .ref bu, .ref pa, .int 0, .int 0, .int 40, .int 0, .null, .int 0, .int 0])), (gl, .inr (4, [.int 0, .ref G.1, .int 0]))]) hP hK hD hS hA hT hZ [0, 1] [] rfl rfl (by decide) rfl [.ref mo, .int (xs (1 : Int32).toNatClampNeg), .int (xs (2 : Int32).toNatClampNeg)])⟩ rfl rfl hl.1 rfl (lv_room (Nat.le_of_ble_eq_true rfl)) dL_law_372 ⟨(Nat.le_of_ble_eq_true rfl), (Nat.le_of_ble_eq_true rfl)⟩) hS (fun q _ h => hFc q h) hFc (fun r_847 u t H locs ht hvm w_848 hB hz1 hk1 hS => ?_)
    obtain ⟨hP, hD, hK⟩ := q_join (D := D) (wc := [(mo, .inr (16, [.int 0, .ref gl, .ref po, .ref pi, .ref bu, .ref pa, .int 0, .int 0, .int 40, .int 0, .null, .int 0, .int 0])), (gl, .inr (4, [.int 0, .ref G.1, .int 0]))]) (wr := []) (w1 := [(mo, .inr (16, [.int 1, .ref gl, .ref po, .ref pi, .ref bu, .ref pa, .int 0, .int 0, .int 40, .int 0, .null, .int 0, .int 0])), (gl, .inr (4, [.int 0, .ref G.1, .int 0]))]) (tyr := [(cg, .object "Gatherhouse$Glass"), (cJ, .long)]) (ty1 := []) hP hD hK [0, 1] [] [0, 1] rfl rfl (by decide) (by decide) rfl hFc hk1 ht hvm hB
    have hP : va_P D vwCl [(mo, .inr (16, [.int 1, .ref gl, .ref po, .ref pi, .ref bu, .ref pa, .int 0, .int 0, .int 40, .int 0, .null, .int 0, .int 0])), (gl, .inr (4, [.int 0, .ref G.1, .int 0]))] H := hP
    have hD : va_D A [(mo, .inr (16, [.int 1, .ref gl, .ref po, .ref pi, .ref bu, .ref pa, .int 0, .int 0, .int 40, .int 0, .null, .int 0, .int 0])), (gl, .inr (4, [.int 0, .ref G.1, .int 0]))] := hD
    have hK : va_K D vwCl [(cg, .object "Gatherhouse$Glass"), (cJ, .long)] s := hK
    obtain rfl := w_848
    refine lv_istore (lv' := [(7, .int 0), (6, .int 1), (5, .int 0), (4, .ref od), (3, .ref ou), (2, .ref mo), (1, .ref xo), (0, .ref b)]) hx hb dL_law_375 hl (by decide) rfl (fun ls hl => ?_)
    refine lv_aload_n hx hb dL_law_377 rfl (lv_at hl 5 rfl) ?_
    refine vp_callSi (va_runV (As := []) (rest := []) ⟨hx, hb, hml, hown, hts⟩ (zc_X11_thrown l D G mo gl po pi bu pa 1 0 0 40) (cwV 0 hts gzL_law_X11_thrown_165 rfl rfl rfl (by decide +kernel) ⟨(Nat.le_of_ble_eq_true rfl), (Nat.le_of_ble_eq_true rfl)⟩) ⟨p_RO_blind, va_recv hK hP (ci := 16) (q0 := 0) rfl rfl, (p_RO_at (tc := []) (wc := [(mo, .inr (16, [.int 1, .ref gl, .ref po, .ref pi, .ref bu, .ref pa, .int 0, .int 0, .int 40, .int 0, .null, .int 0, .int 0]))]) hP hK hT [0] [] rfl rfl [.ref mo])⟩ rfl rfl hl.1 rfl (lv_room (Nat.le_of_ble_eq_true rfl)) dL_law_378 ⟨(Nat.le_of_ble_eq_true rfl), (Nat.le_of_ble_eq_true rfl)⟩).run (fun r_849 w_850 => ?_)
    obtain rfl := w_850
    refine lv_iload hx hb dL_law_381 (lv_at hl 1 rfl) ?_
    refine lv_icmp_eq (tgt := 388) hx hb dL_law_383 (by decide) (fun _ => ?_) (fun cc => absurd (by decide) cc)
    refine lv_iload hx hb dL_law_388 (lv_at hl 1 rfl) ?_
    refine lv_if_ne (tgt := 412) hx hb dL_law_390 (by decide) (fun _ => ?_) (fun cc => absurd cc (by decide))
    refine lv_goto (tgt := 2999) hx hb dL_law_412 (by decide) ?_
    refine W.widen (k := 797152) (n := 6710780) (Nat.le_of_ble_eq_true rfl) (Nat.le_of_ble_eq_true rfl) ?_
    exact hE _ _ _ hS (lv_sub hl [7, 2] rfl)
theorem dL_law_415 : decode cL_law 415 = .ok (.aload_n 1, 1) := by decide +kernel
theorem dL_law_416 : decode cL_law 416 = .ok (.aload_n 0, 1) := by decide +kernel
theorem dL_law_417 : decode cL_law 417 = .ok (.iload 5, 2) := by decide +kernel
theorem dL_law_419 : decode cL_law 419 = .ok (.iconst 1, 1) := by decide +kernel
theorem dL_law_420 : decode cL_law 420 = .ok (.iadd, 1) := by decide +kernel
theorem dL_law_421 : decode cL_law 421 = .ok (.iaload, 1) := by decide +kernel
theorem dL_law_422 : decode cL_law 422 = .ok (.aload_n 3, 1) := by decide +kernel
theorem dL_law_423 : decode cL_law 423 = .ok (.invokestatic 173, 3) := by decide +kernel
theorem dL_law_426 : decode cL_law 426 = .ok (.istore 6, 2) := by decide +kernel
theorem dL_law_428 : decode cL_law 428 = .ok (.aload_n 2, 1) := by decide +kernel
theorem dL_law_429 : decode cL_law 429 = .ok (.aload_n 0, 1) := by decide +kernel
theorem dL_law_430 : decode cL_law 430 = .ok (.iload 5, 2) := by decide +kernel
theorem dL_law_432 : decode cL_law 432 = .ok (.iconst 1, 1) := by decide +kernel
theorem dL_law_433 : decode cL_law 433 = .ok (.iadd, 1) := by decide +kernel
theorem dL_law_434 : decode cL_law 434 = .ok (.iaload, 1) := by decide +kernel
theorem dL_law_435 : decode cL_law 435 = .ok (.invokevirtual 176, 3) := by decide +kernel
theorem dL_law_438 : decode cL_law 438 = .ok (.istore 7, 2) := by decide +kernel
theorem dL_law_440 : decode cL_law 440 = .ok (.aload_n 2, 1) := by decide +kernel
theorem dL_law_441 : decode cL_law 441 = .ok (.invokevirtual 165, 3) := by decide +kernel
theorem dL_law_444 : decode cL_law 444 = .ok (.iload 6, 2) := by decide +kernel
theorem dL_law_446 : decode cL_law 446 = .ok (.if_icmp .eq 5, 3) := by decide +kernel
theorem dL_law_451 : decode cL_law 451 = .ok (.iload 6, 2) := by decide +kernel
theorem dL_law_453 : decode cL_law 453 = .ok (.ifCond .ne 15, 3) := by decide +kernel
theorem dL_law_468 : decode cL_law 468 = .ok (.goto 2531, 3) := by decide +kernel
set_option maxHeartbeats 4000000 in
set_option maxRecDepth 100000 in
theorem zl_2 {p : Program} {e : Env} {s : State} {m : MethodId} {below : List Frame} {meth : Method} {c : Code} {Q : State → Prop} {args : Array Value} (l : Launch) (hnt : l.stackTraces = false) (D : va_G) (G : Nat × Nat × Nat) (xo : Nat) (xg : Nat) (xp : Nat) (xq : Nat) (r1 : Nat) (r2 : Nat) (r3 : Nat) (r4 : Nat) (se : Nat) (n1 : Nat) (n2 : Nat) (n3 : Nat) (mo : Nat) (gl : Nat) (po : Nat) (pi : Nat) (bu : Nat) (pa : Nat) (ou : Nat) (od : Nat) (cg : ClassId) (cp : ClassId) (cq : ClassId) (ci : ClassId) (cj : ClassId) (cJ : ClassId) (cD : ClassId) {b L : Nat} {xs : Nat → Int32} {A : Nat → Prop} {H : Heap} {locs : List Loc} {ls : Array Slot} (hx : p.tables.exec = Jvm.exec) (hb : c.code = code) (hml : c.maxLocals = 9) (hown : s.vm.findClass RL = some m.cls) (hts : ∀ w ∈ wzL_law, w.before args s = true) (hT : FT G s) (hA : ∀ q : Nat, s.heap.size ≤ q → A q) (hZ : FZ G A s s.heap) (hX : va_X b L xs s s.heap) (hbl : b < s.heap.size) (hbA : ¬ A b) (hL : L = 5) (hK : va_K D vwCl [(cg, .object "Gatherhouse$Glass"), (cp, .object "Gatherhouse$Pot"), (cq, .object "Gatherhouse$Piece"), (ci, .int), (cj, .int), (cJ, .long), (cD, .double)] s) (hP : va_P D vwCl [(xo, .inr (11, [.ref xg, .int 0, .ref xp, .int 0, .ref xq, .int 0, .ref r1, .ref r2, .ref r3, .ref r4, .ref se, .int 0, .int 0, .int 40, .int 0, .int 0])), (xg, .inl (cg, 6, .inr (.inr (.inr (.inr (fun _ => none)))))), (xp, .inl (cp, 4, .inr (.inr (.inr (.inr (fun _ => none)))))), (xq, .inl (cq, 16, .inr (.inr (.inr (.inr (fun _ => none)))))), (r1, .inr (9, [.int 0, .int 0])), (r2, .inr (9, [.int 0, .int 0])), (r3, .inr (9, [.int 0, .int 0])), (r4, .inr (9, [.int 0, .int 0])), (se, .inr (10, [.ref n1, .ref n2, .ref n3, .int 0, .int 0, .int 0, .int 0])), (mo, .inr (16, [.int 0, .ref gl, .ref po, .ref pi, .ref bu, .ref pa, .int 0, .int 0, .int 40, .int 0, .null, .int 0, .int 0])), (gl, .inr (4, [.int 0, .ref G.1, .int 0])), (po, .inr (4, [.int 0, .ref G.1, .int 0])), (pi, .inr (4, [.int 0, .ref G.1, .int 0])), (bu, .inl (ci, 4, .inl (fun _ => 0))), (pa, .inl (cj, 4, .inl (fun _ => 0))), (ou, .inl (cJ, 1, .inr (.inl (fun _ => 0)))), (od, .inl (cD, 1, .inr (.inr (.inr (.inl (fun _ => 0))))))] H) (hD : va_D A [(xo, .inr (11, [.ref xg, .int 0, .ref xp, .int 0, .ref xq, .int 0, .ref r1, .ref r2, .ref r3, .ref r4, .ref se, .int 0, .int 0, .int 40, .int 0, .int 0])), (xg, .inl (cg, 6, .inr (.inr (.inr (.inr (fun _ => none)))))), (xp, .inl (cp, 4, .inr (.inr (.inr (.inr (fun _ => none)))))), (xq, .inl (cq, 16, .inr (.inr (.inr (.inr (fun _ => none)))))), (r1, .inr (9, [.int 0, .int 0])), (r2, .inr (9, [.int 0, .int 0])), (r3, .inr (9, [.int 0, .int 0])), (r4, .inr (9, [.int 0, .int 0])), (se, .inr (10, [.ref n1, .ref n2, .ref n3, .int 0, .int 0, .int 0, .int 0])), (mo, .inr (16, [.int 0, .ref gl, .ref po, .ref pi, .ref bu, .ref pa, .int 0, .int 0, .int 40, .int 0, .null, .int 0, .int 0])), (gl, .inr (4, [.int 0, .ref G.1, .int 0])), (po, .inr (4, [.int 0, .ref G.1, .int 0])), (pi, .inr (4, [.int 0, .ref G.1, .int 0])), (bu, .inl (ci, 4, .inl (fun _ => 0))), (pa, .inl (cj, 4, .inl (fun _ => 0))), (ou, .inl (cJ, 1, .inr (.inl (fun _ => 0)))), (od, .inl (cD, 1, .inr (.inr (.inr (.inl (fun _ => 0))))))]) (hS : va_S A s.heap H locs) (hl : lv_has ls 9 [(5, .int 0), (4, .ref od), (3, .ref ou), (2, .ref mo), (1, .ref xo), (0, .ref b)]) (hE : ∀ (H : Heap) (locs : List Loc) (ls : Array Slot), va_S A s.heap H locs → lv_has ls 9 [(0, .ref b), (5, .int 0)] → W p l e room_1 s m args below meth c H locs 797152 6710780 Q (F0 m 2999 ls [])) : W p l e room_1 s m args below meth c H locs 60 300 Q (F0 m 415 ls []) := by
  have hP := hP.sub (ws' := [(xo, .inr (11, [.ref xg, .int 0, .ref xp, .int 0, .ref xq, .int 0, .ref r1, .ref r2, .ref r3, .ref r4, .ref se, .int 0, .int 0, .int 40, .int 0, .int 0])), (xg, .inl (cg, 6, .inr (.inr (.inr (.inr (fun _ => none)))))), (mo, .inr (16, [.int 0, .ref gl, .ref po, .ref pi, .ref bu, .ref pa, .int 0, .int 0, .int 40, .int 0, .null, .int 0, .int 0])), (gl, .inr (4, [.int 0, .ref G.1, .int 0])), (ou, .inl (cJ, 1, .inr (.inl (fun _ => 0))))]) [0, 1, 9, 10, 15] rfl
  have hD := hD.sub (ws' := [(xo, .inr (11, [.ref xg, .int 0, .ref xp, .int 0, .ref xq, .int 0, .ref r1, .ref r2, .ref r3, .ref r4, .ref se, .int 0, .int 0, .int 40, .int 0, .int 0])), (xg, .inl (cg, 6, .inr (.inr (.inr (.inr (fun _ => none)))))), (mo, .inr (16, [.int 0, .ref gl, .ref po, .ref pi, .ref bu, .ref pa, .int 0, .int 0, .int 40, .int 0, .null, .int 0, .int 0])), (gl, .inr (4, [.int 0, .ref G.1, .int 0])), (ou, .inl (cJ, 1, .inr (.inl (fun _ => 0))))]) [0, 1, 9, 10, 15] (by decide) rfl
  have hK := hK.sub (tys' := [(cg, .object "Gatherhouse$Glass"), (cJ, .long)]) [0, 5] rfl
  refine lv_aload_n hx hb dL_law_415 rfl (lv_at hl 4 rfl) ?_
  refine lv_aload_n hx hb dL_law_416 rfl (lv_at hl 5 rfl) ?_
  refine lv_iload hx hb dL_law_417 (lv_at hl 0 rfl) ?_
  refine lv_iconst (v := 1) hx hb dL_law_419 (by decide) ?_
  refine lv_iadd hx hb dL_law_420 ?_
  refine lv_topi (fun y_851 ey_851 => ?_)
  have ey_851 : y_851 = 1 := ey_851.trans (by decide +kernel)
  subst ey_851
  refine va_sld hx hb hX hbl hbA hS (vp_in_iff.mpr (by rw [hL]; decide +kernel)) dL_law_421 ?_
  refine lv_aload_n hx hb dL_law_422 rfl (lv_at hl 2 rfl) ?_
  have hFc := va_free (wc := [(xo, .inr (11, [.ref xg, .int 0, .ref xp, .int 0, .ref xq, .int 0, .ref r1, .ref r2, .ref r3, .ref r4, .ref se, .int 0, .int 0, .int 40, .int 0, .int 0])), (xg, .inl (cg, 6, .inr (.inr (.inr (.inr (fun _ => none)))))), (ou, .inl (cJ, 1, .inr (.inl (fun _ => 0))))]) hD hS hA [0, 1, 4] rfl
  refine vx_calli (vx_runSX (As := [.ref xo, .int (xs (1 : Int32).toNatClampNeg), .ref ou]) (rest := []) ⟨hx, hb, hml, hown, hts⟩ (zc_L_pot l hnt D G xo xg xp xq r1 r2 r3 r4 se 0 0 cg ou cJ (xs (1 : Int32).toNatClampNeg) H.size) (vx_cwSW 3 hts gzL_law_L_pot_173 rfl rfl rfl (by decide +kernel) ⟨(Nat.le_of_ble_eq_true rfl), (Nat.le_of_ble_eq_true rfl)⟩) ⟨p_RW_blind, (p_RW_at (tc := [(cg, .object "Gatherhouse$Glass"), (cJ, .long)]) (wc := [(xo, .inr (11, [.ref xg, .int 0, .ref xp, .int 0, .ref xq, .int 0, .ref r1, .ref r2, .ref r3, .ref r4, .ref se, .int 0, .int 0, .int 40, .int 0, .int 0])), (xg, .inl (cg, 6, .inr (.inr (.inr (.inr (fun _ => none)))))), (ou, .inl (cJ, 1, .inr (.inl (fun _ => 0))))]) hP hK hD hS hA hT hZ [0, 1, 4] [0, 1] rfl rfl (by decide) rfl [.ref xo, .int (xs (1 : Int32).toNatClampNeg), .ref ou])⟩ rfl rfl hl.1 rfl (lv_room (Nat.le_of_ble_eq_true rfl)) dL_law_423 ⟨(Nat.le_of_ble_eq_true rfl), (Nat.le_of_ble_eq_true rfl)⟩) hS (fun q _ h => hFc q h) hFc (fun q _ h => hFc q h) (fun E ce q9 u t H locs ht hvm hpx hBX hz1 hk1 hS hce hcv hcl => ?_) (fun r_852 u t H locs ht hvm w_853 hB hz1 hk1 hS => ?_)
  · exact (show False from hBX).elim
  · obtain ⟨hP, hD, hK⟩ := q_join (D := D) (wc := [(xo, .inr (11, [.ref xg, .int 0, .ref xp, .int 0, .ref xq, .int 0, .ref r1, .ref r2, .ref r3, .ref r4, .ref se, .int 0, .int 0, .int 40, .int 0, .int 0])), (xg, .inl (cg, 6, .inr (.inr (.inr (.inr (fun _ => none)))))), (ou, .inl (cJ, 1, .inr (.inl (fun _ => 0))))]) (wr := [(mo, .inr (16, [.int 0, .ref gl, .ref po, .ref pi, .ref bu, .ref pa, .int 0, .int 0, .int 40, .int 0, .null, .int 0, .int 0])), (gl, .inr (4, [.int 0, .ref G.1, .int 0]))]) (w1 := []) (tyr := [(cg, .object "Gatherhouse$Glass"), (cJ, .long)]) (ty1 := []) hP hD hK [0, 1, 4] [2, 3] [0, 1] rfl rfl (by decide) (by decide) rfl hFc hk1 ht hvm (q_none hK hvm)
    have hP : va_P D vwCl [(mo, .inr (16, [.int 0, .ref gl, .ref po, .ref pi, .ref bu, .ref pa, .int 0, .int 0, .int 40, .int 0, .null, .int 0, .int 0])), (gl, .inr (4, [.int 0, .ref G.1, .int 0]))] H := hP
    have hD : va_D A [(mo, .inr (16, [.int 0, .ref gl, .ref po, .ref pi, .ref bu, .ref pa, .int 0, .int 0, .int 40, .int 0, .null, .int 0, .int 0])), (gl, .inr (4, [.int 0, .ref G.1, .int 0]))] := hD
    have hK : va_K D vwCl [(cg, .object "Gatherhouse$Glass"), (cJ, .long)] s := hK
    refine W.widen (k := 61) (n := 306) (Nat.le_of_ble_eq_true rfl) (Nat.le_of_ble_eq_true rfl) ?_
    obtain rfl := w_853
    refine lv_istore (lv' := [(6, .int 1), (5, .int 0), (4, .ref od), (3, .ref ou), (2, .ref mo), (1, .ref xo), (0, .ref b)]) hx hb dL_law_426 hl (by decide) rfl (fun ls hl => ?_)
    refine lv_aload_n hx hb dL_law_428 rfl (lv_at hl 4 rfl) ?_
    refine lv_aload_n hx hb dL_law_429 rfl (lv_at hl 6 rfl) ?_
    refine lv_iload hx hb dL_law_430 (lv_at hl 1 rfl) ?_
    refine lv_iconst (v := 1) hx hb dL_law_432 (by decide) ?_
    refine lv_iadd hx hb dL_law_433 ?_
    refine lv_topi (fun y_854 ey_854 => ?_)
    have ey_854 : y_854 = 1 := ey_854.trans (by decide +kernel)
    subst ey_854
    refine va_sld hx hb hX hbl hbA hS (vp_in_iff.mpr (by rw [hL]; decide +kernel)) dL_law_434 ?_
    have hFc := va_free (wc := [(mo, .inr (16, [.int 0, .ref gl, .ref po, .ref pi, .ref bu, .ref pa, .int 0, .int 0, .int 40, .int 0, .null, .int 0, .int 0])), (gl, .inr (4, [.int 0, .ref G.1, .int 0]))]) hD hS hA [0, 1] rfl
    refine va_calli (va_runV (As := [.int (xs (1 : Int32).toNatClampNeg)]) (rest := []) ⟨hx, hb, hml, hown, hts⟩ (zc_X11_pot l D G mo gl po pi bu pa 0 0 0 (xs (1 : Int32).toNatClampNeg) H.size) (cwV 1 hts gzL_law_X11_pot_176 rfl rfl rfl (by decide +kernel) ⟨(Nat.le_of_ble_eq_true rfl), (Nat.le_of_ble_eq_true rfl)⟩) ⟨p_RW_blind, va_recv hK hP (ci := 16) (q0 := 0) rfl rfl, (p_RW_at (tc := []) (wc := [(mo, .inr (16, [.int 0, .ref gl, .ref po, .ref pi, .ref bu, .ref pa, .int 0, .int 0, .int 40, .int 0, .null, .int 0, .int 0])), (gl, .inr (4, [.int 0, .ref G.1, .int 0]))]) hP hK hD hS hA hT hZ [0, 1] [] rfl rfl (by decide) rfl [.ref mo, .int (xs (1 : Int32).toNatClampNeg)])⟩ rfl rfl hl.1 rfl (lv_room (Nat.le_of_ble_eq_true rfl)) dL_law_435 ⟨(Nat.le_of_ble_eq_true rfl), (Nat.le_of_ble_eq_true rfl)⟩) hS (fun q _ h => hFc q h) hFc (fun r_855 u t H locs ht hvm w_856 hB hz1 hk1 hS => ?_)
    obtain ⟨hP, hD, hK⟩ := q_join (D := D) (wc := [(mo, .inr (16, [.int 0, .ref gl, .ref po, .ref pi, .ref bu, .ref pa, .int 0, .int 0, .int 40, .int 0, .null, .int 0, .int 0])), (gl, .inr (4, [.int 0, .ref G.1, .int 0]))]) (wr := []) (w1 := [(mo, .inr (16, [.int 1, .ref gl, .ref po, .ref pi, .ref bu, .ref pa, .int 0, .int 0, .int 40, .int 0, .null, .int 0, .int 0])), (gl, .inr (4, [.int 0, .ref G.1, .int 0]))]) (tyr := [(cg, .object "Gatherhouse$Glass"), (cJ, .long)]) (ty1 := []) hP hD hK [0, 1] [] [0, 1] rfl rfl (by decide) (by decide) rfl hFc hk1 ht hvm hB
    have hP : va_P D vwCl [(mo, .inr (16, [.int 1, .ref gl, .ref po, .ref pi, .ref bu, .ref pa, .int 0, .int 0, .int 40, .int 0, .null, .int 0, .int 0])), (gl, .inr (4, [.int 0, .ref G.1, .int 0]))] H := hP
    have hD : va_D A [(mo, .inr (16, [.int 1, .ref gl, .ref po, .ref pi, .ref bu, .ref pa, .int 0, .int 0, .int 40, .int 0, .null, .int 0, .int 0])), (gl, .inr (4, [.int 0, .ref G.1, .int 0]))] := hD
    have hK : va_K D vwCl [(cg, .object "Gatherhouse$Glass"), (cJ, .long)] s := hK
    obtain rfl := w_856
    refine lv_istore (lv' := [(7, .int 0), (6, .int 1), (5, .int 0), (4, .ref od), (3, .ref ou), (2, .ref mo), (1, .ref xo), (0, .ref b)]) hx hb dL_law_438 hl (by decide) rfl (fun ls hl => ?_)
    refine lv_aload_n hx hb dL_law_440 rfl (lv_at hl 5 rfl) ?_
    refine vp_callSi (va_runV (As := []) (rest := []) ⟨hx, hb, hml, hown, hts⟩ (zc_X11_thrown l D G mo gl po pi bu pa 1 0 0 40) (cwV 0 hts gzL_law_X11_thrown_165 rfl rfl rfl (by decide +kernel) ⟨(Nat.le_of_ble_eq_true rfl), (Nat.le_of_ble_eq_true rfl)⟩) ⟨p_RO_blind, va_recv hK hP (ci := 16) (q0 := 0) rfl rfl, (p_RO_at (tc := []) (wc := [(mo, .inr (16, [.int 1, .ref gl, .ref po, .ref pi, .ref bu, .ref pa, .int 0, .int 0, .int 40, .int 0, .null, .int 0, .int 0]))]) hP hK hT [0] [] rfl rfl [.ref mo])⟩ rfl rfl hl.1 rfl (lv_room (Nat.le_of_ble_eq_true rfl)) dL_law_441 ⟨(Nat.le_of_ble_eq_true rfl), (Nat.le_of_ble_eq_true rfl)⟩).run (fun r_857 w_858 => ?_)
    obtain rfl := w_858
    refine lv_iload hx hb dL_law_444 (lv_at hl 1 rfl) ?_
    refine lv_icmp_eq (tgt := 451) hx hb dL_law_446 (by decide) (fun _ => ?_) (fun cc => absurd (by decide) cc)
    refine lv_iload hx hb dL_law_451 (lv_at hl 1 rfl) ?_
    refine lv_if_ne (tgt := 468) hx hb dL_law_453 (by decide) (fun _ => ?_) (fun cc => absurd cc (by decide))
    refine lv_goto (tgt := 2999) hx hb dL_law_468 (by decide) ?_
    refine W.widen (k := 797152) (n := 6710780) (Nat.le_of_ble_eq_true rfl) (Nat.le_of_ble_eq_true rfl) ?_
    exact hE _ _ _ hS (lv_sub hl [7, 2] rfl)
theorem dL_law_471 : decode cL_law 471 = .ok (.aload_n 1, 1) := by decide +kernel
theorem dL_law_472 : decode cL_law 472 = .ok (.aload_n 0, 1) := by decide +kernel
theorem dL_law_473 : decode cL_law 473 = .ok (.iload 5, 2) := by decide +kernel
theorem dL_law_475 : decode cL_law 475 = .ok (.iconst 1, 1) := by decide +kernel
theorem dL_law_476 : decode cL_law 476 = .ok (.iadd, 1) := by decide +kernel
theorem dL_law_477 : decode cL_law 477 = .ok (.iaload, 1) := by decide +kernel
theorem dL_law_478 : decode cL_law 478 = .ok (.aload_n 0, 1) := by decide +kernel
theorem dL_law_479 : decode cL_law 479 = .ok (.iload 5, 2) := by decide +kernel
theorem dL_law_481 : decode cL_law 481 = .ok (.iconst 2, 1) := by decide +kernel
theorem dL_law_482 : decode cL_law 482 = .ok (.iadd, 1) := by decide +kernel
theorem dL_law_483 : decode cL_law 483 = .ok (.iaload, 1) := by decide +kernel
theorem dL_law_484 : decode cL_law 484 = .ok (.aload_n 3, 1) := by decide +kernel
theorem dL_law_485 : decode cL_law 485 = .ok (.invokestatic 177, 3) := by decide +kernel
theorem dL_law_488 : decode cL_law 488 = .ok (.istore 6, 2) := by decide +kernel
theorem dL_law_490 : decode cL_law 490 = .ok (.aload_n 2, 1) := by decide +kernel
theorem dL_law_491 : decode cL_law 491 = .ok (.aload_n 0, 1) := by decide +kernel
theorem dL_law_492 : decode cL_law 492 = .ok (.iload 5, 2) := by decide +kernel
theorem dL_law_494 : decode cL_law 494 = .ok (.iconst 1, 1) := by decide +kernel
theorem dL_law_495 : decode cL_law 495 = .ok (.iadd, 1) := by decide +kernel
theorem dL_law_496 : decode cL_law 496 = .ok (.iaload, 1) := by decide +kernel
theorem dL_law_497 : decode cL_law 497 = .ok (.aload_n 0, 1) := by decide +kernel
theorem dL_law_498 : decode cL_law 498 = .ok (.iload 5, 2) := by decide +kernel
theorem dL_law_500 : decode cL_law 500 = .ok (.iconst 2, 1) := by decide +kernel
theorem dL_law_501 : decode cL_law 501 = .ok (.iadd, 1) := by decide +kernel
theorem dL_law_502 : decode cL_law 502 = .ok (.iaload, 1) := by decide +kernel
theorem dL_law_503 : decode cL_law 503 = .ok (.invokevirtual 179, 3) := by decide +kernel
theorem dL_law_506 : decode cL_law 506 = .ok (.istore 7, 2) := by decide +kernel
theorem dL_law_508 : decode cL_law 508 = .ok (.aload_n 2, 1) := by decide +kernel
theorem dL_law_509 : decode cL_law 509 = .ok (.invokevirtual 165, 3) := by decide +kernel
theorem dL_law_512 : decode cL_law 512 = .ok (.iload 6, 2) := by decide +kernel
theorem dL_law_514 : decode cL_law 514 = .ok (.if_icmp .eq 5, 3) := by decide +kernel
theorem dL_law_519 : decode cL_law 519 = .ok (.iload 6, 2) := by decide +kernel
theorem dL_law_521 : decode cL_law 521 = .ok (.ifCond .ne 15, 3) := by decide +kernel
theorem dL_law_536 : decode cL_law 536 = .ok (.goto 2463, 3) := by decide +kernel
set_option maxHeartbeats 4000000 in
set_option maxRecDepth 100000 in
theorem zl_3 {p : Program} {e : Env} {s : State} {m : MethodId} {below : List Frame} {meth : Method} {c : Code} {Q : State → Prop} {args : Array Value} (l : Launch) (hnt : l.stackTraces = false) (D : va_G) (G : Nat × Nat × Nat) (xo : Nat) (xg : Nat) (xp : Nat) (xq : Nat) (r1 : Nat) (r2 : Nat) (r3 : Nat) (r4 : Nat) (se : Nat) (n1 : Nat) (n2 : Nat) (n3 : Nat) (mo : Nat) (gl : Nat) (po : Nat) (pi : Nat) (bu : Nat) (pa : Nat) (ou : Nat) (od : Nat) (cg : ClassId) (cp : ClassId) (cq : ClassId) (ci : ClassId) (cj : ClassId) (cJ : ClassId) (cD : ClassId) {b L : Nat} {xs : Nat → Int32} {A : Nat → Prop} {H : Heap} {locs : List Loc} {ls : Array Slot} (hx : p.tables.exec = Jvm.exec) (hb : c.code = code) (hml : c.maxLocals = 9) (hown : s.vm.findClass RL = some m.cls) (hts : ∀ w ∈ wzL_law, w.before args s = true) (hT : FT G s) (hA : ∀ q : Nat, s.heap.size ≤ q → A q) (hZ : FZ G A s s.heap) (hX : va_X b L xs s s.heap) (hbl : b < s.heap.size) (hbA : ¬ A b) (hL : L = 5) (hK : va_K D vwCl [(cg, .object "Gatherhouse$Glass"), (cp, .object "Gatherhouse$Pot"), (cq, .object "Gatherhouse$Piece"), (ci, .int), (cj, .int), (cJ, .long), (cD, .double)] s) (hP : va_P D vwCl [(xo, .inr (11, [.ref xg, .int 0, .ref xp, .int 0, .ref xq, .int 0, .ref r1, .ref r2, .ref r3, .ref r4, .ref se, .int 0, .int 0, .int 40, .int 0, .int 0])), (xg, .inl (cg, 6, .inr (.inr (.inr (.inr (fun _ => none)))))), (xp, .inl (cp, 4, .inr (.inr (.inr (.inr (fun _ => none)))))), (xq, .inl (cq, 16, .inr (.inr (.inr (.inr (fun _ => none)))))), (r1, .inr (9, [.int 0, .int 0])), (r2, .inr (9, [.int 0, .int 0])), (r3, .inr (9, [.int 0, .int 0])), (r4, .inr (9, [.int 0, .int 0])), (se, .inr (10, [.ref n1, .ref n2, .ref n3, .int 0, .int 0, .int 0, .int 0])), (mo, .inr (16, [.int 0, .ref gl, .ref po, .ref pi, .ref bu, .ref pa, .int 0, .int 0, .int 40, .int 0, .null, .int 0, .int 0])), (gl, .inr (4, [.int 0, .ref G.1, .int 0])), (po, .inr (4, [.int 0, .ref G.1, .int 0])), (pi, .inr (4, [.int 0, .ref G.1, .int 0])), (bu, .inl (ci, 4, .inl (fun _ => 0))), (pa, .inl (cj, 4, .inl (fun _ => 0))), (ou, .inl (cJ, 1, .inr (.inl (fun _ => 0)))), (od, .inl (cD, 1, .inr (.inr (.inr (.inl (fun _ => 0))))))] H) (hD : va_D A [(xo, .inr (11, [.ref xg, .int 0, .ref xp, .int 0, .ref xq, .int 0, .ref r1, .ref r2, .ref r3, .ref r4, .ref se, .int 0, .int 0, .int 40, .int 0, .int 0])), (xg, .inl (cg, 6, .inr (.inr (.inr (.inr (fun _ => none)))))), (xp, .inl (cp, 4, .inr (.inr (.inr (.inr (fun _ => none)))))), (xq, .inl (cq, 16, .inr (.inr (.inr (.inr (fun _ => none)))))), (r1, .inr (9, [.int 0, .int 0])), (r2, .inr (9, [.int 0, .int 0])), (r3, .inr (9, [.int 0, .int 0])), (r4, .inr (9, [.int 0, .int 0])), (se, .inr (10, [.ref n1, .ref n2, .ref n3, .int 0, .int 0, .int 0, .int 0])), (mo, .inr (16, [.int 0, .ref gl, .ref po, .ref pi, .ref bu, .ref pa, .int 0, .int 0, .int 40, .int 0, .null, .int 0, .int 0])), (gl, .inr (4, [.int 0, .ref G.1, .int 0])), (po, .inr (4, [.int 0, .ref G.1, .int 0])), (pi, .inr (4, [.int 0, .ref G.1, .int 0])), (bu, .inl (ci, 4, .inl (fun _ => 0))), (pa, .inl (cj, 4, .inl (fun _ => 0))), (ou, .inl (cJ, 1, .inr (.inl (fun _ => 0)))), (od, .inl (cD, 1, .inr (.inr (.inr (.inl (fun _ => 0))))))]) (hS : va_S A s.heap H locs) (hl : lv_has ls 9 [(5, .int 0), (4, .ref od), (3, .ref ou), (2, .ref mo), (1, .ref xo), (0, .ref b)]) (hE : ∀ (H : Heap) (locs : List Loc) (ls : Array Slot), va_S A s.heap H locs → lv_has ls 9 [(0, .ref b), (5, .int 0)] → W p l e room_1 s m args below meth c H locs 797152 6710780 Q (F0 m 2999 ls [])) : W p l e room_1 s m args below meth c H locs 60 300 Q (F0 m 471 ls []) := by
  have hP := hP.sub (ws' := [(xo, .inr (11, [.ref xg, .int 0, .ref xp, .int 0, .ref xq, .int 0, .ref r1, .ref r2, .ref r3, .ref r4, .ref se, .int 0, .int 0, .int 40, .int 0, .int 0])), (xp, .inl (cp, 4, .inr (.inr (.inr (.inr (fun _ => none)))))), (mo, .inr (16, [.int 0, .ref gl, .ref po, .ref pi, .ref bu, .ref pa, .int 0, .int 0, .int 40, .int 0, .null, .int 0, .int 0])), (po, .inr (4, [.int 0, .ref G.1, .int 0])), (ou, .inl (cJ, 1, .inr (.inl (fun _ => 0))))]) [0, 2, 9, 11, 15] rfl
  have hD := hD.sub (ws' := [(xo, .inr (11, [.ref xg, .int 0, .ref xp, .int 0, .ref xq, .int 0, .ref r1, .ref r2, .ref r3, .ref r4, .ref se, .int 0, .int 0, .int 40, .int 0, .int 0])), (xp, .inl (cp, 4, .inr (.inr (.inr (.inr (fun _ => none)))))), (mo, .inr (16, [.int 0, .ref gl, .ref po, .ref pi, .ref bu, .ref pa, .int 0, .int 0, .int 40, .int 0, .null, .int 0, .int 0])), (po, .inr (4, [.int 0, .ref G.1, .int 0])), (ou, .inl (cJ, 1, .inr (.inl (fun _ => 0))))]) [0, 2, 9, 11, 15] (by decide) rfl
  have hK := hK.sub (tys' := [(cp, .object "Gatherhouse$Pot"), (cJ, .long)]) [1, 5] rfl
  refine lv_aload_n hx hb dL_law_471 rfl (lv_at hl 4 rfl) ?_
  refine lv_aload_n hx hb dL_law_472 rfl (lv_at hl 5 rfl) ?_
  refine lv_iload hx hb dL_law_473 (lv_at hl 0 rfl) ?_
  refine lv_iconst (v := 1) hx hb dL_law_475 (by decide) ?_
  refine lv_iadd hx hb dL_law_476 ?_
  refine lv_topi (fun y_859 ey_859 => ?_)
  have ey_859 : y_859 = 1 := ey_859.trans (by decide +kernel)
  subst ey_859
  refine va_sld hx hb hX hbl hbA hS (vp_in_iff.mpr (by rw [hL]; decide +kernel)) dL_law_477 ?_
  refine lv_aload_n hx hb dL_law_478 rfl (lv_at hl 5 rfl) ?_
  refine lv_iload hx hb dL_law_479 (lv_at hl 0 rfl) ?_
  refine lv_iconst (v := 2) hx hb dL_law_481 (by decide) ?_
  refine lv_iadd hx hb dL_law_482 ?_
  refine lv_topi (fun y_860 ey_860 => ?_)
  have ey_860 : y_860 = 2 := ey_860.trans (by decide +kernel)
  subst ey_860
  refine va_sld hx hb hX hbl hbA hS (vp_in_iff.mpr (by rw [hL]; decide +kernel)) dL_law_483 ?_
  refine lv_aload_n hx hb dL_law_484 rfl (lv_at hl 2 rfl) ?_
  have hFc := va_free (wc := [(xo, .inr (11, [.ref xg, .int 0, .ref xp, .int 0, .ref xq, .int 0, .ref r1, .ref r2, .ref r3, .ref r4, .ref se, .int 0, .int 0, .int 40, .int 0, .int 0])), (xp, .inl (cp, 4, .inr (.inr (.inr (.inr (fun _ => none)))))), (ou, .inl (cJ, 1, .inr (.inl (fun _ => 0))))]) hD hS hA [0, 1, 4] rfl
  refine vx_calli (vx_runSX (As := [.ref xo, .int (xs (1 : Int32).toNatClampNeg), .int (xs (2 : Int32).toNatClampNeg), .ref ou]) (rest := []) ⟨hx, hb, hml, hown, hts⟩ (zc_L_charge l hnt D G xo xg xp xq r1 r2 r3 r4 se 0 0 cp ou cJ (xs (1 : Int32).toNatClampNeg) (xs (2 : Int32).toNatClampNeg) H.size) (vx_cwSW 4 hts gzL_law_L_charge_177 rfl rfl rfl (by decide +kernel) ⟨(Nat.le_of_ble_eq_true rfl), (Nat.le_of_ble_eq_true rfl)⟩) ⟨p_RW_blind, (p_RW_at (tc := [(cp, .object "Gatherhouse$Pot"), (cJ, .long)]) (wc := [(xo, .inr (11, [.ref xg, .int 0, .ref xp, .int 0, .ref xq, .int 0, .ref r1, .ref r2, .ref r3, .ref r4, .ref se, .int 0, .int 0, .int 40, .int 0, .int 0])), (xp, .inl (cp, 4, .inr (.inr (.inr (.inr (fun _ => none)))))), (ou, .inl (cJ, 1, .inr (.inl (fun _ => 0))))]) hP hK hD hS hA hT hZ [0, 1, 4] [0, 1] rfl rfl (by decide) rfl [.ref xo, .int (xs (1 : Int32).toNatClampNeg), .int (xs (2 : Int32).toNatClampNeg), .ref ou])⟩ rfl rfl hl.1 rfl (lv_room (Nat.le_of_ble_eq_true rfl)) dL_law_485 ⟨(Nat.le_of_ble_eq_true rfl), (Nat.le_of_ble_eq_true rfl)⟩) hS (fun q _ h => hFc q h) hFc (fun q _ h => hFc q h) (fun E ce q9 u t H locs ht hvm hpx hBX hz1 hk1 hS hce hcv hcl => ?_) (fun r_861 u t H locs ht hvm w_862 hB hz1 hk1 hS => ?_)
  · exact (show False from hBX).elim
  · obtain ⟨hP, hD, hK⟩ := q_join (D := D) (wc := [(xo, .inr (11, [.ref xg, .int 0, .ref xp, .int 0, .ref xq, .int 0, .ref r1, .ref r2, .ref r3, .ref r4, .ref se, .int 0, .int 0, .int 40, .int 0, .int 0])), (xp, .inl (cp, 4, .inr (.inr (.inr (.inr (fun _ => none)))))), (ou, .inl (cJ, 1, .inr (.inl (fun _ => 0))))]) (wr := [(mo, .inr (16, [.int 0, .ref gl, .ref po, .ref pi, .ref bu, .ref pa, .int 0, .int 0, .int 40, .int 0, .null, .int 0, .int 0])), (po, .inr (4, [.int 0, .ref G.1, .int 0]))]) (w1 := []) (tyr := [(cp, .object "Gatherhouse$Pot"), (cJ, .long)]) (ty1 := []) hP hD hK [0, 1, 4] [2, 3] [0, 1] rfl rfl (by decide) (by decide) rfl hFc hk1 ht hvm (q_none hK hvm)
    have hP : va_P D vwCl [(mo, .inr (16, [.int 0, .ref gl, .ref po, .ref pi, .ref bu, .ref pa, .int 0, .int 0, .int 40, .int 0, .null, .int 0, .int 0])), (po, .inr (4, [.int 0, .ref G.1, .int 0]))] H := hP
    have hD : va_D A [(mo, .inr (16, [.int 0, .ref gl, .ref po, .ref pi, .ref bu, .ref pa, .int 0, .int 0, .int 40, .int 0, .null, .int 0, .int 0])), (po, .inr (4, [.int 0, .ref G.1, .int 0]))] := hD
    have hK : va_K D vwCl [(cp, .object "Gatherhouse$Pot"), (cJ, .long)] s := hK
    refine W.widen (k := 61) (n := 306) (Nat.le_of_ble_eq_true rfl) (Nat.le_of_ble_eq_true rfl) ?_
    obtain rfl := w_862
    refine lv_istore (lv' := [(6, .int 1), (5, .int 0), (4, .ref od), (3, .ref ou), (2, .ref mo), (1, .ref xo), (0, .ref b)]) hx hb dL_law_488 hl (by decide) rfl (fun ls hl => ?_)
    refine lv_aload_n hx hb dL_law_490 rfl (lv_at hl 4 rfl) ?_
    refine lv_aload_n hx hb dL_law_491 rfl (lv_at hl 6 rfl) ?_
    refine lv_iload hx hb dL_law_492 (lv_at hl 1 rfl) ?_
    refine lv_iconst (v := 1) hx hb dL_law_494 (by decide) ?_
    refine lv_iadd hx hb dL_law_495 ?_
    refine lv_topi (fun y_863 ey_863 => ?_)
    have ey_863 : y_863 = 1 := ey_863.trans (by decide +kernel)
    subst ey_863
    refine va_sld hx hb hX hbl hbA hS (vp_in_iff.mpr (by rw [hL]; decide +kernel)) dL_law_496 ?_
    refine lv_aload_n hx hb dL_law_497 rfl (lv_at hl 6 rfl) ?_
    refine lv_iload hx hb dL_law_498 (lv_at hl 1 rfl) ?_
    refine lv_iconst (v := 2) hx hb dL_law_500 (by decide) ?_
    refine lv_iadd hx hb dL_law_501 ?_
    refine lv_topi (fun y_864 ey_864 => ?_)
    have ey_864 : y_864 = 2 := ey_864.trans (by decide +kernel)
    subst ey_864
    refine va_sld hx hb hX hbl hbA hS (vp_in_iff.mpr (by rw [hL]; decide +kernel)) dL_law_502 ?_
    have hFc := va_free (wc := [(mo, .inr (16, [.int 0, .ref gl, .ref po, .ref pi, .ref bu, .ref pa, .int 0, .int 0, .int 40, .int 0, .null, .int 0, .int 0])), (po, .inr (4, [.int 0, .ref G.1, .int 0]))]) hD hS hA [0, 1] rfl
    refine va_calli (va_runV (As := [.int (xs (1 : Int32).toNatClampNeg), .int (xs (2 : Int32).toNatClampNeg)]) (rest := []) ⟨hx, hb, hml, hown, hts⟩ (zc_X11_charge l D G mo gl po pi bu pa 0 0 0 (xs (1 : Int32).toNatClampNeg) (xs (2 : Int32).toNatClampNeg) H.size) (cwV 2 hts gzL_law_X11_charge_179 rfl rfl rfl (by decide +kernel) ⟨(Nat.le_of_ble_eq_true rfl), (Nat.le_of_ble_eq_true rfl)⟩) ⟨p_RW_blind, va_recv hK hP (ci := 16) (q0 := 0) rfl rfl, (p_RW_at (tc := []) (wc := [(mo, .inr (16, [.int 0, .ref gl, .ref po, .ref pi, .ref bu, .ref pa, .int 0, .int 0, .int 40, .int 0, .null, .int 0, .int 0])), (po, .inr (4, [.int 0, .ref G.1, .int 0]))]) hP hK hD hS hA hT hZ [0, 1] [] rfl rfl (by decide) rfl [.ref mo, .int (xs (1 : Int32).toNatClampNeg), .int (xs (2 : Int32).toNatClampNeg)])⟩ rfl rfl hl.1 rfl (lv_room (Nat.le_of_ble_eq_true rfl)) dL_law_503 ⟨(Nat.le_of_ble_eq_true rfl), (Nat.le_of_ble_eq_true rfl)⟩) hS (fun q _ h => hFc q h) hFc (fun r_865 u t H locs ht hvm w_866 hB hz1 hk1 hS => ?_)
    obtain ⟨hP, hD, hK⟩ := q_join (D := D) (wc := [(mo, .inr (16, [.int 0, .ref gl, .ref po, .ref pi, .ref bu, .ref pa, .int 0, .int 0, .int 40, .int 0, .null, .int 0, .int 0])), (po, .inr (4, [.int 0, .ref G.1, .int 0]))]) (wr := []) (w1 := [(mo, .inr (16, [.int 1, .ref gl, .ref po, .ref pi, .ref bu, .ref pa, .int 0, .int 0, .int 40, .int 0, .null, .int 0, .int 0])), (po, .inr (4, [.int 0, .ref G.1, .int 0]))]) (tyr := [(cp, .object "Gatherhouse$Pot"), (cJ, .long)]) (ty1 := []) hP hD hK [0, 1] [] [0, 1] rfl rfl (by decide) (by decide) rfl hFc hk1 ht hvm hB
    have hP : va_P D vwCl [(mo, .inr (16, [.int 1, .ref gl, .ref po, .ref pi, .ref bu, .ref pa, .int 0, .int 0, .int 40, .int 0, .null, .int 0, .int 0])), (po, .inr (4, [.int 0, .ref G.1, .int 0]))] H := hP
    have hD : va_D A [(mo, .inr (16, [.int 1, .ref gl, .ref po, .ref pi, .ref bu, .ref pa, .int 0, .int 0, .int 40, .int 0, .null, .int 0, .int 0])), (po, .inr (4, [.int 0, .ref G.1, .int 0]))] := hD
    have hK : va_K D vwCl [(cp, .object "Gatherhouse$Pot"), (cJ, .long)] s := hK
    obtain rfl := w_866
    refine lv_istore (lv' := [(7, .int 0), (6, .int 1), (5, .int 0), (4, .ref od), (3, .ref ou), (2, .ref mo), (1, .ref xo), (0, .ref b)]) hx hb dL_law_506 hl (by decide) rfl (fun ls hl => ?_)
    refine lv_aload_n hx hb dL_law_508 rfl (lv_at hl 5 rfl) ?_
    refine vp_callSi (va_runV (As := []) (rest := []) ⟨hx, hb, hml, hown, hts⟩ (zc_X11_thrown l D G mo gl po pi bu pa 1 0 0 40) (cwV 0 hts gzL_law_X11_thrown_165 rfl rfl rfl (by decide +kernel) ⟨(Nat.le_of_ble_eq_true rfl), (Nat.le_of_ble_eq_true rfl)⟩) ⟨p_RO_blind, va_recv hK hP (ci := 16) (q0 := 0) rfl rfl, (p_RO_at (tc := []) (wc := [(mo, .inr (16, [.int 1, .ref gl, .ref po, .ref pi, .ref bu, .ref pa, .int 0, .int 0, .int 40, .int 0, .null, .int 0, .int 0]))]) hP hK hT [0] [] rfl rfl [.ref mo])⟩ rfl rfl hl.1 rfl (lv_room (Nat.le_of_ble_eq_true rfl)) dL_law_509 ⟨(Nat.le_of_ble_eq_true rfl), (Nat.le_of_ble_eq_true rfl)⟩).run (fun r_867 w_868 => ?_)
    obtain rfl := w_868
    refine lv_iload hx hb dL_law_512 (lv_at hl 1 rfl) ?_
    refine lv_icmp_eq (tgt := 519) hx hb dL_law_514 (by decide) (fun _ => ?_) (fun cc => absurd (by decide) cc)
    refine lv_iload hx hb dL_law_519 (lv_at hl 1 rfl) ?_
    refine lv_if_ne (tgt := 536) hx hb dL_law_521 (by decide) (fun _ => ?_) (fun cc => absurd cc (by decide))
    refine lv_goto (tgt := 2999) hx hb dL_law_536 (by decide) ?_
    refine W.widen (k := 797152) (n := 6710780) (Nat.le_of_ble_eq_true rfl) (Nat.le_of_ble_eq_true rfl) ?_
    exact hE _ _ _ hS (lv_sub hl [7, 2] rfl)
theorem dL_law_539 : decode cL_law 539 = .ok (.aload_n 1, 1) := by decide +kernel
theorem dL_law_540 : decode cL_law 540 = .ok (.aload_n 0, 1) := by decide +kernel
theorem dL_law_541 : decode cL_law 541 = .ok (.iload 5, 2) := by decide +kernel
theorem dL_law_543 : decode cL_law 543 = .ok (.iconst 1, 1) := by decide +kernel
theorem dL_law_544 : decode cL_law 544 = .ok (.iadd, 1) := by decide +kernel
theorem dL_law_545 : decode cL_law 545 = .ok (.iaload, 1) := by decide +kernel
theorem dL_law_546 : decode cL_law 546 = .ok (.aload_n 3, 1) := by decide +kernel
theorem dL_law_547 : decode cL_law 547 = .ok (.invokestatic 180, 3) := by decide +kernel
theorem dL_law_550 : decode cL_law 550 = .ok (.istore 6, 2) := by decide +kernel
theorem dL_law_552 : decode cL_law 552 = .ok (.aload_n 2, 1) := by decide +kernel
theorem dL_law_553 : decode cL_law 553 = .ok (.aload_n 0, 1) := by decide +kernel
theorem dL_law_554 : decode cL_law 554 = .ok (.iload 5, 2) := by decide +kernel
theorem dL_law_556 : decode cL_law 556 = .ok (.iconst 1, 1) := by decide +kernel
theorem dL_law_557 : decode cL_law 557 = .ok (.iadd, 1) := by decide +kernel
theorem dL_law_558 : decode cL_law 558 = .ok (.iaload, 1) := by decide +kernel
theorem dL_law_559 : decode cL_law 559 = .ok (.invokevirtual 182, 3) := by decide +kernel
theorem dL_law_562 : decode cL_law 562 = .ok (.istore 7, 2) := by decide +kernel
theorem dL_law_564 : decode cL_law 564 = .ok (.aload_n 2, 1) := by decide +kernel
theorem dL_law_565 : decode cL_law 565 = .ok (.invokevirtual 165, 3) := by decide +kernel
theorem dL_law_568 : decode cL_law 568 = .ok (.iload 6, 2) := by decide +kernel
theorem dL_law_570 : decode cL_law 570 = .ok (.if_icmp .eq 5, 3) := by decide +kernel
theorem dL_law_575 : decode cL_law 575 = .ok (.iload 6, 2) := by decide +kernel
theorem dL_law_577 : decode cL_law 577 = .ok (.ifCond .ne 15, 3) := by decide +kernel
theorem dL_law_592 : decode cL_law 592 = .ok (.goto 2407, 3) := by decide +kernel
set_option maxHeartbeats 4000000 in
set_option maxRecDepth 100000 in
theorem zl_4 {p : Program} {e : Env} {s : State} {m : MethodId} {below : List Frame} {meth : Method} {c : Code} {Q : State → Prop} {args : Array Value} (l : Launch) (hnt : l.stackTraces = false) (D : va_G) (G : Nat × Nat × Nat) (xo : Nat) (xg : Nat) (xp : Nat) (xq : Nat) (r1 : Nat) (r2 : Nat) (r3 : Nat) (r4 : Nat) (se : Nat) (n1 : Nat) (n2 : Nat) (n3 : Nat) (mo : Nat) (gl : Nat) (po : Nat) (pi : Nat) (bu : Nat) (pa : Nat) (ou : Nat) (od : Nat) (cg : ClassId) (cp : ClassId) (cq : ClassId) (ci : ClassId) (cj : ClassId) (cJ : ClassId) (cD : ClassId) {b L : Nat} {xs : Nat → Int32} {A : Nat → Prop} {H : Heap} {locs : List Loc} {ls : Array Slot} (hx : p.tables.exec = Jvm.exec) (hb : c.code = code) (hml : c.maxLocals = 9) (hown : s.vm.findClass RL = some m.cls) (hts : ∀ w ∈ wzL_law, w.before args s = true) (hT : FT G s) (hA : ∀ q : Nat, s.heap.size ≤ q → A q) (hZ : FZ G A s s.heap) (hX : va_X b L xs s s.heap) (hbl : b < s.heap.size) (hbA : ¬ A b) (hL : L = 5) (hK : va_K D vwCl [(cg, .object "Gatherhouse$Glass"), (cp, .object "Gatherhouse$Pot"), (cq, .object "Gatherhouse$Piece"), (ci, .int), (cj, .int), (cJ, .long), (cD, .double)] s) (hP : va_P D vwCl [(xo, .inr (11, [.ref xg, .int 0, .ref xp, .int 0, .ref xq, .int 0, .ref r1, .ref r2, .ref r3, .ref r4, .ref se, .int 0, .int 0, .int 40, .int 0, .int 0])), (xg, .inl (cg, 6, .inr (.inr (.inr (.inr (fun _ => none)))))), (xp, .inl (cp, 4, .inr (.inr (.inr (.inr (fun _ => none)))))), (xq, .inl (cq, 16, .inr (.inr (.inr (.inr (fun _ => none)))))), (r1, .inr (9, [.int 0, .int 0])), (r2, .inr (9, [.int 0, .int 0])), (r3, .inr (9, [.int 0, .int 0])), (r4, .inr (9, [.int 0, .int 0])), (se, .inr (10, [.ref n1, .ref n2, .ref n3, .int 0, .int 0, .int 0, .int 0])), (mo, .inr (16, [.int 0, .ref gl, .ref po, .ref pi, .ref bu, .ref pa, .int 0, .int 0, .int 40, .int 0, .null, .int 0, .int 0])), (gl, .inr (4, [.int 0, .ref G.1, .int 0])), (po, .inr (4, [.int 0, .ref G.1, .int 0])), (pi, .inr (4, [.int 0, .ref G.1, .int 0])), (bu, .inl (ci, 4, .inl (fun _ => 0))), (pa, .inl (cj, 4, .inl (fun _ => 0))), (ou, .inl (cJ, 1, .inr (.inl (fun _ => 0)))), (od, .inl (cD, 1, .inr (.inr (.inr (.inl (fun _ => 0))))))] H) (hD : va_D A [(xo, .inr (11, [.ref xg, .int 0, .ref xp, .int 0, .ref xq, .int 0, .ref r1, .ref r2, .ref r3, .ref r4, .ref se, .int 0, .int 0, .int 40, .int 0, .int 0])), (xg, .inl (cg, 6, .inr (.inr (.inr (.inr (fun _ => none)))))), (xp, .inl (cp, 4, .inr (.inr (.inr (.inr (fun _ => none)))))), (xq, .inl (cq, 16, .inr (.inr (.inr (.inr (fun _ => none)))))), (r1, .inr (9, [.int 0, .int 0])), (r2, .inr (9, [.int 0, .int 0])), (r3, .inr (9, [.int 0, .int 0])), (r4, .inr (9, [.int 0, .int 0])), (se, .inr (10, [.ref n1, .ref n2, .ref n3, .int 0, .int 0, .int 0, .int 0])), (mo, .inr (16, [.int 0, .ref gl, .ref po, .ref pi, .ref bu, .ref pa, .int 0, .int 0, .int 40, .int 0, .null, .int 0, .int 0])), (gl, .inr (4, [.int 0, .ref G.1, .int 0])), (po, .inr (4, [.int 0, .ref G.1, .int 0])), (pi, .inr (4, [.int 0, .ref G.1, .int 0])), (bu, .inl (ci, 4, .inl (fun _ => 0))), (pa, .inl (cj, 4, .inl (fun _ => 0))), (ou, .inl (cJ, 1, .inr (.inl (fun _ => 0)))), (od, .inl (cD, 1, .inr (.inr (.inr (.inl (fun _ => 0))))))]) (hS : va_S A s.heap H locs) (hl : lv_has ls 9 [(5, .int 0), (4, .ref od), (3, .ref ou), (2, .ref mo), (1, .ref xo), (0, .ref b)]) (hE : ∀ (H : Heap) (locs : List Loc) (ls : Array Slot), va_S A s.heap H locs → lv_has ls 9 [(0, .ref b), (5, .int 0)] → W p l e room_1 s m args below meth c H locs 797152 6710780 Q (F0 m 2999 ls [])) : W p l e room_1 s m args below meth c H locs 60 300 Q (F0 m 539 ls []) := by
  have hP := hP.sub (ws' := [(xo, .inr (11, [.ref xg, .int 0, .ref xp, .int 0, .ref xq, .int 0, .ref r1, .ref r2, .ref r3, .ref r4, .ref se, .int 0, .int 0, .int 40, .int 0, .int 0])), (xp, .inl (cp, 4, .inr (.inr (.inr (.inr (fun _ => none)))))), (mo, .inr (16, [.int 0, .ref gl, .ref po, .ref pi, .ref bu, .ref pa, .int 0, .int 0, .int 40, .int 0, .null, .int 0, .int 0])), (po, .inr (4, [.int 0, .ref G.1, .int 0])), (ou, .inl (cJ, 1, .inr (.inl (fun _ => 0))))]) [0, 2, 9, 11, 15] rfl
  have hD := hD.sub (ws' := [(xo, .inr (11, [.ref xg, .int 0, .ref xp, .int 0, .ref xq, .int 0, .ref r1, .ref r2, .ref r3, .ref r4, .ref se, .int 0, .int 0, .int 40, .int 0, .int 0])), (xp, .inl (cp, 4, .inr (.inr (.inr (.inr (fun _ => none)))))), (mo, .inr (16, [.int 0, .ref gl, .ref po, .ref pi, .ref bu, .ref pa, .int 0, .int 0, .int 40, .int 0, .null, .int 0, .int 0])), (po, .inr (4, [.int 0, .ref G.1, .int 0])), (ou, .inl (cJ, 1, .inr (.inl (fun _ => 0))))]) [0, 2, 9, 11, 15] (by decide) rfl
  have hK := hK.sub (tys' := [(cp, .object "Gatherhouse$Pot"), (cJ, .long)]) [1, 5] rfl
  refine lv_aload_n hx hb dL_law_539 rfl (lv_at hl 4 rfl) ?_
  refine lv_aload_n hx hb dL_law_540 rfl (lv_at hl 5 rfl) ?_
  refine lv_iload hx hb dL_law_541 (lv_at hl 0 rfl) ?_
  refine lv_iconst (v := 1) hx hb dL_law_543 (by decide) ?_
  refine lv_iadd hx hb dL_law_544 ?_
  refine lv_topi (fun y_869 ey_869 => ?_)
  have ey_869 : y_869 = 1 := ey_869.trans (by decide +kernel)
  subst ey_869
  refine va_sld hx hb hX hbl hbA hS (vp_in_iff.mpr (by rw [hL]; decide +kernel)) dL_law_545 ?_
  refine lv_aload_n hx hb dL_law_546 rfl (lv_at hl 2 rfl) ?_
  have hFc := va_free (wc := [(xo, .inr (11, [.ref xg, .int 0, .ref xp, .int 0, .ref xq, .int 0, .ref r1, .ref r2, .ref r3, .ref r4, .ref se, .int 0, .int 0, .int 40, .int 0, .int 0])), (xp, .inl (cp, 4, .inr (.inr (.inr (.inr (fun _ => none)))))), (ou, .inl (cJ, 1, .inr (.inl (fun _ => 0))))]) hD hS hA [0, 1, 4] rfl
  refine vx_calli (vx_runSX (As := [.ref xo, .int (xs (1 : Int32).toNatClampNeg), .ref ou]) (rest := []) ⟨hx, hb, hml, hown, hts⟩ (zc_L_change l hnt D G xo xg xp xq r1 r2 r3 r4 se 0 0 cp ou cJ (xs (1 : Int32).toNatClampNeg) H.size) (vx_cwSW 3 hts gzL_law_L_change_180 rfl rfl rfl (by decide +kernel) ⟨(Nat.le_of_ble_eq_true rfl), (Nat.le_of_ble_eq_true rfl)⟩) ⟨p_RW_blind, (p_RW_at (tc := [(cp, .object "Gatherhouse$Pot"), (cJ, .long)]) (wc := [(xo, .inr (11, [.ref xg, .int 0, .ref xp, .int 0, .ref xq, .int 0, .ref r1, .ref r2, .ref r3, .ref r4, .ref se, .int 0, .int 0, .int 40, .int 0, .int 0])), (xp, .inl (cp, 4, .inr (.inr (.inr (.inr (fun _ => none)))))), (ou, .inl (cJ, 1, .inr (.inl (fun _ => 0))))]) hP hK hD hS hA hT hZ [0, 1, 4] [0, 1] rfl rfl (by decide) rfl [.ref xo, .int (xs (1 : Int32).toNatClampNeg), .ref ou])⟩ rfl rfl hl.1 rfl (lv_room (Nat.le_of_ble_eq_true rfl)) dL_law_547 ⟨(Nat.le_of_ble_eq_true rfl), (Nat.le_of_ble_eq_true rfl)⟩) hS (fun q _ h => hFc q h) hFc (fun q _ h => hFc q h) (fun E ce q9 u t H locs ht hvm hpx hBX hz1 hk1 hS hce hcv hcl => ?_) (fun r_870 u t H locs ht hvm w_871 hB hz1 hk1 hS => ?_)
  · exact (show False from hBX).elim
  · obtain ⟨hP, hD, hK⟩ := q_join (D := D) (wc := [(xo, .inr (11, [.ref xg, .int 0, .ref xp, .int 0, .ref xq, .int 0, .ref r1, .ref r2, .ref r3, .ref r4, .ref se, .int 0, .int 0, .int 40, .int 0, .int 0])), (xp, .inl (cp, 4, .inr (.inr (.inr (.inr (fun _ => none)))))), (ou, .inl (cJ, 1, .inr (.inl (fun _ => 0))))]) (wr := [(mo, .inr (16, [.int 0, .ref gl, .ref po, .ref pi, .ref bu, .ref pa, .int 0, .int 0, .int 40, .int 0, .null, .int 0, .int 0])), (po, .inr (4, [.int 0, .ref G.1, .int 0]))]) (w1 := []) (tyr := [(cp, .object "Gatherhouse$Pot"), (cJ, .long)]) (ty1 := []) hP hD hK [0, 1, 4] [2, 3] [0, 1] rfl rfl (by decide) (by decide) rfl hFc hk1 ht hvm (q_none hK hvm)
    have hP : va_P D vwCl [(mo, .inr (16, [.int 0, .ref gl, .ref po, .ref pi, .ref bu, .ref pa, .int 0, .int 0, .int 40, .int 0, .null, .int 0, .int 0])), (po, .inr (4, [.int 0, .ref G.1, .int 0]))] H := hP
    have hD : va_D A [(mo, .inr (16, [.int 0, .ref gl, .ref po, .ref pi, .ref bu, .ref pa, .int 0, .int 0, .int 40, .int 0, .null, .int 0, .int 0])), (po, .inr (4, [.int 0, .ref G.1, .int 0]))] := hD
    have hK : va_K D vwCl [(cp, .object "Gatherhouse$Pot"), (cJ, .long)] s := hK
    refine W.widen (k := 61) (n := 306) (Nat.le_of_ble_eq_true rfl) (Nat.le_of_ble_eq_true rfl) ?_
    obtain rfl := w_871
    refine lv_istore (lv' := [(6, .int 1), (5, .int 0), (4, .ref od), (3, .ref ou), (2, .ref mo), (1, .ref xo), (0, .ref b)]) hx hb dL_law_550 hl (by decide) rfl (fun ls hl => ?_)
    refine lv_aload_n hx hb dL_law_552 rfl (lv_at hl 4 rfl) ?_
    refine lv_aload_n hx hb dL_law_553 rfl (lv_at hl 6 rfl) ?_
    refine lv_iload hx hb dL_law_554 (lv_at hl 1 rfl) ?_
    refine lv_iconst (v := 1) hx hb dL_law_556 (by decide) ?_
    refine lv_iadd hx hb dL_law_557 ?_
    refine lv_topi (fun y_872 ey_872 => ?_)
    have ey_872 : y_872 = 1 := ey_872.trans (by decide +kernel)
    subst ey_872
    refine va_sld hx hb hX hbl hbA hS (vp_in_iff.mpr (by rw [hL]; decide +kernel)) dL_law_558 ?_
    have hFc := va_free (wc := [(mo, .inr (16, [.int 0, .ref gl, .ref po, .ref pi, .ref bu, .ref pa, .int 0, .int 0, .int 40, .int 0, .null, .int 0, .int 0])), (po, .inr (4, [.int 0, .ref G.1, .int 0]))]) hD hS hA [0, 1] rfl
    refine va_calli (va_runV (As := [.int (xs (1 : Int32).toNatClampNeg)]) (rest := []) ⟨hx, hb, hml, hown, hts⟩ (zc_X11_change l D G mo gl po pi bu pa 0 0 0 (xs (1 : Int32).toNatClampNeg) H.size) (cwV 1 hts gzL_law_X11_change_182 rfl rfl rfl (by decide +kernel) ⟨(Nat.le_of_ble_eq_true rfl), (Nat.le_of_ble_eq_true rfl)⟩) ⟨p_RW_blind, va_recv hK hP (ci := 16) (q0 := 0) rfl rfl, (p_RW_at (tc := []) (wc := [(mo, .inr (16, [.int 0, .ref gl, .ref po, .ref pi, .ref bu, .ref pa, .int 0, .int 0, .int 40, .int 0, .null, .int 0, .int 0])), (po, .inr (4, [.int 0, .ref G.1, .int 0]))]) hP hK hD hS hA hT hZ [0, 1] [] rfl rfl (by decide) rfl [.ref mo, .int (xs (1 : Int32).toNatClampNeg)])⟩ rfl rfl hl.1 rfl (lv_room (Nat.le_of_ble_eq_true rfl)) dL_law_559 ⟨(Nat.le_of_ble_eq_true rfl), (Nat.le_of_ble_eq_true rfl)⟩) hS (fun q _ h => hFc q h) hFc (fun r_873 u t H locs ht hvm w_874 hB hz1 hk1 hS => ?_)
    obtain ⟨hP, hD, hK⟩ := q_join (D := D) (wc := [(mo, .inr (16, [.int 0, .ref gl, .ref po, .ref pi, .ref bu, .ref pa, .int 0, .int 0, .int 40, .int 0, .null, .int 0, .int 0])), (po, .inr (4, [.int 0, .ref G.1, .int 0]))]) (wr := []) (w1 := [(mo, .inr (16, [.int 1, .ref gl, .ref po, .ref pi, .ref bu, .ref pa, .int 0, .int 0, .int 40, .int 0, .null, .int 0, .int 0])), (po, .inr (4, [.int 0, .ref G.1, .int 0]))]) (tyr := [(cp, .object "Gatherhouse$Pot"), (cJ, .long)]) (ty1 := []) hP hD hK [0, 1] [] [0, 1] rfl rfl (by decide) (by decide) rfl hFc hk1 ht hvm hB
    have hP : va_P D vwCl [(mo, .inr (16, [.int 1, .ref gl, .ref po, .ref pi, .ref bu, .ref pa, .int 0, .int 0, .int 40, .int 0, .null, .int 0, .int 0])), (po, .inr (4, [.int 0, .ref G.1, .int 0]))] H := hP
    have hD : va_D A [(mo, .inr (16, [.int 1, .ref gl, .ref po, .ref pi, .ref bu, .ref pa, .int 0, .int 0, .int 40, .int 0, .null, .int 0, .int 0])), (po, .inr (4, [.int 0, .ref G.1, .int 0]))] := hD
    have hK : va_K D vwCl [(cp, .object "Gatherhouse$Pot"), (cJ, .long)] s := hK
    obtain rfl := w_874
    refine lv_istore (lv' := [(7, .int 0), (6, .int 1), (5, .int 0), (4, .ref od), (3, .ref ou), (2, .ref mo), (1, .ref xo), (0, .ref b)]) hx hb dL_law_562 hl (by decide) rfl (fun ls hl => ?_)
    refine lv_aload_n hx hb dL_law_564 rfl (lv_at hl 5 rfl) ?_
    refine vp_callSi (va_runV (As := []) (rest := []) ⟨hx, hb, hml, hown, hts⟩ (zc_X11_thrown l D G mo gl po pi bu pa 1 0 0 40) (cwV 0 hts gzL_law_X11_thrown_165 rfl rfl rfl (by decide +kernel) ⟨(Nat.le_of_ble_eq_true rfl), (Nat.le_of_ble_eq_true rfl)⟩) ⟨p_RO_blind, va_recv hK hP (ci := 16) (q0 := 0) rfl rfl, (p_RO_at (tc := []) (wc := [(mo, .inr (16, [.int 1, .ref gl, .ref po, .ref pi, .ref bu, .ref pa, .int 0, .int 0, .int 40, .int 0, .null, .int 0, .int 0]))]) hP hK hT [0] [] rfl rfl [.ref mo])⟩ rfl rfl hl.1 rfl (lv_room (Nat.le_of_ble_eq_true rfl)) dL_law_565 ⟨(Nat.le_of_ble_eq_true rfl), (Nat.le_of_ble_eq_true rfl)⟩).run (fun r_875 w_876 => ?_)
    obtain rfl := w_876
    refine lv_iload hx hb dL_law_568 (lv_at hl 1 rfl) ?_
    refine lv_icmp_eq (tgt := 575) hx hb dL_law_570 (by decide) (fun _ => ?_) (fun cc => absurd (by decide) cc)
    refine lv_iload hx hb dL_law_575 (lv_at hl 1 rfl) ?_
    refine lv_if_ne (tgt := 592) hx hb dL_law_577 (by decide) (fun _ => ?_) (fun cc => absurd cc (by decide))
    refine lv_goto (tgt := 2999) hx hb dL_law_592 (by decide) ?_
    refine W.widen (k := 797152) (n := 6710780) (Nat.le_of_ble_eq_true rfl) (Nat.le_of_ble_eq_true rfl) ?_
    exact hE _ _ _ hS (lv_sub hl [7, 2] rfl)
theorem dL_law_595 : decode cL_law 595 = .ok (.aload_n 1, 1) := by decide +kernel
theorem dL_law_596 : decode cL_law 596 = .ok (.aload_n 0, 1) := by decide +kernel
theorem dL_law_597 : decode cL_law 597 = .ok (.iload 5, 2) := by decide +kernel
theorem dL_law_599 : decode cL_law 599 = .ok (.iconst 1, 1) := by decide +kernel
theorem dL_law_600 : decode cL_law 600 = .ok (.iadd, 1) := by decide +kernel
theorem dL_law_601 : decode cL_law 601 = .ok (.iaload, 1) := by decide +kernel
theorem dL_law_602 : decode cL_law 602 = .ok (.aload_n 0, 1) := by decide +kernel
theorem dL_law_603 : decode cL_law 603 = .ok (.iload 5, 2) := by decide +kernel
theorem dL_law_605 : decode cL_law 605 = .ok (.iconst 2, 1) := by decide +kernel
theorem dL_law_606 : decode cL_law 606 = .ok (.iadd, 1) := by decide +kernel
theorem dL_law_607 : decode cL_law 607 = .ok (.iaload, 1) := by decide +kernel
theorem dL_law_608 : decode cL_law 608 = .ok (.i2c, 1) := by decide +kernel
theorem dL_law_609 : decode cL_law 609 = .ok (.aload_n 3, 1) := by decide +kernel
theorem dL_law_610 : decode cL_law 610 = .ok (.invokestatic 183, 3) := by decide +kernel
theorem dL_law_613 : decode cL_law 613 = .ok (.istore 6, 2) := by decide +kernel
theorem dL_law_615 : decode cL_law 615 = .ok (.aload_n 2, 1) := by decide +kernel
theorem dL_law_616 : decode cL_law 616 = .ok (.aload_n 0, 1) := by decide +kernel
theorem dL_law_617 : decode cL_law 617 = .ok (.iload 5, 2) := by decide +kernel
theorem dL_law_619 : decode cL_law 619 = .ok (.iconst 1, 1) := by decide +kernel
theorem dL_law_620 : decode cL_law 620 = .ok (.iadd, 1) := by decide +kernel
theorem dL_law_621 : decode cL_law 621 = .ok (.iaload, 1) := by decide +kernel
theorem dL_law_622 : decode cL_law 622 = .ok (.aload_n 0, 1) := by decide +kernel
theorem dL_law_623 : decode cL_law 623 = .ok (.iload 5, 2) := by decide +kernel
theorem dL_law_625 : decode cL_law 625 = .ok (.iconst 2, 1) := by decide +kernel
theorem dL_law_626 : decode cL_law 626 = .ok (.iadd, 1) := by decide +kernel
theorem dL_law_627 : decode cL_law 627 = .ok (.iaload, 1) := by decide +kernel
theorem dL_law_628 : decode cL_law 628 = .ok (.i2c, 1) := by decide +kernel
theorem dL_law_629 : decode cL_law 629 = .ok (.invokevirtual 186, 3) := by decide +kernel
theorem dL_law_632 : decode cL_law 632 = .ok (.istore 7, 2) := by decide +kernel
theorem dL_law_634 : decode cL_law 634 = .ok (.aload_n 2, 1) := by decide +kernel
theorem dL_law_635 : decode cL_law 635 = .ok (.invokevirtual 165, 3) := by decide +kernel
theorem dL_law_638 : decode cL_law 638 = .ok (.iload 6, 2) := by decide +kernel
theorem dL_law_640 : decode cL_law 640 = .ok (.if_icmp .eq 5, 3) := by decide +kernel
theorem dL_law_645 : decode cL_law 645 = .ok (.iload 6, 2) := by decide +kernel
theorem dL_law_647 : decode cL_law 647 = .ok (.ifCond .ne 15, 3) := by decide +kernel
theorem dL_law_662 : decode cL_law 662 = .ok (.goto 2337, 3) := by decide +kernel
set_option maxHeartbeats 4000000 in
set_option maxRecDepth 100000 in
theorem zl_5 {p : Program} {e : Env} {s : State} {m : MethodId} {below : List Frame} {meth : Method} {c : Code} {Q : State → Prop} {args : Array Value} (l : Launch) (hnt : l.stackTraces = false) (D : va_G) (G : Nat × Nat × Nat) (xo : Nat) (xg : Nat) (xp : Nat) (xq : Nat) (r1 : Nat) (r2 : Nat) (r3 : Nat) (r4 : Nat) (se : Nat) (n1 : Nat) (n2 : Nat) (n3 : Nat) (mo : Nat) (gl : Nat) (po : Nat) (pi : Nat) (bu : Nat) (pa : Nat) (ou : Nat) (od : Nat) (cg : ClassId) (cp : ClassId) (cq : ClassId) (ci : ClassId) (cj : ClassId) (cJ : ClassId) (cD : ClassId) {b L : Nat} {xs : Nat → Int32} {A : Nat → Prop} {H : Heap} {locs : List Loc} {ls : Array Slot} (hx : p.tables.exec = Jvm.exec) (hb : c.code = code) (hml : c.maxLocals = 9) (hown : s.vm.findClass RL = some m.cls) (hts : ∀ w ∈ wzL_law, w.before args s = true) (hT : FT G s) (hA : ∀ q : Nat, s.heap.size ≤ q → A q) (hZ : FZ G A s s.heap) (hX : va_X b L xs s s.heap) (hbl : b < s.heap.size) (hbA : ¬ A b) (hL : L = 5) (hK : va_K D vwCl [(cg, .object "Gatherhouse$Glass"), (cp, .object "Gatherhouse$Pot"), (cq, .object "Gatherhouse$Piece"), (ci, .int), (cj, .int), (cJ, .long), (cD, .double)] s) (hP : va_P D vwCl [(xo, .inr (11, [.ref xg, .int 0, .ref xp, .int 0, .ref xq, .int 0, .ref r1, .ref r2, .ref r3, .ref r4, .ref se, .int 0, .int 0, .int 40, .int 0, .int 0])), (xg, .inl (cg, 6, .inr (.inr (.inr (.inr (fun _ => none)))))), (xp, .inl (cp, 4, .inr (.inr (.inr (.inr (fun _ => none)))))), (xq, .inl (cq, 16, .inr (.inr (.inr (.inr (fun _ => none)))))), (r1, .inr (9, [.int 0, .int 0])), (r2, .inr (9, [.int 0, .int 0])), (r3, .inr (9, [.int 0, .int 0])), (r4, .inr (9, [.int 0, .int 0])), (se, .inr (10, [.ref n1, .ref n2, .ref n3, .int 0, .int 0, .int 0, .int 0])), (mo, .inr (16, [.int 0, .ref gl, .ref po, .ref pi, .ref bu, .ref pa, .int 0, .int 0, .int 40, .int 0, .null, .int 0, .int 0])), (gl, .inr (4, [.int 0, .ref G.1, .int 0])), (po, .inr (4, [.int 0, .ref G.1, .int 0])), (pi, .inr (4, [.int 0, .ref G.1, .int 0])), (bu, .inl (ci, 4, .inl (fun _ => 0))), (pa, .inl (cj, 4, .inl (fun _ => 0))), (ou, .inl (cJ, 1, .inr (.inl (fun _ => 0)))), (od, .inl (cD, 1, .inr (.inr (.inr (.inl (fun _ => 0))))))] H) (hD : va_D A [(xo, .inr (11, [.ref xg, .int 0, .ref xp, .int 0, .ref xq, .int 0, .ref r1, .ref r2, .ref r3, .ref r4, .ref se, .int 0, .int 0, .int 40, .int 0, .int 0])), (xg, .inl (cg, 6, .inr (.inr (.inr (.inr (fun _ => none)))))), (xp, .inl (cp, 4, .inr (.inr (.inr (.inr (fun _ => none)))))), (xq, .inl (cq, 16, .inr (.inr (.inr (.inr (fun _ => none)))))), (r1, .inr (9, [.int 0, .int 0])), (r2, .inr (9, [.int 0, .int 0])), (r3, .inr (9, [.int 0, .int 0])), (r4, .inr (9, [.int 0, .int 0])), (se, .inr (10, [.ref n1, .ref n2, .ref n3, .int 0, .int 0, .int 0, .int 0])), (mo, .inr (16, [.int 0, .ref gl, .ref po, .ref pi, .ref bu, .ref pa, .int 0, .int 0, .int 40, .int 0, .null, .int 0, .int 0])), (gl, .inr (4, [.int 0, .ref G.1, .int 0])), (po, .inr (4, [.int 0, .ref G.1, .int 0])), (pi, .inr (4, [.int 0, .ref G.1, .int 0])), (bu, .inl (ci, 4, .inl (fun _ => 0))), (pa, .inl (cj, 4, .inl (fun _ => 0))), (ou, .inl (cJ, 1, .inr (.inl (fun _ => 0)))), (od, .inl (cD, 1, .inr (.inr (.inr (.inl (fun _ => 0))))))]) (hS : va_S A s.heap H locs) (hl : lv_has ls 9 [(5, .int 0), (4, .ref od), (3, .ref ou), (2, .ref mo), (1, .ref xo), (0, .ref b)]) (hE : ∀ (H : Heap) (locs : List Loc) (ls : Array Slot), va_S A s.heap H locs → lv_has ls 9 [(0, .ref b), (5, .int 0)] → W p l e room_1 s m args below meth c H locs 797152 6710780 Q (F0 m 2999 ls [])) : W p l e room_1 s m args below meth c H locs 60 300 Q (F0 m 595 ls []) := by
  have hP := hP.sub (ws' := [(xo, .inr (11, [.ref xg, .int 0, .ref xp, .int 0, .ref xq, .int 0, .ref r1, .ref r2, .ref r3, .ref r4, .ref se, .int 0, .int 0, .int 40, .int 0, .int 0])), (xp, .inl (cp, 4, .inr (.inr (.inr (.inr (fun _ => none)))))), (mo, .inr (16, [.int 0, .ref gl, .ref po, .ref pi, .ref bu, .ref pa, .int 0, .int 0, .int 40, .int 0, .null, .int 0, .int 0])), (po, .inr (4, [.int 0, .ref G.1, .int 0])), (ou, .inl (cJ, 1, .inr (.inl (fun _ => 0))))]) [0, 2, 9, 11, 15] rfl
  have hD := hD.sub (ws' := [(xo, .inr (11, [.ref xg, .int 0, .ref xp, .int 0, .ref xq, .int 0, .ref r1, .ref r2, .ref r3, .ref r4, .ref se, .int 0, .int 0, .int 40, .int 0, .int 0])), (xp, .inl (cp, 4, .inr (.inr (.inr (.inr (fun _ => none)))))), (mo, .inr (16, [.int 0, .ref gl, .ref po, .ref pi, .ref bu, .ref pa, .int 0, .int 0, .int 40, .int 0, .null, .int 0, .int 0])), (po, .inr (4, [.int 0, .ref G.1, .int 0])), (ou, .inl (cJ, 1, .inr (.inl (fun _ => 0))))]) [0, 2, 9, 11, 15] (by decide) rfl
  have hK := hK.sub (tys' := [(cp, .object "Gatherhouse$Pot"), (cJ, .long)]) [1, 5] rfl
  refine lv_aload_n hx hb dL_law_595 rfl (lv_at hl 4 rfl) ?_
  refine lv_aload_n hx hb dL_law_596 rfl (lv_at hl 5 rfl) ?_
  refine lv_iload hx hb dL_law_597 (lv_at hl 0 rfl) ?_
  refine lv_iconst (v := 1) hx hb dL_law_599 (by decide) ?_
  refine lv_iadd hx hb dL_law_600 ?_
  refine lv_topi (fun y_877 ey_877 => ?_)
  have ey_877 : y_877 = 1 := ey_877.trans (by decide +kernel)
  subst ey_877
  refine va_sld hx hb hX hbl hbA hS (vp_in_iff.mpr (by rw [hL]; decide +kernel)) dL_law_601 ?_
  refine lv_aload_n hx hb dL_law_602 rfl (lv_at hl 5 rfl) ?_
  refine lv_iload hx hb dL_law_603 (lv_at hl 0 rfl) ?_
  refine lv_iconst (v := 2) hx hb dL_law_605 (by decide) ?_
  refine lv_iadd hx hb dL_law_606 ?_
  refine lv_topi (fun y_878 ey_878 => ?_)
  have ey_878 : y_878 = 2 := ey_878.trans (by decide +kernel)
  subst ey_878
  refine va_sld hx hb hX hbl hbA hS (vp_in_iff.mpr (by rw [hL]; decide +kernel)) dL_law_607 ?_
  refine lv_i2c hx hb dL_law_608 rfl ?_
  refine lv_aload_n hx hb dL_law_609 rfl (lv_at hl 2 rfl) ?_
  have hFc := va_free (wc := [(xo, .inr (11, [.ref xg, .int 0, .ref xp, .int 0, .ref xq, .int 0, .ref r1, .ref r2, .ref r3, .ref r4, .ref se, .int 0, .int 0, .int 40, .int 0, .int 0])), (xp, .inl (cp, 4, .inr (.inr (.inr (.inr (fun _ => none)))))), (ou, .inl (cJ, 1, .inr (.inl (fun _ => 0))))]) hD hS hA [0, 1, 4] rfl
  refine vx_calli (vx_runSX (As := [.ref xo, .int (xs (1 : Int32).toNatClampNeg), .int (((xs (2 : Int32).toNatClampNeg).toUInt32 % 65536).toInt32), .ref ou]) (rest := []) ⟨hx, hb, hml, hown, hts⟩ (zc_L_of l hnt D G xo xg xp xq r1 r2 r3 r4 se 0 0 cp ou cJ (xs (1 : Int32).toNatClampNeg) (((xs (2 : Int32).toNatClampNeg).toUInt32 % 65536).toInt32) H.size) (vx_cwSW 4 hts gzL_law_L_of_183 rfl rfl rfl (by decide +kernel) ⟨(Nat.le_of_ble_eq_true rfl), (Nat.le_of_ble_eq_true rfl)⟩) ⟨p_RW_blind, (p_RW_at (tc := [(cp, .object "Gatherhouse$Pot"), (cJ, .long)]) (wc := [(xo, .inr (11, [.ref xg, .int 0, .ref xp, .int 0, .ref xq, .int 0, .ref r1, .ref r2, .ref r3, .ref r4, .ref se, .int 0, .int 0, .int 40, .int 0, .int 0])), (xp, .inl (cp, 4, .inr (.inr (.inr (.inr (fun _ => none)))))), (ou, .inl (cJ, 1, .inr (.inl (fun _ => 0))))]) hP hK hD hS hA hT hZ [0, 1, 4] [0, 1] rfl rfl (by decide) rfl [.ref xo, .int (xs (1 : Int32).toNatClampNeg), .int (((xs (2 : Int32).toNatClampNeg).toUInt32 % 65536).toInt32), .ref ou])⟩ rfl rfl hl.1 rfl (lv_room (Nat.le_of_ble_eq_true rfl)) dL_law_610 ⟨(Nat.le_of_ble_eq_true rfl), (Nat.le_of_ble_eq_true rfl)⟩) hS (fun q _ h => hFc q h) hFc (fun q _ h => hFc q h) (fun E ce q9 u t H locs ht hvm hpx hBX hz1 hk1 hS hce hcv hcl => ?_) (fun r_879 u t H locs ht hvm w_880 hB hz1 hk1 hS => ?_)
  · exact (show False from hBX).elim
  · obtain ⟨hP, hD, hK⟩ := q_join (D := D) (wc := [(xo, .inr (11, [.ref xg, .int 0, .ref xp, .int 0, .ref xq, .int 0, .ref r1, .ref r2, .ref r3, .ref r4, .ref se, .int 0, .int 0, .int 40, .int 0, .int 0])), (xp, .inl (cp, 4, .inr (.inr (.inr (.inr (fun _ => none)))))), (ou, .inl (cJ, 1, .inr (.inl (fun _ => 0))))]) (wr := [(mo, .inr (16, [.int 0, .ref gl, .ref po, .ref pi, .ref bu, .ref pa, .int 0, .int 0, .int 40, .int 0, .null, .int 0, .int 0])), (po, .inr (4, [.int 0, .ref G.1, .int 0]))]) (w1 := []) (tyr := [(cp, .object "Gatherhouse$Pot"), (cJ, .long)]) (ty1 := []) hP hD hK [0, 1, 4] [2, 3] [0, 1] rfl rfl (by decide) (by decide) rfl hFc hk1 ht hvm (q_none hK hvm)
    have hP : va_P D vwCl [(mo, .inr (16, [.int 0, .ref gl, .ref po, .ref pi, .ref bu, .ref pa, .int 0, .int 0, .int 40, .int 0, .null, .int 0, .int 0])), (po, .inr (4, [.int 0, .ref G.1, .int 0]))] H := hP
    have hD : va_D A [(mo, .inr (16, [.int 0, .ref gl, .ref po, .ref pi, .ref bu, .ref pa, .int 0, .int 0, .int 40, .int 0, .null, .int 0, .int 0])), (po, .inr (4, [.int 0, .ref G.1, .int 0]))] := hD
    have hK : va_K D vwCl [(cp, .object "Gatherhouse$Pot"), (cJ, .long)] s := hK
    refine W.widen (k := 61) (n := 306) (Nat.le_of_ble_eq_true rfl) (Nat.le_of_ble_eq_true rfl) ?_
    obtain rfl := w_880
    refine lv_istore (lv' := [(6, .int 1), (5, .int 0), (4, .ref od), (3, .ref ou), (2, .ref mo), (1, .ref xo), (0, .ref b)]) hx hb dL_law_613 hl (by decide) rfl (fun ls hl => ?_)
    refine lv_aload_n hx hb dL_law_615 rfl (lv_at hl 4 rfl) ?_
    refine lv_aload_n hx hb dL_law_616 rfl (lv_at hl 6 rfl) ?_
    refine lv_iload hx hb dL_law_617 (lv_at hl 1 rfl) ?_
    refine lv_iconst (v := 1) hx hb dL_law_619 (by decide) ?_
    refine lv_iadd hx hb dL_law_620 ?_
    refine lv_topi (fun y_881 ey_881 => ?_)
    have ey_881 : y_881 = 1 := ey_881.trans (by decide +kernel)
    subst ey_881
    refine va_sld hx hb hX hbl hbA hS (vp_in_iff.mpr (by rw [hL]; decide +kernel)) dL_law_621 ?_
    refine lv_aload_n hx hb dL_law_622 rfl (lv_at hl 6 rfl) ?_
    refine lv_iload hx hb dL_law_623 (lv_at hl 1 rfl) ?_
    refine lv_iconst (v := 2) hx hb dL_law_625 (by decide) ?_
    refine lv_iadd hx hb dL_law_626 ?_
    refine lv_topi (fun y_882 ey_882 => ?_)
    have ey_882 : y_882 = 2 := ey_882.trans (by decide +kernel)
    subst ey_882
    refine va_sld hx hb hX hbl hbA hS (vp_in_iff.mpr (by rw [hL]; decide +kernel)) dL_law_627 ?_
    refine lv_i2c hx hb dL_law_628 rfl ?_
    have hFc := va_free (wc := [(mo, .inr (16, [.int 0, .ref gl, .ref po, .ref pi, .ref bu, .ref pa, .int 0, .int 0, .int 40, .int 0, .null, .int 0, .int 0])), (po, .inr (4, [.int 0, .ref G.1, .int 0]))]) hD hS hA [0, 1] rfl
    refine va_calli (va_runV (As := [.int (xs (1 : Int32).toNatClampNeg), .int (((xs (2 : Int32).toNatClampNeg).toUInt32 % 65536).toInt32)]) (rest := []) ⟨hx, hb, hml, hown, hts⟩ (zc_X11_of l D G mo gl po pi bu pa 0 0 0 (xs (1 : Int32).toNatClampNeg) (((xs (2 : Int32).toNatClampNeg).toUInt32 % 65536).toInt32) H.size) (cwV 2 hts gzL_law_X11_of_186 rfl rfl rfl (by decide +kernel) ⟨(Nat.le_of_ble_eq_true rfl), (Nat.le_of_ble_eq_true rfl)⟩) ⟨p_RW_blind, va_recv hK hP (ci := 16) (q0 := 0) rfl rfl, (p_RW_at (tc := []) (wc := [(mo, .inr (16, [.int 0, .ref gl, .ref po, .ref pi, .ref bu, .ref pa, .int 0, .int 0, .int 40, .int 0, .null, .int 0, .int 0])), (po, .inr (4, [.int 0, .ref G.1, .int 0]))]) hP hK hD hS hA hT hZ [0, 1] [] rfl rfl (by decide) rfl [.ref mo, .int (xs (1 : Int32).toNatClampNeg), .int (((xs (2 : Int32).toNatClampNeg).toUInt32 % 65536).toInt32)])⟩ rfl rfl hl.1 rfl (lv_room (Nat.le_of_ble_eq_true rfl)) dL_law_629 ⟨(Nat.le_of_ble_eq_true rfl), (Nat.le_of_ble_eq_true rfl)⟩) hS (fun q _ h => hFc q h) hFc (fun r_883 u t H locs ht hvm w_884 hB hz1 hk1 hS => ?_)
    obtain ⟨hP, hD, hK⟩ := q_join (D := D) (wc := [(mo, .inr (16, [.int 0, .ref gl, .ref po, .ref pi, .ref bu, .ref pa, .int 0, .int 0, .int 40, .int 0, .null, .int 0, .int 0])), (po, .inr (4, [.int 0, .ref G.1, .int 0]))]) (wr := []) (w1 := [(mo, .inr (16, [.int 1, .ref gl, .ref po, .ref pi, .ref bu, .ref pa, .int 0, .int 0, .int 40, .int 0, .null, .int 0, .int 0])), (po, .inr (4, [.int 0, .ref G.1, .int 0]))]) (tyr := [(cp, .object "Gatherhouse$Pot"), (cJ, .long)]) (ty1 := []) hP hD hK [0, 1] [] [0, 1] rfl rfl (by decide) (by decide) rfl hFc hk1 ht hvm hB
    have hP : va_P D vwCl [(mo, .inr (16, [.int 1, .ref gl, .ref po, .ref pi, .ref bu, .ref pa, .int 0, .int 0, .int 40, .int 0, .null, .int 0, .int 0])), (po, .inr (4, [.int 0, .ref G.1, .int 0]))] H := hP
    have hD : va_D A [(mo, .inr (16, [.int 1, .ref gl, .ref po, .ref pi, .ref bu, .ref pa, .int 0, .int 0, .int 40, .int 0, .null, .int 0, .int 0])), (po, .inr (4, [.int 0, .ref G.1, .int 0]))] := hD
    have hK : va_K D vwCl [(cp, .object "Gatherhouse$Pot"), (cJ, .long)] s := hK
    obtain rfl := w_884
    refine lv_istore (lv' := [(7, .int 0), (6, .int 1), (5, .int 0), (4, .ref od), (3, .ref ou), (2, .ref mo), (1, .ref xo), (0, .ref b)]) hx hb dL_law_632 hl (by decide) rfl (fun ls hl => ?_)
    refine lv_aload_n hx hb dL_law_634 rfl (lv_at hl 5 rfl) ?_
    refine vp_callSi (va_runV (As := []) (rest := []) ⟨hx, hb, hml, hown, hts⟩ (zc_X11_thrown l D G mo gl po pi bu pa 1 0 0 40) (cwV 0 hts gzL_law_X11_thrown_165 rfl rfl rfl (by decide +kernel) ⟨(Nat.le_of_ble_eq_true rfl), (Nat.le_of_ble_eq_true rfl)⟩) ⟨p_RO_blind, va_recv hK hP (ci := 16) (q0 := 0) rfl rfl, (p_RO_at (tc := []) (wc := [(mo, .inr (16, [.int 1, .ref gl, .ref po, .ref pi, .ref bu, .ref pa, .int 0, .int 0, .int 40, .int 0, .null, .int 0, .int 0]))]) hP hK hT [0] [] rfl rfl [.ref mo])⟩ rfl rfl hl.1 rfl (lv_room (Nat.le_of_ble_eq_true rfl)) dL_law_635 ⟨(Nat.le_of_ble_eq_true rfl), (Nat.le_of_ble_eq_true rfl)⟩).run (fun r_885 w_886 => ?_)
    obtain rfl := w_886
    refine lv_iload hx hb dL_law_638 (lv_at hl 1 rfl) ?_
    refine lv_icmp_eq (tgt := 645) hx hb dL_law_640 (by decide) (fun _ => ?_) (fun cc => absurd (by decide) cc)
    refine lv_iload hx hb dL_law_645 (lv_at hl 1 rfl) ?_
    refine lv_if_ne (tgt := 662) hx hb dL_law_647 (by decide) (fun _ => ?_) (fun cc => absurd cc (by decide))
    refine lv_goto (tgt := 2999) hx hb dL_law_662 (by decide) ?_
    refine W.widen (k := 797152) (n := 6710780) (Nat.le_of_ble_eq_true rfl) (Nat.le_of_ble_eq_true rfl) ?_
    exact hE _ _ _ hS (lv_sub hl [7, 2] rfl)
theorem dL_law_665 : decode cL_law 665 = .ok (.aload_n 1, 1) := by decide +kernel
theorem dL_law_666 : decode cL_law 666 = .ok (.aload_n 0, 1) := by decide +kernel
theorem dL_law_667 : decode cL_law 667 = .ok (.iload 5, 2) := by decide +kernel
theorem dL_law_669 : decode cL_law 669 = .ok (.iconst 1, 1) := by decide +kernel
theorem dL_law_670 : decode cL_law 670 = .ok (.iadd, 1) := by decide +kernel
theorem dL_law_671 : decode cL_law 671 = .ok (.iaload, 1) := by decide +kernel
theorem dL_law_672 : decode cL_law 672 = .ok (.aload_n 3, 1) := by decide +kernel
theorem dL_law_673 : decode cL_law 673 = .ok (.invokestatic 187, 3) := by decide +kernel
theorem dL_law_676 : decode cL_law 676 = .ok (.istore 6, 2) := by decide +kernel
theorem dL_law_678 : decode cL_law 678 = .ok (.aload_n 2, 1) := by decide +kernel
theorem dL_law_679 : decode cL_law 679 = .ok (.aload_n 0, 1) := by decide +kernel
theorem dL_law_680 : decode cL_law 680 = .ok (.iload 5, 2) := by decide +kernel
theorem dL_law_682 : decode cL_law 682 = .ok (.iconst 1, 1) := by decide +kernel
theorem dL_law_683 : decode cL_law 683 = .ok (.iadd, 1) := by decide +kernel
theorem dL_law_684 : decode cL_law 684 = .ok (.iaload, 1) := by decide +kernel
theorem dL_law_685 : decode cL_law 685 = .ok (.invokevirtual 189, 3) := by decide +kernel
theorem dL_law_688 : decode cL_law 688 = .ok (.istore 7, 2) := by decide +kernel
theorem dL_law_690 : decode cL_law 690 = .ok (.aload_n 2, 1) := by decide +kernel
theorem dL_law_691 : decode cL_law 691 = .ok (.invokevirtual 165, 3) := by decide +kernel
theorem dL_law_694 : decode cL_law 694 = .ok (.iload 6, 2) := by decide +kernel
theorem dL_law_696 : decode cL_law 696 = .ok (.if_icmp .eq 5, 3) := by decide +kernel
theorem dL_law_701 : decode cL_law 701 = .ok (.iload 6, 2) := by decide +kernel
theorem dL_law_703 : decode cL_law 703 = .ok (.ifCond .ne 15, 3) := by decide +kernel
theorem dL_law_706 : decode cL_law 706 = .ok (.aload_n 3, 1) := by decide +kernel
theorem dL_law_707 : decode cL_law 707 = .ok (.iconst 0, 1) := by decide +kernel
theorem dL_law_708 : decode cL_law 708 = .ok (.laload, 1) := by decide +kernel
theorem dL_law_709 : decode cL_law 709 = .ok (.iload 7, 2) := by decide +kernel
theorem dL_law_711 : decode cL_law 711 = .ok (.i2l, 1) := by decide +kernel
theorem dL_law_712 : decode cL_law 712 = .ok (.lcmp, 1) := by decide +kernel
theorem dL_law_713 : decode cL_law 713 = .ok (.ifCond .eq 5, 3) := by decide +kernel
theorem dL_law_718 : decode cL_law 718 = .ok (.goto 2281, 3) := by decide +kernel
set_option maxHeartbeats 4000000 in
set_option maxRecDepth 100000 in
theorem zl_6 {p : Program} {e : Env} {s : State} {m : MethodId} {below : List Frame} {meth : Method} {c : Code} {Q : State → Prop} {args : Array Value} (l : Launch) (hnt : l.stackTraces = false) (D : va_G) (G : Nat × Nat × Nat) (xo : Nat) (xg : Nat) (xp : Nat) (xq : Nat) (r1 : Nat) (r2 : Nat) (r3 : Nat) (r4 : Nat) (se : Nat) (n1 : Nat) (n2 : Nat) (n3 : Nat) (mo : Nat) (gl : Nat) (po : Nat) (pi : Nat) (bu : Nat) (pa : Nat) (ou : Nat) (od : Nat) (cg : ClassId) (cp : ClassId) (cq : ClassId) (ci : ClassId) (cj : ClassId) (cJ : ClassId) (cD : ClassId) {b L : Nat} {xs : Nat → Int32} {A : Nat → Prop} {H : Heap} {locs : List Loc} {ls : Array Slot} (hx : p.tables.exec = Jvm.exec) (hb : c.code = code) (hml : c.maxLocals = 9) (hown : s.vm.findClass RL = some m.cls) (hts : ∀ w ∈ wzL_law, w.before args s = true) (hT : FT G s) (hA : ∀ q : Nat, s.heap.size ≤ q → A q) (hZ : FZ G A s s.heap) (hX : va_X b L xs s s.heap) (hbl : b < s.heap.size) (hbA : ¬ A b) (hL : L = 5) (hK : va_K D vwCl [(cg, .object "Gatherhouse$Glass"), (cp, .object "Gatherhouse$Pot"), (cq, .object "Gatherhouse$Piece"), (ci, .int), (cj, .int), (cJ, .long), (cD, .double)] s) (hP : va_P D vwCl [(xo, .inr (11, [.ref xg, .int 0, .ref xp, .int 0, .ref xq, .int 0, .ref r1, .ref r2, .ref r3, .ref r4, .ref se, .int 0, .int 0, .int 40, .int 0, .int 0])), (xg, .inl (cg, 6, .inr (.inr (.inr (.inr (fun _ => none)))))), (xp, .inl (cp, 4, .inr (.inr (.inr (.inr (fun _ => none)))))), (xq, .inl (cq, 16, .inr (.inr (.inr (.inr (fun _ => none)))))), (r1, .inr (9, [.int 0, .int 0])), (r2, .inr (9, [.int 0, .int 0])), (r3, .inr (9, [.int 0, .int 0])), (r4, .inr (9, [.int 0, .int 0])), (se, .inr (10, [.ref n1, .ref n2, .ref n3, .int 0, .int 0, .int 0, .int 0])), (mo, .inr (16, [.int 0, .ref gl, .ref po, .ref pi, .ref bu, .ref pa, .int 0, .int 0, .int 40, .int 0, .null, .int 0, .int 0])), (gl, .inr (4, [.int 0, .ref G.1, .int 0])), (po, .inr (4, [.int 0, .ref G.1, .int 0])), (pi, .inr (4, [.int 0, .ref G.1, .int 0])), (bu, .inl (ci, 4, .inl (fun _ => 0))), (pa, .inl (cj, 4, .inl (fun _ => 0))), (ou, .inl (cJ, 1, .inr (.inl (fun _ => 0)))), (od, .inl (cD, 1, .inr (.inr (.inr (.inl (fun _ => 0))))))] H) (hD : va_D A [(xo, .inr (11, [.ref xg, .int 0, .ref xp, .int 0, .ref xq, .int 0, .ref r1, .ref r2, .ref r3, .ref r4, .ref se, .int 0, .int 0, .int 40, .int 0, .int 0])), (xg, .inl (cg, 6, .inr (.inr (.inr (.inr (fun _ => none)))))), (xp, .inl (cp, 4, .inr (.inr (.inr (.inr (fun _ => none)))))), (xq, .inl (cq, 16, .inr (.inr (.inr (.inr (fun _ => none)))))), (r1, .inr (9, [.int 0, .int 0])), (r2, .inr (9, [.int 0, .int 0])), (r3, .inr (9, [.int 0, .int 0])), (r4, .inr (9, [.int 0, .int 0])), (se, .inr (10, [.ref n1, .ref n2, .ref n3, .int 0, .int 0, .int 0, .int 0])), (mo, .inr (16, [.int 0, .ref gl, .ref po, .ref pi, .ref bu, .ref pa, .int 0, .int 0, .int 40, .int 0, .null, .int 0, .int 0])), (gl, .inr (4, [.int 0, .ref G.1, .int 0])), (po, .inr (4, [.int 0, .ref G.1, .int 0])), (pi, .inr (4, [.int 0, .ref G.1, .int 0])), (bu, .inl (ci, 4, .inl (fun _ => 0))), (pa, .inl (cj, 4, .inl (fun _ => 0))), (ou, .inl (cJ, 1, .inr (.inl (fun _ => 0)))), (od, .inl (cD, 1, .inr (.inr (.inr (.inl (fun _ => 0))))))]) (hS : va_S A s.heap H locs) (hl : lv_has ls 9 [(5, .int 0), (4, .ref od), (3, .ref ou), (2, .ref mo), (1, .ref xo), (0, .ref b)]) (hE : ∀ (H : Heap) (locs : List Loc) (ls : Array Slot), va_S A s.heap H locs → lv_has ls 9 [(0, .ref b), (5, .int 0)] → W p l e room_1 s m args below meth c H locs 797152 6710780 Q (F0 m 2999 ls [])) : W p l e room_1 s m args below meth c H locs 60 300 Q (F0 m 665 ls []) := by
  have hP := hP.sub (ws' := [(xo, .inr (11, [.ref xg, .int 0, .ref xp, .int 0, .ref xq, .int 0, .ref r1, .ref r2, .ref r3, .ref r4, .ref se, .int 0, .int 0, .int 40, .int 0, .int 0])), (xp, .inl (cp, 4, .inr (.inr (.inr (.inr (fun _ => none)))))), (xq, .inl (cq, 16, .inr (.inr (.inr (.inr (fun _ => none)))))), (r1, .inr (9, [.int 0, .int 0])), (r2, .inr (9, [.int 0, .int 0])), (r3, .inr (9, [.int 0, .int 0])), (r4, .inr (9, [.int 0, .int 0])), (mo, .inr (16, [.int 0, .ref gl, .ref po, .ref pi, .ref bu, .ref pa, .int 0, .int 0, .int 40, .int 0, .null, .int 0, .int 0])), (po, .inr (4, [.int 0, .ref G.1, .int 0])), (pi, .inr (4, [.int 0, .ref G.1, .int 0])), (bu, .inl (ci, 4, .inl (fun _ => 0))), (ou, .inl (cJ, 1, .inr (.inl (fun _ => 0))))]) [0, 2, 3, 4, 5, 6, 7, 9, 11, 12, 13, 15] rfl
  have hD := hD.sub (ws' := [(xo, .inr (11, [.ref xg, .int 0, .ref xp, .int 0, .ref xq, .int 0, .ref r1, .ref r2, .ref r3, .ref r4, .ref se, .int 0, .int 0, .int 40, .int 0, .int 0])), (xp, .inl (cp, 4, .inr (.inr (.inr (.inr (fun _ => none)))))), (xq, .inl (cq, 16, .inr (.inr (.inr (.inr (fun _ => none)))))), (r1, .inr (9, [.int 0, .int 0])), (r2, .inr (9, [.int 0, .int 0])), (r3, .inr (9, [.int 0, .int 0])), (r4, .inr (9, [.int 0, .int 0])), (mo, .inr (16, [.int 0, .ref gl, .ref po, .ref pi, .ref bu, .ref pa, .int 0, .int 0, .int 40, .int 0, .null, .int 0, .int 0])), (po, .inr (4, [.int 0, .ref G.1, .int 0])), (pi, .inr (4, [.int 0, .ref G.1, .int 0])), (bu, .inl (ci, 4, .inl (fun _ => 0))), (ou, .inl (cJ, 1, .inr (.inl (fun _ => 0))))]) [0, 2, 3, 4, 5, 6, 7, 9, 11, 12, 13, 15] (by decide) rfl
  have hK := hK.sub (tys' := [(cp, .object "Gatherhouse$Pot"), (cq, .object "Gatherhouse$Piece"), (ci, .int), (cJ, .long)]) [1, 2, 3, 5] rfl
  refine lv_aload_n hx hb dL_law_665 rfl (lv_at hl 4 rfl) ?_
  refine lv_aload_n hx hb dL_law_666 rfl (lv_at hl 5 rfl) ?_
  refine lv_iload hx hb dL_law_667 (lv_at hl 0 rfl) ?_
  refine lv_iconst (v := 1) hx hb dL_law_669 (by decide) ?_
  refine lv_iadd hx hb dL_law_670 ?_
  refine lv_topi (fun y_887 ey_887 => ?_)
  have ey_887 : y_887 = 1 := ey_887.trans (by decide +kernel)
  subst ey_887
  refine va_sld hx hb hX hbl hbA hS (vp_in_iff.mpr (by rw [hL]; decide +kernel)) dL_law_671 ?_
  refine lv_aload_n hx hb dL_law_672 rfl (lv_at hl 2 rfl) ?_
  have hFc := va_free (wc := [(xo, .inr (11, [.ref xg, .int 0, .ref xp, .int 0, .ref xq, .int 0, .ref r1, .ref r2, .ref r3, .ref r4, .ref se, .int 0, .int 0, .int 40, .int 0, .int 0])), (xp, .inl (cp, 4, .inr (.inr (.inr (.inr (fun _ => none)))))), (xq, .inl (cq, 16, .inr (.inr (.inr (.inr (fun _ => none)))))), (r1, .inr (9, [.int 0, .int 0])), (r2, .inr (9, [.int 0, .int 0])), (r3, .inr (9, [.int 0, .int 0])), (r4, .inr (9, [.int 0, .int 0])), (ou, .inl (cJ, 1, .inr (.inl (fun _ => 0))))]) hD hS hA [0, 1, 2, 3, 4, 5, 6, 11] rfl
  refine vx_calli (vx_runSX (As := [.ref xo, .int (xs (1 : Int32).toNatClampNeg), .ref ou]) (rest := []) ⟨hx, hb, hml, hown, hts⟩ (zc_L_hours l hnt D G xo xg xp xq r1 r2 r3 r4 se 0 0 cp cq ou cJ (xs (1 : Int32).toNatClampNeg) H.size) (vx_cwSW 3 hts gzL_law_L_hours_187 rfl rfl rfl (by decide +kernel) ⟨(Nat.le_of_ble_eq_true rfl), (Nat.le_of_ble_eq_true rfl)⟩) ⟨p_RW_blind, (p_RW_at (tc := [(cp, .object "Gatherhouse$Pot"), (cq, .object "Gatherhouse$Piece"), (cJ, .long)]) (wc := [(xo, .inr (11, [.ref xg, .int 0, .ref xp, .int 0, .ref xq, .int 0, .ref r1, .ref r2, .ref r3, .ref r4, .ref se, .int 0, .int 0, .int 40, .int 0, .int 0])), (xp, .inl (cp, 4, .inr (.inr (.inr (.inr (fun _ => none)))))), (xq, .inl (cq, 16, .inr (.inr (.inr (.inr (fun _ => none)))))), (r1, .inr (9, [.int 0, .int 0])), (r2, .inr (9, [.int 0, .int 0])), (r3, .inr (9, [.int 0, .int 0])), (r4, .inr (9, [.int 0, .int 0])), (ou, .inl (cJ, 1, .inr (.inl (fun _ => 0))))]) hP hK hD hS hA hT hZ [0, 1, 2, 3, 4, 5, 6, 11] [0, 1, 3] rfl rfl (by decide) rfl [.ref xo, .int (xs (1 : Int32).toNatClampNeg), .ref ou])⟩ rfl rfl hl.1 rfl (lv_room (Nat.le_of_ble_eq_true rfl)) dL_law_673 ⟨(Nat.le_of_ble_eq_true rfl), (Nat.le_of_ble_eq_true rfl)⟩) hS (fun q _ h => hFc q h) hFc (fun q _ h => hFc q h) (fun E ce q9 u t H locs ht hvm hpx hBX hz1 hk1 hS hce hcv hcl => ?_) (fun r_888 u t H locs ht hvm w_889 hB hz1 hk1 hS => ?_)
  · exact (show False from hBX).elim
  · obtain ⟨u_890, rfl⟩ : ∃ z, z = u := ⟨_, rfl⟩
    obtain ⟨hP, hD, hK⟩ := q_join (D := D) (wc := [(xo, .inr (11, [.ref xg, .int 0, .ref xp, .int 0, .ref xq, .int 0, .ref r1, .ref r2, .ref r3, .ref r4, .ref se, .int 0, .int 0, .int 40, .int 0, .int 0])), (xp, .inl (cp, 4, .inr (.inr (.inr (.inr (fun _ => none)))))), (xq, .inl (cq, 16, .inr (.inr (.inr (.inr (fun _ => none)))))), (r1, .inr (9, [.int 0, .int 0])), (r2, .inr (9, [.int 0, .int 0])), (r3, .inr (9, [.int 0, .int 0])), (r4, .inr (9, [.int 0, .int 0])), (ou, .inl (cJ, 1, .inr (.inl (fun _ => 0))))]) (wr := [(mo, .inr (16, [.int 0, .ref gl, .ref po, .ref pi, .ref bu, .ref pa, .int 0, .int 0, .int 40, .int 0, .null, .int 0, .int 0])), (po, .inr (4, [.int 0, .ref G.1, .int 0])), (pi, .inr (4, [.int 0, .ref G.1, .int 0])), (bu, .inl (ci, 4, .inl (fun _ => 0)))]) (w1 := [(ou, .inl (cJ, 1, .inr (.inl u_890)))]) (tyr := [(cp, .object "Gatherhouse$Pot"), (cq, .object "Gatherhouse$Piece"), (ci, .int)]) (ty1 := [(cJ, .long)]) hP hD hK [0, 1, 2, 3, 4, 5, 6, 11] [7, 8, 9, 10] [0, 1, 2] rfl rfl (by decide) (by decide) rfl hFc hk1 ht hvm hB
    have hP : va_P D vwCl [(mo, .inr (16, [.int 0, .ref gl, .ref po, .ref pi, .ref bu, .ref pa, .int 0, .int 0, .int 40, .int 0, .null, .int 0, .int 0])), (po, .inr (4, [.int 0, .ref G.1, .int 0])), (pi, .inr (4, [.int 0, .ref G.1, .int 0])), (bu, .inl (ci, 4, .inl (fun _ => 0))), (ou, .inl (cJ, 1, .inr (.inl u_890)))] H := hP
    have hD : va_D A [(mo, .inr (16, [.int 0, .ref gl, .ref po, .ref pi, .ref bu, .ref pa, .int 0, .int 0, .int 40, .int 0, .null, .int 0, .int 0])), (po, .inr (4, [.int 0, .ref G.1, .int 0])), (pi, .inr (4, [.int 0, .ref G.1, .int 0])), (bu, .inl (ci, 4, .inl (fun _ => 0))), (ou, .inl (cJ, 1, .inr (.inl u_890)))] := hD
    have hK : va_K D vwCl [(cp, .object "Gatherhouse$Pot"), (cq, .object "Gatherhouse$Piece"), (ci, .int), (cJ, .long)] s := hK
    refine W.widen (k := 61) (n := 306) (Nat.le_of_ble_eq_true rfl) (Nat.le_of_ble_eq_true rfl) ?_
    rcases w_889 with ⟨c_891, c_892, rfl⟩ | ⟨c_893, rfl⟩
    · refine lv_istore (lv' := [(6, .int 0), (5, .int 0), (4, .ref od), (3, .ref ou), (2, .ref mo), (1, .ref xo), (0, .ref b)]) hx hb dL_law_676 hl (by decide) rfl (fun ls hl => ?_)
      refine lv_aload_n hx hb dL_law_678 rfl (lv_at hl 4 rfl) ?_
      refine lv_aload_n hx hb dL_law_679 rfl (lv_at hl 6 rfl) ?_
      refine lv_iload hx hb dL_law_680 (lv_at hl 1 rfl) ?_
      refine lv_iconst (v := 1) hx hb dL_law_682 (by decide) ?_
      refine lv_iadd hx hb dL_law_683 ?_
      refine lv_topi (fun y_894 ey_894 => ?_)
      have ey_894 : y_894 = 1 := ey_894.trans (by decide +kernel)
      subst ey_894
      refine va_sld hx hb hX hbl hbA hS (vp_in_iff.mpr (by rw [hL]; decide +kernel)) dL_law_684 ?_
      have hFc := va_free (wc := [(mo, .inr (16, [.int 0, .ref gl, .ref po, .ref pi, .ref bu, .ref pa, .int 0, .int 0, .int 40, .int 0, .null, .int 0, .int 0])), (po, .inr (4, [.int 0, .ref G.1, .int 0])), (pi, .inr (4, [.int 0, .ref G.1, .int 0])), (bu, .inl (ci, 4, .inl (fun _ => 0)))]) hD hS hA [0, 1, 2, 3] rfl
      refine va_calli (va_runV (As := [.int (xs (1 : Int32).toNatClampNeg)]) (rest := []) ⟨hx, hb, hml, hown, hts⟩ (zc_X11_hours l D G mo gl po pi bu pa 0 0 0 ci (xs (1 : Int32).toNatClampNeg) H.size) (cwV 1 hts gzL_law_X11_hours_189 rfl rfl rfl (by decide +kernel) ⟨(Nat.le_of_ble_eq_true rfl), (Nat.le_of_ble_eq_true rfl)⟩) ⟨p_RW_blind, va_recv hK hP (ci := 16) (q0 := 0) rfl rfl, (p_RW_at (tc := [(ci, .int)]) (wc := [(mo, .inr (16, [.int 0, .ref gl, .ref po, .ref pi, .ref bu, .ref pa, .int 0, .int 0, .int 40, .int 0, .null, .int 0, .int 0])), (po, .inr (4, [.int 0, .ref G.1, .int 0])), (pi, .inr (4, [.int 0, .ref G.1, .int 0])), (bu, .inl (ci, 4, .inl (fun _ => 0)))]) hP hK hD hS hA hT hZ [0, 1, 2, 3] [2] rfl rfl (by decide) rfl [.ref mo, .int (xs (1 : Int32).toNatClampNeg)])⟩ rfl rfl hl.1 rfl (lv_room (Nat.le_of_ble_eq_true rfl)) dL_law_685 ⟨(Nat.le_of_ble_eq_true rfl), (Nat.le_of_ble_eq_true rfl)⟩) hS (fun q _ h => hFc q h) hFc (fun r_895 u t H locs ht hvm w_896 hB hz1 hk1 hS => ?_)
      obtain ⟨u_897, u_898⟩ := u
      obtain ⟨hP, hD, hK⟩ := q_join (D := D) (wc := [(mo, .inr (16, [.int 0, .ref gl, .ref po, .ref pi, .ref bu, .ref pa, .int 0, .int 0, .int 40, .int 0, .null, .int 0, .int 0])), (po, .inr (4, [.int 0, .ref G.1, .int 0])), (pi, .inr (4, [.int 0, .ref G.1, .int 0])), (bu, .inl (ci, 4, .inl (fun _ => 0)))]) (wr := [(ou, .inl (cJ, 1, .inr (.inl u_890)))]) (w1 := [(mo, .inr (16, [.int u_897, .ref gl, .ref po, .ref pi, .ref bu, .ref pa, .int 0, .int u_898, .int 40, .int 0, .null, .int 0, .int 0]))]) (tyr := [(cp, .object "Gatherhouse$Pot"), (cq, .object "Gatherhouse$Piece"), (cJ, .long)]) (ty1 := [(ci, .int)]) hP hD hK [0, 1, 2, 3] [4] [0, 1, 3] rfl rfl (by decide) (by decide) rfl hFc hk1 ht hvm hB
      have hP : va_P D vwCl [(ou, .inl (cJ, 1, .inr (.inl u_890))), (mo, .inr (16, [.int u_897, .ref gl, .ref po, .ref pi, .ref bu, .ref pa, .int 0, .int u_898, .int 40, .int 0, .null, .int 0, .int 0]))] H := hP
      have hD : va_D A [(ou, .inl (cJ, 1, .inr (.inl u_890))), (mo, .inr (16, [.int u_897, .ref gl, .ref po, .ref pi, .ref bu, .ref pa, .int 0, .int u_898, .int 40, .int 0, .null, .int 0, .int 0]))] := hD
      have hK : va_K D vwCl [(cp, .object "Gatherhouse$Pot"), (cq, .object "Gatherhouse$Piece"), (cJ, .long), (ci, .int)] s := hK
      refine W.widen (k := 4382) (n := 17590) (Nat.le_of_ble_eq_true rfl) (Nat.le_of_ble_eq_true rfl) ?_
      rcases w_896 with ⟨c_899, rfl, rfl⟩ | ⟨c_900, rfl, rfl⟩
      · refine lv_istore (lv' := [(7, .int 0), (6, .int 0), (5, .int 0), (4, .ref od), (3, .ref ou), (2, .ref mo), (1, .ref xo), (0, .ref b)]) hx hb dL_law_688 hl (by decide) rfl (fun ls hl => ?_)
        refine lv_aload_n hx hb dL_law_690 rfl (lv_at hl 5 rfl) ?_
        refine vp_callSi (va_runV (As := []) (rest := []) ⟨hx, hb, hml, hown, hts⟩ (zc_X11_thrown l D G mo gl po pi bu pa 0 u_898 0 40) (cwV 0 hts gzL_law_X11_thrown_165 rfl rfl rfl (by decide +kernel) ⟨(Nat.le_of_ble_eq_true rfl), (Nat.le_of_ble_eq_true rfl)⟩) ⟨p_RO_blind, va_recv hK hP (ci := 16) (q0 := 1) rfl rfl, (p_RO_at (tc := []) (wc := [(mo, .inr (16, [.int 0, .ref gl, .ref po, .ref pi, .ref bu, .ref pa, .int 0, .int u_898, .int 40, .int 0, .null, .int 0, .int 0]))]) hP hK hT [1] [] rfl rfl [.ref mo])⟩ rfl rfl hl.1 rfl (lv_room (Nat.le_of_ble_eq_true rfl)) dL_law_691 ⟨(Nat.le_of_ble_eq_true rfl), (Nat.le_of_ble_eq_true rfl)⟩).run (fun r_901 w_902 => ?_)
        obtain rfl := w_902
        refine lv_iload hx hb dL_law_694 (lv_at hl 1 rfl) ?_
        refine lv_icmp_eq (tgt := 701) hx hb dL_law_696 (by decide) (fun _ => ?_) (fun cc => absurd (by decide) cc)
        refine lv_iload hx hb dL_law_701 (lv_at hl 1 rfl) ?_
        refine lv_if_ne (tgt := 718) hx hb dL_law_703 (by decide) (fun cc => absurd (by decide) cc) (fun _ => ?_)
        refine lv_aload_n hx hb dL_law_706 rfl (lv_at hl 4 rfl) ?_
        refine lv_iconst (v := 0) hx hb dL_law_707 (by decide) ?_
        refine va_lald (D := D) (cl := vwCl) hx hb hK hP 0 2 rfl rfl (vp_in_nI (n := 0) (N := 1) (by decide) (by decide)) dL_law_708 ?_
        refine lv_topl (fun y_903 ey_903 => ?_)
        have ey_903 : y_903 = 0 := ey_903.trans c_892
        subst ey_903
        refine lv_iload hx hb dL_law_709 (lv_at hl 0 rfl) ?_
        refine lv_i2l (v := 0) hx hb dL_law_711 (by decide) ?_
        refine W.lcmp hx hb dL_law_712 ?_
        refine lv_topi (fun y_904 ey_904 => ?_)
        have ey_904 : y_904 = 0 := ey_904.trans (by decide +kernel)
        subst ey_904
        refine lv_if_eq (tgt := 718) hx hb dL_law_713 (by decide) (fun _ => ?_) (fun cc => absurd (by decide) cc)
        refine lv_goto (tgt := 2999) hx hb dL_law_718 (by decide) ?_
        refine W.widen (k := 797152) (n := 6710780) (Nat.le_of_ble_eq_true rfl) (Nat.le_of_ble_eq_true rfl) ?_
        exact hE _ _ _ hS (lv_sub hl [7, 2] rfl)
      · exact absurd c_891 c_900
    · refine lv_istore (lv' := [(6, .int 1), (5, .int 0), (4, .ref od), (3, .ref ou), (2, .ref mo), (1, .ref xo), (0, .ref b)]) hx hb dL_law_676 hl (by decide) rfl (fun ls hl => ?_)
      refine lv_aload_n hx hb dL_law_678 rfl (lv_at hl 4 rfl) ?_
      refine lv_aload_n hx hb dL_law_679 rfl (lv_at hl 6 rfl) ?_
      refine lv_iload hx hb dL_law_680 (lv_at hl 1 rfl) ?_
      refine lv_iconst (v := 1) hx hb dL_law_682 (by decide) ?_
      refine lv_iadd hx hb dL_law_683 ?_
      refine lv_topi (fun y_905 ey_905 => ?_)
      have ey_905 : y_905 = 1 := ey_905.trans (by decide +kernel)
      subst ey_905
      refine va_sld hx hb hX hbl hbA hS (vp_in_iff.mpr (by rw [hL]; decide +kernel)) dL_law_684 ?_
      have hFc := va_free (wc := [(mo, .inr (16, [.int 0, .ref gl, .ref po, .ref pi, .ref bu, .ref pa, .int 0, .int 0, .int 40, .int 0, .null, .int 0, .int 0])), (po, .inr (4, [.int 0, .ref G.1, .int 0])), (pi, .inr (4, [.int 0, .ref G.1, .int 0])), (bu, .inl (ci, 4, .inl (fun _ => 0)))]) hD hS hA [0, 1, 2, 3] rfl
      refine va_calli (va_runV (As := [.int (xs (1 : Int32).toNatClampNeg)]) (rest := []) ⟨hx, hb, hml, hown, hts⟩ (zc_X11_hours l D G mo gl po pi bu pa 0 0 0 ci (xs (1 : Int32).toNatClampNeg) H.size) (cwV 1 hts gzL_law_X11_hours_189 rfl rfl rfl (by decide +kernel) ⟨(Nat.le_of_ble_eq_true rfl), (Nat.le_of_ble_eq_true rfl)⟩) ⟨p_RW_blind, va_recv hK hP (ci := 16) (q0 := 0) rfl rfl, (p_RW_at (tc := [(ci, .int)]) (wc := [(mo, .inr (16, [.int 0, .ref gl, .ref po, .ref pi, .ref bu, .ref pa, .int 0, .int 0, .int 40, .int 0, .null, .int 0, .int 0])), (po, .inr (4, [.int 0, .ref G.1, .int 0])), (pi, .inr (4, [.int 0, .ref G.1, .int 0])), (bu, .inl (ci, 4, .inl (fun _ => 0)))]) hP hK hD hS hA hT hZ [0, 1, 2, 3] [2] rfl rfl (by decide) rfl [.ref mo, .int (xs (1 : Int32).toNatClampNeg)])⟩ rfl rfl hl.1 rfl (lv_room (Nat.le_of_ble_eq_true rfl)) dL_law_685 ⟨(Nat.le_of_ble_eq_true rfl), (Nat.le_of_ble_eq_true rfl)⟩) hS (fun q _ h => hFc q h) hFc (fun r_906 u t H locs ht hvm w_907 hB hz1 hk1 hS => ?_)
      obtain ⟨u_908, u_909⟩ := u
      obtain ⟨hP, hD, hK⟩ := q_join (D := D) (wc := [(mo, .inr (16, [.int 0, .ref gl, .ref po, .ref pi, .ref bu, .ref pa, .int 0, .int 0, .int 40, .int 0, .null, .int 0, .int 0])), (po, .inr (4, [.int 0, .ref G.1, .int 0])), (pi, .inr (4, [.int 0, .ref G.1, .int 0])), (bu, .inl (ci, 4, .inl (fun _ => 0)))]) (wr := [(ou, .inl (cJ, 1, .inr (.inl u_890)))]) (w1 := [(mo, .inr (16, [.int u_908, .ref gl, .ref po, .ref pi, .ref bu, .ref pa, .int 0, .int u_909, .int 40, .int 0, .null, .int 0, .int 0]))]) (tyr := [(cp, .object "Gatherhouse$Pot"), (cq, .object "Gatherhouse$Piece"), (cJ, .long)]) (ty1 := [(ci, .int)]) hP hD hK [0, 1, 2, 3] [4] [0, 1, 3] rfl rfl (by decide) (by decide) rfl hFc hk1 ht hvm hB
      have hP : va_P D vwCl [(ou, .inl (cJ, 1, .inr (.inl u_890))), (mo, .inr (16, [.int u_908, .ref gl, .ref po, .ref pi, .ref bu, .ref pa, .int 0, .int u_909, .int 40, .int 0, .null, .int 0, .int 0]))] H := hP
      have hD : va_D A [(ou, .inl (cJ, 1, .inr (.inl u_890))), (mo, .inr (16, [.int u_908, .ref gl, .ref po, .ref pi, .ref bu, .ref pa, .int 0, .int u_909, .int 40, .int 0, .null, .int 0, .int 0]))] := hD
      have hK : va_K D vwCl [(cp, .object "Gatherhouse$Pot"), (cq, .object "Gatherhouse$Piece"), (cJ, .long), (ci, .int)] s := hK
      refine W.widen (k := 4382) (n := 17590) (Nat.le_of_ble_eq_true rfl) (Nat.le_of_ble_eq_true rfl) ?_
      rcases w_907 with ⟨c_910, rfl, rfl⟩ | ⟨c_911, rfl, rfl⟩
      · exact absurd c_910 c_893
      · refine lv_istore (lv' := [(7, .int 0), (6, .int 1), (5, .int 0), (4, .ref od), (3, .ref ou), (2, .ref mo), (1, .ref xo), (0, .ref b)]) hx hb dL_law_688 hl (by decide) rfl (fun ls hl => ?_)
        refine lv_aload_n hx hb dL_law_690 rfl (lv_at hl 5 rfl) ?_
        refine vp_callSi (va_runV (As := []) (rest := []) ⟨hx, hb, hml, hown, hts⟩ (zc_X11_thrown l D G mo gl po pi bu pa 1 u_909 0 40) (cwV 0 hts gzL_law_X11_thrown_165 rfl rfl rfl (by decide +kernel) ⟨(Nat.le_of_ble_eq_true rfl), (Nat.le_of_ble_eq_true rfl)⟩) ⟨p_RO_blind, va_recv hK hP (ci := 16) (q0 := 1) rfl rfl, (p_RO_at (tc := []) (wc := [(mo, .inr (16, [.int 1, .ref gl, .ref po, .ref pi, .ref bu, .ref pa, .int 0, .int u_909, .int 40, .int 0, .null, .int 0, .int 0]))]) hP hK hT [1] [] rfl rfl [.ref mo])⟩ rfl rfl hl.1 rfl (lv_room (Nat.le_of_ble_eq_true rfl)) dL_law_691 ⟨(Nat.le_of_ble_eq_true rfl), (Nat.le_of_ble_eq_true rfl)⟩).run (fun r_912 w_913 => ?_)
        obtain rfl := w_913
        refine lv_iload hx hb dL_law_694 (lv_at hl 1 rfl) ?_
        refine lv_icmp_eq (tgt := 701) hx hb dL_law_696 (by decide) (fun _ => ?_) (fun cc => absurd (by decide) cc)
        refine lv_iload hx hb dL_law_701 (lv_at hl 1 rfl) ?_
        refine lv_if_ne (tgt := 718) hx hb dL_law_703 (by decide) (fun _ => ?_) (fun cc => absurd cc (by decide))
        refine lv_goto (tgt := 2999) hx hb dL_law_718 (by decide) ?_
        refine W.widen (k := 797152) (n := 6710780) (Nat.le_of_ble_eq_true rfl) (Nat.le_of_ble_eq_true rfl) ?_
        exact hE _ _ _ hS (lv_sub hl [7, 2] rfl)
theorem dL_law_721 : decode cL_law 721 = .ok (.aload_n 1, 1) := by decide +kernel
theorem dL_law_722 : decode cL_law 722 = .ok (.aload_n 0, 1) := by decide +kernel
theorem dL_law_723 : decode cL_law 723 = .ok (.iload 5, 2) := by decide +kernel
theorem dL_law_725 : decode cL_law 725 = .ok (.iconst 1, 1) := by decide +kernel
theorem dL_law_726 : decode cL_law 726 = .ok (.iadd, 1) := by decide +kernel
theorem dL_law_727 : decode cL_law 727 = .ok (.iaload, 1) := by decide +kernel
theorem dL_law_728 : decode cL_law 728 = .ok (.aload_n 3, 1) := by decide +kernel
theorem dL_law_729 : decode cL_law 729 = .ok (.invokestatic 190, 3) := by decide +kernel
theorem dL_law_732 : decode cL_law 732 = .ok (.istore 6, 2) := by decide +kernel
theorem dL_law_734 : decode cL_law 734 = .ok (.aload_n 2, 1) := by decide +kernel
theorem dL_law_735 : decode cL_law 735 = .ok (.aload_n 0, 1) := by decide +kernel
theorem dL_law_736 : decode cL_law 736 = .ok (.iload 5, 2) := by decide +kernel
theorem dL_law_738 : decode cL_law 738 = .ok (.iconst 1, 1) := by decide +kernel
theorem dL_law_739 : decode cL_law 739 = .ok (.iadd, 1) := by decide +kernel
theorem dL_law_740 : decode cL_law 740 = .ok (.iaload, 1) := by decide +kernel
theorem dL_law_741 : decode cL_law 741 = .ok (.invokevirtual 192, 3) := by decide +kernel
theorem dL_law_744 : decode cL_law 744 = .ok (.istore 7, 2) := by decide +kernel
theorem dL_law_746 : decode cL_law 746 = .ok (.aload_n 2, 1) := by decide +kernel
theorem dL_law_747 : decode cL_law 747 = .ok (.invokevirtual 165, 3) := by decide +kernel
theorem dL_law_750 : decode cL_law 750 = .ok (.iload 6, 2) := by decide +kernel
theorem dL_law_752 : decode cL_law 752 = .ok (.if_icmp .eq 5, 3) := by decide +kernel
theorem dL_law_757 : decode cL_law 757 = .ok (.iload 6, 2) := by decide +kernel
theorem dL_law_759 : decode cL_law 759 = .ok (.ifCond .ne 15, 3) := by decide +kernel
theorem dL_law_762 : decode cL_law 762 = .ok (.aload_n 3, 1) := by decide +kernel
theorem dL_law_763 : decode cL_law 763 = .ok (.iconst 0, 1) := by decide +kernel
theorem dL_law_764 : decode cL_law 764 = .ok (.laload, 1) := by decide +kernel
theorem dL_law_765 : decode cL_law 765 = .ok (.iload 7, 2) := by decide +kernel
theorem dL_law_767 : decode cL_law 767 = .ok (.i2l, 1) := by decide +kernel
theorem dL_law_768 : decode cL_law 768 = .ok (.lcmp, 1) := by decide +kernel
theorem dL_law_769 : decode cL_law 769 = .ok (.ifCond .eq 5, 3) := by decide +kernel
theorem dL_law_774 : decode cL_law 774 = .ok (.goto 2225, 3) := by decide +kernel
set_option maxHeartbeats 4000000 in
set_option maxRecDepth 100000 in
theorem zl_7 {p : Program} {e : Env} {s : State} {m : MethodId} {below : List Frame} {meth : Method} {c : Code} {Q : State → Prop} {args : Array Value} (l : Launch) (hnt : l.stackTraces = false) (D : va_G) (G : Nat × Nat × Nat) (xo : Nat) (xg : Nat) (xp : Nat) (xq : Nat) (r1 : Nat) (r2 : Nat) (r3 : Nat) (r4 : Nat) (se : Nat) (n1 : Nat) (n2 : Nat) (n3 : Nat) (mo : Nat) (gl : Nat) (po : Nat) (pi : Nat) (bu : Nat) (pa : Nat) (ou : Nat) (od : Nat) (cg : ClassId) (cp : ClassId) (cq : ClassId) (ci : ClassId) (cj : ClassId) (cJ : ClassId) (cD : ClassId) {b L : Nat} {xs : Nat → Int32} {A : Nat → Prop} {H : Heap} {locs : List Loc} {ls : Array Slot} (hx : p.tables.exec = Jvm.exec) (hb : c.code = code) (hml : c.maxLocals = 9) (hown : s.vm.findClass RL = some m.cls) (hts : ∀ w ∈ wzL_law, w.before args s = true) (hT : FT G s) (hA : ∀ q : Nat, s.heap.size ≤ q → A q) (hZ : FZ G A s s.heap) (hX : va_X b L xs s s.heap) (hbl : b < s.heap.size) (hbA : ¬ A b) (hL : L = 5) (hK : va_K D vwCl [(cg, .object "Gatherhouse$Glass"), (cp, .object "Gatherhouse$Pot"), (cq, .object "Gatherhouse$Piece"), (ci, .int), (cj, .int), (cJ, .long), (cD, .double)] s) (hP : va_P D vwCl [(xo, .inr (11, [.ref xg, .int 0, .ref xp, .int 0, .ref xq, .int 0, .ref r1, .ref r2, .ref r3, .ref r4, .ref se, .int 0, .int 0, .int 40, .int 0, .int 0])), (xg, .inl (cg, 6, .inr (.inr (.inr (.inr (fun _ => none)))))), (xp, .inl (cp, 4, .inr (.inr (.inr (.inr (fun _ => none)))))), (xq, .inl (cq, 16, .inr (.inr (.inr (.inr (fun _ => none)))))), (r1, .inr (9, [.int 0, .int 0])), (r2, .inr (9, [.int 0, .int 0])), (r3, .inr (9, [.int 0, .int 0])), (r4, .inr (9, [.int 0, .int 0])), (se, .inr (10, [.ref n1, .ref n2, .ref n3, .int 0, .int 0, .int 0, .int 0])), (mo, .inr (16, [.int 0, .ref gl, .ref po, .ref pi, .ref bu, .ref pa, .int 0, .int 0, .int 40, .int 0, .null, .int 0, .int 0])), (gl, .inr (4, [.int 0, .ref G.1, .int 0])), (po, .inr (4, [.int 0, .ref G.1, .int 0])), (pi, .inr (4, [.int 0, .ref G.1, .int 0])), (bu, .inl (ci, 4, .inl (fun _ => 0))), (pa, .inl (cj, 4, .inl (fun _ => 0))), (ou, .inl (cJ, 1, .inr (.inl (fun _ => 0)))), (od, .inl (cD, 1, .inr (.inr (.inr (.inl (fun _ => 0))))))] H) (hD : va_D A [(xo, .inr (11, [.ref xg, .int 0, .ref xp, .int 0, .ref xq, .int 0, .ref r1, .ref r2, .ref r3, .ref r4, .ref se, .int 0, .int 0, .int 40, .int 0, .int 0])), (xg, .inl (cg, 6, .inr (.inr (.inr (.inr (fun _ => none)))))), (xp, .inl (cp, 4, .inr (.inr (.inr (.inr (fun _ => none)))))), (xq, .inl (cq, 16, .inr (.inr (.inr (.inr (fun _ => none)))))), (r1, .inr (9, [.int 0, .int 0])), (r2, .inr (9, [.int 0, .int 0])), (r3, .inr (9, [.int 0, .int 0])), (r4, .inr (9, [.int 0, .int 0])), (se, .inr (10, [.ref n1, .ref n2, .ref n3, .int 0, .int 0, .int 0, .int 0])), (mo, .inr (16, [.int 0, .ref gl, .ref po, .ref pi, .ref bu, .ref pa, .int 0, .int 0, .int 40, .int 0, .null, .int 0, .int 0])), (gl, .inr (4, [.int 0, .ref G.1, .int 0])), (po, .inr (4, [.int 0, .ref G.1, .int 0])), (pi, .inr (4, [.int 0, .ref G.1, .int 0])), (bu, .inl (ci, 4, .inl (fun _ => 0))), (pa, .inl (cj, 4, .inl (fun _ => 0))), (ou, .inl (cJ, 1, .inr (.inl (fun _ => 0)))), (od, .inl (cD, 1, .inr (.inr (.inr (.inl (fun _ => 0))))))]) (hS : va_S A s.heap H locs) (hl : lv_has ls 9 [(5, .int 0), (4, .ref od), (3, .ref ou), (2, .ref mo), (1, .ref xo), (0, .ref b)]) (hE : ∀ (H : Heap) (locs : List Loc) (ls : Array Slot), va_S A s.heap H locs → lv_has ls 9 [(0, .ref b), (5, .int 0)] → W p l e room_1 s m args below meth c H locs 797152 6710780 Q (F0 m 2999 ls [])) : W p l e room_1 s m args below meth c H locs 60 300 Q (F0 m 721 ls []) := by
  have hP := hP.sub (ws' := [(xo, .inr (11, [.ref xg, .int 0, .ref xp, .int 0, .ref xq, .int 0, .ref r1, .ref r2, .ref r3, .ref r4, .ref se, .int 0, .int 0, .int 40, .int 0, .int 0])), (xq, .inl (cq, 16, .inr (.inr (.inr (.inr (fun _ => none)))))), (r1, .inr (9, [.int 0, .int 0])), (r2, .inr (9, [.int 0, .int 0])), (r3, .inr (9, [.int 0, .int 0])), (r4, .inr (9, [.int 0, .int 0])), (mo, .inr (16, [.int 0, .ref gl, .ref po, .ref pi, .ref bu, .ref pa, .int 0, .int 0, .int 40, .int 0, .null, .int 0, .int 0])), (pi, .inr (4, [.int 0, .ref G.1, .int 0])), (bu, .inl (ci, 4, .inl (fun _ => 0))), (ou, .inl (cJ, 1, .inr (.inl (fun _ => 0))))]) [0, 3, 4, 5, 6, 7, 9, 12, 13, 15] rfl
  have hD := hD.sub (ws' := [(xo, .inr (11, [.ref xg, .int 0, .ref xp, .int 0, .ref xq, .int 0, .ref r1, .ref r2, .ref r3, .ref r4, .ref se, .int 0, .int 0, .int 40, .int 0, .int 0])), (xq, .inl (cq, 16, .inr (.inr (.inr (.inr (fun _ => none)))))), (r1, .inr (9, [.int 0, .int 0])), (r2, .inr (9, [.int 0, .int 0])), (r3, .inr (9, [.int 0, .int 0])), (r4, .inr (9, [.int 0, .int 0])), (mo, .inr (16, [.int 0, .ref gl, .ref po, .ref pi, .ref bu, .ref pa, .int 0, .int 0, .int 40, .int 0, .null, .int 0, .int 0])), (pi, .inr (4, [.int 0, .ref G.1, .int 0])), (bu, .inl (ci, 4, .inl (fun _ => 0))), (ou, .inl (cJ, 1, .inr (.inl (fun _ => 0))))]) [0, 3, 4, 5, 6, 7, 9, 12, 13, 15] (by decide) rfl
  have hK := hK.sub (tys' := [(cq, .object "Gatherhouse$Piece"), (ci, .int), (cJ, .long)]) [2, 3, 5] rfl
  refine lv_aload_n hx hb dL_law_721 rfl (lv_at hl 4 rfl) ?_
  refine lv_aload_n hx hb dL_law_722 rfl (lv_at hl 5 rfl) ?_
  refine lv_iload hx hb dL_law_723 (lv_at hl 0 rfl) ?_
  refine lv_iconst (v := 1) hx hb dL_law_725 (by decide) ?_
  refine lv_iadd hx hb dL_law_726 ?_
  refine lv_topi (fun y_914 ey_914 => ?_)
  have ey_914 : y_914 = 1 := ey_914.trans (by decide +kernel)
  subst ey_914
  refine va_sld hx hb hX hbl hbA hS (vp_in_iff.mpr (by rw [hL]; decide +kernel)) dL_law_727 ?_
  refine lv_aload_n hx hb dL_law_728 rfl (lv_at hl 2 rfl) ?_
  have hFc := va_free (wc := [(xo, .inr (11, [.ref xg, .int 0, .ref xp, .int 0, .ref xq, .int 0, .ref r1, .ref r2, .ref r3, .ref r4, .ref se, .int 0, .int 0, .int 40, .int 0, .int 0])), (xq, .inl (cq, 16, .inr (.inr (.inr (.inr (fun _ => none)))))), (r1, .inr (9, [.int 0, .int 0])), (r2, .inr (9, [.int 0, .int 0])), (r3, .inr (9, [.int 0, .int 0])), (r4, .inr (9, [.int 0, .int 0])), (ou, .inl (cJ, 1, .inr (.inl (fun _ => 0))))]) hD hS hA [0, 1, 2, 3, 4, 5, 9] rfl
  refine vx_calli (vx_runSX (As := [.ref xo, .int (xs (1 : Int32).toNatClampNeg), .ref ou]) (rest := []) ⟨hx, hb, hml, hown, hts⟩ (zc_L_pass l hnt D G xo xg xp xq r1 r2 r3 r4 se 0 0 cq ou cJ (xs (1 : Int32).toNatClampNeg) H.size) (vx_cwSW 3 hts gzL_law_L_pass_190 rfl rfl rfl (by decide +kernel) ⟨(Nat.le_of_ble_eq_true rfl), (Nat.le_of_ble_eq_true rfl)⟩) ⟨p_RW_blind, (p_RW_at (tc := [(cq, .object "Gatherhouse$Piece"), (cJ, .long)]) (wc := [(xo, .inr (11, [.ref xg, .int 0, .ref xp, .int 0, .ref xq, .int 0, .ref r1, .ref r2, .ref r3, .ref r4, .ref se, .int 0, .int 0, .int 40, .int 0, .int 0])), (xq, .inl (cq, 16, .inr (.inr (.inr (.inr (fun _ => none)))))), (r1, .inr (9, [.int 0, .int 0])), (r2, .inr (9, [.int 0, .int 0])), (r3, .inr (9, [.int 0, .int 0])), (r4, .inr (9, [.int 0, .int 0])), (ou, .inl (cJ, 1, .inr (.inl (fun _ => 0))))]) hP hK hD hS hA hT hZ [0, 1, 2, 3, 4, 5, 9] [0, 2] rfl rfl (by decide) rfl [.ref xo, .int (xs (1 : Int32).toNatClampNeg), .ref ou])⟩ rfl rfl hl.1 rfl (lv_room (Nat.le_of_ble_eq_true rfl)) dL_law_729 ⟨(Nat.le_of_ble_eq_true rfl), (Nat.le_of_ble_eq_true rfl)⟩) hS (fun q _ h => hFc q h) hFc (fun q _ h => hFc q h) (fun E ce q9 u t H locs ht hvm hpx hBX hz1 hk1 hS hce hcv hcl => ?_) (fun r_915 u t H locs ht hvm w_916 hB hz1 hk1 hS => ?_)
  · exact (show False from hBX).elim
  · obtain ⟨u_917, rfl⟩ : ∃ z, z = u := ⟨_, rfl⟩
    obtain ⟨hP, hD, hK⟩ := q_join (D := D) (wc := [(xo, .inr (11, [.ref xg, .int 0, .ref xp, .int 0, .ref xq, .int 0, .ref r1, .ref r2, .ref r3, .ref r4, .ref se, .int 0, .int 0, .int 40, .int 0, .int 0])), (xq, .inl (cq, 16, .inr (.inr (.inr (.inr (fun _ => none)))))), (r1, .inr (9, [.int 0, .int 0])), (r2, .inr (9, [.int 0, .int 0])), (r3, .inr (9, [.int 0, .int 0])), (r4, .inr (9, [.int 0, .int 0])), (ou, .inl (cJ, 1, .inr (.inl (fun _ => 0))))]) (wr := [(mo, .inr (16, [.int 0, .ref gl, .ref po, .ref pi, .ref bu, .ref pa, .int 0, .int 0, .int 40, .int 0, .null, .int 0, .int 0])), (pi, .inr (4, [.int 0, .ref G.1, .int 0])), (bu, .inl (ci, 4, .inl (fun _ => 0)))]) (w1 := [(ou, .inl (cJ, 1, .inr (.inl u_917)))]) (tyr := [(cq, .object "Gatherhouse$Piece"), (ci, .int)]) (ty1 := [(cJ, .long)]) hP hD hK [0, 1, 2, 3, 4, 5, 9] [6, 7, 8] [0, 1] rfl rfl (by decide) (by decide) rfl hFc hk1 ht hvm hB
    have hP : va_P D vwCl [(mo, .inr (16, [.int 0, .ref gl, .ref po, .ref pi, .ref bu, .ref pa, .int 0, .int 0, .int 40, .int 0, .null, .int 0, .int 0])), (pi, .inr (4, [.int 0, .ref G.1, .int 0])), (bu, .inl (ci, 4, .inl (fun _ => 0))), (ou, .inl (cJ, 1, .inr (.inl u_917)))] H := hP
    have hD : va_D A [(mo, .inr (16, [.int 0, .ref gl, .ref po, .ref pi, .ref bu, .ref pa, .int 0, .int 0, .int 40, .int 0, .null, .int 0, .int 0])), (pi, .inr (4, [.int 0, .ref G.1, .int 0])), (bu, .inl (ci, 4, .inl (fun _ => 0))), (ou, .inl (cJ, 1, .inr (.inl u_917)))] := hD
    have hK : va_K D vwCl [(cq, .object "Gatherhouse$Piece"), (ci, .int), (cJ, .long)] s := hK
    refine W.widen (k := 61) (n := 306) (Nat.le_of_ble_eq_true rfl) (Nat.le_of_ble_eq_true rfl) ?_
    rcases w_916 with ⟨c_918, c_919, rfl⟩ | ⟨c_920, rfl⟩
    · refine lv_istore (lv' := [(6, .int 0), (5, .int 0), (4, .ref od), (3, .ref ou), (2, .ref mo), (1, .ref xo), (0, .ref b)]) hx hb dL_law_732 hl (by decide) rfl (fun ls hl => ?_)
      refine lv_aload_n hx hb dL_law_734 rfl (lv_at hl 4 rfl) ?_
      refine lv_aload_n hx hb dL_law_735 rfl (lv_at hl 6 rfl) ?_
      refine lv_iload hx hb dL_law_736 (lv_at hl 1 rfl) ?_
      refine lv_iconst (v := 1) hx hb dL_law_738 (by decide) ?_
      refine lv_iadd hx hb dL_law_739 ?_
      refine lv_topi (fun y_921 ey_921 => ?_)
      have ey_921 : y_921 = 1 := ey_921.trans (by decide +kernel)
      subst ey_921
      refine va_sld hx hb hX hbl hbA hS (vp_in_iff.mpr (by rw [hL]; decide +kernel)) dL_law_740 ?_
      have hFc := va_free (wc := [(mo, .inr (16, [.int 0, .ref gl, .ref po, .ref pi, .ref bu, .ref pa, .int 0, .int 0, .int 40, .int 0, .null, .int 0, .int 0])), (pi, .inr (4, [.int 0, .ref G.1, .int 0])), (bu, .inl (ci, 4, .inl (fun _ => 0)))]) hD hS hA [0, 1, 2] rfl
      refine va_calli (va_runV (As := [.int (xs (1 : Int32).toNatClampNeg)]) (rest := []) ⟨hx, hb, hml, hown, hts⟩ (zc_X11_pass l D G mo gl po pi bu pa 0 0 0 ci (xs (1 : Int32).toNatClampNeg) H.size) (cwV 1 hts gzL_law_X11_pass_192 rfl rfl rfl (by decide +kernel) ⟨(Nat.le_of_ble_eq_true rfl), (Nat.le_of_ble_eq_true rfl)⟩) ⟨p_RW_blind, va_recv hK hP (ci := 16) (q0 := 0) rfl rfl, (p_RW_at (tc := [(ci, .int)]) (wc := [(mo, .inr (16, [.int 0, .ref gl, .ref po, .ref pi, .ref bu, .ref pa, .int 0, .int 0, .int 40, .int 0, .null, .int 0, .int 0])), (pi, .inr (4, [.int 0, .ref G.1, .int 0])), (bu, .inl (ci, 4, .inl (fun _ => 0)))]) hP hK hD hS hA hT hZ [0, 1, 2] [1] rfl rfl (by decide) rfl [.ref mo, .int (xs (1 : Int32).toNatClampNeg)])⟩ rfl rfl hl.1 rfl (lv_room (Nat.le_of_ble_eq_true rfl)) dL_law_741 ⟨(Nat.le_of_ble_eq_true rfl), (Nat.le_of_ble_eq_true rfl)⟩) hS (fun q _ h => hFc q h) hFc (fun r_922 u t H locs ht hvm w_923 hB hz1 hk1 hS => ?_)
      obtain ⟨u_924, u_925⟩ := u
      obtain ⟨hP, hD, hK⟩ := q_join (D := D) (wc := [(mo, .inr (16, [.int 0, .ref gl, .ref po, .ref pi, .ref bu, .ref pa, .int 0, .int 0, .int 40, .int 0, .null, .int 0, .int 0])), (pi, .inr (4, [.int 0, .ref G.1, .int 0])), (bu, .inl (ci, 4, .inl (fun _ => 0)))]) (wr := [(ou, .inl (cJ, 1, .inr (.inl u_917)))]) (w1 := [(mo, .inr (16, [.int u_924, .ref gl, .ref po, .ref pi, .ref bu, .ref pa, .int u_925, .int 0, .int 40, .int 0, .null, .int 0, .int 0]))]) (tyr := [(cq, .object "Gatherhouse$Piece"), (cJ, .long)]) (ty1 := [(ci, .int)]) hP hD hK [0, 1, 2] [3] [0, 2] rfl rfl (by decide) (by decide) rfl hFc hk1 ht hvm hB
      have hP : va_P D vwCl [(ou, .inl (cJ, 1, .inr (.inl u_917))), (mo, .inr (16, [.int u_924, .ref gl, .ref po, .ref pi, .ref bu, .ref pa, .int u_925, .int 0, .int 40, .int 0, .null, .int 0, .int 0]))] H := hP
      have hD : va_D A [(ou, .inl (cJ, 1, .inr (.inl u_917))), (mo, .inr (16, [.int u_924, .ref gl, .ref po, .ref pi, .ref bu, .ref pa, .int u_925, .int 0, .int 40, .int 0, .null, .int 0, .int 0]))] := hD
      have hK : va_K D vwCl [(cq, .object "Gatherhouse$Piece"), (cJ, .long), (ci, .int)] s := hK
      refine W.widen (k := 661) (n := 2706) (Nat.le_of_ble_eq_true rfl) (Nat.le_of_ble_eq_true rfl) ?_
      rcases w_923 with ⟨c_926, rfl, rfl⟩ | ⟨c_927, rfl, rfl⟩
      · refine lv_istore (lv' := [(7, .int 0), (6, .int 0), (5, .int 0), (4, .ref od), (3, .ref ou), (2, .ref mo), (1, .ref xo), (0, .ref b)]) hx hb dL_law_744 hl (by decide) rfl (fun ls hl => ?_)
        refine lv_aload_n hx hb dL_law_746 rfl (lv_at hl 5 rfl) ?_
        refine vp_callSi (va_runV (As := []) (rest := []) ⟨hx, hb, hml, hown, hts⟩ (zc_X11_thrown l D G mo gl po pi bu pa 0 0 u_925 40) (cwV 0 hts gzL_law_X11_thrown_165 rfl rfl rfl (by decide +kernel) ⟨(Nat.le_of_ble_eq_true rfl), (Nat.le_of_ble_eq_true rfl)⟩) ⟨p_RO_blind, va_recv hK hP (ci := 16) (q0 := 1) rfl rfl, (p_RO_at (tc := []) (wc := [(mo, .inr (16, [.int 0, .ref gl, .ref po, .ref pi, .ref bu, .ref pa, .int u_925, .int 0, .int 40, .int 0, .null, .int 0, .int 0]))]) hP hK hT [1] [] rfl rfl [.ref mo])⟩ rfl rfl hl.1 rfl (lv_room (Nat.le_of_ble_eq_true rfl)) dL_law_747 ⟨(Nat.le_of_ble_eq_true rfl), (Nat.le_of_ble_eq_true rfl)⟩).run (fun r_928 w_929 => ?_)
        obtain rfl := w_929
        refine lv_iload hx hb dL_law_750 (lv_at hl 1 rfl) ?_
        refine lv_icmp_eq (tgt := 757) hx hb dL_law_752 (by decide) (fun _ => ?_) (fun cc => absurd (by decide) cc)
        refine lv_iload hx hb dL_law_757 (lv_at hl 1 rfl) ?_
        refine lv_if_ne (tgt := 774) hx hb dL_law_759 (by decide) (fun cc => absurd (by decide) cc) (fun _ => ?_)
        refine lv_aload_n hx hb dL_law_762 rfl (lv_at hl 4 rfl) ?_
        refine lv_iconst (v := 0) hx hb dL_law_763 (by decide) ?_
        refine va_lald (D := D) (cl := vwCl) hx hb hK hP 0 1 rfl rfl (vp_in_nI (n := 0) (N := 1) (by decide) (by decide)) dL_law_764 ?_
        refine lv_topl (fun y_930 ey_930 => ?_)
        have ey_930 : y_930 = 0 := ey_930.trans c_919
        subst ey_930
        refine lv_iload hx hb dL_law_765 (lv_at hl 0 rfl) ?_
        refine lv_i2l (v := 0) hx hb dL_law_767 (by decide) ?_
        refine W.lcmp hx hb dL_law_768 ?_
        refine lv_topi (fun y_931 ey_931 => ?_)
        have ey_931 : y_931 = 0 := ey_931.trans (by decide +kernel)
        subst ey_931
        refine lv_if_eq (tgt := 774) hx hb dL_law_769 (by decide) (fun _ => ?_) (fun cc => absurd (by decide) cc)
        refine lv_goto (tgt := 2999) hx hb dL_law_774 (by decide) ?_
        refine W.widen (k := 797152) (n := 6710780) (Nat.le_of_ble_eq_true rfl) (Nat.le_of_ble_eq_true rfl) ?_
        exact hE _ _ _ hS (lv_sub hl [7, 2] rfl)
      · exact absurd c_918 c_927
    · refine lv_istore (lv' := [(6, .int 1), (5, .int 0), (4, .ref od), (3, .ref ou), (2, .ref mo), (1, .ref xo), (0, .ref b)]) hx hb dL_law_732 hl (by decide) rfl (fun ls hl => ?_)
      refine lv_aload_n hx hb dL_law_734 rfl (lv_at hl 4 rfl) ?_
      refine lv_aload_n hx hb dL_law_735 rfl (lv_at hl 6 rfl) ?_
      refine lv_iload hx hb dL_law_736 (lv_at hl 1 rfl) ?_
      refine lv_iconst (v := 1) hx hb dL_law_738 (by decide) ?_
      refine lv_iadd hx hb dL_law_739 ?_
      refine lv_topi (fun y_932 ey_932 => ?_)
      have ey_932 : y_932 = 1 := ey_932.trans (by decide +kernel)
      subst ey_932
      refine va_sld hx hb hX hbl hbA hS (vp_in_iff.mpr (by rw [hL]; decide +kernel)) dL_law_740 ?_
      have hFc := va_free (wc := [(mo, .inr (16, [.int 0, .ref gl, .ref po, .ref pi, .ref bu, .ref pa, .int 0, .int 0, .int 40, .int 0, .null, .int 0, .int 0])), (pi, .inr (4, [.int 0, .ref G.1, .int 0])), (bu, .inl (ci, 4, .inl (fun _ => 0)))]) hD hS hA [0, 1, 2] rfl
      refine va_calli (va_runV (As := [.int (xs (1 : Int32).toNatClampNeg)]) (rest := []) ⟨hx, hb, hml, hown, hts⟩ (zc_X11_pass l D G mo gl po pi bu pa 0 0 0 ci (xs (1 : Int32).toNatClampNeg) H.size) (cwV 1 hts gzL_law_X11_pass_192 rfl rfl rfl (by decide +kernel) ⟨(Nat.le_of_ble_eq_true rfl), (Nat.le_of_ble_eq_true rfl)⟩) ⟨p_RW_blind, va_recv hK hP (ci := 16) (q0 := 0) rfl rfl, (p_RW_at (tc := [(ci, .int)]) (wc := [(mo, .inr (16, [.int 0, .ref gl, .ref po, .ref pi, .ref bu, .ref pa, .int 0, .int 0, .int 40, .int 0, .null, .int 0, .int 0])), (pi, .inr (4, [.int 0, .ref G.1, .int 0])), (bu, .inl (ci, 4, .inl (fun _ => 0)))]) hP hK hD hS hA hT hZ [0, 1, 2] [1] rfl rfl (by decide) rfl [.ref mo, .int (xs (1 : Int32).toNatClampNeg)])⟩ rfl rfl hl.1 rfl (lv_room (Nat.le_of_ble_eq_true rfl)) dL_law_741 ⟨(Nat.le_of_ble_eq_true rfl), (Nat.le_of_ble_eq_true rfl)⟩) hS (fun q _ h => hFc q h) hFc (fun r_933 u t H locs ht hvm w_934 hB hz1 hk1 hS => ?_)
      obtain ⟨u_935, u_936⟩ := u
      obtain ⟨hP, hD, hK⟩ := q_join (D := D) (wc := [(mo, .inr (16, [.int 0, .ref gl, .ref po, .ref pi, .ref bu, .ref pa, .int 0, .int 0, .int 40, .int 0, .null, .int 0, .int 0])), (pi, .inr (4, [.int 0, .ref G.1, .int 0])), (bu, .inl (ci, 4, .inl (fun _ => 0)))]) (wr := [(ou, .inl (cJ, 1, .inr (.inl u_917)))]) (w1 := [(mo, .inr (16, [.int u_935, .ref gl, .ref po, .ref pi, .ref bu, .ref pa, .int u_936, .int 0, .int 40, .int 0, .null, .int 0, .int 0]))]) (tyr := [(cq, .object "Gatherhouse$Piece"), (cJ, .long)]) (ty1 := [(ci, .int)]) hP hD hK [0, 1, 2] [3] [0, 2] rfl rfl (by decide) (by decide) rfl hFc hk1 ht hvm hB
      have hP : va_P D vwCl [(ou, .inl (cJ, 1, .inr (.inl u_917))), (mo, .inr (16, [.int u_935, .ref gl, .ref po, .ref pi, .ref bu, .ref pa, .int u_936, .int 0, .int 40, .int 0, .null, .int 0, .int 0]))] H := hP
      have hD : va_D A [(ou, .inl (cJ, 1, .inr (.inl u_917))), (mo, .inr (16, [.int u_935, .ref gl, .ref po, .ref pi, .ref bu, .ref pa, .int u_936, .int 0, .int 40, .int 0, .null, .int 0, .int 0]))] := hD
      have hK : va_K D vwCl [(cq, .object "Gatherhouse$Piece"), (cJ, .long), (ci, .int)] s := hK
      refine W.widen (k := 661) (n := 2706) (Nat.le_of_ble_eq_true rfl) (Nat.le_of_ble_eq_true rfl) ?_
      rcases w_934 with ⟨c_937, rfl, rfl⟩ | ⟨c_938, rfl, rfl⟩
      · exact absurd c_937 c_920
      · refine lv_istore (lv' := [(7, .int 0), (6, .int 1), (5, .int 0), (4, .ref od), (3, .ref ou), (2, .ref mo), (1, .ref xo), (0, .ref b)]) hx hb dL_law_744 hl (by decide) rfl (fun ls hl => ?_)
        refine lv_aload_n hx hb dL_law_746 rfl (lv_at hl 5 rfl) ?_
        refine vp_callSi (va_runV (As := []) (rest := []) ⟨hx, hb, hml, hown, hts⟩ (zc_X11_thrown l D G mo gl po pi bu pa 1 0 u_936 40) (cwV 0 hts gzL_law_X11_thrown_165 rfl rfl rfl (by decide +kernel) ⟨(Nat.le_of_ble_eq_true rfl), (Nat.le_of_ble_eq_true rfl)⟩) ⟨p_RO_blind, va_recv hK hP (ci := 16) (q0 := 1) rfl rfl, (p_RO_at (tc := []) (wc := [(mo, .inr (16, [.int 1, .ref gl, .ref po, .ref pi, .ref bu, .ref pa, .int u_936, .int 0, .int 40, .int 0, .null, .int 0, .int 0]))]) hP hK hT [1] [] rfl rfl [.ref mo])⟩ rfl rfl hl.1 rfl (lv_room (Nat.le_of_ble_eq_true rfl)) dL_law_747 ⟨(Nat.le_of_ble_eq_true rfl), (Nat.le_of_ble_eq_true rfl)⟩).run (fun r_939 w_940 => ?_)
        obtain rfl := w_940
        refine lv_iload hx hb dL_law_750 (lv_at hl 1 rfl) ?_
        refine lv_icmp_eq (tgt := 757) hx hb dL_law_752 (by decide) (fun _ => ?_) (fun cc => absurd (by decide) cc)
        refine lv_iload hx hb dL_law_757 (lv_at hl 1 rfl) ?_
        refine lv_if_ne (tgt := 774) hx hb dL_law_759 (by decide) (fun _ => ?_) (fun cc => absurd cc (by decide))
        refine lv_goto (tgt := 2999) hx hb dL_law_774 (by decide) ?_
        refine W.widen (k := 797152) (n := 6710780) (Nat.le_of_ble_eq_true rfl) (Nat.le_of_ble_eq_true rfl) ?_
        exact hE _ _ _ hS (lv_sub hl [7, 2] rfl)
theorem dL_law_777 : decode cL_law 777 = .ok (.aload_n 1, 1) := by decide +kernel
theorem dL_law_778 : decode cL_law 778 = .ok (.invokevirtual 193, 3) := by decide +kernel
theorem dL_law_781 : decode cL_law 781 = .ok (.aload_n 2, 1) := by decide +kernel
theorem dL_law_782 : decode cL_law 782 = .ok (.invokevirtual 196, 3) := by decide +kernel
theorem dL_law_785 : decode cL_law 785 = .ok (.if_icmp .eq 2214, 3) := by decide +kernel
set_option maxHeartbeats 4000000 in
set_option maxRecDepth 100000 in
theorem zl_8 {p : Program} {e : Env} {s : State} {m : MethodId} {below : List Frame} {meth : Method} {c : Code} {Q : State → Prop} {args : Array Value} (l : Launch) (hnt : l.stackTraces = false) (D : va_G) (G : Nat × Nat × Nat) (xo : Nat) (xg : Nat) (xp : Nat) (xq : Nat) (r1 : Nat) (r2 : Nat) (r3 : Nat) (r4 : Nat) (se : Nat) (n1 : Nat) (n2 : Nat) (n3 : Nat) (mo : Nat) (gl : Nat) (po : Nat) (pi : Nat) (bu : Nat) (pa : Nat) (ou : Nat) (od : Nat) (cg : ClassId) (cp : ClassId) (cq : ClassId) (ci : ClassId) (cj : ClassId) (cJ : ClassId) (cD : ClassId) {b L : Nat} {xs : Nat → Int32} {A : Nat → Prop} {H : Heap} {locs : List Loc} {ls : Array Slot} (hx : p.tables.exec = Jvm.exec) (hb : c.code = code) (hml : c.maxLocals = 9) (hown : s.vm.findClass RL = some m.cls) (hts : ∀ w ∈ wzL_law, w.before args s = true) (hT : FT G s) (hA : ∀ q : Nat, s.heap.size ≤ q → A q) (hZ : FZ G A s s.heap) (hX : va_X b L xs s s.heap) (hbl : b < s.heap.size) (hbA : ¬ A b) (hL : L = 5) (hK : va_K D vwCl [(cg, .object "Gatherhouse$Glass"), (cp, .object "Gatherhouse$Pot"), (cq, .object "Gatherhouse$Piece"), (ci, .int), (cj, .int), (cJ, .long), (cD, .double)] s) (hP : va_P D vwCl [(xo, .inr (11, [.ref xg, .int 0, .ref xp, .int 0, .ref xq, .int 0, .ref r1, .ref r2, .ref r3, .ref r4, .ref se, .int 0, .int 0, .int 40, .int 0, .int 0])), (xg, .inl (cg, 6, .inr (.inr (.inr (.inr (fun _ => none)))))), (xp, .inl (cp, 4, .inr (.inr (.inr (.inr (fun _ => none)))))), (xq, .inl (cq, 16, .inr (.inr (.inr (.inr (fun _ => none)))))), (r1, .inr (9, [.int 0, .int 0])), (r2, .inr (9, [.int 0, .int 0])), (r3, .inr (9, [.int 0, .int 0])), (r4, .inr (9, [.int 0, .int 0])), (se, .inr (10, [.ref n1, .ref n2, .ref n3, .int 0, .int 0, .int 0, .int 0])), (mo, .inr (16, [.int 0, .ref gl, .ref po, .ref pi, .ref bu, .ref pa, .int 0, .int 0, .int 40, .int 0, .null, .int 0, .int 0])), (gl, .inr (4, [.int 0, .ref G.1, .int 0])), (po, .inr (4, [.int 0, .ref G.1, .int 0])), (pi, .inr (4, [.int 0, .ref G.1, .int 0])), (bu, .inl (ci, 4, .inl (fun _ => 0))), (pa, .inl (cj, 4, .inl (fun _ => 0))), (ou, .inl (cJ, 1, .inr (.inl (fun _ => 0)))), (od, .inl (cD, 1, .inr (.inr (.inr (.inl (fun _ => 0))))))] H) (hD : va_D A [(xo, .inr (11, [.ref xg, .int 0, .ref xp, .int 0, .ref xq, .int 0, .ref r1, .ref r2, .ref r3, .ref r4, .ref se, .int 0, .int 0, .int 40, .int 0, .int 0])), (xg, .inl (cg, 6, .inr (.inr (.inr (.inr (fun _ => none)))))), (xp, .inl (cp, 4, .inr (.inr (.inr (.inr (fun _ => none)))))), (xq, .inl (cq, 16, .inr (.inr (.inr (.inr (fun _ => none)))))), (r1, .inr (9, [.int 0, .int 0])), (r2, .inr (9, [.int 0, .int 0])), (r3, .inr (9, [.int 0, .int 0])), (r4, .inr (9, [.int 0, .int 0])), (se, .inr (10, [.ref n1, .ref n2, .ref n3, .int 0, .int 0, .int 0, .int 0])), (mo, .inr (16, [.int 0, .ref gl, .ref po, .ref pi, .ref bu, .ref pa, .int 0, .int 0, .int 40, .int 0, .null, .int 0, .int 0])), (gl, .inr (4, [.int 0, .ref G.1, .int 0])), (po, .inr (4, [.int 0, .ref G.1, .int 0])), (pi, .inr (4, [.int 0, .ref G.1, .int 0])), (bu, .inl (ci, 4, .inl (fun _ => 0))), (pa, .inl (cj, 4, .inl (fun _ => 0))), (ou, .inl (cJ, 1, .inr (.inl (fun _ => 0)))), (od, .inl (cD, 1, .inr (.inr (.inr (.inl (fun _ => 0))))))]) (hS : va_S A s.heap H locs) (hl : lv_has ls 9 [(5, .int 0), (4, .ref od), (3, .ref ou), (2, .ref mo), (1, .ref xo), (0, .ref b)]) (hE : ∀ (H : Heap) (locs : List Loc) (ls : Array Slot), va_S A s.heap H locs → lv_has ls 9 [(0, .ref b), (5, .int 0)] → W p l e room_1 s m args below meth c H locs 797152 6710780 Q (F0 m 2999 ls [])) : W p l e room_1 s m args below meth c H locs 60 300 Q (F0 m 777 ls []) := by
  have hP := hP.sub (ws' := [(xo, .inr (11, [.ref xg, .int 0, .ref xp, .int 0, .ref xq, .int 0, .ref r1, .ref r2, .ref r3, .ref r4, .ref se, .int 0, .int 0, .int 40, .int 0, .int 0])), (mo, .inr (16, [.int 0, .ref gl, .ref po, .ref pi, .ref bu, .ref pa, .int 0, .int 0, .int 40, .int 0, .null, .int 0, .int 0]))]) [0, 9] rfl
  have hD := hD.sub (ws' := [(xo, .inr (11, [.ref xg, .int 0, .ref xp, .int 0, .ref xq, .int 0, .ref r1, .ref r2, .ref r3, .ref r4, .ref se, .int 0, .int 0, .int 40, .int 0, .int 0])), (mo, .inr (16, [.int 0, .ref gl, .ref po, .ref pi, .ref bu, .ref pa, .int 0, .int 0, .int 40, .int 0, .null, .int 0, .int 0]))]) [0, 9] (by decide) rfl
  have hK := hK.sub (tys' := []) [] rfl
  refine lv_aload_n hx hb dL_law_777 rfl (lv_at hl 4 rfl) ?_
  refine vp_callSi (va_runV (As := []) (rest := []) ⟨hx, hb, hml, hown, hts⟩ (zc_X6_time l D G xo xg xp xq r1 r2 r3 r4 se 0 0) (cwV 0 hts gzL_law_X6_time_193 rfl rfl rfl (by decide +kernel) ⟨(Nat.le_of_ble_eq_true rfl), (Nat.le_of_ble_eq_true rfl)⟩) ⟨p_RO_blind, va_recv hK hP (ci := 11) (q0 := 0) rfl rfl, (p_RO_at (tc := []) (wc := [(xo, .inr (11, [.ref xg, .int 0, .ref xp, .int 0, .ref xq, .int 0, .ref r1, .ref r2, .ref r3, .ref r4, .ref se, .int 0, .int 0, .int 40, .int 0, .int 0]))]) hP hK hT [0] [] rfl rfl [.ref xo])⟩ rfl rfl hl.1 rfl (lv_room (Nat.le_of_ble_eq_true rfl)) dL_law_778 ⟨(Nat.le_of_ble_eq_true rfl), (Nat.le_of_ble_eq_true rfl)⟩).run (fun r_941 w_942 => ?_)
  obtain rfl := w_942
  refine lv_aload_n hx hb dL_law_781 rfl (lv_at hl 3 rfl) ?_
  have hFc := va_free (wc := [(mo, .inr (16, [.int 0, .ref gl, .ref po, .ref pi, .ref bu, .ref pa, .int 0, .int 0, .int 40, .int 0, .null, .int 0, .int 0]))]) hD hS hA [1] rfl
  refine va_calli (va_runV (As := []) (rest := [.int 0]) ⟨hx, hb, hml, hown, hts⟩ (zc_X11_time l D G mo gl po pi bu pa 0 0 0 H.size) (cwV 0 hts gzL_law_X11_time_196 rfl rfl rfl (by decide +kernel) ⟨(Nat.le_of_ble_eq_true rfl), (Nat.le_of_ble_eq_true rfl)⟩) ⟨p_RW_blind, va_recv hK hP (ci := 16) (q0 := 1) rfl rfl, (p_RW_at (tc := []) (wc := [(mo, .inr (16, [.int 0, .ref gl, .ref po, .ref pi, .ref bu, .ref pa, .int 0, .int 0, .int 40, .int 0, .null, .int 0, .int 0]))]) hP hK hD hS hA hT hZ [1] [] rfl rfl (by decide) rfl [.ref mo])⟩ rfl rfl hl.1 rfl (lv_room (Nat.le_of_ble_eq_true rfl)) dL_law_782 ⟨(Nat.le_of_ble_eq_true rfl), (Nat.le_of_ble_eq_true rfl)⟩) hS (fun q _ h => hFc q h) hFc (fun r_943 u t H locs ht hvm w_944 hB hz1 hk1 hS => ?_)
  obtain ⟨hP, hD, hK⟩ := q_join (D := D) (wc := [(mo, .inr (16, [.int 0, .ref gl, .ref po, .ref pi, .ref bu, .ref pa, .int 0, .int 0, .int 40, .int 0, .null, .int 0, .int 0]))]) (wr := [(xo, .inr (11, [.ref xg, .int 0, .ref xp, .int 0, .ref xq, .int 0, .ref r1, .ref r2, .ref r3, .ref r4, .ref se, .int 0, .int 0, .int 40, .int 0, .int 0]))]) (w1 := [(mo, .inr (16, [.int 0, .ref gl, .ref po, .ref pi, .ref bu, .ref pa, .int 0, .int 0, .int 40, .int 0, .null, .int 0, .int 0]))]) (tyr := []) (ty1 := []) hP hD hK [1] [0] [] rfl rfl (by decide) (by decide) rfl hFc hk1 ht hvm hB
  have hP : va_P D vwCl [(xo, .inr (11, [.ref xg, .int 0, .ref xp, .int 0, .ref xq, .int 0, .ref r1, .ref r2, .ref r3, .ref r4, .ref se, .int 0, .int 0, .int 40, .int 0, .int 0])), (mo, .inr (16, [.int 0, .ref gl, .ref po, .ref pi, .ref bu, .ref pa, .int 0, .int 0, .int 40, .int 0, .null, .int 0, .int 0]))] H := hP
  have hD : va_D A [(xo, .inr (11, [.ref xg, .int 0, .ref xp, .int 0, .ref xq, .int 0, .ref r1, .ref r2, .ref r3, .ref r4, .ref se, .int 0, .int 0, .int 40, .int 0, .int 0])), (mo, .inr (16, [.int 0, .ref gl, .ref po, .ref pi, .ref bu, .ref pa, .int 0, .int 0, .int 40, .int 0, .null, .int 0, .int 0]))] := hD
  have hK : va_K D vwCl [] s := hK
  obtain rfl := w_944
  refine lv_icmp_eq (tgt := 2999) hx hb dL_law_785 (by decide) (fun _ => ?_) (fun cc => absurd (by decide) cc)
  refine W.widen (k := 797152) (n := 6710780) (Nat.le_of_ble_eq_true rfl) (Nat.le_of_ble_eq_true rfl) ?_
  exact hE _ _ _ hS (lv_sub hl [5, 0] rfl)
theorem dL_law_790 : decode cL_law 790 = .ok (.aload_n 1, 1) := by decide +kernel
theorem dL_law_791 : decode cL_law 791 = .ok (.aload_n 0, 1) := by decide +kernel
theorem dL_law_792 : decode cL_law 792 = .ok (.iload 5, 2) := by decide +kernel
theorem dL_law_794 : decode cL_law 794 = .ok (.iconst 1, 1) := by decide +kernel
theorem dL_law_795 : decode cL_law 795 = .ok (.iadd, 1) := by decide +kernel
theorem dL_law_796 : decode cL_law 796 = .ok (.iaload, 1) := by decide +kernel
theorem dL_law_797 : decode cL_law 797 = .ok (.i2c, 1) := by decide +kernel
theorem dL_law_798 : decode cL_law 798 = .ok (.aload_n 3, 1) := by decide +kernel
theorem dL_law_799 : decode cL_law 799 = .ok (.invokestatic 197, 3) := by decide +kernel
theorem dL_law_802 : decode cL_law 802 = .ok (.istore 6, 2) := by decide +kernel
theorem dL_law_804 : decode cL_law 804 = .ok (.aload_n 2, 1) := by decide +kernel
theorem dL_law_805 : decode cL_law 805 = .ok (.aload_n 0, 1) := by decide +kernel
theorem dL_law_806 : decode cL_law 806 = .ok (.iload 5, 2) := by decide +kernel
theorem dL_law_808 : decode cL_law 808 = .ok (.iconst 1, 1) := by decide +kernel
theorem dL_law_809 : decode cL_law 809 = .ok (.iadd, 1) := by decide +kernel
theorem dL_law_810 : decode cL_law 810 = .ok (.iaload, 1) := by decide +kernel
theorem dL_law_811 : decode cL_law 811 = .ok (.i2c, 1) := by decide +kernel
theorem dL_law_812 : decode cL_law 812 = .ok (.invokevirtual 200, 3) := by decide +kernel
theorem dL_law_815 : decode cL_law 815 = .ok (.istore 7, 2) := by decide +kernel
theorem dL_law_817 : decode cL_law 817 = .ok (.aload_n 2, 1) := by decide +kernel
theorem dL_law_818 : decode cL_law 818 = .ok (.invokevirtual 165, 3) := by decide +kernel
theorem dL_law_821 : decode cL_law 821 = .ok (.iload 6, 2) := by decide +kernel
theorem dL_law_823 : decode cL_law 823 = .ok (.if_icmp .eq 5, 3) := by decide +kernel
theorem dL_law_828 : decode cL_law 828 = .ok (.iload 6, 2) := by decide +kernel
theorem dL_law_830 : decode cL_law 830 = .ok (.ifCond .ne 15, 3) := by decide +kernel
theorem dL_law_833 : decode cL_law 833 = .ok (.aload_n 3, 1) := by decide +kernel
theorem dL_law_834 : decode cL_law 834 = .ok (.iconst 0, 1) := by decide +kernel
theorem dL_law_835 : decode cL_law 835 = .ok (.laload, 1) := by decide +kernel
theorem dL_law_836 : decode cL_law 836 = .ok (.iload 7, 2) := by decide +kernel
theorem dL_law_838 : decode cL_law 838 = .ok (.i2l, 1) := by decide +kernel
theorem dL_law_839 : decode cL_law 839 = .ok (.lcmp, 1) := by decide +kernel
theorem dL_law_840 : decode cL_law 840 = .ok (.ifCond .eq 5, 3) := by decide +kernel
theorem dL_law_845 : decode cL_law 845 = .ok (.goto 2154, 3) := by decide +kernel
set_option maxHeartbeats 4000000 in
set_option maxRecDepth 100000 in
theorem zl_9 {p : Program} {e : Env} {s : State} {m : MethodId} {below : List Frame} {meth : Method} {c : Code} {Q : State → Prop} {args : Array Value} (l : Launch) (hnt : l.stackTraces = false) (D : va_G) (G : Nat × Nat × Nat) (xo : Nat) (xg : Nat) (xp : Nat) (xq : Nat) (r1 : Nat) (r2 : Nat) (r3 : Nat) (r4 : Nat) (se : Nat) (n1 : Nat) (n2 : Nat) (n3 : Nat) (mo : Nat) (gl : Nat) (po : Nat) (pi : Nat) (bu : Nat) (pa : Nat) (ou : Nat) (od : Nat) (cg : ClassId) (cp : ClassId) (cq : ClassId) (ci : ClassId) (cj : ClassId) (cJ : ClassId) (cD : ClassId) {b L : Nat} {xs : Nat → Int32} {A : Nat → Prop} {H : Heap} {locs : List Loc} {ls : Array Slot} (hx : p.tables.exec = Jvm.exec) (hb : c.code = code) (hml : c.maxLocals = 9) (hown : s.vm.findClass RL = some m.cls) (hts : ∀ w ∈ wzL_law, w.before args s = true) (hT : FT G s) (hA : ∀ q : Nat, s.heap.size ≤ q → A q) (hZ : FZ G A s s.heap) (hX : va_X b L xs s s.heap) (hbl : b < s.heap.size) (hbA : ¬ A b) (hL : L = 5) (hK : va_K D vwCl [(cg, .object "Gatherhouse$Glass"), (cp, .object "Gatherhouse$Pot"), (cq, .object "Gatherhouse$Piece"), (ci, .int), (cj, .int), (cJ, .long), (cD, .double)] s) (hP : va_P D vwCl [(xo, .inr (11, [.ref xg, .int 0, .ref xp, .int 0, .ref xq, .int 0, .ref r1, .ref r2, .ref r3, .ref r4, .ref se, .int 0, .int 0, .int 40, .int 0, .int 0])), (xg, .inl (cg, 6, .inr (.inr (.inr (.inr (fun _ => none)))))), (xp, .inl (cp, 4, .inr (.inr (.inr (.inr (fun _ => none)))))), (xq, .inl (cq, 16, .inr (.inr (.inr (.inr (fun _ => none)))))), (r1, .inr (9, [.int 0, .int 0])), (r2, .inr (9, [.int 0, .int 0])), (r3, .inr (9, [.int 0, .int 0])), (r4, .inr (9, [.int 0, .int 0])), (se, .inr (10, [.ref n1, .ref n2, .ref n3, .int 0, .int 0, .int 0, .int 0])), (mo, .inr (16, [.int 0, .ref gl, .ref po, .ref pi, .ref bu, .ref pa, .int 0, .int 0, .int 40, .int 0, .null, .int 0, .int 0])), (gl, .inr (4, [.int 0, .ref G.1, .int 0])), (po, .inr (4, [.int 0, .ref G.1, .int 0])), (pi, .inr (4, [.int 0, .ref G.1, .int 0])), (bu, .inl (ci, 4, .inl (fun _ => 0))), (pa, .inl (cj, 4, .inl (fun _ => 0))), (ou, .inl (cJ, 1, .inr (.inl (fun _ => 0)))), (od, .inl (cD, 1, .inr (.inr (.inr (.inl (fun _ => 0))))))] H) (hD : va_D A [(xo, .inr (11, [.ref xg, .int 0, .ref xp, .int 0, .ref xq, .int 0, .ref r1, .ref r2, .ref r3, .ref r4, .ref se, .int 0, .int 0, .int 40, .int 0, .int 0])), (xg, .inl (cg, 6, .inr (.inr (.inr (.inr (fun _ => none)))))), (xp, .inl (cp, 4, .inr (.inr (.inr (.inr (fun _ => none)))))), (xq, .inl (cq, 16, .inr (.inr (.inr (.inr (fun _ => none)))))), (r1, .inr (9, [.int 0, .int 0])), (r2, .inr (9, [.int 0, .int 0])), (r3, .inr (9, [.int 0, .int 0])), (r4, .inr (9, [.int 0, .int 0])), (se, .inr (10, [.ref n1, .ref n2, .ref n3, .int 0, .int 0, .int 0, .int 0])), (mo, .inr (16, [.int 0, .ref gl, .ref po, .ref pi, .ref bu, .ref pa, .int 0, .int 0, .int 40, .int 0, .null, .int 0, .int 0])), (gl, .inr (4, [.int 0, .ref G.1, .int 0])), (po, .inr (4, [.int 0, .ref G.1, .int 0])), (pi, .inr (4, [.int 0, .ref G.1, .int 0])), (bu, .inl (ci, 4, .inl (fun _ => 0))), (pa, .inl (cj, 4, .inl (fun _ => 0))), (ou, .inl (cJ, 1, .inr (.inl (fun _ => 0)))), (od, .inl (cD, 1, .inr (.inr (.inr (.inl (fun _ => 0))))))]) (hS : va_S A s.heap H locs) (hl : lv_has ls 9 [(5, .int 0), (4, .ref od), (3, .ref ou), (2, .ref mo), (1, .ref xo), (0, .ref b)]) (hE : ∀ (H : Heap) (locs : List Loc) (ls : Array Slot), va_S A s.heap H locs → lv_has ls 9 [(0, .ref b), (5, .int 0)] → W p l e room_1 s m args below meth c H locs 797152 6710780 Q (F0 m 2999 ls [])) : W p l e room_1 s m args below meth c H locs 60 300 Q (F0 m 790 ls []) := by
  have hP := hP.sub (ws' := [(xo, .inr (11, [.ref xg, .int 0, .ref xp, .int 0, .ref xq, .int 0, .ref r1, .ref r2, .ref r3, .ref r4, .ref se, .int 0, .int 0, .int 40, .int 0, .int 0])), (r1, .inr (9, [.int 0, .int 0])), (r2, .inr (9, [.int 0, .int 0])), (r3, .inr (9, [.int 0, .int 0])), (r4, .inr (9, [.int 0, .int 0])), (mo, .inr (16, [.int 0, .ref gl, .ref po, .ref pi, .ref bu, .ref pa, .int 0, .int 0, .int 40, .int 0, .null, .int 0, .int 0])), (bu, .inl (ci, 4, .inl (fun _ => 0))), (ou, .inl (cJ, 1, .inr (.inl (fun _ => 0))))]) [0, 4, 5, 6, 7, 9, 13, 15] rfl
  have hD := hD.sub (ws' := [(xo, .inr (11, [.ref xg, .int 0, .ref xp, .int 0, .ref xq, .int 0, .ref r1, .ref r2, .ref r3, .ref r4, .ref se, .int 0, .int 0, .int 40, .int 0, .int 0])), (r1, .inr (9, [.int 0, .int 0])), (r2, .inr (9, [.int 0, .int 0])), (r3, .inr (9, [.int 0, .int 0])), (r4, .inr (9, [.int 0, .int 0])), (mo, .inr (16, [.int 0, .ref gl, .ref po, .ref pi, .ref bu, .ref pa, .int 0, .int 0, .int 40, .int 0, .null, .int 0, .int 0])), (bu, .inl (ci, 4, .inl (fun _ => 0))), (ou, .inl (cJ, 1, .inr (.inl (fun _ => 0))))]) [0, 4, 5, 6, 7, 9, 13, 15] (by decide) rfl
  have hK := hK.sub (tys' := [(ci, .int), (cJ, .long)]) [3, 5] rfl
  refine lv_aload_n hx hb dL_law_790 rfl (lv_at hl 4 rfl) ?_
  refine lv_aload_n hx hb dL_law_791 rfl (lv_at hl 5 rfl) ?_
  refine lv_iload hx hb dL_law_792 (lv_at hl 0 rfl) ?_
  refine lv_iconst (v := 1) hx hb dL_law_794 (by decide) ?_
  refine lv_iadd hx hb dL_law_795 ?_
  refine lv_topi (fun y_945 ey_945 => ?_)
  have ey_945 : y_945 = 1 := ey_945.trans (by decide +kernel)
  subst ey_945
  refine va_sld hx hb hX hbl hbA hS (vp_in_iff.mpr (by rw [hL]; decide +kernel)) dL_law_796 ?_
  refine lv_i2c hx hb dL_law_797 rfl ?_
  refine lv_aload_n hx hb dL_law_798 rfl (lv_at hl 2 rfl) ?_
  have hFc := va_free (wc := [(xo, .inr (11, [.ref xg, .int 0, .ref xp, .int 0, .ref xq, .int 0, .ref r1, .ref r2, .ref r3, .ref r4, .ref se, .int 0, .int 0, .int 40, .int 0, .int 0])), (r1, .inr (9, [.int 0, .int 0])), (r2, .inr (9, [.int 0, .int 0])), (r3, .inr (9, [.int 0, .int 0])), (r4, .inr (9, [.int 0, .int 0])), (ou, .inl (cJ, 1, .inr (.inl (fun _ => 0))))]) hD hS hA [0, 1, 2, 3, 4, 7] rfl
  refine vx_calli (vx_runSX (As := [.ref xo, .int (((xs (1 : Int32).toNatClampNeg).toUInt32 % 65536).toInt32), .ref ou]) (rest := []) ⟨hx, hb, hml, hown, hts⟩ (zc_L_busy l hnt D G xo xg xp xq r1 r2 r3 r4 se 0 0 ou cJ (((xs (1 : Int32).toNatClampNeg).toUInt32 % 65536).toInt32) H.size) (vx_cwSW 3 hts gzL_law_L_busy_197 rfl rfl rfl (by decide +kernel) ⟨(Nat.le_of_ble_eq_true rfl), (Nat.le_of_ble_eq_true rfl)⟩) ⟨p_RW_blind, (p_RW_at (tc := [(cJ, .long)]) (wc := [(xo, .inr (11, [.ref xg, .int 0, .ref xp, .int 0, .ref xq, .int 0, .ref r1, .ref r2, .ref r3, .ref r4, .ref se, .int 0, .int 0, .int 40, .int 0, .int 0])), (r1, .inr (9, [.int 0, .int 0])), (r2, .inr (9, [.int 0, .int 0])), (r3, .inr (9, [.int 0, .int 0])), (r4, .inr (9, [.int 0, .int 0])), (ou, .inl (cJ, 1, .inr (.inl (fun _ => 0))))]) hP hK hD hS hA hT hZ [0, 1, 2, 3, 4, 7] [1] rfl rfl (by decide) rfl [.ref xo, .int (((xs (1 : Int32).toNatClampNeg).toUInt32 % 65536).toInt32), .ref ou])⟩ rfl rfl hl.1 rfl (lv_room (Nat.le_of_ble_eq_true rfl)) dL_law_799 ⟨(Nat.le_of_ble_eq_true rfl), (Nat.le_of_ble_eq_true rfl)⟩) hS (fun q _ h => hFc q h) hFc (fun q _ h => hFc q h) (fun E ce q9 u t H locs ht hvm hpx hBX hz1 hk1 hS hce hcv hcl => ?_) (fun r_946 u t H locs ht hvm w_947 hB hz1 hk1 hS => ?_)
  · exact (show False from hBX).elim
  · obtain ⟨u_948, rfl⟩ : ∃ z, z = u := ⟨_, rfl⟩
    obtain ⟨hP, hD, hK⟩ := q_join (D := D) (wc := [(xo, .inr (11, [.ref xg, .int 0, .ref xp, .int 0, .ref xq, .int 0, .ref r1, .ref r2, .ref r3, .ref r4, .ref se, .int 0, .int 0, .int 40, .int 0, .int 0])), (r1, .inr (9, [.int 0, .int 0])), (r2, .inr (9, [.int 0, .int 0])), (r3, .inr (9, [.int 0, .int 0])), (r4, .inr (9, [.int 0, .int 0])), (ou, .inl (cJ, 1, .inr (.inl (fun _ => 0))))]) (wr := [(mo, .inr (16, [.int 0, .ref gl, .ref po, .ref pi, .ref bu, .ref pa, .int 0, .int 0, .int 40, .int 0, .null, .int 0, .int 0])), (bu, .inl (ci, 4, .inl (fun _ => 0)))]) (w1 := [(ou, .inl (cJ, 1, .inr (.inl u_948)))]) (tyr := [(ci, .int)]) (ty1 := [(cJ, .long)]) hP hD hK [0, 1, 2, 3, 4, 7] [5, 6] [0] rfl rfl (by decide) (by decide) rfl hFc hk1 ht hvm hB
    have hP : va_P D vwCl [(mo, .inr (16, [.int 0, .ref gl, .ref po, .ref pi, .ref bu, .ref pa, .int 0, .int 0, .int 40, .int 0, .null, .int 0, .int 0])), (bu, .inl (ci, 4, .inl (fun _ => 0))), (ou, .inl (cJ, 1, .inr (.inl u_948)))] H := hP
    have hD : va_D A [(mo, .inr (16, [.int 0, .ref gl, .ref po, .ref pi, .ref bu, .ref pa, .int 0, .int 0, .int 40, .int 0, .null, .int 0, .int 0])), (bu, .inl (ci, 4, .inl (fun _ => 0))), (ou, .inl (cJ, 1, .inr (.inl u_948)))] := hD
    have hK : va_K D vwCl [(ci, .int), (cJ, .long)] s := hK
    refine W.widen (k := 61) (n := 306) (Nat.le_of_ble_eq_true rfl) (Nat.le_of_ble_eq_true rfl) ?_
    rcases w_947 with ⟨c_949, c_950, rfl⟩ | ⟨c_951, rfl⟩
    · refine lv_istore (lv' := [(6, .int 0), (5, .int 0), (4, .ref od), (3, .ref ou), (2, .ref mo), (1, .ref xo), (0, .ref b)]) hx hb dL_law_802 hl (by decide) rfl (fun ls hl => ?_)
      refine lv_aload_n hx hb dL_law_804 rfl (lv_at hl 4 rfl) ?_
      refine lv_aload_n hx hb dL_law_805 rfl (lv_at hl 6 rfl) ?_
      refine lv_iload hx hb dL_law_806 (lv_at hl 1 rfl) ?_
      refine lv_iconst (v := 1) hx hb dL_law_808 (by decide) ?_
      refine lv_iadd hx hb dL_law_809 ?_
      refine lv_topi (fun y_952 ey_952 => ?_)
      have ey_952 : y_952 = 1 := ey_952.trans (by decide +kernel)
      subst ey_952
      refine va_sld hx hb hX hbl hbA hS (vp_in_iff.mpr (by rw [hL]; decide +kernel)) dL_law_810 ?_
      refine lv_i2c hx hb dL_law_811 rfl ?_
      have hFc := va_free (wc := [(mo, .inr (16, [.int 0, .ref gl, .ref po, .ref pi, .ref bu, .ref pa, .int 0, .int 0, .int 40, .int 0, .null, .int 0, .int 0])), (bu, .inl (ci, 4, .inl (fun _ => 0)))]) hD hS hA [0, 1] rfl
      refine va_calli (va_runV (As := [.int (((xs (1 : Int32).toNatClampNeg).toUInt32 % 65536).toInt32)]) (rest := []) ⟨hx, hb, hml, hown, hts⟩ (zc_X11_busy l D G mo gl po pi bu pa 0 0 0 (((xs (1 : Int32).toNatClampNeg).toUInt32 % 65536).toInt32) ci H.size) (cwV 1 hts gzL_law_X11_busy_200 rfl rfl rfl (by decide +kernel) ⟨(Nat.le_of_ble_eq_true rfl), (Nat.le_of_ble_eq_true rfl)⟩) ⟨p_RW_blind, va_recv hK hP (ci := 16) (q0 := 0) rfl rfl, (p_RW_at (tc := [(ci, .int)]) (wc := [(mo, .inr (16, [.int 0, .ref gl, .ref po, .ref pi, .ref bu, .ref pa, .int 0, .int 0, .int 40, .int 0, .null, .int 0, .int 0])), (bu, .inl (ci, 4, .inl (fun _ => 0)))]) hP hK hD hS hA hT hZ [0, 1] [0] rfl rfl (by decide) rfl [.ref mo, .int (((xs (1 : Int32).toNatClampNeg).toUInt32 % 65536).toInt32)])⟩ rfl rfl hl.1 rfl (lv_room (Nat.le_of_ble_eq_true rfl)) dL_law_812 ⟨(Nat.le_of_ble_eq_true rfl), (Nat.le_of_ble_eq_true rfl)⟩) hS (fun q _ h => hFc q h) hFc (fun r_953 u t H locs ht hvm w_954 hB hz1 hk1 hS => ?_)
      obtain ⟨u_955, rfl⟩ : ∃ z, z = u := ⟨_, rfl⟩
      obtain ⟨hP, hD, hK⟩ := q_join (D := D) (wc := [(mo, .inr (16, [.int 0, .ref gl, .ref po, .ref pi, .ref bu, .ref pa, .int 0, .int 0, .int 40, .int 0, .null, .int 0, .int 0])), (bu, .inl (ci, 4, .inl (fun _ => 0)))]) (wr := [(ou, .inl (cJ, 1, .inr (.inl u_948)))]) (w1 := [(mo, .inr (16, [.int u_955, .ref gl, .ref po, .ref pi, .ref bu, .ref pa, .int 0, .int 0, .int 40, .int 0, .null, .int 0, .int 0]))]) (tyr := [(cJ, .long)]) (ty1 := [(ci, .int)]) hP hD hK [0, 1] [2] [1] rfl rfl (by decide) (by decide) rfl hFc hk1 ht hvm hB
      have hP : va_P D vwCl [(ou, .inl (cJ, 1, .inr (.inl u_948))), (mo, .inr (16, [.int u_955, .ref gl, .ref po, .ref pi, .ref bu, .ref pa, .int 0, .int 0, .int 40, .int 0, .null, .int 0, .int 0]))] H := hP
      have hD : va_D A [(ou, .inl (cJ, 1, .inr (.inl u_948))), (mo, .inr (16, [.int u_955, .ref gl, .ref po, .ref pi, .ref bu, .ref pa, .int 0, .int 0, .int 40, .int 0, .null, .int 0, .int 0]))] := hD
      have hK : va_K D vwCl [(cJ, .long), (ci, .int)] s := hK
      rcases w_954 with ⟨c_956, rfl, rfl⟩ | ⟨c_957, rfl, rfl⟩
      · refine lv_istore (lv' := [(7, .int 0), (6, .int 0), (5, .int 0), (4, .ref od), (3, .ref ou), (2, .ref mo), (1, .ref xo), (0, .ref b)]) hx hb dL_law_815 hl (by decide) rfl (fun ls hl => ?_)
        refine lv_aload_n hx hb dL_law_817 rfl (lv_at hl 5 rfl) ?_
        refine vp_callSi (va_runV (As := []) (rest := []) ⟨hx, hb, hml, hown, hts⟩ (zc_X11_thrown l D G mo gl po pi bu pa 0 0 0 40) (cwV 0 hts gzL_law_X11_thrown_165 rfl rfl rfl (by decide +kernel) ⟨(Nat.le_of_ble_eq_true rfl), (Nat.le_of_ble_eq_true rfl)⟩) ⟨p_RO_blind, va_recv hK hP (ci := 16) (q0 := 1) rfl rfl, (p_RO_at (tc := []) (wc := [(mo, .inr (16, [.int 0, .ref gl, .ref po, .ref pi, .ref bu, .ref pa, .int 0, .int 0, .int 40, .int 0, .null, .int 0, .int 0]))]) hP hK hT [1] [] rfl rfl [.ref mo])⟩ rfl rfl hl.1 rfl (lv_room (Nat.le_of_ble_eq_true rfl)) dL_law_818 ⟨(Nat.le_of_ble_eq_true rfl), (Nat.le_of_ble_eq_true rfl)⟩).run (fun r_958 w_959 => ?_)
        obtain rfl := w_959
        refine lv_iload hx hb dL_law_821 (lv_at hl 1 rfl) ?_
        refine lv_icmp_eq (tgt := 828) hx hb dL_law_823 (by decide) (fun _ => ?_) (fun cc => absurd (by decide) cc)
        refine lv_iload hx hb dL_law_828 (lv_at hl 1 rfl) ?_
        refine lv_if_ne (tgt := 845) hx hb dL_law_830 (by decide) (fun cc => absurd (by decide) cc) (fun _ => ?_)
        refine lv_aload_n hx hb dL_law_833 rfl (lv_at hl 4 rfl) ?_
        refine lv_iconst (v := 0) hx hb dL_law_834 (by decide) ?_
        refine va_lald (D := D) (cl := vwCl) hx hb hK hP 0 0 rfl rfl (vp_in_nI (n := 0) (N := 1) (by decide) (by decide)) dL_law_835 ?_
        refine lv_topl (fun y_960 ey_960 => ?_)
        have ey_960 : y_960 = 0 := ey_960.trans c_950
        subst ey_960
        refine lv_iload hx hb dL_law_836 (lv_at hl 0 rfl) ?_
        refine lv_i2l (v := 0) hx hb dL_law_838 (by decide) ?_
        refine W.lcmp hx hb dL_law_839 ?_
        refine lv_topi (fun y_961 ey_961 => ?_)
        have ey_961 : y_961 = 0 := ey_961.trans (by decide +kernel)
        subst ey_961
        refine lv_if_eq (tgt := 845) hx hb dL_law_840 (by decide) (fun _ => ?_) (fun cc => absurd (by decide) cc)
        refine lv_goto (tgt := 2999) hx hb dL_law_845 (by decide) ?_
        refine W.widen (k := 797152) (n := 6710780) (Nat.le_of_ble_eq_true rfl) (Nat.le_of_ble_eq_true rfl) ?_
        exact hE _ _ _ hS (lv_sub hl [7, 2] rfl)
      · exact absurd c_949 c_957
    · refine lv_istore (lv' := [(6, .int 1), (5, .int 0), (4, .ref od), (3, .ref ou), (2, .ref mo), (1, .ref xo), (0, .ref b)]) hx hb dL_law_802 hl (by decide) rfl (fun ls hl => ?_)
      refine lv_aload_n hx hb dL_law_804 rfl (lv_at hl 4 rfl) ?_
      refine lv_aload_n hx hb dL_law_805 rfl (lv_at hl 6 rfl) ?_
      refine lv_iload hx hb dL_law_806 (lv_at hl 1 rfl) ?_
      refine lv_iconst (v := 1) hx hb dL_law_808 (by decide) ?_
      refine lv_iadd hx hb dL_law_809 ?_
      refine lv_topi (fun y_962 ey_962 => ?_)
      have ey_962 : y_962 = 1 := ey_962.trans (by decide +kernel)
      subst ey_962
      refine va_sld hx hb hX hbl hbA hS (vp_in_iff.mpr (by rw [hL]; decide +kernel)) dL_law_810 ?_
      refine lv_i2c hx hb dL_law_811 rfl ?_
      have hFc := va_free (wc := [(mo, .inr (16, [.int 0, .ref gl, .ref po, .ref pi, .ref bu, .ref pa, .int 0, .int 0, .int 40, .int 0, .null, .int 0, .int 0])), (bu, .inl (ci, 4, .inl (fun _ => 0)))]) hD hS hA [0, 1] rfl
      refine va_calli (va_runV (As := [.int (((xs (1 : Int32).toNatClampNeg).toUInt32 % 65536).toInt32)]) (rest := []) ⟨hx, hb, hml, hown, hts⟩ (zc_X11_busy l D G mo gl po pi bu pa 0 0 0 (((xs (1 : Int32).toNatClampNeg).toUInt32 % 65536).toInt32) ci H.size) (cwV 1 hts gzL_law_X11_busy_200 rfl rfl rfl (by decide +kernel) ⟨(Nat.le_of_ble_eq_true rfl), (Nat.le_of_ble_eq_true rfl)⟩) ⟨p_RW_blind, va_recv hK hP (ci := 16) (q0 := 0) rfl rfl, (p_RW_at (tc := [(ci, .int)]) (wc := [(mo, .inr (16, [.int 0, .ref gl, .ref po, .ref pi, .ref bu, .ref pa, .int 0, .int 0, .int 40, .int 0, .null, .int 0, .int 0])), (bu, .inl (ci, 4, .inl (fun _ => 0)))]) hP hK hD hS hA hT hZ [0, 1] [0] rfl rfl (by decide) rfl [.ref mo, .int (((xs (1 : Int32).toNatClampNeg).toUInt32 % 65536).toInt32)])⟩ rfl rfl hl.1 rfl (lv_room (Nat.le_of_ble_eq_true rfl)) dL_law_812 ⟨(Nat.le_of_ble_eq_true rfl), (Nat.le_of_ble_eq_true rfl)⟩) hS (fun q _ h => hFc q h) hFc (fun r_963 u t H locs ht hvm w_964 hB hz1 hk1 hS => ?_)
      obtain ⟨u_965, rfl⟩ : ∃ z, z = u := ⟨_, rfl⟩
      obtain ⟨hP, hD, hK⟩ := q_join (D := D) (wc := [(mo, .inr (16, [.int 0, .ref gl, .ref po, .ref pi, .ref bu, .ref pa, .int 0, .int 0, .int 40, .int 0, .null, .int 0, .int 0])), (bu, .inl (ci, 4, .inl (fun _ => 0)))]) (wr := [(ou, .inl (cJ, 1, .inr (.inl u_948)))]) (w1 := [(mo, .inr (16, [.int u_965, .ref gl, .ref po, .ref pi, .ref bu, .ref pa, .int 0, .int 0, .int 40, .int 0, .null, .int 0, .int 0]))]) (tyr := [(cJ, .long)]) (ty1 := [(ci, .int)]) hP hD hK [0, 1] [2] [1] rfl rfl (by decide) (by decide) rfl hFc hk1 ht hvm hB
      have hP : va_P D vwCl [(ou, .inl (cJ, 1, .inr (.inl u_948))), (mo, .inr (16, [.int u_965, .ref gl, .ref po, .ref pi, .ref bu, .ref pa, .int 0, .int 0, .int 40, .int 0, .null, .int 0, .int 0]))] H := hP
      have hD : va_D A [(ou, .inl (cJ, 1, .inr (.inl u_948))), (mo, .inr (16, [.int u_965, .ref gl, .ref po, .ref pi, .ref bu, .ref pa, .int 0, .int 0, .int 40, .int 0, .null, .int 0, .int 0]))] := hD
      have hK : va_K D vwCl [(cJ, .long), (ci, .int)] s := hK
      rcases w_964 with ⟨c_966, rfl, rfl⟩ | ⟨c_967, rfl, rfl⟩
      · exact absurd c_966 c_951
      · refine lv_istore (lv' := [(7, .int 0), (6, .int 1), (5, .int 0), (4, .ref od), (3, .ref ou), (2, .ref mo), (1, .ref xo), (0, .ref b)]) hx hb dL_law_815 hl (by decide) rfl (fun ls hl => ?_)
        refine lv_aload_n hx hb dL_law_817 rfl (lv_at hl 5 rfl) ?_
        refine vp_callSi (va_runV (As := []) (rest := []) ⟨hx, hb, hml, hown, hts⟩ (zc_X11_thrown l D G mo gl po pi bu pa 1 0 0 40) (cwV 0 hts gzL_law_X11_thrown_165 rfl rfl rfl (by decide +kernel) ⟨(Nat.le_of_ble_eq_true rfl), (Nat.le_of_ble_eq_true rfl)⟩) ⟨p_RO_blind, va_recv hK hP (ci := 16) (q0 := 1) rfl rfl, (p_RO_at (tc := []) (wc := [(mo, .inr (16, [.int 1, .ref gl, .ref po, .ref pi, .ref bu, .ref pa, .int 0, .int 0, .int 40, .int 0, .null, .int 0, .int 0]))]) hP hK hT [1] [] rfl rfl [.ref mo])⟩ rfl rfl hl.1 rfl (lv_room (Nat.le_of_ble_eq_true rfl)) dL_law_818 ⟨(Nat.le_of_ble_eq_true rfl), (Nat.le_of_ble_eq_true rfl)⟩).run (fun r_968 w_969 => ?_)
        obtain rfl := w_969
        refine lv_iload hx hb dL_law_821 (lv_at hl 1 rfl) ?_
        refine lv_icmp_eq (tgt := 828) hx hb dL_law_823 (by decide) (fun _ => ?_) (fun cc => absurd (by decide) cc)
        refine lv_iload hx hb dL_law_828 (lv_at hl 1 rfl) ?_
        refine lv_if_ne (tgt := 845) hx hb dL_law_830 (by decide) (fun _ => ?_) (fun cc => absurd cc (by decide))
        refine lv_goto (tgt := 2999) hx hb dL_law_845 (by decide) ?_
        refine W.widen (k := 797152) (n := 6710780) (Nat.le_of_ble_eq_true rfl) (Nat.le_of_ble_eq_true rfl) ?_
        exact hE _ _ _ hS (lv_sub hl [7, 2] rfl)
theorem dL_law_848 : decode cL_law 848 = .ok (.aload_n 1, 1) := by decide +kernel
theorem dL_law_849 : decode cL_law 849 = .ok (.aload_n 0, 1) := by decide +kernel
theorem dL_law_850 : decode cL_law 850 = .ok (.iload 5, 2) := by decide +kernel
theorem dL_law_852 : decode cL_law 852 = .ok (.iconst 1, 1) := by decide +kernel
theorem dL_law_853 : decode cL_law 853 = .ok (.iadd, 1) := by decide +kernel
theorem dL_law_854 : decode cL_law 854 = .ok (.iaload, 1) := by decide +kernel
theorem dL_law_855 : decode cL_law 855 = .ok (.i2c, 1) := by decide +kernel
theorem dL_law_856 : decode cL_law 856 = .ok (.aload_n 3, 1) := by decide +kernel
theorem dL_law_857 : decode cL_law 857 = .ok (.invokestatic 201, 3) := by decide +kernel
theorem dL_law_860 : decode cL_law 860 = .ok (.istore 6, 2) := by decide +kernel
theorem dL_law_862 : decode cL_law 862 = .ok (.aload_n 2, 1) := by decide +kernel
theorem dL_law_863 : decode cL_law 863 = .ok (.aload_n 0, 1) := by decide +kernel
theorem dL_law_864 : decode cL_law 864 = .ok (.iload 5, 2) := by decide +kernel
theorem dL_law_866 : decode cL_law 866 = .ok (.iconst 1, 1) := by decide +kernel
theorem dL_law_867 : decode cL_law 867 = .ok (.iadd, 1) := by decide +kernel
theorem dL_law_868 : decode cL_law 868 = .ok (.iaload, 1) := by decide +kernel
theorem dL_law_869 : decode cL_law 869 = .ok (.i2c, 1) := by decide +kernel
theorem dL_law_870 : decode cL_law 870 = .ok (.invokevirtual 203, 3) := by decide +kernel
theorem dL_law_873 : decode cL_law 873 = .ok (.istore 7, 2) := by decide +kernel
theorem dL_law_875 : decode cL_law 875 = .ok (.aload_n 2, 1) := by decide +kernel
theorem dL_law_876 : decode cL_law 876 = .ok (.invokevirtual 165, 3) := by decide +kernel
theorem dL_law_879 : decode cL_law 879 = .ok (.iload 6, 2) := by decide +kernel
theorem dL_law_881 : decode cL_law 881 = .ok (.if_icmp .eq 5, 3) := by decide +kernel
theorem dL_law_886 : decode cL_law 886 = .ok (.iload 6, 2) := by decide +kernel
theorem dL_law_888 : decode cL_law 888 = .ok (.ifCond .ne 15, 3) := by decide +kernel
theorem dL_law_891 : decode cL_law 891 = .ok (.aload_n 3, 1) := by decide +kernel
theorem dL_law_892 : decode cL_law 892 = .ok (.iconst 0, 1) := by decide +kernel
theorem dL_law_893 : decode cL_law 893 = .ok (.laload, 1) := by decide +kernel
theorem dL_law_894 : decode cL_law 894 = .ok (.iload 7, 2) := by decide +kernel
theorem dL_law_896 : decode cL_law 896 = .ok (.i2l, 1) := by decide +kernel
theorem dL_law_897 : decode cL_law 897 = .ok (.lcmp, 1) := by decide +kernel
theorem dL_law_898 : decode cL_law 898 = .ok (.ifCond .eq 5, 3) := by decide +kernel
theorem dL_law_903 : decode cL_law 903 = .ok (.goto 2096, 3) := by decide +kernel
set_option maxHeartbeats 4000000 in
set_option maxRecDepth 100000 in
theorem zl_10 {p : Program} {e : Env} {s : State} {m : MethodId} {below : List Frame} {meth : Method} {c : Code} {Q : State → Prop} {args : Array Value} (l : Launch) (hnt : l.stackTraces = false) (D : va_G) (G : Nat × Nat × Nat) (xo : Nat) (xg : Nat) (xp : Nat) (xq : Nat) (r1 : Nat) (r2 : Nat) (r3 : Nat) (r4 : Nat) (se : Nat) (n1 : Nat) (n2 : Nat) (n3 : Nat) (mo : Nat) (gl : Nat) (po : Nat) (pi : Nat) (bu : Nat) (pa : Nat) (ou : Nat) (od : Nat) (cg : ClassId) (cp : ClassId) (cq : ClassId) (ci : ClassId) (cj : ClassId) (cJ : ClassId) (cD : ClassId) {b L : Nat} {xs : Nat → Int32} {A : Nat → Prop} {H : Heap} {locs : List Loc} {ls : Array Slot} (hx : p.tables.exec = Jvm.exec) (hb : c.code = code) (hml : c.maxLocals = 9) (hown : s.vm.findClass RL = some m.cls) (hts : ∀ w ∈ wzL_law, w.before args s = true) (hT : FT G s) (hA : ∀ q : Nat, s.heap.size ≤ q → A q) (hZ : FZ G A s s.heap) (hX : va_X b L xs s s.heap) (hbl : b < s.heap.size) (hbA : ¬ A b) (hL : L = 5) (hK : va_K D vwCl [(cg, .object "Gatherhouse$Glass"), (cp, .object "Gatherhouse$Pot"), (cq, .object "Gatherhouse$Piece"), (ci, .int), (cj, .int), (cJ, .long), (cD, .double)] s) (hP : va_P D vwCl [(xo, .inr (11, [.ref xg, .int 0, .ref xp, .int 0, .ref xq, .int 0, .ref r1, .ref r2, .ref r3, .ref r4, .ref se, .int 0, .int 0, .int 40, .int 0, .int 0])), (xg, .inl (cg, 6, .inr (.inr (.inr (.inr (fun _ => none)))))), (xp, .inl (cp, 4, .inr (.inr (.inr (.inr (fun _ => none)))))), (xq, .inl (cq, 16, .inr (.inr (.inr (.inr (fun _ => none)))))), (r1, .inr (9, [.int 0, .int 0])), (r2, .inr (9, [.int 0, .int 0])), (r3, .inr (9, [.int 0, .int 0])), (r4, .inr (9, [.int 0, .int 0])), (se, .inr (10, [.ref n1, .ref n2, .ref n3, .int 0, .int 0, .int 0, .int 0])), (mo, .inr (16, [.int 0, .ref gl, .ref po, .ref pi, .ref bu, .ref pa, .int 0, .int 0, .int 40, .int 0, .null, .int 0, .int 0])), (gl, .inr (4, [.int 0, .ref G.1, .int 0])), (po, .inr (4, [.int 0, .ref G.1, .int 0])), (pi, .inr (4, [.int 0, .ref G.1, .int 0])), (bu, .inl (ci, 4, .inl (fun _ => 0))), (pa, .inl (cj, 4, .inl (fun _ => 0))), (ou, .inl (cJ, 1, .inr (.inl (fun _ => 0)))), (od, .inl (cD, 1, .inr (.inr (.inr (.inl (fun _ => 0))))))] H) (hD : va_D A [(xo, .inr (11, [.ref xg, .int 0, .ref xp, .int 0, .ref xq, .int 0, .ref r1, .ref r2, .ref r3, .ref r4, .ref se, .int 0, .int 0, .int 40, .int 0, .int 0])), (xg, .inl (cg, 6, .inr (.inr (.inr (.inr (fun _ => none)))))), (xp, .inl (cp, 4, .inr (.inr (.inr (.inr (fun _ => none)))))), (xq, .inl (cq, 16, .inr (.inr (.inr (.inr (fun _ => none)))))), (r1, .inr (9, [.int 0, .int 0])), (r2, .inr (9, [.int 0, .int 0])), (r3, .inr (9, [.int 0, .int 0])), (r4, .inr (9, [.int 0, .int 0])), (se, .inr (10, [.ref n1, .ref n2, .ref n3, .int 0, .int 0, .int 0, .int 0])), (mo, .inr (16, [.int 0, .ref gl, .ref po, .ref pi, .ref bu, .ref pa, .int 0, .int 0, .int 40, .int 0, .null, .int 0, .int 0])), (gl, .inr (4, [.int 0, .ref G.1, .int 0])), (po, .inr (4, [.int 0, .ref G.1, .int 0])), (pi, .inr (4, [.int 0, .ref G.1, .int 0])), (bu, .inl (ci, 4, .inl (fun _ => 0))), (pa, .inl (cj, 4, .inl (fun _ => 0))), (ou, .inl (cJ, 1, .inr (.inl (fun _ => 0)))), (od, .inl (cD, 1, .inr (.inr (.inr (.inl (fun _ => 0))))))]) (hS : va_S A s.heap H locs) (hl : lv_has ls 9 [(5, .int 0), (4, .ref od), (3, .ref ou), (2, .ref mo), (1, .ref xo), (0, .ref b)]) (hE : ∀ (H : Heap) (locs : List Loc) (ls : Array Slot), va_S A s.heap H locs → lv_has ls 9 [(0, .ref b), (5, .int 0)] → W p l e room_1 s m args below meth c H locs 797152 6710780 Q (F0 m 2999 ls [])) : W p l e room_1 s m args below meth c H locs 60 300 Q (F0 m 848 ls []) := by
  have hP := hP.sub (ws' := [(xo, .inr (11, [.ref xg, .int 0, .ref xp, .int 0, .ref xq, .int 0, .ref r1, .ref r2, .ref r3, .ref r4, .ref se, .int 0, .int 0, .int 40, .int 0, .int 0])), (r1, .inr (9, [.int 0, .int 0])), (r2, .inr (9, [.int 0, .int 0])), (r3, .inr (9, [.int 0, .int 0])), (r4, .inr (9, [.int 0, .int 0])), (mo, .inr (16, [.int 0, .ref gl, .ref po, .ref pi, .ref bu, .ref pa, .int 0, .int 0, .int 40, .int 0, .null, .int 0, .int 0])), (pa, .inl (cj, 4, .inl (fun _ => 0))), (ou, .inl (cJ, 1, .inr (.inl (fun _ => 0))))]) [0, 4, 5, 6, 7, 9, 14, 15] rfl
  have hD := hD.sub (ws' := [(xo, .inr (11, [.ref xg, .int 0, .ref xp, .int 0, .ref xq, .int 0, .ref r1, .ref r2, .ref r3, .ref r4, .ref se, .int 0, .int 0, .int 40, .int 0, .int 0])), (r1, .inr (9, [.int 0, .int 0])), (r2, .inr (9, [.int 0, .int 0])), (r3, .inr (9, [.int 0, .int 0])), (r4, .inr (9, [.int 0, .int 0])), (mo, .inr (16, [.int 0, .ref gl, .ref po, .ref pi, .ref bu, .ref pa, .int 0, .int 0, .int 40, .int 0, .null, .int 0, .int 0])), (pa, .inl (cj, 4, .inl (fun _ => 0))), (ou, .inl (cJ, 1, .inr (.inl (fun _ => 0))))]) [0, 4, 5, 6, 7, 9, 14, 15] (by decide) rfl
  have hK := hK.sub (tys' := [(cj, .int), (cJ, .long)]) [4, 5] rfl
  refine lv_aload_n hx hb dL_law_848 rfl (lv_at hl 4 rfl) ?_
  refine lv_aload_n hx hb dL_law_849 rfl (lv_at hl 5 rfl) ?_
  refine lv_iload hx hb dL_law_850 (lv_at hl 0 rfl) ?_
  refine lv_iconst (v := 1) hx hb dL_law_852 (by decide) ?_
  refine lv_iadd hx hb dL_law_853 ?_
  refine lv_topi (fun y_970 ey_970 => ?_)
  have ey_970 : y_970 = 1 := ey_970.trans (by decide +kernel)
  subst ey_970
  refine va_sld hx hb hX hbl hbA hS (vp_in_iff.mpr (by rw [hL]; decide +kernel)) dL_law_854 ?_
  refine lv_i2c hx hb dL_law_855 rfl ?_
  refine lv_aload_n hx hb dL_law_856 rfl (lv_at hl 2 rfl) ?_
  have hFc := va_free (wc := [(xo, .inr (11, [.ref xg, .int 0, .ref xp, .int 0, .ref xq, .int 0, .ref r1, .ref r2, .ref r3, .ref r4, .ref se, .int 0, .int 0, .int 40, .int 0, .int 0])), (r1, .inr (9, [.int 0, .int 0])), (r2, .inr (9, [.int 0, .int 0])), (r3, .inr (9, [.int 0, .int 0])), (r4, .inr (9, [.int 0, .int 0])), (ou, .inl (cJ, 1, .inr (.inl (fun _ => 0))))]) hD hS hA [0, 1, 2, 3, 4, 7] rfl
  refine vx_calli (vx_runSX (As := [.ref xo, .int (((xs (1 : Int32).toNatClampNeg).toUInt32 % 65536).toInt32), .ref ou]) (rest := []) ⟨hx, hb, hml, hown, hts⟩ (zc_L_pay l hnt D G xo xg xp xq r1 r2 r3 r4 se 0 0 ou cJ (((xs (1 : Int32).toNatClampNeg).toUInt32 % 65536).toInt32) H.size) (vx_cwSW 3 hts gzL_law_L_pay_201 rfl rfl rfl (by decide +kernel) ⟨(Nat.le_of_ble_eq_true rfl), (Nat.le_of_ble_eq_true rfl)⟩) ⟨p_RW_blind, (p_RW_at (tc := [(cJ, .long)]) (wc := [(xo, .inr (11, [.ref xg, .int 0, .ref xp, .int 0, .ref xq, .int 0, .ref r1, .ref r2, .ref r3, .ref r4, .ref se, .int 0, .int 0, .int 40, .int 0, .int 0])), (r1, .inr (9, [.int 0, .int 0])), (r2, .inr (9, [.int 0, .int 0])), (r3, .inr (9, [.int 0, .int 0])), (r4, .inr (9, [.int 0, .int 0])), (ou, .inl (cJ, 1, .inr (.inl (fun _ => 0))))]) hP hK hD hS hA hT hZ [0, 1, 2, 3, 4, 7] [1] rfl rfl (by decide) rfl [.ref xo, .int (((xs (1 : Int32).toNatClampNeg).toUInt32 % 65536).toInt32), .ref ou])⟩ rfl rfl hl.1 rfl (lv_room (Nat.le_of_ble_eq_true rfl)) dL_law_857 ⟨(Nat.le_of_ble_eq_true rfl), (Nat.le_of_ble_eq_true rfl)⟩) hS (fun q _ h => hFc q h) hFc (fun q _ h => hFc q h) (fun E ce q9 u t H locs ht hvm hpx hBX hz1 hk1 hS hce hcv hcl => ?_) (fun r_971 u t H locs ht hvm w_972 hB hz1 hk1 hS => ?_)
  · exact (show False from hBX).elim
  · obtain ⟨u_973, rfl⟩ : ∃ z, z = u := ⟨_, rfl⟩
    obtain ⟨hP, hD, hK⟩ := q_join (D := D) (wc := [(xo, .inr (11, [.ref xg, .int 0, .ref xp, .int 0, .ref xq, .int 0, .ref r1, .ref r2, .ref r3, .ref r4, .ref se, .int 0, .int 0, .int 40, .int 0, .int 0])), (r1, .inr (9, [.int 0, .int 0])), (r2, .inr (9, [.int 0, .int 0])), (r3, .inr (9, [.int 0, .int 0])), (r4, .inr (9, [.int 0, .int 0])), (ou, .inl (cJ, 1, .inr (.inl (fun _ => 0))))]) (wr := [(mo, .inr (16, [.int 0, .ref gl, .ref po, .ref pi, .ref bu, .ref pa, .int 0, .int 0, .int 40, .int 0, .null, .int 0, .int 0])), (pa, .inl (cj, 4, .inl (fun _ => 0)))]) (w1 := [(ou, .inl (cJ, 1, .inr (.inl u_973)))]) (tyr := [(cj, .int)]) (ty1 := [(cJ, .long)]) hP hD hK [0, 1, 2, 3, 4, 7] [5, 6] [0] rfl rfl (by decide) (by decide) rfl hFc hk1 ht hvm hB
    have hP : va_P D vwCl [(mo, .inr (16, [.int 0, .ref gl, .ref po, .ref pi, .ref bu, .ref pa, .int 0, .int 0, .int 40, .int 0, .null, .int 0, .int 0])), (pa, .inl (cj, 4, .inl (fun _ => 0))), (ou, .inl (cJ, 1, .inr (.inl u_973)))] H := hP
    have hD : va_D A [(mo, .inr (16, [.int 0, .ref gl, .ref po, .ref pi, .ref bu, .ref pa, .int 0, .int 0, .int 40, .int 0, .null, .int 0, .int 0])), (pa, .inl (cj, 4, .inl (fun _ => 0))), (ou, .inl (cJ, 1, .inr (.inl u_973)))] := hD
    have hK : va_K D vwCl [(cj, .int), (cJ, .long)] s := hK
    refine W.widen (k := 61) (n := 306) (Nat.le_of_ble_eq_true rfl) (Nat.le_of_ble_eq_true rfl) ?_
    rcases w_972 with ⟨c_974, c_975, rfl⟩ | ⟨c_976, rfl⟩
    · refine lv_istore (lv' := [(6, .int 0), (5, .int 0), (4, .ref od), (3, .ref ou), (2, .ref mo), (1, .ref xo), (0, .ref b)]) hx hb dL_law_860 hl (by decide) rfl (fun ls hl => ?_)
      refine lv_aload_n hx hb dL_law_862 rfl (lv_at hl 4 rfl) ?_
      refine lv_aload_n hx hb dL_law_863 rfl (lv_at hl 6 rfl) ?_
      refine lv_iload hx hb dL_law_864 (lv_at hl 1 rfl) ?_
      refine lv_iconst (v := 1) hx hb dL_law_866 (by decide) ?_
      refine lv_iadd hx hb dL_law_867 ?_
      refine lv_topi (fun y_977 ey_977 => ?_)
      have ey_977 : y_977 = 1 := ey_977.trans (by decide +kernel)
      subst ey_977
      refine va_sld hx hb hX hbl hbA hS (vp_in_iff.mpr (by rw [hL]; decide +kernel)) dL_law_868 ?_
      refine lv_i2c hx hb dL_law_869 rfl ?_
      have hFc := va_free (wc := [(mo, .inr (16, [.int 0, .ref gl, .ref po, .ref pi, .ref bu, .ref pa, .int 0, .int 0, .int 40, .int 0, .null, .int 0, .int 0])), (pa, .inl (cj, 4, .inl (fun _ => 0)))]) hD hS hA [0, 1] rfl
      refine va_calli (va_runV (As := [.int (((xs (1 : Int32).toNatClampNeg).toUInt32 % 65536).toInt32)]) (rest := []) ⟨hx, hb, hml, hown, hts⟩ (zc_X11_pay l D G mo gl po pi bu pa 0 0 0 (((xs (1 : Int32).toNatClampNeg).toUInt32 % 65536).toInt32) cj H.size) (cwV 1 hts gzL_law_X11_pay_203 rfl rfl rfl (by decide +kernel) ⟨(Nat.le_of_ble_eq_true rfl), (Nat.le_of_ble_eq_true rfl)⟩) ⟨p_RW_blind, va_recv hK hP (ci := 16) (q0 := 0) rfl rfl, (p_RW_at (tc := [(cj, .int)]) (wc := [(mo, .inr (16, [.int 0, .ref gl, .ref po, .ref pi, .ref bu, .ref pa, .int 0, .int 0, .int 40, .int 0, .null, .int 0, .int 0])), (pa, .inl (cj, 4, .inl (fun _ => 0)))]) hP hK hD hS hA hT hZ [0, 1] [0] rfl rfl (by decide) rfl [.ref mo, .int (((xs (1 : Int32).toNatClampNeg).toUInt32 % 65536).toInt32)])⟩ rfl rfl hl.1 rfl (lv_room (Nat.le_of_ble_eq_true rfl)) dL_law_870 ⟨(Nat.le_of_ble_eq_true rfl), (Nat.le_of_ble_eq_true rfl)⟩) hS (fun q _ h => hFc q h) hFc (fun r_978 u t H locs ht hvm w_979 hB hz1 hk1 hS => ?_)
      obtain ⟨u_980, rfl⟩ : ∃ z, z = u := ⟨_, rfl⟩
      obtain ⟨hP, hD, hK⟩ := q_join (D := D) (wc := [(mo, .inr (16, [.int 0, .ref gl, .ref po, .ref pi, .ref bu, .ref pa, .int 0, .int 0, .int 40, .int 0, .null, .int 0, .int 0])), (pa, .inl (cj, 4, .inl (fun _ => 0)))]) (wr := [(ou, .inl (cJ, 1, .inr (.inl u_973)))]) (w1 := [(mo, .inr (16, [.int u_980, .ref gl, .ref po, .ref pi, .ref bu, .ref pa, .int 0, .int 0, .int 40, .int 0, .null, .int 0, .int 0]))]) (tyr := [(cJ, .long)]) (ty1 := [(cj, .int)]) hP hD hK [0, 1] [2] [1] rfl rfl (by decide) (by decide) rfl hFc hk1 ht hvm hB
      have hP : va_P D vwCl [(ou, .inl (cJ, 1, .inr (.inl u_973))), (mo, .inr (16, [.int u_980, .ref gl, .ref po, .ref pi, .ref bu, .ref pa, .int 0, .int 0, .int 40, .int 0, .null, .int 0, .int 0]))] H := hP
      have hD : va_D A [(ou, .inl (cJ, 1, .inr (.inl u_973))), (mo, .inr (16, [.int u_980, .ref gl, .ref po, .ref pi, .ref bu, .ref pa, .int 0, .int 0, .int 40, .int 0, .null, .int 0, .int 0]))] := hD
      have hK : va_K D vwCl [(cJ, .long), (cj, .int)] s := hK
      rcases w_979 with ⟨c_981, rfl, rfl⟩ | ⟨c_982, rfl, rfl⟩
      · refine lv_istore (lv' := [(7, .int 0), (6, .int 0), (5, .int 0), (4, .ref od), (3, .ref ou), (2, .ref mo), (1, .ref xo), (0, .ref b)]) hx hb dL_law_873 hl (by decide) rfl (fun ls hl => ?_)
        refine lv_aload_n hx hb dL_law_875 rfl (lv_at hl 5 rfl) ?_
        refine vp_callSi (va_runV (As := []) (rest := []) ⟨hx, hb, hml, hown, hts⟩ (zc_X11_thrown l D G mo gl po pi bu pa 0 0 0 40) (cwV 0 hts gzL_law_X11_thrown_165 rfl rfl rfl (by decide +kernel) ⟨(Nat.le_of_ble_eq_true rfl), (Nat.le_of_ble_eq_true rfl)⟩) ⟨p_RO_blind, va_recv hK hP (ci := 16) (q0 := 1) rfl rfl, (p_RO_at (tc := []) (wc := [(mo, .inr (16, [.int 0, .ref gl, .ref po, .ref pi, .ref bu, .ref pa, .int 0, .int 0, .int 40, .int 0, .null, .int 0, .int 0]))]) hP hK hT [1] [] rfl rfl [.ref mo])⟩ rfl rfl hl.1 rfl (lv_room (Nat.le_of_ble_eq_true rfl)) dL_law_876 ⟨(Nat.le_of_ble_eq_true rfl), (Nat.le_of_ble_eq_true rfl)⟩).run (fun r_983 w_984 => ?_)
        obtain rfl := w_984
        refine lv_iload hx hb dL_law_879 (lv_at hl 1 rfl) ?_
        refine lv_icmp_eq (tgt := 886) hx hb dL_law_881 (by decide) (fun _ => ?_) (fun cc => absurd (by decide) cc)
        refine lv_iload hx hb dL_law_886 (lv_at hl 1 rfl) ?_
        refine lv_if_ne (tgt := 903) hx hb dL_law_888 (by decide) (fun cc => absurd (by decide) cc) (fun _ => ?_)
        refine lv_aload_n hx hb dL_law_891 rfl (lv_at hl 4 rfl) ?_
        refine lv_iconst (v := 0) hx hb dL_law_892 (by decide) ?_
        refine va_lald (D := D) (cl := vwCl) hx hb hK hP 0 0 rfl rfl (vp_in_nI (n := 0) (N := 1) (by decide) (by decide)) dL_law_893 ?_
        refine lv_topl (fun y_985 ey_985 => ?_)
        have ey_985 : y_985 = 0 := ey_985.trans c_975
        subst ey_985
        refine lv_iload hx hb dL_law_894 (lv_at hl 0 rfl) ?_
        refine lv_i2l (v := 0) hx hb dL_law_896 (by decide) ?_
        refine W.lcmp hx hb dL_law_897 ?_
        refine lv_topi (fun y_986 ey_986 => ?_)
        have ey_986 : y_986 = 0 := ey_986.trans (by decide +kernel)
        subst ey_986
        refine lv_if_eq (tgt := 903) hx hb dL_law_898 (by decide) (fun _ => ?_) (fun cc => absurd (by decide) cc)
        refine lv_goto (tgt := 2999) hx hb dL_law_903 (by decide) ?_
        refine W.widen (k := 797152) (n := 6710780) (Nat.le_of_ble_eq_true rfl) (Nat.le_of_ble_eq_true rfl) ?_
        exact hE _ _ _ hS (lv_sub hl [7, 2] rfl)
      · exact absurd c_974 c_982
    · refine lv_istore (lv' := [(6, .int 1), (5, .int 0), (4, .ref od), (3, .ref ou), (2, .ref mo), (1, .ref xo), (0, .ref b)]) hx hb dL_law_860 hl (by decide) rfl (fun ls hl => ?_)
      refine lv_aload_n hx hb dL_law_862 rfl (lv_at hl 4 rfl) ?_
      refine lv_aload_n hx hb dL_law_863 rfl (lv_at hl 6 rfl) ?_
      refine lv_iload hx hb dL_law_864 (lv_at hl 1 rfl) ?_
      refine lv_iconst (v := 1) hx hb dL_law_866 (by decide) ?_
      refine lv_iadd hx hb dL_law_867 ?_
      refine lv_topi (fun y_987 ey_987 => ?_)
      have ey_987 : y_987 = 1 := ey_987.trans (by decide +kernel)
      subst ey_987
      refine va_sld hx hb hX hbl hbA hS (vp_in_iff.mpr (by rw [hL]; decide +kernel)) dL_law_868 ?_
      refine lv_i2c hx hb dL_law_869 rfl ?_
      have hFc := va_free (wc := [(mo, .inr (16, [.int 0, .ref gl, .ref po, .ref pi, .ref bu, .ref pa, .int 0, .int 0, .int 40, .int 0, .null, .int 0, .int 0])), (pa, .inl (cj, 4, .inl (fun _ => 0)))]) hD hS hA [0, 1] rfl
      refine va_calli (va_runV (As := [.int (((xs (1 : Int32).toNatClampNeg).toUInt32 % 65536).toInt32)]) (rest := []) ⟨hx, hb, hml, hown, hts⟩ (zc_X11_pay l D G mo gl po pi bu pa 0 0 0 (((xs (1 : Int32).toNatClampNeg).toUInt32 % 65536).toInt32) cj H.size) (cwV 1 hts gzL_law_X11_pay_203 rfl rfl rfl (by decide +kernel) ⟨(Nat.le_of_ble_eq_true rfl), (Nat.le_of_ble_eq_true rfl)⟩) ⟨p_RW_blind, va_recv hK hP (ci := 16) (q0 := 0) rfl rfl, (p_RW_at (tc := [(cj, .int)]) (wc := [(mo, .inr (16, [.int 0, .ref gl, .ref po, .ref pi, .ref bu, .ref pa, .int 0, .int 0, .int 40, .int 0, .null, .int 0, .int 0])), (pa, .inl (cj, 4, .inl (fun _ => 0)))]) hP hK hD hS hA hT hZ [0, 1] [0] rfl rfl (by decide) rfl [.ref mo, .int (((xs (1 : Int32).toNatClampNeg).toUInt32 % 65536).toInt32)])⟩ rfl rfl hl.1 rfl (lv_room (Nat.le_of_ble_eq_true rfl)) dL_law_870 ⟨(Nat.le_of_ble_eq_true rfl), (Nat.le_of_ble_eq_true rfl)⟩) hS (fun q _ h => hFc q h) hFc (fun r_988 u t H locs ht hvm w_989 hB hz1 hk1 hS => ?_)
      obtain ⟨u_990, rfl⟩ : ∃ z, z = u := ⟨_, rfl⟩
      obtain ⟨hP, hD, hK⟩ := q_join (D := D) (wc := [(mo, .inr (16, [.int 0, .ref gl, .ref po, .ref pi, .ref bu, .ref pa, .int 0, .int 0, .int 40, .int 0, .null, .int 0, .int 0])), (pa, .inl (cj, 4, .inl (fun _ => 0)))]) (wr := [(ou, .inl (cJ, 1, .inr (.inl u_973)))]) (w1 := [(mo, .inr (16, [.int u_990, .ref gl, .ref po, .ref pi, .ref bu, .ref pa, .int 0, .int 0, .int 40, .int 0, .null, .int 0, .int 0]))]) (tyr := [(cJ, .long)]) (ty1 := [(cj, .int)]) hP hD hK [0, 1] [2] [1] rfl rfl (by decide) (by decide) rfl hFc hk1 ht hvm hB
      have hP : va_P D vwCl [(ou, .inl (cJ, 1, .inr (.inl u_973))), (mo, .inr (16, [.int u_990, .ref gl, .ref po, .ref pi, .ref bu, .ref pa, .int 0, .int 0, .int 40, .int 0, .null, .int 0, .int 0]))] H := hP
      have hD : va_D A [(ou, .inl (cJ, 1, .inr (.inl u_973))), (mo, .inr (16, [.int u_990, .ref gl, .ref po, .ref pi, .ref bu, .ref pa, .int 0, .int 0, .int 40, .int 0, .null, .int 0, .int 0]))] := hD
      have hK : va_K D vwCl [(cJ, .long), (cj, .int)] s := hK
      rcases w_989 with ⟨c_991, rfl, rfl⟩ | ⟨c_992, rfl, rfl⟩
      · exact absurd c_991 c_976
      · refine lv_istore (lv' := [(7, .int 0), (6, .int 1), (5, .int 0), (4, .ref od), (3, .ref ou), (2, .ref mo), (1, .ref xo), (0, .ref b)]) hx hb dL_law_873 hl (by decide) rfl (fun ls hl => ?_)
        refine lv_aload_n hx hb dL_law_875 rfl (lv_at hl 5 rfl) ?_
        refine vp_callSi (va_runV (As := []) (rest := []) ⟨hx, hb, hml, hown, hts⟩ (zc_X11_thrown l D G mo gl po pi bu pa 1 0 0 40) (cwV 0 hts gzL_law_X11_thrown_165 rfl rfl rfl (by decide +kernel) ⟨(Nat.le_of_ble_eq_true rfl), (Nat.le_of_ble_eq_true rfl)⟩) ⟨p_RO_blind, va_recv hK hP (ci := 16) (q0 := 1) rfl rfl, (p_RO_at (tc := []) (wc := [(mo, .inr (16, [.int 1, .ref gl, .ref po, .ref pi, .ref bu, .ref pa, .int 0, .int 0, .int 40, .int 0, .null, .int 0, .int 0]))]) hP hK hT [1] [] rfl rfl [.ref mo])⟩ rfl rfl hl.1 rfl (lv_room (Nat.le_of_ble_eq_true rfl)) dL_law_876 ⟨(Nat.le_of_ble_eq_true rfl), (Nat.le_of_ble_eq_true rfl)⟩).run (fun r_993 w_994 => ?_)
        obtain rfl := w_994
        refine lv_iload hx hb dL_law_879 (lv_at hl 1 rfl) ?_
        refine lv_icmp_eq (tgt := 886) hx hb dL_law_881 (by decide) (fun _ => ?_) (fun cc => absurd (by decide) cc)
        refine lv_iload hx hb dL_law_886 (lv_at hl 1 rfl) ?_
        refine lv_if_ne (tgt := 903) hx hb dL_law_888 (by decide) (fun _ => ?_) (fun cc => absurd cc (by decide))
        refine lv_goto (tgt := 2999) hx hb dL_law_903 (by decide) ?_
        refine W.widen (k := 797152) (n := 6710780) (Nat.le_of_ble_eq_true rfl) (Nat.le_of_ble_eq_true rfl) ?_
        exact hE _ _ _ hS (lv_sub hl [7, 2] rfl)
theorem dL_law_906 : decode cL_law 906 = .ok (.aload_n 1, 1) := by decide +kernel
theorem dL_law_907 : decode cL_law 907 = .ok (.aload_n 0, 1) := by decide +kernel
theorem dL_law_908 : decode cL_law 908 = .ok (.iload 5, 2) := by decide +kernel
theorem dL_law_910 : decode cL_law 910 = .ok (.iconst 1, 1) := by decide +kernel
theorem dL_law_911 : decode cL_law 911 = .ok (.iadd, 1) := by decide +kernel
theorem dL_law_912 : decode cL_law 912 = .ok (.iaload, 1) := by decide +kernel
theorem dL_law_913 : decode cL_law 913 = .ok (.aload_n 0, 1) := by decide +kernel
theorem dL_law_914 : decode cL_law 914 = .ok (.iload 5, 2) := by decide +kernel
theorem dL_law_916 : decode cL_law 916 = .ok (.iconst 2, 1) := by decide +kernel
theorem dL_law_917 : decode cL_law 917 = .ok (.iadd, 1) := by decide +kernel
theorem dL_law_918 : decode cL_law 918 = .ok (.iaload, 1) := by decide +kernel
theorem dL_law_919 : decode cL_law 919 = .ok (.aload_n 3, 1) := by decide +kernel
theorem dL_law_920 : decode cL_law 920 = .ok (.invokestatic 204, 3) := by decide +kernel
theorem dL_law_923 : decode cL_law 923 = .ok (.istore 6, 2) := by decide +kernel
theorem dL_law_925 : decode cL_law 925 = .ok (.aload_n 2, 1) := by decide +kernel
theorem dL_law_926 : decode cL_law 926 = .ok (.aload_n 0, 1) := by decide +kernel
theorem dL_law_927 : decode cL_law 927 = .ok (.iload 5, 2) := by decide +kernel
theorem dL_law_929 : decode cL_law 929 = .ok (.iconst 1, 1) := by decide +kernel
theorem dL_law_930 : decode cL_law 930 = .ok (.iadd, 1) := by decide +kernel
theorem dL_law_931 : decode cL_law 931 = .ok (.iaload, 1) := by decide +kernel
theorem dL_law_932 : decode cL_law 932 = .ok (.aload_n 0, 1) := by decide +kernel
theorem dL_law_933 : decode cL_law 933 = .ok (.iload 5, 2) := by decide +kernel
theorem dL_law_935 : decode cL_law 935 = .ok (.iconst 2, 1) := by decide +kernel
theorem dL_law_936 : decode cL_law 936 = .ok (.iadd, 1) := by decide +kernel
theorem dL_law_937 : decode cL_law 937 = .ok (.iaload, 1) := by decide +kernel
theorem dL_law_938 : decode cL_law 938 = .ok (.invokevirtual 206, 3) := by decide +kernel
theorem dL_law_941 : decode cL_law 941 = .ok (.istore 7, 2) := by decide +kernel
theorem dL_law_943 : decode cL_law 943 = .ok (.aload_n 2, 1) := by decide +kernel
theorem dL_law_944 : decode cL_law 944 = .ok (.invokevirtual 165, 3) := by decide +kernel
theorem dL_law_947 : decode cL_law 947 = .ok (.iload 6, 2) := by decide +kernel
theorem dL_law_949 : decode cL_law 949 = .ok (.if_icmp .eq 5, 3) := by decide +kernel
theorem dL_law_954 : decode cL_law 954 = .ok (.iload 6, 2) := by decide +kernel
theorem dL_law_956 : decode cL_law 956 = .ok (.ifCond .ne 15, 3) := by decide +kernel
theorem dL_law_971 : decode cL_law 971 = .ok (.goto 2028, 3) := by decide +kernel
set_option maxHeartbeats 4000000 in
set_option maxRecDepth 100000 in
theorem zl_11 {p : Program} {e : Env} {s : State} {m : MethodId} {below : List Frame} {meth : Method} {c : Code} {Q : State → Prop} {args : Array Value} (l : Launch) (hnt : l.stackTraces = false) (D : va_G) (G : Nat × Nat × Nat) (xo : Nat) (xg : Nat) (xp : Nat) (xq : Nat) (r1 : Nat) (r2 : Nat) (r3 : Nat) (r4 : Nat) (se : Nat) (n1 : Nat) (n2 : Nat) (n3 : Nat) (mo : Nat) (gl : Nat) (po : Nat) (pi : Nat) (bu : Nat) (pa : Nat) (ou : Nat) (od : Nat) (cg : ClassId) (cp : ClassId) (cq : ClassId) (ci : ClassId) (cj : ClassId) (cJ : ClassId) (cD : ClassId) {b L : Nat} {xs : Nat → Int32} {A : Nat → Prop} {H : Heap} {locs : List Loc} {ls : Array Slot} (hx : p.tables.exec = Jvm.exec) (hb : c.code = code) (hml : c.maxLocals = 9) (hown : s.vm.findClass RL = some m.cls) (hts : ∀ w ∈ wzL_law, w.before args s = true) (hT : FT G s) (hA : ∀ q : Nat, s.heap.size ≤ q → A q) (hZ : FZ G A s s.heap) (hX : va_X b L xs s s.heap) (hbl : b < s.heap.size) (hbA : ¬ A b) (hL : L = 5) (hK : va_K D vwCl [(cg, .object "Gatherhouse$Glass"), (cp, .object "Gatherhouse$Pot"), (cq, .object "Gatherhouse$Piece"), (ci, .int), (cj, .int), (cJ, .long), (cD, .double)] s) (hP : va_P D vwCl [(xo, .inr (11, [.ref xg, .int 0, .ref xp, .int 0, .ref xq, .int 0, .ref r1, .ref r2, .ref r3, .ref r4, .ref se, .int 0, .int 0, .int 40, .int 0, .int 0])), (xg, .inl (cg, 6, .inr (.inr (.inr (.inr (fun _ => none)))))), (xp, .inl (cp, 4, .inr (.inr (.inr (.inr (fun _ => none)))))), (xq, .inl (cq, 16, .inr (.inr (.inr (.inr (fun _ => none)))))), (r1, .inr (9, [.int 0, .int 0])), (r2, .inr (9, [.int 0, .int 0])), (r3, .inr (9, [.int 0, .int 0])), (r4, .inr (9, [.int 0, .int 0])), (se, .inr (10, [.ref n1, .ref n2, .ref n3, .int 0, .int 0, .int 0, .int 0])), (mo, .inr (16, [.int 0, .ref gl, .ref po, .ref pi, .ref bu, .ref pa, .int 0, .int 0, .int 40, .int 0, .null, .int 0, .int 0])), (gl, .inr (4, [.int 0, .ref G.1, .int 0])), (po, .inr (4, [.int 0, .ref G.1, .int 0])), (pi, .inr (4, [.int 0, .ref G.1, .int 0])), (bu, .inl (ci, 4, .inl (fun _ => 0))), (pa, .inl (cj, 4, .inl (fun _ => 0))), (ou, .inl (cJ, 1, .inr (.inl (fun _ => 0)))), (od, .inl (cD, 1, .inr (.inr (.inr (.inl (fun _ => 0))))))] H) (hD : va_D A [(xo, .inr (11, [.ref xg, .int 0, .ref xp, .int 0, .ref xq, .int 0, .ref r1, .ref r2, .ref r3, .ref r4, .ref se, .int 0, .int 0, .int 40, .int 0, .int 0])), (xg, .inl (cg, 6, .inr (.inr (.inr (.inr (fun _ => none)))))), (xp, .inl (cp, 4, .inr (.inr (.inr (.inr (fun _ => none)))))), (xq, .inl (cq, 16, .inr (.inr (.inr (.inr (fun _ => none)))))), (r1, .inr (9, [.int 0, .int 0])), (r2, .inr (9, [.int 0, .int 0])), (r3, .inr (9, [.int 0, .int 0])), (r4, .inr (9, [.int 0, .int 0])), (se, .inr (10, [.ref n1, .ref n2, .ref n3, .int 0, .int 0, .int 0, .int 0])), (mo, .inr (16, [.int 0, .ref gl, .ref po, .ref pi, .ref bu, .ref pa, .int 0, .int 0, .int 40, .int 0, .null, .int 0, .int 0])), (gl, .inr (4, [.int 0, .ref G.1, .int 0])), (po, .inr (4, [.int 0, .ref G.1, .int 0])), (pi, .inr (4, [.int 0, .ref G.1, .int 0])), (bu, .inl (ci, 4, .inl (fun _ => 0))), (pa, .inl (cj, 4, .inl (fun _ => 0))), (ou, .inl (cJ, 1, .inr (.inl (fun _ => 0)))), (od, .inl (cD, 1, .inr (.inr (.inr (.inl (fun _ => 0))))))]) (hS : va_S A s.heap H locs) (hl : lv_has ls 9 [(5, .int 0), (4, .ref od), (3, .ref ou), (2, .ref mo), (1, .ref xo), (0, .ref b)]) (hE : ∀ (H : Heap) (locs : List Loc) (ls : Array Slot), va_S A s.heap H locs → lv_has ls 9 [(0, .ref b), (5, .int 0)] → W p l e room_1 s m args below meth c H locs 797152 6710780 Q (F0 m 2999 ls [])) : W p l e room_1 s m args below meth c H locs 60 300 Q (F0 m 906 ls []) := by
  have hP := hP.sub (ws' := [(xo, .inr (11, [.ref xg, .int 0, .ref xp, .int 0, .ref xq, .int 0, .ref r1, .ref r2, .ref r3, .ref r4, .ref se, .int 0, .int 0, .int 40, .int 0, .int 0])), (xp, .inl (cp, 4, .inr (.inr (.inr (.inr (fun _ => none)))))), (mo, .inr (16, [.int 0, .ref gl, .ref po, .ref pi, .ref bu, .ref pa, .int 0, .int 0, .int 40, .int 0, .null, .int 0, .int 0])), (po, .inr (4, [.int 0, .ref G.1, .int 0])), (ou, .inl (cJ, 1, .inr (.inl (fun _ => 0))))]) [0, 2, 9, 11, 15] rfl
  have hD := hD.sub (ws' := [(xo, .inr (11, [.ref xg, .int 0, .ref xp, .int 0, .ref xq, .int 0, .ref r1, .ref r2, .ref r3, .ref r4, .ref se, .int 0, .int 0, .int 40, .int 0, .int 0])), (xp, .inl (cp, 4, .inr (.inr (.inr (.inr (fun _ => none)))))), (mo, .inr (16, [.int 0, .ref gl, .ref po, .ref pi, .ref bu, .ref pa, .int 0, .int 0, .int 40, .int 0, .null, .int 0, .int 0])), (po, .inr (4, [.int 0, .ref G.1, .int 0])), (ou, .inl (cJ, 1, .inr (.inl (fun _ => 0))))]) [0, 2, 9, 11, 15] (by decide) rfl
  have hK := hK.sub (tys' := [(cp, .object "Gatherhouse$Pot"), (cJ, .long)]) [1, 5] rfl
  refine lv_aload_n hx hb dL_law_906 rfl (lv_at hl 4 rfl) ?_
  refine lv_aload_n hx hb dL_law_907 rfl (lv_at hl 5 rfl) ?_
  refine lv_iload hx hb dL_law_908 (lv_at hl 0 rfl) ?_
  refine lv_iconst (v := 1) hx hb dL_law_910 (by decide) ?_
  refine lv_iadd hx hb dL_law_911 ?_
  refine lv_topi (fun y_995 ey_995 => ?_)
  have ey_995 : y_995 = 1 := ey_995.trans (by decide +kernel)
  subst ey_995
  refine va_sld hx hb hX hbl hbA hS (vp_in_iff.mpr (by rw [hL]; decide +kernel)) dL_law_912 ?_
  refine lv_aload_n hx hb dL_law_913 rfl (lv_at hl 5 rfl) ?_
  refine lv_iload hx hb dL_law_914 (lv_at hl 0 rfl) ?_
  refine lv_iconst (v := 2) hx hb dL_law_916 (by decide) ?_
  refine lv_iadd hx hb dL_law_917 ?_
  refine lv_topi (fun y_996 ey_996 => ?_)
  have ey_996 : y_996 = 2 := ey_996.trans (by decide +kernel)
  subst ey_996
  refine va_sld hx hb hX hbl hbA hS (vp_in_iff.mpr (by rw [hL]; decide +kernel)) dL_law_918 ?_
  refine lv_aload_n hx hb dL_law_919 rfl (lv_at hl 2 rfl) ?_
  have hFc := va_free (wc := [(xo, .inr (11, [.ref xg, .int 0, .ref xp, .int 0, .ref xq, .int 0, .ref r1, .ref r2, .ref r3, .ref r4, .ref se, .int 0, .int 0, .int 40, .int 0, .int 0])), (xp, .inl (cp, 4, .inr (.inr (.inr (.inr (fun _ => none)))))), (ou, .inl (cJ, 1, .inr (.inl (fun _ => 0))))]) hD hS hA [0, 1, 4] rfl
  refine vx_calli (vx_runSX (As := [.ref xo, .int (xs (1 : Int32).toNatClampNeg), .int (xs (2 : Int32).toNatClampNeg), .ref ou]) (rest := []) ⟨hx, hb, hml, hown, hts⟩ (zc_L_gather l hnt D G xo xg xp xq r1 r2 r3 r4 se 0 0 cp ou cJ (xs (1 : Int32).toNatClampNeg) (xs (2 : Int32).toNatClampNeg) H.size) (vx_cwSW 4 hts gzL_law_L_gather_204 rfl rfl rfl (by decide +kernel) ⟨(Nat.le_of_ble_eq_true rfl), (Nat.le_of_ble_eq_true rfl)⟩) ⟨p_RW_blind, (p_RW_at (tc := [(cp, .object "Gatherhouse$Pot"), (cJ, .long)]) (wc := [(xo, .inr (11, [.ref xg, .int 0, .ref xp, .int 0, .ref xq, .int 0, .ref r1, .ref r2, .ref r3, .ref r4, .ref se, .int 0, .int 0, .int 40, .int 0, .int 0])), (xp, .inl (cp, 4, .inr (.inr (.inr (.inr (fun _ => none)))))), (ou, .inl (cJ, 1, .inr (.inl (fun _ => 0))))]) hP hK hD hS hA hT hZ [0, 1, 4] [0, 1] rfl rfl (by decide) rfl [.ref xo, .int (xs (1 : Int32).toNatClampNeg), .int (xs (2 : Int32).toNatClampNeg), .ref ou])⟩ rfl rfl hl.1 rfl (lv_room (Nat.le_of_ble_eq_true rfl)) dL_law_920 ⟨(Nat.le_of_ble_eq_true rfl), (Nat.le_of_ble_eq_true rfl)⟩) hS (fun q _ h => hFc q h) hFc (fun q _ h => hFc q h) (fun E ce q9 u t H locs ht hvm hpx hBX hz1 hk1 hS hce hcv hcl => ?_) (fun r_997 u t H locs ht hvm w_998 hB hz1 hk1 hS => ?_)
  · exact (show False from hBX).elim
  · obtain ⟨hP, hD, hK⟩ := q_join (D := D) (wc := [(xo, .inr (11, [.ref xg, .int 0, .ref xp, .int 0, .ref xq, .int 0, .ref r1, .ref r2, .ref r3, .ref r4, .ref se, .int 0, .int 0, .int 40, .int 0, .int 0])), (xp, .inl (cp, 4, .inr (.inr (.inr (.inr (fun _ => none)))))), (ou, .inl (cJ, 1, .inr (.inl (fun _ => 0))))]) (wr := [(mo, .inr (16, [.int 0, .ref gl, .ref po, .ref pi, .ref bu, .ref pa, .int 0, .int 0, .int 40, .int 0, .null, .int 0, .int 0])), (po, .inr (4, [.int 0, .ref G.1, .int 0]))]) (w1 := []) (tyr := [(cp, .object "Gatherhouse$Pot"), (cJ, .long)]) (ty1 := []) hP hD hK [0, 1, 4] [2, 3] [0, 1] rfl rfl (by decide) (by decide) rfl hFc hk1 ht hvm (q_none hK hvm)
    have hP : va_P D vwCl [(mo, .inr (16, [.int 0, .ref gl, .ref po, .ref pi, .ref bu, .ref pa, .int 0, .int 0, .int 40, .int 0, .null, .int 0, .int 0])), (po, .inr (4, [.int 0, .ref G.1, .int 0]))] H := hP
    have hD : va_D A [(mo, .inr (16, [.int 0, .ref gl, .ref po, .ref pi, .ref bu, .ref pa, .int 0, .int 0, .int 40, .int 0, .null, .int 0, .int 0])), (po, .inr (4, [.int 0, .ref G.1, .int 0]))] := hD
    have hK : va_K D vwCl [(cp, .object "Gatherhouse$Pot"), (cJ, .long)] s := hK
    refine W.widen (k := 61) (n := 306) (Nat.le_of_ble_eq_true rfl) (Nat.le_of_ble_eq_true rfl) ?_
    obtain rfl := w_998
    refine lv_istore (lv' := [(6, .int 1), (5, .int 0), (4, .ref od), (3, .ref ou), (2, .ref mo), (1, .ref xo), (0, .ref b)]) hx hb dL_law_923 hl (by decide) rfl (fun ls hl => ?_)
    refine lv_aload_n hx hb dL_law_925 rfl (lv_at hl 4 rfl) ?_
    refine lv_aload_n hx hb dL_law_926 rfl (lv_at hl 6 rfl) ?_
    refine lv_iload hx hb dL_law_927 (lv_at hl 1 rfl) ?_
    refine lv_iconst (v := 1) hx hb dL_law_929 (by decide) ?_
    refine lv_iadd hx hb dL_law_930 ?_
    refine lv_topi (fun y_999 ey_999 => ?_)
    have ey_999 : y_999 = 1 := ey_999.trans (by decide +kernel)
    subst ey_999
    refine va_sld hx hb hX hbl hbA hS (vp_in_iff.mpr (by rw [hL]; decide +kernel)) dL_law_931 ?_
    refine lv_aload_n hx hb dL_law_932 rfl (lv_at hl 6 rfl) ?_
    refine lv_iload hx hb dL_law_933 (lv_at hl 1 rfl) ?_
    refine lv_iconst (v := 2) hx hb dL_law_935 (by decide) ?_
    refine lv_iadd hx hb dL_law_936 ?_
    refine lv_topi (fun y_1000 ey_1000 => ?_)
    have ey_1000 : y_1000 = 2 := ey_1000.trans (by decide +kernel)
    subst ey_1000
    refine va_sld hx hb hX hbl hbA hS (vp_in_iff.mpr (by rw [hL]; decide +kernel)) dL_law_937 ?_
    have hFc := va_free (wc := [(mo, .inr (16, [.int 0, .ref gl, .ref po, .ref pi, .ref bu, .ref pa, .int 0, .int 0, .int 40, .int 0, .null, .int 0, .int 0])), (po, .inr (4, [.int 0, .ref G.1, .int 0]))]) hD hS hA [0, 1] rfl
    refine va_calli (va_runV (As := [.int (xs (1 : Int32).toNatClampNeg), .int (xs (2 : Int32).toNatClampNeg)]) (rest := []) ⟨hx, hb, hml, hown, hts⟩ (zc_X11_gather l D G mo gl po pi bu pa 0 0 0 (xs (1 : Int32).toNatClampNeg) (xs (2 : Int32).toNatClampNeg) H.size) (cwV 2 hts gzL_law_X11_gather_206 rfl rfl rfl (by decide +kernel) ⟨(Nat.le_of_ble_eq_true rfl), (Nat.le_of_ble_eq_true rfl)⟩) ⟨p_RW_blind, va_recv hK hP (ci := 16) (q0 := 0) rfl rfl, (p_RW_at (tc := []) (wc := [(mo, .inr (16, [.int 0, .ref gl, .ref po, .ref pi, .ref bu, .ref pa, .int 0, .int 0, .int 40, .int 0, .null, .int 0, .int 0])), (po, .inr (4, [.int 0, .ref G.1, .int 0]))]) hP hK hD hS hA hT hZ [0, 1] [] rfl rfl (by decide) rfl [.ref mo, .int (xs (1 : Int32).toNatClampNeg), .int (xs (2 : Int32).toNatClampNeg)])⟩ rfl rfl hl.1 rfl (lv_room (Nat.le_of_ble_eq_true rfl)) dL_law_938 ⟨(Nat.le_of_ble_eq_true rfl), (Nat.le_of_ble_eq_true rfl)⟩) hS (fun q _ h => hFc q h) hFc (fun r_1001 u t H locs ht hvm w_1002 hB hz1 hk1 hS => ?_)
    obtain ⟨hP, hD, hK⟩ := q_join (D := D) (wc := [(mo, .inr (16, [.int 0, .ref gl, .ref po, .ref pi, .ref bu, .ref pa, .int 0, .int 0, .int 40, .int 0, .null, .int 0, .int 0])), (po, .inr (4, [.int 0, .ref G.1, .int 0]))]) (wr := []) (w1 := [(mo, .inr (16, [.int 1, .ref gl, .ref po, .ref pi, .ref bu, .ref pa, .int 0, .int 0, .int 40, .int 0, .null, .int 0, .int 0])), (po, .inr (4, [.int 0, .ref G.1, .int 0]))]) (tyr := [(cp, .object "Gatherhouse$Pot"), (cJ, .long)]) (ty1 := []) hP hD hK [0, 1] [] [0, 1] rfl rfl (by decide) (by decide) rfl hFc hk1 ht hvm hB
    have hP : va_P D vwCl [(mo, .inr (16, [.int 1, .ref gl, .ref po, .ref pi, .ref bu, .ref pa, .int 0, .int 0, .int 40, .int 0, .null, .int 0, .int 0])), (po, .inr (4, [.int 0, .ref G.1, .int 0]))] H := hP
    have hD : va_D A [(mo, .inr (16, [.int 1, .ref gl, .ref po, .ref pi, .ref bu, .ref pa, .int 0, .int 0, .int 40, .int 0, .null, .int 0, .int 0])), (po, .inr (4, [.int 0, .ref G.1, .int 0]))] := hD
    have hK : va_K D vwCl [(cp, .object "Gatherhouse$Pot"), (cJ, .long)] s := hK
    obtain rfl := w_1002
    refine lv_istore (lv' := [(7, .int 0), (6, .int 1), (5, .int 0), (4, .ref od), (3, .ref ou), (2, .ref mo), (1, .ref xo), (0, .ref b)]) hx hb dL_law_941 hl (by decide) rfl (fun ls hl => ?_)
    refine lv_aload_n hx hb dL_law_943 rfl (lv_at hl 5 rfl) ?_
    refine vp_callSi (va_runV (As := []) (rest := []) ⟨hx, hb, hml, hown, hts⟩ (zc_X11_thrown l D G mo gl po pi bu pa 1 0 0 40) (cwV 0 hts gzL_law_X11_thrown_165 rfl rfl rfl (by decide +kernel) ⟨(Nat.le_of_ble_eq_true rfl), (Nat.le_of_ble_eq_true rfl)⟩) ⟨p_RO_blind, va_recv hK hP (ci := 16) (q0 := 0) rfl rfl, (p_RO_at (tc := []) (wc := [(mo, .inr (16, [.int 1, .ref gl, .ref po, .ref pi, .ref bu, .ref pa, .int 0, .int 0, .int 40, .int 0, .null, .int 0, .int 0]))]) hP hK hT [0] [] rfl rfl [.ref mo])⟩ rfl rfl hl.1 rfl (lv_room (Nat.le_of_ble_eq_true rfl)) dL_law_944 ⟨(Nat.le_of_ble_eq_true rfl), (Nat.le_of_ble_eq_true rfl)⟩).run (fun r_1003 w_1004 => ?_)
    obtain rfl := w_1004
    refine lv_iload hx hb dL_law_947 (lv_at hl 1 rfl) ?_
    refine lv_icmp_eq (tgt := 954) hx hb dL_law_949 (by decide) (fun _ => ?_) (fun cc => absurd (by decide) cc)
    refine lv_iload hx hb dL_law_954 (lv_at hl 1 rfl) ?_
    refine lv_if_ne (tgt := 971) hx hb dL_law_956 (by decide) (fun _ => ?_) (fun cc => absurd cc (by decide))
    refine lv_goto (tgt := 2999) hx hb dL_law_971 (by decide) ?_
    refine W.widen (k := 797152) (n := 6710780) (Nat.le_of_ble_eq_true rfl) (Nat.le_of_ble_eq_true rfl) ?_
    exact hE _ _ _ hS (lv_sub hl [7, 2] rfl)
theorem dL_law_974 : decode cL_law 974 = .ok (.aload_n 1, 1) := by decide +kernel
theorem dL_law_975 : decode cL_law 975 = .ok (.aload_n 0, 1) := by decide +kernel
theorem dL_law_976 : decode cL_law 976 = .ok (.iload 5, 2) := by decide +kernel
theorem dL_law_978 : decode cL_law 978 = .ok (.iconst 1, 1) := by decide +kernel
theorem dL_law_979 : decode cL_law 979 = .ok (.iadd, 1) := by decide +kernel
theorem dL_law_980 : decode cL_law 980 = .ok (.iaload, 1) := by decide +kernel
theorem dL_law_981 : decode cL_law 981 = .ok (.aload_n 0, 1) := by decide +kernel
theorem dL_law_982 : decode cL_law 982 = .ok (.iload 5, 2) := by decide +kernel
theorem dL_law_984 : decode cL_law 984 = .ok (.iconst 2, 1) := by decide +kernel
theorem dL_law_985 : decode cL_law 985 = .ok (.iadd, 1) := by decide +kernel
theorem dL_law_986 : decode cL_law 986 = .ok (.iaload, 1) := by decide +kernel
theorem dL_law_987 : decode cL_law 987 = .ok (.aload_n 3, 1) := by decide +kernel
theorem dL_law_988 : decode cL_law 988 = .ok (.invokestatic 207, 3) := by decide +kernel
theorem dL_law_991 : decode cL_law 991 = .ok (.istore 6, 2) := by decide +kernel
theorem dL_law_993 : decode cL_law 993 = .ok (.aload_n 2, 1) := by decide +kernel
theorem dL_law_994 : decode cL_law 994 = .ok (.aload_n 0, 1) := by decide +kernel
theorem dL_law_995 : decode cL_law 995 = .ok (.iload 5, 2) := by decide +kernel
theorem dL_law_997 : decode cL_law 997 = .ok (.iconst 1, 1) := by decide +kernel
theorem dL_law_998 : decode cL_law 998 = .ok (.iadd, 1) := by decide +kernel
theorem dL_law_999 : decode cL_law 999 = .ok (.iaload, 1) := by decide +kernel
theorem dL_law_1000 : decode cL_law 1000 = .ok (.aload_n 0, 1) := by decide +kernel
theorem dL_law_1001 : decode cL_law 1001 = .ok (.iload 5, 2) := by decide +kernel
theorem dL_law_1003 : decode cL_law 1003 = .ok (.iconst 2, 1) := by decide +kernel
theorem dL_law_1004 : decode cL_law 1004 = .ok (.iadd, 1) := by decide +kernel
theorem dL_law_1005 : decode cL_law 1005 = .ok (.iaload, 1) := by decide +kernel
theorem dL_law_1006 : decode cL_law 1006 = .ok (.invokevirtual 209, 3) := by decide +kernel
theorem dL_law_1009 : decode cL_law 1009 = .ok (.istore 7, 2) := by decide +kernel
theorem dL_law_1011 : decode cL_law 1011 = .ok (.aload_n 2, 1) := by decide +kernel
theorem dL_law_1012 : decode cL_law 1012 = .ok (.invokevirtual 165, 3) := by decide +kernel
theorem dL_law_1015 : decode cL_law 1015 = .ok (.iload 6, 2) := by decide +kernel
theorem dL_law_1017 : decode cL_law 1017 = .ok (.if_icmp .eq 5, 3) := by decide +kernel
theorem dL_law_1022 : decode cL_law 1022 = .ok (.iload 6, 2) := by decide +kernel
theorem dL_law_1024 : decode cL_law 1024 = .ok (.ifCond .ne 15, 3) := by decide +kernel
theorem dL_law_1039 : decode cL_law 1039 = .ok (.goto 1960, 3) := by decide +kernel
set_option maxHeartbeats 4000000 in
set_option maxRecDepth 100000 in
theorem zl_12 {p : Program} {e : Env} {s : State} {m : MethodId} {below : List Frame} {meth : Method} {c : Code} {Q : State → Prop} {args : Array Value} (l : Launch) (hnt : l.stackTraces = false) (D : va_G) (G : Nat × Nat × Nat) (xo : Nat) (xg : Nat) (xp : Nat) (xq : Nat) (r1 : Nat) (r2 : Nat) (r3 : Nat) (r4 : Nat) (se : Nat) (n1 : Nat) (n2 : Nat) (n3 : Nat) (mo : Nat) (gl : Nat) (po : Nat) (pi : Nat) (bu : Nat) (pa : Nat) (ou : Nat) (od : Nat) (cg : ClassId) (cp : ClassId) (cq : ClassId) (ci : ClassId) (cj : ClassId) (cJ : ClassId) (cD : ClassId) {b L : Nat} {xs : Nat → Int32} {A : Nat → Prop} {H : Heap} {locs : List Loc} {ls : Array Slot} (hx : p.tables.exec = Jvm.exec) (hb : c.code = code) (hml : c.maxLocals = 9) (hown : s.vm.findClass RL = some m.cls) (hts : ∀ w ∈ wzL_law, w.before args s = true) (hT : FT G s) (hA : ∀ q : Nat, s.heap.size ≤ q → A q) (hZ : FZ G A s s.heap) (hX : va_X b L xs s s.heap) (hbl : b < s.heap.size) (hbA : ¬ A b) (hL : L = 5) (hK : va_K D vwCl [(cg, .object "Gatherhouse$Glass"), (cp, .object "Gatherhouse$Pot"), (cq, .object "Gatherhouse$Piece"), (ci, .int), (cj, .int), (cJ, .long), (cD, .double)] s) (hP : va_P D vwCl [(xo, .inr (11, [.ref xg, .int 0, .ref xp, .int 0, .ref xq, .int 0, .ref r1, .ref r2, .ref r3, .ref r4, .ref se, .int 0, .int 0, .int 40, .int 0, .int 0])), (xg, .inl (cg, 6, .inr (.inr (.inr (.inr (fun _ => none)))))), (xp, .inl (cp, 4, .inr (.inr (.inr (.inr (fun _ => none)))))), (xq, .inl (cq, 16, .inr (.inr (.inr (.inr (fun _ => none)))))), (r1, .inr (9, [.int 0, .int 0])), (r2, .inr (9, [.int 0, .int 0])), (r3, .inr (9, [.int 0, .int 0])), (r4, .inr (9, [.int 0, .int 0])), (se, .inr (10, [.ref n1, .ref n2, .ref n3, .int 0, .int 0, .int 0, .int 0])), (mo, .inr (16, [.int 0, .ref gl, .ref po, .ref pi, .ref bu, .ref pa, .int 0, .int 0, .int 40, .int 0, .null, .int 0, .int 0])), (gl, .inr (4, [.int 0, .ref G.1, .int 0])), (po, .inr (4, [.int 0, .ref G.1, .int 0])), (pi, .inr (4, [.int 0, .ref G.1, .int 0])), (bu, .inl (ci, 4, .inl (fun _ => 0))), (pa, .inl (cj, 4, .inl (fun _ => 0))), (ou, .inl (cJ, 1, .inr (.inl (fun _ => 0)))), (od, .inl (cD, 1, .inr (.inr (.inr (.inl (fun _ => 0))))))] H) (hD : va_D A [(xo, .inr (11, [.ref xg, .int 0, .ref xp, .int 0, .ref xq, .int 0, .ref r1, .ref r2, .ref r3, .ref r4, .ref se, .int 0, .int 0, .int 40, .int 0, .int 0])), (xg, .inl (cg, 6, .inr (.inr (.inr (.inr (fun _ => none)))))), (xp, .inl (cp, 4, .inr (.inr (.inr (.inr (fun _ => none)))))), (xq, .inl (cq, 16, .inr (.inr (.inr (.inr (fun _ => none)))))), (r1, .inr (9, [.int 0, .int 0])), (r2, .inr (9, [.int 0, .int 0])), (r3, .inr (9, [.int 0, .int 0])), (r4, .inr (9, [.int 0, .int 0])), (se, .inr (10, [.ref n1, .ref n2, .ref n3, .int 0, .int 0, .int 0, .int 0])), (mo, .inr (16, [.int 0, .ref gl, .ref po, .ref pi, .ref bu, .ref pa, .int 0, .int 0, .int 40, .int 0, .null, .int 0, .int 0])), (gl, .inr (4, [.int 0, .ref G.1, .int 0])), (po, .inr (4, [.int 0, .ref G.1, .int 0])), (pi, .inr (4, [.int 0, .ref G.1, .int 0])), (bu, .inl (ci, 4, .inl (fun _ => 0))), (pa, .inl (cj, 4, .inl (fun _ => 0))), (ou, .inl (cJ, 1, .inr (.inl (fun _ => 0)))), (od, .inl (cD, 1, .inr (.inr (.inr (.inl (fun _ => 0))))))]) (hS : va_S A s.heap H locs) (hl : lv_has ls 9 [(5, .int 0), (4, .ref od), (3, .ref ou), (2, .ref mo), (1, .ref xo), (0, .ref b)]) (hE : ∀ (H : Heap) (locs : List Loc) (ls : Array Slot), va_S A s.heap H locs → lv_has ls 9 [(0, .ref b), (5, .int 0)] → W p l e room_1 s m args below meth c H locs 797152 6710780 Q (F0 m 2999 ls [])) : W p l e room_1 s m args below meth c H locs 60 300 Q (F0 m 974 ls []) := by
  have hP := hP.sub (ws' := [(xo, .inr (11, [.ref xg, .int 0, .ref xp, .int 0, .ref xq, .int 0, .ref r1, .ref r2, .ref r3, .ref r4, .ref se, .int 0, .int 0, .int 40, .int 0, .int 0])), (xq, .inl (cq, 16, .inr (.inr (.inr (.inr (fun _ => none)))))), (mo, .inr (16, [.int 0, .ref gl, .ref po, .ref pi, .ref bu, .ref pa, .int 0, .int 0, .int 40, .int 0, .null, .int 0, .int 0])), (pi, .inr (4, [.int 0, .ref G.1, .int 0])), (ou, .inl (cJ, 1, .inr (.inl (fun _ => 0))))]) [0, 3, 9, 12, 15] rfl
  have hD := hD.sub (ws' := [(xo, .inr (11, [.ref xg, .int 0, .ref xp, .int 0, .ref xq, .int 0, .ref r1, .ref r2, .ref r3, .ref r4, .ref se, .int 0, .int 0, .int 40, .int 0, .int 0])), (xq, .inl (cq, 16, .inr (.inr (.inr (.inr (fun _ => none)))))), (mo, .inr (16, [.int 0, .ref gl, .ref po, .ref pi, .ref bu, .ref pa, .int 0, .int 0, .int 40, .int 0, .null, .int 0, .int 0])), (pi, .inr (4, [.int 0, .ref G.1, .int 0])), (ou, .inl (cJ, 1, .inr (.inl (fun _ => 0))))]) [0, 3, 9, 12, 15] (by decide) rfl
  have hK := hK.sub (tys' := [(cq, .object "Gatherhouse$Piece"), (cJ, .long)]) [2, 5] rfl
  refine lv_aload_n hx hb dL_law_974 rfl (lv_at hl 4 rfl) ?_
  refine lv_aload_n hx hb dL_law_975 rfl (lv_at hl 5 rfl) ?_
  refine lv_iload hx hb dL_law_976 (lv_at hl 0 rfl) ?_
  refine lv_iconst (v := 1) hx hb dL_law_978 (by decide) ?_
  refine lv_iadd hx hb dL_law_979 ?_
  refine lv_topi (fun y_1005 ey_1005 => ?_)
  have ey_1005 : y_1005 = 1 := ey_1005.trans (by decide +kernel)
  subst ey_1005
  refine va_sld hx hb hX hbl hbA hS (vp_in_iff.mpr (by rw [hL]; decide +kernel)) dL_law_980 ?_
  refine lv_aload_n hx hb dL_law_981 rfl (lv_at hl 5 rfl) ?_
  refine lv_iload hx hb dL_law_982 (lv_at hl 0 rfl) ?_
  refine lv_iconst (v := 2) hx hb dL_law_984 (by decide) ?_
  refine lv_iadd hx hb dL_law_985 ?_
  refine lv_topi (fun y_1006 ey_1006 => ?_)
  have ey_1006 : y_1006 = 2 := ey_1006.trans (by decide +kernel)
  subst ey_1006
  refine va_sld hx hb hX hbl hbA hS (vp_in_iff.mpr (by rw [hL]; decide +kernel)) dL_law_986 ?_
  refine lv_aload_n hx hb dL_law_987 rfl (lv_at hl 2 rfl) ?_
  have hFc := va_free (wc := [(xo, .inr (11, [.ref xg, .int 0, .ref xp, .int 0, .ref xq, .int 0, .ref r1, .ref r2, .ref r3, .ref r4, .ref se, .int 0, .int 0, .int 40, .int 0, .int 0])), (xq, .inl (cq, 16, .inr (.inr (.inr (.inr (fun _ => none)))))), (ou, .inl (cJ, 1, .inr (.inl (fun _ => 0))))]) hD hS hA [0, 1, 4] rfl
  refine vx_calli (vx_runSX (As := [.ref xo, .int (xs (1 : Int32).toNatClampNeg), .int (xs (2 : Int32).toNatClampNeg), .ref ou]) (rest := []) ⟨hx, hb, hml, hown, hts⟩ (zc_L_heat l hnt D G xo xg xp xq r1 r2 r3 r4 se 0 0 cq ou cJ (xs (1 : Int32).toNatClampNeg) (xs (2 : Int32).toNatClampNeg) H.size) (vx_cwSW 4 hts gzL_law_L_heat_207 rfl rfl rfl (by decide +kernel) ⟨(Nat.le_of_ble_eq_true rfl), (Nat.le_of_ble_eq_true rfl)⟩) ⟨p_RW_blind, (p_RW_at (tc := [(cq, .object "Gatherhouse$Piece"), (cJ, .long)]) (wc := [(xo, .inr (11, [.ref xg, .int 0, .ref xp, .int 0, .ref xq, .int 0, .ref r1, .ref r2, .ref r3, .ref r4, .ref se, .int 0, .int 0, .int 40, .int 0, .int 0])), (xq, .inl (cq, 16, .inr (.inr (.inr (.inr (fun _ => none)))))), (ou, .inl (cJ, 1, .inr (.inl (fun _ => 0))))]) hP hK hD hS hA hT hZ [0, 1, 4] [0, 1] rfl rfl (by decide) rfl [.ref xo, .int (xs (1 : Int32).toNatClampNeg), .int (xs (2 : Int32).toNatClampNeg), .ref ou])⟩ rfl rfl hl.1 rfl (lv_room (Nat.le_of_ble_eq_true rfl)) dL_law_988 ⟨(Nat.le_of_ble_eq_true rfl), (Nat.le_of_ble_eq_true rfl)⟩) hS (fun q _ h => hFc q h) hFc (fun q _ h => hFc q h) (fun E ce q9 u t H locs ht hvm hpx hBX hz1 hk1 hS hce hcv hcl => ?_) (fun r_1007 u t H locs ht hvm w_1008 hB hz1 hk1 hS => ?_)
  · exact (show False from hBX).elim
  · obtain ⟨hP, hD, hK⟩ := q_join (D := D) (wc := [(xo, .inr (11, [.ref xg, .int 0, .ref xp, .int 0, .ref xq, .int 0, .ref r1, .ref r2, .ref r3, .ref r4, .ref se, .int 0, .int 0, .int 40, .int 0, .int 0])), (xq, .inl (cq, 16, .inr (.inr (.inr (.inr (fun _ => none)))))), (ou, .inl (cJ, 1, .inr (.inl (fun _ => 0))))]) (wr := [(mo, .inr (16, [.int 0, .ref gl, .ref po, .ref pi, .ref bu, .ref pa, .int 0, .int 0, .int 40, .int 0, .null, .int 0, .int 0])), (pi, .inr (4, [.int 0, .ref G.1, .int 0]))]) (w1 := []) (tyr := [(cq, .object "Gatherhouse$Piece"), (cJ, .long)]) (ty1 := []) hP hD hK [0, 1, 4] [2, 3] [0, 1] rfl rfl (by decide) (by decide) rfl hFc hk1 ht hvm (q_none hK hvm)
    have hP : va_P D vwCl [(mo, .inr (16, [.int 0, .ref gl, .ref po, .ref pi, .ref bu, .ref pa, .int 0, .int 0, .int 40, .int 0, .null, .int 0, .int 0])), (pi, .inr (4, [.int 0, .ref G.1, .int 0]))] H := hP
    have hD : va_D A [(mo, .inr (16, [.int 0, .ref gl, .ref po, .ref pi, .ref bu, .ref pa, .int 0, .int 0, .int 40, .int 0, .null, .int 0, .int 0])), (pi, .inr (4, [.int 0, .ref G.1, .int 0]))] := hD
    have hK : va_K D vwCl [(cq, .object "Gatherhouse$Piece"), (cJ, .long)] s := hK
    refine W.widen (k := 61) (n := 306) (Nat.le_of_ble_eq_true rfl) (Nat.le_of_ble_eq_true rfl) ?_
    obtain rfl := w_1008
    refine lv_istore (lv' := [(6, .int 1), (5, .int 0), (4, .ref od), (3, .ref ou), (2, .ref mo), (1, .ref xo), (0, .ref b)]) hx hb dL_law_991 hl (by decide) rfl (fun ls hl => ?_)
    refine lv_aload_n hx hb dL_law_993 rfl (lv_at hl 4 rfl) ?_
    refine lv_aload_n hx hb dL_law_994 rfl (lv_at hl 6 rfl) ?_
    refine lv_iload hx hb dL_law_995 (lv_at hl 1 rfl) ?_
    refine lv_iconst (v := 1) hx hb dL_law_997 (by decide) ?_
    refine lv_iadd hx hb dL_law_998 ?_
    refine lv_topi (fun y_1009 ey_1009 => ?_)
    have ey_1009 : y_1009 = 1 := ey_1009.trans (by decide +kernel)
    subst ey_1009
    refine va_sld hx hb hX hbl hbA hS (vp_in_iff.mpr (by rw [hL]; decide +kernel)) dL_law_999 ?_
    refine lv_aload_n hx hb dL_law_1000 rfl (lv_at hl 6 rfl) ?_
    refine lv_iload hx hb dL_law_1001 (lv_at hl 1 rfl) ?_
    refine lv_iconst (v := 2) hx hb dL_law_1003 (by decide) ?_
    refine lv_iadd hx hb dL_law_1004 ?_
    refine lv_topi (fun y_1010 ey_1010 => ?_)
    have ey_1010 : y_1010 = 2 := ey_1010.trans (by decide +kernel)
    subst ey_1010
    refine va_sld hx hb hX hbl hbA hS (vp_in_iff.mpr (by rw [hL]; decide +kernel)) dL_law_1005 ?_
    have hFc := va_free (wc := [(mo, .inr (16, [.int 0, .ref gl, .ref po, .ref pi, .ref bu, .ref pa, .int 0, .int 0, .int 40, .int 0, .null, .int 0, .int 0])), (pi, .inr (4, [.int 0, .ref G.1, .int 0]))]) hD hS hA [0, 1] rfl
    refine va_calli (va_runV (As := [.int (xs (1 : Int32).toNatClampNeg), .int (xs (2 : Int32).toNatClampNeg)]) (rest := []) ⟨hx, hb, hml, hown, hts⟩ (zc_X11_heat l D G mo gl po pi bu pa 0 0 0 (xs (1 : Int32).toNatClampNeg) (xs (2 : Int32).toNatClampNeg) H.size) (cwV 2 hts gzL_law_X11_heat_209 rfl rfl rfl (by decide +kernel) ⟨(Nat.le_of_ble_eq_true rfl), (Nat.le_of_ble_eq_true rfl)⟩) ⟨p_RW_blind, va_recv hK hP (ci := 16) (q0 := 0) rfl rfl, (p_RW_at (tc := []) (wc := [(mo, .inr (16, [.int 0, .ref gl, .ref po, .ref pi, .ref bu, .ref pa, .int 0, .int 0, .int 40, .int 0, .null, .int 0, .int 0])), (pi, .inr (4, [.int 0, .ref G.1, .int 0]))]) hP hK hD hS hA hT hZ [0, 1] [] rfl rfl (by decide) rfl [.ref mo, .int (xs (1 : Int32).toNatClampNeg), .int (xs (2 : Int32).toNatClampNeg)])⟩ rfl rfl hl.1 rfl (lv_room (Nat.le_of_ble_eq_true rfl)) dL_law_1006 ⟨(Nat.le_of_ble_eq_true rfl), (Nat.le_of_ble_eq_true rfl)⟩) hS (fun q _ h => hFc q h) hFc (fun r_1011 u t H locs ht hvm w_1012 hB hz1 hk1 hS => ?_)
    obtain ⟨hP, hD, hK⟩ := q_join (D := D) (wc := [(mo, .inr (16, [.int 0, .ref gl, .ref po, .ref pi, .ref bu, .ref pa, .int 0, .int 0, .int 40, .int 0, .null, .int 0, .int 0])), (pi, .inr (4, [.int 0, .ref G.1, .int 0]))]) (wr := []) (w1 := [(mo, .inr (16, [.int 1, .ref gl, .ref po, .ref pi, .ref bu, .ref pa, .int 0, .int 0, .int 40, .int 0, .null, .int 0, .int 0])), (pi, .inr (4, [.int 0, .ref G.1, .int 0]))]) (tyr := [(cq, .object "Gatherhouse$Piece"), (cJ, .long)]) (ty1 := []) hP hD hK [0, 1] [] [0, 1] rfl rfl (by decide) (by decide) rfl hFc hk1 ht hvm hB
    have hP : va_P D vwCl [(mo, .inr (16, [.int 1, .ref gl, .ref po, .ref pi, .ref bu, .ref pa, .int 0, .int 0, .int 40, .int 0, .null, .int 0, .int 0])), (pi, .inr (4, [.int 0, .ref G.1, .int 0]))] H := hP
    have hD : va_D A [(mo, .inr (16, [.int 1, .ref gl, .ref po, .ref pi, .ref bu, .ref pa, .int 0, .int 0, .int 40, .int 0, .null, .int 0, .int 0])), (pi, .inr (4, [.int 0, .ref G.1, .int 0]))] := hD
    have hK : va_K D vwCl [(cq, .object "Gatherhouse$Piece"), (cJ, .long)] s := hK
    obtain rfl := w_1012
    refine lv_istore (lv' := [(7, .int 0), (6, .int 1), (5, .int 0), (4, .ref od), (3, .ref ou), (2, .ref mo), (1, .ref xo), (0, .ref b)]) hx hb dL_law_1009 hl (by decide) rfl (fun ls hl => ?_)
    refine lv_aload_n hx hb dL_law_1011 rfl (lv_at hl 5 rfl) ?_
    refine vp_callSi (va_runV (As := []) (rest := []) ⟨hx, hb, hml, hown, hts⟩ (zc_X11_thrown l D G mo gl po pi bu pa 1 0 0 40) (cwV 0 hts gzL_law_X11_thrown_165 rfl rfl rfl (by decide +kernel) ⟨(Nat.le_of_ble_eq_true rfl), (Nat.le_of_ble_eq_true rfl)⟩) ⟨p_RO_blind, va_recv hK hP (ci := 16) (q0 := 0) rfl rfl, (p_RO_at (tc := []) (wc := [(mo, .inr (16, [.int 1, .ref gl, .ref po, .ref pi, .ref bu, .ref pa, .int 0, .int 0, .int 40, .int 0, .null, .int 0, .int 0]))]) hP hK hT [0] [] rfl rfl [.ref mo])⟩ rfl rfl hl.1 rfl (lv_room (Nat.le_of_ble_eq_true rfl)) dL_law_1012 ⟨(Nat.le_of_ble_eq_true rfl), (Nat.le_of_ble_eq_true rfl)⟩).run (fun r_1013 w_1014 => ?_)
    obtain rfl := w_1014
    refine lv_iload hx hb dL_law_1015 (lv_at hl 1 rfl) ?_
    refine lv_icmp_eq (tgt := 1022) hx hb dL_law_1017 (by decide) (fun _ => ?_) (fun cc => absurd (by decide) cc)
    refine lv_iload hx hb dL_law_1022 (lv_at hl 1 rfl) ?_
    refine lv_if_ne (tgt := 1039) hx hb dL_law_1024 (by decide) (fun _ => ?_) (fun cc => absurd cc (by decide))
    refine lv_goto (tgt := 2999) hx hb dL_law_1039 (by decide) ?_
    refine W.widen (k := 797152) (n := 6710780) (Nat.le_of_ble_eq_true rfl) (Nat.le_of_ble_eq_true rfl) ?_
    exact hE _ _ _ hS (lv_sub hl [7, 2] rfl)
theorem dL_law_1042 : decode cL_law 1042 = .ok (.aload_n 1, 1) := by decide +kernel
theorem dL_law_1043 : decode cL_law 1043 = .ok (.aload_n 0, 1) := by decide +kernel
theorem dL_law_1044 : decode cL_law 1044 = .ok (.iload 5, 2) := by decide +kernel
theorem dL_law_1046 : decode cL_law 1046 = .ok (.iconst 1, 1) := by decide +kernel
theorem dL_law_1047 : decode cL_law 1047 = .ok (.iadd, 1) := by decide +kernel
theorem dL_law_1048 : decode cL_law 1048 = .ok (.iaload, 1) := by decide +kernel
theorem dL_law_1049 : decode cL_law 1049 = .ok (.aload_n 0, 1) := by decide +kernel
theorem dL_law_1050 : decode cL_law 1050 = .ok (.iload 5, 2) := by decide +kernel
theorem dL_law_1052 : decode cL_law 1052 = .ok (.iconst 2, 1) := by decide +kernel
theorem dL_law_1053 : decode cL_law 1053 = .ok (.iadd, 1) := by decide +kernel
theorem dL_law_1054 : decode cL_law 1054 = .ok (.iaload, 1) := by decide +kernel
theorem dL_law_1055 : decode cL_law 1055 = .ok (.aload_n 0, 1) := by decide +kernel
theorem dL_law_1056 : decode cL_law 1056 = .ok (.iload 5, 2) := by decide +kernel
theorem dL_law_1058 : decode cL_law 1058 = .ok (.iconst 3, 1) := by decide +kernel
theorem dL_law_1059 : decode cL_law 1059 = .ok (.iadd, 1) := by decide +kernel
theorem dL_law_1060 : decode cL_law 1060 = .ok (.iaload, 1) := by decide +kernel
theorem dL_law_1061 : decode cL_law 1061 = .ok (.aload_n 3, 1) := by decide +kernel
theorem dL_law_1062 : decode cL_law 1062 = .ok (.invokestatic 210, 3) := by decide +kernel
theorem dL_law_1065 : decode cL_law 1065 = .ok (.istore 6, 2) := by decide +kernel
theorem dL_law_1067 : decode cL_law 1067 = .ok (.aload_n 2, 1) := by decide +kernel
theorem dL_law_1068 : decode cL_law 1068 = .ok (.aload_n 0, 1) := by decide +kernel
theorem dL_law_1069 : decode cL_law 1069 = .ok (.iload 5, 2) := by decide +kernel
theorem dL_law_1071 : decode cL_law 1071 = .ok (.iconst 1, 1) := by decide +kernel
theorem dL_law_1072 : decode cL_law 1072 = .ok (.iadd, 1) := by decide +kernel
theorem dL_law_1073 : decode cL_law 1073 = .ok (.iaload, 1) := by decide +kernel
theorem dL_law_1074 : decode cL_law 1074 = .ok (.aload_n 0, 1) := by decide +kernel
theorem dL_law_1075 : decode cL_law 1075 = .ok (.iload 5, 2) := by decide +kernel
theorem dL_law_1077 : decode cL_law 1077 = .ok (.iconst 2, 1) := by decide +kernel
theorem dL_law_1078 : decode cL_law 1078 = .ok (.iadd, 1) := by decide +kernel
theorem dL_law_1079 : decode cL_law 1079 = .ok (.iaload, 1) := by decide +kernel
theorem dL_law_1080 : decode cL_law 1080 = .ok (.aload_n 0, 1) := by decide +kernel
theorem dL_law_1081 : decode cL_law 1081 = .ok (.iload 5, 2) := by decide +kernel
theorem dL_law_1083 : decode cL_law 1083 = .ok (.iconst 3, 1) := by decide +kernel
theorem dL_law_1084 : decode cL_law 1084 = .ok (.iadd, 1) := by decide +kernel
theorem dL_law_1085 : decode cL_law 1085 = .ok (.iaload, 1) := by decide +kernel
theorem dL_law_1086 : decode cL_law 1086 = .ok (.invokevirtual 213, 3) := by decide +kernel
theorem dL_law_1089 : decode cL_law 1089 = .ok (.istore 7, 2) := by decide +kernel
theorem dL_law_1091 : decode cL_law 1091 = .ok (.aload_n 2, 1) := by decide +kernel
theorem dL_law_1092 : decode cL_law 1092 = .ok (.invokevirtual 165, 3) := by decide +kernel
theorem dL_law_1095 : decode cL_law 1095 = .ok (.iload 6, 2) := by decide +kernel
theorem dL_law_1097 : decode cL_law 1097 = .ok (.if_icmp .eq 5, 3) := by decide +kernel
theorem dL_law_1102 : decode cL_law 1102 = .ok (.iload 6, 2) := by decide +kernel
theorem dL_law_1104 : decode cL_law 1104 = .ok (.ifCond .ne 15, 3) := by decide +kernel
theorem dL_law_1119 : decode cL_law 1119 = .ok (.goto 1880, 3) := by decide +kernel
set_option maxHeartbeats 4000000 in
set_option maxRecDepth 100000 in
theorem zl_13 {p : Program} {e : Env} {s : State} {m : MethodId} {below : List Frame} {meth : Method} {c : Code} {Q : State → Prop} {args : Array Value} (l : Launch) (hnt : l.stackTraces = false) (D : va_G) (G : Nat × Nat × Nat) (xo : Nat) (xg : Nat) (xp : Nat) (xq : Nat) (r1 : Nat) (r2 : Nat) (r3 : Nat) (r4 : Nat) (se : Nat) (n1 : Nat) (n2 : Nat) (n3 : Nat) (mo : Nat) (gl : Nat) (po : Nat) (pi : Nat) (bu : Nat) (pa : Nat) (ou : Nat) (od : Nat) (cg : ClassId) (cp : ClassId) (cq : ClassId) (ci : ClassId) (cj : ClassId) (cJ : ClassId) (cD : ClassId) {b L : Nat} {xs : Nat → Int32} {A : Nat → Prop} {H : Heap} {locs : List Loc} {ls : Array Slot} (hx : p.tables.exec = Jvm.exec) (hb : c.code = code) (hml : c.maxLocals = 9) (hown : s.vm.findClass RL = some m.cls) (hts : ∀ w ∈ wzL_law, w.before args s = true) (hT : FT G s) (hA : ∀ q : Nat, s.heap.size ≤ q → A q) (hZ : FZ G A s s.heap) (hX : va_X b L xs s s.heap) (hbl : b < s.heap.size) (hbA : ¬ A b) (hL : L = 5) (hK : va_K D vwCl [(cg, .object "Gatherhouse$Glass"), (cp, .object "Gatherhouse$Pot"), (cq, .object "Gatherhouse$Piece"), (ci, .int), (cj, .int), (cJ, .long), (cD, .double)] s) (hP : va_P D vwCl [(xo, .inr (11, [.ref xg, .int 0, .ref xp, .int 0, .ref xq, .int 0, .ref r1, .ref r2, .ref r3, .ref r4, .ref se, .int 0, .int 0, .int 40, .int 0, .int 0])), (xg, .inl (cg, 6, .inr (.inr (.inr (.inr (fun _ => none)))))), (xp, .inl (cp, 4, .inr (.inr (.inr (.inr (fun _ => none)))))), (xq, .inl (cq, 16, .inr (.inr (.inr (.inr (fun _ => none)))))), (r1, .inr (9, [.int 0, .int 0])), (r2, .inr (9, [.int 0, .int 0])), (r3, .inr (9, [.int 0, .int 0])), (r4, .inr (9, [.int 0, .int 0])), (se, .inr (10, [.ref n1, .ref n2, .ref n3, .int 0, .int 0, .int 0, .int 0])), (mo, .inr (16, [.int 0, .ref gl, .ref po, .ref pi, .ref bu, .ref pa, .int 0, .int 0, .int 40, .int 0, .null, .int 0, .int 0])), (gl, .inr (4, [.int 0, .ref G.1, .int 0])), (po, .inr (4, [.int 0, .ref G.1, .int 0])), (pi, .inr (4, [.int 0, .ref G.1, .int 0])), (bu, .inl (ci, 4, .inl (fun _ => 0))), (pa, .inl (cj, 4, .inl (fun _ => 0))), (ou, .inl (cJ, 1, .inr (.inl (fun _ => 0)))), (od, .inl (cD, 1, .inr (.inr (.inr (.inl (fun _ => 0))))))] H) (hD : va_D A [(xo, .inr (11, [.ref xg, .int 0, .ref xp, .int 0, .ref xq, .int 0, .ref r1, .ref r2, .ref r3, .ref r4, .ref se, .int 0, .int 0, .int 40, .int 0, .int 0])), (xg, .inl (cg, 6, .inr (.inr (.inr (.inr (fun _ => none)))))), (xp, .inl (cp, 4, .inr (.inr (.inr (.inr (fun _ => none)))))), (xq, .inl (cq, 16, .inr (.inr (.inr (.inr (fun _ => none)))))), (r1, .inr (9, [.int 0, .int 0])), (r2, .inr (9, [.int 0, .int 0])), (r3, .inr (9, [.int 0, .int 0])), (r4, .inr (9, [.int 0, .int 0])), (se, .inr (10, [.ref n1, .ref n2, .ref n3, .int 0, .int 0, .int 0, .int 0])), (mo, .inr (16, [.int 0, .ref gl, .ref po, .ref pi, .ref bu, .ref pa, .int 0, .int 0, .int 40, .int 0, .null, .int 0, .int 0])), (gl, .inr (4, [.int 0, .ref G.1, .int 0])), (po, .inr (4, [.int 0, .ref G.1, .int 0])), (pi, .inr (4, [.int 0, .ref G.1, .int 0])), (bu, .inl (ci, 4, .inl (fun _ => 0))), (pa, .inl (cj, 4, .inl (fun _ => 0))), (ou, .inl (cJ, 1, .inr (.inl (fun _ => 0)))), (od, .inl (cD, 1, .inr (.inr (.inr (.inl (fun _ => 0))))))]) (hS : va_S A s.heap H locs) (hl : lv_has ls 9 [(5, .int 0), (4, .ref od), (3, .ref ou), (2, .ref mo), (1, .ref xo), (0, .ref b)]) (hE : ∀ (H : Heap) (locs : List Loc) (ls : Array Slot), va_S A s.heap H locs → lv_has ls 9 [(0, .ref b), (5, .int 0)] → W p l e room_1 s m args below meth c H locs 797152 6710780 Q (F0 m 2999 ls [])) : W p l e room_1 s m args below meth c H locs 60 300 Q (F0 m 1042 ls []) := by
  have hP := hP.sub (ws' := [(xo, .inr (11, [.ref xg, .int 0, .ref xp, .int 0, .ref xq, .int 0, .ref r1, .ref r2, .ref r3, .ref r4, .ref se, .int 0, .int 0, .int 40, .int 0, .int 0])), (xq, .inl (cq, 16, .inr (.inr (.inr (.inr (fun _ => none)))))), (mo, .inr (16, [.int 0, .ref gl, .ref po, .ref pi, .ref bu, .ref pa, .int 0, .int 0, .int 40, .int 0, .null, .int 0, .int 0])), (pi, .inr (4, [.int 0, .ref G.1, .int 0])), (ou, .inl (cJ, 1, .inr (.inl (fun _ => 0))))]) [0, 3, 9, 12, 15] rfl
  have hD := hD.sub (ws' := [(xo, .inr (11, [.ref xg, .int 0, .ref xp, .int 0, .ref xq, .int 0, .ref r1, .ref r2, .ref r3, .ref r4, .ref se, .int 0, .int 0, .int 40, .int 0, .int 0])), (xq, .inl (cq, 16, .inr (.inr (.inr (.inr (fun _ => none)))))), (mo, .inr (16, [.int 0, .ref gl, .ref po, .ref pi, .ref bu, .ref pa, .int 0, .int 0, .int 40, .int 0, .null, .int 0, .int 0])), (pi, .inr (4, [.int 0, .ref G.1, .int 0])), (ou, .inl (cJ, 1, .inr (.inl (fun _ => 0))))]) [0, 3, 9, 12, 15] (by decide) rfl
  have hK := hK.sub (tys' := [(cq, .object "Gatherhouse$Piece"), (cJ, .long)]) [2, 5] rfl
  refine lv_aload_n hx hb dL_law_1042 rfl (lv_at hl 4 rfl) ?_
  refine lv_aload_n hx hb dL_law_1043 rfl (lv_at hl 5 rfl) ?_
  refine lv_iload hx hb dL_law_1044 (lv_at hl 0 rfl) ?_
  refine lv_iconst (v := 1) hx hb dL_law_1046 (by decide) ?_
  refine lv_iadd hx hb dL_law_1047 ?_
  refine lv_topi (fun y_1015 ey_1015 => ?_)
  have ey_1015 : y_1015 = 1 := ey_1015.trans (by decide +kernel)
  subst ey_1015
  refine va_sld hx hb hX hbl hbA hS (vp_in_iff.mpr (by rw [hL]; decide +kernel)) dL_law_1048 ?_
  refine lv_aload_n hx hb dL_law_1049 rfl (lv_at hl 5 rfl) ?_
  refine lv_iload hx hb dL_law_1050 (lv_at hl 0 rfl) ?_
  refine lv_iconst (v := 2) hx hb dL_law_1052 (by decide) ?_
  refine lv_iadd hx hb dL_law_1053 ?_
  refine lv_topi (fun y_1016 ey_1016 => ?_)
  have ey_1016 : y_1016 = 2 := ey_1016.trans (by decide +kernel)
  subst ey_1016
  refine va_sld hx hb hX hbl hbA hS (vp_in_iff.mpr (by rw [hL]; decide +kernel)) dL_law_1054 ?_
  refine lv_aload_n hx hb dL_law_1055 rfl (lv_at hl 5 rfl) ?_
  refine lv_iload hx hb dL_law_1056 (lv_at hl 0 rfl) ?_
  refine lv_iconst (v := 3) hx hb dL_law_1058 (by decide) ?_
  refine lv_iadd hx hb dL_law_1059 ?_
  refine lv_topi (fun y_1017 ey_1017 => ?_)
  have ey_1017 : y_1017 = 3 := ey_1017.trans (by decide +kernel)
  subst ey_1017
  refine va_sld hx hb hX hbl hbA hS (vp_in_iff.mpr (by rw [hL]; decide +kernel)) dL_law_1060 ?_
  refine lv_aload_n hx hb dL_law_1061 rfl (lv_at hl 2 rfl) ?_
  have hFc := va_free (wc := [(xo, .inr (11, [.ref xg, .int 0, .ref xp, .int 0, .ref xq, .int 0, .ref r1, .ref r2, .ref r3, .ref r4, .ref se, .int 0, .int 0, .int 40, .int 0, .int 0])), (xq, .inl (cq, 16, .inr (.inr (.inr (.inr (fun _ => none)))))), (ou, .inl (cJ, 1, .inr (.inl (fun _ => 0))))]) hD hS hA [0, 1, 4] rfl
  refine vx_calli (vx_runSX (As := [.ref xo, .int (xs (1 : Int32).toNatClampNeg), .int (xs (2 : Int32).toNatClampNeg), .int (xs (3 : Int32).toNatClampNeg), .ref ou]) (rest := []) ⟨hx, hb, hml, hown, hts⟩ (zc_L_blow l hnt D G xo xg xp xq r1 r2 r3 r4 se 0 0 cq ou cJ (xs (1 : Int32).toNatClampNeg) (xs (2 : Int32).toNatClampNeg) (xs (3 : Int32).toNatClampNeg) H.size) (vx_cwSW 5 hts gzL_law_L_blow_210 rfl rfl rfl (by decide +kernel) ⟨(Nat.le_of_ble_eq_true rfl), (Nat.le_of_ble_eq_true rfl)⟩) ⟨p_RW_blind, (p_RW_at (tc := [(cq, .object "Gatherhouse$Piece"), (cJ, .long)]) (wc := [(xo, .inr (11, [.ref xg, .int 0, .ref xp, .int 0, .ref xq, .int 0, .ref r1, .ref r2, .ref r3, .ref r4, .ref se, .int 0, .int 0, .int 40, .int 0, .int 0])), (xq, .inl (cq, 16, .inr (.inr (.inr (.inr (fun _ => none)))))), (ou, .inl (cJ, 1, .inr (.inl (fun _ => 0))))]) hP hK hD hS hA hT hZ [0, 1, 4] [0, 1] rfl rfl (by decide) rfl [.ref xo, .int (xs (1 : Int32).toNatClampNeg), .int (xs (2 : Int32).toNatClampNeg), .int (xs (3 : Int32).toNatClampNeg), .ref ou])⟩ rfl rfl hl.1 rfl (lv_room (Nat.le_of_ble_eq_true rfl)) dL_law_1062 ⟨(Nat.le_of_ble_eq_true rfl), (Nat.le_of_ble_eq_true rfl)⟩) hS (fun q _ h => hFc q h) hFc (fun q _ h => hFc q h) (fun E ce q9 u t H locs ht hvm hpx hBX hz1 hk1 hS hce hcv hcl => ?_) (fun r_1018 u t H locs ht hvm w_1019 hB hz1 hk1 hS => ?_)
  · exact (show False from hBX).elim
  · obtain ⟨hP, hD, hK⟩ := q_join (D := D) (wc := [(xo, .inr (11, [.ref xg, .int 0, .ref xp, .int 0, .ref xq, .int 0, .ref r1, .ref r2, .ref r3, .ref r4, .ref se, .int 0, .int 0, .int 40, .int 0, .int 0])), (xq, .inl (cq, 16, .inr (.inr (.inr (.inr (fun _ => none)))))), (ou, .inl (cJ, 1, .inr (.inl (fun _ => 0))))]) (wr := [(mo, .inr (16, [.int 0, .ref gl, .ref po, .ref pi, .ref bu, .ref pa, .int 0, .int 0, .int 40, .int 0, .null, .int 0, .int 0])), (pi, .inr (4, [.int 0, .ref G.1, .int 0]))]) (w1 := []) (tyr := [(cq, .object "Gatherhouse$Piece"), (cJ, .long)]) (ty1 := []) hP hD hK [0, 1, 4] [2, 3] [0, 1] rfl rfl (by decide) (by decide) rfl hFc hk1 ht hvm (q_none hK hvm)
    have hP : va_P D vwCl [(mo, .inr (16, [.int 0, .ref gl, .ref po, .ref pi, .ref bu, .ref pa, .int 0, .int 0, .int 40, .int 0, .null, .int 0, .int 0])), (pi, .inr (4, [.int 0, .ref G.1, .int 0]))] H := hP
    have hD : va_D A [(mo, .inr (16, [.int 0, .ref gl, .ref po, .ref pi, .ref bu, .ref pa, .int 0, .int 0, .int 40, .int 0, .null, .int 0, .int 0])), (pi, .inr (4, [.int 0, .ref G.1, .int 0]))] := hD
    have hK : va_K D vwCl [(cq, .object "Gatherhouse$Piece"), (cJ, .long)] s := hK
    refine W.widen (k := 61) (n := 306) (Nat.le_of_ble_eq_true rfl) (Nat.le_of_ble_eq_true rfl) ?_
    obtain rfl := w_1019
    refine lv_istore (lv' := [(6, .int 1), (5, .int 0), (4, .ref od), (3, .ref ou), (2, .ref mo), (1, .ref xo), (0, .ref b)]) hx hb dL_law_1065 hl (by decide) rfl (fun ls hl => ?_)
    refine lv_aload_n hx hb dL_law_1067 rfl (lv_at hl 4 rfl) ?_
    refine lv_aload_n hx hb dL_law_1068 rfl (lv_at hl 6 rfl) ?_
    refine lv_iload hx hb dL_law_1069 (lv_at hl 1 rfl) ?_
    refine lv_iconst (v := 1) hx hb dL_law_1071 (by decide) ?_
    refine lv_iadd hx hb dL_law_1072 ?_
    refine lv_topi (fun y_1020 ey_1020 => ?_)
    have ey_1020 : y_1020 = 1 := ey_1020.trans (by decide +kernel)
    subst ey_1020
    refine va_sld hx hb hX hbl hbA hS (vp_in_iff.mpr (by rw [hL]; decide +kernel)) dL_law_1073 ?_
    refine lv_aload_n hx hb dL_law_1074 rfl (lv_at hl 6 rfl) ?_
    refine lv_iload hx hb dL_law_1075 (lv_at hl 1 rfl) ?_
    refine lv_iconst (v := 2) hx hb dL_law_1077 (by decide) ?_
    refine lv_iadd hx hb dL_law_1078 ?_
    refine lv_topi (fun y_1021 ey_1021 => ?_)
    have ey_1021 : y_1021 = 2 := ey_1021.trans (by decide +kernel)
    subst ey_1021
    refine va_sld hx hb hX hbl hbA hS (vp_in_iff.mpr (by rw [hL]; decide +kernel)) dL_law_1079 ?_
    refine lv_aload_n hx hb dL_law_1080 rfl (lv_at hl 6 rfl) ?_
    refine lv_iload hx hb dL_law_1081 (lv_at hl 1 rfl) ?_
    refine lv_iconst (v := 3) hx hb dL_law_1083 (by decide) ?_
    refine lv_iadd hx hb dL_law_1084 ?_
    refine lv_topi (fun y_1022 ey_1022 => ?_)
    have ey_1022 : y_1022 = 3 := ey_1022.trans (by decide +kernel)
    subst ey_1022
    refine va_sld hx hb hX hbl hbA hS (vp_in_iff.mpr (by rw [hL]; decide +kernel)) dL_law_1085 ?_
    have hFc := va_free (wc := [(mo, .inr (16, [.int 0, .ref gl, .ref po, .ref pi, .ref bu, .ref pa, .int 0, .int 0, .int 40, .int 0, .null, .int 0, .int 0])), (pi, .inr (4, [.int 0, .ref G.1, .int 0]))]) hD hS hA [0, 1] rfl
    refine va_calli (va_runV (As := [.int (xs (1 : Int32).toNatClampNeg), .int (xs (2 : Int32).toNatClampNeg), .int (xs (3 : Int32).toNatClampNeg)]) (rest := []) ⟨hx, hb, hml, hown, hts⟩ (zc_X11_blow l D G mo gl po pi bu pa 0 0 0 (xs (1 : Int32).toNatClampNeg) (xs (2 : Int32).toNatClampNeg) (xs (3 : Int32).toNatClampNeg) H.size) (cwV 3 hts gzL_law_X11_blow_213 rfl rfl rfl (by decide +kernel) ⟨(Nat.le_of_ble_eq_true rfl), (Nat.le_of_ble_eq_true rfl)⟩) ⟨p_RW_blind, va_recv hK hP (ci := 16) (q0 := 0) rfl rfl, (p_RW_at (tc := []) (wc := [(mo, .inr (16, [.int 0, .ref gl, .ref po, .ref pi, .ref bu, .ref pa, .int 0, .int 0, .int 40, .int 0, .null, .int 0, .int 0])), (pi, .inr (4, [.int 0, .ref G.1, .int 0]))]) hP hK hD hS hA hT hZ [0, 1] [] rfl rfl (by decide) rfl [.ref mo, .int (xs (1 : Int32).toNatClampNeg), .int (xs (2 : Int32).toNatClampNeg), .int (xs (3 : Int32).toNatClampNeg)])⟩ rfl rfl hl.1 rfl (lv_room (Nat.le_of_ble_eq_true rfl)) dL_law_1086 ⟨(Nat.le_of_ble_eq_true rfl), (Nat.le_of_ble_eq_true rfl)⟩) hS (fun q _ h => hFc q h) hFc (fun r_1023 u t H locs ht hvm w_1024 hB hz1 hk1 hS => ?_)
    obtain ⟨hP, hD, hK⟩ := q_join (D := D) (wc := [(mo, .inr (16, [.int 0, .ref gl, .ref po, .ref pi, .ref bu, .ref pa, .int 0, .int 0, .int 40, .int 0, .null, .int 0, .int 0])), (pi, .inr (4, [.int 0, .ref G.1, .int 0]))]) (wr := []) (w1 := [(mo, .inr (16, [.int 1, .ref gl, .ref po, .ref pi, .ref bu, .ref pa, .int 0, .int 0, .int 40, .int 0, .null, .int 0, .int 0])), (pi, .inr (4, [.int 0, .ref G.1, .int 0]))]) (tyr := [(cq, .object "Gatherhouse$Piece"), (cJ, .long)]) (ty1 := []) hP hD hK [0, 1] [] [0, 1] rfl rfl (by decide) (by decide) rfl hFc hk1 ht hvm hB
    have hP : va_P D vwCl [(mo, .inr (16, [.int 1, .ref gl, .ref po, .ref pi, .ref bu, .ref pa, .int 0, .int 0, .int 40, .int 0, .null, .int 0, .int 0])), (pi, .inr (4, [.int 0, .ref G.1, .int 0]))] H := hP
    have hD : va_D A [(mo, .inr (16, [.int 1, .ref gl, .ref po, .ref pi, .ref bu, .ref pa, .int 0, .int 0, .int 40, .int 0, .null, .int 0, .int 0])), (pi, .inr (4, [.int 0, .ref G.1, .int 0]))] := hD
    have hK : va_K D vwCl [(cq, .object "Gatherhouse$Piece"), (cJ, .long)] s := hK
    obtain rfl := w_1024
    refine lv_istore (lv' := [(7, .int 0), (6, .int 1), (5, .int 0), (4, .ref od), (3, .ref ou), (2, .ref mo), (1, .ref xo), (0, .ref b)]) hx hb dL_law_1089 hl (by decide) rfl (fun ls hl => ?_)
    refine lv_aload_n hx hb dL_law_1091 rfl (lv_at hl 5 rfl) ?_
    refine vp_callSi (va_runV (As := []) (rest := []) ⟨hx, hb, hml, hown, hts⟩ (zc_X11_thrown l D G mo gl po pi bu pa 1 0 0 40) (cwV 0 hts gzL_law_X11_thrown_165 rfl rfl rfl (by decide +kernel) ⟨(Nat.le_of_ble_eq_true rfl), (Nat.le_of_ble_eq_true rfl)⟩) ⟨p_RO_blind, va_recv hK hP (ci := 16) (q0 := 0) rfl rfl, (p_RO_at (tc := []) (wc := [(mo, .inr (16, [.int 1, .ref gl, .ref po, .ref pi, .ref bu, .ref pa, .int 0, .int 0, .int 40, .int 0, .null, .int 0, .int 0]))]) hP hK hT [0] [] rfl rfl [.ref mo])⟩ rfl rfl hl.1 rfl (lv_room (Nat.le_of_ble_eq_true rfl)) dL_law_1092 ⟨(Nat.le_of_ble_eq_true rfl), (Nat.le_of_ble_eq_true rfl)⟩).run (fun r_1025 w_1026 => ?_)
    obtain rfl := w_1026
    refine lv_iload hx hb dL_law_1095 (lv_at hl 1 rfl) ?_
    refine lv_icmp_eq (tgt := 1102) hx hb dL_law_1097 (by decide) (fun _ => ?_) (fun cc => absurd (by decide) cc)
    refine lv_iload hx hb dL_law_1102 (lv_at hl 1 rfl) ?_
    refine lv_if_ne (tgt := 1119) hx hb dL_law_1104 (by decide) (fun _ => ?_) (fun cc => absurd cc (by decide))
    refine lv_goto (tgt := 2999) hx hb dL_law_1119 (by decide) ?_
    refine W.widen (k := 797152) (n := 6710780) (Nat.le_of_ble_eq_true rfl) (Nat.le_of_ble_eq_true rfl) ?_
    exact hE _ _ _ hS (lv_sub hl [7, 2] rfl)
theorem dL_law_1122 : decode cL_law 1122 = .ok (.aload_n 1, 1) := by decide +kernel
theorem dL_law_1123 : decode cL_law 1123 = .ok (.aload_n 0, 1) := by decide +kernel
theorem dL_law_1124 : decode cL_law 1124 = .ok (.iload 5, 2) := by decide +kernel
theorem dL_law_1126 : decode cL_law 1126 = .ok (.iconst 1, 1) := by decide +kernel
theorem dL_law_1127 : decode cL_law 1127 = .ok (.iadd, 1) := by decide +kernel
theorem dL_law_1128 : decode cL_law 1128 = .ok (.iaload, 1) := by decide +kernel
theorem dL_law_1129 : decode cL_law 1129 = .ok (.aload_n 0, 1) := by decide +kernel
theorem dL_law_1130 : decode cL_law 1130 = .ok (.iload 5, 2) := by decide +kernel
theorem dL_law_1132 : decode cL_law 1132 = .ok (.iconst 2, 1) := by decide +kernel
theorem dL_law_1133 : decode cL_law 1133 = .ok (.iadd, 1) := by decide +kernel
theorem dL_law_1134 : decode cL_law 1134 = .ok (.iaload, 1) := by decide +kernel
theorem dL_law_1135 : decode cL_law 1135 = .ok (.aload_n 0, 1) := by decide +kernel
theorem dL_law_1136 : decode cL_law 1136 = .ok (.iload 5, 2) := by decide +kernel
theorem dL_law_1138 : decode cL_law 1138 = .ok (.iconst 3, 1) := by decide +kernel
theorem dL_law_1139 : decode cL_law 1139 = .ok (.iadd, 1) := by decide +kernel
theorem dL_law_1140 : decode cL_law 1140 = .ok (.iaload, 1) := by decide +kernel
theorem dL_law_1141 : decode cL_law 1141 = .ok (.aload_n 3, 1) := by decide +kernel
theorem dL_law_1142 : decode cL_law 1142 = .ok (.invokestatic 214, 3) := by decide +kernel
theorem dL_law_1145 : decode cL_law 1145 = .ok (.istore 6, 2) := by decide +kernel
theorem dL_law_1147 : decode cL_law 1147 = .ok (.aload_n 2, 1) := by decide +kernel
theorem dL_law_1148 : decode cL_law 1148 = .ok (.aload_n 0, 1) := by decide +kernel
theorem dL_law_1149 : decode cL_law 1149 = .ok (.iload 5, 2) := by decide +kernel
theorem dL_law_1151 : decode cL_law 1151 = .ok (.iconst 1, 1) := by decide +kernel
theorem dL_law_1152 : decode cL_law 1152 = .ok (.iadd, 1) := by decide +kernel
theorem dL_law_1153 : decode cL_law 1153 = .ok (.iaload, 1) := by decide +kernel
theorem dL_law_1154 : decode cL_law 1154 = .ok (.aload_n 0, 1) := by decide +kernel
theorem dL_law_1155 : decode cL_law 1155 = .ok (.iload 5, 2) := by decide +kernel
theorem dL_law_1157 : decode cL_law 1157 = .ok (.iconst 2, 1) := by decide +kernel
theorem dL_law_1158 : decode cL_law 1158 = .ok (.iadd, 1) := by decide +kernel
theorem dL_law_1159 : decode cL_law 1159 = .ok (.iaload, 1) := by decide +kernel
theorem dL_law_1160 : decode cL_law 1160 = .ok (.aload_n 0, 1) := by decide +kernel
theorem dL_law_1161 : decode cL_law 1161 = .ok (.iload 5, 2) := by decide +kernel
theorem dL_law_1163 : decode cL_law 1163 = .ok (.iconst 3, 1) := by decide +kernel
theorem dL_law_1164 : decode cL_law 1164 = .ok (.iadd, 1) := by decide +kernel
theorem dL_law_1165 : decode cL_law 1165 = .ok (.iaload, 1) := by decide +kernel
theorem dL_law_1166 : decode cL_law 1166 = .ok (.invokevirtual 216, 3) := by decide +kernel
theorem dL_law_1169 : decode cL_law 1169 = .ok (.istore 7, 2) := by decide +kernel
theorem dL_law_1171 : decode cL_law 1171 = .ok (.aload_n 2, 1) := by decide +kernel
theorem dL_law_1172 : decode cL_law 1172 = .ok (.invokevirtual 165, 3) := by decide +kernel
theorem dL_law_1175 : decode cL_law 1175 = .ok (.iload 6, 2) := by decide +kernel
theorem dL_law_1177 : decode cL_law 1177 = .ok (.if_icmp .eq 5, 3) := by decide +kernel
theorem dL_law_1182 : decode cL_law 1182 = .ok (.iload 6, 2) := by decide +kernel
theorem dL_law_1184 : decode cL_law 1184 = .ok (.ifCond .ne 15, 3) := by decide +kernel
theorem dL_law_1199 : decode cL_law 1199 = .ok (.goto 1800, 3) := by decide +kernel
set_option maxHeartbeats 4000000 in
set_option maxRecDepth 100000 in
theorem zl_14 {p : Program} {e : Env} {s : State} {m : MethodId} {below : List Frame} {meth : Method} {c : Code} {Q : State → Prop} {args : Array Value} (l : Launch) (hnt : l.stackTraces = false) (D : va_G) (G : Nat × Nat × Nat) (xo : Nat) (xg : Nat) (xp : Nat) (xq : Nat) (r1 : Nat) (r2 : Nat) (r3 : Nat) (r4 : Nat) (se : Nat) (n1 : Nat) (n2 : Nat) (n3 : Nat) (mo : Nat) (gl : Nat) (po : Nat) (pi : Nat) (bu : Nat) (pa : Nat) (ou : Nat) (od : Nat) (cg : ClassId) (cp : ClassId) (cq : ClassId) (ci : ClassId) (cj : ClassId) (cJ : ClassId) (cD : ClassId) {b L : Nat} {xs : Nat → Int32} {A : Nat → Prop} {H : Heap} {locs : List Loc} {ls : Array Slot} (hx : p.tables.exec = Jvm.exec) (hb : c.code = code) (hml : c.maxLocals = 9) (hown : s.vm.findClass RL = some m.cls) (hts : ∀ w ∈ wzL_law, w.before args s = true) (hT : FT G s) (hA : ∀ q : Nat, s.heap.size ≤ q → A q) (hZ : FZ G A s s.heap) (hX : va_X b L xs s s.heap) (hbl : b < s.heap.size) (hbA : ¬ A b) (hL : L = 5) (hK : va_K D vwCl [(cg, .object "Gatherhouse$Glass"), (cp, .object "Gatherhouse$Pot"), (cq, .object "Gatherhouse$Piece"), (ci, .int), (cj, .int), (cJ, .long), (cD, .double)] s) (hP : va_P D vwCl [(xo, .inr (11, [.ref xg, .int 0, .ref xp, .int 0, .ref xq, .int 0, .ref r1, .ref r2, .ref r3, .ref r4, .ref se, .int 0, .int 0, .int 40, .int 0, .int 0])), (xg, .inl (cg, 6, .inr (.inr (.inr (.inr (fun _ => none)))))), (xp, .inl (cp, 4, .inr (.inr (.inr (.inr (fun _ => none)))))), (xq, .inl (cq, 16, .inr (.inr (.inr (.inr (fun _ => none)))))), (r1, .inr (9, [.int 0, .int 0])), (r2, .inr (9, [.int 0, .int 0])), (r3, .inr (9, [.int 0, .int 0])), (r4, .inr (9, [.int 0, .int 0])), (se, .inr (10, [.ref n1, .ref n2, .ref n3, .int 0, .int 0, .int 0, .int 0])), (mo, .inr (16, [.int 0, .ref gl, .ref po, .ref pi, .ref bu, .ref pa, .int 0, .int 0, .int 40, .int 0, .null, .int 0, .int 0])), (gl, .inr (4, [.int 0, .ref G.1, .int 0])), (po, .inr (4, [.int 0, .ref G.1, .int 0])), (pi, .inr (4, [.int 0, .ref G.1, .int 0])), (bu, .inl (ci, 4, .inl (fun _ => 0))), (pa, .inl (cj, 4, .inl (fun _ => 0))), (ou, .inl (cJ, 1, .inr (.inl (fun _ => 0)))), (od, .inl (cD, 1, .inr (.inr (.inr (.inl (fun _ => 0))))))] H) (hD : va_D A [(xo, .inr (11, [.ref xg, .int 0, .ref xp, .int 0, .ref xq, .int 0, .ref r1, .ref r2, .ref r3, .ref r4, .ref se, .int 0, .int 0, .int 40, .int 0, .int 0])), (xg, .inl (cg, 6, .inr (.inr (.inr (.inr (fun _ => none)))))), (xp, .inl (cp, 4, .inr (.inr (.inr (.inr (fun _ => none)))))), (xq, .inl (cq, 16, .inr (.inr (.inr (.inr (fun _ => none)))))), (r1, .inr (9, [.int 0, .int 0])), (r2, .inr (9, [.int 0, .int 0])), (r3, .inr (9, [.int 0, .int 0])), (r4, .inr (9, [.int 0, .int 0])), (se, .inr (10, [.ref n1, .ref n2, .ref n3, .int 0, .int 0, .int 0, .int 0])), (mo, .inr (16, [.int 0, .ref gl, .ref po, .ref pi, .ref bu, .ref pa, .int 0, .int 0, .int 40, .int 0, .null, .int 0, .int 0])), (gl, .inr (4, [.int 0, .ref G.1, .int 0])), (po, .inr (4, [.int 0, .ref G.1, .int 0])), (pi, .inr (4, [.int 0, .ref G.1, .int 0])), (bu, .inl (ci, 4, .inl (fun _ => 0))), (pa, .inl (cj, 4, .inl (fun _ => 0))), (ou, .inl (cJ, 1, .inr (.inl (fun _ => 0)))), (od, .inl (cD, 1, .inr (.inr (.inr (.inl (fun _ => 0))))))]) (hS : va_S A s.heap H locs) (hl : lv_has ls 9 [(5, .int 0), (4, .ref od), (3, .ref ou), (2, .ref mo), (1, .ref xo), (0, .ref b)]) (hE : ∀ (H : Heap) (locs : List Loc) (ls : Array Slot), va_S A s.heap H locs → lv_has ls 9 [(0, .ref b), (5, .int 0)] → W p l e room_1 s m args below meth c H locs 797152 6710780 Q (F0 m 2999 ls [])) : W p l e room_1 s m args below meth c H locs 60 300 Q (F0 m 1122 ls []) := by
  have hP := hP.sub (ws' := [(xo, .inr (11, [.ref xg, .int 0, .ref xp, .int 0, .ref xq, .int 0, .ref r1, .ref r2, .ref r3, .ref r4, .ref se, .int 0, .int 0, .int 40, .int 0, .int 0])), (xq, .inl (cq, 16, .inr (.inr (.inr (.inr (fun _ => none)))))), (mo, .inr (16, [.int 0, .ref gl, .ref po, .ref pi, .ref bu, .ref pa, .int 0, .int 0, .int 40, .int 0, .null, .int 0, .int 0])), (pi, .inr (4, [.int 0, .ref G.1, .int 0])), (ou, .inl (cJ, 1, .inr (.inl (fun _ => 0))))]) [0, 3, 9, 12, 15] rfl
  have hD := hD.sub (ws' := [(xo, .inr (11, [.ref xg, .int 0, .ref xp, .int 0, .ref xq, .int 0, .ref r1, .ref r2, .ref r3, .ref r4, .ref se, .int 0, .int 0, .int 40, .int 0, .int 0])), (xq, .inl (cq, 16, .inr (.inr (.inr (.inr (fun _ => none)))))), (mo, .inr (16, [.int 0, .ref gl, .ref po, .ref pi, .ref bu, .ref pa, .int 0, .int 0, .int 40, .int 0, .null, .int 0, .int 0])), (pi, .inr (4, [.int 0, .ref G.1, .int 0])), (ou, .inl (cJ, 1, .inr (.inl (fun _ => 0))))]) [0, 3, 9, 12, 15] (by decide) rfl
  have hK := hK.sub (tys' := [(cq, .object "Gatherhouse$Piece"), (cJ, .long)]) [2, 5] rfl
  refine lv_aload_n hx hb dL_law_1122 rfl (lv_at hl 4 rfl) ?_
  refine lv_aload_n hx hb dL_law_1123 rfl (lv_at hl 5 rfl) ?_
  refine lv_iload hx hb dL_law_1124 (lv_at hl 0 rfl) ?_
  refine lv_iconst (v := 1) hx hb dL_law_1126 (by decide) ?_
  refine lv_iadd hx hb dL_law_1127 ?_
  refine lv_topi (fun y_1027 ey_1027 => ?_)
  have ey_1027 : y_1027 = 1 := ey_1027.trans (by decide +kernel)
  subst ey_1027
  refine va_sld hx hb hX hbl hbA hS (vp_in_iff.mpr (by rw [hL]; decide +kernel)) dL_law_1128 ?_
  refine lv_aload_n hx hb dL_law_1129 rfl (lv_at hl 5 rfl) ?_
  refine lv_iload hx hb dL_law_1130 (lv_at hl 0 rfl) ?_
  refine lv_iconst (v := 2) hx hb dL_law_1132 (by decide) ?_
  refine lv_iadd hx hb dL_law_1133 ?_
  refine lv_topi (fun y_1028 ey_1028 => ?_)
  have ey_1028 : y_1028 = 2 := ey_1028.trans (by decide +kernel)
  subst ey_1028
  refine va_sld hx hb hX hbl hbA hS (vp_in_iff.mpr (by rw [hL]; decide +kernel)) dL_law_1134 ?_
  refine lv_aload_n hx hb dL_law_1135 rfl (lv_at hl 5 rfl) ?_
  refine lv_iload hx hb dL_law_1136 (lv_at hl 0 rfl) ?_
  refine lv_iconst (v := 3) hx hb dL_law_1138 (by decide) ?_
  refine lv_iadd hx hb dL_law_1139 ?_
  refine lv_topi (fun y_1029 ey_1029 => ?_)
  have ey_1029 : y_1029 = 3 := ey_1029.trans (by decide +kernel)
  subst ey_1029
  refine va_sld hx hb hX hbl hbA hS (vp_in_iff.mpr (by rw [hL]; decide +kernel)) dL_law_1140 ?_
  refine lv_aload_n hx hb dL_law_1141 rfl (lv_at hl 2 rfl) ?_
  have hFc := va_free (wc := [(xo, .inr (11, [.ref xg, .int 0, .ref xp, .int 0, .ref xq, .int 0, .ref r1, .ref r2, .ref r3, .ref r4, .ref se, .int 0, .int 0, .int 40, .int 0, .int 0])), (xq, .inl (cq, 16, .inr (.inr (.inr (.inr (fun _ => none)))))), (ou, .inl (cJ, 1, .inr (.inl (fun _ => 0))))]) hD hS hA [0, 1, 4] rfl
  refine vx_calli (vx_runSX (As := [.ref xo, .int (xs (1 : Int32).toNatClampNeg), .int (xs (2 : Int32).toNatClampNeg), .int (xs (3 : Int32).toNatClampNeg), .ref ou]) (rest := []) ⟨hx, hb, hml, hown, hts⟩ (zc_L_swing l hnt D G xo xg xp xq r1 r2 r3 r4 se 0 0 cq ou cJ (xs (1 : Int32).toNatClampNeg) (xs (2 : Int32).toNatClampNeg) (xs (3 : Int32).toNatClampNeg) H.size) (vx_cwSW 5 hts gzL_law_L_swing_214 rfl rfl rfl (by decide +kernel) ⟨(Nat.le_of_ble_eq_true rfl), (Nat.le_of_ble_eq_true rfl)⟩) ⟨p_RW_blind, (p_RW_at (tc := [(cq, .object "Gatherhouse$Piece"), (cJ, .long)]) (wc := [(xo, .inr (11, [.ref xg, .int 0, .ref xp, .int 0, .ref xq, .int 0, .ref r1, .ref r2, .ref r3, .ref r4, .ref se, .int 0, .int 0, .int 40, .int 0, .int 0])), (xq, .inl (cq, 16, .inr (.inr (.inr (.inr (fun _ => none)))))), (ou, .inl (cJ, 1, .inr (.inl (fun _ => 0))))]) hP hK hD hS hA hT hZ [0, 1, 4] [0, 1] rfl rfl (by decide) rfl [.ref xo, .int (xs (1 : Int32).toNatClampNeg), .int (xs (2 : Int32).toNatClampNeg), .int (xs (3 : Int32).toNatClampNeg), .ref ou])⟩ rfl rfl hl.1 rfl (lv_room (Nat.le_of_ble_eq_true rfl)) dL_law_1142 ⟨(Nat.le_of_ble_eq_true rfl), (Nat.le_of_ble_eq_true rfl)⟩) hS (fun q _ h => hFc q h) hFc (fun q _ h => hFc q h) (fun E ce q9 u t H locs ht hvm hpx hBX hz1 hk1 hS hce hcv hcl => ?_) (fun r_1030 u t H locs ht hvm w_1031 hB hz1 hk1 hS => ?_)
  · exact (show False from hBX).elim
  · obtain ⟨hP, hD, hK⟩ := q_join (D := D) (wc := [(xo, .inr (11, [.ref xg, .int 0, .ref xp, .int 0, .ref xq, .int 0, .ref r1, .ref r2, .ref r3, .ref r4, .ref se, .int 0, .int 0, .int 40, .int 0, .int 0])), (xq, .inl (cq, 16, .inr (.inr (.inr (.inr (fun _ => none)))))), (ou, .inl (cJ, 1, .inr (.inl (fun _ => 0))))]) (wr := [(mo, .inr (16, [.int 0, .ref gl, .ref po, .ref pi, .ref bu, .ref pa, .int 0, .int 0, .int 40, .int 0, .null, .int 0, .int 0])), (pi, .inr (4, [.int 0, .ref G.1, .int 0]))]) (w1 := []) (tyr := [(cq, .object "Gatherhouse$Piece"), (cJ, .long)]) (ty1 := []) hP hD hK [0, 1, 4] [2, 3] [0, 1] rfl rfl (by decide) (by decide) rfl hFc hk1 ht hvm (q_none hK hvm)
    have hP : va_P D vwCl [(mo, .inr (16, [.int 0, .ref gl, .ref po, .ref pi, .ref bu, .ref pa, .int 0, .int 0, .int 40, .int 0, .null, .int 0, .int 0])), (pi, .inr (4, [.int 0, .ref G.1, .int 0]))] H := hP
    have hD : va_D A [(mo, .inr (16, [.int 0, .ref gl, .ref po, .ref pi, .ref bu, .ref pa, .int 0, .int 0, .int 40, .int 0, .null, .int 0, .int 0])), (pi, .inr (4, [.int 0, .ref G.1, .int 0]))] := hD
    have hK : va_K D vwCl [(cq, .object "Gatherhouse$Piece"), (cJ, .long)] s := hK
    refine W.widen (k := 61) (n := 306) (Nat.le_of_ble_eq_true rfl) (Nat.le_of_ble_eq_true rfl) ?_
    obtain rfl := w_1031
    refine lv_istore (lv' := [(6, .int 1), (5, .int 0), (4, .ref od), (3, .ref ou), (2, .ref mo), (1, .ref xo), (0, .ref b)]) hx hb dL_law_1145 hl (by decide) rfl (fun ls hl => ?_)
    refine lv_aload_n hx hb dL_law_1147 rfl (lv_at hl 4 rfl) ?_
    refine lv_aload_n hx hb dL_law_1148 rfl (lv_at hl 6 rfl) ?_
    refine lv_iload hx hb dL_law_1149 (lv_at hl 1 rfl) ?_
    refine lv_iconst (v := 1) hx hb dL_law_1151 (by decide) ?_
    refine lv_iadd hx hb dL_law_1152 ?_
    refine lv_topi (fun y_1032 ey_1032 => ?_)
    have ey_1032 : y_1032 = 1 := ey_1032.trans (by decide +kernel)
    subst ey_1032
    refine va_sld hx hb hX hbl hbA hS (vp_in_iff.mpr (by rw [hL]; decide +kernel)) dL_law_1153 ?_
    refine lv_aload_n hx hb dL_law_1154 rfl (lv_at hl 6 rfl) ?_
    refine lv_iload hx hb dL_law_1155 (lv_at hl 1 rfl) ?_
    refine lv_iconst (v := 2) hx hb dL_law_1157 (by decide) ?_
    refine lv_iadd hx hb dL_law_1158 ?_
    refine lv_topi (fun y_1033 ey_1033 => ?_)
    have ey_1033 : y_1033 = 2 := ey_1033.trans (by decide +kernel)
    subst ey_1033
    refine va_sld hx hb hX hbl hbA hS (vp_in_iff.mpr (by rw [hL]; decide +kernel)) dL_law_1159 ?_
    refine lv_aload_n hx hb dL_law_1160 rfl (lv_at hl 6 rfl) ?_
    refine lv_iload hx hb dL_law_1161 (lv_at hl 1 rfl) ?_
    refine lv_iconst (v := 3) hx hb dL_law_1163 (by decide) ?_
    refine lv_iadd hx hb dL_law_1164 ?_
    refine lv_topi (fun y_1034 ey_1034 => ?_)
    have ey_1034 : y_1034 = 3 := ey_1034.trans (by decide +kernel)
    subst ey_1034
    refine va_sld hx hb hX hbl hbA hS (vp_in_iff.mpr (by rw [hL]; decide +kernel)) dL_law_1165 ?_
    have hFc := va_free (wc := [(mo, .inr (16, [.int 0, .ref gl, .ref po, .ref pi, .ref bu, .ref pa, .int 0, .int 0, .int 40, .int 0, .null, .int 0, .int 0])), (pi, .inr (4, [.int 0, .ref G.1, .int 0]))]) hD hS hA [0, 1] rfl
    refine va_calli (va_runV (As := [.int (xs (1 : Int32).toNatClampNeg), .int (xs (2 : Int32).toNatClampNeg), .int (xs (3 : Int32).toNatClampNeg)]) (rest := []) ⟨hx, hb, hml, hown, hts⟩ (zc_X11_swing l D G mo gl po pi bu pa 0 0 0 (xs (1 : Int32).toNatClampNeg) (xs (2 : Int32).toNatClampNeg) (xs (3 : Int32).toNatClampNeg) H.size) (cwV 3 hts gzL_law_X11_swing_216 rfl rfl rfl (by decide +kernel) ⟨(Nat.le_of_ble_eq_true rfl), (Nat.le_of_ble_eq_true rfl)⟩) ⟨p_RW_blind, va_recv hK hP (ci := 16) (q0 := 0) rfl rfl, (p_RW_at (tc := []) (wc := [(mo, .inr (16, [.int 0, .ref gl, .ref po, .ref pi, .ref bu, .ref pa, .int 0, .int 0, .int 40, .int 0, .null, .int 0, .int 0])), (pi, .inr (4, [.int 0, .ref G.1, .int 0]))]) hP hK hD hS hA hT hZ [0, 1] [] rfl rfl (by decide) rfl [.ref mo, .int (xs (1 : Int32).toNatClampNeg), .int (xs (2 : Int32).toNatClampNeg), .int (xs (3 : Int32).toNatClampNeg)])⟩ rfl rfl hl.1 rfl (lv_room (Nat.le_of_ble_eq_true rfl)) dL_law_1166 ⟨(Nat.le_of_ble_eq_true rfl), (Nat.le_of_ble_eq_true rfl)⟩) hS (fun q _ h => hFc q h) hFc (fun r_1035 u t H locs ht hvm w_1036 hB hz1 hk1 hS => ?_)
    obtain ⟨hP, hD, hK⟩ := q_join (D := D) (wc := [(mo, .inr (16, [.int 0, .ref gl, .ref po, .ref pi, .ref bu, .ref pa, .int 0, .int 0, .int 40, .int 0, .null, .int 0, .int 0])), (pi, .inr (4, [.int 0, .ref G.1, .int 0]))]) (wr := []) (w1 := [(mo, .inr (16, [.int 1, .ref gl, .ref po, .ref pi, .ref bu, .ref pa, .int 0, .int 0, .int 40, .int 0, .null, .int 0, .int 0])), (pi, .inr (4, [.int 0, .ref G.1, .int 0]))]) (tyr := [(cq, .object "Gatherhouse$Piece"), (cJ, .long)]) (ty1 := []) hP hD hK [0, 1] [] [0, 1] rfl rfl (by decide) (by decide) rfl hFc hk1 ht hvm hB
    have hP : va_P D vwCl [(mo, .inr (16, [.int 1, .ref gl, .ref po, .ref pi, .ref bu, .ref pa, .int 0, .int 0, .int 40, .int 0, .null, .int 0, .int 0])), (pi, .inr (4, [.int 0, .ref G.1, .int 0]))] H := hP
    have hD : va_D A [(mo, .inr (16, [.int 1, .ref gl, .ref po, .ref pi, .ref bu, .ref pa, .int 0, .int 0, .int 40, .int 0, .null, .int 0, .int 0])), (pi, .inr (4, [.int 0, .ref G.1, .int 0]))] := hD
    have hK : va_K D vwCl [(cq, .object "Gatherhouse$Piece"), (cJ, .long)] s := hK
    obtain rfl := w_1036
    refine lv_istore (lv' := [(7, .int 0), (6, .int 1), (5, .int 0), (4, .ref od), (3, .ref ou), (2, .ref mo), (1, .ref xo), (0, .ref b)]) hx hb dL_law_1169 hl (by decide) rfl (fun ls hl => ?_)
    refine lv_aload_n hx hb dL_law_1171 rfl (lv_at hl 5 rfl) ?_
    refine vp_callSi (va_runV (As := []) (rest := []) ⟨hx, hb, hml, hown, hts⟩ (zc_X11_thrown l D G mo gl po pi bu pa 1 0 0 40) (cwV 0 hts gzL_law_X11_thrown_165 rfl rfl rfl (by decide +kernel) ⟨(Nat.le_of_ble_eq_true rfl), (Nat.le_of_ble_eq_true rfl)⟩) ⟨p_RO_blind, va_recv hK hP (ci := 16) (q0 := 0) rfl rfl, (p_RO_at (tc := []) (wc := [(mo, .inr (16, [.int 1, .ref gl, .ref po, .ref pi, .ref bu, .ref pa, .int 0, .int 0, .int 40, .int 0, .null, .int 0, .int 0]))]) hP hK hT [0] [] rfl rfl [.ref mo])⟩ rfl rfl hl.1 rfl (lv_room (Nat.le_of_ble_eq_true rfl)) dL_law_1172 ⟨(Nat.le_of_ble_eq_true rfl), (Nat.le_of_ble_eq_true rfl)⟩).run (fun r_1037 w_1038 => ?_)
    obtain rfl := w_1038
    refine lv_iload hx hb dL_law_1175 (lv_at hl 1 rfl) ?_
    refine lv_icmp_eq (tgt := 1182) hx hb dL_law_1177 (by decide) (fun _ => ?_) (fun cc => absurd (by decide) cc)
    refine lv_iload hx hb dL_law_1182 (lv_at hl 1 rfl) ?_
    refine lv_if_ne (tgt := 1199) hx hb dL_law_1184 (by decide) (fun _ => ?_) (fun cc => absurd cc (by decide))
    refine lv_goto (tgt := 2999) hx hb dL_law_1199 (by decide) ?_
    refine W.widen (k := 797152) (n := 6710780) (Nat.le_of_ble_eq_true rfl) (Nat.le_of_ble_eq_true rfl) ?_
    exact hE _ _ _ hS (lv_sub hl [7, 2] rfl)
theorem dL_law_1202 : decode cL_law 1202 = .ok (.aload_n 1, 1) := by decide +kernel
theorem dL_law_1203 : decode cL_law 1203 = .ok (.aload_n 0, 1) := by decide +kernel
theorem dL_law_1204 : decode cL_law 1204 = .ok (.iload 5, 2) := by decide +kernel
theorem dL_law_1206 : decode cL_law 1206 = .ok (.iconst 1, 1) := by decide +kernel
theorem dL_law_1207 : decode cL_law 1207 = .ok (.iadd, 1) := by decide +kernel
theorem dL_law_1208 : decode cL_law 1208 = .ok (.iaload, 1) := by decide +kernel
theorem dL_law_1209 : decode cL_law 1209 = .ok (.aload_n 0, 1) := by decide +kernel
theorem dL_law_1210 : decode cL_law 1210 = .ok (.iload 5, 2) := by decide +kernel
theorem dL_law_1212 : decode cL_law 1212 = .ok (.iconst 2, 1) := by decide +kernel
theorem dL_law_1213 : decode cL_law 1213 = .ok (.iadd, 1) := by decide +kernel
theorem dL_law_1214 : decode cL_law 1214 = .ok (.iaload, 1) := by decide +kernel
theorem dL_law_1215 : decode cL_law 1215 = .ok (.aload_n 0, 1) := by decide +kernel
theorem dL_law_1216 : decode cL_law 1216 = .ok (.iload 5, 2) := by decide +kernel
theorem dL_law_1218 : decode cL_law 1218 = .ok (.iconst 3, 1) := by decide +kernel
theorem dL_law_1219 : decode cL_law 1219 = .ok (.iadd, 1) := by decide +kernel
theorem dL_law_1220 : decode cL_law 1220 = .ok (.iaload, 1) := by decide +kernel
theorem dL_law_1221 : decode cL_law 1221 = .ok (.aload_n 3, 1) := by decide +kernel
theorem dL_law_1222 : decode cL_law 1222 = .ok (.invokestatic 217, 3) := by decide +kernel
theorem dL_law_1225 : decode cL_law 1225 = .ok (.istore 6, 2) := by decide +kernel
theorem dL_law_1227 : decode cL_law 1227 = .ok (.aload_n 2, 1) := by decide +kernel
theorem dL_law_1228 : decode cL_law 1228 = .ok (.aload_n 0, 1) := by decide +kernel
theorem dL_law_1229 : decode cL_law 1229 = .ok (.iload 5, 2) := by decide +kernel
theorem dL_law_1231 : decode cL_law 1231 = .ok (.iconst 1, 1) := by decide +kernel
theorem dL_law_1232 : decode cL_law 1232 = .ok (.iadd, 1) := by decide +kernel
theorem dL_law_1233 : decode cL_law 1233 = .ok (.iaload, 1) := by decide +kernel
theorem dL_law_1234 : decode cL_law 1234 = .ok (.aload_n 0, 1) := by decide +kernel
theorem dL_law_1235 : decode cL_law 1235 = .ok (.iload 5, 2) := by decide +kernel
theorem dL_law_1237 : decode cL_law 1237 = .ok (.iconst 2, 1) := by decide +kernel
theorem dL_law_1238 : decode cL_law 1238 = .ok (.iadd, 1) := by decide +kernel
theorem dL_law_1239 : decode cL_law 1239 = .ok (.iaload, 1) := by decide +kernel
theorem dL_law_1240 : decode cL_law 1240 = .ok (.aload_n 0, 1) := by decide +kernel
theorem dL_law_1241 : decode cL_law 1241 = .ok (.iload 5, 2) := by decide +kernel
theorem dL_law_1243 : decode cL_law 1243 = .ok (.iconst 3, 1) := by decide +kernel
theorem dL_law_1244 : decode cL_law 1244 = .ok (.iadd, 1) := by decide +kernel
theorem dL_law_1245 : decode cL_law 1245 = .ok (.iaload, 1) := by decide +kernel
theorem dL_law_1246 : decode cL_law 1246 = .ok (.invokevirtual 219, 3) := by decide +kernel
theorem dL_law_1249 : decode cL_law 1249 = .ok (.istore 7, 2) := by decide +kernel
theorem dL_law_1251 : decode cL_law 1251 = .ok (.aload_n 2, 1) := by decide +kernel
theorem dL_law_1252 : decode cL_law 1252 = .ok (.invokevirtual 165, 3) := by decide +kernel
theorem dL_law_1255 : decode cL_law 1255 = .ok (.iload 6, 2) := by decide +kernel
theorem dL_law_1257 : decode cL_law 1257 = .ok (.if_icmp .eq 5, 3) := by decide +kernel
theorem dL_law_1262 : decode cL_law 1262 = .ok (.iload 6, 2) := by decide +kernel
theorem dL_law_1264 : decode cL_law 1264 = .ok (.ifCond .ne 15, 3) := by decide +kernel
theorem dL_law_1279 : decode cL_law 1279 = .ok (.goto 1720, 3) := by decide +kernel
set_option maxHeartbeats 4000000 in
set_option maxRecDepth 100000 in
theorem zl_15 {p : Program} {e : Env} {s : State} {m : MethodId} {below : List Frame} {meth : Method} {c : Code} {Q : State → Prop} {args : Array Value} (l : Launch) (hnt : l.stackTraces = false) (D : va_G) (G : Nat × Nat × Nat) (xo : Nat) (xg : Nat) (xp : Nat) (xq : Nat) (r1 : Nat) (r2 : Nat) (r3 : Nat) (r4 : Nat) (se : Nat) (n1 : Nat) (n2 : Nat) (n3 : Nat) (mo : Nat) (gl : Nat) (po : Nat) (pi : Nat) (bu : Nat) (pa : Nat) (ou : Nat) (od : Nat) (cg : ClassId) (cp : ClassId) (cq : ClassId) (ci : ClassId) (cj : ClassId) (cJ : ClassId) (cD : ClassId) {b L : Nat} {xs : Nat → Int32} {A : Nat → Prop} {H : Heap} {locs : List Loc} {ls : Array Slot} (hx : p.tables.exec = Jvm.exec) (hb : c.code = code) (hml : c.maxLocals = 9) (hown : s.vm.findClass RL = some m.cls) (hts : ∀ w ∈ wzL_law, w.before args s = true) (hT : FT G s) (hA : ∀ q : Nat, s.heap.size ≤ q → A q) (hZ : FZ G A s s.heap) (hX : va_X b L xs s s.heap) (hbl : b < s.heap.size) (hbA : ¬ A b) (hL : L = 5) (hK : va_K D vwCl [(cg, .object "Gatherhouse$Glass"), (cp, .object "Gatherhouse$Pot"), (cq, .object "Gatherhouse$Piece"), (ci, .int), (cj, .int), (cJ, .long), (cD, .double)] s) (hP : va_P D vwCl [(xo, .inr (11, [.ref xg, .int 0, .ref xp, .int 0, .ref xq, .int 0, .ref r1, .ref r2, .ref r3, .ref r4, .ref se, .int 0, .int 0, .int 40, .int 0, .int 0])), (xg, .inl (cg, 6, .inr (.inr (.inr (.inr (fun _ => none)))))), (xp, .inl (cp, 4, .inr (.inr (.inr (.inr (fun _ => none)))))), (xq, .inl (cq, 16, .inr (.inr (.inr (.inr (fun _ => none)))))), (r1, .inr (9, [.int 0, .int 0])), (r2, .inr (9, [.int 0, .int 0])), (r3, .inr (9, [.int 0, .int 0])), (r4, .inr (9, [.int 0, .int 0])), (se, .inr (10, [.ref n1, .ref n2, .ref n3, .int 0, .int 0, .int 0, .int 0])), (mo, .inr (16, [.int 0, .ref gl, .ref po, .ref pi, .ref bu, .ref pa, .int 0, .int 0, .int 40, .int 0, .null, .int 0, .int 0])), (gl, .inr (4, [.int 0, .ref G.1, .int 0])), (po, .inr (4, [.int 0, .ref G.1, .int 0])), (pi, .inr (4, [.int 0, .ref G.1, .int 0])), (bu, .inl (ci, 4, .inl (fun _ => 0))), (pa, .inl (cj, 4, .inl (fun _ => 0))), (ou, .inl (cJ, 1, .inr (.inl (fun _ => 0)))), (od, .inl (cD, 1, .inr (.inr (.inr (.inl (fun _ => 0))))))] H) (hD : va_D A [(xo, .inr (11, [.ref xg, .int 0, .ref xp, .int 0, .ref xq, .int 0, .ref r1, .ref r2, .ref r3, .ref r4, .ref se, .int 0, .int 0, .int 40, .int 0, .int 0])), (xg, .inl (cg, 6, .inr (.inr (.inr (.inr (fun _ => none)))))), (xp, .inl (cp, 4, .inr (.inr (.inr (.inr (fun _ => none)))))), (xq, .inl (cq, 16, .inr (.inr (.inr (.inr (fun _ => none)))))), (r1, .inr (9, [.int 0, .int 0])), (r2, .inr (9, [.int 0, .int 0])), (r3, .inr (9, [.int 0, .int 0])), (r4, .inr (9, [.int 0, .int 0])), (se, .inr (10, [.ref n1, .ref n2, .ref n3, .int 0, .int 0, .int 0, .int 0])), (mo, .inr (16, [.int 0, .ref gl, .ref po, .ref pi, .ref bu, .ref pa, .int 0, .int 0, .int 40, .int 0, .null, .int 0, .int 0])), (gl, .inr (4, [.int 0, .ref G.1, .int 0])), (po, .inr (4, [.int 0, .ref G.1, .int 0])), (pi, .inr (4, [.int 0, .ref G.1, .int 0])), (bu, .inl (ci, 4, .inl (fun _ => 0))), (pa, .inl (cj, 4, .inl (fun _ => 0))), (ou, .inl (cJ, 1, .inr (.inl (fun _ => 0)))), (od, .inl (cD, 1, .inr (.inr (.inr (.inl (fun _ => 0))))))]) (hS : va_S A s.heap H locs) (hl : lv_has ls 9 [(5, .int 0), (4, .ref od), (3, .ref ou), (2, .ref mo), (1, .ref xo), (0, .ref b)]) (hE : ∀ (H : Heap) (locs : List Loc) (ls : Array Slot), va_S A s.heap H locs → lv_has ls 9 [(0, .ref b), (5, .int 0)] → W p l e room_1 s m args below meth c H locs 797152 6710780 Q (F0 m 2999 ls [])) : W p l e room_1 s m args below meth c H locs 60 300 Q (F0 m 1202 ls []) := by
  have hP := hP.sub (ws' := [(xo, .inr (11, [.ref xg, .int 0, .ref xp, .int 0, .ref xq, .int 0, .ref r1, .ref r2, .ref r3, .ref r4, .ref se, .int 0, .int 0, .int 40, .int 0, .int 0])), (xq, .inl (cq, 16, .inr (.inr (.inr (.inr (fun _ => none)))))), (mo, .inr (16, [.int 0, .ref gl, .ref po, .ref pi, .ref bu, .ref pa, .int 0, .int 0, .int 40, .int 0, .null, .int 0, .int 0])), (pi, .inr (4, [.int 0, .ref G.1, .int 0])), (ou, .inl (cJ, 1, .inr (.inl (fun _ => 0))))]) [0, 3, 9, 12, 15] rfl
  have hD := hD.sub (ws' := [(xo, .inr (11, [.ref xg, .int 0, .ref xp, .int 0, .ref xq, .int 0, .ref r1, .ref r2, .ref r3, .ref r4, .ref se, .int 0, .int 0, .int 40, .int 0, .int 0])), (xq, .inl (cq, 16, .inr (.inr (.inr (.inr (fun _ => none)))))), (mo, .inr (16, [.int 0, .ref gl, .ref po, .ref pi, .ref bu, .ref pa, .int 0, .int 0, .int 40, .int 0, .null, .int 0, .int 0])), (pi, .inr (4, [.int 0, .ref G.1, .int 0])), (ou, .inl (cJ, 1, .inr (.inl (fun _ => 0))))]) [0, 3, 9, 12, 15] (by decide) rfl
  have hK := hK.sub (tys' := [(cq, .object "Gatherhouse$Piece"), (cJ, .long)]) [2, 5] rfl
  refine lv_aload_n hx hb dL_law_1202 rfl (lv_at hl 4 rfl) ?_
  refine lv_aload_n hx hb dL_law_1203 rfl (lv_at hl 5 rfl) ?_
  refine lv_iload hx hb dL_law_1204 (lv_at hl 0 rfl) ?_
  refine lv_iconst (v := 1) hx hb dL_law_1206 (by decide) ?_
  refine lv_iadd hx hb dL_law_1207 ?_
  refine lv_topi (fun y_1039 ey_1039 => ?_)
  have ey_1039 : y_1039 = 1 := ey_1039.trans (by decide +kernel)
  subst ey_1039
  refine va_sld hx hb hX hbl hbA hS (vp_in_iff.mpr (by rw [hL]; decide +kernel)) dL_law_1208 ?_
  refine lv_aload_n hx hb dL_law_1209 rfl (lv_at hl 5 rfl) ?_
  refine lv_iload hx hb dL_law_1210 (lv_at hl 0 rfl) ?_
  refine lv_iconst (v := 2) hx hb dL_law_1212 (by decide) ?_
  refine lv_iadd hx hb dL_law_1213 ?_
  refine lv_topi (fun y_1040 ey_1040 => ?_)
  have ey_1040 : y_1040 = 2 := ey_1040.trans (by decide +kernel)
  subst ey_1040
  refine va_sld hx hb hX hbl hbA hS (vp_in_iff.mpr (by rw [hL]; decide +kernel)) dL_law_1214 ?_
  refine lv_aload_n hx hb dL_law_1215 rfl (lv_at hl 5 rfl) ?_
  refine lv_iload hx hb dL_law_1216 (lv_at hl 0 rfl) ?_
  refine lv_iconst (v := 3) hx hb dL_law_1218 (by decide) ?_
  refine lv_iadd hx hb dL_law_1219 ?_
  refine lv_topi (fun y_1041 ey_1041 => ?_)
  have ey_1041 : y_1041 = 3 := ey_1041.trans (by decide +kernel)
  subst ey_1041
  refine va_sld hx hb hX hbl hbA hS (vp_in_iff.mpr (by rw [hL]; decide +kernel)) dL_law_1220 ?_
  refine lv_aload_n hx hb dL_law_1221 rfl (lv_at hl 2 rfl) ?_
  have hFc := va_free (wc := [(xo, .inr (11, [.ref xg, .int 0, .ref xp, .int 0, .ref xq, .int 0, .ref r1, .ref r2, .ref r3, .ref r4, .ref se, .int 0, .int 0, .int 40, .int 0, .int 0])), (xq, .inl (cq, 16, .inr (.inr (.inr (.inr (fun _ => none)))))), (ou, .inl (cJ, 1, .inr (.inl (fun _ => 0))))]) hD hS hA [0, 1, 4] rfl
  refine vx_calli (vx_runSX (As := [.ref xo, .int (xs (1 : Int32).toNatClampNeg), .int (xs (2 : Int32).toNatClampNeg), .int (xs (3 : Int32).toNatClampNeg), .ref ou]) (rest := []) ⟨hx, hb, hml, hown, hts⟩ (zc_L_neck l hnt D G xo xg xp xq r1 r2 r3 r4 se 0 0 cq ou cJ (xs (1 : Int32).toNatClampNeg) (xs (2 : Int32).toNatClampNeg) (xs (3 : Int32).toNatClampNeg) H.size) (vx_cwSW 5 hts gzL_law_L_neck_217 rfl rfl rfl (by decide +kernel) ⟨(Nat.le_of_ble_eq_true rfl), (Nat.le_of_ble_eq_true rfl)⟩) ⟨p_RW_blind, (p_RW_at (tc := [(cq, .object "Gatherhouse$Piece"), (cJ, .long)]) (wc := [(xo, .inr (11, [.ref xg, .int 0, .ref xp, .int 0, .ref xq, .int 0, .ref r1, .ref r2, .ref r3, .ref r4, .ref se, .int 0, .int 0, .int 40, .int 0, .int 0])), (xq, .inl (cq, 16, .inr (.inr (.inr (.inr (fun _ => none)))))), (ou, .inl (cJ, 1, .inr (.inl (fun _ => 0))))]) hP hK hD hS hA hT hZ [0, 1, 4] [0, 1] rfl rfl (by decide) rfl [.ref xo, .int (xs (1 : Int32).toNatClampNeg), .int (xs (2 : Int32).toNatClampNeg), .int (xs (3 : Int32).toNatClampNeg), .ref ou])⟩ rfl rfl hl.1 rfl (lv_room (Nat.le_of_ble_eq_true rfl)) dL_law_1222 ⟨(Nat.le_of_ble_eq_true rfl), (Nat.le_of_ble_eq_true rfl)⟩) hS (fun q _ h => hFc q h) hFc (fun q _ h => hFc q h) (fun E ce q9 u t H locs ht hvm hpx hBX hz1 hk1 hS hce hcv hcl => ?_) (fun r_1042 u t H locs ht hvm w_1043 hB hz1 hk1 hS => ?_)
  · exact (show False from hBX).elim
  · obtain ⟨hP, hD, hK⟩ := q_join (D := D) (wc := [(xo, .inr (11, [.ref xg, .int 0, .ref xp, .int 0, .ref xq, .int 0, .ref r1, .ref r2, .ref r3, .ref r4, .ref se, .int 0, .int 0, .int 40, .int 0, .int 0])), (xq, .inl (cq, 16, .inr (.inr (.inr (.inr (fun _ => none)))))), (ou, .inl (cJ, 1, .inr (.inl (fun _ => 0))))]) (wr := [(mo, .inr (16, [.int 0, .ref gl, .ref po, .ref pi, .ref bu, .ref pa, .int 0, .int 0, .int 40, .int 0, .null, .int 0, .int 0])), (pi, .inr (4, [.int 0, .ref G.1, .int 0]))]) (w1 := []) (tyr := [(cq, .object "Gatherhouse$Piece"), (cJ, .long)]) (ty1 := []) hP hD hK [0, 1, 4] [2, 3] [0, 1] rfl rfl (by decide) (by decide) rfl hFc hk1 ht hvm (q_none hK hvm)
    have hP : va_P D vwCl [(mo, .inr (16, [.int 0, .ref gl, .ref po, .ref pi, .ref bu, .ref pa, .int 0, .int 0, .int 40, .int 0, .null, .int 0, .int 0])), (pi, .inr (4, [.int 0, .ref G.1, .int 0]))] H := hP
    have hD : va_D A [(mo, .inr (16, [.int 0, .ref gl, .ref po, .ref pi, .ref bu, .ref pa, .int 0, .int 0, .int 40, .int 0, .null, .int 0, .int 0])), (pi, .inr (4, [.int 0, .ref G.1, .int 0]))] := hD
    have hK : va_K D vwCl [(cq, .object "Gatherhouse$Piece"), (cJ, .long)] s := hK
    refine W.widen (k := 61) (n := 306) (Nat.le_of_ble_eq_true rfl) (Nat.le_of_ble_eq_true rfl) ?_
    obtain rfl := w_1043
    refine lv_istore (lv' := [(6, .int 1), (5, .int 0), (4, .ref od), (3, .ref ou), (2, .ref mo), (1, .ref xo), (0, .ref b)]) hx hb dL_law_1225 hl (by decide) rfl (fun ls hl => ?_)
    refine lv_aload_n hx hb dL_law_1227 rfl (lv_at hl 4 rfl) ?_
    refine lv_aload_n hx hb dL_law_1228 rfl (lv_at hl 6 rfl) ?_
    refine lv_iload hx hb dL_law_1229 (lv_at hl 1 rfl) ?_
    refine lv_iconst (v := 1) hx hb dL_law_1231 (by decide) ?_
    refine lv_iadd hx hb dL_law_1232 ?_
    refine lv_topi (fun y_1044 ey_1044 => ?_)
    have ey_1044 : y_1044 = 1 := ey_1044.trans (by decide +kernel)
    subst ey_1044
    refine va_sld hx hb hX hbl hbA hS (vp_in_iff.mpr (by rw [hL]; decide +kernel)) dL_law_1233 ?_
    refine lv_aload_n hx hb dL_law_1234 rfl (lv_at hl 6 rfl) ?_
    refine lv_iload hx hb dL_law_1235 (lv_at hl 1 rfl) ?_
    refine lv_iconst (v := 2) hx hb dL_law_1237 (by decide) ?_
    refine lv_iadd hx hb dL_law_1238 ?_
    refine lv_topi (fun y_1045 ey_1045 => ?_)
    have ey_1045 : y_1045 = 2 := ey_1045.trans (by decide +kernel)
    subst ey_1045
    refine va_sld hx hb hX hbl hbA hS (vp_in_iff.mpr (by rw [hL]; decide +kernel)) dL_law_1239 ?_
    refine lv_aload_n hx hb dL_law_1240 rfl (lv_at hl 6 rfl) ?_
    refine lv_iload hx hb dL_law_1241 (lv_at hl 1 rfl) ?_
    refine lv_iconst (v := 3) hx hb dL_law_1243 (by decide) ?_
    refine lv_iadd hx hb dL_law_1244 ?_
    refine lv_topi (fun y_1046 ey_1046 => ?_)
    have ey_1046 : y_1046 = 3 := ey_1046.trans (by decide +kernel)
    subst ey_1046
    refine va_sld hx hb hX hbl hbA hS (vp_in_iff.mpr (by rw [hL]; decide +kernel)) dL_law_1245 ?_
    have hFc := va_free (wc := [(mo, .inr (16, [.int 0, .ref gl, .ref po, .ref pi, .ref bu, .ref pa, .int 0, .int 0, .int 40, .int 0, .null, .int 0, .int 0])), (pi, .inr (4, [.int 0, .ref G.1, .int 0]))]) hD hS hA [0, 1] rfl
    refine va_calli (va_runV (As := [.int (xs (1 : Int32).toNatClampNeg), .int (xs (2 : Int32).toNatClampNeg), .int (xs (3 : Int32).toNatClampNeg)]) (rest := []) ⟨hx, hb, hml, hown, hts⟩ (zc_X11_neck l D G mo gl po pi bu pa 0 0 0 (xs (1 : Int32).toNatClampNeg) (xs (2 : Int32).toNatClampNeg) (xs (3 : Int32).toNatClampNeg) H.size) (cwV 3 hts gzL_law_X11_neck_219 rfl rfl rfl (by decide +kernel) ⟨(Nat.le_of_ble_eq_true rfl), (Nat.le_of_ble_eq_true rfl)⟩) ⟨p_RW_blind, va_recv hK hP (ci := 16) (q0 := 0) rfl rfl, (p_RW_at (tc := []) (wc := [(mo, .inr (16, [.int 0, .ref gl, .ref po, .ref pi, .ref bu, .ref pa, .int 0, .int 0, .int 40, .int 0, .null, .int 0, .int 0])), (pi, .inr (4, [.int 0, .ref G.1, .int 0]))]) hP hK hD hS hA hT hZ [0, 1] [] rfl rfl (by decide) rfl [.ref mo, .int (xs (1 : Int32).toNatClampNeg), .int (xs (2 : Int32).toNatClampNeg), .int (xs (3 : Int32).toNatClampNeg)])⟩ rfl rfl hl.1 rfl (lv_room (Nat.le_of_ble_eq_true rfl)) dL_law_1246 ⟨(Nat.le_of_ble_eq_true rfl), (Nat.le_of_ble_eq_true rfl)⟩) hS (fun q _ h => hFc q h) hFc (fun r_1047 u t H locs ht hvm w_1048 hB hz1 hk1 hS => ?_)
    obtain ⟨hP, hD, hK⟩ := q_join (D := D) (wc := [(mo, .inr (16, [.int 0, .ref gl, .ref po, .ref pi, .ref bu, .ref pa, .int 0, .int 0, .int 40, .int 0, .null, .int 0, .int 0])), (pi, .inr (4, [.int 0, .ref G.1, .int 0]))]) (wr := []) (w1 := [(mo, .inr (16, [.int 1, .ref gl, .ref po, .ref pi, .ref bu, .ref pa, .int 0, .int 0, .int 40, .int 0, .null, .int 0, .int 0])), (pi, .inr (4, [.int 0, .ref G.1, .int 0]))]) (tyr := [(cq, .object "Gatherhouse$Piece"), (cJ, .long)]) (ty1 := []) hP hD hK [0, 1] [] [0, 1] rfl rfl (by decide) (by decide) rfl hFc hk1 ht hvm hB
    have hP : va_P D vwCl [(mo, .inr (16, [.int 1, .ref gl, .ref po, .ref pi, .ref bu, .ref pa, .int 0, .int 0, .int 40, .int 0, .null, .int 0, .int 0])), (pi, .inr (4, [.int 0, .ref G.1, .int 0]))] H := hP
    have hD : va_D A [(mo, .inr (16, [.int 1, .ref gl, .ref po, .ref pi, .ref bu, .ref pa, .int 0, .int 0, .int 40, .int 0, .null, .int 0, .int 0])), (pi, .inr (4, [.int 0, .ref G.1, .int 0]))] := hD
    have hK : va_K D vwCl [(cq, .object "Gatherhouse$Piece"), (cJ, .long)] s := hK
    obtain rfl := w_1048
    refine lv_istore (lv' := [(7, .int 0), (6, .int 1), (5, .int 0), (4, .ref od), (3, .ref ou), (2, .ref mo), (1, .ref xo), (0, .ref b)]) hx hb dL_law_1249 hl (by decide) rfl (fun ls hl => ?_)
    refine lv_aload_n hx hb dL_law_1251 rfl (lv_at hl 5 rfl) ?_
    refine vp_callSi (va_runV (As := []) (rest := []) ⟨hx, hb, hml, hown, hts⟩ (zc_X11_thrown l D G mo gl po pi bu pa 1 0 0 40) (cwV 0 hts gzL_law_X11_thrown_165 rfl rfl rfl (by decide +kernel) ⟨(Nat.le_of_ble_eq_true rfl), (Nat.le_of_ble_eq_true rfl)⟩) ⟨p_RO_blind, va_recv hK hP (ci := 16) (q0 := 0) rfl rfl, (p_RO_at (tc := []) (wc := [(mo, .inr (16, [.int 1, .ref gl, .ref po, .ref pi, .ref bu, .ref pa, .int 0, .int 0, .int 40, .int 0, .null, .int 0, .int 0]))]) hP hK hT [0] [] rfl rfl [.ref mo])⟩ rfl rfl hl.1 rfl (lv_room (Nat.le_of_ble_eq_true rfl)) dL_law_1252 ⟨(Nat.le_of_ble_eq_true rfl), (Nat.le_of_ble_eq_true rfl)⟩).run (fun r_1049 w_1050 => ?_)
    obtain rfl := w_1050
    refine lv_iload hx hb dL_law_1255 (lv_at hl 1 rfl) ?_
    refine lv_icmp_eq (tgt := 1262) hx hb dL_law_1257 (by decide) (fun _ => ?_) (fun cc => absurd (by decide) cc)
    refine lv_iload hx hb dL_law_1262 (lv_at hl 1 rfl) ?_
    refine lv_if_ne (tgt := 1279) hx hb dL_law_1264 (by decide) (fun _ => ?_) (fun cc => absurd cc (by decide))
    refine lv_goto (tgt := 2999) hx hb dL_law_1279 (by decide) ?_
    refine W.widen (k := 797152) (n := 6710780) (Nat.le_of_ble_eq_true rfl) (Nat.le_of_ble_eq_true rfl) ?_
    exact hE _ _ _ hS (lv_sub hl [7, 2] rfl)
