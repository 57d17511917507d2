theorem dL_law_1282 : decode cL_law 1282 = .ok (.aload_n 1, 1) := by decide +kernel
theorem dL_law_1283 : decode cL_law 1283 = .ok (.aload_n 0, 1) := by decide +kernel
theorem dL_law_1284 : decode cL_law 1284 = .ok (.iload 5, 2) := by decide +kernel
theorem dL_law_1286 : decode cL_law 1286 = .ok (.iconst 1, 1) := by decide +kernel
theorem dL_law_1287 : decode cL_law 1287 = .ok (.iadd, 1) := by decide +kernel
theorem dL_law_1288 : decode cL_law 1288 = .ok (.iaload, 1) := by decide +kernel
theorem dL_law_1289 : decode cL_law 1289 = .ok (.aload_n 0, 1) := by decide +kernel
theorem dL_law_1290 : decode cL_law 1290 = .ok (.iload 5, 2) := by decide +kernel
theorem dL_law_1292 : decode cL_law 1292 = .ok (.iconst 2, 1) := by decide +kernel
theorem dL_law_1293 : decode cL_law 1293 = .ok (.iadd, 1) := by decide +kernel
theorem dL_law_1294 : decode cL_law 1294 = .ok (.iaload, 1) := by decide +kernel
theorem dL_law_1295 : decode cL_law 1295 = .ok (.aload_n 3, 1) := by decide +kernel
theorem dL_law_1296 : decode cL_law 1296 = .ok (.invokestatic 220, 3) := by decide +kernel
theorem dL_law_1299 : decode cL_law 1299 = .ok (.istore 6, 2) := by decide +kernel
theorem dL_law_1301 : decode cL_law 1301 = .ok (.aload_n 2, 1) := by decide +kernel
theorem dL_law_1302 : decode cL_law 1302 = .ok (.aload_n 0, 1) := by decide +kernel
theorem dL_law_1303 : decode cL_law 1303 = .ok (.iload 5, 2) := by decide +kernel
theorem dL_law_1305 : decode cL_law 1305 = .ok (.iconst 1, 1) := by decide +kernel
theorem dL_law_1306 : decode cL_law 1306 = .ok (.iadd, 1) := by decide +kernel
theorem dL_law_1307 : decode cL_law 1307 = .ok (.iaload, 1) := by decide +kernel
theorem dL_law_1308 : decode cL_law 1308 = .ok (.aload_n 0, 1) := by decide +kernel
theorem dL_law_1309 : decode cL_law 1309 = .ok (.iload 5, 2) := by decide +kernel
theorem dL_law_1311 : decode cL_law 1311 = .ok (.iconst 2, 1) := by decide +kernel
theorem dL_law_1312 : decode cL_law 1312 = .ok (.iadd, 1) := by decide +kernel
theorem dL_law_1313 : decode cL_law 1313 = .ok (.iaload, 1) := by decide +kernel
theorem dL_law_1314 : decode cL_law 1314 = .ok (.invokevirtual 222, 3) := by decide +kernel
theorem dL_law_1317 : decode cL_law 1317 = .ok (.istore 7, 2) := by decide +kernel
theorem dL_law_1319 : decode cL_law 1319 = .ok (.aload_n 2, 1) := by decide +kernel
theorem dL_law_1320 : decode cL_law 1320 = .ok (.invokevirtual 165, 3) := by decide +kernel
theorem dL_law_1323 : decode cL_law 1323 = .ok (.iload 6, 2) := by decide +kernel
theorem dL_law_1325 : decode cL_law 1325 = .ok (.if_icmp .eq 5, 3) := by decide +kernel
theorem dL_law_1330 : decode cL_law 1330 = .ok (.iload 6, 2) := by decide +kernel
theorem dL_law_1332 : decode cL_law 1332 = .ok (.ifCond .ne 15, 3) := by decide +kernel
theorem dL_law_1347 : decode cL_law 1347 = .ok (.goto 1652, 3) := by decide +kernel
set_option maxHeartbeats 4000000 in
set_option maxRecDepth 100000 in
theorem zl_16 {p : Program} {e : Env} {s : State} {m : MethodId} {below : List Frame} {meth : Method} {c : Code} {Q : State → Prop} {args : Array Value} (l : Launch) (hnt : l.stackTraces = false) (D : va_G) (G : Nat × Nat × Nat) (xo : Nat) (xg : Nat) (xp : Nat) (xq : Nat) (r1 : Nat) (r2 : Nat) (r3 : Nat) (r4 : Nat) (se : Nat) (n1 : Nat) (n2 : Nat) (n3 : Nat) (mo : Nat) (gl : Nat) (po : Nat) (pi : Nat) (bu : Nat) (pa : Nat) (ou : Nat) (od : Nat) (cg : ClassId) (cp : ClassId) (cq : ClassId) (ci : ClassId) (cj : ClassId) (cJ : ClassId) (cD : ClassId) {b L : Nat} {xs : Nat → Int32} {A : Nat → Prop} {H : Heap} {locs : List Loc} {ls : Array Slot} (hx : p.tables.exec = Jvm.exec) (hb : c.code = code) (hml : c.maxLocals = 9) (hown : s.vm.findClass RL = some m.cls) (hts : ∀ w ∈ wzL_law, w.before args s = true) (hT : FT G s) (hA : ∀ q : Nat, s.heap.size ≤ q → A q) (hZ : FZ G A s s.heap) (hX : va_X b L xs s s.heap) (hbl : b < s.heap.size) (hbA : ¬ A b) (hL : L = 5) (hK : va_K D vwCl [(cg, .object "Gatherhouse$Glass"), (cp, .object "Gatherhouse$Pot"), (cq, .object "Gatherhouse$Piece"), (ci, .int), (cj, .int), (cJ, .long), (cD, .double)] s) (hP : va_P D vwCl [(xo, .inr (11, [.ref xg, .int 0, .ref xp, .int 0, .ref xq, .int 0, .ref r1, .ref r2, .ref r3, .ref r4, .ref se, .int 0, .int 0, .int 40, .int 0, .int 0])), (xg, .inl (cg, 6, .inr (.inr (.inr (.inr (fun _ => none)))))), (xp, .inl (cp, 4, .inr (.inr (.inr (.inr (fun _ => none)))))), (xq, .inl (cq, 16, .inr (.inr (.inr (.inr (fun _ => none)))))), (r1, .inr (9, [.int 0, .int 0])), (r2, .inr (9, [.int 0, .int 0])), (r3, .inr (9, [.int 0, .int 0])), (r4, .inr (9, [.int 0, .int 0])), (se, .inr (10, [.ref n1, .ref n2, .ref n3, .int 0, .int 0, .int 0, .int 0])), (mo, .inr (16, [.int 0, .ref gl, .ref po, .ref pi, .ref bu, .ref pa, .int 0, .int 0, .int 40, .int 0, .null, .int 0, .int 0])), (gl, .inr (4, [.int 0, .ref G.1, .int 0])), (po, .inr (4, [.int 0, .ref G.1, .int 0])), (pi, .inr (4, [.int 0, .ref G.1, .int 0])), (bu, .inl (ci, 4, .inl (fun _ => 0))), (pa, .inl (cj, 4, .inl (fun _ => 0))), (ou, .inl (cJ, 1, .inr (.inl (fun _ => 0)))), (od, .inl (cD, 1, .inr (.inr (.inr (.inl (fun _ => 0))))))] H) (hD : va_D A [(xo, .inr (11, [.ref xg, .int 0, .ref xp, .int 0, .ref xq, .int 0, .ref r1, .ref r2, .ref r3, .ref r4, .ref se, .int 0, .int 0, .int 40, .int 0, .int 0])), (xg, .inl (cg, 6, .inr (.inr (.inr (.inr (fun _ => none)))))), (xp, .inl (cp, 4, .inr (.inr (.inr (.inr (fun _ => none)))))), (xq, .inl (cq, 16, .inr (.inr (.inr (.inr (fun _ => none)))))), (r1, .inr (9, [.int 0, .int 0])), (r2, .inr (9, [.int 0, .int 0])), (r3, .inr (9, [.int 0, .int 0])), (r4, .inr (9, [.int 0, .int 0])), (se, .inr (10, [.ref n1, .ref n2, .ref n3, .int 0, .int 0, .int 0, .int 0])), (mo, .inr (16, [.int 0, .ref gl, .ref po, .ref pi, .ref bu, .ref pa, .int 0, .int 0, .int 40, .int 0, .null, .int 0, .int 0])), (gl, .inr (4, [.int 0, .ref G.1, .int 0])), (po, .inr (4, [.int 0, .ref G.1, .int 0])), (pi, .inr (4, [.int 0, .ref G.1, .int 0])), (bu, .inl (ci, 4, .inl (fun _ => 0))), (pa, .inl (cj, 4, .inl (fun _ => 0))), (ou, .inl (cJ, 1, .inr (.inl (fun _ => 0)))), (od, .inl (cD, 1, .inr (.inr (.inr (.inl (fun _ => 0))))))]) (hS : va_S A s.heap H locs) (hl : lv_has ls 9 [(5, .int 0), (4, .ref od), (3, .ref ou), (2, .ref mo), (1, .ref xo), (0, .ref b)]) (hE : ∀ (H : Heap) (locs : List Loc) (ls : Array Slot), va_S A s.heap H locs → lv_has ls 9 [(0, .ref b), (5, .int 0)] → W p l e room_1 s m args below meth c H locs 797152 6710780 Q (F0 m 2999 ls [])) : W p l e room_1 s m args below meth c H locs 60 300 Q (F0 m 1282 ls []) := by
  have hP := hP.sub (ws' := [(xo, .inr (11, [.ref xg, .int 0, .ref xp, .int 0, .ref xq, .int 0, .ref r1, .ref r2, .ref r3, .ref r4, .ref se, .int 0, .int 0, .int 40, .int 0, .int 0])), (xq, .inl (cq, 16, .inr (.inr (.inr (.inr (fun _ => none)))))), (mo, .inr (16, [.int 0, .ref gl, .ref po, .ref pi, .ref bu, .ref pa, .int 0, .int 0, .int 40, .int 0, .null, .int 0, .int 0])), (pi, .inr (4, [.int 0, .ref G.1, .int 0])), (ou, .inl (cJ, 1, .inr (.inl (fun _ => 0))))]) [0, 3, 9, 12, 15] rfl
  have hD := hD.sub (ws' := [(xo, .inr (11, [.ref xg, .int 0, .ref xp, .int 0, .ref xq, .int 0, .ref r1, .ref r2, .ref r3, .ref r4, .ref se, .int 0, .int 0, .int 40, .int 0, .int 0])), (xq, .inl (cq, 16, .inr (.inr (.inr (.inr (fun _ => none)))))), (mo, .inr (16, [.int 0, .ref gl, .ref po, .ref pi, .ref bu, .ref pa, .int 0, .int 0, .int 40, .int 0, .null, .int 0, .int 0])), (pi, .inr (4, [.int 0, .ref G.1, .int 0])), (ou, .inl (cJ, 1, .inr (.inl (fun _ => 0))))]) [0, 3, 9, 12, 15] (by decide) rfl
  have hK := hK.sub (tys' := [(cq, .object "Gatherhouse$Piece"), (cJ, .long)]) [2, 5] rfl
  refine lv_aload_n hx hb dL_law_1282 rfl (lv_at hl 4 rfl) ?_
  refine lv_aload_n hx hb dL_law_1283 rfl (lv_at hl 5 rfl) ?_
  refine lv_iload hx hb dL_law_1284 (lv_at hl 0 rfl) ?_
  refine lv_iconst (v := 1) hx hb dL_law_1286 (by decide) ?_
  refine lv_iadd hx hb dL_law_1287 ?_
  refine lv_topi (fun y_1051 ey_1051 => ?_)
  have ey_1051 : y_1051 = 1 := ey_1051.trans (by decide +kernel)
  subst ey_1051
  refine va_sld hx hb hX hbl hbA hS (vp_in_iff.mpr (by rw [hL]; decide +kernel)) dL_law_1288 ?_
  refine lv_aload_n hx hb dL_law_1289 rfl (lv_at hl 5 rfl) ?_
  refine lv_iload hx hb dL_law_1290 (lv_at hl 0 rfl) ?_
  refine lv_iconst (v := 2) hx hb dL_law_1292 (by decide) ?_
  refine lv_iadd hx hb dL_law_1293 ?_
  refine lv_topi (fun y_1052 ey_1052 => ?_)
  have ey_1052 : y_1052 = 2 := ey_1052.trans (by decide +kernel)
  subst ey_1052
  refine va_sld hx hb hX hbl hbA hS (vp_in_iff.mpr (by rw [hL]; decide +kernel)) dL_law_1294 ?_
  refine lv_aload_n hx hb dL_law_1295 rfl (lv_at hl 2 rfl) ?_
  have hFc := va_free (wc := [(xo, .inr (11, [.ref xg, .int 0, .ref xp, .int 0, .ref xq, .int 0, .ref r1, .ref r2, .ref r3, .ref r4, .ref se, .int 0, .int 0, .int 40, .int 0, .int 0])), (xq, .inl (cq, 16, .inr (.inr (.inr (.inr (fun _ => none)))))), (ou, .inl (cJ, 1, .inr (.inl (fun _ => 0))))]) hD hS hA [0, 1, 4] rfl
  refine vx_calli (vx_runSX (As := [.ref xo, .int (xs (1 : Int32).toNatClampNeg), .int (xs (2 : Int32).toNatClampNeg), .ref ou]) (rest := []) ⟨hx, hb, hml, hown, hts⟩ (zc_L_split l hnt D G xo xg xp xq r1 r2 r3 r4 se 0 0 cq ou cJ (xs (1 : Int32).toNatClampNeg) (xs (2 : Int32).toNatClampNeg) H.size) (vx_cwSW 4 hts gzL_law_L_split_220 rfl rfl rfl (by decide +kernel) ⟨(Nat.le_of_ble_eq_true rfl), (Nat.le_of_ble_eq_true rfl)⟩) ⟨p_RW_blind, (p_RW_at (tc := [(cq, .object "Gatherhouse$Piece"), (cJ, .long)]) (wc := [(xo, .inr (11, [.ref xg, .int 0, .ref xp, .int 0, .ref xq, .int 0, .ref r1, .ref r2, .ref r3, .ref r4, .ref se, .int 0, .int 0, .int 40, .int 0, .int 0])), (xq, .inl (cq, 16, .inr (.inr (.inr (.inr (fun _ => none)))))), (ou, .inl (cJ, 1, .inr (.inl (fun _ => 0))))]) hP hK hD hS hA hT hZ [0, 1, 4] [0, 1] rfl rfl (by decide) rfl [.ref xo, .int (xs (1 : Int32).toNatClampNeg), .int (xs (2 : Int32).toNatClampNeg), .ref ou])⟩ rfl rfl hl.1 rfl (lv_room (Nat.le_of_ble_eq_true rfl)) dL_law_1296 ⟨(Nat.le_of_ble_eq_true rfl), (Nat.le_of_ble_eq_true rfl)⟩) hS (fun q _ h => hFc q h) hFc (fun q _ h => hFc q h) (fun E ce q9 u t H locs ht hvm hpx hBX hz1 hk1 hS hce hcv hcl => ?_) (fun r_1053 u t H locs ht hvm w_1054 hB hz1 hk1 hS => ?_)
  · exact (show False from hBX).elim
  · obtain ⟨hP, hD, hK⟩ := q_join (D := D) (wc := [(xo, .inr (11, [.ref xg, .int 0, .ref xp, .int 0, .ref xq, .int 0, .ref r1, .ref r2, .ref r3, .ref r4, .ref se, .int 0, .int 0, .int 40, .int 0, .int 0])), (xq, .inl (cq, 16, .inr (.inr (.inr (.inr (fun _ => none)))))), (ou, .inl (cJ, 1, .inr (.inl (fun _ => 0))))]) (wr := [(mo, .inr (16, [.int 0, .ref gl, .ref po, .ref pi, .ref bu, .ref pa, .int 0, .int 0, .int 40, .int 0, .null, .int 0, .int 0])), (pi, .inr (4, [.int 0, .ref G.1, .int 0]))]) (w1 := []) (tyr := [(cq, .object "Gatherhouse$Piece"), (cJ, .long)]) (ty1 := []) hP hD hK [0, 1, 4] [2, 3] [0, 1] rfl rfl (by decide) (by decide) rfl hFc hk1 ht hvm (q_none hK hvm)
    have hP : va_P D vwCl [(mo, .inr (16, [.int 0, .ref gl, .ref po, .ref pi, .ref bu, .ref pa, .int 0, .int 0, .int 40, .int 0, .null, .int 0, .int 0])), (pi, .inr (4, [.int 0, .ref G.1, .int 0]))] H := hP
    have hD : va_D A [(mo, .inr (16, [.int 0, .ref gl, .ref po, .ref pi, .ref bu, .ref pa, .int 0, .int 0, .int 40, .int 0, .null, .int 0, .int 0])), (pi, .inr (4, [.int 0, .ref G.1, .int 0]))] := hD
    have hK : va_K D vwCl [(cq, .object "Gatherhouse$Piece"), (cJ, .long)] s := hK
    refine W.widen (k := 61) (n := 306) (Nat.le_of_ble_eq_true rfl) (Nat.le_of_ble_eq_true rfl) ?_
    obtain rfl := w_1054
    refine lv_istore (lv' := [(6, .int 1), (5, .int 0), (4, .ref od), (3, .ref ou), (2, .ref mo), (1, .ref xo), (0, .ref b)]) hx hb dL_law_1299 hl (by decide) rfl (fun ls hl => ?_)
    refine lv_aload_n hx hb dL_law_1301 rfl (lv_at hl 4 rfl) ?_
    refine lv_aload_n hx hb dL_law_1302 rfl (lv_at hl 6 rfl) ?_
    refine lv_iload hx hb dL_law_1303 (lv_at hl 1 rfl) ?_
    refine lv_iconst (v := 1) hx hb dL_law_1305 (by decide) ?_
    refine lv_iadd hx hb dL_law_1306 ?_
    refine lv_topi (fun y_1055 ey_1055 => ?_)
    have ey_1055 : y_1055 = 1 := ey_1055.trans (by decide +kernel)
    subst ey_1055
    refine va_sld hx hb hX hbl hbA hS (vp_in_iff.mpr (by rw [hL]; decide +kernel)) dL_law_1307 ?_
    refine lv_aload_n hx hb dL_law_1308 rfl (lv_at hl 6 rfl) ?_
    refine lv_iload hx hb dL_law_1309 (lv_at hl 1 rfl) ?_
    refine lv_iconst (v := 2) hx hb dL_law_1311 (by decide) ?_
    refine lv_iadd hx hb dL_law_1312 ?_
    refine lv_topi (fun y_1056 ey_1056 => ?_)
    have ey_1056 : y_1056 = 2 := ey_1056.trans (by decide +kernel)
    subst ey_1056
    refine va_sld hx hb hX hbl hbA hS (vp_in_iff.mpr (by rw [hL]; decide +kernel)) dL_law_1313 ?_
    have hFc := va_free (wc := [(mo, .inr (16, [.int 0, .ref gl, .ref po, .ref pi, .ref bu, .ref pa, .int 0, .int 0, .int 40, .int 0, .null, .int 0, .int 0])), (pi, .inr (4, [.int 0, .ref G.1, .int 0]))]) hD hS hA [0, 1] rfl
    refine va_calli (va_runV (As := [.int (xs (1 : Int32).toNatClampNeg), .int (xs (2 : Int32).toNatClampNeg)]) (rest := []) ⟨hx, hb, hml, hown, hts⟩ (zc_X11_split l D G mo gl po pi bu pa 0 0 0 (xs (1 : Int32).toNatClampNeg) (xs (2 : Int32).toNatClampNeg) H.size) (cwV 2 hts gzL_law_X11_split_222 rfl rfl rfl (by decide +kernel) ⟨(Nat.le_of_ble_eq_true rfl), (Nat.le_of_ble_eq_true rfl)⟩) ⟨p_RW_blind, va_recv hK hP (ci := 16) (q0 := 0) rfl rfl, (p_RW_at (tc := []) (wc := [(mo, .inr (16, [.int 0, .ref gl, .ref po, .ref pi, .ref bu, .ref pa, .int 0, .int 0, .int 40, .int 0, .null, .int 0, .int 0])), (pi, .inr (4, [.int 0, .ref G.1, .int 0]))]) hP hK hD hS hA hT hZ [0, 1] [] rfl rfl (by decide) rfl [.ref mo, .int (xs (1 : Int32).toNatClampNeg), .int (xs (2 : Int32).toNatClampNeg)])⟩ rfl rfl hl.1 rfl (lv_room (Nat.le_of_ble_eq_true rfl)) dL_law_1314 ⟨(Nat.le_of_ble_eq_true rfl), (Nat.le_of_ble_eq_true rfl)⟩) hS (fun q _ h => hFc q h) hFc (fun r_1057 u t H locs ht hvm w_1058 hB hz1 hk1 hS => ?_)
    obtain ⟨hP, hD, hK⟩ := q_join (D := D) (wc := [(mo, .inr (16, [.int 0, .ref gl, .ref po, .ref pi, .ref bu, .ref pa, .int 0, .int 0, .int 40, .int 0, .null, .int 0, .int 0])), (pi, .inr (4, [.int 0, .ref G.1, .int 0]))]) (wr := []) (w1 := [(mo, .inr (16, [.int 1, .ref gl, .ref po, .ref pi, .ref bu, .ref pa, .int 0, .int 0, .int 40, .int 0, .null, .int 0, .int 0])), (pi, .inr (4, [.int 0, .ref G.1, .int 0]))]) (tyr := [(cq, .object "Gatherhouse$Piece"), (cJ, .long)]) (ty1 := []) hP hD hK [0, 1] [] [0, 1] rfl rfl (by decide) (by decide) rfl hFc hk1 ht hvm hB
    have hP : va_P D vwCl [(mo, .inr (16, [.int 1, .ref gl, .ref po, .ref pi, .ref bu, .ref pa, .int 0, .int 0, .int 40, .int 0, .null, .int 0, .int 0])), (pi, .inr (4, [.int 0, .ref G.1, .int 0]))] H := hP
    have hD : va_D A [(mo, .inr (16, [.int 1, .ref gl, .ref po, .ref pi, .ref bu, .ref pa, .int 0, .int 0, .int 40, .int 0, .null, .int 0, .int 0])), (pi, .inr (4, [.int 0, .ref G.1, .int 0]))] := hD
    have hK : va_K D vwCl [(cq, .object "Gatherhouse$Piece"), (cJ, .long)] s := hK
    obtain rfl := w_1058
    refine lv_istore (lv' := [(7, .int 0), (6, .int 1), (5, .int 0), (4, .ref od), (3, .ref ou), (2, .ref mo), (1, .ref xo), (0, .ref b)]) hx hb dL_law_1317 hl (by decide) rfl (fun ls hl => ?_)
    refine lv_aload_n hx hb dL_law_1319 rfl (lv_at hl 5 rfl) ?_
    refine vp_callSi (va_runV (As := []) (rest := []) ⟨hx, hb, hml, hown, hts⟩ (zc_X11_thrown l D G mo gl po pi bu pa 1 0 0 40) (cwV 0 hts gzL_law_X11_thrown_165 rfl rfl rfl (by decide +kernel) ⟨(Nat.le_of_ble_eq_true rfl), (Nat.le_of_ble_eq_true rfl)⟩) ⟨p_RO_blind, va_recv hK hP (ci := 16) (q0 := 0) rfl rfl, (p_RO_at (tc := []) (wc := [(mo, .inr (16, [.int 1, .ref gl, .ref po, .ref pi, .ref bu, .ref pa, .int 0, .int 0, .int 40, .int 0, .null, .int 0, .int 0]))]) hP hK hT [0] [] rfl rfl [.ref mo])⟩ rfl rfl hl.1 rfl (lv_room (Nat.le_of_ble_eq_true rfl)) dL_law_1320 ⟨(Nat.le_of_ble_eq_true rfl), (Nat.le_of_ble_eq_true rfl)⟩).run (fun r_1059 w_1060 => ?_)
    obtain rfl := w_1060
    refine lv_iload hx hb dL_law_1323 (lv_at hl 1 rfl) ?_
    refine lv_icmp_eq (tgt := 1330) hx hb dL_law_1325 (by decide) (fun _ => ?_) (fun cc => absurd (by decide) cc)
    refine lv_iload hx hb dL_law_1330 (lv_at hl 1 rfl) ?_
    refine lv_if_ne (tgt := 1347) hx hb dL_law_1332 (by decide) (fun _ => ?_) (fun cc => absurd cc (by decide))
    refine lv_goto (tgt := 2999) hx hb dL_law_1347 (by decide) ?_
    refine W.widen (k := 797152) (n := 6710780) (Nat.le_of_ble_eq_true rfl) (Nat.le_of_ble_eq_true rfl) ?_
    exact hE _ _ _ hS (lv_sub hl [7, 2] rfl)
theorem dL_law_1350 : decode cL_law 1350 = .ok (.aload_n 1, 1) := by decide +kernel
theorem dL_law_1351 : decode cL_law 1351 = .ok (.aload_n 0, 1) := by decide +kernel
theorem dL_law_1352 : decode cL_law 1352 = .ok (.iload 5, 2) := by decide +kernel
theorem dL_law_1354 : decode cL_law 1354 = .ok (.iconst 1, 1) := by decide +kernel
theorem dL_law_1355 : decode cL_law 1355 = .ok (.iadd, 1) := by decide +kernel
theorem dL_law_1356 : decode cL_law 1356 = .ok (.iaload, 1) := by decide +kernel
theorem dL_law_1357 : decode cL_law 1357 = .ok (.aload_n 3, 1) := by decide +kernel
theorem dL_law_1358 : decode cL_law 1358 = .ok (.invokestatic 223, 3) := by decide +kernel
theorem dL_law_1361 : decode cL_law 1361 = .ok (.istore 6, 2) := by decide +kernel
theorem dL_law_1363 : decode cL_law 1363 = .ok (.aload_n 2, 1) := by decide +kernel
theorem dL_law_1364 : decode cL_law 1364 = .ok (.aload_n 0, 1) := by decide +kernel
theorem dL_law_1365 : decode cL_law 1365 = .ok (.iload 5, 2) := by decide +kernel
theorem dL_law_1367 : decode cL_law 1367 = .ok (.iconst 1, 1) := by decide +kernel
theorem dL_law_1368 : decode cL_law 1368 = .ok (.iadd, 1) := by decide +kernel
theorem dL_law_1369 : decode cL_law 1369 = .ok (.iaload, 1) := by decide +kernel
theorem dL_law_1370 : decode cL_law 1370 = .ok (.invokevirtual 225, 3) := by decide +kernel
theorem dL_law_1373 : decode cL_law 1373 = .ok (.istore 7, 2) := by decide +kernel
theorem dL_law_1375 : decode cL_law 1375 = .ok (.aload_n 2, 1) := by decide +kernel
theorem dL_law_1376 : decode cL_law 1376 = .ok (.invokevirtual 165, 3) := by decide +kernel
theorem dL_law_1379 : decode cL_law 1379 = .ok (.iload 6, 2) := by decide +kernel
theorem dL_law_1381 : decode cL_law 1381 = .ok (.if_icmp .eq 5, 3) := by decide +kernel
theorem dL_law_1386 : decode cL_law 1386 = .ok (.iload 6, 2) := by decide +kernel
theorem dL_law_1388 : decode cL_law 1388 = .ok (.ifCond .ne 15, 3) := by decide +kernel
theorem dL_law_1403 : decode cL_law 1403 = .ok (.goto 1596, 3) := by decide +kernel
set_option maxHeartbeats 4000000 in
set_option maxRecDepth 100000 in
theorem zl_17 {p : Program} {e : Env} {s : State} {m : MethodId} {below : List Frame} {meth : Method} {c : Code} {Q : State → Prop} {args : Array Value} (l : Launch) (hnt : l.stackTraces = false) (D : va_G) (G : Nat × Nat × Nat) (xo : Nat) (xg : Nat) (xp : Nat) (xq : Nat) (r1 : Nat) (r2 : Nat) (r3 : Nat) (r4 : Nat) (se : Nat) (n1 : Nat) (n2 : Nat) (n3 : Nat) (mo : Nat) (gl : Nat) (po : Nat) (pi : Nat) (bu : Nat) (pa : Nat) (ou : Nat) (od : Nat) (cg : ClassId) (cp : ClassId) (cq : ClassId) (ci : ClassId) (cj : ClassId) (cJ : ClassId) (cD : ClassId) {b L : Nat} {xs : Nat → Int32} {A : Nat → Prop} {H : Heap} {locs : List Loc} {ls : Array Slot} (hx : p.tables.exec = Jvm.exec) (hb : c.code = code) (hml : c.maxLocals = 9) (hown : s.vm.findClass RL = some m.cls) (hts : ∀ w ∈ wzL_law, w.before args s = true) (hT : FT G s) (hA : ∀ q : Nat, s.heap.size ≤ q → A q) (hZ : FZ G A s s.heap) (hX : va_X b L xs s s.heap) (hbl : b < s.heap.size) (hbA : ¬ A b) (hL : L = 5) (hK : va_K D vwCl [(cg, .object "Gatherhouse$Glass"), (cp, .object "Gatherhouse$Pot"), (cq, .object "Gatherhouse$Piece"), (ci, .int), (cj, .int), (cJ, .long), (cD, .double)] s) (hP : va_P D vwCl [(xo, .inr (11, [.ref xg, .int 0, .ref xp, .int 0, .ref xq, .int 0, .ref r1, .ref r2, .ref r3, .ref r4, .ref se, .int 0, .int 0, .int 40, .int 0, .int 0])), (xg, .inl (cg, 6, .inr (.inr (.inr (.inr (fun _ => none)))))), (xp, .inl (cp, 4, .inr (.inr (.inr (.inr (fun _ => none)))))), (xq, .inl (cq, 16, .inr (.inr (.inr (.inr (fun _ => none)))))), (r1, .inr (9, [.int 0, .int 0])), (r2, .inr (9, [.int 0, .int 0])), (r3, .inr (9, [.int 0, .int 0])), (r4, .inr (9, [.int 0, .int 0])), (se, .inr (10, [.ref n1, .ref n2, .ref n3, .int 0, .int 0, .int 0, .int 0])), (mo, .inr (16, [.int 0, .ref gl, .ref po, .ref pi, .ref bu, .ref pa, .int 0, .int 0, .int 40, .int 0, .null, .int 0, .int 0])), (gl, .inr (4, [.int 0, .ref G.1, .int 0])), (po, .inr (4, [.int 0, .ref G.1, .int 0])), (pi, .inr (4, [.int 0, .ref G.1, .int 0])), (bu, .inl (ci, 4, .inl (fun _ => 0))), (pa, .inl (cj, 4, .inl (fun _ => 0))), (ou, .inl (cJ, 1, .inr (.inl (fun _ => 0)))), (od, .inl (cD, 1, .inr (.inr (.inr (.inl (fun _ => 0))))))] H) (hD : va_D A [(xo, .inr (11, [.ref xg, .int 0, .ref xp, .int 0, .ref xq, .int 0, .ref r1, .ref r2, .ref r3, .ref r4, .ref se, .int 0, .int 0, .int 40, .int 0, .int 0])), (xg, .inl (cg, 6, .inr (.inr (.inr (.inr (fun _ => none)))))), (xp, .inl (cp, 4, .inr (.inr (.inr (.inr (fun _ => none)))))), (xq, .inl (cq, 16, .inr (.inr (.inr (.inr (fun _ => none)))))), (r1, .inr (9, [.int 0, .int 0])), (r2, .inr (9, [.int 0, .int 0])), (r3, .inr (9, [.int 0, .int 0])), (r4, .inr (9, [.int 0, .int 0])), (se, .inr (10, [.ref n1, .ref n2, .ref n3, .int 0, .int 0, .int 0, .int 0])), (mo, .inr (16, [.int 0, .ref gl, .ref po, .ref pi, .ref bu, .ref pa, .int 0, .int 0, .int 40, .int 0, .null, .int 0, .int 0])), (gl, .inr (4, [.int 0, .ref G.1, .int 0])), (po, .inr (4, [.int 0, .ref G.1, .int 0])), (pi, .inr (4, [.int 0, .ref G.1, .int 0])), (bu, .inl (ci, 4, .inl (fun _ => 0))), (pa, .inl (cj, 4, .inl (fun _ => 0))), (ou, .inl (cJ, 1, .inr (.inl (fun _ => 0)))), (od, .inl (cD, 1, .inr (.inr (.inr (.inl (fun _ => 0))))))]) (hS : va_S A s.heap H locs) (hl : lv_has ls 9 [(5, .int 0), (4, .ref od), (3, .ref ou), (2, .ref mo), (1, .ref xo), (0, .ref b)]) (hE : ∀ (H : Heap) (locs : List Loc) (ls : Array Slot), va_S A s.heap H locs → lv_has ls 9 [(0, .ref b), (5, .int 0)] → W p l e room_1 s m args below meth c H locs 797152 6710780 Q (F0 m 2999 ls [])) : W p l e room_1 s m args below meth c H locs 60 300 Q (F0 m 1350 ls []) := by
  have hP := hP.sub (ws' := [(xo, .inr (11, [.ref xg, .int 0, .ref xp, .int 0, .ref xq, .int 0, .ref r1, .ref r2, .ref r3, .ref r4, .ref se, .int 0, .int 0, .int 40, .int 0, .int 0])), (xq, .inl (cq, 16, .inr (.inr (.inr (.inr (fun _ => none)))))), (mo, .inr (16, [.int 0, .ref gl, .ref po, .ref pi, .ref bu, .ref pa, .int 0, .int 0, .int 40, .int 0, .null, .int 0, .int 0])), (pi, .inr (4, [.int 0, .ref G.1, .int 0])), (ou, .inl (cJ, 1, .inr (.inl (fun _ => 0))))]) [0, 3, 9, 12, 15] rfl
  have hD := hD.sub (ws' := [(xo, .inr (11, [.ref xg, .int 0, .ref xp, .int 0, .ref xq, .int 0, .ref r1, .ref r2, .ref r3, .ref r4, .ref se, .int 0, .int 0, .int 40, .int 0, .int 0])), (xq, .inl (cq, 16, .inr (.inr (.inr (.inr (fun _ => none)))))), (mo, .inr (16, [.int 0, .ref gl, .ref po, .ref pi, .ref bu, .ref pa, .int 0, .int 0, .int 40, .int 0, .null, .int 0, .int 0])), (pi, .inr (4, [.int 0, .ref G.1, .int 0])), (ou, .inl (cJ, 1, .inr (.inl (fun _ => 0))))]) [0, 3, 9, 12, 15] (by decide) rfl
  have hK := hK.sub (tys' := [(cq, .object "Gatherhouse$Piece"), (cJ, .long)]) [2, 5] rfl
  refine lv_aload_n hx hb dL_law_1350 rfl (lv_at hl 4 rfl) ?_
  refine lv_aload_n hx hb dL_law_1351 rfl (lv_at hl 5 rfl) ?_
  refine lv_iload hx hb dL_law_1352 (lv_at hl 0 rfl) ?_
  refine lv_iconst (v := 1) hx hb dL_law_1354 (by decide) ?_
  refine lv_iadd hx hb dL_law_1355 ?_
  refine lv_topi (fun y_1061 ey_1061 => ?_)
  have ey_1061 : y_1061 = 1 := ey_1061.trans (by decide +kernel)
  subst ey_1061
  refine va_sld hx hb hX hbl hbA hS (vp_in_iff.mpr (by rw [hL]; decide +kernel)) dL_law_1356 ?_
  refine lv_aload_n hx hb dL_law_1357 rfl (lv_at hl 2 rfl) ?_
  have hFc := va_free (wc := [(xo, .inr (11, [.ref xg, .int 0, .ref xp, .int 0, .ref xq, .int 0, .ref r1, .ref r2, .ref r3, .ref r4, .ref se, .int 0, .int 0, .int 40, .int 0, .int 0])), (xq, .inl (cq, 16, .inr (.inr (.inr (.inr (fun _ => none)))))), (ou, .inl (cJ, 1, .inr (.inl (fun _ => 0))))]) hD hS hA [0, 1, 4] rfl
  refine vx_calli (vx_runSX (As := [.ref xo, .int (xs (1 : Int32).toNatClampNeg), .ref ou]) (rest := []) ⟨hx, hb, hml, hown, hts⟩ (zc_L_shear l hnt D G xo xg xp xq r1 r2 r3 r4 se 0 0 cq ou cJ (xs (1 : Int32).toNatClampNeg) H.size) (vx_cwSW 3 hts gzL_law_L_shear_223 rfl rfl rfl (by decide +kernel) ⟨(Nat.le_of_ble_eq_true rfl), (Nat.le_of_ble_eq_true rfl)⟩) ⟨p_RW_blind, (p_RW_at (tc := [(cq, .object "Gatherhouse$Piece"), (cJ, .long)]) (wc := [(xo, .inr (11, [.ref xg, .int 0, .ref xp, .int 0, .ref xq, .int 0, .ref r1, .ref r2, .ref r3, .ref r4, .ref se, .int 0, .int 0, .int 40, .int 0, .int 0])), (xq, .inl (cq, 16, .inr (.inr (.inr (.inr (fun _ => none)))))), (ou, .inl (cJ, 1, .inr (.inl (fun _ => 0))))]) hP hK hD hS hA hT hZ [0, 1, 4] [0, 1] rfl rfl (by decide) rfl [.ref xo, .int (xs (1 : Int32).toNatClampNeg), .ref ou])⟩ rfl rfl hl.1 rfl (lv_room (Nat.le_of_ble_eq_true rfl)) dL_law_1358 ⟨(Nat.le_of_ble_eq_true rfl), (Nat.le_of_ble_eq_true rfl)⟩) hS (fun q _ h => hFc q h) hFc (fun q _ h => hFc q h) (fun E ce q9 u t H locs ht hvm hpx hBX hz1 hk1 hS hce hcv hcl => ?_) (fun r_1062 u t H locs ht hvm w_1063 hB hz1 hk1 hS => ?_)
  · exact (show False from hBX).elim
  · obtain ⟨hP, hD, hK⟩ := q_join (D := D) (wc := [(xo, .inr (11, [.ref xg, .int 0, .ref xp, .int 0, .ref xq, .int 0, .ref r1, .ref r2, .ref r3, .ref r4, .ref se, .int 0, .int 0, .int 40, .int 0, .int 0])), (xq, .inl (cq, 16, .inr (.inr (.inr (.inr (fun _ => none)))))), (ou, .inl (cJ, 1, .inr (.inl (fun _ => 0))))]) (wr := [(mo, .inr (16, [.int 0, .ref gl, .ref po, .ref pi, .ref bu, .ref pa, .int 0, .int 0, .int 40, .int 0, .null, .int 0, .int 0])), (pi, .inr (4, [.int 0, .ref G.1, .int 0]))]) (w1 := []) (tyr := [(cq, .object "Gatherhouse$Piece"), (cJ, .long)]) (ty1 := []) hP hD hK [0, 1, 4] [2, 3] [0, 1] rfl rfl (by decide) (by decide) rfl hFc hk1 ht hvm (q_none hK hvm)
    have hP : va_P D vwCl [(mo, .inr (16, [.int 0, .ref gl, .ref po, .ref pi, .ref bu, .ref pa, .int 0, .int 0, .int 40, .int 0, .null, .int 0, .int 0])), (pi, .inr (4, [.int 0, .ref G.1, .int 0]))] H := hP
    have hD : va_D A [(mo, .inr (16, [.int 0, .ref gl, .ref po, .ref pi, .ref bu, .ref pa, .int 0, .int 0, .int 40, .int 0, .null, .int 0, .int 0])), (pi, .inr (4, [.int 0, .ref G.1, .int 0]))] := hD
    have hK : va_K D vwCl [(cq, .object "Gatherhouse$Piece"), (cJ, .long)] s := hK
    refine W.widen (k := 61) (n := 306) (Nat.le_of_ble_eq_true rfl) (Nat.le_of_ble_eq_true rfl) ?_
    obtain rfl := w_1063
    refine lv_istore (lv' := [(6, .int 1), (5, .int 0), (4, .ref od), (3, .ref ou), (2, .ref mo), (1, .ref xo), (0, .ref b)]) hx hb dL_law_1361 hl (by decide) rfl (fun ls hl => ?_)
    refine lv_aload_n hx hb dL_law_1363 rfl (lv_at hl 4 rfl) ?_
    refine lv_aload_n hx hb dL_law_1364 rfl (lv_at hl 6 rfl) ?_
    refine lv_iload hx hb dL_law_1365 (lv_at hl 1 rfl) ?_
    refine lv_iconst (v := 1) hx hb dL_law_1367 (by decide) ?_
    refine lv_iadd hx hb dL_law_1368 ?_
    refine lv_topi (fun y_1064 ey_1064 => ?_)
    have ey_1064 : y_1064 = 1 := ey_1064.trans (by decide +kernel)
    subst ey_1064
    refine va_sld hx hb hX hbl hbA hS (vp_in_iff.mpr (by rw [hL]; decide +kernel)) dL_law_1369 ?_
    have hFc := va_free (wc := [(mo, .inr (16, [.int 0, .ref gl, .ref po, .ref pi, .ref bu, .ref pa, .int 0, .int 0, .int 40, .int 0, .null, .int 0, .int 0])), (pi, .inr (4, [.int 0, .ref G.1, .int 0]))]) hD hS hA [0, 1] rfl
    refine va_calli (va_runV (As := [.int (xs (1 : Int32).toNatClampNeg)]) (rest := []) ⟨hx, hb, hml, hown, hts⟩ (zc_X11_shear l D G mo gl po pi bu pa 0 0 0 (xs (1 : Int32).toNatClampNeg) H.size) (cwV 1 hts gzL_law_X11_shear_225 rfl rfl rfl (by decide +kernel) ⟨(Nat.le_of_ble_eq_true rfl), (Nat.le_of_ble_eq_true rfl)⟩) ⟨p_RW_blind, va_recv hK hP (ci := 16) (q0 := 0) rfl rfl, (p_RW_at (tc := []) (wc := [(mo, .inr (16, [.int 0, .ref gl, .ref po, .ref pi, .ref bu, .ref pa, .int 0, .int 0, .int 40, .int 0, .null, .int 0, .int 0])), (pi, .inr (4, [.int 0, .ref G.1, .int 0]))]) hP hK hD hS hA hT hZ [0, 1] [] rfl rfl (by decide) rfl [.ref mo, .int (xs (1 : Int32).toNatClampNeg)])⟩ rfl rfl hl.1 rfl (lv_room (Nat.le_of_ble_eq_true rfl)) dL_law_1370 ⟨(Nat.le_of_ble_eq_true rfl), (Nat.le_of_ble_eq_true rfl)⟩) hS (fun q _ h => hFc q h) hFc (fun r_1065 u t H locs ht hvm w_1066 hB hz1 hk1 hS => ?_)
    obtain ⟨hP, hD, hK⟩ := q_join (D := D) (wc := [(mo, .inr (16, [.int 0, .ref gl, .ref po, .ref pi, .ref bu, .ref pa, .int 0, .int 0, .int 40, .int 0, .null, .int 0, .int 0])), (pi, .inr (4, [.int 0, .ref G.1, .int 0]))]) (wr := []) (w1 := [(mo, .inr (16, [.int 1, .ref gl, .ref po, .ref pi, .ref bu, .ref pa, .int 0, .int 0, .int 40, .int 0, .null, .int 0, .int 0])), (pi, .inr (4, [.int 0, .ref G.1, .int 0]))]) (tyr := [(cq, .object "Gatherhouse$Piece"), (cJ, .long)]) (ty1 := []) hP hD hK [0, 1] [] [0, 1] rfl rfl (by decide) (by decide) rfl hFc hk1 ht hvm hB
    have hP : va_P D vwCl [(mo, .inr (16, [.int 1, .ref gl, .ref po, .ref pi, .ref bu, .ref pa, .int 0, .int 0, .int 40, .int 0, .null, .int 0, .int 0])), (pi, .inr (4, [.int 0, .ref G.1, .int 0]))] H := hP
    have hD : va_D A [(mo, .inr (16, [.int 1, .ref gl, .ref po, .ref pi, .ref bu, .ref pa, .int 0, .int 0, .int 40, .int 0, .null, .int 0, .int 0])), (pi, .inr (4, [.int 0, .ref G.1, .int 0]))] := hD
    have hK : va_K D vwCl [(cq, .object "Gatherhouse$Piece"), (cJ, .long)] s := hK
    obtain rfl := w_1066
    refine lv_istore (lv' := [(7, .int 0), (6, .int 1), (5, .int 0), (4, .ref od), (3, .ref ou), (2, .ref mo), (1, .ref xo), (0, .ref b)]) hx hb dL_law_1373 hl (by decide) rfl (fun ls hl => ?_)
    refine lv_aload_n hx hb dL_law_1375 rfl (lv_at hl 5 rfl) ?_
    refine vp_callSi (va_runV (As := []) (rest := []) ⟨hx, hb, hml, hown, hts⟩ (zc_X11_thrown l D G mo gl po pi bu pa 1 0 0 40) (cwV 0 hts gzL_law_X11_thrown_165 rfl rfl rfl (by decide +kernel) ⟨(Nat.le_of_ble_eq_true rfl), (Nat.le_of_ble_eq_true rfl)⟩) ⟨p_RO_blind, va_recv hK hP (ci := 16) (q0 := 0) rfl rfl, (p_RO_at (tc := []) (wc := [(mo, .inr (16, [.int 1, .ref gl, .ref po, .ref pi, .ref bu, .ref pa, .int 0, .int 0, .int 40, .int 0, .null, .int 0, .int 0]))]) hP hK hT [0] [] rfl rfl [.ref mo])⟩ rfl rfl hl.1 rfl (lv_room (Nat.le_of_ble_eq_true rfl)) dL_law_1376 ⟨(Nat.le_of_ble_eq_true rfl), (Nat.le_of_ble_eq_true rfl)⟩).run (fun r_1067 w_1068 => ?_)
    obtain rfl := w_1068
    refine lv_iload hx hb dL_law_1379 (lv_at hl 1 rfl) ?_
    refine lv_icmp_eq (tgt := 1386) hx hb dL_law_1381 (by decide) (fun _ => ?_) (fun cc => absurd (by decide) cc)
    refine lv_iload hx hb dL_law_1386 (lv_at hl 1 rfl) ?_
    refine lv_if_ne (tgt := 1403) hx hb dL_law_1388 (by decide) (fun _ => ?_) (fun cc => absurd cc (by decide))
    refine lv_goto (tgt := 2999) hx hb dL_law_1403 (by decide) ?_
    refine W.widen (k := 797152) (n := 6710780) (Nat.le_of_ble_eq_true rfl) (Nat.le_of_ble_eq_true rfl) ?_
    exact hE _ _ _ hS (lv_sub hl [7, 2] rfl)
theorem dL_law_1406 : decode cL_law 1406 = .ok (.aload_n 1, 1) := by decide +kernel
theorem dL_law_1407 : decode cL_law 1407 = .ok (.aload_n 0, 1) := by decide +kernel
theorem dL_law_1408 : decode cL_law 1408 = .ok (.iload 5, 2) := by decide +kernel
theorem dL_law_1410 : decode cL_law 1410 = .ok (.iconst 1, 1) := by decide +kernel
theorem dL_law_1411 : decode cL_law 1411 = .ok (.iadd, 1) := by decide +kernel
theorem dL_law_1412 : decode cL_law 1412 = .ok (.iaload, 1) := by decide +kernel
theorem dL_law_1413 : decode cL_law 1413 = .ok (.aload_n 0, 1) := by decide +kernel
theorem dL_law_1414 : decode cL_law 1414 = .ok (.iload 5, 2) := by decide +kernel
theorem dL_law_1416 : decode cL_law 1416 = .ok (.iconst 2, 1) := by decide +kernel
theorem dL_law_1417 : decode cL_law 1417 = .ok (.iadd, 1) := by decide +kernel
theorem dL_law_1418 : decode cL_law 1418 = .ok (.iaload, 1) := by decide +kernel
theorem dL_law_1419 : decode cL_law 1419 = .ok (.aload_n 0, 1) := by decide +kernel
theorem dL_law_1420 : decode cL_law 1420 = .ok (.iload 5, 2) := by decide +kernel
theorem dL_law_1422 : decode cL_law 1422 = .ok (.iconst 3, 1) := by decide +kernel
theorem dL_law_1423 : decode cL_law 1423 = .ok (.iadd, 1) := by decide +kernel
theorem dL_law_1424 : decode cL_law 1424 = .ok (.iaload, 1) := by decide +kernel
theorem dL_law_1425 : decode cL_law 1425 = .ok (.aload_n 3, 1) := by decide +kernel
theorem dL_law_1426 : decode cL_law 1426 = .ok (.invokestatic 226, 3) := by decide +kernel
theorem dL_law_1429 : decode cL_law 1429 = .ok (.istore 6, 2) := by decide +kernel
theorem dL_law_1431 : decode cL_law 1431 = .ok (.aload_n 2, 1) := by decide +kernel
theorem dL_law_1432 : decode cL_law 1432 = .ok (.aload_n 0, 1) := by decide +kernel
theorem dL_law_1433 : decode cL_law 1433 = .ok (.iload 5, 2) := by decide +kernel
theorem dL_law_1435 : decode cL_law 1435 = .ok (.iconst 1, 1) := by decide +kernel
theorem dL_law_1436 : decode cL_law 1436 = .ok (.iadd, 1) := by decide +kernel
theorem dL_law_1437 : decode cL_law 1437 = .ok (.iaload, 1) := by decide +kernel
theorem dL_law_1438 : decode cL_law 1438 = .ok (.aload_n 0, 1) := by decide +kernel
theorem dL_law_1439 : decode cL_law 1439 = .ok (.iload 5, 2) := by decide +kernel
theorem dL_law_1441 : decode cL_law 1441 = .ok (.iconst 2, 1) := by decide +kernel
theorem dL_law_1442 : decode cL_law 1442 = .ok (.iadd, 1) := by decide +kernel
theorem dL_law_1443 : decode cL_law 1443 = .ok (.iaload, 1) := by decide +kernel
theorem dL_law_1444 : decode cL_law 1444 = .ok (.aload_n 0, 1) := by decide +kernel
theorem dL_law_1445 : decode cL_law 1445 = .ok (.iload 5, 2) := by decide +kernel
theorem dL_law_1447 : decode cL_law 1447 = .ok (.iconst 3, 1) := by decide +kernel
theorem dL_law_1448 : decode cL_law 1448 = .ok (.iadd, 1) := by decide +kernel
theorem dL_law_1449 : decode cL_law 1449 = .ok (.iaload, 1) := by decide +kernel
theorem dL_law_1450 : decode cL_law 1450 = .ok (.invokevirtual 228, 3) := by decide +kernel
theorem dL_law_1453 : decode cL_law 1453 = .ok (.istore 7, 2) := by decide +kernel
theorem dL_law_1455 : decode cL_law 1455 = .ok (.aload_n 2, 1) := by decide +kernel
theorem dL_law_1456 : decode cL_law 1456 = .ok (.invokevirtual 165, 3) := by decide +kernel
theorem dL_law_1459 : decode cL_law 1459 = .ok (.iload 6, 2) := by decide +kernel
theorem dL_law_1461 : decode cL_law 1461 = .ok (.if_icmp .eq 5, 3) := by decide +kernel
theorem dL_law_1466 : decode cL_law 1466 = .ok (.iload 6, 2) := by decide +kernel
theorem dL_law_1468 : decode cL_law 1468 = .ok (.ifCond .ne 15, 3) := by decide +kernel
theorem dL_law_1483 : decode cL_law 1483 = .ok (.goto 1516, 3) := by decide +kernel
set_option maxHeartbeats 4000000 in
set_option maxRecDepth 100000 in
theorem zl_18 {p : Program} {e : Env} {s : State} {m : MethodId} {below : List Frame} {meth : Method} {c : Code} {Q : State → Prop} {args : Array Value} (l : Launch) (hnt : l.stackTraces = false) (D : va_G) (G : Nat × Nat × Nat) (xo : Nat) (xg : Nat) (xp : Nat) (xq : Nat) (r1 : Nat) (r2 : Nat) (r3 : Nat) (r4 : Nat) (se : Nat) (n1 : Nat) (n2 : Nat) (n3 : Nat) (mo : Nat) (gl : Nat) (po : Nat) (pi : Nat) (bu : Nat) (pa : Nat) (ou : Nat) (od : Nat) (cg : ClassId) (cp : ClassId) (cq : ClassId) (ci : ClassId) (cj : ClassId) (cJ : ClassId) (cD : ClassId) {b L : Nat} {xs : Nat → Int32} {A : Nat → Prop} {H : Heap} {locs : List Loc} {ls : Array Slot} (hx : p.tables.exec = Jvm.exec) (hb : c.code = code) (hml : c.maxLocals = 9) (hown : s.vm.findClass RL = some m.cls) (hts : ∀ w ∈ wzL_law, w.before args s = true) (hT : FT G s) (hA : ∀ q : Nat, s.heap.size ≤ q → A q) (hZ : FZ G A s s.heap) (hX : va_X b L xs s s.heap) (hbl : b < s.heap.size) (hbA : ¬ A b) (hL : L = 5) (hK : va_K D vwCl [(cg, .object "Gatherhouse$Glass"), (cp, .object "Gatherhouse$Pot"), (cq, .object "Gatherhouse$Piece"), (ci, .int), (cj, .int), (cJ, .long), (cD, .double)] s) (hP : va_P D vwCl [(xo, .inr (11, [.ref xg, .int 0, .ref xp, .int 0, .ref xq, .int 0, .ref r1, .ref r2, .ref r3, .ref r4, .ref se, .int 0, .int 0, .int 40, .int 0, .int 0])), (xg, .inl (cg, 6, .inr (.inr (.inr (.inr (fun _ => none)))))), (xp, .inl (cp, 4, .inr (.inr (.inr (.inr (fun _ => none)))))), (xq, .inl (cq, 16, .inr (.inr (.inr (.inr (fun _ => none)))))), (r1, .inr (9, [.int 0, .int 0])), (r2, .inr (9, [.int 0, .int 0])), (r3, .inr (9, [.int 0, .int 0])), (r4, .inr (9, [.int 0, .int 0])), (se, .inr (10, [.ref n1, .ref n2, .ref n3, .int 0, .int 0, .int 0, .int 0])), (mo, .inr (16, [.int 0, .ref gl, .ref po, .ref pi, .ref bu, .ref pa, .int 0, .int 0, .int 40, .int 0, .null, .int 0, .int 0])), (gl, .inr (4, [.int 0, .ref G.1, .int 0])), (po, .inr (4, [.int 0, .ref G.1, .int 0])), (pi, .inr (4, [.int 0, .ref G.1, .int 0])), (bu, .inl (ci, 4, .inl (fun _ => 0))), (pa, .inl (cj, 4, .inl (fun _ => 0))), (ou, .inl (cJ, 1, .inr (.inl (fun _ => 0)))), (od, .inl (cD, 1, .inr (.inr (.inr (.inl (fun _ => 0))))))] H) (hD : va_D A [(xo, .inr (11, [.ref xg, .int 0, .ref xp, .int 0, .ref xq, .int 0, .ref r1, .ref r2, .ref r3, .ref r4, .ref se, .int 0, .int 0, .int 40, .int 0, .int 0])), (xg, .inl (cg, 6, .inr (.inr (.inr (.inr (fun _ => none)))))), (xp, .inl (cp, 4, .inr (.inr (.inr (.inr (fun _ => none)))))), (xq, .inl (cq, 16, .inr (.inr (.inr (.inr (fun _ => none)))))), (r1, .inr (9, [.int 0, .int 0])), (r2, .inr (9, [.int 0, .int 0])), (r3, .inr (9, [.int 0, .int 0])), (r4, .inr (9, [.int 0, .int 0])), (se, .inr (10, [.ref n1, .ref n2, .ref n3, .int 0, .int 0, .int 0, .int 0])), (mo, .inr (16, [.int 0, .ref gl, .ref po, .ref pi, .ref bu, .ref pa, .int 0, .int 0, .int 40, .int 0, .null, .int 0, .int 0])), (gl, .inr (4, [.int 0, .ref G.1, .int 0])), (po, .inr (4, [.int 0, .ref G.1, .int 0])), (pi, .inr (4, [.int 0, .ref G.1, .int 0])), (bu, .inl (ci, 4, .inl (fun _ => 0))), (pa, .inl (cj, 4, .inl (fun _ => 0))), (ou, .inl (cJ, 1, .inr (.inl (fun _ => 0)))), (od, .inl (cD, 1, .inr (.inr (.inr (.inl (fun _ => 0))))))]) (hS : va_S A s.heap H locs) (hl : lv_has ls 9 [(5, .int 0), (4, .ref od), (3, .ref ou), (2, .ref mo), (1, .ref xo), (0, .ref b)]) (hE : ∀ (H : Heap) (locs : List Loc) (ls : Array Slot), va_S A s.heap H locs → lv_has ls 9 [(0, .ref b), (5, .int 0)] → W p l e room_1 s m args below meth c H locs 797152 6710780 Q (F0 m 2999 ls [])) : W p l e room_1 s m args below meth c H locs 60 300 Q (F0 m 1406 ls []) := by
  have hP := hP.sub (ws' := [(xo, .inr (11, [.ref xg, .int 0, .ref xp, .int 0, .ref xq, .int 0, .ref r1, .ref r2, .ref r3, .ref r4, .ref se, .int 0, .int 0, .int 40, .int 0, .int 0])), (xq, .inl (cq, 16, .inr (.inr (.inr (.inr (fun _ => none)))))), (mo, .inr (16, [.int 0, .ref gl, .ref po, .ref pi, .ref bu, .ref pa, .int 0, .int 0, .int 40, .int 0, .null, .int 0, .int 0])), (po, .inr (4, [.int 0, .ref G.1, .int 0])), (pi, .inr (4, [.int 0, .ref G.1, .int 0])), (ou, .inl (cJ, 1, .inr (.inl (fun _ => 0))))]) [0, 3, 9, 11, 12, 15] rfl
  have hD := hD.sub (ws' := [(xo, .inr (11, [.ref xg, .int 0, .ref xp, .int 0, .ref xq, .int 0, .ref r1, .ref r2, .ref r3, .ref r4, .ref se, .int 0, .int 0, .int 40, .int 0, .int 0])), (xq, .inl (cq, 16, .inr (.inr (.inr (.inr (fun _ => none)))))), (mo, .inr (16, [.int 0, .ref gl, .ref po, .ref pi, .ref bu, .ref pa, .int 0, .int 0, .int 40, .int 0, .null, .int 0, .int 0])), (po, .inr (4, [.int 0, .ref G.1, .int 0])), (pi, .inr (4, [.int 0, .ref G.1, .int 0])), (ou, .inl (cJ, 1, .inr (.inl (fun _ => 0))))]) [0, 3, 9, 11, 12, 15] (by decide) rfl
  have hK := hK.sub (tys' := [(cq, .object "Gatherhouse$Piece"), (cJ, .long)]) [2, 5] rfl
  refine lv_aload_n hx hb dL_law_1406 rfl (lv_at hl 4 rfl) ?_
  refine lv_aload_n hx hb dL_law_1407 rfl (lv_at hl 5 rfl) ?_
  refine lv_iload hx hb dL_law_1408 (lv_at hl 0 rfl) ?_
  refine lv_iconst (v := 1) hx hb dL_law_1410 (by decide) ?_
  refine lv_iadd hx hb dL_law_1411 ?_
  refine lv_topi (fun y_1069 ey_1069 => ?_)
  have ey_1069 : y_1069 = 1 := ey_1069.trans (by decide +kernel)
  subst ey_1069
  refine va_sld hx hb hX hbl hbA hS (vp_in_iff.mpr (by rw [hL]; decide +kernel)) dL_law_1412 ?_
  refine lv_aload_n hx hb dL_law_1413 rfl (lv_at hl 5 rfl) ?_
  refine lv_iload hx hb dL_law_1414 (lv_at hl 0 rfl) ?_
  refine lv_iconst (v := 2) hx hb dL_law_1416 (by decide) ?_
  refine lv_iadd hx hb dL_law_1417 ?_
  refine lv_topi (fun y_1070 ey_1070 => ?_)
  have ey_1070 : y_1070 = 2 := ey_1070.trans (by decide +kernel)
  subst ey_1070
  refine va_sld hx hb hX hbl hbA hS (vp_in_iff.mpr (by rw [hL]; decide +kernel)) dL_law_1418 ?_
  refine lv_aload_n hx hb dL_law_1419 rfl (lv_at hl 5 rfl) ?_
  refine lv_iload hx hb dL_law_1420 (lv_at hl 0 rfl) ?_
  refine lv_iconst (v := 3) hx hb dL_law_1422 (by decide) ?_
  refine lv_iadd hx hb dL_law_1423 ?_
  refine lv_topi (fun y_1071 ey_1071 => ?_)
  have ey_1071 : y_1071 = 3 := ey_1071.trans (by decide +kernel)
  subst ey_1071
  refine va_sld hx hb hX hbl hbA hS (vp_in_iff.mpr (by rw [hL]; decide +kernel)) dL_law_1424 ?_
  refine lv_aload_n hx hb dL_law_1425 rfl (lv_at hl 2 rfl) ?_
  have hFc := va_free (wc := [(xo, .inr (11, [.ref xg, .int 0, .ref xp, .int 0, .ref xq, .int 0, .ref r1, .ref r2, .ref r3, .ref r4, .ref se, .int 0, .int 0, .int 40, .int 0, .int 0])), (xq, .inl (cq, 16, .inr (.inr (.inr (.inr (fun _ => none)))))), (ou, .inl (cJ, 1, .inr (.inl (fun _ => 0))))]) hD hS hA [0, 1, 5] rfl
  refine vx_calli (vx_runSX (As := [.ref xo, .int (xs (1 : Int32).toNatClampNeg), .int (xs (2 : Int32).toNatClampNeg), .int (xs (3 : Int32).toNatClampNeg), .ref ou]) (rest := []) ⟨hx, hb, hml, hown, hts⟩ (zc_L_lay l hnt D G xo xg xp xq r1 r2 r3 r4 se 0 0 cq ou cJ (xs (1 : Int32).toNatClampNeg) (xs (2 : Int32).toNatClampNeg) (xs (3 : Int32).toNatClampNeg) H.size) (vx_cwSW 5 hts gzL_law_L_lay_226 rfl rfl rfl (by decide +kernel) ⟨(Nat.le_of_ble_eq_true rfl), (Nat.le_of_ble_eq_true rfl)⟩) ⟨p_RW_blind, (p_RW_at (tc := [(cq, .object "Gatherhouse$Piece"), (cJ, .long)]) (wc := [(xo, .inr (11, [.ref xg, .int 0, .ref xp, .int 0, .ref xq, .int 0, .ref r1, .ref r2, .ref r3, .ref r4, .ref se, .int 0, .int 0, .int 40, .int 0, .int 0])), (xq, .inl (cq, 16, .inr (.inr (.inr (.inr (fun _ => none)))))), (ou, .inl (cJ, 1, .inr (.inl (fun _ => 0))))]) hP hK hD hS hA hT hZ [0, 1, 5] [0, 1] rfl rfl (by decide) rfl [.ref xo, .int (xs (1 : Int32).toNatClampNeg), .int (xs (2 : Int32).toNatClampNeg), .int (xs (3 : Int32).toNatClampNeg), .ref ou])⟩ rfl rfl hl.1 rfl (lv_room (Nat.le_of_ble_eq_true rfl)) dL_law_1426 ⟨(Nat.le_of_ble_eq_true rfl), (Nat.le_of_ble_eq_true rfl)⟩) hS (fun q _ h => hFc q h) hFc (fun q _ h => hFc q h) (fun E ce q9 u t H locs ht hvm hpx hBX hz1 hk1 hS hce hcv hcl => ?_) (fun r_1072 u t H locs ht hvm w_1073 hB hz1 hk1 hS => ?_)
  · exact (show False from hBX).elim
  · obtain ⟨hP, hD, hK⟩ := q_join (D := D) (wc := [(xo, .inr (11, [.ref xg, .int 0, .ref xp, .int 0, .ref xq, .int 0, .ref r1, .ref r2, .ref r3, .ref r4, .ref se, .int 0, .int 0, .int 40, .int 0, .int 0])), (xq, .inl (cq, 16, .inr (.inr (.inr (.inr (fun _ => none)))))), (ou, .inl (cJ, 1, .inr (.inl (fun _ => 0))))]) (wr := [(mo, .inr (16, [.int 0, .ref gl, .ref po, .ref pi, .ref bu, .ref pa, .int 0, .int 0, .int 40, .int 0, .null, .int 0, .int 0])), (po, .inr (4, [.int 0, .ref G.1, .int 0])), (pi, .inr (4, [.int 0, .ref G.1, .int 0]))]) (w1 := []) (tyr := [(cq, .object "Gatherhouse$Piece"), (cJ, .long)]) (ty1 := []) hP hD hK [0, 1, 5] [2, 3, 4] [0, 1] rfl rfl (by decide) (by decide) rfl hFc hk1 ht hvm (q_none hK hvm)
    have hP : va_P D vwCl [(mo, .inr (16, [.int 0, .ref gl, .ref po, .ref pi, .ref bu, .ref pa, .int 0, .int 0, .int 40, .int 0, .null, .int 0, .int 0])), (po, .inr (4, [.int 0, .ref G.1, .int 0])), (pi, .inr (4, [.int 0, .ref G.1, .int 0]))] H := hP
    have hD : va_D A [(mo, .inr (16, [.int 0, .ref gl, .ref po, .ref pi, .ref bu, .ref pa, .int 0, .int 0, .int 40, .int 0, .null, .int 0, .int 0])), (po, .inr (4, [.int 0, .ref G.1, .int 0])), (pi, .inr (4, [.int 0, .ref G.1, .int 0]))] := hD
    have hK : va_K D vwCl [(cq, .object "Gatherhouse$Piece"), (cJ, .long)] s := hK
    refine W.widen (k := 61) (n := 306) (Nat.le_of_ble_eq_true rfl) (Nat.le_of_ble_eq_true rfl) ?_
    obtain rfl := w_1073
    refine lv_istore (lv' := [(6, .int 1), (5, .int 0), (4, .ref od), (3, .ref ou), (2, .ref mo), (1, .ref xo), (0, .ref b)]) hx hb dL_law_1429 hl (by decide) rfl (fun ls hl => ?_)
    refine lv_aload_n hx hb dL_law_1431 rfl (lv_at hl 4 rfl) ?_
    refine lv_aload_n hx hb dL_law_1432 rfl (lv_at hl 6 rfl) ?_
    refine lv_iload hx hb dL_law_1433 (lv_at hl 1 rfl) ?_
    refine lv_iconst (v := 1) hx hb dL_law_1435 (by decide) ?_
    refine lv_iadd hx hb dL_law_1436 ?_
    refine lv_topi (fun y_1074 ey_1074 => ?_)
    have ey_1074 : y_1074 = 1 := ey_1074.trans (by decide +kernel)
    subst ey_1074
    refine va_sld hx hb hX hbl hbA hS (vp_in_iff.mpr (by rw [hL]; decide +kernel)) dL_law_1437 ?_
    refine lv_aload_n hx hb dL_law_1438 rfl (lv_at hl 6 rfl) ?_
    refine lv_iload hx hb dL_law_1439 (lv_at hl 1 rfl) ?_
    refine lv_iconst (v := 2) hx hb dL_law_1441 (by decide) ?_
    refine lv_iadd hx hb dL_law_1442 ?_
    refine lv_topi (fun y_1075 ey_1075 => ?_)
    have ey_1075 : y_1075 = 2 := ey_1075.trans (by decide +kernel)
    subst ey_1075
    refine va_sld hx hb hX hbl hbA hS (vp_in_iff.mpr (by rw [hL]; decide +kernel)) dL_law_1443 ?_
    refine lv_aload_n hx hb dL_law_1444 rfl (lv_at hl 6 rfl) ?_
    refine lv_iload hx hb dL_law_1445 (lv_at hl 1 rfl) ?_
    refine lv_iconst (v := 3) hx hb dL_law_1447 (by decide) ?_
    refine lv_iadd hx hb dL_law_1448 ?_
    refine lv_topi (fun y_1076 ey_1076 => ?_)
    have ey_1076 : y_1076 = 3 := ey_1076.trans (by decide +kernel)
    subst ey_1076
    refine va_sld hx hb hX hbl hbA hS (vp_in_iff.mpr (by rw [hL]; decide +kernel)) dL_law_1449 ?_
    have hFc := va_free (wc := [(mo, .inr (16, [.int 0, .ref gl, .ref po, .ref pi, .ref bu, .ref pa, .int 0, .int 0, .int 40, .int 0, .null, .int 0, .int 0])), (pi, .inr (4, [.int 0, .ref G.1, .int 0])), (po, .inr (4, [.int 0, .ref G.1, .int 0]))]) hD hS hA [0, 2, 1] rfl
    refine va_calli (va_runV (As := [.int (xs (1 : Int32).toNatClampNeg), .int (xs (2 : Int32).toNatClampNeg), .int (xs (3 : Int32).toNatClampNeg)]) (rest := []) ⟨hx, hb, hml, hown, hts⟩ (zc_X11_lay l D G mo gl po pi bu pa 0 0 0 (xs (1 : Int32).toNatClampNeg) (xs (2 : Int32).toNatClampNeg) (xs (3 : Int32).toNatClampNeg) H.size) (cwV 3 hts gzL_law_X11_lay_228 rfl rfl rfl (by decide +kernel) ⟨(Nat.le_of_ble_eq_true rfl), (Nat.le_of_ble_eq_true rfl)⟩) ⟨p_RW_blind, va_recv hK hP (ci := 16) (q0 := 0) rfl rfl, (p_RW_at (tc := []) (wc := [(mo, .inr (16, [.int 0, .ref gl, .ref po, .ref pi, .ref bu, .ref pa, .int 0, .int 0, .int 40, .int 0, .null, .int 0, .int 0])), (pi, .inr (4, [.int 0, .ref G.1, .int 0])), (po, .inr (4, [.int 0, .ref G.1, .int 0]))]) hP hK hD hS hA hT hZ [0, 2, 1] [] rfl rfl (by decide) rfl [.ref mo, .int (xs (1 : Int32).toNatClampNeg), .int (xs (2 : Int32).toNatClampNeg), .int (xs (3 : Int32).toNatClampNeg)])⟩ rfl rfl hl.1 rfl (lv_room (Nat.le_of_ble_eq_true rfl)) dL_law_1450 ⟨(Nat.le_of_ble_eq_true rfl), (Nat.le_of_ble_eq_true rfl)⟩) hS (fun q _ h => hFc q h) hFc (fun r_1077 u t H locs ht hvm w_1078 hB hz1 hk1 hS => ?_)
    obtain ⟨hP, hD, hK⟩ := q_join (D := D) (wc := [(mo, .inr (16, [.int 0, .ref gl, .ref po, .ref pi, .ref bu, .ref pa, .int 0, .int 0, .int 40, .int 0, .null, .int 0, .int 0])), (pi, .inr (4, [.int 0, .ref G.1, .int 0])), (po, .inr (4, [.int 0, .ref G.1, .int 0]))]) (wr := []) (w1 := [(mo, .inr (16, [.int 1, .ref gl, .ref po, .ref pi, .ref bu, .ref pa, .int 0, .int 0, .int 40, .int 0, .null, .int 0, .int 0])), (pi, .inr (4, [.int 0, .ref G.1, .int 0])), (po, .inr (4, [.int 0, .ref G.1, .int 0]))]) (tyr := [(cq, .object "Gatherhouse$Piece"), (cJ, .long)]) (ty1 := []) hP hD hK [0, 2, 1] [] [0, 1] rfl rfl (by decide) (by decide) rfl hFc hk1 ht hvm hB
    have hP : va_P D vwCl [(mo, .inr (16, [.int 1, .ref gl, .ref po, .ref pi, .ref bu, .ref pa, .int 0, .int 0, .int 40, .int 0, .null, .int 0, .int 0])), (pi, .inr (4, [.int 0, .ref G.1, .int 0])), (po, .inr (4, [.int 0, .ref G.1, .int 0]))] H := hP
    have hD : va_D A [(mo, .inr (16, [.int 1, .ref gl, .ref po, .ref pi, .ref bu, .ref pa, .int 0, .int 0, .int 40, .int 0, .null, .int 0, .int 0])), (pi, .inr (4, [.int 0, .ref G.1, .int 0])), (po, .inr (4, [.int 0, .ref G.1, .int 0]))] := hD
    have hK : va_K D vwCl [(cq, .object "Gatherhouse$Piece"), (cJ, .long)] s := hK
    obtain rfl := w_1078
    refine lv_istore (lv' := [(7, .int 0), (6, .int 1), (5, .int 0), (4, .ref od), (3, .ref ou), (2, .ref mo), (1, .ref xo), (0, .ref b)]) hx hb dL_law_1453 hl (by decide) rfl (fun ls hl => ?_)
    refine lv_aload_n hx hb dL_law_1455 rfl (lv_at hl 5 rfl) ?_
    refine vp_callSi (va_runV (As := []) (rest := []) ⟨hx, hb, hml, hown, hts⟩ (zc_X11_thrown l D G mo gl po pi bu pa 1 0 0 40) (cwV 0 hts gzL_law_X11_thrown_165 rfl rfl rfl (by decide +kernel) ⟨(Nat.le_of_ble_eq_true rfl), (Nat.le_of_ble_eq_true rfl)⟩) ⟨p_RO_blind, va_recv hK hP (ci := 16) (q0 := 0) rfl rfl, (p_RO_at (tc := []) (wc := [(mo, .inr (16, [.int 1, .ref gl, .ref po, .ref pi, .ref bu, .ref pa, .int 0, .int 0, .int 40, .int 0, .null, .int 0, .int 0]))]) hP hK hT [0] [] rfl rfl [.ref mo])⟩ rfl rfl hl.1 rfl (lv_room (Nat.le_of_ble_eq_true rfl)) dL_law_1456 ⟨(Nat.le_of_ble_eq_true rfl), (Nat.le_of_ble_eq_true rfl)⟩).run (fun r_1079 w_1080 => ?_)
    obtain rfl := w_1080
    refine lv_iload hx hb dL_law_1459 (lv_at hl 1 rfl) ?_
    refine lv_icmp_eq (tgt := 1466) hx hb dL_law_1461 (by decide) (fun _ => ?_) (fun cc => absurd (by decide) cc)
    refine lv_iload hx hb dL_law_1466 (lv_at hl 1 rfl) ?_
    refine lv_if_ne (tgt := 1483) hx hb dL_law_1468 (by decide) (fun _ => ?_) (fun cc => absurd cc (by decide))
    refine lv_goto (tgt := 2999) hx hb dL_law_1483 (by decide) ?_
    refine W.widen (k := 797152) (n := 6710780) (Nat.le_of_ble_eq_true rfl) (Nat.le_of_ble_eq_true rfl) ?_
    exact hE _ _ _ hS (lv_sub hl [7, 2] rfl)
theorem dL_law_1486 : decode cL_law 1486 = .ok (.aload_n 1, 1) := by decide +kernel
theorem dL_law_1487 : decode cL_law 1487 = .ok (.aload_n 0, 1) := by decide +kernel
theorem dL_law_1488 : decode cL_law 1488 = .ok (.iload 5, 2) := by decide +kernel
theorem dL_law_1490 : decode cL_law 1490 = .ok (.iconst 1, 1) := by decide +kernel
theorem dL_law_1491 : decode cL_law 1491 = .ok (.iadd, 1) := by decide +kernel
theorem dL_law_1492 : decode cL_law 1492 = .ok (.iaload, 1) := by decide +kernel
theorem dL_law_1493 : decode cL_law 1493 = .ok (.aload_n 0, 1) := by decide +kernel
theorem dL_law_1494 : decode cL_law 1494 = .ok (.iload 5, 2) := by decide +kernel
theorem dL_law_1496 : decode cL_law 1496 = .ok (.iconst 2, 1) := by decide +kernel
theorem dL_law_1497 : decode cL_law 1497 = .ok (.iadd, 1) := by decide +kernel
theorem dL_law_1498 : decode cL_law 1498 = .ok (.iaload, 1) := by decide +kernel
theorem dL_law_1499 : decode cL_law 1499 = .ok (.aload_n 3, 1) := by decide +kernel
theorem dL_law_1500 : decode cL_law 1500 = .ok (.invokestatic 229, 3) := by decide +kernel
theorem dL_law_1503 : decode cL_law 1503 = .ok (.istore 6, 2) := by decide +kernel
theorem dL_law_1505 : decode cL_law 1505 = .ok (.aload_n 2, 1) := by decide +kernel
theorem dL_law_1506 : decode cL_law 1506 = .ok (.aload_n 0, 1) := by decide +kernel
theorem dL_law_1507 : decode cL_law 1507 = .ok (.iload 5, 2) := by decide +kernel
theorem dL_law_1509 : decode cL_law 1509 = .ok (.iconst 1, 1) := by decide +kernel
theorem dL_law_1510 : decode cL_law 1510 = .ok (.iadd, 1) := by decide +kernel
theorem dL_law_1511 : decode cL_law 1511 = .ok (.iaload, 1) := by decide +kernel
theorem dL_law_1512 : decode cL_law 1512 = .ok (.aload_n 0, 1) := by decide +kernel
theorem dL_law_1513 : decode cL_law 1513 = .ok (.iload 5, 2) := by decide +kernel
theorem dL_law_1515 : decode cL_law 1515 = .ok (.iconst 2, 1) := by decide +kernel
theorem dL_law_1516 : decode cL_law 1516 = .ok (.iadd, 1) := by decide +kernel
theorem dL_law_1517 : decode cL_law 1517 = .ok (.iaload, 1) := by decide +kernel
theorem dL_law_1518 : decode cL_law 1518 = .ok (.invokevirtual 231, 3) := by decide +kernel
theorem dL_law_1521 : decode cL_law 1521 = .ok (.istore 7, 2) := by decide +kernel
theorem dL_law_1523 : decode cL_law 1523 = .ok (.aload_n 2, 1) := by decide +kernel
theorem dL_law_1524 : decode cL_law 1524 = .ok (.invokevirtual 165, 3) := by decide +kernel
theorem dL_law_1527 : decode cL_law 1527 = .ok (.iload 6, 2) := by decide +kernel
theorem dL_law_1529 : decode cL_law 1529 = .ok (.if_icmp .eq 5, 3) := by decide +kernel
theorem dL_law_1534 : decode cL_law 1534 = .ok (.iload 6, 2) := by decide +kernel
theorem dL_law_1536 : decode cL_law 1536 = .ok (.ifCond .ne 15, 3) := by decide +kernel
theorem dL_law_1551 : decode cL_law 1551 = .ok (.goto 1448, 3) := by decide +kernel
set_option maxHeartbeats 4000000 in
set_option maxRecDepth 100000 in
theorem zl_19 {p : Program} {e : Env} {s : State} {m : MethodId} {below : List Frame} {meth : Method} {c : Code} {Q : State → Prop} {args : Array Value} (l : Launch) (hnt : l.stackTraces = false) (D : va_G) (G : Nat × Nat × Nat) (xo : Nat) (xg : Nat) (xp : Nat) (xq : Nat) (r1 : Nat) (r2 : Nat) (r3 : Nat) (r4 : Nat) (se : Nat) (n1 : Nat) (n2 : Nat) (n3 : Nat) (mo : Nat) (gl : Nat) (po : Nat) (pi : Nat) (bu : Nat) (pa : Nat) (ou : Nat) (od : Nat) (cg : ClassId) (cp : ClassId) (cq : ClassId) (ci : ClassId) (cj : ClassId) (cJ : ClassId) (cD : ClassId) {b L : Nat} {xs : Nat → Int32} {A : Nat → Prop} {H : Heap} {locs : List Loc} {ls : Array Slot} (hx : p.tables.exec = Jvm.exec) (hb : c.code = code) (hml : c.maxLocals = 9) (hown : s.vm.findClass RL = some m.cls) (hts : ∀ w ∈ wzL_law, w.before args s = true) (hT : FT G s) (hA : ∀ q : Nat, s.heap.size ≤ q → A q) (hZ : FZ G A s s.heap) (hX : va_X b L xs s s.heap) (hbl : b < s.heap.size) (hbA : ¬ A b) (hL : L = 5) (hK : va_K D vwCl [(cg, .object "Gatherhouse$Glass"), (cp, .object "Gatherhouse$Pot"), (cq, .object "Gatherhouse$Piece"), (ci, .int), (cj, .int), (cJ, .long), (cD, .double)] s) (hP : va_P D vwCl [(xo, .inr (11, [.ref xg, .int 0, .ref xp, .int 0, .ref xq, .int 0, .ref r1, .ref r2, .ref r3, .ref r4, .ref se, .int 0, .int 0, .int 40, .int 0, .int 0])), (xg, .inl (cg, 6, .inr (.inr (.inr (.inr (fun _ => none)))))), (xp, .inl (cp, 4, .inr (.inr (.inr (.inr (fun _ => none)))))), (xq, .inl (cq, 16, .inr (.inr (.inr (.inr (fun _ => none)))))), (r1, .inr (9, [.int 0, .int 0])), (r2, .inr (9, [.int 0, .int 0])), (r3, .inr (9, [.int 0, .int 0])), (r4, .inr (9, [.int 0, .int 0])), (se, .inr (10, [.ref n1, .ref n2, .ref n3, .int 0, .int 0, .int 0, .int 0])), (mo, .inr (16, [.int 0, .ref gl, .ref po, .ref pi, .ref bu, .ref pa, .int 0, .int 0, .int 40, .int 0, .null, .int 0, .int 0])), (gl, .inr (4, [.int 0, .ref G.1, .int 0])), (po, .inr (4, [.int 0, .ref G.1, .int 0])), (pi, .inr (4, [.int 0, .ref G.1, .int 0])), (bu, .inl (ci, 4, .inl (fun _ => 0))), (pa, .inl (cj, 4, .inl (fun _ => 0))), (ou, .inl (cJ, 1, .inr (.inl (fun _ => 0)))), (od, .inl (cD, 1, .inr (.inr (.inr (.inl (fun _ => 0))))))] H) (hD : va_D A [(xo, .inr (11, [.ref xg, .int 0, .ref xp, .int 0, .ref xq, .int 0, .ref r1, .ref r2, .ref r3, .ref r4, .ref se, .int 0, .int 0, .int 40, .int 0, .int 0])), (xg, .inl (cg, 6, .inr (.inr (.inr (.inr (fun _ => none)))))), (xp, .inl (cp, 4, .inr (.inr (.inr (.inr (fun _ => none)))))), (xq, .inl (cq, 16, .inr (.inr (.inr (.inr (fun _ => none)))))), (r1, .inr (9, [.int 0, .int 0])), (r2, .inr (9, [.int 0, .int 0])), (r3, .inr (9, [.int 0, .int 0])), (r4, .inr (9, [.int 0, .int 0])), (se, .inr (10, [.ref n1, .ref n2, .ref n3, .int 0, .int 0, .int 0, .int 0])), (mo, .inr (16, [.int 0, .ref gl, .ref po, .ref pi, .ref bu, .ref pa, .int 0, .int 0, .int 40, .int 0, .null, .int 0, .int 0])), (gl, .inr (4, [.int 0, .ref G.1, .int 0])), (po, .inr (4, [.int 0, .ref G.1, .int 0])), (pi, .inr (4, [.int 0, .ref G.1, .int 0])), (bu, .inl (ci, 4, .inl (fun _ => 0))), (pa, .inl (cj, 4, .inl (fun _ => 0))), (ou, .inl (cJ, 1, .inr (.inl (fun _ => 0)))), (od, .inl (cD, 1, .inr (.inr (.inr (.inl (fun _ => 0))))))]) (hS : va_S A s.heap H locs) (hl : lv_has ls 9 [(5, .int 0), (4, .ref od), (3, .ref ou), (2, .ref mo), (1, .ref xo), (0, .ref b)]) (hE : ∀ (H : Heap) (locs : List Loc) (ls : Array Slot), va_S A s.heap H locs → lv_has ls 9 [(0, .ref b), (5, .int 0)] → W p l e room_1 s m args below meth c H locs 797152 6710780 Q (F0 m 2999 ls [])) : W p l e room_1 s m args below meth c H locs 60 300 Q (F0 m 1486 ls []) := by
  have hP := hP.sub (ws' := [(xo, .inr (11, [.ref xg, .int 0, .ref xp, .int 0, .ref xq, .int 0, .ref r1, .ref r2, .ref r3, .ref r4, .ref se, .int 0, .int 0, .int 40, .int 0, .int 0])), (xq, .inl (cq, 16, .inr (.inr (.inr (.inr (fun _ => none)))))), (mo, .inr (16, [.int 0, .ref gl, .ref po, .ref pi, .ref bu, .ref pa, .int 0, .int 0, .int 40, .int 0, .null, .int 0, .int 0])), (pi, .inr (4, [.int 0, .ref G.1, .int 0])), (ou, .inl (cJ, 1, .inr (.inl (fun _ => 0))))]) [0, 3, 9, 12, 15] rfl
  have hD := hD.sub (ws' := [(xo, .inr (11, [.ref xg, .int 0, .ref xp, .int 0, .ref xq, .int 0, .ref r1, .ref r2, .ref r3, .ref r4, .ref se, .int 0, .int 0, .int 40, .int 0, .int 0])), (xq, .inl (cq, 16, .inr (.inr (.inr (.inr (fun _ => none)))))), (mo, .inr (16, [.int 0, .ref gl, .ref po, .ref pi, .ref bu, .ref pa, .int 0, .int 0, .int 40, .int 0, .null, .int 0, .int 0])), (pi, .inr (4, [.int 0, .ref G.1, .int 0])), (ou, .inl (cJ, 1, .inr (.inl (fun _ => 0))))]) [0, 3, 9, 12, 15] (by decide) rfl
  have hK := hK.sub (tys' := [(cq, .object "Gatherhouse$Piece"), (cJ, .long)]) [2, 5] rfl
  refine lv_aload_n hx hb dL_law_1486 rfl (lv_at hl 4 rfl) ?_
  refine lv_aload_n hx hb dL_law_1487 rfl (lv_at hl 5 rfl) ?_
  refine lv_iload hx hb dL_law_1488 (lv_at hl 0 rfl) ?_
  refine lv_iconst (v := 1) hx hb dL_law_1490 (by decide) ?_
  refine lv_iadd hx hb dL_law_1491 ?_
  refine lv_topi (fun y_1081 ey_1081 => ?_)
  have ey_1081 : y_1081 = 1 := ey_1081.trans (by decide +kernel)
  subst ey_1081
  refine va_sld hx hb hX hbl hbA hS (vp_in_iff.mpr (by rw [hL]; decide +kernel)) dL_law_1492 ?_
  refine lv_aload_n hx hb dL_law_1493 rfl (lv_at hl 5 rfl) ?_
  refine lv_iload hx hb dL_law_1494 (lv_at hl 0 rfl) ?_
  refine lv_iconst (v := 2) hx hb dL_law_1496 (by decide) ?_
  refine lv_iadd hx hb dL_law_1497 ?_
  refine lv_topi (fun y_1082 ey_1082 => ?_)
  have ey_1082 : y_1082 = 2 := ey_1082.trans (by decide +kernel)
  subst ey_1082
  refine va_sld hx hb hX hbl hbA hS (vp_in_iff.mpr (by rw [hL]; decide +kernel)) dL_law_1498 ?_
  refine lv_aload_n hx hb dL_law_1499 rfl (lv_at hl 2 rfl) ?_
  have hFc := va_free (wc := [(xo, .inr (11, [.ref xg, .int 0, .ref xp, .int 0, .ref xq, .int 0, .ref r1, .ref r2, .ref r3, .ref r4, .ref se, .int 0, .int 0, .int 40, .int 0, .int 0])), (xq, .inl (cq, 16, .inr (.inr (.inr (.inr (fun _ => none)))))), (ou, .inl (cJ, 1, .inr (.inl (fun _ => 0))))]) hD hS hA [0, 1, 4] rfl
  refine vx_calli (vx_runSX (As := [.ref xo, .int (xs (1 : Int32).toNatClampNeg), .int (xs (2 : Int32).toNatClampNeg), .ref ou]) (rest := []) ⟨hx, hb, hml, hown, hts⟩ (zc_L_join l hnt D G xo xg xp xq r1 r2 r3 r4 se 0 0 cq ou cJ (xs (1 : Int32).toNatClampNeg) (xs (2 : Int32).toNatClampNeg) H.size) (vx_cwSW 4 hts gzL_law_L_join_229 rfl rfl rfl (by decide +kernel) ⟨(Nat.le_of_ble_eq_true rfl), (Nat.le_of_ble_eq_true rfl)⟩) ⟨p_RW_blind, (p_RW_at (tc := [(cq, .object "Gatherhouse$Piece"), (cJ, .long)]) (wc := [(xo, .inr (11, [.ref xg, .int 0, .ref xp, .int 0, .ref xq, .int 0, .ref r1, .ref r2, .ref r3, .ref r4, .ref se, .int 0, .int 0, .int 40, .int 0, .int 0])), (xq, .inl (cq, 16, .inr (.inr (.inr (.inr (fun _ => none)))))), (ou, .inl (cJ, 1, .inr (.inl (fun _ => 0))))]) hP hK hD hS hA hT hZ [0, 1, 4] [0, 1] rfl rfl (by decide) rfl [.ref xo, .int (xs (1 : Int32).toNatClampNeg), .int (xs (2 : Int32).toNatClampNeg), .ref ou])⟩ rfl rfl hl.1 rfl (lv_room (Nat.le_of_ble_eq_true rfl)) dL_law_1500 ⟨(Nat.le_of_ble_eq_true rfl), (Nat.le_of_ble_eq_true rfl)⟩) hS (fun q _ h => hFc q h) hFc (fun q _ h => hFc q h) (fun E ce q9 u t H locs ht hvm hpx hBX hz1 hk1 hS hce hcv hcl => ?_) (fun r_1083 u t H locs ht hvm w_1084 hB hz1 hk1 hS => ?_)
  · exact (show False from hBX).elim
  · obtain ⟨hP, hD, hK⟩ := q_join (D := D) (wc := [(xo, .inr (11, [.ref xg, .int 0, .ref xp, .int 0, .ref xq, .int 0, .ref r1, .ref r2, .ref r3, .ref r4, .ref se, .int 0, .int 0, .int 40, .int 0, .int 0])), (xq, .inl (cq, 16, .inr (.inr (.inr (.inr (fun _ => none)))))), (ou, .inl (cJ, 1, .inr (.inl (fun _ => 0))))]) (wr := [(mo, .inr (16, [.int 0, .ref gl, .ref po, .ref pi, .ref bu, .ref pa, .int 0, .int 0, .int 40, .int 0, .null, .int 0, .int 0])), (pi, .inr (4, [.int 0, .ref G.1, .int 0]))]) (w1 := []) (tyr := [(cq, .object "Gatherhouse$Piece"), (cJ, .long)]) (ty1 := []) hP hD hK [0, 1, 4] [2, 3] [0, 1] rfl rfl (by decide) (by decide) rfl hFc hk1 ht hvm (q_none hK hvm)
    have hP : va_P D vwCl [(mo, .inr (16, [.int 0, .ref gl, .ref po, .ref pi, .ref bu, .ref pa, .int 0, .int 0, .int 40, .int 0, .null, .int 0, .int 0])), (pi, .inr (4, [.int 0, .ref G.1, .int 0]))] H := hP
    have hD : va_D A [(mo, .inr (16, [.int 0, .ref gl, .ref po, .ref pi, .ref bu, .ref pa, .int 0, .int 0, .int 40, .int 0, .null, .int 0, .int 0])), (pi, .inr (4, [.int 0, .ref G.1, .int 0]))] := hD
    have hK : va_K D vwCl [(cq, .object "Gatherhouse$Piece"), (cJ, .long)] s := hK
    refine W.widen (k := 61) (n := 306) (Nat.le_of_ble_eq_true rfl) (Nat.le_of_ble_eq_true rfl) ?_
    obtain rfl := w_1084
    refine lv_istore (lv' := [(6, .int 1), (5, .int 0), (4, .ref od), (3, .ref ou), (2, .ref mo), (1, .ref xo), (0, .ref b)]) hx hb dL_law_1503 hl (by decide) rfl (fun ls hl => ?_)
    refine lv_aload_n hx hb dL_law_1505 rfl (lv_at hl 4 rfl) ?_
    refine lv_aload_n hx hb dL_law_1506 rfl (lv_at hl 6 rfl) ?_
    refine lv_iload hx hb dL_law_1507 (lv_at hl 1 rfl) ?_
    refine lv_iconst (v := 1) hx hb dL_law_1509 (by decide) ?_
    refine lv_iadd hx hb dL_law_1510 ?_
    refine lv_topi (fun y_1085 ey_1085 => ?_)
    have ey_1085 : y_1085 = 1 := ey_1085.trans (by decide +kernel)
    subst ey_1085
    refine va_sld hx hb hX hbl hbA hS (vp_in_iff.mpr (by rw [hL]; decide +kernel)) dL_law_1511 ?_
    refine lv_aload_n hx hb dL_law_1512 rfl (lv_at hl 6 rfl) ?_
    refine lv_iload hx hb dL_law_1513 (lv_at hl 1 rfl) ?_
    refine lv_iconst (v := 2) hx hb dL_law_1515 (by decide) ?_
    refine lv_iadd hx hb dL_law_1516 ?_
    refine lv_topi (fun y_1086 ey_1086 => ?_)
    have ey_1086 : y_1086 = 2 := ey_1086.trans (by decide +kernel)
    subst ey_1086
    refine va_sld hx hb hX hbl hbA hS (vp_in_iff.mpr (by rw [hL]; decide +kernel)) dL_law_1517 ?_
    have hFc := va_free (wc := [(mo, .inr (16, [.int 0, .ref gl, .ref po, .ref pi, .ref bu, .ref pa, .int 0, .int 0, .int 40, .int 0, .null, .int 0, .int 0])), (pi, .inr (4, [.int 0, .ref G.1, .int 0]))]) hD hS hA [0, 1] rfl
    refine va_calli (va_runV (As := [.int (xs (1 : Int32).toNatClampNeg), .int (xs (2 : Int32).toNatClampNeg)]) (rest := []) ⟨hx, hb, hml, hown, hts⟩ (zc_X11_join l D G mo gl po pi bu pa 0 0 0 (xs (1 : Int32).toNatClampNeg) (xs (2 : Int32).toNatClampNeg) H.size) (cwV 2 hts gzL_law_X11_join_231 rfl rfl rfl (by decide +kernel) ⟨(Nat.le_of_ble_eq_true rfl), (Nat.le_of_ble_eq_true rfl)⟩) ⟨p_RW_blind, va_recv hK hP (ci := 16) (q0 := 0) rfl rfl, (p_RW_at (tc := []) (wc := [(mo, .inr (16, [.int 0, .ref gl, .ref po, .ref pi, .ref bu, .ref pa, .int 0, .int 0, .int 40, .int 0, .null, .int 0, .int 0])), (pi, .inr (4, [.int 0, .ref G.1, .int 0]))]) hP hK hD hS hA hT hZ [0, 1] [] rfl rfl (by decide) rfl [.ref mo, .int (xs (1 : Int32).toNatClampNeg), .int (xs (2 : Int32).toNatClampNeg)])⟩ rfl rfl hl.1 rfl (lv_room (Nat.le_of_ble_eq_true rfl)) dL_law_1518 ⟨(Nat.le_of_ble_eq_true rfl), (Nat.le_of_ble_eq_true rfl)⟩) hS (fun q _ h => hFc q h) hFc (fun r_1087 u t H locs ht hvm w_1088 hB hz1 hk1 hS => ?_)
    obtain ⟨hP, hD, hK⟩ := q_join (D := D) (wc := [(mo, .inr (16, [.int 0, .ref gl, .ref po, .ref pi, .ref bu, .ref pa, .int 0, .int 0, .int 40, .int 0, .null, .int 0, .int 0])), (pi, .inr (4, [.int 0, .ref G.1, .int 0]))]) (wr := []) (w1 := [(mo, .inr (16, [.int 1, .ref gl, .ref po, .ref pi, .ref bu, .ref pa, .int 0, .int 0, .int 40, .int 0, .null, .int 0, .int 0])), (pi, .inr (4, [.int 0, .ref G.1, .int 0]))]) (tyr := [(cq, .object "Gatherhouse$Piece"), (cJ, .long)]) (ty1 := []) hP hD hK [0, 1] [] [0, 1] rfl rfl (by decide) (by decide) rfl hFc hk1 ht hvm hB
    have hP : va_P D vwCl [(mo, .inr (16, [.int 1, .ref gl, .ref po, .ref pi, .ref bu, .ref pa, .int 0, .int 0, .int 40, .int 0, .null, .int 0, .int 0])), (pi, .inr (4, [.int 0, .ref G.1, .int 0]))] H := hP
    have hD : va_D A [(mo, .inr (16, [.int 1, .ref gl, .ref po, .ref pi, .ref bu, .ref pa, .int 0, .int 0, .int 40, .int 0, .null, .int 0, .int 0])), (pi, .inr (4, [.int 0, .ref G.1, .int 0]))] := hD
    have hK : va_K D vwCl [(cq, .object "Gatherhouse$Piece"), (cJ, .long)] s := hK
    obtain rfl := w_1088
    refine lv_istore (lv' := [(7, .int 0), (6, .int 1), (5, .int 0), (4, .ref od), (3, .ref ou), (2, .ref mo), (1, .ref xo), (0, .ref b)]) hx hb dL_law_1521 hl (by decide) rfl (fun ls hl => ?_)
    refine lv_aload_n hx hb dL_law_1523 rfl (lv_at hl 5 rfl) ?_
    refine vp_callSi (va_runV (As := []) (rest := []) ⟨hx, hb, hml, hown, hts⟩ (zc_X11_thrown l D G mo gl po pi bu pa 1 0 0 40) (cwV 0 hts gzL_law_X11_thrown_165 rfl rfl rfl (by decide +kernel) ⟨(Nat.le_of_ble_eq_true rfl), (Nat.le_of_ble_eq_true rfl)⟩) ⟨p_RO_blind, va_recv hK hP (ci := 16) (q0 := 0) rfl rfl, (p_RO_at (tc := []) (wc := [(mo, .inr (16, [.int 1, .ref gl, .ref po, .ref pi, .ref bu, .ref pa, .int 0, .int 0, .int 40, .int 0, .null, .int 0, .int 0]))]) hP hK hT [0] [] rfl rfl [.ref mo])⟩ rfl rfl hl.1 rfl (lv_room (Nat.le_of_ble_eq_true rfl)) dL_law_1524 ⟨(Nat.le_of_ble_eq_true rfl), (Nat.le_of_ble_eq_true rfl)⟩).run (fun r_1089 w_1090 => ?_)
    obtain rfl := w_1090
    refine lv_iload hx hb dL_law_1527 (lv_at hl 1 rfl) ?_
    refine lv_icmp_eq (tgt := 1534) hx hb dL_law_1529 (by decide) (fun _ => ?_) (fun cc => absurd (by decide) cc)
    refine lv_iload hx hb dL_law_1534 (lv_at hl 1 rfl) ?_
    refine lv_if_ne (tgt := 1551) hx hb dL_law_1536 (by decide) (fun _ => ?_) (fun cc => absurd cc (by decide))
    refine lv_goto (tgt := 2999) hx hb dL_law_1551 (by decide) ?_
    refine W.widen (k := 797152) (n := 6710780) (Nat.le_of_ble_eq_true rfl) (Nat.le_of_ble_eq_true rfl) ?_
    exact hE _ _ _ hS (lv_sub hl [7, 2] rfl)
theorem dL_law_1554 : decode cL_law 1554 = .ok (.aload_n 1, 1) := by decide +kernel
theorem dL_law_1555 : decode cL_law 1555 = .ok (.aload_n 0, 1) := by decide +kernel
theorem dL_law_1556 : decode cL_law 1556 = .ok (.iload 5, 2) := by decide +kernel
theorem dL_law_1558 : decode cL_law 1558 = .ok (.iconst 1, 1) := by decide +kernel
theorem dL_law_1559 : decode cL_law 1559 = .ok (.iadd, 1) := by decide +kernel
theorem dL_law_1560 : decode cL_law 1560 = .ok (.iaload, 1) := by decide +kernel
theorem dL_law_1561 : decode cL_law 1561 = .ok (.aload_n 3, 1) := by decide +kernel
theorem dL_law_1562 : decode cL_law 1562 = .ok (.invokestatic 232, 3) := by decide +kernel
theorem dL_law_1565 : decode cL_law 1565 = .ok (.istore 6, 2) := by decide +kernel
theorem dL_law_1567 : decode cL_law 1567 = .ok (.aload_n 2, 1) := by decide +kernel
theorem dL_law_1568 : decode cL_law 1568 = .ok (.aload_n 0, 1) := by decide +kernel
theorem dL_law_1569 : decode cL_law 1569 = .ok (.iload 5, 2) := by decide +kernel
theorem dL_law_1571 : decode cL_law 1571 = .ok (.iconst 1, 1) := by decide +kernel
theorem dL_law_1572 : decode cL_law 1572 = .ok (.iadd, 1) := by decide +kernel
theorem dL_law_1573 : decode cL_law 1573 = .ok (.iaload, 1) := by decide +kernel
theorem dL_law_1574 : decode cL_law 1574 = .ok (.invokevirtual 234, 3) := by decide +kernel
theorem dL_law_1577 : decode cL_law 1577 = .ok (.istore 7, 2) := by decide +kernel
theorem dL_law_1579 : decode cL_law 1579 = .ok (.aload_n 2, 1) := by decide +kernel
theorem dL_law_1580 : decode cL_law 1580 = .ok (.invokevirtual 165, 3) := by decide +kernel
theorem dL_law_1583 : decode cL_law 1583 = .ok (.iload 6, 2) := by decide +kernel
theorem dL_law_1585 : decode cL_law 1585 = .ok (.if_icmp .eq 5, 3) := by decide +kernel
theorem dL_law_1590 : decode cL_law 1590 = .ok (.iload 6, 2) := by decide +kernel
theorem dL_law_1592 : decode cL_law 1592 = .ok (.ifCond .ne 15, 3) := by decide +kernel
theorem dL_law_1607 : decode cL_law 1607 = .ok (.goto 1392, 3) := by decide +kernel
set_option maxHeartbeats 4000000 in
set_option maxRecDepth 100000 in
theorem zl_20 {p : Program} {e : Env} {s : State} {m : MethodId} {below : List Frame} {meth : Method} {c : Code} {Q : State → Prop} {args : Array Value} (l : Launch) (hnt : l.stackTraces = false) (D : va_G) (G : Nat × Nat × Nat) (xo : Nat) (xg : Nat) (xp : Nat) (xq : Nat) (r1 : Nat) (r2 : Nat) (r3 : Nat) (r4 : Nat) (se : Nat) (n1 : Nat) (n2 : Nat) (n3 : Nat) (mo : Nat) (gl : Nat) (po : Nat) (pi : Nat) (bu : Nat) (pa : Nat) (ou : Nat) (od : Nat) (cg : ClassId) (cp : ClassId) (cq : ClassId) (ci : ClassId) (cj : ClassId) (cJ : ClassId) (cD : ClassId) {b L : Nat} {xs : Nat → Int32} {A : Nat → Prop} {H : Heap} {locs : List Loc} {ls : Array Slot} (hx : p.tables.exec = Jvm.exec) (hb : c.code = code) (hml : c.maxLocals = 9) (hown : s.vm.findClass RL = some m.cls) (hts : ∀ w ∈ wzL_law, w.before args s = true) (hT : FT G s) (hA : ∀ q : Nat, s.heap.size ≤ q → A q) (hZ : FZ G A s s.heap) (hX : va_X b L xs s s.heap) (hbl : b < s.heap.size) (hbA : ¬ A b) (hL : L = 5) (hK : va_K D vwCl [(cg, .object "Gatherhouse$Glass"), (cp, .object "Gatherhouse$Pot"), (cq, .object "Gatherhouse$Piece"), (ci, .int), (cj, .int), (cJ, .long), (cD, .double)] s) (hP : va_P D vwCl [(xo, .inr (11, [.ref xg, .int 0, .ref xp, .int 0, .ref xq, .int 0, .ref r1, .ref r2, .ref r3, .ref r4, .ref se, .int 0, .int 0, .int 40, .int 0, .int 0])), (xg, .inl (cg, 6, .inr (.inr (.inr (.inr (fun _ => none)))))), (xp, .inl (cp, 4, .inr (.inr (.inr (.inr (fun _ => none)))))), (xq, .inl (cq, 16, .inr (.inr (.inr (.inr (fun _ => none)))))), (r1, .inr (9, [.int 0, .int 0])), (r2, .inr (9, [.int 0, .int 0])), (r3, .inr (9, [.int 0, .int 0])), (r4, .inr (9, [.int 0, .int 0])), (se, .inr (10, [.ref n1, .ref n2, .ref n3, .int 0, .int 0, .int 0, .int 0])), (mo, .inr (16, [.int 0, .ref gl, .ref po, .ref pi, .ref bu, .ref pa, .int 0, .int 0, .int 40, .int 0, .null, .int 0, .int 0])), (gl, .inr (4, [.int 0, .ref G.1, .int 0])), (po, .inr (4, [.int 0, .ref G.1, .int 0])), (pi, .inr (4, [.int 0, .ref G.1, .int 0])), (bu, .inl (ci, 4, .inl (fun _ => 0))), (pa, .inl (cj, 4, .inl (fun _ => 0))), (ou, .inl (cJ, 1, .inr (.inl (fun _ => 0)))), (od, .inl (cD, 1, .inr (.inr (.inr (.inl (fun _ => 0))))))] H) (hD : va_D A [(xo, .inr (11, [.ref xg, .int 0, .ref xp, .int 0, .ref xq, .int 0, .ref r1, .ref r2, .ref r3, .ref r4, .ref se, .int 0, .int 0, .int 40, .int 0, .int 0])), (xg, .inl (cg, 6, .inr (.inr (.inr (.inr (fun _ => none)))))), (xp, .inl (cp, 4, .inr (.inr (.inr (.inr (fun _ => none)))))), (xq, .inl (cq, 16, .inr (.inr (.inr (.inr (fun _ => none)))))), (r1, .inr (9, [.int 0, .int 0])), (r2, .inr (9, [.int 0, .int 0])), (r3, .inr (9, [.int 0, .int 0])), (r4, .inr (9, [.int 0, .int 0])), (se, .inr (10, [.ref n1, .ref n2, .ref n3, .int 0, .int 0, .int 0, .int 0])), (mo, .inr (16, [.int 0, .ref gl, .ref po, .ref pi, .ref bu, .ref pa, .int 0, .int 0, .int 40, .int 0, .null, .int 0, .int 0])), (gl, .inr (4, [.int 0, .ref G.1, .int 0])), (po, .inr (4, [.int 0, .ref G.1, .int 0])), (pi, .inr (4, [.int 0, .ref G.1, .int 0])), (bu, .inl (ci, 4, .inl (fun _ => 0))), (pa, .inl (cj, 4, .inl (fun _ => 0))), (ou, .inl (cJ, 1, .inr (.inl (fun _ => 0)))), (od, .inl (cD, 1, .inr (.inr (.inr (.inl (fun _ => 0))))))]) (hS : va_S A s.heap H locs) (hl : lv_has ls 9 [(5, .int 0), (4, .ref od), (3, .ref ou), (2, .ref mo), (1, .ref xo), (0, .ref b)]) (hE : ∀ (H : Heap) (locs : List Loc) (ls : Array Slot), va_S A s.heap H locs → lv_has ls 9 [(0, .ref b), (5, .int 0)] → W p l e room_1 s m args below meth c H locs 797152 6710780 Q (F0 m 2999 ls [])) : W p l e room_1 s m args below meth c H locs 60 300 Q (F0 m 1554 ls []) := by
  have hP := hP.sub (ws' := [(xo, .inr (11, [.ref xg, .int 0, .ref xp, .int 0, .ref xq, .int 0, .ref r1, .ref r2, .ref r3, .ref r4, .ref se, .int 0, .int 0, .int 40, .int 0, .int 0])), (xq, .inl (cq, 16, .inr (.inr (.inr (.inr (fun _ => none)))))), (mo, .inr (16, [.int 0, .ref gl, .ref po, .ref pi, .ref bu, .ref pa, .int 0, .int 0, .int 40, .int 0, .null, .int 0, .int 0])), (pi, .inr (4, [.int 0, .ref G.1, .int 0])), (ou, .inl (cJ, 1, .inr (.inl (fun _ => 0))))]) [0, 3, 9, 12, 15] rfl
  have hD := hD.sub (ws' := [(xo, .inr (11, [.ref xg, .int 0, .ref xp, .int 0, .ref xq, .int 0, .ref r1, .ref r2, .ref r3, .ref r4, .ref se, .int 0, .int 0, .int 40, .int 0, .int 0])), (xq, .inl (cq, 16, .inr (.inr (.inr (.inr (fun _ => none)))))), (mo, .inr (16, [.int 0, .ref gl, .ref po, .ref pi, .ref bu, .ref pa, .int 0, .int 0, .int 40, .int 0, .null, .int 0, .int 0])), (pi, .inr (4, [.int 0, .ref G.1, .int 0])), (ou, .inl (cJ, 1, .inr (.inl (fun _ => 0))))]) [0, 3, 9, 12, 15] (by decide) rfl
  have hK := hK.sub (tys' := [(cq, .object "Gatherhouse$Piece"), (cJ, .long)]) [2, 5] rfl
  refine lv_aload_n hx hb dL_law_1554 rfl (lv_at hl 4 rfl) ?_
  refine lv_aload_n hx hb dL_law_1555 rfl (lv_at hl 5 rfl) ?_
  refine lv_iload hx hb dL_law_1556 (lv_at hl 0 rfl) ?_
  refine lv_iconst (v := 1) hx hb dL_law_1558 (by decide) ?_
  refine lv_iadd hx hb dL_law_1559 ?_
  refine lv_topi (fun y_1091 ey_1091 => ?_)
  have ey_1091 : y_1091 = 1 := ey_1091.trans (by decide +kernel)
  subst ey_1091
  refine va_sld hx hb hX hbl hbA hS (vp_in_iff.mpr (by rw [hL]; decide +kernel)) dL_law_1560 ?_
  refine lv_aload_n hx hb dL_law_1561 rfl (lv_at hl 2 rfl) ?_
  have hFc := va_free (wc := [(xo, .inr (11, [.ref xg, .int 0, .ref xp, .int 0, .ref xq, .int 0, .ref r1, .ref r2, .ref r3, .ref r4, .ref se, .int 0, .int 0, .int 40, .int 0, .int 0])), (xq, .inl (cq, 16, .inr (.inr (.inr (.inr (fun _ => none)))))), (ou, .inl (cJ, 1, .inr (.inl (fun _ => 0))))]) hD hS hA [0, 1, 4] rfl
  refine vx_calli (vx_runSX (As := [.ref xo, .int (xs (1 : Int32).toNatClampNeg), .ref ou]) (rest := []) ⟨hx, hb, hml, hown, hts⟩ (zc_L_crack l hnt D G xo xg xp xq r1 r2 r3 r4 se 0 0 cq ou cJ (xs (1 : Int32).toNatClampNeg) H.size) (vx_cwSW 3 hts gzL_law_L_crack_232 rfl rfl rfl (by decide +kernel) ⟨(Nat.le_of_ble_eq_true rfl), (Nat.le_of_ble_eq_true rfl)⟩) ⟨p_RW_blind, (p_RW_at (tc := [(cq, .object "Gatherhouse$Piece"), (cJ, .long)]) (wc := [(xo, .inr (11, [.ref xg, .int 0, .ref xp, .int 0, .ref xq, .int 0, .ref r1, .ref r2, .ref r3, .ref r4, .ref se, .int 0, .int 0, .int 40, .int 0, .int 0])), (xq, .inl (cq, 16, .inr (.inr (.inr (.inr (fun _ => none)))))), (ou, .inl (cJ, 1, .inr (.inl (fun _ => 0))))]) hP hK hD hS hA hT hZ [0, 1, 4] [0, 1] rfl rfl (by decide) rfl [.ref xo, .int (xs (1 : Int32).toNatClampNeg), .ref ou])⟩ rfl rfl hl.1 rfl (lv_room (Nat.le_of_ble_eq_true rfl)) dL_law_1562 ⟨(Nat.le_of_ble_eq_true rfl), (Nat.le_of_ble_eq_true rfl)⟩) hS (fun q _ h => hFc q h) hFc (fun q _ h => hFc q h) (fun E ce q9 u t H locs ht hvm hpx hBX hz1 hk1 hS hce hcv hcl => ?_) (fun r_1092 u t H locs ht hvm w_1093 hB hz1 hk1 hS => ?_)
  · exact (show False from hBX).elim
  · obtain ⟨hP, hD, hK⟩ := q_join (D := D) (wc := [(xo, .inr (11, [.ref xg, .int 0, .ref xp, .int 0, .ref xq, .int 0, .ref r1, .ref r2, .ref r3, .ref r4, .ref se, .int 0, .int 0, .int 40, .int 0, .int 0])), (xq, .inl (cq, 16, .inr (.inr (.inr (.inr (fun _ => none)))))), (ou, .inl (cJ, 1, .inr (.inl (fun _ => 0))))]) (wr := [(mo, .inr (16, [.int 0, .ref gl, .ref po, .ref pi, .ref bu, .ref pa, .int 0, .int 0, .int 40, .int 0, .null, .int 0, .int 0])), (pi, .inr (4, [.int 0, .ref G.1, .int 0]))]) (w1 := []) (tyr := [(cq, .object "Gatherhouse$Piece"), (cJ, .long)]) (ty1 := []) hP hD hK [0, 1, 4] [2, 3] [0, 1] rfl rfl (by decide) (by decide) rfl hFc hk1 ht hvm (q_none hK hvm)
    have hP : va_P D vwCl [(mo, .inr (16, [.int 0, .ref gl, .ref po, .ref pi, .ref bu, .ref pa, .int 0, .int 0, .int 40, .int 0, .null, .int 0, .int 0])), (pi, .inr (4, [.int 0, .ref G.1, .int 0]))] H := hP
    have hD : va_D A [(mo, .inr (16, [.int 0, .ref gl, .ref po, .ref pi, .ref bu, .ref pa, .int 0, .int 0, .int 40, .int 0, .null, .int 0, .int 0])), (pi, .inr (4, [.int 0, .ref G.1, .int 0]))] := hD
    have hK : va_K D vwCl [(cq, .object "Gatherhouse$Piece"), (cJ, .long)] s := hK
    refine W.widen (k := 61) (n := 306) (Nat.le_of_ble_eq_true rfl) (Nat.le_of_ble_eq_true rfl) ?_
    obtain rfl := w_1093
    refine lv_istore (lv' := [(6, .int 1), (5, .int 0), (4, .ref od), (3, .ref ou), (2, .ref mo), (1, .ref xo), (0, .ref b)]) hx hb dL_law_1565 hl (by decide) rfl (fun ls hl => ?_)
    refine lv_aload_n hx hb dL_law_1567 rfl (lv_at hl 4 rfl) ?_
    refine lv_aload_n hx hb dL_law_1568 rfl (lv_at hl 6 rfl) ?_
    refine lv_iload hx hb dL_law_1569 (lv_at hl 1 rfl) ?_
    refine lv_iconst (v := 1) hx hb dL_law_1571 (by decide) ?_
    refine lv_iadd hx hb dL_law_1572 ?_
    refine lv_topi (fun y_1094 ey_1094 => ?_)
    have ey_1094 : y_1094 = 1 := ey_1094.trans (by decide +kernel)
    subst ey_1094
    refine va_sld hx hb hX hbl hbA hS (vp_in_iff.mpr (by rw [hL]; decide +kernel)) dL_law_1573 ?_
    have hFc := va_free (wc := [(mo, .inr (16, [.int 0, .ref gl, .ref po, .ref pi, .ref bu, .ref pa, .int 0, .int 0, .int 40, .int 0, .null, .int 0, .int 0])), (pi, .inr (4, [.int 0, .ref G.1, .int 0]))]) hD hS hA [0, 1] rfl
    refine va_calli (va_runV (As := [.int (xs (1 : Int32).toNatClampNeg)]) (rest := []) ⟨hx, hb, hml, hown, hts⟩ (zc_X11_crack l D G mo gl po pi bu pa 0 0 0 (xs (1 : Int32).toNatClampNeg) H.size) (cwV 1 hts gzL_law_X11_crack_234 rfl rfl rfl (by decide +kernel) ⟨(Nat.le_of_ble_eq_true rfl), (Nat.le_of_ble_eq_true rfl)⟩) ⟨p_RW_blind, va_recv hK hP (ci := 16) (q0 := 0) rfl rfl, (p_RW_at (tc := []) (wc := [(mo, .inr (16, [.int 0, .ref gl, .ref po, .ref pi, .ref bu, .ref pa, .int 0, .int 0, .int 40, .int 0, .null, .int 0, .int 0])), (pi, .inr (4, [.int 0, .ref G.1, .int 0]))]) hP hK hD hS hA hT hZ [0, 1] [] rfl rfl (by decide) rfl [.ref mo, .int (xs (1 : Int32).toNatClampNeg)])⟩ rfl rfl hl.1 rfl (lv_room (Nat.le_of_ble_eq_true rfl)) dL_law_1574 ⟨(Nat.le_of_ble_eq_true rfl), (Nat.le_of_ble_eq_true rfl)⟩) hS (fun q _ h => hFc q h) hFc (fun r_1095 u t H locs ht hvm w_1096 hB hz1 hk1 hS => ?_)
    obtain ⟨hP, hD, hK⟩ := q_join (D := D) (wc := [(mo, .inr (16, [.int 0, .ref gl, .ref po, .ref pi, .ref bu, .ref pa, .int 0, .int 0, .int 40, .int 0, .null, .int 0, .int 0])), (pi, .inr (4, [.int 0, .ref G.1, .int 0]))]) (wr := []) (w1 := [(mo, .inr (16, [.int 1, .ref gl, .ref po, .ref pi, .ref bu, .ref pa, .int 0, .int 0, .int 40, .int 0, .null, .int 0, .int 0])), (pi, .inr (4, [.int 0, .ref G.1, .int 0]))]) (tyr := [(cq, .object "Gatherhouse$Piece"), (cJ, .long)]) (ty1 := []) hP hD hK [0, 1] [] [0, 1] rfl rfl (by decide) (by decide) rfl hFc hk1 ht hvm hB
    have hP : va_P D vwCl [(mo, .inr (16, [.int 1, .ref gl, .ref po, .ref pi, .ref bu, .ref pa, .int 0, .int 0, .int 40, .int 0, .null, .int 0, .int 0])), (pi, .inr (4, [.int 0, .ref G.1, .int 0]))] H := hP
    have hD : va_D A [(mo, .inr (16, [.int 1, .ref gl, .ref po, .ref pi, .ref bu, .ref pa, .int 0, .int 0, .int 40, .int 0, .null, .int 0, .int 0])), (pi, .inr (4, [.int 0, .ref G.1, .int 0]))] := hD
    have hK : va_K D vwCl [(cq, .object "Gatherhouse$Piece"), (cJ, .long)] s := hK
    obtain rfl := w_1096
    refine lv_istore (lv' := [(7, .int 0), (6, .int 1), (5, .int 0), (4, .ref od), (3, .ref ou), (2, .ref mo), (1, .ref xo), (0, .ref b)]) hx hb dL_law_1577 hl (by decide) rfl (fun ls hl => ?_)
    refine lv_aload_n hx hb dL_law_1579 rfl (lv_at hl 5 rfl) ?_
    refine vp_callSi (va_runV (As := []) (rest := []) ⟨hx, hb, hml, hown, hts⟩ (zc_X11_thrown l D G mo gl po pi bu pa 1 0 0 40) (cwV 0 hts gzL_law_X11_thrown_165 rfl rfl rfl (by decide +kernel) ⟨(Nat.le_of_ble_eq_true rfl), (Nat.le_of_ble_eq_true rfl)⟩) ⟨p_RO_blind, va_recv hK hP (ci := 16) (q0 := 0) rfl rfl, (p_RO_at (tc := []) (wc := [(mo, .inr (16, [.int 1, .ref gl, .ref po, .ref pi, .ref bu, .ref pa, .int 0, .int 0, .int 40, .int 0, .null, .int 0, .int 0]))]) hP hK hT [0] [] rfl rfl [.ref mo])⟩ rfl rfl hl.1 rfl (lv_room (Nat.le_of_ble_eq_true rfl)) dL_law_1580 ⟨(Nat.le_of_ble_eq_true rfl), (Nat.le_of_ble_eq_true rfl)⟩).run (fun r_1097 w_1098 => ?_)
    obtain rfl := w_1098
    refine lv_iload hx hb dL_law_1583 (lv_at hl 1 rfl) ?_
    refine lv_icmp_eq (tgt := 1590) hx hb dL_law_1585 (by decide) (fun _ => ?_) (fun cc => absurd (by decide) cc)
    refine lv_iload hx hb dL_law_1590 (lv_at hl 1 rfl) ?_
    refine lv_if_ne (tgt := 1607) hx hb dL_law_1592 (by decide) (fun _ => ?_) (fun cc => absurd cc (by decide))
    refine lv_goto (tgt := 2999) hx hb dL_law_1607 (by decide) ?_
    refine W.widen (k := 797152) (n := 6710780) (Nat.le_of_ble_eq_true rfl) (Nat.le_of_ble_eq_true rfl) ?_
    exact hE _ _ _ hS (lv_sub hl [7, 2] rfl)
theorem dL_law_1610 : decode cL_law 1610 = .ok (.aload_n 1, 1) := by decide +kernel
theorem dL_law_1611 : decode cL_law 1611 = .ok (.aload_n 0, 1) := by decide +kernel
theorem dL_law_1612 : decode cL_law 1612 = .ok (.iload 5, 2) := by decide +kernel
theorem dL_law_1614 : decode cL_law 1614 = .ok (.iconst 1, 1) := by decide +kernel
theorem dL_law_1615 : decode cL_law 1615 = .ok (.iadd, 1) := by decide +kernel
theorem dL_law_1616 : decode cL_law 1616 = .ok (.iaload, 1) := by decide +kernel
theorem dL_law_1617 : decode cL_law 1617 = .ok (.aload_n 3, 1) := by decide +kernel
theorem dL_law_1618 : decode cL_law 1618 = .ok (.invokestatic 235, 3) := by decide +kernel
theorem dL_law_1621 : decode cL_law 1621 = .ok (.istore 6, 2) := by decide +kernel
theorem dL_law_1623 : decode cL_law 1623 = .ok (.aload_n 2, 1) := by decide +kernel
theorem dL_law_1624 : decode cL_law 1624 = .ok (.aload_n 0, 1) := by decide +kernel
theorem dL_law_1625 : decode cL_law 1625 = .ok (.iload 5, 2) := by decide +kernel
theorem dL_law_1627 : decode cL_law 1627 = .ok (.iconst 1, 1) := by decide +kernel
theorem dL_law_1628 : decode cL_law 1628 = .ok (.iadd, 1) := by decide +kernel
theorem dL_law_1629 : decode cL_law 1629 = .ok (.iaload, 1) := by decide +kernel
theorem dL_law_1630 : decode cL_law 1630 = .ok (.invokevirtual 237, 3) := by decide +kernel
theorem dL_law_1633 : decode cL_law 1633 = .ok (.istore 7, 2) := by decide +kernel
theorem dL_law_1635 : decode cL_law 1635 = .ok (.aload_n 2, 1) := by decide +kernel
theorem dL_law_1636 : decode cL_law 1636 = .ok (.invokevirtual 165, 3) := by decide +kernel
theorem dL_law_1639 : decode cL_law 1639 = .ok (.iload 6, 2) := by decide +kernel
theorem dL_law_1641 : decode cL_law 1641 = .ok (.if_icmp .eq 5, 3) := by decide +kernel
theorem dL_law_1646 : decode cL_law 1646 = .ok (.iload 6, 2) := by decide +kernel
theorem dL_law_1648 : decode cL_law 1648 = .ok (.ifCond .ne 15, 3) := by decide +kernel
theorem dL_law_1663 : decode cL_law 1663 = .ok (.goto 1336, 3) := by decide +kernel
set_option maxHeartbeats 4000000 in
set_option maxRecDepth 100000 in
theorem zl_21 {p : Program} {e : Env} {s : State} {m : MethodId} {below : List Frame} {meth : Method} {c : Code} {Q : State → Prop} {args : Array Value} (l : Launch) (hnt : l.stackTraces = false) (D : va_G) (G : Nat × Nat × Nat) (xo : Nat) (xg : Nat) (xp : Nat) (xq : Nat) (r1 : Nat) (r2 : Nat) (r3 : Nat) (r4 : Nat) (se : Nat) (n1 : Nat) (n2 : Nat) (n3 : Nat) (mo : Nat) (gl : Nat) (po : Nat) (pi : Nat) (bu : Nat) (pa : Nat) (ou : Nat) (od : Nat) (cg : ClassId) (cp : ClassId) (cq : ClassId) (ci : ClassId) (cj : ClassId) (cJ : ClassId) (cD : ClassId) {b L : Nat} {xs : Nat → Int32} {A : Nat → Prop} {H : Heap} {locs : List Loc} {ls : Array Slot} (hx : p.tables.exec = Jvm.exec) (hb : c.code = code) (hml : c.maxLocals = 9) (hown : s.vm.findClass RL = some m.cls) (hts : ∀ w ∈ wzL_law, w.before args s = true) (hT : FT G s) (hA : ∀ q : Nat, s.heap.size ≤ q → A q) (hZ : FZ G A s s.heap) (hX : va_X b L xs s s.heap) (hbl : b < s.heap.size) (hbA : ¬ A b) (hL : L = 5) (hK : va_K D vwCl [(cg, .object "Gatherhouse$Glass"), (cp, .object "Gatherhouse$Pot"), (cq, .object "Gatherhouse$Piece"), (ci, .int), (cj, .int), (cJ, .long), (cD, .double)] s) (hP : va_P D vwCl [(xo, .inr (11, [.ref xg, .int 0, .ref xp, .int 0, .ref xq, .int 0, .ref r1, .ref r2, .ref r3, .ref r4, .ref se, .int 0, .int 0, .int 40, .int 0, .int 0])), (xg, .inl (cg, 6, .inr (.inr (.inr (.inr (fun _ => none)))))), (xp, .inl (cp, 4, .inr (.inr (.inr (.inr (fun _ => none)))))), (xq, .inl (cq, 16, .inr (.inr (.inr (.inr (fun _ => none)))))), (r1, .inr (9, [.int 0, .int 0])), (r2, .inr (9, [.int 0, .int 0])), (r3, .inr (9, [.int 0, .int 0])), (r4, .inr (9, [.int 0, .int 0])), (se, .inr (10, [.ref n1, .ref n2, .ref n3, .int 0, .int 0, .int 0, .int 0])), (mo, .inr (16, [.int 0, .ref gl, .ref po, .ref pi, .ref bu, .ref pa, .int 0, .int 0, .int 40, .int 0, .null, .int 0, .int 0])), (gl, .inr (4, [.int 0, .ref G.1, .int 0])), (po, .inr (4, [.int 0, .ref G.1, .int 0])), (pi, .inr (4, [.int 0, .ref G.1, .int 0])), (bu, .inl (ci, 4, .inl (fun _ => 0))), (pa, .inl (cj, 4, .inl (fun _ => 0))), (ou, .inl (cJ, 1, .inr (.inl (fun _ => 0)))), (od, .inl (cD, 1, .inr (.inr (.inr (.inl (fun _ => 0))))))] H) (hD : va_D A [(xo, .inr (11, [.ref xg, .int 0, .ref xp, .int 0, .ref xq, .int 0, .ref r1, .ref r2, .ref r3, .ref r4, .ref se, .int 0, .int 0, .int 40, .int 0, .int 0])), (xg, .inl (cg, 6, .inr (.inr (.inr (.inr (fun _ => none)))))), (xp, .inl (cp, 4, .inr (.inr (.inr (.inr (fun _ => none)))))), (xq, .inl (cq, 16, .inr (.inr (.inr (.inr (fun _ => none)))))), (r1, .inr (9, [.int 0, .int 0])), (r2, .inr (9, [.int 0, .int 0])), (r3, .inr (9, [.int 0, .int 0])), (r4, .inr (9, [.int 0, .int 0])), (se, .inr (10, [.ref n1, .ref n2, .ref n3, .int 0, .int 0, .int 0, .int 0])), (mo, .inr (16, [.int 0, .ref gl, .ref po, .ref pi, .ref bu, .ref pa, .int 0, .int 0, .int 40, .int 0, .null, .int 0, .int 0])), (gl, .inr (4, [.int 0, .ref G.1, .int 0])), (po, .inr (4, [.int 0, .ref G.1, .int 0])), (pi, .inr (4, [.int 0, .ref G.1, .int 0])), (bu, .inl (ci, 4, .inl (fun _ => 0))), (pa, .inl (cj, 4, .inl (fun _ => 0))), (ou, .inl (cJ, 1, .inr (.inl (fun _ => 0)))), (od, .inl (cD, 1, .inr (.inr (.inr (.inl (fun _ => 0))))))]) (hS : va_S A s.heap H locs) (hl : lv_has ls 9 [(5, .int 0), (4, .ref od), (3, .ref ou), (2, .ref mo), (1, .ref xo), (0, .ref b)]) (hE : ∀ (H : Heap) (locs : List Loc) (ls : Array Slot), va_S A s.heap H locs → lv_has ls 9 [(0, .ref b), (5, .int 0)] → W p l e room_1 s m args below meth c H locs 797152 6710780 Q (F0 m 2999 ls [])) : W p l e room_1 s m args below meth c H locs 60 300 Q (F0 m 1610 ls []) := by
  have hP := hP.sub (ws' := [(xo, .inr (11, [.ref xg, .int 0, .ref xp, .int 0, .ref xq, .int 0, .ref r1, .ref r2, .ref r3, .ref r4, .ref se, .int 0, .int 0, .int 40, .int 0, .int 0])), (xq, .inl (cq, 16, .inr (.inr (.inr (.inr (fun _ => none)))))), (mo, .inr (16, [.int 0, .ref gl, .ref po, .ref pi, .ref bu, .ref pa, .int 0, .int 0, .int 40, .int 0, .null, .int 0, .int 0])), (pi, .inr (4, [.int 0, .ref G.1, .int 0])), (ou, .inl (cJ, 1, .inr (.inl (fun _ => 0))))]) [0, 3, 9, 12, 15] rfl
  have hD := hD.sub (ws' := [(xo, .inr (11, [.ref xg, .int 0, .ref xp, .int 0, .ref xq, .int 0, .ref r1, .ref r2, .ref r3, .ref r4, .ref se, .int 0, .int 0, .int 40, .int 0, .int 0])), (xq, .inl (cq, 16, .inr (.inr (.inr (.inr (fun _ => none)))))), (mo, .inr (16, [.int 0, .ref gl, .ref po, .ref pi, .ref bu, .ref pa, .int 0, .int 0, .int 40, .int 0, .null, .int 0, .int 0])), (pi, .inr (4, [.int 0, .ref G.1, .int 0])), (ou, .inl (cJ, 1, .inr (.inl (fun _ => 0))))]) [0, 3, 9, 12, 15] (by decide) rfl
  have hK := hK.sub (tys' := [(cq, .object "Gatherhouse$Piece"), (cJ, .long)]) [2, 5] rfl
  refine lv_aload_n hx hb dL_law_1610 rfl (lv_at hl 4 rfl) ?_
  refine lv_aload_n hx hb dL_law_1611 rfl (lv_at hl 5 rfl) ?_
  refine lv_iload hx hb dL_law_1612 (lv_at hl 0 rfl) ?_
  refine lv_iconst (v := 1) hx hb dL_law_1614 (by decide) ?_
  refine lv_iadd hx hb dL_law_1615 ?_
  refine lv_topi (fun y_1099 ey_1099 => ?_)
  have ey_1099 : y_1099 = 1 := ey_1099.trans (by decide +kernel)
  subst ey_1099
  refine va_sld hx hb hX hbl hbA hS (vp_in_iff.mpr (by rw [hL]; decide +kernel)) dL_law_1616 ?_
  refine lv_aload_n hx hb dL_law_1617 rfl (lv_at hl 2 rfl) ?_
  have hFc := va_free (wc := [(xo, .inr (11, [.ref xg, .int 0, .ref xp, .int 0, .ref xq, .int 0, .ref r1, .ref r2, .ref r3, .ref r4, .ref se, .int 0, .int 0, .int 40, .int 0, .int 0])), (xq, .inl (cq, 16, .inr (.inr (.inr (.inr (fun _ => none)))))), (ou, .inl (cJ, 1, .inr (.inl (fun _ => 0))))]) hD hS hA [0, 1, 4] rfl
  refine vx_calli (vx_runSX (As := [.ref xo, .int (xs (1 : Int32).toNatClampNeg), .ref ou]) (rest := []) ⟨hx, hb, hml, hown, hts⟩ (zc_L_state l hnt D G xo xg xp xq r1 r2 r3 r4 se 0 0 cq ou cJ (xs (1 : Int32).toNatClampNeg) H.size) (vx_cwSW 3 hts gzL_law_L_state_235 rfl rfl rfl (by decide +kernel) ⟨(Nat.le_of_ble_eq_true rfl), (Nat.le_of_ble_eq_true rfl)⟩) ⟨p_RW_blind, (p_RW_at (tc := [(cq, .object "Gatherhouse$Piece"), (cJ, .long)]) (wc := [(xo, .inr (11, [.ref xg, .int 0, .ref xp, .int 0, .ref xq, .int 0, .ref r1, .ref r2, .ref r3, .ref r4, .ref se, .int 0, .int 0, .int 40, .int 0, .int 0])), (xq, .inl (cq, 16, .inr (.inr (.inr (.inr (fun _ => none)))))), (ou, .inl (cJ, 1, .inr (.inl (fun _ => 0))))]) hP hK hD hS hA hT hZ [0, 1, 4] [0, 1] rfl rfl (by decide) rfl [.ref xo, .int (xs (1 : Int32).toNatClampNeg), .ref ou])⟩ rfl rfl hl.1 rfl (lv_room (Nat.le_of_ble_eq_true rfl)) dL_law_1618 ⟨(Nat.le_of_ble_eq_true rfl), (Nat.le_of_ble_eq_true rfl)⟩) hS (fun q _ h => hFc q h) hFc (fun q _ h => hFc q h) (fun E ce q9 u t H locs ht hvm hpx hBX hz1 hk1 hS hce hcv hcl => ?_) (fun r_1100 u t H locs ht hvm w_1101 hB hz1 hk1 hS => ?_)
  · exact (show False from hBX).elim
  · obtain ⟨hP, hD, hK⟩ := q_join (D := D) (wc := [(xo, .inr (11, [.ref xg, .int 0, .ref xp, .int 0, .ref xq, .int 0, .ref r1, .ref r2, .ref r3, .ref r4, .ref se, .int 0, .int 0, .int 40, .int 0, .int 0])), (xq, .inl (cq, 16, .inr (.inr (.inr (.inr (fun _ => none)))))), (ou, .inl (cJ, 1, .inr (.inl (fun _ => 0))))]) (wr := [(mo, .inr (16, [.int 0, .ref gl, .ref po, .ref pi, .ref bu, .ref pa, .int 0, .int 0, .int 40, .int 0, .null, .int 0, .int 0])), (pi, .inr (4, [.int 0, .ref G.1, .int 0]))]) (w1 := []) (tyr := [(cq, .object "Gatherhouse$Piece"), (cJ, .long)]) (ty1 := []) hP hD hK [0, 1, 4] [2, 3] [0, 1] rfl rfl (by decide) (by decide) rfl hFc hk1 ht hvm (q_none hK hvm)
    have hP : va_P D vwCl [(mo, .inr (16, [.int 0, .ref gl, .ref po, .ref pi, .ref bu, .ref pa, .int 0, .int 0, .int 40, .int 0, .null, .int 0, .int 0])), (pi, .inr (4, [.int 0, .ref G.1, .int 0]))] H := hP
    have hD : va_D A [(mo, .inr (16, [.int 0, .ref gl, .ref po, .ref pi, .ref bu, .ref pa, .int 0, .int 0, .int 40, .int 0, .null, .int 0, .int 0])), (pi, .inr (4, [.int 0, .ref G.1, .int 0]))] := hD
    have hK : va_K D vwCl [(cq, .object "Gatherhouse$Piece"), (cJ, .long)] s := hK
    refine W.widen (k := 61) (n := 306) (Nat.le_of_ble_eq_true rfl) (Nat.le_of_ble_eq_true rfl) ?_
    obtain rfl := w_1101
    refine lv_istore (lv' := [(6, .int 1), (5, .int 0), (4, .ref od), (3, .ref ou), (2, .ref mo), (1, .ref xo), (0, .ref b)]) hx hb dL_law_1621 hl (by decide) rfl (fun ls hl => ?_)
    refine lv_aload_n hx hb dL_law_1623 rfl (lv_at hl 4 rfl) ?_
    refine lv_aload_n hx hb dL_law_1624 rfl (lv_at hl 6 rfl) ?_
    refine lv_iload hx hb dL_law_1625 (lv_at hl 1 rfl) ?_
    refine lv_iconst (v := 1) hx hb dL_law_1627 (by decide) ?_
    refine lv_iadd hx hb dL_law_1628 ?_
    refine lv_topi (fun y_1102 ey_1102 => ?_)
    have ey_1102 : y_1102 = 1 := ey_1102.trans (by decide +kernel)
    subst ey_1102
    refine va_sld hx hb hX hbl hbA hS (vp_in_iff.mpr (by rw [hL]; decide +kernel)) dL_law_1629 ?_
    have hFc := va_free (wc := [(mo, .inr (16, [.int 0, .ref gl, .ref po, .ref pi, .ref bu, .ref pa, .int 0, .int 0, .int 40, .int 0, .null, .int 0, .int 0])), (pi, .inr (4, [.int 0, .ref G.1, .int 0]))]) hD hS hA [0, 1] rfl
    refine va_calli (va_runV (As := [.int (xs (1 : Int32).toNatClampNeg)]) (rest := []) ⟨hx, hb, hml, hown, hts⟩ (zc_X11_state l D G mo gl po pi bu pa 0 0 0 (xs (1 : Int32).toNatClampNeg) H.size) (cwV 1 hts gzL_law_X11_state_237 rfl rfl rfl (by decide +kernel) ⟨(Nat.le_of_ble_eq_true rfl), (Nat.le_of_ble_eq_true rfl)⟩) ⟨p_RW_blind, va_recv hK hP (ci := 16) (q0 := 0) rfl rfl, (p_RW_at (tc := []) (wc := [(mo, .inr (16, [.int 0, .ref gl, .ref po, .ref pi, .ref bu, .ref pa, .int 0, .int 0, .int 40, .int 0, .null, .int 0, .int 0])), (pi, .inr (4, [.int 0, .ref G.1, .int 0]))]) hP hK hD hS hA hT hZ [0, 1] [] rfl rfl (by decide) rfl [.ref mo, .int (xs (1 : Int32).toNatClampNeg)])⟩ rfl rfl hl.1 rfl (lv_room (Nat.le_of_ble_eq_true rfl)) dL_law_1630 ⟨(Nat.le_of_ble_eq_true rfl), (Nat.le_of_ble_eq_true rfl)⟩) hS (fun q _ h => hFc q h) hFc (fun r_1103 u t H locs ht hvm w_1104 hB hz1 hk1 hS => ?_)
    obtain ⟨hP, hD, hK⟩ := q_join (D := D) (wc := [(mo, .inr (16, [.int 0, .ref gl, .ref po, .ref pi, .ref bu, .ref pa, .int 0, .int 0, .int 40, .int 0, .null, .int 0, .int 0])), (pi, .inr (4, [.int 0, .ref G.1, .int 0]))]) (wr := []) (w1 := [(mo, .inr (16, [.int 1, .ref gl, .ref po, .ref pi, .ref bu, .ref pa, .int 0, .int 0, .int 40, .int 0, .null, .int 0, .int 0])), (pi, .inr (4, [.int 0, .ref G.1, .int 0]))]) (tyr := [(cq, .object "Gatherhouse$Piece"), (cJ, .long)]) (ty1 := []) hP hD hK [0, 1] [] [0, 1] rfl rfl (by decide) (by decide) rfl hFc hk1 ht hvm hB
    have hP : va_P D vwCl [(mo, .inr (16, [.int 1, .ref gl, .ref po, .ref pi, .ref bu, .ref pa, .int 0, .int 0, .int 40, .int 0, .null, .int 0, .int 0])), (pi, .inr (4, [.int 0, .ref G.1, .int 0]))] H := hP
    have hD : va_D A [(mo, .inr (16, [.int 1, .ref gl, .ref po, .ref pi, .ref bu, .ref pa, .int 0, .int 0, .int 40, .int 0, .null, .int 0, .int 0])), (pi, .inr (4, [.int 0, .ref G.1, .int 0]))] := hD
    have hK : va_K D vwCl [(cq, .object "Gatherhouse$Piece"), (cJ, .long)] s := hK
    obtain rfl := w_1104
    refine lv_istore (lv' := [(7, .int 32), (6, .int 1), (5, .int 0), (4, .ref od), (3, .ref ou), (2, .ref mo), (1, .ref xo), (0, .ref b)]) hx hb dL_law_1633 hl (by decide) rfl (fun ls hl => ?_)
    refine lv_aload_n hx hb dL_law_1635 rfl (lv_at hl 5 rfl) ?_
    refine vp_callSi (va_runV (As := []) (rest := []) ⟨hx, hb, hml, hown, hts⟩ (zc_X11_thrown l D G mo gl po pi bu pa 1 0 0 40) (cwV 0 hts gzL_law_X11_thrown_165 rfl rfl rfl (by decide +kernel) ⟨(Nat.le_of_ble_eq_true rfl), (Nat.le_of_ble_eq_true rfl)⟩) ⟨p_RO_blind, va_recv hK hP (ci := 16) (q0 := 0) rfl rfl, (p_RO_at (tc := []) (wc := [(mo, .inr (16, [.int 1, .ref gl, .ref po, .ref pi, .ref bu, .ref pa, .int 0, .int 0, .int 40, .int 0, .null, .int 0, .int 0]))]) hP hK hT [0] [] rfl rfl [.ref mo])⟩ rfl rfl hl.1 rfl (lv_room (Nat.le_of_ble_eq_true rfl)) dL_law_1636 ⟨(Nat.le_of_ble_eq_true rfl), (Nat.le_of_ble_eq_true rfl)⟩).run (fun r_1105 w_1106 => ?_)
    obtain rfl := w_1106
    refine lv_iload hx hb dL_law_1639 (lv_at hl 1 rfl) ?_
    refine lv_icmp_eq (tgt := 1646) hx hb dL_law_1641 (by decide) (fun _ => ?_) (fun cc => absurd (by decide) cc)
    refine lv_iload hx hb dL_law_1646 (lv_at hl 1 rfl) ?_
    refine lv_if_ne (tgt := 1663) hx hb dL_law_1648 (by decide) (fun _ => ?_) (fun cc => absurd cc (by decide))
    refine lv_goto (tgt := 2999) hx hb dL_law_1663 (by decide) ?_
    refine W.widen (k := 797152) (n := 6710780) (Nat.le_of_ble_eq_true rfl) (Nat.le_of_ble_eq_true rfl) ?_
    exact hE _ _ _ hS (lv_sub hl [7, 2] rfl)
theorem dL_law_1666 : decode cL_law 1666 = .ok (.aload_n 1, 1) := by decide +kernel
theorem dL_law_1667 : decode cL_law 1667 = .ok (.aload_n 0, 1) := by decide +kernel
theorem dL_law_1668 : decode cL_law 1668 = .ok (.iload 5, 2) := by decide +kernel
theorem dL_law_1670 : decode cL_law 1670 = .ok (.iconst 1, 1) := by decide +kernel
theorem dL_law_1671 : decode cL_law 1671 = .ok (.iadd, 1) := by decide +kernel
theorem dL_law_1672 : decode cL_law 1672 = .ok (.iaload, 1) := by decide +kernel
theorem dL_law_1673 : decode cL_law 1673 = .ok (.aload_n 3, 1) := by decide +kernel
theorem dL_law_1674 : decode cL_law 1674 = .ok (.invokestatic 238, 3) := by decide +kernel
theorem dL_law_1677 : decode cL_law 1677 = .ok (.istore 6, 2) := by decide +kernel
theorem dL_law_1679 : decode cL_law 1679 = .ok (.aload_n 2, 1) := by decide +kernel
theorem dL_law_1680 : decode cL_law 1680 = .ok (.aload_n 0, 1) := by decide +kernel
theorem dL_law_1681 : decode cL_law 1681 = .ok (.iload 5, 2) := by decide +kernel
theorem dL_law_1683 : decode cL_law 1683 = .ok (.iconst 1, 1) := by decide +kernel
theorem dL_law_1684 : decode cL_law 1684 = .ok (.iadd, 1) := by decide +kernel
theorem dL_law_1685 : decode cL_law 1685 = .ok (.iaload, 1) := by decide +kernel
theorem dL_law_1686 : decode cL_law 1686 = .ok (.invokevirtual 240, 3) := by decide +kernel
theorem dL_law_1689 : decode cL_law 1689 = .ok (.istore 7, 2) := by decide +kernel
theorem dL_law_1691 : decode cL_law 1691 = .ok (.aload_n 2, 1) := by decide +kernel
theorem dL_law_1692 : decode cL_law 1692 = .ok (.invokevirtual 165, 3) := by decide +kernel
theorem dL_law_1695 : decode cL_law 1695 = .ok (.iload 6, 2) := by decide +kernel
theorem dL_law_1697 : decode cL_law 1697 = .ok (.if_icmp .eq 5, 3) := by decide +kernel
theorem dL_law_1702 : decode cL_law 1702 = .ok (.iload 6, 2) := by decide +kernel
theorem dL_law_1704 : decode cL_law 1704 = .ok (.ifCond .ne 15, 3) := by decide +kernel
theorem dL_law_1719 : decode cL_law 1719 = .ok (.goto 1280, 3) := by decide +kernel
set_option maxHeartbeats 4000000 in
set_option maxRecDepth 100000 in
theorem zl_22 {p : Program} {e : Env} {s : State} {m : MethodId} {below : List Frame} {meth : Method} {c : Code} {Q : State → Prop} {args : Array Value} (l : Launch) (hnt : l.stackTraces = false) (D : va_G) (G : Nat × Nat × Nat) (xo : Nat) (xg : Nat) (xp : Nat) (xq : Nat) (r1 : Nat) (r2 : Nat) (r3 : Nat) (r4 : Nat) (se : Nat) (n1 : Nat) (n2 : Nat) (n3 : Nat) (mo : Nat) (gl : Nat) (po : Nat) (pi : Nat) (bu : Nat) (pa : Nat) (ou : Nat) (od : Nat) (cg : ClassId) (cp : ClassId) (cq : ClassId) (ci : ClassId) (cj : ClassId) (cJ : ClassId) (cD : ClassId) {b L : Nat} {xs : Nat → Int32} {A : Nat → Prop} {H : Heap} {locs : List Loc} {ls : Array Slot} (hx : p.tables.exec = Jvm.exec) (hb : c.code = code) (hml : c.maxLocals = 9) (hown : s.vm.findClass RL = some m.cls) (hts : ∀ w ∈ wzL_law, w.before args s = true) (hT : FT G s) (hA : ∀ q : Nat, s.heap.size ≤ q → A q) (hZ : FZ G A s s.heap) (hX : va_X b L xs s s.heap) (hbl : b < s.heap.size) (hbA : ¬ A b) (hL : L = 5) (hK : va_K D vwCl [(cg, .object "Gatherhouse$Glass"), (cp, .object "Gatherhouse$Pot"), (cq, .object "Gatherhouse$Piece"), (ci, .int), (cj, .int), (cJ, .long), (cD, .double)] s) (hP : va_P D vwCl [(xo, .inr (11, [.ref xg, .int 0, .ref xp, .int 0, .ref xq, .int 0, .ref r1, .ref r2, .ref r3, .ref r4, .ref se, .int 0, .int 0, .int 40, .int 0, .int 0])), (xg, .inl (cg, 6, .inr (.inr (.inr (.inr (fun _ => none)))))), (xp, .inl (cp, 4, .inr (.inr (.inr (.inr (fun _ => none)))))), (xq, .inl (cq, 16, .inr (.inr (.inr (.inr (fun _ => none)))))), (r1, .inr (9, [.int 0, .int 0])), (r2, .inr (9, [.int 0, .int 0])), (r3, .inr (9, [.int 0, .int 0])), (r4, .inr (9, [.int 0, .int 0])), (se, .inr (10, [.ref n1, .ref n2, .ref n3, .int 0, .int 0, .int 0, .int 0])), (mo, .inr (16, [.int 0, .ref gl, .ref po, .ref pi, .ref bu, .ref pa, .int 0, .int 0, .int 40, .int 0, .null, .int 0, .int 0])), (gl, .inr (4, [.int 0, .ref G.1, .int 0])), (po, .inr (4, [.int 0, .ref G.1, .int 0])), (pi, .inr (4, [.int 0, .ref G.1, .int 0])), (bu, .inl (ci, 4, .inl (fun _ => 0))), (pa, .inl (cj, 4, .inl (fun _ => 0))), (ou, .inl (cJ, 1, .inr (.inl (fun _ => 0)))), (od, .inl (cD, 1, .inr (.inr (.inr (.inl (fun _ => 0))))))] H) (hD : va_D A [(xo, .inr (11, [.ref xg, .int 0, .ref xp, .int 0, .ref xq, .int 0, .ref r1, .ref r2, .ref r3, .ref r4, .ref se, .int 0, .int 0, .int 40, .int 0, .int 0])), (xg, .inl (cg, 6, .inr (.inr (.inr (.inr (fun _ => none)))))), (xp, .inl (cp, 4, .inr (.inr (.inr (.inr (fun _ => none)))))), (xq, .inl (cq, 16, .inr (.inr (.inr (.inr (fun _ => none)))))), (r1, .inr (9, [.int 0, .int 0])), (r2, .inr (9, [.int 0, .int 0])), (r3, .inr (9, [.int 0, .int 0])), (r4, .inr (9, [.int 0, .int 0])), (se, .inr (10, [.ref n1, .ref n2, .ref n3, .int 0, .int 0, .int 0, .int 0])), (mo, .inr (16, [.int 0, .ref gl, .ref po, .ref pi, .ref bu, .ref pa, .int 0, .int 0, .int 40, .int 0, .null, .int 0, .int 0])), (gl, .inr (4, [.int 0, .ref G.1, .int 0])), (po, .inr (4, [.int 0, .ref G.1, .int 0])), (pi, .inr (4, [.int 0, .ref G.1, .int 0])), (bu, .inl (ci, 4, .inl (fun _ => 0))), (pa, .inl (cj, 4, .inl (fun _ => 0))), (ou, .inl (cJ, 1, .inr (.inl (fun _ => 0)))), (od, .inl (cD, 1, .inr (.inr (.inr (.inl (fun _ => 0))))))]) (hS : va_S A s.heap H locs) (hl : lv_has ls 9 [(5, .int 0), (4, .ref od), (3, .ref ou), (2, .ref mo), (1, .ref xo), (0, .ref b)]) (hE : ∀ (H : Heap) (locs : List Loc) (ls : Array Slot), va_S A s.heap H locs → lv_has ls 9 [(0, .ref b), (5, .int 0)] → W p l e room_1 s m args below meth c H locs 797152 6710780 Q (F0 m 2999 ls [])) : W p l e room_1 s m args below meth c H locs 60 300 Q (F0 m 1666 ls []) := by
  have hP := hP.sub (ws' := [(xo, .inr (11, [.ref xg, .int 0, .ref xp, .int 0, .ref xq, .int 0, .ref r1, .ref r2, .ref r3, .ref r4, .ref se, .int 0, .int 0, .int 40, .int 0, .int 0])), (xq, .inl (cq, 16, .inr (.inr (.inr (.inr (fun _ => none)))))), (mo, .inr (16, [.int 0, .ref gl, .ref po, .ref pi, .ref bu, .ref pa, .int 0, .int 0, .int 40, .int 0, .null, .int 0, .int 0])), (pi, .inr (4, [.int 0, .ref G.1, .int 0])), (ou, .inl (cJ, 1, .inr (.inl (fun _ => 0))))]) [0, 3, 9, 12, 15] rfl
  have hD := hD.sub (ws' := [(xo, .inr (11, [.ref xg, .int 0, .ref xp, .int 0, .ref xq, .int 0, .ref r1, .ref r2, .ref r3, .ref r4, .ref se, .int 0, .int 0, .int 40, .int 0, .int 0])), (xq, .inl (cq, 16, .inr (.inr (.inr (.inr (fun _ => none)))))), (mo, .inr (16, [.int 0, .ref gl, .ref po, .ref pi, .ref bu, .ref pa, .int 0, .int 0, .int 40, .int 0, .null, .int 0, .int 0])), (pi, .inr (4, [.int 0, .ref G.1, .int 0])), (ou, .inl (cJ, 1, .inr (.inl (fun _ => 0))))]) [0, 3, 9, 12, 15] (by decide) rfl
  have hK := hK.sub (tys' := [(cq, .object "Gatherhouse$Piece"), (cJ, .long)]) [2, 5] rfl
  refine lv_aload_n hx hb dL_law_1666 rfl (lv_at hl 4 rfl) ?_
  refine lv_aload_n hx hb dL_law_1667 rfl (lv_at hl 5 rfl) ?_
  refine lv_iload hx hb dL_law_1668 (lv_at hl 0 rfl) ?_
  refine lv_iconst (v := 1) hx hb dL_law_1670 (by decide) ?_
  refine lv_iadd hx hb dL_law_1671 ?_
  refine lv_topi (fun y_1107 ey_1107 => ?_)
  have ey_1107 : y_1107 = 1 := ey_1107.trans (by decide +kernel)
  subst ey_1107
  refine va_sld hx hb hX hbl hbA hS (vp_in_iff.mpr (by rw [hL]; decide +kernel)) dL_law_1672 ?_
  refine lv_aload_n hx hb dL_law_1673 rfl (lv_at hl 2 rfl) ?_
  have hFc := va_free (wc := [(xo, .inr (11, [.ref xg, .int 0, .ref xp, .int 0, .ref xq, .int 0, .ref r1, .ref r2, .ref r3, .ref r4, .ref se, .int 0, .int 0, .int 40, .int 0, .int 0])), (xq, .inl (cq, 16, .inr (.inr (.inr (.inr (fun _ => none)))))), (ou, .inl (cJ, 1, .inr (.inl (fun _ => 0))))]) hD hS hA [0, 1, 4] rfl
  refine vx_calli (vx_runSX (As := [.ref xo, .int (xs (1 : Int32).toNatClampNeg), .ref ou]) (rest := []) ⟨hx, hb, hml, hown, hts⟩ (zc_L_heatOf l hnt D G xo xg xp xq r1 r2 r3 r4 se 0 0 cq ou cJ (xs (1 : Int32).toNatClampNeg) H.size) (vx_cwSW 3 hts gzL_law_L_heatOf_238 rfl rfl rfl (by decide +kernel) ⟨(Nat.le_of_ble_eq_true rfl), (Nat.le_of_ble_eq_true rfl)⟩) ⟨p_RW_blind, (p_RW_at (tc := [(cq, .object "Gatherhouse$Piece"), (cJ, .long)]) (wc := [(xo, .inr (11, [.ref xg, .int 0, .ref xp, .int 0, .ref xq, .int 0, .ref r1, .ref r2, .ref r3, .ref r4, .ref se, .int 0, .int 0, .int 40, .int 0, .int 0])), (xq, .inl (cq, 16, .inr (.inr (.inr (.inr (fun _ => none)))))), (ou, .inl (cJ, 1, .inr (.inl (fun _ => 0))))]) hP hK hD hS hA hT hZ [0, 1, 4] [0, 1] rfl rfl (by decide) rfl [.ref xo, .int (xs (1 : Int32).toNatClampNeg), .ref ou])⟩ rfl rfl hl.1 rfl (lv_room (Nat.le_of_ble_eq_true rfl)) dL_law_1674 ⟨(Nat.le_of_ble_eq_true rfl), (Nat.le_of_ble_eq_true rfl)⟩) hS (fun q _ h => hFc q h) hFc (fun q _ h => hFc q h) (fun E ce q9 u t H locs ht hvm hpx hBX hz1 hk1 hS hce hcv hcl => ?_) (fun r_1108 u t H locs ht hvm w_1109 hB hz1 hk1 hS => ?_)
  · exact (show False from hBX).elim
  · obtain ⟨hP, hD, hK⟩ := q_join (D := D) (wc := [(xo, .inr (11, [.ref xg, .int 0, .ref xp, .int 0, .ref xq, .int 0, .ref r1, .ref r2, .ref r3, .ref r4, .ref se, .int 0, .int 0, .int 40, .int 0, .int 0])), (xq, .inl (cq, 16, .inr (.inr (.inr (.inr (fun _ => none)))))), (ou, .inl (cJ, 1, .inr (.inl (fun _ => 0))))]) (wr := [(mo, .inr (16, [.int 0, .ref gl, .ref po, .ref pi, .ref bu, .ref pa, .int 0, .int 0, .int 40, .int 0, .null, .int 0, .int 0])), (pi, .inr (4, [.int 0, .ref G.1, .int 0]))]) (w1 := []) (tyr := [(cq, .object "Gatherhouse$Piece"), (cJ, .long)]) (ty1 := []) hP hD hK [0, 1, 4] [2, 3] [0, 1] rfl rfl (by decide) (by decide) rfl hFc hk1 ht hvm (q_none hK hvm)
    have hP : va_P D vwCl [(mo, .inr (16, [.int 0, .ref gl, .ref po, .ref pi, .ref bu, .ref pa, .int 0, .int 0, .int 40, .int 0, .null, .int 0, .int 0])), (pi, .inr (4, [.int 0, .ref G.1, .int 0]))] H := hP
    have hD : va_D A [(mo, .inr (16, [.int 0, .ref gl, .ref po, .ref pi, .ref bu, .ref pa, .int 0, .int 0, .int 40, .int 0, .null, .int 0, .int 0])), (pi, .inr (4, [.int 0, .ref G.1, .int 0]))] := hD
    have hK : va_K D vwCl [(cq, .object "Gatherhouse$Piece"), (cJ, .long)] s := hK
    refine W.widen (k := 61) (n := 306) (Nat.le_of_ble_eq_true rfl) (Nat.le_of_ble_eq_true rfl) ?_
    obtain rfl := w_1109
    refine lv_istore (lv' := [(6, .int 1), (5, .int 0), (4, .ref od), (3, .ref ou), (2, .ref mo), (1, .ref xo), (0, .ref b)]) hx hb dL_law_1677 hl (by decide) rfl (fun ls hl => ?_)
    refine lv_aload_n hx hb dL_law_1679 rfl (lv_at hl 4 rfl) ?_
    refine lv_aload_n hx hb dL_law_1680 rfl (lv_at hl 6 rfl) ?_
    refine lv_iload hx hb dL_law_1681 (lv_at hl 1 rfl) ?_
    refine lv_iconst (v := 1) hx hb dL_law_1683 (by decide) ?_
    refine lv_iadd hx hb dL_law_1684 ?_
    refine lv_topi (fun y_1110 ey_1110 => ?_)
    have ey_1110 : y_1110 = 1 := ey_1110.trans (by decide +kernel)
    subst ey_1110
    refine va_sld hx hb hX hbl hbA hS (vp_in_iff.mpr (by rw [hL]; decide +kernel)) dL_law_1685 ?_
    have hFc := va_free (wc := [(mo, .inr (16, [.int 0, .ref gl, .ref po, .ref pi, .ref bu, .ref pa, .int 0, .int 0, .int 40, .int 0, .null, .int 0, .int 0])), (pi, .inr (4, [.int 0, .ref G.1, .int 0]))]) hD hS hA [0, 1] rfl
    refine va_calli (va_runV (As := [.int (xs (1 : Int32).toNatClampNeg)]) (rest := []) ⟨hx, hb, hml, hown, hts⟩ (zc_X11_heatOf l D G mo gl po pi bu pa 0 0 0 (xs (1 : Int32).toNatClampNeg) H.size) (cwV 1 hts gzL_law_X11_heatOf_240 rfl rfl rfl (by decide +kernel) ⟨(Nat.le_of_ble_eq_true rfl), (Nat.le_of_ble_eq_true rfl)⟩) ⟨p_RW_blind, va_recv hK hP (ci := 16) (q0 := 0) rfl rfl, (p_RW_at (tc := []) (wc := [(mo, .inr (16, [.int 0, .ref gl, .ref po, .ref pi, .ref bu, .ref pa, .int 0, .int 0, .int 40, .int 0, .null, .int 0, .int 0])), (pi, .inr (4, [.int 0, .ref G.1, .int 0]))]) hP hK hD hS hA hT hZ [0, 1] [] rfl rfl (by decide) rfl [.ref mo, .int (xs (1 : Int32).toNatClampNeg)])⟩ rfl rfl hl.1 rfl (lv_room (Nat.le_of_ble_eq_true rfl)) dL_law_1686 ⟨(Nat.le_of_ble_eq_true rfl), (Nat.le_of_ble_eq_true rfl)⟩) hS (fun q _ h => hFc q h) hFc (fun r_1111 u t H locs ht hvm w_1112 hB hz1 hk1 hS => ?_)
    obtain ⟨hP, hD, hK⟩ := q_join (D := D) (wc := [(mo, .inr (16, [.int 0, .ref gl, .ref po, .ref pi, .ref bu, .ref pa, .int 0, .int 0, .int 40, .int 0, .null, .int 0, .int 0])), (pi, .inr (4, [.int 0, .ref G.1, .int 0]))]) (wr := []) (w1 := [(mo, .inr (16, [.int 1, .ref gl, .ref po, .ref pi, .ref bu, .ref pa, .int 0, .int 0, .int 40, .int 0, .null, .int 0, .int 0])), (pi, .inr (4, [.int 0, .ref G.1, .int 0]))]) (tyr := [(cq, .object "Gatherhouse$Piece"), (cJ, .long)]) (ty1 := []) hP hD hK [0, 1] [] [0, 1] rfl rfl (by decide) (by decide) rfl hFc hk1 ht hvm hB
    have hP : va_P D vwCl [(mo, .inr (16, [.int 1, .ref gl, .ref po, .ref pi, .ref bu, .ref pa, .int 0, .int 0, .int 40, .int 0, .null, .int 0, .int 0])), (pi, .inr (4, [.int 0, .ref G.1, .int 0]))] H := hP
    have hD : va_D A [(mo, .inr (16, [.int 1, .ref gl, .ref po, .ref pi, .ref bu, .ref pa, .int 0, .int 0, .int 40, .int 0, .null, .int 0, .int 0])), (pi, .inr (4, [.int 0, .ref G.1, .int 0]))] := hD
    have hK : va_K D vwCl [(cq, .object "Gatherhouse$Piece"), (cJ, .long)] s := hK
    obtain rfl := w_1112
    refine lv_istore (lv' := [(7, .int 0), (6, .int 1), (5, .int 0), (4, .ref od), (3, .ref ou), (2, .ref mo), (1, .ref xo), (0, .ref b)]) hx hb dL_law_1689 hl (by decide) rfl (fun ls hl => ?_)
    refine lv_aload_n hx hb dL_law_1691 rfl (lv_at hl 5 rfl) ?_
    refine vp_callSi (va_runV (As := []) (rest := []) ⟨hx, hb, hml, hown, hts⟩ (zc_X11_thrown l D G mo gl po pi bu pa 1 0 0 40) (cwV 0 hts gzL_law_X11_thrown_165 rfl rfl rfl (by decide +kernel) ⟨(Nat.le_of_ble_eq_true rfl), (Nat.le_of_ble_eq_true rfl)⟩) ⟨p_RO_blind, va_recv hK hP (ci := 16) (q0 := 0) rfl rfl, (p_RO_at (tc := []) (wc := [(mo, .inr (16, [.int 1, .ref gl, .ref po, .ref pi, .ref bu, .ref pa, .int 0, .int 0, .int 40, .int 0, .null, .int 0, .int 0]))]) hP hK hT [0] [] rfl rfl [.ref mo])⟩ rfl rfl hl.1 rfl (lv_room (Nat.le_of_ble_eq_true rfl)) dL_law_1692 ⟨(Nat.le_of_ble_eq_true rfl), (Nat.le_of_ble_eq_true rfl)⟩).run (fun r_1113 w_1114 => ?_)
    obtain rfl := w_1114
    refine lv_iload hx hb dL_law_1695 (lv_at hl 1 rfl) ?_
    refine lv_icmp_eq (tgt := 1702) hx hb dL_law_1697 (by decide) (fun _ => ?_) (fun cc => absurd (by decide) cc)
    refine lv_iload hx hb dL_law_1702 (lv_at hl 1 rfl) ?_
    refine lv_if_ne (tgt := 1719) hx hb dL_law_1704 (by decide) (fun _ => ?_) (fun cc => absurd cc (by decide))
    refine lv_goto (tgt := 2999) hx hb dL_law_1719 (by decide) ?_
    refine W.widen (k := 797152) (n := 6710780) (Nat.le_of_ble_eq_true rfl) (Nat.le_of_ble_eq_true rfl) ?_
    exact hE _ _ _ hS (lv_sub hl [7, 2] rfl)
theorem dL_law_1722 : decode cL_law 1722 = .ok (.aload_n 1, 1) := by decide +kernel
theorem dL_law_1723 : decode cL_law 1723 = .ok (.aload_n 0, 1) := by decide +kernel
theorem dL_law_1724 : decode cL_law 1724 = .ok (.iload 5, 2) := by decide +kernel
theorem dL_law_1726 : decode cL_law 1726 = .ok (.iconst 1, 1) := by decide +kernel
theorem dL_law_1727 : decode cL_law 1727 = .ok (.iadd, 1) := by decide +kernel
theorem dL_law_1728 : decode cL_law 1728 = .ok (.iaload, 1) := by decide +kernel
theorem dL_law_1729 : decode cL_law 1729 = .ok (.aload_n 3, 1) := by decide +kernel
theorem dL_law_1730 : decode cL_law 1730 = .ok (.invokestatic 241, 3) := by decide +kernel
theorem dL_law_1733 : decode cL_law 1733 = .ok (.istore 6, 2) := by decide +kernel
theorem dL_law_1735 : decode cL_law 1735 = .ok (.aload_n 2, 1) := by decide +kernel
theorem dL_law_1736 : decode cL_law 1736 = .ok (.aload_n 0, 1) := by decide +kernel
theorem dL_law_1737 : decode cL_law 1737 = .ok (.iload 5, 2) := by decide +kernel
theorem dL_law_1739 : decode cL_law 1739 = .ok (.iconst 1, 1) := by decide +kernel
theorem dL_law_1740 : decode cL_law 1740 = .ok (.iadd, 1) := by decide +kernel
theorem dL_law_1741 : decode cL_law 1741 = .ok (.iaload, 1) := by decide +kernel
theorem dL_law_1742 : decode cL_law 1742 = .ok (.invokevirtual 243, 3) := by decide +kernel
theorem dL_law_1745 : decode cL_law 1745 = .ok (.istore 7, 2) := by decide +kernel
theorem dL_law_1747 : decode cL_law 1747 = .ok (.aload_n 2, 1) := by decide +kernel
theorem dL_law_1748 : decode cL_law 1748 = .ok (.invokevirtual 165, 3) := by decide +kernel
theorem dL_law_1751 : decode cL_law 1751 = .ok (.iload 6, 2) := by decide +kernel
theorem dL_law_1753 : decode cL_law 1753 = .ok (.if_icmp .eq 5, 3) := by decide +kernel
theorem dL_law_1758 : decode cL_law 1758 = .ok (.iload 6, 2) := by decide +kernel
theorem dL_law_1760 : decode cL_law 1760 = .ok (.ifCond .ne 15, 3) := by decide +kernel
theorem dL_law_1775 : decode cL_law 1775 = .ok (.goto 1224, 3) := by decide +kernel
set_option maxHeartbeats 4000000 in
set_option maxRecDepth 100000 in
theorem zl_23 {p : Program} {e : Env} {s : State} {m : MethodId} {below : List Frame} {meth : Method} {c : Code} {Q : State → Prop} {args : Array Value} (l : Launch) (hnt : l.stackTraces = false) (D : va_G) (G : Nat × Nat × Nat) (xo : Nat) (xg : Nat) (xp : Nat) (xq : Nat) (r1 : Nat) (r2 : Nat) (r3 : Nat) (r4 : Nat) (se : Nat) (n1 : Nat) (n2 : Nat) (n3 : Nat) (mo : Nat) (gl : Nat) (po : Nat) (pi : Nat) (bu : Nat) (pa : Nat) (ou : Nat) (od : Nat) (cg : ClassId) (cp : ClassId) (cq : ClassId) (ci : ClassId) (cj : ClassId) (cJ : ClassId) (cD : ClassId) {b L : Nat} {xs : Nat → Int32} {A : Nat → Prop} {H : Heap} {locs : List Loc} {ls : Array Slot} (hx : p.tables.exec = Jvm.exec) (hb : c.code = code) (hml : c.maxLocals = 9) (hown : s.vm.findClass RL = some m.cls) (hts : ∀ w ∈ wzL_law, w.before args s = true) (hT : FT G s) (hA : ∀ q : Nat, s.heap.size ≤ q → A q) (hZ : FZ G A s s.heap) (hX : va_X b L xs s s.heap) (hbl : b < s.heap.size) (hbA : ¬ A b) (hL : L = 5) (hK : va_K D vwCl [(cg, .object "Gatherhouse$Glass"), (cp, .object "Gatherhouse$Pot"), (cq, .object "Gatherhouse$Piece"), (ci, .int), (cj, .int), (cJ, .long), (cD, .double)] s) (hP : va_P D vwCl [(xo, .inr (11, [.ref xg, .int 0, .ref xp, .int 0, .ref xq, .int 0, .ref r1, .ref r2, .ref r3, .ref r4, .ref se, .int 0, .int 0, .int 40, .int 0, .int 0])), (xg, .inl (cg, 6, .inr (.inr (.inr (.inr (fun _ => none)))))), (xp, .inl (cp, 4, .inr (.inr (.inr (.inr (fun _ => none)))))), (xq, .inl (cq, 16, .inr (.inr (.inr (.inr (fun _ => none)))))), (r1, .inr (9, [.int 0, .int 0])), (r2, .inr (9, [.int 0, .int 0])), (r3, .inr (9, [.int 0, .int 0])), (r4, .inr (9, [.int 0, .int 0])), (se, .inr (10, [.ref n1, .ref n2, .ref n3, .int 0, .int 0, .int 0, .int 0])), (mo, .inr (16, [.int 0, .ref gl, .ref po, .ref pi, .ref bu, .ref pa, .int 0, .int 0, .int 40, .int 0, .null, .int 0, .int 0])), (gl, .inr (4, [.int 0, .ref G.1, .int 0])), (po, .inr (4, [.int 0, .ref G.1, .int 0])), (pi, .inr (4, [.int 0, .ref G.1, .int 0])), (bu, .inl (ci, 4, .inl (fun _ => 0))), (pa, .inl (cj, 4, .inl (fun _ => 0))), (ou, .inl (cJ, 1, .inr (.inl (fun _ => 0)))), (od, .inl (cD, 1, .inr (.inr (.inr (.inl (fun _ => 0))))))] H) (hD : va_D A [(xo, .inr (11, [.ref xg, .int 0, .ref xp, .int 0, .ref xq, .int 0, .ref r1, .ref r2, .ref r3, .ref r4, .ref se, .int 0, .int 0, .int 40, .int 0, .int 0])), (xg, .inl (cg, 6, .inr (.inr (.inr (.inr (fun _ => none)))))), (xp, .inl (cp, 4, .inr (.inr (.inr (.inr (fun _ => none)))))), (xq, .inl (cq, 16, .inr (.inr (.inr (.inr (fun _ => none)))))), (r1, .inr (9, [.int 0, .int 0])), (r2, .inr (9, [.int 0, .int 0])), (r3, .inr (9, [.int 0, .int 0])), (r4, .inr (9, [.int 0, .int 0])), (se, .inr (10, [.ref n1, .ref n2, .ref n3, .int 0, .int 0, .int 0, .int 0])), (mo, .inr (16, [.int 0, .ref gl, .ref po, .ref pi, .ref bu, .ref pa, .int 0, .int 0, .int 40, .int 0, .null, .int 0, .int 0])), (gl, .inr (4, [.int 0, .ref G.1, .int 0])), (po, .inr (4, [.int 0, .ref G.1, .int 0])), (pi, .inr (4, [.int 0, .ref G.1, .int 0])), (bu, .inl (ci, 4, .inl (fun _ => 0))), (pa, .inl (cj, 4, .inl (fun _ => 0))), (ou, .inl (cJ, 1, .inr (.inl (fun _ => 0)))), (od, .inl (cD, 1, .inr (.inr (.inr (.inl (fun _ => 0))))))]) (hS : va_S A s.heap H locs) (hl : lv_has ls 9 [(5, .int 0), (4, .ref od), (3, .ref ou), (2, .ref mo), (1, .ref xo), (0, .ref b)]) (hE : ∀ (H : Heap) (locs : List Loc) (ls : Array Slot), va_S A s.heap H locs → lv_has ls 9 [(0, .ref b), (5, .int 0)] → W p l e room_1 s m args below meth c H locs 797152 6710780 Q (F0 m 2999 ls [])) : W p l e room_1 s m args below meth c H locs 60 300 Q (F0 m 1722 ls []) := by
  have hP := hP.sub (ws' := [(xo, .inr (11, [.ref xg, .int 0, .ref xp, .int 0, .ref xq, .int 0, .ref r1, .ref r2, .ref r3, .ref r4, .ref se, .int 0, .int 0, .int 40, .int 0, .int 0])), (xq, .inl (cq, 16, .inr (.inr (.inr (.inr (fun _ => none)))))), (mo, .inr (16, [.int 0, .ref gl, .ref po, .ref pi, .ref bu, .ref pa, .int 0, .int 0, .int 40, .int 0, .null, .int 0, .int 0])), (pi, .inr (4, [.int 0, .ref G.1, .int 0])), (ou, .inl (cJ, 1, .inr (.inl (fun _ => 0))))]) [0, 3, 9, 12, 15] rfl
  have hD := hD.sub (ws' := [(xo, .inr (11, [.ref xg, .int 0, .ref xp, .int 0, .ref xq, .int 0, .ref r1, .ref r2, .ref r3, .ref r4, .ref se, .int 0, .int 0, .int 40, .int 0, .int 0])), (xq, .inl (cq, 16, .inr (.inr (.inr (.inr (fun _ => none)))))), (mo, .inr (16, [.int 0, .ref gl, .ref po, .ref pi, .ref bu, .ref pa, .int 0, .int 0, .int 40, .int 0, .null, .int 0, .int 0])), (pi, .inr (4, [.int 0, .ref G.1, .int 0])), (ou, .inl (cJ, 1, .inr (.inl (fun _ => 0))))]) [0, 3, 9, 12, 15] (by decide) rfl
  have hK := hK.sub (tys' := [(cq, .object "Gatherhouse$Piece"), (cJ, .long)]) [2, 5] rfl
  refine lv_aload_n hx hb dL_law_1722 rfl (lv_at hl 4 rfl) ?_
  refine lv_aload_n hx hb dL_law_1723 rfl (lv_at hl 5 rfl) ?_
  refine lv_iload hx hb dL_law_1724 (lv_at hl 0 rfl) ?_
  refine lv_iconst (v := 1) hx hb dL_law_1726 (by decide) ?_
  refine lv_iadd hx hb dL_law_1727 ?_
  refine lv_topi (fun y_1115 ey_1115 => ?_)
  have ey_1115 : y_1115 = 1 := ey_1115.trans (by decide +kernel)
  subst ey_1115
  refine va_sld hx hb hX hbl hbA hS (vp_in_iff.mpr (by rw [hL]; decide +kernel)) dL_law_1728 ?_
  refine lv_aload_n hx hb dL_law_1729 rfl (lv_at hl 2 rfl) ?_
  have hFc := va_free (wc := [(xo, .inr (11, [.ref xg, .int 0, .ref xp, .int 0, .ref xq, .int 0, .ref r1, .ref r2, .ref r3, .ref r4, .ref se, .int 0, .int 0, .int 40, .int 0, .int 0])), (xq, .inl (cq, 16, .inr (.inr (.inr (.inr (fun _ => none)))))), (ou, .inl (cJ, 1, .inr (.inl (fun _ => 0))))]) hD hS hA [0, 1, 4] rfl
  refine vx_calli (vx_runSX (As := [.ref xo, .int (xs (1 : Int32).toNatClampNeg), .ref ou]) (rest := []) ⟨hx, hb, hml, hown, hts⟩ (zc_L_rings l hnt D G xo xg xp xq r1 r2 r3 r4 se 0 0 cq ou cJ (xs (1 : Int32).toNatClampNeg) H.size) (vx_cwSW 3 hts gzL_law_L_rings_241 rfl rfl rfl (by decide +kernel) ⟨(Nat.le_of_ble_eq_true rfl), (Nat.le_of_ble_eq_true rfl)⟩) ⟨p_RW_blind, (p_RW_at (tc := [(cq, .object "Gatherhouse$Piece"), (cJ, .long)]) (wc := [(xo, .inr (11, [.ref xg, .int 0, .ref xp, .int 0, .ref xq, .int 0, .ref r1, .ref r2, .ref r3, .ref r4, .ref se, .int 0, .int 0, .int 40, .int 0, .int 0])), (xq, .inl (cq, 16, .inr (.inr (.inr (.inr (fun _ => none)))))), (ou, .inl (cJ, 1, .inr (.inl (fun _ => 0))))]) hP hK hD hS hA hT hZ [0, 1, 4] [0, 1] rfl rfl (by decide) rfl [.ref xo, .int (xs (1 : Int32).toNatClampNeg), .ref ou])⟩ rfl rfl hl.1 rfl (lv_room (Nat.le_of_ble_eq_true rfl)) dL_law_1730 ⟨(Nat.le_of_ble_eq_true rfl), (Nat.le_of_ble_eq_true rfl)⟩) hS (fun q _ h => hFc q h) hFc (fun q _ h => hFc q h) (fun E ce q9 u t H locs ht hvm hpx hBX hz1 hk1 hS hce hcv hcl => ?_) (fun r_1116 u t H locs ht hvm w_1117 hB hz1 hk1 hS => ?_)
  · exact (show False from hBX).elim
  · obtain ⟨hP, hD, hK⟩ := q_join (D := D) (wc := [(xo, .inr (11, [.ref xg, .int 0, .ref xp, .int 0, .ref xq, .int 0, .ref r1, .ref r2, .ref r3, .ref r4, .ref se, .int 0, .int 0, .int 40, .int 0, .int 0])), (xq, .inl (cq, 16, .inr (.inr (.inr (.inr (fun _ => none)))))), (ou, .inl (cJ, 1, .inr (.inl (fun _ => 0))))]) (wr := [(mo, .inr (16, [.int 0, .ref gl, .ref po, .ref pi, .ref bu, .ref pa, .int 0, .int 0, .int 40, .int 0, .null, .int 0, .int 0])), (pi, .inr (4, [.int 0, .ref G.1, .int 0]))]) (w1 := []) (tyr := [(cq, .object "Gatherhouse$Piece"), (cJ, .long)]) (ty1 := []) hP hD hK [0, 1, 4] [2, 3] [0, 1] rfl rfl (by decide) (by decide) rfl hFc hk1 ht hvm (q_none hK hvm)
    have hP : va_P D vwCl [(mo, .inr (16, [.int 0, .ref gl, .ref po, .ref pi, .ref bu, .ref pa, .int 0, .int 0, .int 40, .int 0, .null, .int 0, .int 0])), (pi, .inr (4, [.int 0, .ref G.1, .int 0]))] H := hP
    have hD : va_D A [(mo, .inr (16, [.int 0, .ref gl, .ref po, .ref pi, .ref bu, .ref pa, .int 0, .int 0, .int 40, .int 0, .null, .int 0, .int 0])), (pi, .inr (4, [.int 0, .ref G.1, .int 0]))] := hD
    have hK : va_K D vwCl [(cq, .object "Gatherhouse$Piece"), (cJ, .long)] s := hK
    refine W.widen (k := 61) (n := 306) (Nat.le_of_ble_eq_true rfl) (Nat.le_of_ble_eq_true rfl) ?_
    obtain rfl := w_1117
    refine lv_istore (lv' := [(6, .int 1), (5, .int 0), (4, .ref od), (3, .ref ou), (2, .ref mo), (1, .ref xo), (0, .ref b)]) hx hb dL_law_1733 hl (by decide) rfl (fun ls hl => ?_)
    refine lv_aload_n hx hb dL_law_1735 rfl (lv_at hl 4 rfl) ?_
    refine lv_aload_n hx hb dL_law_1736 rfl (lv_at hl 6 rfl) ?_
    refine lv_iload hx hb dL_law_1737 (lv_at hl 1 rfl) ?_
    refine lv_iconst (v := 1) hx hb dL_law_1739 (by decide) ?_
    refine lv_iadd hx hb dL_law_1740 ?_
    refine lv_topi (fun y_1118 ey_1118 => ?_)
    have ey_1118 : y_1118 = 1 := ey_1118.trans (by decide +kernel)
    subst ey_1118
    refine va_sld hx hb hX hbl hbA hS (vp_in_iff.mpr (by rw [hL]; decide +kernel)) dL_law_1741 ?_
    have hFc := va_free (wc := [(mo, .inr (16, [.int 0, .ref gl, .ref po, .ref pi, .ref bu, .ref pa, .int 0, .int 0, .int 40, .int 0, .null, .int 0, .int 0])), (pi, .inr (4, [.int 0, .ref G.1, .int 0]))]) hD hS hA [0, 1] rfl
    refine va_calli (va_runV (As := [.int (xs (1 : Int32).toNatClampNeg)]) (rest := []) ⟨hx, hb, hml, hown, hts⟩ (zc_X11_rings l D G mo gl po pi bu pa 0 0 0 (xs (1 : Int32).toNatClampNeg) H.size) (cwV 1 hts gzL_law_X11_rings_243 rfl rfl rfl (by decide +kernel) ⟨(Nat.le_of_ble_eq_true rfl), (Nat.le_of_ble_eq_true rfl)⟩) ⟨p_RW_blind, va_recv hK hP (ci := 16) (q0 := 0) rfl rfl, (p_RW_at (tc := []) (wc := [(mo, .inr (16, [.int 0, .ref gl, .ref po, .ref pi, .ref bu, .ref pa, .int 0, .int 0, .int 40, .int 0, .null, .int 0, .int 0])), (pi, .inr (4, [.int 0, .ref G.1, .int 0]))]) hP hK hD hS hA hT hZ [0, 1] [] rfl rfl (by decide) rfl [.ref mo, .int (xs (1 : Int32).toNatClampNeg)])⟩ rfl rfl hl.1 rfl (lv_room (Nat.le_of_ble_eq_true rfl)) dL_law_1742 ⟨(Nat.le_of_ble_eq_true rfl), (Nat.le_of_ble_eq_true rfl)⟩) hS (fun q _ h => hFc q h) hFc (fun r_1119 u t H locs ht hvm w_1120 hB hz1 hk1 hS => ?_)
    obtain ⟨hP, hD, hK⟩ := q_join (D := D) (wc := [(mo, .inr (16, [.int 0, .ref gl, .ref po, .ref pi, .ref bu, .ref pa, .int 0, .int 0, .int 40, .int 0, .null, .int 0, .int 0])), (pi, .inr (4, [.int 0, .ref G.1, .int 0]))]) (wr := []) (w1 := [(mo, .inr (16, [.int 1, .ref gl, .ref po, .ref pi, .ref bu, .ref pa, .int 0, .int 0, .int 40, .int 0, .null, .int 0, .int 0])), (pi, .inr (4, [.int 0, .ref G.1, .int 0]))]) (tyr := [(cq, .object "Gatherhouse$Piece"), (cJ, .long)]) (ty1 := []) hP hD hK [0, 1] [] [0, 1] rfl rfl (by decide) (by decide) rfl hFc hk1 ht hvm hB
    have hP : va_P D vwCl [(mo, .inr (16, [.int 1, .ref gl, .ref po, .ref pi, .ref bu, .ref pa, .int 0, .int 0, .int 40, .int 0, .null, .int 0, .int 0])), (pi, .inr (4, [.int 0, .ref G.1, .int 0]))] H := hP
    have hD : va_D A [(mo, .inr (16, [.int 1, .ref gl, .ref po, .ref pi, .ref bu, .ref pa, .int 0, .int 0, .int 40, .int 0, .null, .int 0, .int 0])), (pi, .inr (4, [.int 0, .ref G.1, .int 0]))] := hD
    have hK : va_K D vwCl [(cq, .object "Gatherhouse$Piece"), (cJ, .long)] s := hK
    obtain rfl := w_1120
    refine lv_istore (lv' := [(7, .int 0), (6, .int 1), (5, .int 0), (4, .ref od), (3, .ref ou), (2, .ref mo), (1, .ref xo), (0, .ref b)]) hx hb dL_law_1745 hl (by decide) rfl (fun ls hl => ?_)
    refine lv_aload_n hx hb dL_law_1747 rfl (lv_at hl 5 rfl) ?_
    refine vp_callSi (va_runV (As := []) (rest := []) ⟨hx, hb, hml, hown, hts⟩ (zc_X11_thrown l D G mo gl po pi bu pa 1 0 0 40) (cwV 0 hts gzL_law_X11_thrown_165 rfl rfl rfl (by decide +kernel) ⟨(Nat.le_of_ble_eq_true rfl), (Nat.le_of_ble_eq_true rfl)⟩) ⟨p_RO_blind, va_recv hK hP (ci := 16) (q0 := 0) rfl rfl, (p_RO_at (tc := []) (wc := [(mo, .inr (16, [.int 1, .ref gl, .ref po, .ref pi, .ref bu, .ref pa, .int 0, .int 0, .int 40, .int 0, .null, .int 0, .int 0]))]) hP hK hT [0] [] rfl rfl [.ref mo])⟩ rfl rfl hl.1 rfl (lv_room (Nat.le_of_ble_eq_true rfl)) dL_law_1748 ⟨(Nat.le_of_ble_eq_true rfl), (Nat.le_of_ble_eq_true rfl)⟩).run (fun r_1121 w_1122 => ?_)
    obtain rfl := w_1122
    refine lv_iload hx hb dL_law_1751 (lv_at hl 1 rfl) ?_
    refine lv_icmp_eq (tgt := 1758) hx hb dL_law_1753 (by decide) (fun _ => ?_) (fun cc => absurd (by decide) cc)
    refine lv_iload hx hb dL_law_1758 (lv_at hl 1 rfl) ?_
    refine lv_if_ne (tgt := 1775) hx hb dL_law_1760 (by decide) (fun _ => ?_) (fun cc => absurd cc (by decide))
    refine lv_goto (tgt := 2999) hx hb dL_law_1775 (by decide) ?_
    refine W.widen (k := 797152) (n := 6710780) (Nat.le_of_ble_eq_true rfl) (Nat.le_of_ble_eq_true rfl) ?_
    exact hE _ _ _ hS (lv_sub hl [7, 2] rfl)
theorem dL_law_1778 : decode cL_law 1778 = .ok (.aload_n 1, 1) := by decide +kernel
theorem dL_law_1779 : decode cL_law 1779 = .ok (.aload_n 0, 1) := by decide +kernel
theorem dL_law_1780 : decode cL_law 1780 = .ok (.iload 5, 2) := by decide +kernel
theorem dL_law_1782 : decode cL_law 1782 = .ok (.iconst 1, 1) := by decide +kernel
theorem dL_law_1783 : decode cL_law 1783 = .ok (.iadd, 1) := by decide +kernel
theorem dL_law_1784 : decode cL_law 1784 = .ok (.iaload, 1) := by decide +kernel
theorem dL_law_1785 : decode cL_law 1785 = .ok (.aload_n 0, 1) := by decide +kernel
theorem dL_law_1786 : decode cL_law 1786 = .ok (.iload 5, 2) := by decide +kernel
theorem dL_law_1788 : decode cL_law 1788 = .ok (.iconst 2, 1) := by decide +kernel
theorem dL_law_1789 : decode cL_law 1789 = .ok (.iadd, 1) := by decide +kernel
theorem dL_law_1790 : decode cL_law 1790 = .ok (.iaload, 1) := by decide +kernel
theorem dL_law_1791 : decode cL_law 1791 = .ok (.aload_n 0, 1) := by decide +kernel
theorem dL_law_1792 : decode cL_law 1792 = .ok (.iload 5, 2) := by decide +kernel
theorem dL_law_1794 : decode cL_law 1794 = .ok (.iconst 3, 1) := by decide +kernel
theorem dL_law_1795 : decode cL_law 1795 = .ok (.iadd, 1) := by decide +kernel
theorem dL_law_1796 : decode cL_law 1796 = .ok (.iaload, 1) := by decide +kernel
theorem dL_law_1797 : decode cL_law 1797 = .ok (.i2c, 1) := by decide +kernel
theorem dL_law_1798 : decode cL_law 1798 = .ok (.aload_n 3, 1) := by decide +kernel
theorem dL_law_1799 : decode cL_law 1799 = .ok (.invokestatic 244, 3) := by decide +kernel
theorem dL_law_1802 : decode cL_law 1802 = .ok (.istore 6, 2) := by decide +kernel
theorem dL_law_1804 : decode cL_law 1804 = .ok (.aload_n 2, 1) := by decide +kernel
theorem dL_law_1805 : decode cL_law 1805 = .ok (.aload_n 0, 1) := by decide +kernel
theorem dL_law_1806 : decode cL_law 1806 = .ok (.iload 5, 2) := by decide +kernel
theorem dL_law_1808 : decode cL_law 1808 = .ok (.iconst 1, 1) := by decide +kernel
theorem dL_law_1809 : decode cL_law 1809 = .ok (.iadd, 1) := by decide +kernel
theorem dL_law_1810 : decode cL_law 1810 = .ok (.iaload, 1) := by decide +kernel
theorem dL_law_1811 : decode cL_law 1811 = .ok (.aload_n 0, 1) := by decide +kernel
theorem dL_law_1812 : decode cL_law 1812 = .ok (.iload 5, 2) := by decide +kernel
theorem dL_law_1814 : decode cL_law 1814 = .ok (.iconst 2, 1) := by decide +kernel
theorem dL_law_1815 : decode cL_law 1815 = .ok (.iadd, 1) := by decide +kernel
theorem dL_law_1816 : decode cL_law 1816 = .ok (.iaload, 1) := by decide +kernel
theorem dL_law_1817 : decode cL_law 1817 = .ok (.aload_n 0, 1) := by decide +kernel
theorem dL_law_1818 : decode cL_law 1818 = .ok (.iload 5, 2) := by decide +kernel
theorem dL_law_1820 : decode cL_law 1820 = .ok (.iconst 3, 1) := by decide +kernel
theorem dL_law_1821 : decode cL_law 1821 = .ok (.iadd, 1) := by decide +kernel
theorem dL_law_1822 : decode cL_law 1822 = .ok (.iaload, 1) := by decide +kernel
theorem dL_law_1823 : decode cL_law 1823 = .ok (.i2c, 1) := by decide +kernel
theorem dL_law_1824 : decode cL_law 1824 = .ok (.invokevirtual 247, 3) := by decide +kernel
theorem dL_law_1827 : decode cL_law 1827 = .ok (.istore 7, 2) := by decide +kernel
theorem dL_law_1829 : decode cL_law 1829 = .ok (.aload_n 2, 1) := by decide +kernel
theorem dL_law_1830 : decode cL_law 1830 = .ok (.invokevirtual 165, 3) := by decide +kernel
theorem dL_law_1833 : decode cL_law 1833 = .ok (.iload 6, 2) := by decide +kernel
theorem dL_law_1835 : decode cL_law 1835 = .ok (.if_icmp .eq 5, 3) := by decide +kernel
theorem dL_law_1840 : decode cL_law 1840 = .ok (.iload 6, 2) := by decide +kernel
theorem dL_law_1842 : decode cL_law 1842 = .ok (.ifCond .ne 15, 3) := by decide +kernel
theorem dL_law_1857 : decode cL_law 1857 = .ok (.goto 1142, 3) := by decide +kernel
set_option maxHeartbeats 4000000 in
set_option maxRecDepth 100000 in
theorem zl_24 {p : Program} {e : Env} {s : State} {m : MethodId} {below : List Frame} {meth : Method} {c : Code} {Q : State → Prop} {args : Array Value} (l : Launch) (hnt : l.stackTraces = false) (D : va_G) (G : Nat × Nat × Nat) (xo : Nat) (xg : Nat) (xp : Nat) (xq : Nat) (r1 : Nat) (r2 : Nat) (r3 : Nat) (r4 : Nat) (se : Nat) (n1 : Nat) (n2 : Nat) (n3 : Nat) (mo : Nat) (gl : Nat) (po : Nat) (pi : Nat) (bu : Nat) (pa : Nat) (ou : Nat) (od : Nat) (cg : ClassId) (cp : ClassId) (cq : ClassId) (ci : ClassId) (cj : ClassId) (cJ : ClassId) (cD : ClassId) {b L : Nat} {xs : Nat → Int32} {A : Nat → Prop} {H : Heap} {locs : List Loc} {ls : Array Slot} (hx : p.tables.exec = Jvm.exec) (hb : c.code = code) (hml : c.maxLocals = 9) (hown : s.vm.findClass RL = some m.cls) (hts : ∀ w ∈ wzL_law, w.before args s = true) (hT : FT G s) (hA : ∀ q : Nat, s.heap.size ≤ q → A q) (hZ : FZ G A s s.heap) (hX : va_X b L xs s s.heap) (hbl : b < s.heap.size) (hbA : ¬ A b) (hL : L = 5) (hK : va_K D vwCl [(cg, .object "Gatherhouse$Glass"), (cp, .object "Gatherhouse$Pot"), (cq, .object "Gatherhouse$Piece"), (ci, .int), (cj, .int), (cJ, .long), (cD, .double)] s) (hP : va_P D vwCl [(xo, .inr (11, [.ref xg, .int 0, .ref xp, .int 0, .ref xq, .int 0, .ref r1, .ref r2, .ref r3, .ref r4, .ref se, .int 0, .int 0, .int 40, .int 0, .int 0])), (xg, .inl (cg, 6, .inr (.inr (.inr (.inr (fun _ => none)))))), (xp, .inl (cp, 4, .inr (.inr (.inr (.inr (fun _ => none)))))), (xq, .inl (cq, 16, .inr (.inr (.inr (.inr (fun _ => none)))))), (r1, .inr (9, [.int 0, .int 0])), (r2, .inr (9, [.int 0, .int 0])), (r3, .inr (9, [.int 0, .int 0])), (r4, .inr (9, [.int 0, .int 0])), (se, .inr (10, [.ref n1, .ref n2, .ref n3, .int 0, .int 0, .int 0, .int 0])), (mo, .inr (16, [.int 0, .ref gl, .ref po, .ref pi, .ref bu, .ref pa, .int 0, .int 0, .int 40, .int 0, .null, .int 0, .int 0])), (gl, .inr (4, [.int 0, .ref G.1, .int 0])), (po, .inr (4, [.int 0, .ref G.1, .int 0])), (pi, .inr (4, [.int 0, .ref G.1, .int 0])), (bu, .inl (ci, 4, .inl (fun _ => 0))), (pa, .inl (cj, 4, .inl (fun _ => 0))), (ou, .inl (cJ, 1, .inr (.inl (fun _ => 0)))), (od, .inl (cD, 1, .inr (.inr (.inr (.inl (fun _ => 0))))))] H) (hD : va_D A [(xo, .inr (11, [.ref xg, .int 0, .ref xp, .int 0, .ref xq, .int 0, .ref r1, .ref r2, .ref r3, .ref r4, .ref se, .int 0, .int 0, .int 40, .int 0, .int 0])), (xg, .inl (cg, 6, .inr (.inr (.inr (.inr (fun _ => none)))))), (xp, .inl (cp, 4, .inr (.inr (.inr (.inr (fun _ => none)))))), (xq, .inl (cq, 16, .inr (.inr (.inr (.inr (fun _ => none)))))), (r1, .inr (9, [.int 0, .int 0])), (r2, .inr (9, [.int 0, .int 0])), (r3, .inr (9, [.int 0, .int 0])), (r4, .inr (9, [.int 0, .int 0])), (se, .inr (10, [.ref n1, .ref n2, .ref n3, .int 0, .int 0, .int 0, .int 0])), (mo, .inr (16, [.int 0, .ref gl, .ref po, .ref pi, .ref bu, .ref pa, .int 0, .int 0, .int 40, .int 0, .null, .int 0, .int 0])), (gl, .inr (4, [.int 0, .ref G.1, .int 0])), (po, .inr (4, [.int 0, .ref G.1, .int 0])), (pi, .inr (4, [.int 0, .ref G.1, .int 0])), (bu, .inl (ci, 4, .inl (fun _ => 0))), (pa, .inl (cj, 4, .inl (fun _ => 0))), (ou, .inl (cJ, 1, .inr (.inl (fun _ => 0)))), (od, .inl (cD, 1, .inr (.inr (.inr (.inl (fun _ => 0))))))]) (hS : va_S A s.heap H locs) (hl : lv_has ls 9 [(5, .int 0), (4, .ref od), (3, .ref ou), (2, .ref mo), (1, .ref xo), (0, .ref b)]) (hE : ∀ (H : Heap) (locs : List Loc) (ls : Array Slot), va_S A s.heap H locs → lv_has ls 9 [(0, .ref b), (5, .int 0)] → W p l e room_1 s m args below meth c H locs 797152 6710780 Q (F0 m 2999 ls [])) : W p l e room_1 s m args below meth c H locs 60 300 Q (F0 m 1778 ls []) := by
  have hP := hP.sub (ws' := [(xo, .inr (11, [.ref xg, .int 0, .ref xp, .int 0, .ref xq, .int 0, .ref r1, .ref r2, .ref r3, .ref r4, .ref se, .int 0, .int 0, .int 40, .int 0, .int 0])), (xq, .inl (cq, 16, .inr (.inr (.inr (.inr (fun _ => none)))))), (mo, .inr (16, [.int 0, .ref gl, .ref po, .ref pi, .ref bu, .ref pa, .int 0, .int 0, .int 40, .int 0, .null, .int 0, .int 0])), (pi, .inr (4, [.int 0, .ref G.1, .int 0])), (ou, .inl (cJ, 1, .inr (.inl (fun _ => 0))))]) [0, 3, 9, 12, 15] rfl
  have hD := hD.sub (ws' := [(xo, .inr (11, [.ref xg, .int 0, .ref xp, .int 0, .ref xq, .int 0, .ref r1, .ref r2, .ref r3, .ref r4, .ref se, .int 0, .int 0, .int 40, .int 0, .int 0])), (xq, .inl (cq, 16, .inr (.inr (.inr (.inr (fun _ => none)))))), (mo, .inr (16, [.int 0, .ref gl, .ref po, .ref pi, .ref bu, .ref pa, .int 0, .int 0, .int 40, .int 0, .null, .int 0, .int 0])), (pi, .inr (4, [.int 0, .ref G.1, .int 0])), (ou, .inl (cJ, 1, .inr (.inl (fun _ => 0))))]) [0, 3, 9, 12, 15] (by decide) rfl
  have hK := hK.sub (tys' := [(cq, .object "Gatherhouse$Piece"), (cJ, .long)]) [2, 5] rfl
  refine lv_aload_n hx hb dL_law_1778 rfl (lv_at hl 4 rfl) ?_
  refine lv_aload_n hx hb dL_law_1779 rfl (lv_at hl 5 rfl) ?_
  refine lv_iload hx hb dL_law_1780 (lv_at hl 0 rfl) ?_
  refine lv_iconst (v := 1) hx hb dL_law_1782 (by decide) ?_
  refine lv_iadd hx hb dL_law_1783 ?_
  refine lv_topi (fun y_1123 ey_1123 => ?_)
  have ey_1123 : y_1123 = 1 := ey_1123.trans (by decide +kernel)
  subst ey_1123
  refine va_sld hx hb hX hbl hbA hS (vp_in_iff.mpr (by rw [hL]; decide +kernel)) dL_law_1784 ?_
  refine lv_aload_n hx hb dL_law_1785 rfl (lv_at hl 5 rfl) ?_
  refine lv_iload hx hb dL_law_1786 (lv_at hl 0 rfl) ?_
  refine lv_iconst (v := 2) hx hb dL_law_1788 (by decide) ?_
  refine lv_iadd hx hb dL_law_1789 ?_
  refine lv_topi (fun y_1124 ey_1124 => ?_)
  have ey_1124 : y_1124 = 2 := ey_1124.trans (by decide +kernel)
  subst ey_1124
  refine va_sld hx hb hX hbl hbA hS (vp_in_iff.mpr (by rw [hL]; decide +kernel)) dL_law_1790 ?_
  refine lv_aload_n hx hb dL_law_1791 rfl (lv_at hl 5 rfl) ?_
  refine lv_iload hx hb dL_law_1792 (lv_at hl 0 rfl) ?_
  refine lv_iconst (v := 3) hx hb dL_law_1794 (by decide) ?_
  refine lv_iadd hx hb dL_law_1795 ?_
  refine lv_topi (fun y_1125 ey_1125 => ?_)
  have ey_1125 : y_1125 = 3 := ey_1125.trans (by decide +kernel)
  subst ey_1125
  refine va_sld hx hb hX hbl hbA hS (vp_in_iff.mpr (by rw [hL]; decide +kernel)) dL_law_1796 ?_
  refine lv_i2c hx hb dL_law_1797 rfl ?_
  refine lv_aload_n hx hb dL_law_1798 rfl (lv_at hl 2 rfl) ?_
  have hFc := va_free (wc := [(xo, .inr (11, [.ref xg, .int 0, .ref xp, .int 0, .ref xq, .int 0, .ref r1, .ref r2, .ref r3, .ref r4, .ref se, .int 0, .int 0, .int 40, .int 0, .int 0])), (xq, .inl (cq, 16, .inr (.inr (.inr (.inr (fun _ => none)))))), (ou, .inl (cJ, 1, .inr (.inl (fun _ => 0))))]) hD hS hA [0, 1, 4] rfl
  refine vx_calli (vx_runSX (As := [.ref xo, .int (xs (1 : Int32).toNatClampNeg), .int (xs (2 : Int32).toNatClampNeg), .int (((xs (3 : Int32).toNatClampNeg).toUInt32 % 65536).toInt32), .ref ou]) (rest := []) ⟨hx, hb, hml, hown, hts⟩ (zc_L_ring l hnt D G xo xg xp xq r1 r2 r3 r4 se 0 0 cq ou cJ (xs (1 : Int32).toNatClampNeg) (xs (2 : Int32).toNatClampNeg) (((xs (3 : Int32).toNatClampNeg).toUInt32 % 65536).toInt32) H.size) (vx_cwSW 5 hts gzL_law_L_ring_244 rfl rfl rfl (by decide +kernel) ⟨(Nat.le_of_ble_eq_true rfl), (Nat.le_of_ble_eq_true rfl)⟩) ⟨p_RW_blind, (p_RW_at (tc := [(cq, .object "Gatherhouse$Piece"), (cJ, .long)]) (wc := [(xo, .inr (11, [.ref xg, .int 0, .ref xp, .int 0, .ref xq, .int 0, .ref r1, .ref r2, .ref r3, .ref r4, .ref se, .int 0, .int 0, .int 40, .int 0, .int 0])), (xq, .inl (cq, 16, .inr (.inr (.inr (.inr (fun _ => none)))))), (ou, .inl (cJ, 1, .inr (.inl (fun _ => 0))))]) hP hK hD hS hA hT hZ [0, 1, 4] [0, 1] rfl rfl (by decide) rfl [.ref xo, .int (xs (1 : Int32).toNatClampNeg), .int (xs (2 : Int32).toNatClampNeg), .int (((xs (3 : Int32).toNatClampNeg).toUInt32 % 65536).toInt32), .ref ou])⟩ rfl rfl hl.1 rfl (lv_room (Nat.le_of_ble_eq_true rfl)) dL_law_1799 ⟨(Nat.le_of_ble_eq_true rfl), (Nat.le_of_ble_eq_true rfl)⟩) hS (fun q _ h => hFc q h) hFc (fun q _ h => hFc q h) (fun E ce q9 u t H locs ht hvm hpx hBX hz1 hk1 hS hce hcv hcl => ?_) (fun r_1126 u t H locs ht hvm w_1127 hB hz1 hk1 hS => ?_)
  · exact (show False from hBX).elim
  · obtain ⟨hP, hD, hK⟩ := q_join (D := D) (wc := [(xo, .inr (11, [.ref xg, .int 0, .ref xp, .int 0, .ref xq, .int 0, .ref r1, .ref r2, .ref r3, .ref r4, .ref se, .int 0, .int 0, .int 40, .int 0, .int 0])), (xq, .inl (cq, 16, .inr (.inr (.inr (.inr (fun _ => none)))))), (ou, .inl (cJ, 1, .inr (.inl (fun _ => 0))))]) (wr := [(mo, .inr (16, [.int 0, .ref gl, .ref po, .ref pi, .ref bu, .ref pa, .int 0, .int 0, .int 40, .int 0, .null, .int 0, .int 0])), (pi, .inr (4, [.int 0, .ref G.1, .int 0]))]) (w1 := []) (tyr := [(cq, .object "Gatherhouse$Piece"), (cJ, .long)]) (ty1 := []) hP hD hK [0, 1, 4] [2, 3] [0, 1] rfl rfl (by decide) (by decide) rfl hFc hk1 ht hvm (q_none hK hvm)
    have hP : va_P D vwCl [(mo, .inr (16, [.int 0, .ref gl, .ref po, .ref pi, .ref bu, .ref pa, .int 0, .int 0, .int 40, .int 0, .null, .int 0, .int 0])), (pi, .inr (4, [.int 0, .ref G.1, .int 0]))] H := hP
    have hD : va_D A [(mo, .inr (16, [.int 0, .ref gl, .ref po, .ref pi, .ref bu, .ref pa, .int 0, .int 0, .int 40, .int 0, .null, .int 0, .int 0])), (pi, .inr (4, [.int 0, .ref G.1, .int 0]))] := hD
    have hK : va_K D vwCl [(cq, .object "Gatherhouse$Piece"), (cJ, .long)] s := hK
    refine W.widen (k := 61) (n := 306) (Nat.le_of_ble_eq_true rfl) (Nat.le_of_ble_eq_true rfl) ?_
    obtain rfl := w_1127
    refine lv_istore (lv' := [(6, .int 1), (5, .int 0), (4, .ref od), (3, .ref ou), (2, .ref mo), (1, .ref xo), (0, .ref b)]) hx hb dL_law_1802 hl (by decide) rfl (fun ls hl => ?_)
    refine lv_aload_n hx hb dL_law_1804 rfl (lv_at hl 4 rfl) ?_
    refine lv_aload_n hx hb dL_law_1805 rfl (lv_at hl 6 rfl) ?_
    refine lv_iload hx hb dL_law_1806 (lv_at hl 1 rfl) ?_
    refine lv_iconst (v := 1) hx hb dL_law_1808 (by decide) ?_
    refine lv_iadd hx hb dL_law_1809 ?_
    refine lv_topi (fun y_1128 ey_1128 => ?_)
    have ey_1128 : y_1128 = 1 := ey_1128.trans (by decide +kernel)
    subst ey_1128
    refine va_sld hx hb hX hbl hbA hS (vp_in_iff.mpr (by rw [hL]; decide +kernel)) dL_law_1810 ?_
    refine lv_aload_n hx hb dL_law_1811 rfl (lv_at hl 6 rfl) ?_
    refine lv_iload hx hb dL_law_1812 (lv_at hl 1 rfl) ?_
    refine lv_iconst (v := 2) hx hb dL_law_1814 (by decide) ?_
    refine lv_iadd hx hb dL_law_1815 ?_
    refine lv_topi (fun y_1129 ey_1129 => ?_)
    have ey_1129 : y_1129 = 2 := ey_1129.trans (by decide +kernel)
    subst ey_1129
    refine va_sld hx hb hX hbl hbA hS (vp_in_iff.mpr (by rw [hL]; decide +kernel)) dL_law_1816 ?_
    refine lv_aload_n hx hb dL_law_1817 rfl (lv_at hl 6 rfl) ?_
    refine lv_iload hx hb dL_law_1818 (lv_at hl 1 rfl) ?_
    refine lv_iconst (v := 3) hx hb dL_law_1820 (by decide) ?_
    refine lv_iadd hx hb dL_law_1821 ?_
    refine lv_topi (fun y_1130 ey_1130 => ?_)
    have ey_1130 : y_1130 = 3 := ey_1130.trans (by decide +kernel)
    subst ey_1130
    refine va_sld hx hb hX hbl hbA hS (vp_in_iff.mpr (by rw [hL]; decide +kernel)) dL_law_1822 ?_
    refine lv_i2c hx hb dL_law_1823 rfl ?_
    have hFc := va_free (wc := [(mo, .inr (16, [.int 0, .ref gl, .ref po, .ref pi, .ref bu, .ref pa, .int 0, .int 0, .int 40, .int 0, .null, .int 0, .int 0])), (pi, .inr (4, [.int 0, .ref G.1, .int 0]))]) hD hS hA [0, 1] rfl
    refine va_calli (va_runV (As := [.int (xs (1 : Int32).toNatClampNeg), .int (xs (2 : Int32).toNatClampNeg), .int (((xs (3 : Int32).toNatClampNeg).toUInt32 % 65536).toInt32)]) (rest := []) ⟨hx, hb, hml, hown, hts⟩ (zc_X11_ring l D G mo gl po pi bu pa 0 0 0 (xs (1 : Int32).toNatClampNeg) (xs (2 : Int32).toNatClampNeg) (((xs (3 : Int32).toNatClampNeg).toUInt32 % 65536).toInt32) H.size) (cwV 3 hts gzL_law_X11_ring_247 rfl rfl rfl (by decide +kernel) ⟨(Nat.le_of_ble_eq_true rfl), (Nat.le_of_ble_eq_true rfl)⟩) ⟨p_RW_blind, va_recv hK hP (ci := 16) (q0 := 0) rfl rfl, (p_RW_at (tc := []) (wc := [(mo, .inr (16, [.int 0, .ref gl, .ref po, .ref pi, .ref bu, .ref pa, .int 0, .int 0, .int 40, .int 0, .null, .int 0, .int 0])), (pi, .inr (4, [.int 0, .ref G.1, .int 0]))]) hP hK hD hS hA hT hZ [0, 1] [] rfl rfl (by decide) rfl [.ref mo, .int (xs (1 : Int32).toNatClampNeg), .int (xs (2 : Int32).toNatClampNeg), .int (((xs (3 : Int32).toNatClampNeg).toUInt32 % 65536).toInt32)])⟩ rfl rfl hl.1 rfl (lv_room (Nat.le_of_ble_eq_true rfl)) dL_law_1824 ⟨(Nat.le_of_ble_eq_true rfl), (Nat.le_of_ble_eq_true rfl)⟩) hS (fun q _ h => hFc q h) hFc (fun r_1131 u t H locs ht hvm w_1132 hB hz1 hk1 hS => ?_)
    obtain ⟨hP, hD, hK⟩ := q_join (D := D) (wc := [(mo, .inr (16, [.int 0, .ref gl, .ref po, .ref pi, .ref bu, .ref pa, .int 0, .int 0, .int 40, .int 0, .null, .int 0, .int 0])), (pi, .inr (4, [.int 0, .ref G.1, .int 0]))]) (wr := []) (w1 := [(mo, .inr (16, [.int 1, .ref gl, .ref po, .ref pi, .ref bu, .ref pa, .int 0, .int 0, .int 40, .int 0, .null, .int 0, .int 0])), (pi, .inr (4, [.int 0, .ref G.1, .int 0]))]) (tyr := [(cq, .object "Gatherhouse$Piece"), (cJ, .long)]) (ty1 := []) hP hD hK [0, 1] [] [0, 1] rfl rfl (by decide) (by decide) rfl hFc hk1 ht hvm hB
    have hP : va_P D vwCl [(mo, .inr (16, [.int 1, .ref gl, .ref po, .ref pi, .ref bu, .ref pa, .int 0, .int 0, .int 40, .int 0, .null, .int 0, .int 0])), (pi, .inr (4, [.int 0, .ref G.1, .int 0]))] H := hP
    have hD : va_D A [(mo, .inr (16, [.int 1, .ref gl, .ref po, .ref pi, .ref bu, .ref pa, .int 0, .int 0, .int 40, .int 0, .null, .int 0, .int 0])), (pi, .inr (4, [.int 0, .ref G.1, .int 0]))] := hD
    have hK : va_K D vwCl [(cq, .object "Gatherhouse$Piece"), (cJ, .long)] s := hK
    obtain rfl := w_1132
    refine lv_istore (lv' := [(7, .int 0), (6, .int 1), (5, .int 0), (4, .ref od), (3, .ref ou), (2, .ref mo), (1, .ref xo), (0, .ref b)]) hx hb dL_law_1827 hl (by decide) rfl (fun ls hl => ?_)
    refine lv_aload_n hx hb dL_law_1829 rfl (lv_at hl 5 rfl) ?_
    refine vp_callSi (va_runV (As := []) (rest := []) ⟨hx, hb, hml, hown, hts⟩ (zc_X11_thrown l D G mo gl po pi bu pa 1 0 0 40) (cwV 0 hts gzL_law_X11_thrown_165 rfl rfl rfl (by decide +kernel) ⟨(Nat.le_of_ble_eq_true rfl), (Nat.le_of_ble_eq_true rfl)⟩) ⟨p_RO_blind, va_recv hK hP (ci := 16) (q0 := 0) rfl rfl, (p_RO_at (tc := []) (wc := [(mo, .inr (16, [.int 1, .ref gl, .ref po, .ref pi, .ref bu, .ref pa, .int 0, .int 0, .int 40, .int 0, .null, .int 0, .int 0]))]) hP hK hT [0] [] rfl rfl [.ref mo])⟩ rfl rfl hl.1 rfl (lv_room (Nat.le_of_ble_eq_true rfl)) dL_law_1830 ⟨(Nat.le_of_ble_eq_true rfl), (Nat.le_of_ble_eq_true rfl)⟩).run (fun r_1133 w_1134 => ?_)
    obtain rfl := w_1134
    refine lv_iload hx hb dL_law_1833 (lv_at hl 1 rfl) ?_
    refine lv_icmp_eq (tgt := 1840) hx hb dL_law_1835 (by decide) (fun _ => ?_) (fun cc => absurd (by decide) cc)
    refine lv_iload hx hb dL_law_1840 (lv_at hl 1 rfl) ?_
    refine lv_if_ne (tgt := 1857) hx hb dL_law_1842 (by decide) (fun _ => ?_) (fun cc => absurd cc (by decide))
    refine lv_goto (tgt := 2999) hx hb dL_law_1857 (by decide) ?_
    refine W.widen (k := 797152) (n := 6710780) (Nat.le_of_ble_eq_true rfl) (Nat.le_of_ble_eq_true rfl) ?_
    exact hE _ _ _ hS (lv_sub hl [7, 2] rfl)
theorem dL_law_1860 : decode cL_law 1860 = .ok (.aload_n 1, 1) := by decide +kernel
theorem dL_law_1861 : decode cL_law 1861 = .ok (.aload_n 0, 1) := by decide +kernel
theorem dL_law_1862 : decode cL_law 1862 = .ok (.iload 5, 2) := by decide +kernel
theorem dL_law_1864 : decode cL_law 1864 = .ok (.iconst 1, 1) := by decide +kernel
theorem dL_law_1865 : decode cL_law 1865 = .ok (.iadd, 1) := by decide +kernel
theorem dL_law_1866 : decode cL_law 1866 = .ok (.iaload, 1) := by decide +kernel
theorem dL_law_1867 : decode cL_law 1867 = .ok (.aload_n 3, 1) := by decide +kernel
theorem dL_law_1868 : decode cL_law 1868 = .ok (.invokestatic 248, 3) := by decide +kernel
theorem dL_law_1871 : decode cL_law 1871 = .ok (.istore 6, 2) := by decide +kernel
theorem dL_law_1873 : decode cL_law 1873 = .ok (.aload_n 2, 1) := by decide +kernel
theorem dL_law_1874 : decode cL_law 1874 = .ok (.aload_n 0, 1) := by decide +kernel
theorem dL_law_1875 : decode cL_law 1875 = .ok (.iload 5, 2) := by decide +kernel
theorem dL_law_1877 : decode cL_law 1877 = .ok (.iconst 1, 1) := by decide +kernel
theorem dL_law_1878 : decode cL_law 1878 = .ok (.iadd, 1) := by decide +kernel
theorem dL_law_1879 : decode cL_law 1879 = .ok (.iaload, 1) := by decide +kernel
theorem dL_law_1880 : decode cL_law 1880 = .ok (.invokevirtual 250, 3) := by decide +kernel
theorem dL_law_1883 : decode cL_law 1883 = .ok (.istore 7, 2) := by decide +kernel
theorem dL_law_1885 : decode cL_law 1885 = .ok (.aload_n 2, 1) := by decide +kernel
theorem dL_law_1886 : decode cL_law 1886 = .ok (.invokevirtual 165, 3) := by decide +kernel
theorem dL_law_1889 : decode cL_law 1889 = .ok (.iload 6, 2) := by decide +kernel
theorem dL_law_1891 : decode cL_law 1891 = .ok (.if_icmp .eq 5, 3) := by decide +kernel
theorem dL_law_1896 : decode cL_law 1896 = .ok (.iload 6, 2) := by decide +kernel
theorem dL_law_1898 : decode cL_law 1898 = .ok (.ifCond .ne 15, 3) := by decide +kernel
theorem dL_law_1913 : decode cL_law 1913 = .ok (.goto 1086, 3) := by decide +kernel
set_option maxHeartbeats 4000000 in
set_option maxRecDepth 100000 in
theorem zl_25 {p : Program} {e : Env} {s : State} {m : MethodId} {below : List Frame} {meth : Method} {c : Code} {Q : State → Prop} {args : Array Value} (l : Launch) (hnt : l.stackTraces = false) (D : va_G) (G : Nat × Nat × Nat) (xo : Nat) (xg : Nat) (xp : Nat) (xq : Nat) (r1 : Nat) (r2 : Nat) (r3 : Nat) (r4 : Nat) (se : Nat) (n1 : Nat) (n2 : Nat) (n3 : Nat) (mo : Nat) (gl : Nat) (po : Nat) (pi : Nat) (bu : Nat) (pa : Nat) (ou : Nat) (od : Nat) (cg : ClassId) (cp : ClassId) (cq : ClassId) (ci : ClassId) (cj : ClassId) (cJ : ClassId) (cD : ClassId) {b L : Nat} {xs : Nat → Int32} {A : Nat → Prop} {H : Heap} {locs : List Loc} {ls : Array Slot} (hx : p.tables.exec = Jvm.exec) (hb : c.code = code) (hml : c.maxLocals = 9) (hown : s.vm.findClass RL = some m.cls) (hts : ∀ w ∈ wzL_law, w.before args s = true) (hT : FT G s) (hA : ∀ q : Nat, s.heap.size ≤ q → A q) (hZ : FZ G A s s.heap) (hX : va_X b L xs s s.heap) (hbl : b < s.heap.size) (hbA : ¬ A b) (hL : L = 5) (hK : va_K D vwCl [(cg, .object "Gatherhouse$Glass"), (cp, .object "Gatherhouse$Pot"), (cq, .object "Gatherhouse$Piece"), (ci, .int), (cj, .int), (cJ, .long), (cD, .double)] s) (hP : va_P D vwCl [(xo, .inr (11, [.ref xg, .int 0, .ref xp, .int 0, .ref xq, .int 0, .ref r1, .ref r2, .ref r3, .ref r4, .ref se, .int 0, .int 0, .int 40, .int 0, .int 0])), (xg, .inl (cg, 6, .inr (.inr (.inr (.inr (fun _ => none)))))), (xp, .inl (cp, 4, .inr (.inr (.inr (.inr (fun _ => none)))))), (xq, .inl (cq, 16, .inr (.inr (.inr (.inr (fun _ => none)))))), (r1, .inr (9, [.int 0, .int 0])), (r2, .inr (9, [.int 0, .int 0])), (r3, .inr (9, [.int 0, .int 0])), (r4, .inr (9, [.int 0, .int 0])), (se, .inr (10, [.ref n1, .ref n2, .ref n3, .int 0, .int 0, .int 0, .int 0])), (mo, .inr (16, [.int 0, .ref gl, .ref po, .ref pi, .ref bu, .ref pa, .int 0, .int 0, .int 40, .int 0, .null, .int 0, .int 0])), (gl, .inr (4, [.int 0, .ref G.1, .int 0])), (po, .inr (4, [.int 0, .ref G.1, .int 0])), (pi, .inr (4, [.int 0, .ref G.1, .int 0])), (bu, .inl (ci, 4, .inl (fun _ => 0))), (pa, .inl (cj, 4, .inl (fun _ => 0))), (ou, .inl (cJ, 1, .inr (.inl (fun _ => 0)))), (od, .inl (cD, 1, .inr (.inr (.inr (.inl (fun _ => 0))))))] H) (hD : va_D A [(xo, .inr (11, [.ref xg, .int 0, .ref xp, .int 0, .ref xq, .int 0, .ref r1, .ref r2, .ref r3, .ref r4, .ref se, .int 0, .int 0, .int 40, .int 0, .int 0])), (xg, .inl (cg, 6, .inr (.inr (.inr (.inr (fun _ => none)))))), (xp, .inl (cp, 4, .inr (.inr (.inr (.inr (fun _ => none)))))), (xq, .inl (cq, 16, .inr (.inr (.inr (.inr (fun _ => none)))))), (r1, .inr (9, [.int 0, .int 0])), (r2, .inr (9, [.int 0, .int 0])), (r3, .inr (9, [.int 0, .int 0])), (r4, .inr (9, [.int 0, .int 0])), (se, .inr (10, [.ref n1, .ref n2, .ref n3, .int 0, .int 0, .int 0, .int 0])), (mo, .inr (16, [.int 0, .ref gl, .ref po, .ref pi, .ref bu, .ref pa, .int 0, .int 0, .int 40, .int 0, .null, .int 0, .int 0])), (gl, .inr (4, [.int 0, .ref G.1, .int 0])), (po, .inr (4, [.int 0, .ref G.1, .int 0])), (pi, .inr (4, [.int 0, .ref G.1, .int 0])), (bu, .inl (ci, 4, .inl (fun _ => 0))), (pa, .inl (cj, 4, .inl (fun _ => 0))), (ou, .inl (cJ, 1, .inr (.inl (fun _ => 0)))), (od, .inl (cD, 1, .inr (.inr (.inr (.inl (fun _ => 0))))))]) (hS : va_S A s.heap H locs) (hl : lv_has ls 9 [(5, .int 0), (4, .ref od), (3, .ref ou), (2, .ref mo), (1, .ref xo), (0, .ref b)]) (hE : ∀ (H : Heap) (locs : List Loc) (ls : Array Slot), va_S A s.heap H locs → lv_has ls 9 [(0, .ref b), (5, .int 0)] → W p l e room_1 s m args below meth c H locs 797152 6710780 Q (F0 m 2999 ls [])) : W p l e room_1 s m args below meth c H locs 60 300 Q (F0 m 1860 ls []) := by
  have hP := hP.sub (ws' := [(xo, .inr (11, [.ref xg, .int 0, .ref xp, .int 0, .ref xq, .int 0, .ref r1, .ref r2, .ref r3, .ref r4, .ref se, .int 0, .int 0, .int 40, .int 0, .int 0])), (xq, .inl (cq, 16, .inr (.inr (.inr (.inr (fun _ => none)))))), (mo, .inr (16, [.int 0, .ref gl, .ref po, .ref pi, .ref bu, .ref pa, .int 0, .int 0, .int 40, .int 0, .null, .int 0, .int 0])), (pi, .inr (4, [.int 0, .ref G.1, .int 0])), (ou, .inl (cJ, 1, .inr (.inl (fun _ => 0))))]) [0, 3, 9, 12, 15] rfl
  have hD := hD.sub (ws' := [(xo, .inr (11, [.ref xg, .int 0, .ref xp, .int 0, .ref xq, .int 0, .ref r1, .ref r2, .ref r3, .ref r4, .ref se, .int 0, .int 0, .int 40, .int 0, .int 0])), (xq, .inl (cq, 16, .inr (.inr (.inr (.inr (fun _ => none)))))), (mo, .inr (16, [.int 0, .ref gl, .ref po, .ref pi, .ref bu, .ref pa, .int 0, .int 0, .int 40, .int 0, .null, .int 0, .int 0])), (pi, .inr (4, [.int 0, .ref G.1, .int 0])), (ou, .inl (cJ, 1, .inr (.inl (fun _ => 0))))]) [0, 3, 9, 12, 15] (by decide) rfl
  have hK := hK.sub (tys' := [(cq, .object "Gatherhouse$Piece"), (cJ, .long)]) [2, 5] rfl
  refine lv_aload_n hx hb dL_law_1860 rfl (lv_at hl 4 rfl) ?_
  refine lv_aload_n hx hb dL_law_1861 rfl (lv_at hl 5 rfl) ?_
  refine lv_iload hx hb dL_law_1862 (lv_at hl 0 rfl) ?_
  refine lv_iconst (v := 1) hx hb dL_law_1864 (by decide) ?_
  refine lv_iadd hx hb dL_law_1865 ?_
  refine lv_topi (fun y_1135 ey_1135 => ?_)
  have ey_1135 : y_1135 = 1 := ey_1135.trans (by decide +kernel)
  subst ey_1135
  refine va_sld hx hb hX hbl hbA hS (vp_in_iff.mpr (by rw [hL]; decide +kernel)) dL_law_1866 ?_
  refine lv_aload_n hx hb dL_law_1867 rfl (lv_at hl 2 rfl) ?_
  have hFc := va_free (wc := [(xo, .inr (11, [.ref xg, .int 0, .ref xp, .int 0, .ref xq, .int 0, .ref r1, .ref r2, .ref r3, .ref r4, .ref se, .int 0, .int 0, .int 40, .int 0, .int 0])), (xq, .inl (cq, 16, .inr (.inr (.inr (.inr (fun _ => none)))))), (ou, .inl (cJ, 1, .inr (.inl (fun _ => 0))))]) hD hS hA [0, 1, 4] rfl
  refine vx_calli (vx_runSX (As := [.ref xo, .int (xs (1 : Int32).toNatClampNeg), .ref ou]) (rest := []) ⟨hx, hb, hml, hown, hts⟩ (zc_L_mass l hnt D G xo xg xp xq r1 r2 r3 r4 se 0 0 cq ou cJ (xs (1 : Int32).toNatClampNeg) H.size) (vx_cwSW 3 hts gzL_law_L_mass_248 rfl rfl rfl (by decide +kernel) ⟨(Nat.le_of_ble_eq_true rfl), (Nat.le_of_ble_eq_true rfl)⟩) ⟨p_RW_blind, (p_RW_at (tc := [(cq, .object "Gatherhouse$Piece"), (cJ, .long)]) (wc := [(xo, .inr (11, [.ref xg, .int 0, .ref xp, .int 0, .ref xq, .int 0, .ref r1, .ref r2, .ref r3, .ref r4, .ref se, .int 0, .int 0, .int 40, .int 0, .int 0])), (xq, .inl (cq, 16, .inr (.inr (.inr (.inr (fun _ => none)))))), (ou, .inl (cJ, 1, .inr (.inl (fun _ => 0))))]) hP hK hD hS hA hT hZ [0, 1, 4] [0, 1] rfl rfl (by decide) rfl [.ref xo, .int (xs (1 : Int32).toNatClampNeg), .ref ou])⟩ rfl rfl hl.1 rfl (lv_room (Nat.le_of_ble_eq_true rfl)) dL_law_1868 ⟨(Nat.le_of_ble_eq_true rfl), (Nat.le_of_ble_eq_true rfl)⟩) hS (fun q _ h => hFc q h) hFc (fun q _ h => hFc q h) (fun E ce q9 u t H locs ht hvm hpx hBX hz1 hk1 hS hce hcv hcl => ?_) (fun r_1136 u t H locs ht hvm w_1137 hB hz1 hk1 hS => ?_)
  · exact (show False from hBX).elim
  · obtain ⟨hP, hD, hK⟩ := q_join (D := D) (wc := [(xo, .inr (11, [.ref xg, .int 0, .ref xp, .int 0, .ref xq, .int 0, .ref r1, .ref r2, .ref r3, .ref r4, .ref se, .int 0, .int 0, .int 40, .int 0, .int 0])), (xq, .inl (cq, 16, .inr (.inr (.inr (.inr (fun _ => none)))))), (ou, .inl (cJ, 1, .inr (.inl (fun _ => 0))))]) (wr := [(mo, .inr (16, [.int 0, .ref gl, .ref po, .ref pi, .ref bu, .ref pa, .int 0, .int 0, .int 40, .int 0, .null, .int 0, .int 0])), (pi, .inr (4, [.int 0, .ref G.1, .int 0]))]) (w1 := []) (tyr := [(cq, .object "Gatherhouse$Piece"), (cJ, .long)]) (ty1 := []) hP hD hK [0, 1, 4] [2, 3] [0, 1] rfl rfl (by decide) (by decide) rfl hFc hk1 ht hvm (q_none hK hvm)
    have hP : va_P D vwCl [(mo, .inr (16, [.int 0, .ref gl, .ref po, .ref pi, .ref bu, .ref pa, .int 0, .int 0, .int 40, .int 0, .null, .int 0, .int 0])), (pi, .inr (4, [.int 0, .ref G.1, .int 0]))] H := hP
    have hD : va_D A [(mo, .inr (16, [.int 0, .ref gl, .ref po, .ref pi, .ref bu, .ref pa, .int 0, .int 0, .int 40, .int 0, .null, .int 0, .int 0])), (pi, .inr (4, [.int 0, .ref G.1, .int 0]))] := hD
    have hK : va_K D vwCl [(cq, .object "Gatherhouse$Piece"), (cJ, .long)] s := hK
    refine W.widen (k := 61) (n := 306) (Nat.le_of_ble_eq_true rfl) (Nat.le_of_ble_eq_true rfl) ?_
    obtain rfl := w_1137
    refine lv_istore (lv' := [(6, .int 1), (5, .int 0), (4, .ref od), (3, .ref ou), (2, .ref mo), (1, .ref xo), (0, .ref b)]) hx hb dL_law_1871 hl (by decide) rfl (fun ls hl => ?_)
    refine lv_aload_n hx hb dL_law_1873 rfl (lv_at hl 4 rfl) ?_
    refine lv_aload_n hx hb dL_law_1874 rfl (lv_at hl 6 rfl) ?_
    refine lv_iload hx hb dL_law_1875 (lv_at hl 1 rfl) ?_
    refine lv_iconst (v := 1) hx hb dL_law_1877 (by decide) ?_
    refine lv_iadd hx hb dL_law_1878 ?_
    refine lv_topi (fun y_1138 ey_1138 => ?_)
    have ey_1138 : y_1138 = 1 := ey_1138.trans (by decide +kernel)
    subst ey_1138
    refine va_sld hx hb hX hbl hbA hS (vp_in_iff.mpr (by rw [hL]; decide +kernel)) dL_law_1879 ?_
    have hFc := va_free (wc := [(mo, .inr (16, [.int 0, .ref gl, .ref po, .ref pi, .ref bu, .ref pa, .int 0, .int 0, .int 40, .int 0, .null, .int 0, .int 0])), (pi, .inr (4, [.int 0, .ref G.1, .int 0]))]) hD hS hA [0, 1] rfl
    refine va_calli (va_runV (As := [.int (xs (1 : Int32).toNatClampNeg)]) (rest := []) ⟨hx, hb, hml, hown, hts⟩ (zc_X11_mass l D G mo gl po pi bu pa 0 0 0 (xs (1 : Int32).toNatClampNeg) H.size) (cwV 1 hts gzL_law_X11_mass_250 rfl rfl rfl (by decide +kernel) ⟨(Nat.le_of_ble_eq_true rfl), (Nat.le_of_ble_eq_true rfl)⟩) ⟨p_RW_blind, va_recv hK hP (ci := 16) (q0 := 0) rfl rfl, (p_RW_at (tc := []) (wc := [(mo, .inr (16, [.int 0, .ref gl, .ref po, .ref pi, .ref bu, .ref pa, .int 0, .int 0, .int 40, .int 0, .null, .int 0, .int 0])), (pi, .inr (4, [.int 0, .ref G.1, .int 0]))]) hP hK hD hS hA hT hZ [0, 1] [] rfl rfl (by decide) rfl [.ref mo, .int (xs (1 : Int32).toNatClampNeg)])⟩ rfl rfl hl.1 rfl (lv_room (Nat.le_of_ble_eq_true rfl)) dL_law_1880 ⟨(Nat.le_of_ble_eq_true rfl), (Nat.le_of_ble_eq_true rfl)⟩) hS (fun q _ h => hFc q h) hFc (fun r_1139 u t H locs ht hvm w_1140 hB hz1 hk1 hS => ?_)
    obtain ⟨hP, hD, hK⟩ := q_join (D := D) (wc := [(mo, .inr (16, [.int 0, .ref gl, .ref po, .ref pi, .ref bu, .ref pa, .int 0, .int 0, .int 40, .int 0, .null, .int 0, .int 0])), (pi, .inr (4, [.int 0, .ref G.1, .int 0]))]) (wr := []) (w1 := [(mo, .inr (16, [.int 1, .ref gl, .ref po, .ref pi, .ref bu, .ref pa, .int 0, .int 0, .int 40, .int 0, .null, .int 0, .int 0])), (pi, .inr (4, [.int 0, .ref G.1, .int 0]))]) (tyr := [(cq, .object "Gatherhouse$Piece"), (cJ, .long)]) (ty1 := []) hP hD hK [0, 1] [] [0, 1] rfl rfl (by decide) (by decide) rfl hFc hk1 ht hvm hB
    have hP : va_P D vwCl [(mo, .inr (16, [.int 1, .ref gl, .ref po, .ref pi, .ref bu, .ref pa, .int 0, .int 0, .int 40, .int 0, .null, .int 0, .int 0])), (pi, .inr (4, [.int 0, .ref G.1, .int 0]))] H := hP
    have hD : va_D A [(mo, .inr (16, [.int 1, .ref gl, .ref po, .ref pi, .ref bu, .ref pa, .int 0, .int 0, .int 40, .int 0, .null, .int 0, .int 0])), (pi, .inr (4, [.int 0, .ref G.1, .int 0]))] := hD
    have hK : va_K D vwCl [(cq, .object "Gatherhouse$Piece"), (cJ, .long)] s := hK
    obtain rfl := w_1140
    refine lv_istore (lv' := [(7, .int 0), (6, .int 1), (5, .int 0), (4, .ref od), (3, .ref ou), (2, .ref mo), (1, .ref xo), (0, .ref b)]) hx hb dL_law_1883 hl (by decide) rfl (fun ls hl => ?_)
    refine lv_aload_n hx hb dL_law_1885 rfl (lv_at hl 5 rfl) ?_
    refine vp_callSi (va_runV (As := []) (rest := []) ⟨hx, hb, hml, hown, hts⟩ (zc_X11_thrown l D G mo gl po pi bu pa 1 0 0 40) (cwV 0 hts gzL_law_X11_thrown_165 rfl rfl rfl (by decide +kernel) ⟨(Nat.le_of_ble_eq_true rfl), (Nat.le_of_ble_eq_true rfl)⟩) ⟨p_RO_blind, va_recv hK hP (ci := 16) (q0 := 0) rfl rfl, (p_RO_at (tc := []) (wc := [(mo, .inr (16, [.int 1, .ref gl, .ref po, .ref pi, .ref bu, .ref pa, .int 0, .int 0, .int 40, .int 0, .null, .int 0, .int 0]))]) hP hK hT [0] [] rfl rfl [.ref mo])⟩ rfl rfl hl.1 rfl (lv_room (Nat.le_of_ble_eq_true rfl)) dL_law_1886 ⟨(Nat.le_of_ble_eq_true rfl), (Nat.le_of_ble_eq_true rfl)⟩).run (fun r_1141 w_1142 => ?_)
    obtain rfl := w_1142
    refine lv_iload hx hb dL_law_1889 (lv_at hl 1 rfl) ?_
    refine lv_icmp_eq (tgt := 1896) hx hb dL_law_1891 (by decide) (fun _ => ?_) (fun cc => absurd (by decide) cc)
    refine lv_iload hx hb dL_law_1896 (lv_at hl 1 rfl) ?_
    refine lv_if_ne (tgt := 1913) hx hb dL_law_1898 (by decide) (fun _ => ?_) (fun cc => absurd cc (by decide))
    refine lv_goto (tgt := 2999) hx hb dL_law_1913 (by decide) ?_
    refine W.widen (k := 797152) (n := 6710780) (Nat.le_of_ble_eq_true rfl) (Nat.le_of_ble_eq_true rfl) ?_
    exact hE _ _ _ hS (lv_sub hl [7, 2] rfl)
theorem dL_law_1916 : decode cL_law 1916 = .ok (.aload_n 1, 1) := by decide +kernel
theorem dL_law_1917 : decode cL_law 1917 = .ok (.aload_n 0, 1) := by decide +kernel
theorem dL_law_1918 : decode cL_law 1918 = .ok (.iload 5, 2) := by decide +kernel
theorem dL_law_1920 : decode cL_law 1920 = .ok (.iconst 1, 1) := by decide +kernel
theorem dL_law_1921 : decode cL_law 1921 = .ok (.iadd, 1) := by decide +kernel
theorem dL_law_1922 : decode cL_law 1922 = .ok (.iaload, 1) := by decide +kernel
theorem dL_law_1923 : decode cL_law 1923 = .ok (.aload_n 3, 1) := by decide +kernel
theorem dL_law_1924 : decode cL_law 1924 = .ok (.invokestatic 251, 3) := by decide +kernel
theorem dL_law_1927 : decode cL_law 1927 = .ok (.istore 6, 2) := by decide +kernel
theorem dL_law_1929 : decode cL_law 1929 = .ok (.aload_n 2, 1) := by decide +kernel
theorem dL_law_1930 : decode cL_law 1930 = .ok (.aload_n 0, 1) := by decide +kernel
theorem dL_law_1931 : decode cL_law 1931 = .ok (.iload 5, 2) := by decide +kernel
theorem dL_law_1933 : decode cL_law 1933 = .ok (.iconst 1, 1) := by decide +kernel
theorem dL_law_1934 : decode cL_law 1934 = .ok (.iadd, 1) := by decide +kernel
theorem dL_law_1935 : decode cL_law 1935 = .ok (.iaload, 1) := by decide +kernel
theorem dL_law_1936 : decode cL_law 1936 = .ok (.invokevirtual 253, 3) := by decide +kernel
theorem dL_law_1939 : decode cL_law 1939 = .ok (.istore 7, 2) := by decide +kernel
theorem dL_law_1941 : decode cL_law 1941 = .ok (.aload_n 2, 1) := by decide +kernel
theorem dL_law_1942 : decode cL_law 1942 = .ok (.invokevirtual 165, 3) := by decide +kernel
theorem dL_law_1945 : decode cL_law 1945 = .ok (.iload 6, 2) := by decide +kernel
theorem dL_law_1947 : decode cL_law 1947 = .ok (.if_icmp .eq 5, 3) := by decide +kernel
theorem dL_law_1952 : decode cL_law 1952 = .ok (.iload 6, 2) := by decide +kernel
theorem dL_law_1954 : decode cL_law 1954 = .ok (.ifCond .ne 15, 3) := by decide +kernel
theorem dL_law_1969 : decode cL_law 1969 = .ok (.goto 1030, 3) := by decide +kernel
set_option maxHeartbeats 4000000 in
set_option maxRecDepth 100000 in
theorem zl_26 {p : Program} {e : Env} {s : State} {m : MethodId} {below : List Frame} {meth : Method} {c : Code} {Q : State → Prop} {args : Array Value} (l : Launch) (hnt : l.stackTraces = false) (D : va_G) (G : Nat × Nat × Nat) (xo : Nat) (xg : Nat) (xp : Nat) (xq : Nat) (r1 : Nat) (r2 : Nat) (r3 : Nat) (r4 : Nat) (se : Nat) (n1 : Nat) (n2 : Nat) (n3 : Nat) (mo : Nat) (gl : Nat) (po : Nat) (pi : Nat) (bu : Nat) (pa : Nat) (ou : Nat) (od : Nat) (cg : ClassId) (cp : ClassId) (cq : ClassId) (ci : ClassId) (cj : ClassId) (cJ : ClassId) (cD : ClassId) {b L : Nat} {xs : Nat → Int32} {A : Nat → Prop} {H : Heap} {locs : List Loc} {ls : Array Slot} (hx : p.tables.exec = Jvm.exec) (hb : c.code = code) (hml : c.maxLocals = 9) (hown : s.vm.findClass RL = some m.cls) (hts : ∀ w ∈ wzL_law, w.before args s = true) (hT : FT G s) (hA : ∀ q : Nat, s.heap.size ≤ q → A q) (hZ : FZ G A s s.heap) (hX : va_X b L xs s s.heap) (hbl : b < s.heap.size) (hbA : ¬ A b) (hL : L = 5) (hK : va_K D vwCl [(cg, .object "Gatherhouse$Glass"), (cp, .object "Gatherhouse$Pot"), (cq, .object "Gatherhouse$Piece"), (ci, .int), (cj, .int), (cJ, .long), (cD, .double)] s) (hP : va_P D vwCl [(xo, .inr (11, [.ref xg, .int 0, .ref xp, .int 0, .ref xq, .int 0, .ref r1, .ref r2, .ref r3, .ref r4, .ref se, .int 0, .int 0, .int 40, .int 0, .int 0])), (xg, .inl (cg, 6, .inr (.inr (.inr (.inr (fun _ => none)))))), (xp, .inl (cp, 4, .inr (.inr (.inr (.inr (fun _ => none)))))), (xq, .inl (cq, 16, .inr (.inr (.inr (.inr (fun _ => none)))))), (r1, .inr (9, [.int 0, .int 0])), (r2, .inr (9, [.int 0, .int 0])), (r3, .inr (9, [.int 0, .int 0])), (r4, .inr (9, [.int 0, .int 0])), (se, .inr (10, [.ref n1, .ref n2, .ref n3, .int 0, .int 0, .int 0, .int 0])), (mo, .inr (16, [.int 0, .ref gl, .ref po, .ref pi, .ref bu, .ref pa, .int 0, .int 0, .int 40, .int 0, .null, .int 0, .int 0])), (gl, .inr (4, [.int 0, .ref G.1, .int 0])), (po, .inr (4, [.int 0, .ref G.1, .int 0])), (pi, .inr (4, [.int 0, .ref G.1, .int 0])), (bu, .inl (ci, 4, .inl (fun _ => 0))), (pa, .inl (cj, 4, .inl (fun _ => 0))), (ou, .inl (cJ, 1, .inr (.inl (fun _ => 0)))), (od, .inl (cD, 1, .inr (.inr (.inr (.inl (fun _ => 0))))))] H) (hD : va_D A [(xo, .inr (11, [.ref xg, .int 0, .ref xp, .int 0, .ref xq, .int 0, .ref r1, .ref r2, .ref r3, .ref r4, .ref se, .int 0, .int 0, .int 40, .int 0, .int 0])), (xg, .inl (cg, 6, .inr (.inr (.inr (.inr (fun _ => none)))))), (xp, .inl (cp, 4, .inr (.inr (.inr (.inr (fun _ => none)))))), (xq, .inl (cq, 16, .inr (.inr (.inr (.inr (fun _ => none)))))), (r1, .inr (9, [.int 0, .int 0])), (r2, .inr (9, [.int 0, .int 0])), (r3, .inr (9, [.int 0, .int 0])), (r4, .inr (9, [.int 0, .int 0])), (se, .inr (10, [.ref n1, .ref n2, .ref n3, .int 0, .int 0, .int 0, .int 0])), (mo, .inr (16, [.int 0, .ref gl, .ref po, .ref pi, .ref bu, .ref pa, .int 0, .int 0, .int 40, .int 0, .null, .int 0, .int 0])), (gl, .inr (4, [.int 0, .ref G.1, .int 0])), (po, .inr (4, [.int 0, .ref G.1, .int 0])), (pi, .inr (4, [.int 0, .ref G.1, .int 0])), (bu, .inl (ci, 4, .inl (fun _ => 0))), (pa, .inl (cj, 4, .inl (fun _ => 0))), (ou, .inl (cJ, 1, .inr (.inl (fun _ => 0)))), (od, .inl (cD, 1, .inr (.inr (.inr (.inl (fun _ => 0))))))]) (hS : va_S A s.heap H locs) (hl : lv_has ls 9 [(5, .int 0), (4, .ref od), (3, .ref ou), (2, .ref mo), (1, .ref xo), (0, .ref b)]) (hE : ∀ (H : Heap) (locs : List Loc) (ls : Array Slot), va_S A s.heap H locs → lv_has ls 9 [(0, .ref b), (5, .int 0)] → W p l e room_1 s m args below meth c H locs 797152 6710780 Q (F0 m 2999 ls [])) : W p l e room_1 s m args below meth c H locs 60 300 Q (F0 m 1916 ls []) := by
  have hP := hP.sub (ws' := [(xo, .inr (11, [.ref xg, .int 0, .ref xp, .int 0, .ref xq, .int 0, .ref r1, .ref r2, .ref r3, .ref r4, .ref se, .int 0, .int 0, .int 40, .int 0, .int 0])), (xq, .inl (cq, 16, .inr (.inr (.inr (.inr (fun _ => none)))))), (mo, .inr (16, [.int 0, .ref gl, .ref po, .ref pi, .ref bu, .ref pa, .int 0, .int 0, .int 40, .int 0, .null, .int 0, .int 0])), (pi, .inr (4, [.int 0, .ref G.1, .int 0])), (ou, .inl (cJ, 1, .inr (.inl (fun _ => 0))))]) [0, 3, 9, 12, 15] rfl
  have hD := hD.sub (ws' := [(xo, .inr (11, [.ref xg, .int 0, .ref xp, .int 0, .ref xq, .int 0, .ref r1, .ref r2, .ref r3, .ref r4, .ref se, .int 0, .int 0, .int 40, .int 0, .int 0])), (xq, .inl (cq, 16, .inr (.inr (.inr (.inr (fun _ => none)))))), (mo, .inr (16, [.int 0, .ref gl, .ref po, .ref pi, .ref bu, .ref pa, .int 0, .int 0, .int 40, .int 0, .null, .int 0, .int 0])), (pi, .inr (4, [.int 0, .ref G.1, .int 0])), (ou, .inl (cJ, 1, .inr (.inl (fun _ => 0))))]) [0, 3, 9, 12, 15] (by decide) rfl
  have hK := hK.sub (tys' := [(cq, .object "Gatherhouse$Piece"), (cJ, .long)]) [2, 5] rfl
  refine lv_aload_n hx hb dL_law_1916 rfl (lv_at hl 4 rfl) ?_
  refine lv_aload_n hx hb dL_law_1917 rfl (lv_at hl 5 rfl) ?_
  refine lv_iload hx hb dL_law_1918 (lv_at hl 0 rfl) ?_
  refine lv_iconst (v := 1) hx hb dL_law_1920 (by decide) ?_
  refine lv_iadd hx hb dL_law_1921 ?_
  refine lv_topi (fun y_1143 ey_1143 => ?_)
  have ey_1143 : y_1143 = 1 := ey_1143.trans (by decide +kernel)
  subst ey_1143
  refine va_sld hx hb hX hbl hbA hS (vp_in_iff.mpr (by rw [hL]; decide +kernel)) dL_law_1922 ?_
  refine lv_aload_n hx hb dL_law_1923 rfl (lv_at hl 2 rfl) ?_
  have hFc := va_free (wc := [(xo, .inr (11, [.ref xg, .int 0, .ref xp, .int 0, .ref xq, .int 0, .ref r1, .ref r2, .ref r3, .ref r4, .ref se, .int 0, .int 0, .int 40, .int 0, .int 0])), (xq, .inl (cq, 16, .inr (.inr (.inr (.inr (fun _ => none)))))), (ou, .inl (cJ, 1, .inr (.inl (fun _ => 0))))]) hD hS hA [0, 1, 4] rfl
  refine vx_calli (vx_runSX (As := [.ref xo, .int (xs (1 : Int32).toNatClampNeg), .ref ou]) (rest := []) ⟨hx, hb, hml, hown, hts⟩ (zc_L_height l hnt D G xo xg xp xq r1 r2 r3 r4 se 0 0 cq ou cJ (xs (1 : Int32).toNatClampNeg) H.size) (vx_cwSW 3 hts gzL_law_L_height_251 rfl rfl rfl (by decide +kernel) ⟨(Nat.le_of_ble_eq_true rfl), (Nat.le_of_ble_eq_true rfl)⟩) ⟨p_RW_blind, (p_RW_at (tc := [(cq, .object "Gatherhouse$Piece"), (cJ, .long)]) (wc := [(xo, .inr (11, [.ref xg, .int 0, .ref xp, .int 0, .ref xq, .int 0, .ref r1, .ref r2, .ref r3, .ref r4, .ref se, .int 0, .int 0, .int 40, .int 0, .int 0])), (xq, .inl (cq, 16, .inr (.inr (.inr (.inr (fun _ => none)))))), (ou, .inl (cJ, 1, .inr (.inl (fun _ => 0))))]) hP hK hD hS hA hT hZ [0, 1, 4] [0, 1] rfl rfl (by decide) rfl [.ref xo, .int (xs (1 : Int32).toNatClampNeg), .ref ou])⟩ rfl rfl hl.1 rfl (lv_room (Nat.le_of_ble_eq_true rfl)) dL_law_1924 ⟨(Nat.le_of_ble_eq_true rfl), (Nat.le_of_ble_eq_true rfl)⟩) hS (fun q _ h => hFc q h) hFc (fun q _ h => hFc q h) (fun E ce q9 u t H locs ht hvm hpx hBX hz1 hk1 hS hce hcv hcl => ?_) (fun r_1144 u t H locs ht hvm w_1145 hB hz1 hk1 hS => ?_)
  · exact (show False from hBX).elim
  · obtain ⟨hP, hD, hK⟩ := q_join (D := D) (wc := [(xo, .inr (11, [.ref xg, .int 0, .ref xp, .int 0, .ref xq, .int 0, .ref r1, .ref r2, .ref r3, .ref r4, .ref se, .int 0, .int 0, .int 40, .int 0, .int 0])), (xq, .inl (cq, 16, .inr (.inr (.inr (.inr (fun _ => none)))))), (ou, .inl (cJ, 1, .inr (.inl (fun _ => 0))))]) (wr := [(mo, .inr (16, [.int 0, .ref gl, .ref po, .ref pi, .ref bu, .ref pa, .int 0, .int 0, .int 40, .int 0, .null, .int 0, .int 0])), (pi, .inr (4, [.int 0, .ref G.1, .int 0]))]) (w1 := []) (tyr := [(cq, .object "Gatherhouse$Piece"), (cJ, .long)]) (ty1 := []) hP hD hK [0, 1, 4] [2, 3] [0, 1] rfl rfl (by decide) (by decide) rfl hFc hk1 ht hvm (q_none hK hvm)
    have hP : va_P D vwCl [(mo, .inr (16, [.int 0, .ref gl, .ref po, .ref pi, .ref bu, .ref pa, .int 0, .int 0, .int 40, .int 0, .null, .int 0, .int 0])), (pi, .inr (4, [.int 0, .ref G.1, .int 0]))] H := hP
    have hD : va_D A [(mo, .inr (16, [.int 0, .ref gl, .ref po, .ref pi, .ref bu, .ref pa, .int 0, .int 0, .int 40, .int 0, .null, .int 0, .int 0])), (pi, .inr (4, [.int 0, .ref G.1, .int 0]))] := hD
    have hK : va_K D vwCl [(cq, .object "Gatherhouse$Piece"), (cJ, .long)] s := hK
    refine W.widen (k := 61) (n := 306) (Nat.le_of_ble_eq_true rfl) (Nat.le_of_ble_eq_true rfl) ?_
    obtain rfl := w_1145
    refine lv_istore (lv' := [(6, .int 1), (5, .int 0), (4, .ref od), (3, .ref ou), (2, .ref mo), (1, .ref xo), (0, .ref b)]) hx hb dL_law_1927 hl (by decide) rfl (fun ls hl => ?_)
    refine lv_aload_n hx hb dL_law_1929 rfl (lv_at hl 4 rfl) ?_
    refine lv_aload_n hx hb dL_law_1930 rfl (lv_at hl 6 rfl) ?_
    refine lv_iload hx hb dL_law_1931 (lv_at hl 1 rfl) ?_
    refine lv_iconst (v := 1) hx hb dL_law_1933 (by decide) ?_
    refine lv_iadd hx hb dL_law_1934 ?_
    refine lv_topi (fun y_1146 ey_1146 => ?_)
    have ey_1146 : y_1146 = 1 := ey_1146.trans (by decide +kernel)
    subst ey_1146
    refine va_sld hx hb hX hbl hbA hS (vp_in_iff.mpr (by rw [hL]; decide +kernel)) dL_law_1935 ?_
    have hFc := va_free (wc := [(mo, .inr (16, [.int 0, .ref gl, .ref po, .ref pi, .ref bu, .ref pa, .int 0, .int 0, .int 40, .int 0, .null, .int 0, .int 0])), (pi, .inr (4, [.int 0, .ref G.1, .int 0]))]) hD hS hA [0, 1] rfl
    refine va_calli (va_runV (As := [.int (xs (1 : Int32).toNatClampNeg)]) (rest := []) ⟨hx, hb, hml, hown, hts⟩ (zc_X11_height l D G mo gl po pi bu pa 0 0 0 (xs (1 : Int32).toNatClampNeg) H.size) (cwV 1 hts gzL_law_X11_height_253 rfl rfl rfl (by decide +kernel) ⟨(Nat.le_of_ble_eq_true rfl), (Nat.le_of_ble_eq_true rfl)⟩) ⟨p_RW_blind, va_recv hK hP (ci := 16) (q0 := 0) rfl rfl, (p_RW_at (tc := []) (wc := [(mo, .inr (16, [.int 0, .ref gl, .ref po, .ref pi, .ref bu, .ref pa, .int 0, .int 0, .int 40, .int 0, .null, .int 0, .int 0])), (pi, .inr (4, [.int 0, .ref G.1, .int 0]))]) hP hK hD hS hA hT hZ [0, 1] [] rfl rfl (by decide) rfl [.ref mo, .int (xs (1 : Int32).toNatClampNeg)])⟩ rfl rfl hl.1 rfl (lv_room (Nat.le_of_ble_eq_true rfl)) dL_law_1936 ⟨(Nat.le_of_ble_eq_true rfl), (Nat.le_of_ble_eq_true rfl)⟩) hS (fun q _ h => hFc q h) hFc (fun r_1147 u t H locs ht hvm w_1148 hB hz1 hk1 hS => ?_)
    obtain ⟨hP, hD, hK⟩ := q_join (D := D) (wc := [(mo, .inr (16, [.int 0, .ref gl, .ref po, .ref pi, .ref bu, .ref pa, .int 0, .int 0, .int 40, .int 0, .null, .int 0, .int 0])), (pi, .inr (4, [.int 0, .ref G.1, .int 0]))]) (wr := []) (w1 := [(mo, .inr (16, [.int 1, .ref gl, .ref po, .ref pi, .ref bu, .ref pa, .int 0, .int 0, .int 40, .int 0, .null, .int 0, .int 0])), (pi, .inr (4, [.int 0, .ref G.1, .int 0]))]) (tyr := [(cq, .object "Gatherhouse$Piece"), (cJ, .long)]) (ty1 := []) hP hD hK [0, 1] [] [0, 1] rfl rfl (by decide) (by decide) rfl hFc hk1 ht hvm hB
    have hP : va_P D vwCl [(mo, .inr (16, [.int 1, .ref gl, .ref po, .ref pi, .ref bu, .ref pa, .int 0, .int 0, .int 40, .int 0, .null, .int 0, .int 0])), (pi, .inr (4, [.int 0, .ref G.1, .int 0]))] H := hP
    have hD : va_D A [(mo, .inr (16, [.int 1, .ref gl, .ref po, .ref pi, .ref bu, .ref pa, .int 0, .int 0, .int 40, .int 0, .null, .int 0, .int 0])), (pi, .inr (4, [.int 0, .ref G.1, .int 0]))] := hD
    have hK : va_K D vwCl [(cq, .object "Gatherhouse$Piece"), (cJ, .long)] s := hK
    obtain rfl := w_1148
    refine lv_istore (lv' := [(7, .int 0), (6, .int 1), (5, .int 0), (4, .ref od), (3, .ref ou), (2, .ref mo), (1, .ref xo), (0, .ref b)]) hx hb dL_law_1939 hl (by decide) rfl (fun ls hl => ?_)
    refine lv_aload_n hx hb dL_law_1941 rfl (lv_at hl 5 rfl) ?_
    refine vp_callSi (va_runV (As := []) (rest := []) ⟨hx, hb, hml, hown, hts⟩ (zc_X11_thrown l D G mo gl po pi bu pa 1 0 0 40) (cwV 0 hts gzL_law_X11_thrown_165 rfl rfl rfl (by decide +kernel) ⟨(Nat.le_of_ble_eq_true rfl), (Nat.le_of_ble_eq_true rfl)⟩) ⟨p_RO_blind, va_recv hK hP (ci := 16) (q0 := 0) rfl rfl, (p_RO_at (tc := []) (wc := [(mo, .inr (16, [.int 1, .ref gl, .ref po, .ref pi, .ref bu, .ref pa, .int 0, .int 0, .int 40, .int 0, .null, .int 0, .int 0]))]) hP hK hT [0] [] rfl rfl [.ref mo])⟩ rfl rfl hl.1 rfl (lv_room (Nat.le_of_ble_eq_true rfl)) dL_law_1942 ⟨(Nat.le_of_ble_eq_true rfl), (Nat.le_of_ble_eq_true rfl)⟩).run (fun r_1149 w_1150 => ?_)
    obtain rfl := w_1150
    refine lv_iload hx hb dL_law_1945 (lv_at hl 1 rfl) ?_
    refine lv_icmp_eq (tgt := 1952) hx hb dL_law_1947 (by decide) (fun _ => ?_) (fun cc => absurd (by decide) cc)
    refine lv_iload hx hb dL_law_1952 (lv_at hl 1 rfl) ?_
    refine lv_if_ne (tgt := 1969) hx hb dL_law_1954 (by decide) (fun _ => ?_) (fun cc => absurd cc (by decide))
    refine lv_goto (tgt := 2999) hx hb dL_law_1969 (by decide) ?_
    refine W.widen (k := 797152) (n := 6710780) (Nat.le_of_ble_eq_true rfl) (Nat.le_of_ble_eq_true rfl) ?_
    exact hE _ _ _ hS (lv_sub hl [7, 2] rfl)
theorem dL_law_1972 : decode cL_law 1972 = .ok (.aload_n 1, 1) := by decide +kernel
theorem dL_law_1973 : decode cL_law 1973 = .ok (.aload_n 0, 1) := by decide +kernel
theorem dL_law_1974 : decode cL_law 1974 = .ok (.iload 5, 2) := by decide +kernel
theorem dL_law_1976 : decode cL_law 1976 = .ok (.iconst 1, 1) := by decide +kernel
theorem dL_law_1977 : decode cL_law 1977 = .ok (.iadd, 1) := by decide +kernel
theorem dL_law_1978 : decode cL_law 1978 = .ok (.iaload, 1) := by decide +kernel
theorem dL_law_1979 : decode cL_law 1979 = .ok (.aload_n 3, 1) := by decide +kernel
theorem dL_law_1980 : decode cL_law 1980 = .ok (.invokestatic 254, 3) := by decide +kernel
theorem dL_law_1983 : decode cL_law 1983 = .ok (.istore 6, 2) := by decide +kernel
theorem dL_law_1985 : decode cL_law 1985 = .ok (.aload_n 2, 1) := by decide +kernel
theorem dL_law_1986 : decode cL_law 1986 = .ok (.aload_n 0, 1) := by decide +kernel
theorem dL_law_1987 : decode cL_law 1987 = .ok (.iload 5, 2) := by decide +kernel
theorem dL_law_1989 : decode cL_law 1989 = .ok (.iconst 1, 1) := by decide +kernel
theorem dL_law_1990 : decode cL_law 1990 = .ok (.iadd, 1) := by decide +kernel
theorem dL_law_1991 : decode cL_law 1991 = .ok (.iaload, 1) := by decide +kernel
theorem dL_law_1992 : decode cL_law 1992 = .ok (.invokevirtual 256, 3) := by decide +kernel
theorem dL_law_1995 : decode cL_law 1995 = .ok (.istore 7, 2) := by decide +kernel
theorem dL_law_1997 : decode cL_law 1997 = .ok (.aload_n 2, 1) := by decide +kernel
theorem dL_law_1998 : decode cL_law 1998 = .ok (.invokevirtual 165, 3) := by decide +kernel
theorem dL_law_2001 : decode cL_law 2001 = .ok (.iload 6, 2) := by decide +kernel
theorem dL_law_2003 : decode cL_law 2003 = .ok (.if_icmp .eq 5, 3) := by decide +kernel
theorem dL_law_2008 : decode cL_law 2008 = .ok (.iload 6, 2) := by decide +kernel
theorem dL_law_2010 : decode cL_law 2010 = .ok (.ifCond .ne 15, 3) := by decide +kernel
theorem dL_law_2025 : decode cL_law 2025 = .ok (.goto 974, 3) := by decide +kernel
set_option maxHeartbeats 4000000 in
set_option maxRecDepth 100000 in
theorem zl_27 {p : Program} {e : Env} {s : State} {m : MethodId} {below : List Frame} {meth : Method} {c : Code} {Q : State → Prop} {args : Array Value} (l : Launch) (hnt : l.stackTraces = false) (D : va_G) (G : Nat × Nat × Nat) (xo : Nat) (xg : Nat) (xp : Nat) (xq : Nat) (r1 : Nat) (r2 : Nat) (r3 : Nat) (r4 : Nat) (se : Nat) (n1 : Nat) (n2 : Nat) (n3 : Nat) (mo : Nat) (gl : Nat) (po : Nat) (pi : Nat) (bu : Nat) (pa : Nat) (ou : Nat) (od : Nat) (cg : ClassId) (cp : ClassId) (cq : ClassId) (ci : ClassId) (cj : ClassId) (cJ : ClassId) (cD : ClassId) {b L : Nat} {xs : Nat → Int32} {A : Nat → Prop} {H : Heap} {locs : List Loc} {ls : Array Slot} (hx : p.tables.exec = Jvm.exec) (hb : c.code = code) (hml : c.maxLocals = 9) (hown : s.vm.findClass RL = some m.cls) (hts : ∀ w ∈ wzL_law, w.before args s = true) (hT : FT G s) (hA : ∀ q : Nat, s.heap.size ≤ q → A q) (hZ : FZ G A s s.heap) (hX : va_X b L xs s s.heap) (hbl : b < s.heap.size) (hbA : ¬ A b) (hL : L = 5) (hK : va_K D vwCl [(cg, .object "Gatherhouse$Glass"), (cp, .object "Gatherhouse$Pot"), (cq, .object "Gatherhouse$Piece"), (ci, .int), (cj, .int), (cJ, .long), (cD, .double)] s) (hP : va_P D vwCl [(xo, .inr (11, [.ref xg, .int 0, .ref xp, .int 0, .ref xq, .int 0, .ref r1, .ref r2, .ref r3, .ref r4, .ref se, .int 0, .int 0, .int 40, .int 0, .int 0])), (xg, .inl (cg, 6, .inr (.inr (.inr (.inr (fun _ => none)))))), (xp, .inl (cp, 4, .inr (.inr (.inr (.inr (fun _ => none)))))), (xq, .inl (cq, 16, .inr (.inr (.inr (.inr (fun _ => none)))))), (r1, .inr (9, [.int 0, .int 0])), (r2, .inr (9, [.int 0, .int 0])), (r3, .inr (9, [.int 0, .int 0])), (r4, .inr (9, [.int 0, .int 0])), (se, .inr (10, [.ref n1, .ref n2, .ref n3, .int 0, .int 0, .int 0, .int 0])), (mo, .inr (16, [.int 0, .ref gl, .ref po, .ref pi, .ref bu, .ref pa, .int 0, .int 0, .int 40, .int 0, .null, .int 0, .int 0])), (gl, .inr (4, [.int 0, .ref G.1, .int 0])), (po, .inr (4, [.int 0, .ref G.1, .int 0])), (pi, .inr (4, [.int 0, .ref G.1, .int 0])), (bu, .inl (ci, 4, .inl (fun _ => 0))), (pa, .inl (cj, 4, .inl (fun _ => 0))), (ou, .inl (cJ, 1, .inr (.inl (fun _ => 0)))), (od, .inl (cD, 1, .inr (.inr (.inr (.inl (fun _ => 0))))))] H) (hD : va_D A [(xo, .inr (11, [.ref xg, .int 0, .ref xp, .int 0, .ref xq, .int 0, .ref r1, .ref r2, .ref r3, .ref r4, .ref se, .int 0, .int 0, .int 40, .int 0, .int 0])), (xg, .inl (cg, 6, .inr (.inr (.inr (.inr (fun _ => none)))))), (xp, .inl (cp, 4, .inr (.inr (.inr (.inr (fun _ => none)))))), (xq, .inl (cq, 16, .inr (.inr (.inr (.inr (fun _ => none)))))), (r1, .inr (9, [.int 0, .int 0])), (r2, .inr (9, [.int 0, .int 0])), (r3, .inr (9, [.int 0, .int 0])), (r4, .inr (9, [.int 0, .int 0])), (se, .inr (10, [.ref n1, .ref n2, .ref n3, .int 0, .int 0, .int 0, .int 0])), (mo, .inr (16, [.int 0, .ref gl, .ref po, .ref pi, .ref bu, .ref pa, .int 0, .int 0, .int 40, .int 0, .null, .int 0, .int 0])), (gl, .inr (4, [.int 0, .ref G.1, .int 0])), (po, .inr (4, [.int 0, .ref G.1, .int 0])), (pi, .inr (4, [.int 0, .ref G.1, .int 0])), (bu, .inl (ci, 4, .inl (fun _ => 0))), (pa, .inl (cj, 4, .inl (fun _ => 0))), (ou, .inl (cJ, 1, .inr (.inl (fun _ => 0)))), (od, .inl (cD, 1, .inr (.inr (.inr (.inl (fun _ => 0))))))]) (hS : va_S A s.heap H locs) (hl : lv_has ls 9 [(5, .int 0), (4, .ref od), (3, .ref ou), (2, .ref mo), (1, .ref xo), (0, .ref b)]) (hE : ∀ (H : Heap) (locs : List Loc) (ls : Array Slot), va_S A s.heap H locs → lv_has ls 9 [(0, .ref b), (5, .int 0)] → W p l e room_1 s m args below meth c H locs 797152 6710780 Q (F0 m 2999 ls [])) : W p l e room_1 s m args below meth c H locs 60 300 Q (F0 m 1972 ls []) := by
  have hP := hP.sub (ws' := [(xo, .inr (11, [.ref xg, .int 0, .ref xp, .int 0, .ref xq, .int 0, .ref r1, .ref r2, .ref r3, .ref r4, .ref se, .int 0, .int 0, .int 40, .int 0, .int 0])), (xq, .inl (cq, 16, .inr (.inr (.inr (.inr (fun _ => none)))))), (mo, .inr (16, [.int 0, .ref gl, .ref po, .ref pi, .ref bu, .ref pa, .int 0, .int 0, .int 40, .int 0, .null, .int 0, .int 0])), (pi, .inr (4, [.int 0, .ref G.1, .int 0])), (ou, .inl (cJ, 1, .inr (.inl (fun _ => 0))))]) [0, 3, 9, 12, 15] rfl
  have hD := hD.sub (ws' := [(xo, .inr (11, [.ref xg, .int 0, .ref xp, .int 0, .ref xq, .int 0, .ref r1, .ref r2, .ref r3, .ref r4, .ref se, .int 0, .int 0, .int 40, .int 0, .int 0])), (xq, .inl (cq, 16, .inr (.inr (.inr (.inr (fun _ => none)))))), (mo, .inr (16, [.int 0, .ref gl, .ref po, .ref pi, .ref bu, .ref pa, .int 0, .int 0, .int 40, .int 0, .null, .int 0, .int 0])), (pi, .inr (4, [.int 0, .ref G.1, .int 0])), (ou, .inl (cJ, 1, .inr (.inl (fun _ => 0))))]) [0, 3, 9, 12, 15] (by decide) rfl
  have hK := hK.sub (tys' := [(cq, .object "Gatherhouse$Piece"), (cJ, .long)]) [2, 5] rfl
  refine lv_aload_n hx hb dL_law_1972 rfl (lv_at hl 4 rfl) ?_
  refine lv_aload_n hx hb dL_law_1973 rfl (lv_at hl 5 rfl) ?_
  refine lv_iload hx hb dL_law_1974 (lv_at hl 0 rfl) ?_
  refine lv_iconst (v := 1) hx hb dL_law_1976 (by decide) ?_
  refine lv_iadd hx hb dL_law_1977 ?_
  refine lv_topi (fun y_1151 ey_1151 => ?_)
  have ey_1151 : y_1151 = 1 := ey_1151.trans (by decide +kernel)
  subst ey_1151
  refine va_sld hx hb hX hbl hbA hS (vp_in_iff.mpr (by rw [hL]; decide +kernel)) dL_law_1978 ?_
  refine lv_aload_n hx hb dL_law_1979 rfl (lv_at hl 2 rfl) ?_
  have hFc := va_free (wc := [(xo, .inr (11, [.ref xg, .int 0, .ref xp, .int 0, .ref xq, .int 0, .ref r1, .ref r2, .ref r3, .ref r4, .ref se, .int 0, .int 0, .int 40, .int 0, .int 0])), (xq, .inl (cq, 16, .inr (.inr (.inr (.inr (fun _ => none)))))), (ou, .inl (cJ, 1, .inr (.inl (fun _ => 0))))]) hD hS hA [0, 1, 4] rfl
  refine vx_calli (vx_runSX (As := [.ref xo, .int (xs (1 : Int32).toNatClampNeg), .ref ou]) (rest := []) ⟨hx, hb, hml, hown, hts⟩ (zc_L_layers l hnt D G xo xg xp xq r1 r2 r3 r4 se 0 0 cq ou cJ (xs (1 : Int32).toNatClampNeg) H.size) (vx_cwSW 3 hts gzL_law_L_layers_254 rfl rfl rfl (by decide +kernel) ⟨(Nat.le_of_ble_eq_true rfl), (Nat.le_of_ble_eq_true rfl)⟩) ⟨p_RW_blind, (p_RW_at (tc := [(cq, .object "Gatherhouse$Piece"), (cJ, .long)]) (wc := [(xo, .inr (11, [.ref xg, .int 0, .ref xp, .int 0, .ref xq, .int 0, .ref r1, .ref r2, .ref r3, .ref r4, .ref se, .int 0, .int 0, .int 40, .int 0, .int 0])), (xq, .inl (cq, 16, .inr (.inr (.inr (.inr (fun _ => none)))))), (ou, .inl (cJ, 1, .inr (.inl (fun _ => 0))))]) hP hK hD hS hA hT hZ [0, 1, 4] [0, 1] rfl rfl (by decide) rfl [.ref xo, .int (xs (1 : Int32).toNatClampNeg), .ref ou])⟩ rfl rfl hl.1 rfl (lv_room (Nat.le_of_ble_eq_true rfl)) dL_law_1980 ⟨(Nat.le_of_ble_eq_true rfl), (Nat.le_of_ble_eq_true rfl)⟩) hS (fun q _ h => hFc q h) hFc (fun q _ h => hFc q h) (fun E ce q9 u t H locs ht hvm hpx hBX hz1 hk1 hS hce hcv hcl => ?_) (fun r_1152 u t H locs ht hvm w_1153 hB hz1 hk1 hS => ?_)
  · exact (show False from hBX).elim
  · obtain ⟨hP, hD, hK⟩ := q_join (D := D) (wc := [(xo, .inr (11, [.ref xg, .int 0, .ref xp, .int 0, .ref xq, .int 0, .ref r1, .ref r2, .ref r3, .ref r4, .ref se, .int 0, .int 0, .int 40, .int 0, .int 0])), (xq, .inl (cq, 16, .inr (.inr (.inr (.inr (fun _ => none)))))), (ou, .inl (cJ, 1, .inr (.inl (fun _ => 0))))]) (wr := [(mo, .inr (16, [.int 0, .ref gl, .ref po, .ref pi, .ref bu, .ref pa, .int 0, .int 0, .int 40, .int 0, .null, .int 0, .int 0])), (pi, .inr (4, [.int 0, .ref G.1, .int 0]))]) (w1 := []) (tyr := [(cq, .object "Gatherhouse$Piece"), (cJ, .long)]) (ty1 := []) hP hD hK [0, 1, 4] [2, 3] [0, 1] rfl rfl (by decide) (by decide) rfl hFc hk1 ht hvm (q_none hK hvm)
    have hP : va_P D vwCl [(mo, .inr (16, [.int 0, .ref gl, .ref po, .ref pi, .ref bu, .ref pa, .int 0, .int 0, .int 40, .int 0, .null, .int 0, .int 0])), (pi, .inr (4, [.int 0, .ref G.1, .int 0]))] H := hP
    have hD : va_D A [(mo, .inr (16, [.int 0, .ref gl, .ref po, .ref pi, .ref bu, .ref pa, .int 0, .int 0, .int 40, .int 0, .null, .int 0, .int 0])), (pi, .inr (4, [.int 0, .ref G.1, .int 0]))] := hD
    have hK : va_K D vwCl [(cq, .object "Gatherhouse$Piece"), (cJ, .long)] s := hK
    refine W.widen (k := 61) (n := 306) (Nat.le_of_ble_eq_true rfl) (Nat.le_of_ble_eq_true rfl) ?_
    obtain rfl := w_1153
    refine lv_istore (lv' := [(6, .int 1), (5, .int 0), (4, .ref od), (3, .ref ou), (2, .ref mo), (1, .ref xo), (0, .ref b)]) hx hb dL_law_1983 hl (by decide) rfl (fun ls hl => ?_)
    refine lv_aload_n hx hb dL_law_1985 rfl (lv_at hl 4 rfl) ?_
    refine lv_aload_n hx hb dL_law_1986 rfl (lv_at hl 6 rfl) ?_
    refine lv_iload hx hb dL_law_1987 (lv_at hl 1 rfl) ?_
    refine lv_iconst (v := 1) hx hb dL_law_1989 (by decide) ?_
    refine lv_iadd hx hb dL_law_1990 ?_
    refine lv_topi (fun y_1154 ey_1154 => ?_)
    have ey_1154 : y_1154 = 1 := ey_1154.trans (by decide +kernel)
    subst ey_1154
    refine va_sld hx hb hX hbl hbA hS (vp_in_iff.mpr (by rw [hL]; decide +kernel)) dL_law_1991 ?_
    have hFc := va_free (wc := [(mo, .inr (16, [.int 0, .ref gl, .ref po, .ref pi, .ref bu, .ref pa, .int 0, .int 0, .int 40, .int 0, .null, .int 0, .int 0])), (pi, .inr (4, [.int 0, .ref G.1, .int 0]))]) hD hS hA [0, 1] rfl
    refine va_calli (va_runV (As := [.int (xs (1 : Int32).toNatClampNeg)]) (rest := []) ⟨hx, hb, hml, hown, hts⟩ (zc_X11_layers l D G mo gl po pi bu pa 0 0 0 (xs (1 : Int32).toNatClampNeg) H.size) (cwV 1 hts gzL_law_X11_layers_256 rfl rfl rfl (by decide +kernel) ⟨(Nat.le_of_ble_eq_true rfl), (Nat.le_of_ble_eq_true rfl)⟩) ⟨p_RW_blind, va_recv hK hP (ci := 16) (q0 := 0) rfl rfl, (p_RW_at (tc := []) (wc := [(mo, .inr (16, [.int 0, .ref gl, .ref po, .ref pi, .ref bu, .ref pa, .int 0, .int 0, .int 40, .int 0, .null, .int 0, .int 0])), (pi, .inr (4, [.int 0, .ref G.1, .int 0]))]) hP hK hD hS hA hT hZ [0, 1] [] rfl rfl (by decide) rfl [.ref mo, .int (xs (1 : Int32).toNatClampNeg)])⟩ rfl rfl hl.1 rfl (lv_room (Nat.le_of_ble_eq_true rfl)) dL_law_1992 ⟨(Nat.le_of_ble_eq_true rfl), (Nat.le_of_ble_eq_true rfl)⟩) hS (fun q _ h => hFc q h) hFc (fun r_1155 u t H locs ht hvm w_1156 hB hz1 hk1 hS => ?_)
    obtain ⟨hP, hD, hK⟩ := q_join (D := D) (wc := [(mo, .inr (16, [.int 0, .ref gl, .ref po, .ref pi, .ref bu, .ref pa, .int 0, .int 0, .int 40, .int 0, .null, .int 0, .int 0])), (pi, .inr (4, [.int 0, .ref G.1, .int 0]))]) (wr := []) (w1 := [(mo, .inr (16, [.int 1, .ref gl, .ref po, .ref pi, .ref bu, .ref pa, .int 0, .int 0, .int 40, .int 0, .null, .int 0, .int 0])), (pi, .inr (4, [.int 0, .ref G.1, .int 0]))]) (tyr := [(cq, .object "Gatherhouse$Piece"), (cJ, .long)]) (ty1 := []) hP hD hK [0, 1] [] [0, 1] rfl rfl (by decide) (by decide) rfl hFc hk1 ht hvm hB
    have hP : va_P D vwCl [(mo, .inr (16, [.int 1, .ref gl, .ref po, .ref pi, .ref bu, .ref pa, .int 0, .int 0, .int 40, .int 0, .null, .int 0, .int 0])), (pi, .inr (4, [.int 0, .ref G.1, .int 0]))] H := hP
    have hD : va_D A [(mo, .inr (16, [.int 1, .ref gl, .ref po, .ref pi, .ref bu, .ref pa, .int 0, .int 0, .int 40, .int 0, .null, .int 0, .int 0])), (pi, .inr (4, [.int 0, .ref G.1, .int 0]))] := hD
    have hK : va_K D vwCl [(cq, .object "Gatherhouse$Piece"), (cJ, .long)] s := hK
    obtain rfl := w_1156
    refine lv_istore (lv' := [(7, .int 0), (6, .int 1), (5, .int 0), (4, .ref od), (3, .ref ou), (2, .ref mo), (1, .ref xo), (0, .ref b)]) hx hb dL_law_1995 hl (by decide) rfl (fun ls hl => ?_)
    refine lv_aload_n hx hb dL_law_1997 rfl (lv_at hl 5 rfl) ?_
    refine vp_callSi (va_runV (As := []) (rest := []) ⟨hx, hb, hml, hown, hts⟩ (zc_X11_thrown l D G mo gl po pi bu pa 1 0 0 40) (cwV 0 hts gzL_law_X11_thrown_165 rfl rfl rfl (by decide +kernel) ⟨(Nat.le_of_ble_eq_true rfl), (Nat.le_of_ble_eq_true rfl)⟩) ⟨p_RO_blind, va_recv hK hP (ci := 16) (q0 := 0) rfl rfl, (p_RO_at (tc := []) (wc := [(mo, .inr (16, [.int 1, .ref gl, .ref po, .ref pi, .ref bu, .ref pa, .int 0, .int 0, .int 40, .int 0, .null, .int 0, .int 0]))]) hP hK hT [0] [] rfl rfl [.ref mo])⟩ rfl rfl hl.1 rfl (lv_room (Nat.le_of_ble_eq_true rfl)) dL_law_1998 ⟨(Nat.le_of_ble_eq_true rfl), (Nat.le_of_ble_eq_true rfl)⟩).run (fun r_1157 w_1158 => ?_)
    obtain rfl := w_1158
    refine lv_iload hx hb dL_law_2001 (lv_at hl 1 rfl) ?_
    refine lv_icmp_eq (tgt := 2008) hx hb dL_law_2003 (by decide) (fun _ => ?_) (fun cc => absurd (by decide) cc)
    refine lv_iload hx hb dL_law_2008 (lv_at hl 1 rfl) ?_
    refine lv_if_ne (tgt := 2025) hx hb dL_law_2010 (by decide) (fun _ => ?_) (fun cc => absurd cc (by decide))
    refine lv_goto (tgt := 2999) hx hb dL_law_2025 (by decide) ?_
    refine W.widen (k := 797152) (n := 6710780) (Nat.le_of_ble_eq_true rfl) (Nat.le_of_ble_eq_true rfl) ?_
    exact hE _ _ _ hS (lv_sub hl [7, 2] rfl)
theorem dL_law_2028 : decode cL_law 2028 = .ok (.aload_n 1, 1) := by decide +kernel
theorem dL_law_2029 : decode cL_law 2029 = .ok (.aload_n 0, 1) := by decide +kernel
theorem dL_law_2030 : decode cL_law 2030 = .ok (.iload 5, 2) := by decide +kernel
theorem dL_law_2032 : decode cL_law 2032 = .ok (.iconst 1, 1) := by decide +kernel
theorem dL_law_2033 : decode cL_law 2033 = .ok (.iadd, 1) := by decide +kernel
theorem dL_law_2034 : decode cL_law 2034 = .ok (.iaload, 1) := by decide +kernel
theorem dL_law_2035 : decode cL_law 2035 = .ok (.aload_n 3, 1) := by decide +kernel
theorem dL_law_2036 : decode cL_law 2036 = .ok (.invokestatic 257, 3) := by decide +kernel
theorem dL_law_2039 : decode cL_law 2039 = .ok (.istore 6, 2) := by decide +kernel
theorem dL_law_2041 : decode cL_law 2041 = .ok (.aload_n 2, 1) := by decide +kernel
theorem dL_law_2042 : decode cL_law 2042 = .ok (.aload_n 0, 1) := by decide +kernel
theorem dL_law_2043 : decode cL_law 2043 = .ok (.iload 5, 2) := by decide +kernel
theorem dL_law_2045 : decode cL_law 2045 = .ok (.iconst 1, 1) := by decide +kernel
theorem dL_law_2046 : decode cL_law 2046 = .ok (.iadd, 1) := by decide +kernel
theorem dL_law_2047 : decode cL_law 2047 = .ok (.iaload, 1) := by decide +kernel
theorem dL_law_2048 : decode cL_law 2048 = .ok (.invokevirtual 259, 3) := by decide +kernel
theorem dL_law_2051 : decode cL_law 2051 = .ok (.istore 7, 2) := by decide +kernel
theorem dL_law_2053 : decode cL_law 2053 = .ok (.aload_n 2, 1) := by decide +kernel
theorem dL_law_2054 : decode cL_law 2054 = .ok (.invokevirtual 165, 3) := by decide +kernel
theorem dL_law_2057 : decode cL_law 2057 = .ok (.iload 6, 2) := by decide +kernel
theorem dL_law_2059 : decode cL_law 2059 = .ok (.if_icmp .eq 5, 3) := by decide +kernel
theorem dL_law_2064 : decode cL_law 2064 = .ok (.iload 6, 2) := by decide +kernel
theorem dL_law_2066 : decode cL_law 2066 = .ok (.ifCond .ne 15, 3) := by decide +kernel
theorem dL_law_2081 : decode cL_law 2081 = .ok (.goto 918, 3) := by decide +kernel
set_option maxHeartbeats 4000000 in
set_option maxRecDepth 100000 in
theorem zl_28 {p : Program} {e : Env} {s : State} {m : MethodId} {below : List Frame} {meth : Method} {c : Code} {Q : State → Prop} {args : Array Value} (l : Launch) (hnt : l.stackTraces = false) (D : va_G) (G : Nat × Nat × Nat) (xo : Nat) (xg : Nat) (xp : Nat) (xq : Nat) (r1 : Nat) (r2 : Nat) (r3 : Nat) (r4 : Nat) (se : Nat) (n1 : Nat) (n2 : Nat) (n3 : Nat) (mo : Nat) (gl : Nat) (po : Nat) (pi : Nat) (bu : Nat) (pa : Nat) (ou : Nat) (od : Nat) (cg : ClassId) (cp : ClassId) (cq : ClassId) (ci : ClassId) (cj : ClassId) (cJ : ClassId) (cD : ClassId) {b L : Nat} {xs : Nat → Int32} {A : Nat → Prop} {H : Heap} {locs : List Loc} {ls : Array Slot} (hx : p.tables.exec = Jvm.exec) (hb : c.code = code) (hml : c.maxLocals = 9) (hown : s.vm.findClass RL = some m.cls) (hts : ∀ w ∈ wzL_law, w.before args s = true) (hT : FT G s) (hA : ∀ q : Nat, s.heap.size ≤ q → A q) (hZ : FZ G A s s.heap) (hX : va_X b L xs s s.heap) (hbl : b < s.heap.size) (hbA : ¬ A b) (hL : L = 5) (hK : va_K D vwCl [(cg, .object "Gatherhouse$Glass"), (cp, .object "Gatherhouse$Pot"), (cq, .object "Gatherhouse$Piece"), (ci, .int), (cj, .int), (cJ, .long), (cD, .double)] s) (hP : va_P D vwCl [(xo, .inr (11, [.ref xg, .int 0, .ref xp, .int 0, .ref xq, .int 0, .ref r1, .ref r2, .ref r3, .ref r4, .ref se, .int 0, .int 0, .int 40, .int 0, .int 0])), (xg, .inl (cg, 6, .inr (.inr (.inr (.inr (fun _ => none)))))), (xp, .inl (cp, 4, .inr (.inr (.inr (.inr (fun _ => none)))))), (xq, .inl (cq, 16, .inr (.inr (.inr (.inr (fun _ => none)))))), (r1, .inr (9, [.int 0, .int 0])), (r2, .inr (9, [.int 0, .int 0])), (r3, .inr (9, [.int 0, .int 0])), (r4, .inr (9, [.int 0, .int 0])), (se, .inr (10, [.ref n1, .ref n2, .ref n3, .int 0, .int 0, .int 0, .int 0])), (mo, .inr (16, [.int 0, .ref gl, .ref po, .ref pi, .ref bu, .ref pa, .int 0, .int 0, .int 40, .int 0, .null, .int 0, .int 0])), (gl, .inr (4, [.int 0, .ref G.1, .int 0])), (po, .inr (4, [.int 0, .ref G.1, .int 0])), (pi, .inr (4, [.int 0, .ref G.1, .int 0])), (bu, .inl (ci, 4, .inl (fun _ => 0))), (pa, .inl (cj, 4, .inl (fun _ => 0))), (ou, .inl (cJ, 1, .inr (.inl (fun _ => 0)))), (od, .inl (cD, 1, .inr (.inr (.inr (.inl (fun _ => 0))))))] H) (hD : va_D A [(xo, .inr (11, [.ref xg, .int 0, .ref xp, .int 0, .ref xq, .int 0, .ref r1, .ref r2, .ref r3, .ref r4, .ref se, .int 0, .int 0, .int 40, .int 0, .int 0])), (xg, .inl (cg, 6, .inr (.inr (.inr (.inr (fun _ => none)))))), (xp, .inl (cp, 4, .inr (.inr (.inr (.inr (fun _ => none)))))), (xq, .inl (cq, 16, .inr (.inr (.inr (.inr (fun _ => none)))))), (r1, .inr (9, [.int 0, .int 0])), (r2, .inr (9, [.int 0, .int 0])), (r3, .inr (9, [.int 0, .int 0])), (r4, .inr (9, [.int 0, .int 0])), (se, .inr (10, [.ref n1, .ref n2, .ref n3, .int 0, .int 0, .int 0, .int 0])), (mo, .inr (16, [.int 0, .ref gl, .ref po, .ref pi, .ref bu, .ref pa, .int 0, .int 0, .int 40, .int 0, .null, .int 0, .int 0])), (gl, .inr (4, [.int 0, .ref G.1, .int 0])), (po, .inr (4, [.int 0, .ref G.1, .int 0])), (pi, .inr (4, [.int 0, .ref G.1, .int 0])), (bu, .inl (ci, 4, .inl (fun _ => 0))), (pa, .inl (cj, 4, .inl (fun _ => 0))), (ou, .inl (cJ, 1, .inr (.inl (fun _ => 0)))), (od, .inl (cD, 1, .inr (.inr (.inr (.inl (fun _ => 0))))))]) (hS : va_S A s.heap H locs) (hl : lv_has ls 9 [(5, .int 0), (4, .ref od), (3, .ref ou), (2, .ref mo), (1, .ref xo), (0, .ref b)]) (hE : ∀ (H : Heap) (locs : List Loc) (ls : Array Slot), va_S A s.heap H locs → lv_has ls 9 [(0, .ref b), (5, .int 0)] → W p l e room_1 s m args below meth c H locs 797152 6710780 Q (F0 m 2999 ls [])) : W p l e room_1 s m args below meth c H locs 60 300 Q (F0 m 2028 ls []) := by
  have hP := hP.sub (ws' := [(xo, .inr (11, [.ref xg, .int 0, .ref xp, .int 0, .ref xq, .int 0, .ref r1, .ref r2, .ref r3, .ref r4, .ref se, .int 0, .int 0, .int 40, .int 0, .int 0])), (xq, .inl (cq, 16, .inr (.inr (.inr (.inr (fun _ => none)))))), (mo, .inr (16, [.int 0, .ref gl, .ref po, .ref pi, .ref bu, .ref pa, .int 0, .int 0, .int 40, .int 0, .null, .int 0, .int 0])), (pi, .inr (4, [.int 0, .ref G.1, .int 0])), (ou, .inl (cJ, 1, .inr (.inl (fun _ => 0))))]) [0, 3, 9, 12, 15] rfl
  have hD := hD.sub (ws' := [(xo, .inr (11, [.ref xg, .int 0, .ref xp, .int 0, .ref xq, .int 0, .ref r1, .ref r2, .ref r3, .ref r4, .ref se, .int 0, .int 0, .int 40, .int 0, .int 0])), (xq, .inl (cq, 16, .inr (.inr (.inr (.inr (fun _ => none)))))), (mo, .inr (16, [.int 0, .ref gl, .ref po, .ref pi, .ref bu, .ref pa, .int 0, .int 0, .int 40, .int 0, .null, .int 0, .int 0])), (pi, .inr (4, [.int 0, .ref G.1, .int 0])), (ou, .inl (cJ, 1, .inr (.inl (fun _ => 0))))]) [0, 3, 9, 12, 15] (by decide) rfl
  have hK := hK.sub (tys' := [(cq, .object "Gatherhouse$Piece"), (cJ, .long)]) [2, 5] rfl
  refine lv_aload_n hx hb dL_law_2028 rfl (lv_at hl 4 rfl) ?_
  refine lv_aload_n hx hb dL_law_2029 rfl (lv_at hl 5 rfl) ?_
  refine lv_iload hx hb dL_law_2030 (lv_at hl 0 rfl) ?_
  refine lv_iconst (v := 1) hx hb dL_law_2032 (by decide) ?_
  refine lv_iadd hx hb dL_law_2033 ?_
  refine lv_topi (fun y_1159 ey_1159 => ?_)
  have ey_1159 : y_1159 = 1 := ey_1159.trans (by decide +kernel)
  subst ey_1159
  refine va_sld hx hb hX hbl hbA hS (vp_in_iff.mpr (by rw [hL]; decide +kernel)) dL_law_2034 ?_
  refine lv_aload_n hx hb dL_law_2035 rfl (lv_at hl 2 rfl) ?_
  have hFc := va_free (wc := [(xo, .inr (11, [.ref xg, .int 0, .ref xp, .int 0, .ref xq, .int 0, .ref r1, .ref r2, .ref r3, .ref r4, .ref se, .int 0, .int 0, .int 40, .int 0, .int 0])), (xq, .inl (cq, 16, .inr (.inr (.inr (.inr (fun _ => none)))))), (ou, .inl (cJ, 1, .inr (.inl (fun _ => 0))))]) hD hS hA [0, 1, 4] rfl
  refine vx_calli (vx_runSX (As := [.ref xo, .int (xs (1 : Int32).toNatClampNeg), .ref ou]) (rest := []) ⟨hx, hb, hml, hown, hts⟩ (zc_L_flaws l hnt D G xo xg xp xq r1 r2 r3 r4 se 0 0 cq ou cJ (xs (1 : Int32).toNatClampNeg) H.size) (vx_cwSW 3 hts gzL_law_L_flaws_257 rfl rfl rfl (by decide +kernel) ⟨(Nat.le_of_ble_eq_true rfl), (Nat.le_of_ble_eq_true rfl)⟩) ⟨p_RW_blind, (p_RW_at (tc := [(cq, .object "Gatherhouse$Piece"), (cJ, .long)]) (wc := [(xo, .inr (11, [.ref xg, .int 0, .ref xp, .int 0, .ref xq, .int 0, .ref r1, .ref r2, .ref r3, .ref r4, .ref se, .int 0, .int 0, .int 40, .int 0, .int 0])), (xq, .inl (cq, 16, .inr (.inr (.inr (.inr (fun _ => none)))))), (ou, .inl (cJ, 1, .inr (.inl (fun _ => 0))))]) hP hK hD hS hA hT hZ [0, 1, 4] [0, 1] rfl rfl (by decide) rfl [.ref xo, .int (xs (1 : Int32).toNatClampNeg), .ref ou])⟩ rfl rfl hl.1 rfl (lv_room (Nat.le_of_ble_eq_true rfl)) dL_law_2036 ⟨(Nat.le_of_ble_eq_true rfl), (Nat.le_of_ble_eq_true rfl)⟩) hS (fun q _ h => hFc q h) hFc (fun q _ h => hFc q h) (fun E ce q9 u t H locs ht hvm hpx hBX hz1 hk1 hS hce hcv hcl => ?_) (fun r_1160 u t H locs ht hvm w_1161 hB hz1 hk1 hS => ?_)
  · exact (show False from hBX).elim
  · obtain ⟨hP, hD, hK⟩ := q_join (D := D) (wc := [(xo, .inr (11, [.ref xg, .int 0, .ref xp, .int 0, .ref xq, .int 0, .ref r1, .ref r2, .ref r3, .ref r4, .ref se, .int 0, .int 0, .int 40, .int 0, .int 0])), (xq, .inl (cq, 16, .inr (.inr (.inr (.inr (fun _ => none)))))), (ou, .inl (cJ, 1, .inr (.inl (fun _ => 0))))]) (wr := [(mo, .inr (16, [.int 0, .ref gl, .ref po, .ref pi, .ref bu, .ref pa, .int 0, .int 0, .int 40, .int 0, .null, .int 0, .int 0])), (pi, .inr (4, [.int 0, .ref G.1, .int 0]))]) (w1 := []) (tyr := [(cq, .object "Gatherhouse$Piece"), (cJ, .long)]) (ty1 := []) hP hD hK [0, 1, 4] [2, 3] [0, 1] rfl rfl (by decide) (by decide) rfl hFc hk1 ht hvm (q_none hK hvm)
    have hP : va_P D vwCl [(mo, .inr (16, [.int 0, .ref gl, .ref po, .ref pi, .ref bu, .ref pa, .int 0, .int 0, .int 40, .int 0, .null, .int 0, .int 0])), (pi, .inr (4, [.int 0, .ref G.1, .int 0]))] H := hP
    have hD : va_D A [(mo, .inr (16, [.int 0, .ref gl, .ref po, .ref pi, .ref bu, .ref pa, .int 0, .int 0, .int 40, .int 0, .null, .int 0, .int 0])), (pi, .inr (4, [.int 0, .ref G.1, .int 0]))] := hD
    have hK : va_K D vwCl [(cq, .object "Gatherhouse$Piece"), (cJ, .long)] s := hK
    refine W.widen (k := 61) (n := 306) (Nat.le_of_ble_eq_true rfl) (Nat.le_of_ble_eq_true rfl) ?_
    obtain rfl := w_1161
    refine lv_istore (lv' := [(6, .int 1), (5, .int 0), (4, .ref od), (3, .ref ou), (2, .ref mo), (1, .ref xo), (0, .ref b)]) hx hb dL_law_2039 hl (by decide) rfl (fun ls hl => ?_)
    refine lv_aload_n hx hb dL_law_2041 rfl (lv_at hl 4 rfl) ?_
    refine lv_aload_n hx hb dL_law_2042 rfl (lv_at hl 6 rfl) ?_
    refine lv_iload hx hb dL_law_2043 (lv_at hl 1 rfl) ?_
    refine lv_iconst (v := 1) hx hb dL_law_2045 (by decide) ?_
    refine lv_iadd hx hb dL_law_2046 ?_
    refine lv_topi (fun y_1162 ey_1162 => ?_)
    have ey_1162 : y_1162 = 1 := ey_1162.trans (by decide +kernel)
    subst ey_1162
    refine va_sld hx hb hX hbl hbA hS (vp_in_iff.mpr (by rw [hL]; decide +kernel)) dL_law_2047 ?_
    have hFc := va_free (wc := [(mo, .inr (16, [.int 0, .ref gl, .ref po, .ref pi, .ref bu, .ref pa, .int 0, .int 0, .int 40, .int 0, .null, .int 0, .int 0])), (pi, .inr (4, [.int 0, .ref G.1, .int 0]))]) hD hS hA [0, 1] rfl
    refine va_calli (va_runV (As := [.int (xs (1 : Int32).toNatClampNeg)]) (rest := []) ⟨hx, hb, hml, hown, hts⟩ (zc_X11_flaws l D G mo gl po pi bu pa 0 0 0 (xs (1 : Int32).toNatClampNeg) H.size) (cwV 1 hts gzL_law_X11_flaws_259 rfl rfl rfl (by decide +kernel) ⟨(Nat.le_of_ble_eq_true rfl), (Nat.le_of_ble_eq_true rfl)⟩) ⟨p_RW_blind, va_recv hK hP (ci := 16) (q0 := 0) rfl rfl, (p_RW_at (tc := []) (wc := [(mo, .inr (16, [.int 0, .ref gl, .ref po, .ref pi, .ref bu, .ref pa, .int 0, .int 0, .int 40, .int 0, .null, .int 0, .int 0])), (pi, .inr (4, [.int 0, .ref G.1, .int 0]))]) hP hK hD hS hA hT hZ [0, 1] [] rfl rfl (by decide) rfl [.ref mo, .int (xs (1 : Int32).toNatClampNeg)])⟩ rfl rfl hl.1 rfl (lv_room (Nat.le_of_ble_eq_true rfl)) dL_law_2048 ⟨(Nat.le_of_ble_eq_true rfl), (Nat.le_of_ble_eq_true rfl)⟩) hS (fun q _ h => hFc q h) hFc (fun r_1163 u t H locs ht hvm w_1164 hB hz1 hk1 hS => ?_)
    obtain ⟨hP, hD, hK⟩ := q_join (D := D) (wc := [(mo, .inr (16, [.int 0, .ref gl, .ref po, .ref pi, .ref bu, .ref pa, .int 0, .int 0, .int 40, .int 0, .null, .int 0, .int 0])), (pi, .inr (4, [.int 0, .ref G.1, .int 0]))]) (wr := []) (w1 := [(mo, .inr (16, [.int 1, .ref gl, .ref po, .ref pi, .ref bu, .ref pa, .int 0, .int 0, .int 40, .int 0, .null, .int 0, .int 0])), (pi, .inr (4, [.int 0, .ref G.1, .int 0]))]) (tyr := [(cq, .object "Gatherhouse$Piece"), (cJ, .long)]) (ty1 := []) hP hD hK [0, 1] [] [0, 1] rfl rfl (by decide) (by decide) rfl hFc hk1 ht hvm hB
    have hP : va_P D vwCl [(mo, .inr (16, [.int 1, .ref gl, .ref po, .ref pi, .ref bu, .ref pa, .int 0, .int 0, .int 40, .int 0, .null, .int 0, .int 0])), (pi, .inr (4, [.int 0, .ref G.1, .int 0]))] H := hP
    have hD : va_D A [(mo, .inr (16, [.int 1, .ref gl, .ref po, .ref pi, .ref bu, .ref pa, .int 0, .int 0, .int 40, .int 0, .null, .int 0, .int 0])), (pi, .inr (4, [.int 0, .ref G.1, .int 0]))] := hD
    have hK : va_K D vwCl [(cq, .object "Gatherhouse$Piece"), (cJ, .long)] s := hK
    obtain rfl := w_1164
    refine lv_istore (lv' := [(7, .int 0), (6, .int 1), (5, .int 0), (4, .ref od), (3, .ref ou), (2, .ref mo), (1, .ref xo), (0, .ref b)]) hx hb dL_law_2051 hl (by decide) rfl (fun ls hl => ?_)
    refine lv_aload_n hx hb dL_law_2053 rfl (lv_at hl 5 rfl) ?_
    refine vp_callSi (va_runV (As := []) (rest := []) ⟨hx, hb, hml, hown, hts⟩ (zc_X11_thrown l D G mo gl po pi bu pa 1 0 0 40) (cwV 0 hts gzL_law_X11_thrown_165 rfl rfl rfl (by decide +kernel) ⟨(Nat.le_of_ble_eq_true rfl), (Nat.le_of_ble_eq_true rfl)⟩) ⟨p_RO_blind, va_recv hK hP (ci := 16) (q0 := 0) rfl rfl, (p_RO_at (tc := []) (wc := [(mo, .inr (16, [.int 1, .ref gl, .ref po, .ref pi, .ref bu, .ref pa, .int 0, .int 0, .int 40, .int 0, .null, .int 0, .int 0]))]) hP hK hT [0] [] rfl rfl [.ref mo])⟩ rfl rfl hl.1 rfl (lv_room (Nat.le_of_ble_eq_true rfl)) dL_law_2054 ⟨(Nat.le_of_ble_eq_true rfl), (Nat.le_of_ble_eq_true rfl)⟩).run (fun r_1165 w_1166 => ?_)
    obtain rfl := w_1166
    refine lv_iload hx hb dL_law_2057 (lv_at hl 1 rfl) ?_
    refine lv_icmp_eq (tgt := 2064) hx hb dL_law_2059 (by decide) (fun _ => ?_) (fun cc => absurd (by decide) cc)
    refine lv_iload hx hb dL_law_2064 (lv_at hl 1 rfl) ?_
    refine lv_if_ne (tgt := 2081) hx hb dL_law_2066 (by decide) (fun _ => ?_) (fun cc => absurd cc (by decide))
    refine lv_goto (tgt := 2999) hx hb dL_law_2081 (by decide) ?_
    refine W.widen (k := 797152) (n := 6710780) (Nat.le_of_ble_eq_true rfl) (Nat.le_of_ble_eq_true rfl) ?_
    exact hE _ _ _ hS (lv_sub hl [7, 2] rfl)
theorem dL_law_2084 : decode cL_law 2084 = .ok (.aload_n 1, 1) := by decide +kernel
theorem dL_law_2085 : decode cL_law 2085 = .ok (.aload_n 0, 1) := by decide +kernel
theorem dL_law_2086 : decode cL_law 2086 = .ok (.iload 5, 2) := by decide +kernel
theorem dL_law_2088 : decode cL_law 2088 = .ok (.iconst 1, 1) := by decide +kernel
theorem dL_law_2089 : decode cL_law 2089 = .ok (.iadd, 1) := by decide +kernel
theorem dL_law_2090 : decode cL_law 2090 = .ok (.iaload, 1) := by decide +kernel
theorem dL_law_2091 : decode cL_law 2091 = .ok (.aload_n 0, 1) := by decide +kernel
theorem dL_law_2092 : decode cL_law 2092 = .ok (.iload 5, 2) := by decide +kernel
theorem dL_law_2094 : decode cL_law 2094 = .ok (.iconst 2, 1) := by decide +kernel
theorem dL_law_2095 : decode cL_law 2095 = .ok (.iadd, 1) := by decide +kernel
theorem dL_law_2096 : decode cL_law 2096 = .ok (.iaload, 1) := by decide +kernel
theorem dL_law_2097 : decode cL_law 2097 = .ok (.ifCond .eq 7, 3) := by decide +kernel
theorem dL_law_2104 : decode cL_law 2104 = .ok (.iconst 0, 1) := by decide +kernel
theorem dL_law_2105 : decode cL_law 2105 = .ok (.aload_n 3, 1) := by decide +kernel
theorem dL_law_2106 : decode cL_law 2106 = .ok (.invokestatic 260, 3) := by decide +kernel
theorem dL_law_2109 : decode cL_law 2109 = .ok (.istore 6, 2) := by decide +kernel
theorem dL_law_2111 : decode cL_law 2111 = .ok (.aload_n 2, 1) := by decide +kernel
theorem dL_law_2112 : decode cL_law 2112 = .ok (.aload_n 0, 1) := by decide +kernel
theorem dL_law_2113 : decode cL_law 2113 = .ok (.iload 5, 2) := by decide +kernel
theorem dL_law_2115 : decode cL_law 2115 = .ok (.iconst 1, 1) := by decide +kernel
theorem dL_law_2116 : decode cL_law 2116 = .ok (.iadd, 1) := by decide +kernel
theorem dL_law_2117 : decode cL_law 2117 = .ok (.iaload, 1) := by decide +kernel
theorem dL_law_2118 : decode cL_law 2118 = .ok (.aload_n 0, 1) := by decide +kernel
theorem dL_law_2119 : decode cL_law 2119 = .ok (.iload 5, 2) := by decide +kernel
theorem dL_law_2121 : decode cL_law 2121 = .ok (.iconst 2, 1) := by decide +kernel
theorem dL_law_2122 : decode cL_law 2122 = .ok (.iadd, 1) := by decide +kernel
theorem dL_law_2123 : decode cL_law 2123 = .ok (.iaload, 1) := by decide +kernel
theorem dL_law_2124 : decode cL_law 2124 = .ok (.ifCond .eq 7, 3) := by decide +kernel
theorem dL_law_2131 : decode cL_law 2131 = .ok (.iconst 0, 1) := by decide +kernel
theorem dL_law_2132 : decode cL_law 2132 = .ok (.invokevirtual 263, 3) := by decide +kernel
theorem dL_law_2135 : decode cL_law 2135 = .ok (.istore 7, 2) := by decide +kernel
theorem dL_law_2137 : decode cL_law 2137 = .ok (.aload_n 2, 1) := by decide +kernel
theorem dL_law_2138 : decode cL_law 2138 = .ok (.invokevirtual 165, 3) := by decide +kernel
theorem dL_law_2141 : decode cL_law 2141 = .ok (.iload 6, 2) := by decide +kernel
theorem dL_law_2143 : decode cL_law 2143 = .ok (.if_icmp .eq 5, 3) := by decide +kernel
theorem dL_law_2148 : decode cL_law 2148 = .ok (.iload 6, 2) := by decide +kernel
theorem dL_law_2150 : decode cL_law 2150 = .ok (.ifCond .ne 15, 3) := by decide +kernel
theorem dL_law_2165 : decode cL_law 2165 = .ok (.goto 834, 3) := by decide +kernel
theorem dL_law_2100 : decode cL_law 2100 = .ok (.iconst 1, 1) := by decide +kernel
theorem dL_law_2101 : decode cL_law 2101 = .ok (.goto 4, 3) := by decide +kernel
theorem dL_law_2127 : decode cL_law 2127 = .ok (.iconst 1, 1) := by decide +kernel
theorem dL_law_2128 : decode cL_law 2128 = .ok (.goto 4, 3) := by decide +kernel
set_option maxHeartbeats 4000000 in
set_option maxRecDepth 100000 in
theorem zl_29 {p : Program} {e : Env} {s : State} {m : MethodId} {below : List Frame} {meth : Method} {c : Code} {Q : State → Prop} {args : Array Value} (l : Launch) (hnt : l.stackTraces = false) (D : va_G) (G : Nat × Nat × Nat) (xo : Nat) (xg : Nat) (xp : Nat) (xq : Nat) (r1 : Nat) (r2 : Nat) (r3 : Nat) (r4 : Nat) (se : Nat) (n1 : Nat) (n2 : Nat) (n3 : Nat) (mo : Nat) (gl : Nat) (po : Nat) (pi : Nat) (bu : Nat) (pa : Nat) (ou : Nat) (od : Nat) (cg : ClassId) (cp : ClassId) (cq : ClassId) (ci : ClassId) (cj : ClassId) (cJ : ClassId) (cD : ClassId) {b L : Nat} {xs : Nat → Int32} {A : Nat → Prop} {H : Heap} {locs : List Loc} {ls : Array Slot} (hx : p.tables.exec = Jvm.exec) (hb : c.code = code) (hml : c.maxLocals = 9) (hown : s.vm.findClass RL = some m.cls) (hts : ∀ w ∈ wzL_law, w.before args s = true) (hT : FT G s) (hA : ∀ q : Nat, s.heap.size ≤ q → A q) (hZ : FZ G A s s.heap) (hX : va_X b L xs s s.heap) (hbl : b < s.heap.size) (hbA : ¬ A b) (hL : L = 5) (hK : va_K D vwCl [(cg, .object "Gatherhouse$Glass"), (cp, .object "Gatherhouse$Pot"), (cq, .object "Gatherhouse$Piece"), (ci, .int), (cj, .int), (cJ, .long), (cD, .double)] s) (hP : va_P D vwCl [(xo, .inr (11, [.ref xg, .int 0, .ref xp, .int 0, .ref xq, .int 0, .ref r1, .ref r2, .ref r3, .ref r4, .ref se, .int 0, .int 0, .int 40, .int 0, .int 0])), (xg, .inl (cg, 6, .inr (.inr (.inr (.inr (fun _ => none)))))), (xp, .inl (cp, 4, .inr (.inr (.inr (.inr (fun _ => none)))))), (xq, .inl (cq, 16, .inr (.inr (.inr (.inr (fun _ => none)))))), (r1, .inr (9, [.int 0, .int 0])), (r2, .inr (9, [.int 0, .int 0])), (r3, .inr (9, [.int 0, .int 0])), (r4, .inr (9, [.int 0, .int 0])), (se, .inr (10, [.ref n1, .ref n2, .ref n3, .int 0, .int 0, .int 0, .int 0])), (mo, .inr (16, [.int 0, .ref gl, .ref po, .ref pi, .ref bu, .ref pa, .int 0, .int 0, .int 40, .int 0, .null, .int 0, .int 0])), (gl, .inr (4, [.int 0, .ref G.1, .int 0])), (po, .inr (4, [.int 0, .ref G.1, .int 0])), (pi, .inr (4, [.int 0, .ref G.1, .int 0])), (bu, .inl (ci, 4, .inl (fun _ => 0))), (pa, .inl (cj, 4, .inl (fun _ => 0))), (ou, .inl (cJ, 1, .inr (.inl (fun _ => 0)))), (od, .inl (cD, 1, .inr (.inr (.inr (.inl (fun _ => 0))))))] H) (hD : va_D A [(xo, .inr (11, [.ref xg, .int 0, .ref xp, .int 0, .ref xq, .int 0, .ref r1, .ref r2, .ref r3, .ref r4, .ref se, .int 0, .int 0, .int 40, .int 0, .int 0])), (xg, .inl (cg, 6, .inr (.inr (.inr (.inr (fun _ => none)))))), (xp, .inl (cp, 4, .inr (.inr (.inr (.inr (fun _ => none)))))), (xq, .inl (cq, 16, .inr (.inr (.inr (.inr (fun _ => none)))))), (r1, .inr (9, [.int 0, .int 0])), (r2, .inr (9, [.int 0, .int 0])), (r3, .inr (9, [.int 0, .int 0])), (r4, .inr (9, [.int 0, .int 0])), (se, .inr (10, [.ref n1, .ref n2, .ref n3, .int 0, .int 0, .int 0, .int 0])), (mo, .inr (16, [.int 0, .ref gl, .ref po, .ref pi, .ref bu, .ref pa, .int 0, .int 0, .int 40, .int 0, .null, .int 0, .int 0])), (gl, .inr (4, [.int 0, .ref G.1, .int 0])), (po, .inr (4, [.int 0, .ref G.1, .int 0])), (pi, .inr (4, [.int 0, .ref G.1, .int 0])), (bu, .inl (ci, 4, .inl (fun _ => 0))), (pa, .inl (cj, 4, .inl (fun _ => 0))), (ou, .inl (cJ, 1, .inr (.inl (fun _ => 0)))), (od, .inl (cD, 1, .inr (.inr (.inr (.inl (fun _ => 0))))))]) (hS : va_S A s.heap H locs) (hl : lv_has ls 9 [(5, .int 0), (4, .ref od), (3, .ref ou), (2, .ref mo), (1, .ref xo), (0, .ref b)]) (hE : ∀ (H : Heap) (locs : List Loc) (ls : Array Slot), va_S A s.heap H locs → lv_has ls 9 [(0, .ref b), (5, .int 0)] → W p l e room_1 s m args below meth c H locs 797152 6710780 Q (F0 m 2999 ls [])) : W p l e room_1 s m args below meth c H locs 60 300 Q (F0 m 2084 ls []) := by
  have hP := hP.sub (ws' := [(xo, .inr (11, [.ref xg, .int 0, .ref xp, .int 0, .ref xq, .int 0, .ref r1, .ref r2, .ref r3, .ref r4, .ref se, .int 0, .int 0, .int 40, .int 0, .int 0])), (xq, .inl (cq, 16, .inr (.inr (.inr (.inr (fun _ => none)))))), (mo, .inr (16, [.int 0, .ref gl, .ref po, .ref pi, .ref bu, .ref pa, .int 0, .int 0, .int 40, .int 0, .null, .int 0, .int 0])), (pi, .inr (4, [.int 0, .ref G.1, .int 0])), (ou, .inl (cJ, 1, .inr (.inl (fun _ => 0))))]) [0, 3, 9, 12, 15] rfl
  have hD := hD.sub (ws' := [(xo, .inr (11, [.ref xg, .int 0, .ref xp, .int 0, .ref xq, .int 0, .ref r1, .ref r2, .ref r3, .ref r4, .ref se, .int 0, .int 0, .int 40, .int 0, .int 0])), (xq, .inl (cq, 16, .inr (.inr (.inr (.inr (fun _ => none)))))), (mo, .inr (16, [.int 0, .ref gl, .ref po, .ref pi, .ref bu, .ref pa, .int 0, .int 0, .int 40, .int 0, .null, .int 0, .int 0])), (pi, .inr (4, [.int 0, .ref G.1, .int 0])), (ou, .inl (cJ, 1, .inr (.inl (fun _ => 0))))]) [0, 3, 9, 12, 15] (by decide) rfl
  have hK := hK.sub (tys' := [(cq, .object "Gatherhouse$Piece"), (cJ, .long)]) [2, 5] rfl
  refine lv_aload_n hx hb dL_law_2084 rfl (lv_at hl 4 rfl) ?_
  refine lv_aload_n hx hb dL_law_2085 rfl (lv_at hl 5 rfl) ?_
  refine lv_iload hx hb dL_law_2086 (lv_at hl 0 rfl) ?_
  refine lv_iconst (v := 1) hx hb dL_law_2088 (by decide) ?_
  refine lv_iadd hx hb dL_law_2089 ?_
  refine lv_topi (fun y_1167 ey_1167 => ?_)
  have ey_1167 : y_1167 = 1 := ey_1167.trans (by decide +kernel)
  subst ey_1167
  refine va_sld hx hb hX hbl hbA hS (vp_in_iff.mpr (by rw [hL]; decide +kernel)) dL_law_2090 ?_
  refine lv_aload_n hx hb dL_law_2091 rfl (lv_at hl 5 rfl) ?_
  refine lv_iload hx hb dL_law_2092 (lv_at hl 0 rfl) ?_
  refine lv_iconst (v := 2) hx hb dL_law_2094 (by decide) ?_
  refine lv_iadd hx hb dL_law_2095 ?_
  refine lv_topi (fun y_1168 ey_1168 => ?_)
  have ey_1168 : y_1168 = 2 := ey_1168.trans (by decide +kernel)
  subst ey_1168
  refine va_sld hx hb hX hbl hbA hS (vp_in_iff.mpr (by rw [hL]; decide +kernel)) dL_law_2096 ?_
  refine lv_if_eq (tgt := 2104) hx hb dL_law_2097 (by decide) (fun c_1169 => ?_) (fun c_1169 => ?_)
  · refine lv_iconst (v := 0) hx hb dL_law_2104 (by decide) ?_
    refine lv_aload_n hx hb dL_law_2105 rfl (lv_at hl 2 rfl) ?_
    have hFc := va_free (wc := [(xo, .inr (11, [.ref xg, .int 0, .ref xp, .int 0, .ref xq, .int 0, .ref r1, .ref r2, .ref r3, .ref r4, .ref se, .int 0, .int 0, .int 40, .int 0, .int 0])), (xq, .inl (cq, 16, .inr (.inr (.inr (.inr (fun _ => none)))))), (ou, .inl (cJ, 1, .inr (.inl (fun _ => 0))))]) hD hS hA [0, 1, 4] rfl
    refine vx_calli (vx_runSX (As := [.ref xo, .int (xs (1 : Int32).toNatClampNeg), .int 0, .ref ou]) (rest := []) ⟨hx, hb, hml, hown, hts⟩ (zc_L_low l hnt D G xo xg xp xq r1 r2 r3 r4 se 0 0 cq ou cJ (xs (1 : Int32).toNatClampNeg) 0 H.size) (vx_cwSW 4 hts gzL_law_L_low_260 rfl rfl rfl (by decide +kernel) ⟨(Nat.le_of_ble_eq_true rfl), (Nat.le_of_ble_eq_true rfl)⟩) ⟨p_RW_blind, (p_RW_at (tc := [(cq, .object "Gatherhouse$Piece"), (cJ, .long)]) (wc := [(xo, .inr (11, [.ref xg, .int 0, .ref xp, .int 0, .ref xq, .int 0, .ref r1, .ref r2, .ref r3, .ref r4, .ref se, .int 0, .int 0, .int 40, .int 0, .int 0])), (xq, .inl (cq, 16, .inr (.inr (.inr (.inr (fun _ => none)))))), (ou, .inl (cJ, 1, .inr (.inl (fun _ => 0))))]) hP hK hD hS hA hT hZ [0, 1, 4] [0, 1] rfl rfl (by decide) rfl [.ref xo, .int (xs (1 : Int32).toNatClampNeg), .int 0, .ref ou])⟩ rfl rfl hl.1 rfl (lv_room (Nat.le_of_ble_eq_true rfl)) dL_law_2106 ⟨(Nat.le_of_ble_eq_true rfl), (Nat.le_of_ble_eq_true rfl)⟩) hS (fun q _ h => hFc q h) hFc (fun q _ h => hFc q h) (fun E ce q9 u t H locs ht hvm hpx hBX hz1 hk1 hS hce hcv hcl => ?_) (fun r_1170 u t H locs ht hvm w_1171 hB hz1 hk1 hS => ?_)
    · exact (show False from hBX).elim
    · obtain ⟨hP, hD, hK⟩ := q_join (D := D) (wc := [(xo, .inr (11, [.ref xg, .int 0, .ref xp, .int 0, .ref xq, .int 0, .ref r1, .ref r2, .ref r3, .ref r4, .ref se, .int 0, .int 0, .int 40, .int 0, .int 0])), (xq, .inl (cq, 16, .inr (.inr (.inr (.inr (fun _ => none)))))), (ou, .inl (cJ, 1, .inr (.inl (fun _ => 0))))]) (wr := [(mo, .inr (16, [.int 0, .ref gl, .ref po, .ref pi, .ref bu, .ref pa, .int 0, .int 0, .int 40, .int 0, .null, .int 0, .int 0])), (pi, .inr (4, [.int 0, .ref G.1, .int 0]))]) (w1 := []) (tyr := [(cq, .object "Gatherhouse$Piece"), (cJ, .long)]) (ty1 := []) hP hD hK [0, 1, 4] [2, 3] [0, 1] rfl rfl (by decide) (by decide) rfl hFc hk1 ht hvm (q_none hK hvm)
      have hP : va_P D vwCl [(mo, .inr (16, [.int 0, .ref gl, .ref po, .ref pi, .ref bu, .ref pa, .int 0, .int 0, .int 40, .int 0, .null, .int 0, .int 0])), (pi, .inr (4, [.int 0, .ref G.1, .int 0]))] H := hP
      have hD : va_D A [(mo, .inr (16, [.int 0, .ref gl, .ref po, .ref pi, .ref bu, .ref pa, .int 0, .int 0, .int 40, .int 0, .null, .int 0, .int 0])), (pi, .inr (4, [.int 0, .ref G.1, .int 0]))] := hD
      have hK : va_K D vwCl [(cq, .object "Gatherhouse$Piece"), (cJ, .long)] s := hK
      refine W.widen (k := 61) (n := 306) (Nat.le_of_ble_eq_true rfl) (Nat.le_of_ble_eq_true rfl) ?_
      obtain rfl := w_1171
      refine lv_istore (lv' := [(6, .int 1), (5, .int 0), (4, .ref od), (3, .ref ou), (2, .ref mo), (1, .ref xo), (0, .ref b)]) hx hb dL_law_2109 hl (by decide) rfl (fun ls hl => ?_)
      refine lv_aload_n hx hb dL_law_2111 rfl (lv_at hl 4 rfl) ?_
      refine lv_aload_n hx hb dL_law_2112 rfl (lv_at hl 6 rfl) ?_
      refine lv_iload hx hb dL_law_2113 (lv_at hl 1 rfl) ?_
      refine lv_iconst (v := 1) hx hb dL_law_2115 (by decide) ?_
      refine lv_iadd hx hb dL_law_2116 ?_
      refine lv_topi (fun y_1172 ey_1172 => ?_)
      have ey_1172 : y_1172 = 1 := ey_1172.trans (by decide +kernel)
      subst ey_1172
      refine va_sld hx hb hX hbl hbA hS (vp_in_iff.mpr (by rw [hL]; decide +kernel)) dL_law_2117 ?_
      refine lv_aload_n hx hb dL_law_2118 rfl (lv_at hl 6 rfl) ?_
      refine lv_iload hx hb dL_law_2119 (lv_at hl 1 rfl) ?_
      refine lv_iconst (v := 2) hx hb dL_law_2121 (by decide) ?_
      refine lv_iadd hx hb dL_law_2122 ?_
      refine lv_topi (fun y_1173 ey_1173 => ?_)
      have ey_1173 : y_1173 = 2 := ey_1173.trans (by decide +kernel)
      subst ey_1173
      refine va_sld hx hb hX hbl hbA hS (vp_in_iff.mpr (by rw [hL]; decide +kernel)) dL_law_2123 ?_
      refine lv_if_eq (tgt := 2131) hx hb dL_law_2124 (by decide) (fun _ => ?_) (fun cc => absurd c_1169 cc)
      refine lv_iconst (v := 0) hx hb dL_law_2131 (by decide) ?_
      have hFc := va_free (wc := [(mo, .inr (16, [.int 0, .ref gl, .ref po, .ref pi, .ref bu, .ref pa, .int 0, .int 0, .int 40, .int 0, .null, .int 0, .int 0])), (pi, .inr (4, [.int 0, .ref G.1, .int 0]))]) hD hS hA [0, 1] rfl
      refine va_calli (va_runV (As := [.int (xs (1 : Int32).toNatClampNeg), .int 0]) (rest := []) ⟨hx, hb, hml, hown, hts⟩ (zc_X11_low l D G mo gl po pi bu pa 0 0 0 (xs (1 : Int32).toNatClampNeg) 0 H.size) (cwV 2 hts gzL_law_X11_low_263 rfl rfl rfl (by decide +kernel) ⟨(Nat.le_of_ble_eq_true rfl), (Nat.le_of_ble_eq_true rfl)⟩) ⟨p_RW_blind, va_recv hK hP (ci := 16) (q0 := 0) rfl rfl, (p_RW_at (tc := []) (wc := [(mo, .inr (16, [.int 0, .ref gl, .ref po, .ref pi, .ref bu, .ref pa, .int 0, .int 0, .int 40, .int 0, .null, .int 0, .int 0])), (pi, .inr (4, [.int 0, .ref G.1, .int 0]))]) hP hK hD hS hA hT hZ [0, 1] [] rfl rfl (by decide) rfl [.ref mo, .int (xs (1 : Int32).toNatClampNeg), .int 0])⟩ rfl rfl hl.1 rfl (lv_room (Nat.le_of_ble_eq_true rfl)) dL_law_2132 ⟨(Nat.le_of_ble_eq_true rfl), (Nat.le_of_ble_eq_true rfl)⟩) hS (fun q _ h => hFc q h) hFc (fun r_1174 u t H locs ht hvm w_1175 hB hz1 hk1 hS => ?_)
      obtain ⟨hP, hD, hK⟩ := q_join (D := D) (wc := [(mo, .inr (16, [.int 0, .ref gl, .ref po, .ref pi, .ref bu, .ref pa, .int 0, .int 0, .int 40, .int 0, .null, .int 0, .int 0])), (pi, .inr (4, [.int 0, .ref G.1, .int 0]))]) (wr := []) (w1 := [(mo, .inr (16, [.int 1, .ref gl, .ref po, .ref pi, .ref bu, .ref pa, .int 0, .int 0, .int 40, .int 0, .null, .int 0, .int 0])), (pi, .inr (4, [.int 0, .ref G.1, .int 0]))]) (tyr := [(cq, .object "Gatherhouse$Piece"), (cJ, .long)]) (ty1 := []) hP hD hK [0, 1] [] [0, 1] rfl rfl (by decide) (by decide) rfl hFc hk1 ht hvm hB
      have hP : va_P D vwCl [(mo, .inr (16, [.int 1, .ref gl, .ref po, .ref pi, .ref bu, .ref pa, .int 0, .int 0, .int 40, .int 0, .null, .int 0, .int 0])), (pi, .inr (4, [.int 0, .ref G.1, .int 0]))] H := hP
      have hD : va_D A [(mo, .inr (16, [.int 1, .ref gl, .ref po, .ref pi, .ref bu, .ref pa, .int 0, .int 0, .int 40, .int 0, .null, .int 0, .int 0])), (pi, .inr (4, [.int 0, .ref G.1, .int 0]))] := hD
      have hK : va_K D vwCl [(cq, .object "Gatherhouse$Piece"), (cJ, .long)] s := hK
      obtain rfl := w_1175
      refine lv_istore (lv' := [(7, .int 0), (6, .int 1), (5, .int 0), (4, .ref od), (3, .ref ou), (2, .ref mo), (1, .ref xo), (0, .ref b)]) hx hb dL_law_2135 hl (by decide) rfl (fun ls hl => ?_)
      refine lv_aload_n hx hb dL_law_2137 rfl (lv_at hl 5 rfl) ?_
      refine vp_callSi (va_runV (As := []) (rest := []) ⟨hx, hb, hml, hown, hts⟩ (zc_X11_thrown l D G mo gl po pi bu pa 1 0 0 40) (cwV 0 hts gzL_law_X11_thrown_165 rfl rfl rfl (by decide +kernel) ⟨(Nat.le_of_ble_eq_true rfl), (Nat.le_of_ble_eq_true rfl)⟩) ⟨p_RO_blind, va_recv hK hP (ci := 16) (q0 := 0) rfl rfl, (p_RO_at (tc := []) (wc := [(mo, .inr (16, [.int 1, .ref gl, .ref po, .ref pi, .ref bu, .ref pa, .int 0, .int 0, .int 40, .int 0, .null, .int 0, .int 0]))]) hP hK hT [0] [] rfl rfl [.ref mo])⟩ rfl rfl hl.1 rfl (lv_room (Nat.le_of_ble_eq_true rfl)) dL_law_2138 ⟨(Nat.le_of_ble_eq_true rfl), (Nat.le_of_ble_eq_true rfl)⟩).run (fun r_1176 w_1177 => ?_)
      obtain rfl := w_1177
      refine lv_iload hx hb dL_law_2141 (lv_at hl 1 rfl) ?_
      refine lv_icmp_eq (tgt := 2148) hx hb dL_law_2143 (by decide) (fun _ => ?_) (fun cc => absurd (by decide) cc)
      refine lv_iload hx hb dL_law_2148 (lv_at hl 1 rfl) ?_
      refine lv_if_ne (tgt := 2165) hx hb dL_law_2150 (by decide) (fun _ => ?_) (fun cc => absurd cc (by decide))
      refine lv_goto (tgt := 2999) hx hb dL_law_2165 (by decide) ?_
      refine W.widen (k := 797152) (n := 6710780) (Nat.le_of_ble_eq_true rfl) (Nat.le_of_ble_eq_true rfl) ?_
      exact hE _ _ _ hS (lv_sub hl [7, 2] rfl)
  · refine lv_iconst (v := 1) hx hb dL_law_2100 (by decide) ?_
    refine lv_goto (tgt := 2105) hx hb dL_law_2101 (by decide) ?_
    refine lv_aload_n hx hb dL_law_2105 rfl (lv_at hl 2 rfl) ?_
    have hFc := va_free (wc := [(xo, .inr (11, [.ref xg, .int 0, .ref xp, .int 0, .ref xq, .int 0, .ref r1, .ref r2, .ref r3, .ref r4, .ref se, .int 0, .int 0, .int 40, .int 0, .int 0])), (xq, .inl (cq, 16, .inr (.inr (.inr (.inr (fun _ => none)))))), (ou, .inl (cJ, 1, .inr (.inl (fun _ => 0))))]) hD hS hA [0, 1, 4] rfl
    refine vx_calli (vx_runSX (As := [.ref xo, .int (xs (1 : Int32).toNatClampNeg), .int 1, .ref ou]) (rest := []) ⟨hx, hb, hml, hown, hts⟩ (zc_L_low l hnt D G xo xg xp xq r1 r2 r3 r4 se 0 0 cq ou cJ (xs (1 : Int32).toNatClampNeg) 1 H.size) (vx_cwSW 4 hts gzL_law_L_low_260 rfl rfl rfl (by decide +kernel) ⟨(Nat.le_of_ble_eq_true rfl), (Nat.le_of_ble_eq_true rfl)⟩) ⟨p_RW_blind, (p_RW_at (tc := [(cq, .object "Gatherhouse$Piece"), (cJ, .long)]) (wc := [(xo, .inr (11, [.ref xg, .int 0, .ref xp, .int 0, .ref xq, .int 0, .ref r1, .ref r2, .ref r3, .ref r4, .ref se, .int 0, .int 0, .int 40, .int 0, .int 0])), (xq, .inl (cq, 16, .inr (.inr (.inr (.inr (fun _ => none)))))), (ou, .inl (cJ, 1, .inr (.inl (fun _ => 0))))]) hP hK hD hS hA hT hZ [0, 1, 4] [0, 1] rfl rfl (by decide) rfl [.ref xo, .int (xs (1 : Int32).toNatClampNeg), .int 1, .ref ou])⟩ rfl rfl hl.1 rfl (lv_room (Nat.le_of_ble_eq_true rfl)) dL_law_2106 ⟨(Nat.le_of_ble_eq_true rfl), (Nat.le_of_ble_eq_true rfl)⟩) hS (fun q _ h => hFc q h) hFc (fun q _ h => hFc q h) (fun E ce q9 u t H locs ht hvm hpx hBX hz1 hk1 hS hce hcv hcl => ?_) (fun r_1178 u t H locs ht hvm w_1179 hB hz1 hk1 hS => ?_)
    · exact (show False from hBX).elim
    · obtain ⟨hP, hD, hK⟩ := q_join (D := D) (wc := [(xo, .inr (11, [.ref xg, .int 0, .ref xp, .int 0, .ref xq, .int 0, .ref r1, .ref r2, .ref r3, .ref r4, .ref se, .int 0, .int 0, .int 40, .int 0, .int 0])), (xq, .inl (cq, 16, .inr (.inr (.inr (.inr (fun _ => none)))))), (ou, .inl (cJ, 1, .inr (.inl (fun _ => 0))))]) (wr := [(mo, .inr (16, [.int 0, .ref gl, .ref po, .ref pi, .ref bu, .ref pa, .int 0, .int 0, .int 40, .int 0, .null, .int 0, .int 0])), (pi, .inr (4, [.int 0, .ref G.1, .int 0]))]) (w1 := []) (tyr := [(cq, .object "Gatherhouse$Piece"), (cJ, .long)]) (ty1 := []) hP hD hK [0, 1, 4] [2, 3] [0, 1] rfl rfl (by decide) (by decide) rfl hFc hk1 ht hvm (q_none hK hvm)
      have hP : va_P D vwCl [(mo, .inr (16, [.int 0, .ref gl, .ref po, .ref pi, .ref bu, .ref pa, .int 0, .int 0, .int 40, .int 0, .null, .int 0, .int 0])), (pi, .inr (4, [.int 0, .ref G.1, .int 0]))] H := hP
      have hD : va_D A [(mo, .inr (16, [.int 0, .ref gl, .ref po, .ref pi, .ref bu, .ref pa, .int 0, .int 0, .int 40, .int 0, .null, .int 0, .int 0])), (pi, .inr (4, [.int 0, .ref G.1, .int 0]))] := hD
      have hK : va_K D vwCl [(cq, .object "Gatherhouse$Piece"), (cJ, .long)] s := hK
      refine W.widen (k := 61) (n := 306) (Nat.le_of_ble_eq_true rfl) (Nat.le_of_ble_eq_true rfl) ?_
      obtain rfl := w_1179
      refine lv_istore (lv' := [(6, .int 1), (5, .int 0), (4, .ref od), (3, .ref ou), (2, .ref mo), (1, .ref xo), (0, .ref b)]) hx hb dL_law_2109 hl (by decide) rfl (fun ls hl => ?_)
      refine lv_aload_n hx hb dL_law_2111 rfl (lv_at hl 4 rfl) ?_
      refine lv_aload_n hx hb dL_law_2112 rfl (lv_at hl 6 rfl) ?_
      refine lv_iload hx hb dL_law_2113 (lv_at hl 1 rfl) ?_
      refine lv_iconst (v := 1) hx hb dL_law_2115 (by decide) ?_
      refine lv_iadd hx hb dL_law_2116 ?_
      refine lv_topi (fun y_1180 ey_1180 => ?_)
      have ey_1180 : y_1180 = 1 := ey_1180.trans (by decide +kernel)
      subst ey_1180
      refine va_sld hx hb hX hbl hbA hS (vp_in_iff.mpr (by rw [hL]; decide +kernel)) dL_law_2117 ?_
      refine lv_aload_n hx hb dL_law_2118 rfl (lv_at hl 6 rfl) ?_
      refine lv_iload hx hb dL_law_2119 (lv_at hl 1 rfl) ?_
      refine lv_iconst (v := 2) hx hb dL_law_2121 (by decide) ?_
      refine lv_iadd hx hb dL_law_2122 ?_
      refine lv_topi (fun y_1181 ey_1181 => ?_)
      have ey_1181 : y_1181 = 2 := ey_1181.trans (by decide +kernel)
      subst ey_1181
      refine va_sld hx hb hX hbl hbA hS (vp_in_iff.mpr (by rw [hL]; decide +kernel)) dL_law_2123 ?_
      refine lv_if_eq (tgt := 2131) hx hb dL_law_2124 (by decide) (fun cc => absurd cc c_1169) (fun _ => ?_)
      refine lv_iconst (v := 1) hx hb dL_law_2127 (by decide) ?_
      refine lv_goto (tgt := 2132) hx hb dL_law_2128 (by decide) ?_
      have hFc := va_free (wc := [(mo, .inr (16, [.int 0, .ref gl, .ref po, .ref pi, .ref bu, .ref pa, .int 0, .int 0, .int 40, .int 0, .null, .int 0, .int 0])), (pi, .inr (4, [.int 0, .ref G.1, .int 0]))]) hD hS hA [0, 1] rfl
      refine va_calli (va_runV (As := [.int (xs (1 : Int32).toNatClampNeg), .int 1]) (rest := []) ⟨hx, hb, hml, hown, hts⟩ (zc_X11_low l D G mo gl po pi bu pa 0 0 0 (xs (1 : Int32).toNatClampNeg) 1 H.size) (cwV 2 hts gzL_law_X11_low_263 rfl rfl rfl (by decide +kernel) ⟨(Nat.le_of_ble_eq_true rfl), (Nat.le_of_ble_eq_true rfl)⟩) ⟨p_RW_blind, va_recv hK hP (ci := 16) (q0 := 0) rfl rfl, (p_RW_at (tc := []) (wc := [(mo, .inr (16, [.int 0, .ref gl, .ref po, .ref pi, .ref bu, .ref pa, .int 0, .int 0, .int 40, .int 0, .null, .int 0, .int 0])), (pi, .inr (4, [.int 0, .ref G.1, .int 0]))]) hP hK hD hS hA hT hZ [0, 1] [] rfl rfl (by decide) rfl [.ref mo, .int (xs (1 : Int32).toNatClampNeg), .int 1])⟩ rfl rfl hl.1 rfl (lv_room (Nat.le_of_ble_eq_true rfl)) dL_law_2132 ⟨(Nat.le_of_ble_eq_true rfl), (Nat.le_of_ble_eq_true rfl)⟩) hS (fun q _ h => hFc q h) hFc (fun r_1182 u t H locs ht hvm w_1183 hB hz1 hk1 hS => ?_)
      obtain ⟨hP, hD, hK⟩ := q_join (D := D) (wc := [(mo, .inr (16, [.int 0, .ref gl, .ref po, .ref pi, .ref bu, .ref pa, .int 0, .int 0, .int 40, .int 0, .null, .int 0, .int 0])), (pi, .inr (4, [.int 0, .ref G.1, .int 0]))]) (wr := []) (w1 := [(mo, .inr (16, [.int 1, .ref gl, .ref po, .ref pi, .ref bu, .ref pa, .int 0, .int 0, .int 40, .int 0, .null, .int 0, .int 0])), (pi, .inr (4, [.int 0, .ref G.1, .int 0]))]) (tyr := [(cq, .object "Gatherhouse$Piece"), (cJ, .long)]) (ty1 := []) hP hD hK [0, 1] [] [0, 1] rfl rfl (by decide) (by decide) rfl hFc hk1 ht hvm hB
      have hP : va_P D vwCl [(mo, .inr (16, [.int 1, .ref gl, .ref po, .ref pi, .ref bu, .ref pa, .int 0, .int 0, .int 40, .int 0, .null, .int 0, .int 0])), (pi, .inr (4, [.int 0, .ref G.1, .int 0]))] H := hP
      have hD : va_D A [(mo, .inr (16, [.int 1, .ref gl, .ref po, .ref pi, .ref bu, .ref pa, .int 0, .int 0, .int 40, .int 0, .null, .int 0, .int 0])), (pi, .inr (4, [.int 0, .ref G.1, .int 0]))] := hD
      have hK : va_K D vwCl [(cq, .object "Gatherhouse$Piece"), (cJ, .long)] s := hK
      obtain rfl := w_1183
      refine lv_istore (lv' := [(7, .int 0), (6, .int 1), (5, .int 0), (4, .ref od), (3, .ref ou), (2, .ref mo), (1, .ref xo), (0, .ref b)]) hx hb dL_law_2135 hl (by decide) rfl (fun ls hl => ?_)
      refine lv_aload_n hx hb dL_law_2137 rfl (lv_at hl 5 rfl) ?_
      refine vp_callSi (va_runV (As := []) (rest := []) ⟨hx, hb, hml, hown, hts⟩ (zc_X11_thrown l D G mo gl po pi bu pa 1 0 0 40) (cwV 0 hts gzL_law_X11_thrown_165 rfl rfl rfl (by decide +kernel) ⟨(Nat.le_of_ble_eq_true rfl), (Nat.le_of_ble_eq_true rfl)⟩) ⟨p_RO_blind, va_recv hK hP (ci := 16) (q0 := 0) rfl rfl, (p_RO_at (tc := []) (wc := [(mo, .inr (16, [.int 1, .ref gl, .ref po, .ref pi, .ref bu, .ref pa, .int 0, .int 0, .int 40, .int 0, .null, .int 0, .int 0]))]) hP hK hT [0] [] rfl rfl [.ref mo])⟩ rfl rfl hl.1 rfl (lv_room (Nat.le_of_ble_eq_true rfl)) dL_law_2138 ⟨(Nat.le_of_ble_eq_true rfl), (Nat.le_of_ble_eq_true rfl)⟩).run (fun r_1184 w_1185 => ?_)
      obtain rfl := w_1185
      refine lv_iload hx hb dL_law_2141 (lv_at hl 1 rfl) ?_
      refine lv_icmp_eq (tgt := 2148) hx hb dL_law_2143 (by decide) (fun _ => ?_) (fun cc => absurd (by decide) cc)
      refine lv_iload hx hb dL_law_2148 (lv_at hl 1 rfl) ?_
      refine lv_if_ne (tgt := 2165) hx hb dL_law_2150 (by decide) (fun _ => ?_) (fun cc => absurd cc (by decide))
      refine lv_goto (tgt := 2999) hx hb dL_law_2165 (by decide) ?_
      refine W.widen (k := 797152) (n := 6710780) (Nat.le_of_ble_eq_true rfl) (Nat.le_of_ble_eq_true rfl) ?_
      exact hE _ _ _ hS (lv_sub hl [7, 2] rfl)
theorem dL_law_2168 : decode cL_law 2168 = .ok (.aload_n 1, 1) := by decide +kernel
theorem dL_law_2169 : decode cL_law 2169 = .ok (.aload_n 0, 1) := by decide +kernel
theorem dL_law_2170 : decode cL_law 2170 = .ok (.iload 5, 2) := by decide +kernel
theorem dL_law_2172 : decode cL_law 2172 = .ok (.iconst 1, 1) := by decide +kernel
theorem dL_law_2173 : decode cL_law 2173 = .ok (.iadd, 1) := by decide +kernel
theorem dL_law_2174 : decode cL_law 2174 = .ok (.iaload, 1) := by decide +kernel
theorem dL_law_2175 : decode cL_law 2175 = .ok (.aload_n 3, 1) := by decide +kernel
theorem dL_law_2176 : decode cL_law 2176 = .ok (.invokestatic 264, 3) := by decide +kernel
theorem dL_law_2179 : decode cL_law 2179 = .ok (.istore 6, 2) := by decide +kernel
theorem dL_law_2181 : decode cL_law 2181 = .ok (.aload_n 2, 1) := by decide +kernel
theorem dL_law_2182 : decode cL_law 2182 = .ok (.aload_n 0, 1) := by decide +kernel
theorem dL_law_2183 : decode cL_law 2183 = .ok (.iload 5, 2) := by decide +kernel
theorem dL_law_2185 : decode cL_law 2185 = .ok (.iconst 1, 1) := by decide +kernel
theorem dL_law_2186 : decode cL_law 2186 = .ok (.iadd, 1) := by decide +kernel
theorem dL_law_2187 : decode cL_law 2187 = .ok (.iaload, 1) := by decide +kernel
theorem dL_law_2188 : decode cL_law 2188 = .ok (.invokevirtual 266, 3) := by decide +kernel
theorem dL_law_2191 : decode cL_law 2191 = .ok (.istore 7, 2) := by decide +kernel
theorem dL_law_2193 : decode cL_law 2193 = .ok (.aload_n 2, 1) := by decide +kernel
theorem dL_law_2194 : decode cL_law 2194 = .ok (.invokevirtual 165, 3) := by decide +kernel
theorem dL_law_2197 : decode cL_law 2197 = .ok (.iload 6, 2) := by decide +kernel
theorem dL_law_2199 : decode cL_law 2199 = .ok (.if_icmp .eq 5, 3) := by decide +kernel
theorem dL_law_2204 : decode cL_law 2204 = .ok (.iload 6, 2) := by decide +kernel
theorem dL_law_2206 : decode cL_law 2206 = .ok (.ifCond .ne 15, 3) := by decide +kernel
theorem dL_law_2221 : decode cL_law 2221 = .ok (.goto 778, 3) := by decide +kernel
set_option maxHeartbeats 4000000 in
set_option maxRecDepth 100000 in
theorem zl_30 {p : Program} {e : Env} {s : State} {m : MethodId} {below : List Frame} {meth : Method} {c : Code} {Q : State → Prop} {args : Array Value} (l : Launch) (hnt : l.stackTraces = false) (D : va_G) (G : Nat × Nat × Nat) (xo : Nat) (xg : Nat) (xp : Nat) (xq : Nat) (r1 : Nat) (r2 : Nat) (r3 : Nat) (r4 : Nat) (se : Nat) (n1 : Nat) (n2 : Nat) (n3 : Nat) (mo : Nat) (gl : Nat) (po : Nat) (pi : Nat) (bu : Nat) (pa : Nat) (ou : Nat) (od : Nat) (cg : ClassId) (cp : ClassId) (cq : ClassId) (ci : ClassId) (cj : ClassId) (cJ : ClassId) (cD : ClassId) {b L : Nat} {xs : Nat → Int32} {A : Nat → Prop} {H : Heap} {locs : List Loc} {ls : Array Slot} (hx : p.tables.exec = Jvm.exec) (hb : c.code = code) (hml : c.maxLocals = 9) (hown : s.vm.findClass RL = some m.cls) (hts : ∀ w ∈ wzL_law, w.before args s = true) (hT : FT G s) (hA : ∀ q : Nat, s.heap.size ≤ q → A q) (hZ : FZ G A s s.heap) (hX : va_X b L xs s s.heap) (hbl : b < s.heap.size) (hbA : ¬ A b) (hL : L = 5) (hK : va_K D vwCl [(cg, .object "Gatherhouse$Glass"), (cp, .object "Gatherhouse$Pot"), (cq, .object "Gatherhouse$Piece"), (ci, .int), (cj, .int), (cJ, .long), (cD, .double)] s) (hP : va_P D vwCl [(xo, .inr (11, [.ref xg, .int 0, .ref xp, .int 0, .ref xq, .int 0, .ref r1, .ref r2, .ref r3, .ref r4, .ref se, .int 0, .int 0, .int 40, .int 0, .int 0])), (xg, .inl (cg, 6, .inr (.inr (.inr (.inr (fun _ => none)))))), (xp, .inl (cp, 4, .inr (.inr (.inr (.inr (fun _ => none)))))), (xq, .inl (cq, 16, .inr (.inr (.inr (.inr (fun _ => none)))))), (r1, .inr (9, [.int 0, .int 0])), (r2, .inr (9, [.int 0, .int 0])), (r3, .inr (9, [.int 0, .int 0])), (r4, .inr (9, [.int 0, .int 0])), (se, .inr (10, [.ref n1, .ref n2, .ref n3, .int 0, .int 0, .int 0, .int 0])), (mo, .inr (16, [.int 0, .ref gl, .ref po, .ref pi, .ref bu, .ref pa, .int 0, .int 0, .int 40, .int 0, .null, .int 0, .int 0])), (gl, .inr (4, [.int 0, .ref G.1, .int 0])), (po, .inr (4, [.int 0, .ref G.1, .int 0])), (pi, .inr (4, [.int 0, .ref G.1, .int 0])), (bu, .inl (ci, 4, .inl (fun _ => 0))), (pa, .inl (cj, 4, .inl (fun _ => 0))), (ou, .inl (cJ, 1, .inr (.inl (fun _ => 0)))), (od, .inl (cD, 1, .inr (.inr (.inr (.inl (fun _ => 0))))))] H) (hD : va_D A [(xo, .inr (11, [.ref xg, .int 0, .ref xp, .int 0, .ref xq, .int 0, .ref r1, .ref r2, .ref r3, .ref r4, .ref se, .int 0, .int 0, .int 40, .int 0, .int 0])), (xg, .inl (cg, 6, .inr (.inr (.inr (.inr (fun _ => none)))))), (xp, .inl (cp, 4, .inr (.inr (.inr (.inr (fun _ => none)))))), (xq, .inl (cq, 16, .inr (.inr (.inr (.inr (fun _ => none)))))), (r1, .inr (9, [.int 0, .int 0])), (r2, .inr (9, [.int 0, .int 0])), (r3, .inr (9, [.int 0, .int 0])), (r4, .inr (9, [.int 0, .int 0])), (se, .inr (10, [.ref n1, .ref n2, .ref n3, .int 0, .int 0, .int 0, .int 0])), (mo, .inr (16, [.int 0, .ref gl, .ref po, .ref pi, .ref bu, .ref pa, .int 0, .int 0, .int 40, .int 0, .null, .int 0, .int 0])), (gl, .inr (4, [.int 0, .ref G.1, .int 0])), (po, .inr (4, [.int 0, .ref G.1, .int 0])), (pi, .inr (4, [.int 0, .ref G.1, .int 0])), (bu, .inl (ci, 4, .inl (fun _ => 0))), (pa, .inl (cj, 4, .inl (fun _ => 0))), (ou, .inl (cJ, 1, .inr (.inl (fun _ => 0)))), (od, .inl (cD, 1, .inr (.inr (.inr (.inl (fun _ => 0))))))]) (hS : va_S A s.heap H locs) (hl : lv_has ls 9 [(5, .int 0), (4, .ref od), (3, .ref ou), (2, .ref mo), (1, .ref xo), (0, .ref b)]) (hE : ∀ (H : Heap) (locs : List Loc) (ls : Array Slot), va_S A s.heap H locs → lv_has ls 9 [(0, .ref b), (5, .int 0)] → W p l e room_1 s m args below meth c H locs 797152 6710780 Q (F0 m 2999 ls [])) : W p l e room_1 s m args below meth c H locs 60 300 Q (F0 m 2168 ls []) := by
  have hP := hP.sub (ws' := [(xo, .inr (11, [.ref xg, .int 0, .ref xp, .int 0, .ref xq, .int 0, .ref r1, .ref r2, .ref r3, .ref r4, .ref se, .int 0, .int 0, .int 40, .int 0, .int 0])), (xq, .inl (cq, 16, .inr (.inr (.inr (.inr (fun _ => none)))))), (mo, .inr (16, [.int 0, .ref gl, .ref po, .ref pi, .ref bu, .ref pa, .int 0, .int 0, .int 40, .int 0, .null, .int 0, .int 0])), (pi, .inr (4, [.int 0, .ref G.1, .int 0])), (ou, .inl (cJ, 1, .inr (.inl (fun _ => 0))))]) [0, 3, 9, 12, 15] rfl
  have hD := hD.sub (ws' := [(xo, .inr (11, [.ref xg, .int 0, .ref xp, .int 0, .ref xq, .int 0, .ref r1, .ref r2, .ref r3, .ref r4, .ref se, .int 0, .int 0, .int 40, .int 0, .int 0])), (xq, .inl (cq, 16, .inr (.inr (.inr (.inr (fun _ => none)))))), (mo, .inr (16, [.int 0, .ref gl, .ref po, .ref pi, .ref bu, .ref pa, .int 0, .int 0, .int 40, .int 0, .null, .int 0, .int 0])), (pi, .inr (4, [.int 0, .ref G.1, .int 0])), (ou, .inl (cJ, 1, .inr (.inl (fun _ => 0))))]) [0, 3, 9, 12, 15] (by decide) rfl
  have hK := hK.sub (tys' := [(cq, .object "Gatherhouse$Piece"), (cJ, .long)]) [2, 5] rfl
  refine lv_aload_n hx hb dL_law_2168 rfl (lv_at hl 4 rfl) ?_
  refine lv_aload_n hx hb dL_law_2169 rfl (lv_at hl 5 rfl) ?_
  refine lv_iload hx hb dL_law_2170 (lv_at hl 0 rfl) ?_
  refine lv_iconst (v := 1) hx hb dL_law_2172 (by decide) ?_
  refine lv_iadd hx hb dL_law_2173 ?_
  refine lv_topi (fun y_1186 ey_1186 => ?_)
  have ey_1186 : y_1186 = 1 := ey_1186.trans (by decide +kernel)
  subst ey_1186
  refine va_sld hx hb hX hbl hbA hS (vp_in_iff.mpr (by rw [hL]; decide +kernel)) dL_law_2174 ?_
  refine lv_aload_n hx hb dL_law_2175 rfl (lv_at hl 2 rfl) ?_
  have hFc := va_free (wc := [(xo, .inr (11, [.ref xg, .int 0, .ref xp, .int 0, .ref xq, .int 0, .ref r1, .ref r2, .ref r3, .ref r4, .ref se, .int 0, .int 0, .int 40, .int 0, .int 0])), (xq, .inl (cq, 16, .inr (.inr (.inr (.inr (fun _ => none)))))), (ou, .inl (cJ, 1, .inr (.inl (fun _ => 0))))]) hD hS hA [0, 1, 4] rfl
  refine vx_calli (vx_runSX (As := [.ref xo, .int (xs (1 : Int32).toNatClampNeg), .ref ou]) (rest := []) ⟨hx, hb, hml, hown, hts⟩ (zc_L_strain l hnt D G xo xg xp xq r1 r2 r3 r4 se 0 0 cq ou cJ (xs (1 : Int32).toNatClampNeg) H.size) (vx_cwSW 3 hts gzL_law_L_strain_264 rfl rfl rfl (by decide +kernel) ⟨(Nat.le_of_ble_eq_true rfl), (Nat.le_of_ble_eq_true rfl)⟩) ⟨p_RW_blind, (p_RW_at (tc := [(cq, .object "Gatherhouse$Piece"), (cJ, .long)]) (wc := [(xo, .inr (11, [.ref xg, .int 0, .ref xp, .int 0, .ref xq, .int 0, .ref r1, .ref r2, .ref r3, .ref r4, .ref se, .int 0, .int 0, .int 40, .int 0, .int 0])), (xq, .inl (cq, 16, .inr (.inr (.inr (.inr (fun _ => none)))))), (ou, .inl (cJ, 1, .inr (.inl (fun _ => 0))))]) hP hK hD hS hA hT hZ [0, 1, 4] [0, 1] rfl rfl (by decide) rfl [.ref xo, .int (xs (1 : Int32).toNatClampNeg), .ref ou])⟩ rfl rfl hl.1 rfl (lv_room (Nat.le_of_ble_eq_true rfl)) dL_law_2176 ⟨(Nat.le_of_ble_eq_true rfl), (Nat.le_of_ble_eq_true rfl)⟩) hS (fun q _ h => hFc q h) hFc (fun q _ h => hFc q h) (fun E ce q9 u t H locs ht hvm hpx hBX hz1 hk1 hS hce hcv hcl => ?_) (fun r_1187 u t H locs ht hvm w_1188 hB hz1 hk1 hS => ?_)
  · exact (show False from hBX).elim
  · obtain ⟨hP, hD, hK⟩ := q_join (D := D) (wc := [(xo, .inr (11, [.ref xg, .int 0, .ref xp, .int 0, .ref xq, .int 0, .ref r1, .ref r2, .ref r3, .ref r4, .ref se, .int 0, .int 0, .int 40, .int 0, .int 0])), (xq, .inl (cq, 16, .inr (.inr (.inr (.inr (fun _ => none)))))), (ou, .inl (cJ, 1, .inr (.inl (fun _ => 0))))]) (wr := [(mo, .inr (16, [.int 0, .ref gl, .ref po, .ref pi, .ref bu, .ref pa, .int 0, .int 0, .int 40, .int 0, .null, .int 0, .int 0])), (pi, .inr (4, [.int 0, .ref G.1, .int 0]))]) (w1 := []) (tyr := [(cq, .object "Gatherhouse$Piece"), (cJ, .long)]) (ty1 := []) hP hD hK [0, 1, 4] [2, 3] [0, 1] rfl rfl (by decide) (by decide) rfl hFc hk1 ht hvm (q_none hK hvm)
    have hP : va_P D vwCl [(mo, .inr (16, [.int 0, .ref gl, .ref po, .ref pi, .ref bu, .ref pa, .int 0, .int 0, .int 40, .int 0, .null, .int 0, .int 0])), (pi, .inr (4, [.int 0, .ref G.1, .int 0]))] H := hP
    have hD : va_D A [(mo, .inr (16, [.int 0, .ref gl, .ref po, .ref pi, .ref bu, .ref pa, .int 0, .int 0, .int 40, .int 0, .null, .int 0, .int 0])), (pi, .inr (4, [.int 0, .ref G.1, .int 0]))] := hD
    have hK : va_K D vwCl [(cq, .object "Gatherhouse$Piece"), (cJ, .long)] s := hK
    refine W.widen (k := 61) (n := 306) (Nat.le_of_ble_eq_true rfl) (Nat.le_of_ble_eq_true rfl) ?_
    obtain rfl := w_1188
    refine lv_istore (lv' := [(6, .int 1), (5, .int 0), (4, .ref od), (3, .ref ou), (2, .ref mo), (1, .ref xo), (0, .ref b)]) hx hb dL_law_2179 hl (by decide) rfl (fun ls hl => ?_)
    refine lv_aload_n hx hb dL_law_2181 rfl (lv_at hl 4 rfl) ?_
    refine lv_aload_n hx hb dL_law_2182 rfl (lv_at hl 6 rfl) ?_
    refine lv_iload hx hb dL_law_2183 (lv_at hl 1 rfl) ?_
    refine lv_iconst (v := 1) hx hb dL_law_2185 (by decide) ?_
    refine lv_iadd hx hb dL_law_2186 ?_
    refine lv_topi (fun y_1189 ey_1189 => ?_)
    have ey_1189 : y_1189 = 1 := ey_1189.trans (by decide +kernel)
    subst ey_1189
    refine va_sld hx hb hX hbl hbA hS (vp_in_iff.mpr (by rw [hL]; decide +kernel)) dL_law_2187 ?_
    have hFc := va_free (wc := [(mo, .inr (16, [.int 0, .ref gl, .ref po, .ref pi, .ref bu, .ref pa, .int 0, .int 0, .int 40, .int 0, .null, .int 0, .int 0])), (pi, .inr (4, [.int 0, .ref G.1, .int 0]))]) hD hS hA [0, 1] rfl
    refine va_calli (va_runV (As := [.int (xs (1 : Int32).toNatClampNeg)]) (rest := []) ⟨hx, hb, hml, hown, hts⟩ (zc_X11_strain l D G mo gl po pi bu pa 0 0 0 (xs (1 : Int32).toNatClampNeg) H.size) (cwV 1 hts gzL_law_X11_strain_266 rfl rfl rfl (by decide +kernel) ⟨(Nat.le_of_ble_eq_true rfl), (Nat.le_of_ble_eq_true rfl)⟩) ⟨p_RW_blind, va_recv hK hP (ci := 16) (q0 := 0) rfl rfl, (p_RW_at (tc := []) (wc := [(mo, .inr (16, [.int 0, .ref gl, .ref po, .ref pi, .ref bu, .ref pa, .int 0, .int 0, .int 40, .int 0, .null, .int 0, .int 0])), (pi, .inr (4, [.int 0, .ref G.1, .int 0]))]) hP hK hD hS hA hT hZ [0, 1] [] rfl rfl (by decide) rfl [.ref mo, .int (xs (1 : Int32).toNatClampNeg)])⟩ rfl rfl hl.1 rfl (lv_room (Nat.le_of_ble_eq_true rfl)) dL_law_2188 ⟨(Nat.le_of_ble_eq_true rfl), (Nat.le_of_ble_eq_true rfl)⟩) hS (fun q _ h => hFc q h) hFc (fun r_1190 u t H locs ht hvm w_1191 hB hz1 hk1 hS => ?_)
    obtain ⟨hP, hD, hK⟩ := q_join (D := D) (wc := [(mo, .inr (16, [.int 0, .ref gl, .ref po, .ref pi, .ref bu, .ref pa, .int 0, .int 0, .int 40, .int 0, .null, .int 0, .int 0])), (pi, .inr (4, [.int 0, .ref G.1, .int 0]))]) (wr := []) (w1 := [(mo, .inr (16, [.int 1, .ref gl, .ref po, .ref pi, .ref bu, .ref pa, .int 0, .int 0, .int 40, .int 0, .null, .int 0, .int 0])), (pi, .inr (4, [.int 0, .ref G.1, .int 0]))]) (tyr := [(cq, .object "Gatherhouse$Piece"), (cJ, .long)]) (ty1 := []) hP hD hK [0, 1] [] [0, 1] rfl rfl (by decide) (by decide) rfl hFc hk1 ht hvm hB
    have hP : va_P D vwCl [(mo, .inr (16, [.int 1, .ref gl, .ref po, .ref pi, .ref bu, .ref pa, .int 0, .int 0, .int 40, .int 0, .null, .int 0, .int 0])), (pi, .inr (4, [.int 0, .ref G.1, .int 0]))] H := hP
    have hD : va_D A [(mo, .inr (16, [.int 1, .ref gl, .ref po, .ref pi, .ref bu, .ref pa, .int 0, .int 0, .int 40, .int 0, .null, .int 0, .int 0])), (pi, .inr (4, [.int 0, .ref G.1, .int 0]))] := hD
    have hK : va_K D vwCl [(cq, .object "Gatherhouse$Piece"), (cJ, .long)] s := hK
    obtain rfl := w_1191
    refine lv_istore (lv' := [(7, .int 0), (6, .int 1), (5, .int 0), (4, .ref od), (3, .ref ou), (2, .ref mo), (1, .ref xo), (0, .ref b)]) hx hb dL_law_2191 hl (by decide) rfl (fun ls hl => ?_)
    refine lv_aload_n hx hb dL_law_2193 rfl (lv_at hl 5 rfl) ?_
    refine vp_callSi (va_runV (As := []) (rest := []) ⟨hx, hb, hml, hown, hts⟩ (zc_X11_thrown l D G mo gl po pi bu pa 1 0 0 40) (cwV 0 hts gzL_law_X11_thrown_165 rfl rfl rfl (by decide +kernel) ⟨(Nat.le_of_ble_eq_true rfl), (Nat.le_of_ble_eq_true rfl)⟩) ⟨p_RO_blind, va_recv hK hP (ci := 16) (q0 := 0) rfl rfl, (p_RO_at (tc := []) (wc := [(mo, .inr (16, [.int 1, .ref gl, .ref po, .ref pi, .ref bu, .ref pa, .int 0, .int 0, .int 40, .int 0, .null, .int 0, .int 0]))]) hP hK hT [0] [] rfl rfl [.ref mo])⟩ rfl rfl hl.1 rfl (lv_room (Nat.le_of_ble_eq_true rfl)) dL_law_2194 ⟨(Nat.le_of_ble_eq_true rfl), (Nat.le_of_ble_eq_true rfl)⟩).run (fun r_1192 w_1193 => ?_)
    obtain rfl := w_1193
    refine lv_iload hx hb dL_law_2197 (lv_at hl 1 rfl) ?_
    refine lv_icmp_eq (tgt := 2204) hx hb dL_law_2199 (by decide) (fun _ => ?_) (fun cc => absurd (by decide) cc)
    refine lv_iload hx hb dL_law_2204 (lv_at hl 1 rfl) ?_
    refine lv_if_ne (tgt := 2221) hx hb dL_law_2206 (by decide) (fun _ => ?_) (fun cc => absurd cc (by decide))
    refine lv_goto (tgt := 2999) hx hb dL_law_2221 (by decide) ?_
    refine W.widen (k := 797152) (n := 6710780) (Nat.le_of_ble_eq_true rfl) (Nat.le_of_ble_eq_true rfl) ?_
    exact hE _ _ _ hS (lv_sub hl [7, 2] rfl)
theorem dL_law_2224 : decode cL_law 2224 = .ok (.aload_n 1, 1) := by decide +kernel
theorem dL_law_2225 : decode cL_law 2225 = .ok (.aload_n 0, 1) := by decide +kernel
theorem dL_law_2226 : decode cL_law 2226 = .ok (.iload 5, 2) := by decide +kernel
theorem dL_law_2228 : decode cL_law 2228 = .ok (.iconst 1, 1) := by decide +kernel
theorem dL_law_2229 : decode cL_law 2229 = .ok (.iadd, 1) := by decide +kernel
theorem dL_law_2230 : decode cL_law 2230 = .ok (.iaload, 1) := by decide +kernel
theorem dL_law_2231 : decode cL_law 2231 = .ok (.aload_n 3, 1) := by decide +kernel
theorem dL_law_2232 : decode cL_law 2232 = .ok (.invokestatic 267, 3) := by decide +kernel
theorem dL_law_2235 : decode cL_law 2235 = .ok (.istore 6, 2) := by decide +kernel
theorem dL_law_2237 : decode cL_law 2237 = .ok (.aload_n 2, 1) := by decide +kernel
theorem dL_law_2238 : decode cL_law 2238 = .ok (.aload_n 0, 1) := by decide +kernel
theorem dL_law_2239 : decode cL_law 2239 = .ok (.iload 5, 2) := by decide +kernel
theorem dL_law_2241 : decode cL_law 2241 = .ok (.iconst 1, 1) := by decide +kernel
theorem dL_law_2242 : decode cL_law 2242 = .ok (.iadd, 1) := by decide +kernel
theorem dL_law_2243 : decode cL_law 2243 = .ok (.iaload, 1) := by decide +kernel
theorem dL_law_2244 : decode cL_law 2244 = .ok (.invokevirtual 269, 3) := by decide +kernel
theorem dL_law_2247 : decode cL_law 2247 = .ok (.istore 7, 2) := by decide +kernel
theorem dL_law_2249 : decode cL_law 2249 = .ok (.aload_n 2, 1) := by decide +kernel
theorem dL_law_2250 : decode cL_law 2250 = .ok (.invokevirtual 165, 3) := by decide +kernel
theorem dL_law_2253 : decode cL_law 2253 = .ok (.iload 6, 2) := by decide +kernel
theorem dL_law_2255 : decode cL_law 2255 = .ok (.if_icmp .eq 5, 3) := by decide +kernel
theorem dL_law_2260 : decode cL_law 2260 = .ok (.iload 6, 2) := by decide +kernel
theorem dL_law_2262 : decode cL_law 2262 = .ok (.ifCond .ne 22, 3) := by decide +kernel
theorem dL_law_2284 : decode cL_law 2284 = .ok (.goto 715, 3) := by decide +kernel
set_option maxHeartbeats 4000000 in
set_option maxRecDepth 100000 in
theorem zl_31 {p : Program} {e : Env} {s : State} {m : MethodId} {below : List Frame} {meth : Method} {c : Code} {Q : State → Prop} {args : Array Value} (l : Launch) (hnt : l.stackTraces = false) (D : va_G) (G : Nat × Nat × Nat) (xo : Nat) (xg : Nat) (xp : Nat) (xq : Nat) (r1 : Nat) (r2 : Nat) (r3 : Nat) (r4 : Nat) (se : Nat) (n1 : Nat) (n2 : Nat) (n3 : Nat) (mo : Nat) (gl : Nat) (po : Nat) (pi : Nat) (bu : Nat) (pa : Nat) (ou : Nat) (od : Nat) (cg : ClassId) (cp : ClassId) (cq : ClassId) (ci : ClassId) (cj : ClassId) (cJ : ClassId) (cD : ClassId) {b L : Nat} {xs : Nat → Int32} {A : Nat → Prop} {H : Heap} {locs : List Loc} {ls : Array Slot} (hx : p.tables.exec = Jvm.exec) (hb : c.code = code) (hml : c.maxLocals = 9) (hown : s.vm.findClass RL = some m.cls) (hts : ∀ w ∈ wzL_law, w.before args s = true) (hT : FT G s) (hA : ∀ q : Nat, s.heap.size ≤ q → A q) (hZ : FZ G A s s.heap) (hX : va_X b L xs s s.heap) (hbl : b < s.heap.size) (hbA : ¬ A b) (hL : L = 5) (hK : va_K D vwCl [(cg, .object "Gatherhouse$Glass"), (cp, .object "Gatherhouse$Pot"), (cq, .object "Gatherhouse$Piece"), (ci, .int), (cj, .int), (cJ, .long), (cD, .double)] s) (hP : va_P D vwCl [(xo, .inr (11, [.ref xg, .int 0, .ref xp, .int 0, .ref xq, .int 0, .ref r1, .ref r2, .ref r3, .ref r4, .ref se, .int 0, .int 0, .int 40, .int 0, .int 0])), (xg, .inl (cg, 6, .inr (.inr (.inr (.inr (fun _ => none)))))), (xp, .inl (cp, 4, .inr (.inr (.inr (.inr (fun _ => none)))))), (xq, .inl (cq, 16, .inr (.inr (.inr (.inr (fun _ => none)))))), (r1, .inr (9, [.int 0, .int 0])), (r2, .inr (9, [.int 0, .int 0])), (r3, .inr (9, [.int 0, .int 0])), (r4, .inr (9, [.int 0, .int 0])), (se, .inr (10, [.ref n1, .ref n2, .ref n3, .int 0, .int 0, .int 0, .int 0])), (mo, .inr (16, [.int 0, .ref gl, .ref po, .ref pi, .ref bu, .ref pa, .int 0, .int 0, .int 40, .int 0, .null, .int 0, .int 0])), (gl, .inr (4, [.int 0, .ref G.1, .int 0])), (po, .inr (4, [.int 0, .ref G.1, .int 0])), (pi, .inr (4, [.int 0, .ref G.1, .int 0])), (bu, .inl (ci, 4, .inl (fun _ => 0))), (pa, .inl (cj, 4, .inl (fun _ => 0))), (ou, .inl (cJ, 1, .inr (.inl (fun _ => 0)))), (od, .inl (cD, 1, .inr (.inr (.inr (.inl (fun _ => 0))))))] H) (hD : va_D A [(xo, .inr (11, [.ref xg, .int 0, .ref xp, .int 0, .ref xq, .int 0, .ref r1, .ref r2, .ref r3, .ref r4, .ref se, .int 0, .int 0, .int 40, .int 0, .int 0])), (xg, .inl (cg, 6, .inr (.inr (.inr (.inr (fun _ => none)))))), (xp, .inl (cp, 4, .inr (.inr (.inr (.inr (fun _ => none)))))), (xq, .inl (cq, 16, .inr (.inr (.inr (.inr (fun _ => none)))))), (r1, .inr (9, [.int 0, .int 0])), (r2, .inr (9, [.int 0, .int 0])), (r3, .inr (9, [.int 0, .int 0])), (r4, .inr (9, [.int 0, .int 0])), (se, .inr (10, [.ref n1, .ref n2, .ref n3, .int 0, .int 0, .int 0, .int 0])), (mo, .inr (16, [.int 0, .ref gl, .ref po, .ref pi, .ref bu, .ref pa, .int 0, .int 0, .int 40, .int 0, .null, .int 0, .int 0])), (gl, .inr (4, [.int 0, .ref G.1, .int 0])), (po, .inr (4, [.int 0, .ref G.1, .int 0])), (pi, .inr (4, [.int 0, .ref G.1, .int 0])), (bu, .inl (ci, 4, .inl (fun _ => 0))), (pa, .inl (cj, 4, .inl (fun _ => 0))), (ou, .inl (cJ, 1, .inr (.inl (fun _ => 0)))), (od, .inl (cD, 1, .inr (.inr (.inr (.inl (fun _ => 0))))))]) (hS : va_S A s.heap H locs) (hl : lv_has ls 9 [(5, .int 0), (4, .ref od), (3, .ref ou), (2, .ref mo), (1, .ref xo), (0, .ref b)]) (hE : ∀ (H : Heap) (locs : List Loc) (ls : Array Slot), va_S A s.heap H locs → lv_has ls 9 [(0, .ref b), (5, .int 0)] → W p l e room_1 s m args below meth c H locs 797152 6710780 Q (F0 m 2999 ls [])) : W p l e room_1 s m args below meth c H locs 60 300 Q (F0 m 2224 ls []) := by
  have hP := hP.sub (ws' := [(xo, .inr (11, [.ref xg, .int 0, .ref xp, .int 0, .ref xq, .int 0, .ref r1, .ref r2, .ref r3, .ref r4, .ref se, .int 0, .int 0, .int 40, .int 0, .int 0])), (xq, .inl (cq, 16, .inr (.inr (.inr (.inr (fun _ => none)))))), (mo, .inr (16, [.int 0, .ref gl, .ref po, .ref pi, .ref bu, .ref pa, .int 0, .int 0, .int 40, .int 0, .null, .int 0, .int 0])), (pi, .inr (4, [.int 0, .ref G.1, .int 0])), (ou, .inl (cJ, 1, .inr (.inl (fun _ => 0))))]) [0, 3, 9, 12, 15] rfl
  have hD := hD.sub (ws' := [(xo, .inr (11, [.ref xg, .int 0, .ref xp, .int 0, .ref xq, .int 0, .ref r1, .ref r2, .ref r3, .ref r4, .ref se, .int 0, .int 0, .int 40, .int 0, .int 0])), (xq, .inl (cq, 16, .inr (.inr (.inr (.inr (fun _ => none)))))), (mo, .inr (16, [.int 0, .ref gl, .ref po, .ref pi, .ref bu, .ref pa, .int 0, .int 0, .int 40, .int 0, .null, .int 0, .int 0])), (pi, .inr (4, [.int 0, .ref G.1, .int 0])), (ou, .inl (cJ, 1, .inr (.inl (fun _ => 0))))]) [0, 3, 9, 12, 15] (by decide) rfl
  have hK := hK.sub (tys' := [(cq, .object "Gatherhouse$Piece"), (cJ, .long)]) [2, 5] rfl
  refine lv_aload_n hx hb dL_law_2224 rfl (lv_at hl 4 rfl) ?_
  refine lv_aload_n hx hb dL_law_2225 rfl (lv_at hl 5 rfl) ?_
  refine lv_iload hx hb dL_law_2226 (lv_at hl 0 rfl) ?_
  refine lv_iconst (v := 1) hx hb dL_law_2228 (by decide) ?_
  refine lv_iadd hx hb dL_law_2229 ?_
  refine lv_topi (fun y_1194 ey_1194 => ?_)
  have ey_1194 : y_1194 = 1 := ey_1194.trans (by decide +kernel)
  subst ey_1194
  refine va_sld hx hb hX hbl hbA hS (vp_in_iff.mpr (by rw [hL]; decide +kernel)) dL_law_2230 ?_
  refine lv_aload_n hx hb dL_law_2231 rfl (lv_at hl 2 rfl) ?_
  have hFc := va_free (wc := [(xo, .inr (11, [.ref xg, .int 0, .ref xp, .int 0, .ref xq, .int 0, .ref r1, .ref r2, .ref r3, .ref r4, .ref se, .int 0, .int 0, .int 40, .int 0, .int 0])), (xq, .inl (cq, 16, .inr (.inr (.inr (.inr (fun _ => none)))))), (ou, .inl (cJ, 1, .inr (.inl (fun _ => 0))))]) hD hS hA [0, 1, 4] rfl
  refine vx_calli (vx_runSX (As := [.ref xo, .int (xs (1 : Int32).toNatClampNeg), .ref ou]) (rest := []) ⟨hx, hb, hml, hown, hts⟩ (zc_L_isFirst l hnt D G xo xg xp xq r1 r2 r3 r4 se 0 0 cq ou cJ (xs (1 : Int32).toNatClampNeg) H.size) (vx_cwSW 3 hts gzL_law_L_isFirst_267 rfl rfl rfl (by decide +kernel) ⟨(Nat.le_of_ble_eq_true rfl), (Nat.le_of_ble_eq_true rfl)⟩) ⟨p_RW_blind, (p_RW_at (tc := [(cq, .object "Gatherhouse$Piece"), (cJ, .long)]) (wc := [(xo, .inr (11, [.ref xg, .int 0, .ref xp, .int 0, .ref xq, .int 0, .ref r1, .ref r2, .ref r3, .ref r4, .ref se, .int 0, .int 0, .int 40, .int 0, .int 0])), (xq, .inl (cq, 16, .inr (.inr (.inr (.inr (fun _ => none)))))), (ou, .inl (cJ, 1, .inr (.inl (fun _ => 0))))]) hP hK hD hS hA hT hZ [0, 1, 4] [0, 1] rfl rfl (by decide) rfl [.ref xo, .int (xs (1 : Int32).toNatClampNeg), .ref ou])⟩ rfl rfl hl.1 rfl (lv_room (Nat.le_of_ble_eq_true rfl)) dL_law_2232 ⟨(Nat.le_of_ble_eq_true rfl), (Nat.le_of_ble_eq_true rfl)⟩) hS (fun q _ h => hFc q h) hFc (fun q _ h => hFc q h) (fun E ce q9 u t H locs ht hvm hpx hBX hz1 hk1 hS hce hcv hcl => ?_) (fun r_1195 u t H locs ht hvm w_1196 hB hz1 hk1 hS => ?_)
  · exact (show False from hBX).elim
  · obtain ⟨hP, hD, hK⟩ := q_join (D := D) (wc := [(xo, .inr (11, [.ref xg, .int 0, .ref xp, .int 0, .ref xq, .int 0, .ref r1, .ref r2, .ref r3, .ref r4, .ref se, .int 0, .int 0, .int 40, .int 0, .int 0])), (xq, .inl (cq, 16, .inr (.inr (.inr (.inr (fun _ => none)))))), (ou, .inl (cJ, 1, .inr (.inl (fun _ => 0))))]) (wr := [(mo, .inr (16, [.int 0, .ref gl, .ref po, .ref pi, .ref bu, .ref pa, .int 0, .int 0, .int 40, .int 0, .null, .int 0, .int 0])), (pi, .inr (4, [.int 0, .ref G.1, .int 0]))]) (w1 := []) (tyr := [(cq, .object "Gatherhouse$Piece"), (cJ, .long)]) (ty1 := []) hP hD hK [0, 1, 4] [2, 3] [0, 1] rfl rfl (by decide) (by decide) rfl hFc hk1 ht hvm (q_none hK hvm)
    have hP : va_P D vwCl [(mo, .inr (16, [.int 0, .ref gl, .ref po, .ref pi, .ref bu, .ref pa, .int 0, .int 0, .int 40, .int 0, .null, .int 0, .int 0])), (pi, .inr (4, [.int 0, .ref G.1, .int 0]))] H := hP
    have hD : va_D A [(mo, .inr (16, [.int 0, .ref gl, .ref po, .ref pi, .ref bu, .ref pa, .int 0, .int 0, .int 40, .int 0, .null, .int 0, .int 0])), (pi, .inr (4, [.int 0, .ref G.1, .int 0]))] := hD
    have hK : va_K D vwCl [(cq, .object "Gatherhouse$Piece"), (cJ, .long)] s := hK
    refine W.widen (k := 61) (n := 306) (Nat.le_of_ble_eq_true rfl) (Nat.le_of_ble_eq_true rfl) ?_
    obtain rfl := w_1196
    refine lv_istore (lv' := [(6, .int 1), (5, .int 0), (4, .ref od), (3, .ref ou), (2, .ref mo), (1, .ref xo), (0, .ref b)]) hx hb dL_law_2235 hl (by decide) rfl (fun ls hl => ?_)
    refine lv_aload_n hx hb dL_law_2237 rfl (lv_at hl 4 rfl) ?_
    refine lv_aload_n hx hb dL_law_2238 rfl (lv_at hl 6 rfl) ?_
    refine lv_iload hx hb dL_law_2239 (lv_at hl 1 rfl) ?_
    refine lv_iconst (v := 1) hx hb dL_law_2241 (by decide) ?_
    refine lv_iadd hx hb dL_law_2242 ?_
    refine lv_topi (fun y_1197 ey_1197 => ?_)
    have ey_1197 : y_1197 = 1 := ey_1197.trans (by decide +kernel)
    subst ey_1197
    refine va_sld hx hb hX hbl hbA hS (vp_in_iff.mpr (by rw [hL]; decide +kernel)) dL_law_2243 ?_
    have hFc := va_free (wc := [(mo, .inr (16, [.int 0, .ref gl, .ref po, .ref pi, .ref bu, .ref pa, .int 0, .int 0, .int 40, .int 0, .null, .int 0, .int 0])), (pi, .inr (4, [.int 0, .ref G.1, .int 0]))]) hD hS hA [0, 1] rfl
    refine va_calli (va_runV (As := [.int (xs (1 : Int32).toNatClampNeg)]) (rest := []) ⟨hx, hb, hml, hown, hts⟩ (zc_X11_isFirst l D G mo gl po pi bu pa 0 0 0 (xs (1 : Int32).toNatClampNeg) H.size) (cwV 1 hts gzL_law_X11_isFirst_269 rfl rfl rfl (by decide +kernel) ⟨(Nat.le_of_ble_eq_true rfl), (Nat.le_of_ble_eq_true rfl)⟩) ⟨p_RW_blind, va_recv hK hP (ci := 16) (q0 := 0) rfl rfl, (p_RW_at (tc := []) (wc := [(mo, .inr (16, [.int 0, .ref gl, .ref po, .ref pi, .ref bu, .ref pa, .int 0, .int 0, .int 40, .int 0, .null, .int 0, .int 0])), (pi, .inr (4, [.int 0, .ref G.1, .int 0]))]) hP hK hD hS hA hT hZ [0, 1] [] rfl rfl (by decide) rfl [.ref mo, .int (xs (1 : Int32).toNatClampNeg)])⟩ rfl rfl hl.1 rfl (lv_room (Nat.le_of_ble_eq_true rfl)) dL_law_2244 ⟨(Nat.le_of_ble_eq_true rfl), (Nat.le_of_ble_eq_true rfl)⟩) hS (fun q _ h => hFc q h) hFc (fun r_1198 u t H locs ht hvm w_1199 hB hz1 hk1 hS => ?_)
    obtain ⟨hP, hD, hK⟩ := q_join (D := D) (wc := [(mo, .inr (16, [.int 0, .ref gl, .ref po, .ref pi, .ref bu, .ref pa, .int 0, .int 0, .int 40, .int 0, .null, .int 0, .int 0])), (pi, .inr (4, [.int 0, .ref G.1, .int 0]))]) (wr := []) (w1 := [(mo, .inr (16, [.int 1, .ref gl, .ref po, .ref pi, .ref bu, .ref pa, .int 0, .int 0, .int 40, .int 0, .null, .int 0, .int 0])), (pi, .inr (4, [.int 0, .ref G.1, .int 0]))]) (tyr := [(cq, .object "Gatherhouse$Piece"), (cJ, .long)]) (ty1 := []) hP hD hK [0, 1] [] [0, 1] rfl rfl (by decide) (by decide) rfl hFc hk1 ht hvm hB
    have hP : va_P D vwCl [(mo, .inr (16, [.int 1, .ref gl, .ref po, .ref pi, .ref bu, .ref pa, .int 0, .int 0, .int 40, .int 0, .null, .int 0, .int 0])), (pi, .inr (4, [.int 0, .ref G.1, .int 0]))] H := hP
    have hD : va_D A [(mo, .inr (16, [.int 1, .ref gl, .ref po, .ref pi, .ref bu, .ref pa, .int 0, .int 0, .int 40, .int 0, .null, .int 0, .int 0])), (pi, .inr (4, [.int 0, .ref G.1, .int 0]))] := hD
    have hK : va_K D vwCl [(cq, .object "Gatherhouse$Piece"), (cJ, .long)] s := hK
    obtain rfl := w_1199
    refine lv_istore (lv' := [(7, .int 0), (6, .int 1), (5, .int 0), (4, .ref od), (3, .ref ou), (2, .ref mo), (1, .ref xo), (0, .ref b)]) hx hb dL_law_2247 hl (by decide) rfl (fun ls hl => ?_)
    refine lv_aload_n hx hb dL_law_2249 rfl (lv_at hl 5 rfl) ?_
    refine vp_callSi (va_runV (As := []) (rest := []) ⟨hx, hb, hml, hown, hts⟩ (zc_X11_thrown l D G mo gl po pi bu pa 1 0 0 40) (cwV 0 hts gzL_law_X11_thrown_165 rfl rfl rfl (by decide +kernel) ⟨(Nat.le_of_ble_eq_true rfl), (Nat.le_of_ble_eq_true rfl)⟩) ⟨p_RO_blind, va_recv hK hP (ci := 16) (q0 := 0) rfl rfl, (p_RO_at (tc := []) (wc := [(mo, .inr (16, [.int 1, .ref gl, .ref po, .ref pi, .ref bu, .ref pa, .int 0, .int 0, .int 40, .int 0, .null, .int 0, .int 0]))]) hP hK hT [0] [] rfl rfl [.ref mo])⟩ rfl rfl hl.1 rfl (lv_room (Nat.le_of_ble_eq_true rfl)) dL_law_2250 ⟨(Nat.le_of_ble_eq_true rfl), (Nat.le_of_ble_eq_true rfl)⟩).run (fun r_1200 w_1201 => ?_)
    obtain rfl := w_1201
    refine lv_iload hx hb dL_law_2253 (lv_at hl 1 rfl) ?_
    refine lv_icmp_eq (tgt := 2260) hx hb dL_law_2255 (by decide) (fun _ => ?_) (fun cc => absurd (by decide) cc)
    refine lv_iload hx hb dL_law_2260 (lv_at hl 1 rfl) ?_
    refine lv_if_ne (tgt := 2284) hx hb dL_law_2262 (by decide) (fun _ => ?_) (fun cc => absurd cc (by decide))
    refine lv_goto (tgt := 2999) hx hb dL_law_2284 (by decide) ?_
    refine W.widen (k := 797152) (n := 6710780) (Nat.le_of_ble_eq_true rfl) (Nat.le_of_ble_eq_true rfl) ?_
    exact hE _ _ _ hS (lv_sub hl [7, 2] rfl)
