theorem dL_law_2287 : decode cL_law 2287 = .ok (.aload_n 1, 1) := by decide +kernel
theorem dL_law_2288 : decode cL_law 2288 = .ok (.aload_n 0, 1) := by decide +kernel
theorem dL_law_2289 : decode cL_law 2289 = .ok (.iload 5, 2) := by decide +kernel
theorem dL_law_2291 : decode cL_law 2291 = .ok (.iconst 1, 1) := by decide +kernel
theorem dL_law_2292 : decode cL_law 2292 = .ok (.iadd, 1) := by decide +kernel
theorem dL_law_2293 : decode cL_law 2293 = .ok (.iaload, 1) := by decide +kernel
theorem dL_law_2294 : decode cL_law 2294 = .ok (.aload_n 3, 1) := by decide +kernel
theorem dL_law_2295 : decode cL_law 2295 = .ok (.invokestatic 270, 3) := by decide +kernel
theorem dL_law_2298 : decode cL_law 2298 = .ok (.istore 6, 2) := by decide +kernel
theorem dL_law_2300 : decode cL_law 2300 = .ok (.aload_n 2, 1) := by decide +kernel
theorem dL_law_2301 : decode cL_law 2301 = .ok (.aload_n 0, 1) := by decide +kernel
theorem dL_law_2302 : decode cL_law 2302 = .ok (.iload 5, 2) := by decide +kernel
theorem dL_law_2304 : decode cL_law 2304 = .ok (.iconst 1, 1) := by decide +kernel
theorem dL_law_2305 : decode cL_law 2305 = .ok (.iadd, 1) := by decide +kernel
theorem dL_law_2306 : decode cL_law 2306 = .ok (.iaload, 1) := by decide +kernel
theorem dL_law_2307 : decode cL_law 2307 = .ok (.invokevirtual 272, 3) := by decide +kernel
theorem dL_law_2310 : decode cL_law 2310 = .ok (.istore 7, 2) := by decide +kernel
theorem dL_law_2312 : decode cL_law 2312 = .ok (.aload_n 2, 1) := by decide +kernel
theorem dL_law_2313 : decode cL_law 2313 = .ok (.invokevirtual 165, 3) := by decide +kernel
theorem dL_law_2316 : decode cL_law 2316 = .ok (.iload 6, 2) := by decide +kernel
theorem dL_law_2318 : decode cL_law 2318 = .ok (.if_icmp .eq 5, 3) := by decide +kernel
theorem dL_law_2323 : decode cL_law 2323 = .ok (.iload 6, 2) := by decide +kernel
theorem dL_law_2325 : decode cL_law 2325 = .ok (.ifCond .ne 15, 3) := by decide +kernel
theorem dL_law_2328 : decode cL_law 2328 = .ok (.aload_n 3, 1) := by decide +kernel
theorem dL_law_2329 : decode cL_law 2329 = .ok (.iconst 0, 1) := by decide +kernel
theorem dL_law_2330 : decode cL_law 2330 = .ok (.laload, 1) := by decide +kernel
theorem dL_law_2331 : decode cL_law 2331 = .ok (.iload 7, 2) := by decide +kernel
theorem dL_law_2333 : decode cL_law 2333 = .ok (.i2l, 1) := by decide +kernel
theorem dL_law_2334 : decode cL_law 2334 = .ok (.lcmp, 1) := by decide +kernel
theorem dL_law_2335 : decode cL_law 2335 = .ok (.ifCond .eq 5, 3) := by decide +kernel
theorem dL_law_2340 : decode cL_law 2340 = .ok (.goto 659, 3) := by decide +kernel
set_option maxHeartbeats 4000000 in
set_option maxRecDepth 100000 in
theorem zl_32 {p : Program} {e : Env} {s : State} {m : MethodId} {below : List Frame} {meth : Method} {c : Code} {Q : State → Prop} {args : Array Value} (l : Launch) (hnt : l.stackTraces = false) (D : va_G) (G : Nat × Nat × Nat) (xo : Nat) (xg : Nat) (xp : Nat) (xq : Nat) (r1 : Nat) (r2 : Nat) (r3 : Nat) (r4 : Nat) (se : Nat) (n1 : Nat) (n2 : Nat) (n3 : Nat) (mo : Nat) (gl : Nat) (po : Nat) (pi : Nat) (bu : Nat) (pa : Nat) (ou : Nat) (od : Nat) (cg : ClassId) (cp : ClassId) (cq : ClassId) (ci : ClassId) (cj : ClassId) (cJ : ClassId) (cD : ClassId) {b L : Nat} {xs : Nat → Int32} {A : Nat → Prop} {H : Heap} {locs : List Loc} {ls : Array Slot} (hx : p.tables.exec = Jvm.exec) (hb : c.code = code) (hml : c.maxLocals = 9) (hown : s.vm.findClass RL = some m.cls) (hts : ∀ w ∈ wzL_law, w.before args s = true) (hT : FT G s) (hA : ∀ q : Nat, s.heap.size ≤ q → A q) (hZ : FZ G A s s.heap) (hX : va_X b L xs s s.heap) (hbl : b < s.heap.size) (hbA : ¬ A b) (hL : L = 5) (hK : va_K D vwCl [(cg, .object "Gatherhouse$Glass"), (cp, .object "Gatherhouse$Pot"), (cq, .object "Gatherhouse$Piece"), (ci, .int), (cj, .int), (cJ, .long), (cD, .double)] s) (hP : va_P D vwCl [(xo, .inr (11, [.ref xg, .int 0, .ref xp, .int 0, .ref xq, .int 0, .ref r1, .ref r2, .ref r3, .ref r4, .ref se, .int 0, .int 0, .int 40, .int 0, .int 0])), (xg, .inl (cg, 6, .inr (.inr (.inr (.inr (fun _ => none)))))), (xp, .inl (cp, 4, .inr (.inr (.inr (.inr (fun _ => none)))))), (xq, .inl (cq, 16, .inr (.inr (.inr (.inr (fun _ => none)))))), (r1, .inr (9, [.int 0, .int 0])), (r2, .inr (9, [.int 0, .int 0])), (r3, .inr (9, [.int 0, .int 0])), (r4, .inr (9, [.int 0, .int 0])), (se, .inr (10, [.ref n1, .ref n2, .ref n3, .int 0, .int 0, .int 0, .int 0])), (mo, .inr (16, [.int 0, .ref gl, .ref po, .ref pi, .ref bu, .ref pa, .int 0, .int 0, .int 40, .int 0, .null, .int 0, .int 0])), (gl, .inr (4, [.int 0, .ref G.1, .int 0])), (po, .inr (4, [.int 0, .ref G.1, .int 0])), (pi, .inr (4, [.int 0, .ref G.1, .int 0])), (bu, .inl (ci, 4, .inl (fun _ => 0))), (pa, .inl (cj, 4, .inl (fun _ => 0))), (ou, .inl (cJ, 1, .inr (.inl (fun _ => 0)))), (od, .inl (cD, 1, .inr (.inr (.inr (.inl (fun _ => 0))))))] H) (hD : va_D A [(xo, .inr (11, [.ref xg, .int 0, .ref xp, .int 0, .ref xq, .int 0, .ref r1, .ref r2, .ref r3, .ref r4, .ref se, .int 0, .int 0, .int 40, .int 0, .int 0])), (xg, .inl (cg, 6, .inr (.inr (.inr (.inr (fun _ => none)))))), (xp, .inl (cp, 4, .inr (.inr (.inr (.inr (fun _ => none)))))), (xq, .inl (cq, 16, .inr (.inr (.inr (.inr (fun _ => none)))))), (r1, .inr (9, [.int 0, .int 0])), (r2, .inr (9, [.int 0, .int 0])), (r3, .inr (9, [.int 0, .int 0])), (r4, .inr (9, [.int 0, .int 0])), (se, .inr (10, [.ref n1, .ref n2, .ref n3, .int 0, .int 0, .int 0, .int 0])), (mo, .inr (16, [.int 0, .ref gl, .ref po, .ref pi, .ref bu, .ref pa, .int 0, .int 0, .int 40, .int 0, .null, .int 0, .int 0])), (gl, .inr (4, [.int 0, .ref G.1, .int 0])), (po, .inr (4, [.int 0, .ref G.1, .int 0])), (pi, .inr (4, [.int 0, .ref G.1, .int 0])), (bu, .inl (ci, 4, .inl (fun _ => 0))), (pa, .inl (cj, 4, .inl (fun _ => 0))), (ou, .inl (cJ, 1, .inr (.inl (fun _ => 0)))), (od, .inl (cD, 1, .inr (.inr (.inr (.inl (fun _ => 0))))))]) (hS : va_S A s.heap H locs) (hl : lv_has ls 9 [(5, .int 0), (4, .ref od), (3, .ref ou), (2, .ref mo), (1, .ref xo), (0, .ref b)]) (hE : ∀ (H : Heap) (locs : List Loc) (ls : Array Slot), va_S A s.heap H locs → lv_has ls 9 [(0, .ref b), (5, .int 0)] → W p l e room_1 s m args below meth c H locs 797152 6710780 Q (F0 m 2999 ls [])) : W p l e room_1 s m args below meth c H locs 60 300 Q (F0 m 2287 ls []) := by
  have hP := hP.sub (ws' := [(xo, .inr (11, [.ref xg, .int 0, .ref xp, .int 0, .ref xq, .int 0, .ref r1, .ref r2, .ref r3, .ref r4, .ref se, .int 0, .int 0, .int 40, .int 0, .int 0])), (mo, .inr (16, [.int 0, .ref gl, .ref po, .ref pi, .ref bu, .ref pa, .int 0, .int 0, .int 40, .int 0, .null, .int 0, .int 0])), (ou, .inl (cJ, 1, .inr (.inl (fun _ => 0))))]) [0, 9, 15] rfl
  have hD := hD.sub (ws' := [(xo, .inr (11, [.ref xg, .int 0, .ref xp, .int 0, .ref xq, .int 0, .ref r1, .ref r2, .ref r3, .ref r4, .ref se, .int 0, .int 0, .int 40, .int 0, .int 0])), (mo, .inr (16, [.int 0, .ref gl, .ref po, .ref pi, .ref bu, .ref pa, .int 0, .int 0, .int 40, .int 0, .null, .int 0, .int 0])), (ou, .inl (cJ, 1, .inr (.inl (fun _ => 0))))]) [0, 9, 15] (by decide) rfl
  have hK := hK.sub (tys' := [(cJ, .long)]) [5] rfl
  refine lv_aload_n hx hb dL_law_2287 rfl (lv_at hl 4 rfl) ?_
  refine lv_aload_n hx hb dL_law_2288 rfl (lv_at hl 5 rfl) ?_
  refine lv_iload hx hb dL_law_2289 (lv_at hl 0 rfl) ?_
  refine lv_iconst (v := 1) hx hb dL_law_2291 (by decide) ?_
  refine lv_iadd hx hb dL_law_2292 ?_
  refine lv_topi (fun y_1202 ey_1202 => ?_)
  have ey_1202 : y_1202 = 1 := ey_1202.trans (by decide +kernel)
  subst ey_1202
  refine va_sld hx hb hX hbl hbA hS (vp_in_iff.mpr (by rw [hL]; decide +kernel)) dL_law_2293 ?_
  refine lv_aload_n hx hb dL_law_2294 rfl (lv_at hl 2 rfl) ?_
  have hFc := va_free (wc := [(xo, .inr (11, [.ref xg, .int 0, .ref xp, .int 0, .ref xq, .int 0, .ref r1, .ref r2, .ref r3, .ref r4, .ref se, .int 0, .int 0, .int 40, .int 0, .int 0])), (ou, .inl (cJ, 1, .inr (.inl (fun _ => 0))))]) hD hS hA [0, 2] rfl
  refine vx_calli (vx_runSX (As := [.ref xo, .int (xs (1 : Int32).toNatClampNeg), .ref ou]) (rest := []) ⟨hx, hb, hml, hown, hts⟩ (zc_L_drop l hnt D G xo xg xp xq r1 r2 r3 r4 se 0 0 ou cJ (xs (1 : Int32).toNatClampNeg) H.size) (vx_cwSW 3 hts gzL_law_L_drop_270 rfl rfl rfl (by decide +kernel) ⟨(Nat.le_of_ble_eq_true rfl), (Nat.le_of_ble_eq_true rfl)⟩) ⟨p_RW_blind, (p_RW_at (tc := [(cJ, .long)]) (wc := [(xo, .inr (11, [.ref xg, .int 0, .ref xp, .int 0, .ref xq, .int 0, .ref r1, .ref r2, .ref r3, .ref r4, .ref se, .int 0, .int 0, .int 40, .int 0, .int 0])), (ou, .inl (cJ, 1, .inr (.inl (fun _ => 0))))]) hP hK hD hS hA hT hZ [0, 2] [0] rfl rfl (by decide) rfl [.ref xo, .int (xs (1 : Int32).toNatClampNeg), .ref ou])⟩ rfl rfl hl.1 rfl (lv_room (Nat.le_of_ble_eq_true rfl)) dL_law_2295 ⟨(Nat.le_of_ble_eq_true rfl), (Nat.le_of_ble_eq_true rfl)⟩) hS (fun q _ h => hFc q h) hFc (fun q _ h => hFc q h) (fun E ce q9 u t H locs ht hvm hpx hBX hz1 hk1 hS hce hcv hcl => ?_) (fun r_1203 u t H locs ht hvm w_1204 hB hz1 hk1 hS => ?_)
  · exact (show False from hBX).elim
  · obtain ⟨u_1205, rfl⟩ : ∃ z, z = u := ⟨_, rfl⟩
    obtain ⟨hP, hD, hK⟩ := q_join (D := D) (wc := [(xo, .inr (11, [.ref xg, .int 0, .ref xp, .int 0, .ref xq, .int 0, .ref r1, .ref r2, .ref r3, .ref r4, .ref se, .int 0, .int 0, .int 40, .int 0, .int 0])), (ou, .inl (cJ, 1, .inr (.inl (fun _ => 0))))]) (wr := [(mo, .inr (16, [.int 0, .ref gl, .ref po, .ref pi, .ref bu, .ref pa, .int 0, .int 0, .int 40, .int 0, .null, .int 0, .int 0]))]) (w1 := [(ou, .inl (cJ, 1, .inr (.inl u_1205)))]) (tyr := []) (ty1 := [(cJ, .long)]) hP hD hK [0, 2] [1] [] rfl rfl (by decide) (by decide) rfl hFc hk1 ht hvm hB
    have hP : va_P D vwCl [(mo, .inr (16, [.int 0, .ref gl, .ref po, .ref pi, .ref bu, .ref pa, .int 0, .int 0, .int 40, .int 0, .null, .int 0, .int 0])), (ou, .inl (cJ, 1, .inr (.inl u_1205)))] H := hP
    have hD : va_D A [(mo, .inr (16, [.int 0, .ref gl, .ref po, .ref pi, .ref bu, .ref pa, .int 0, .int 0, .int 40, .int 0, .null, .int 0, .int 0])), (ou, .inl (cJ, 1, .inr (.inl u_1205)))] := hD
    have hK : va_K D vwCl [(cJ, .long)] s := hK
    refine W.widen (k := 61) (n := 306) (Nat.le_of_ble_eq_true rfl) (Nat.le_of_ble_eq_true rfl) ?_
    rcases w_1204 with ⟨c_1206, c_1207, rfl⟩ | ⟨c_1208, rfl⟩
    · refine lv_istore (lv' := [(6, .int 0), (5, .int 0), (4, .ref od), (3, .ref ou), (2, .ref mo), (1, .ref xo), (0, .ref b)]) hx hb dL_law_2298 hl (by decide) rfl (fun ls hl => ?_)
      refine lv_aload_n hx hb dL_law_2300 rfl (lv_at hl 4 rfl) ?_
      refine lv_aload_n hx hb dL_law_2301 rfl (lv_at hl 6 rfl) ?_
      refine lv_iload hx hb dL_law_2302 (lv_at hl 1 rfl) ?_
      refine lv_iconst (v := 1) hx hb dL_law_2304 (by decide) ?_
      refine lv_iadd hx hb dL_law_2305 ?_
      refine lv_topi (fun y_1209 ey_1209 => ?_)
      have ey_1209 : y_1209 = 1 := ey_1209.trans (by decide +kernel)
      subst ey_1209
      refine va_sld hx hb hX hbl hbA hS (vp_in_iff.mpr (by rw [hL]; decide +kernel)) dL_law_2306 ?_
      have hFc := va_free (wc := [(mo, .inr (16, [.int 0, .ref gl, .ref po, .ref pi, .ref bu, .ref pa, .int 0, .int 0, .int 40, .int 0, .null, .int 0, .int 0]))]) hD hS hA [0] rfl
      refine va_calli (va_runV (As := [.int (xs (1 : Int32).toNatClampNeg)]) (rest := []) ⟨hx, hb, hml, hown, hts⟩ (zc_X11_drop l D G mo gl po pi bu pa 0 0 0 (xs (1 : Int32).toNatClampNeg) H.size) (cwV 1 hts gzL_law_X11_drop_272 rfl rfl rfl (by decide +kernel) ⟨(Nat.le_of_ble_eq_true rfl), (Nat.le_of_ble_eq_true rfl)⟩) ⟨p_RW_blind, va_recv hK hP (ci := 16) (q0 := 0) rfl rfl, (p_RW_at (tc := []) (wc := [(mo, .inr (16, [.int 0, .ref gl, .ref po, .ref pi, .ref bu, .ref pa, .int 0, .int 0, .int 40, .int 0, .null, .int 0, .int 0]))]) hP hK hD hS hA hT hZ [0] [] rfl rfl (by decide) rfl [.ref mo, .int (xs (1 : Int32).toNatClampNeg)])⟩ rfl rfl hl.1 rfl (lv_room (Nat.le_of_ble_eq_true rfl)) dL_law_2307 ⟨(Nat.le_of_ble_eq_true rfl), (Nat.le_of_ble_eq_true rfl)⟩) hS (fun q _ h => hFc q h) hFc (fun r_1210 u t H locs ht hvm w_1211 hB hz1 hk1 hS => ?_)
      obtain ⟨u_1212, u_1213⟩ := u
      obtain ⟨hP, hD, hK⟩ := q_join (D := D) (wc := [(mo, .inr (16, [.int 0, .ref gl, .ref po, .ref pi, .ref bu, .ref pa, .int 0, .int 0, .int 40, .int 0, .null, .int 0, .int 0]))]) (wr := [(ou, .inl (cJ, 1, .inr (.inl u_1205)))]) (w1 := [(mo, .inr (16, [.int u_1212, .ref gl, .ref po, .ref pi, .ref bu, .ref pa, .int 0, .int 0, .int u_1213, .int 0, .null, .int 0, .int 0]))]) (tyr := [(cJ, .long)]) (ty1 := []) hP hD hK [0] [1] [0] rfl rfl (by decide) (by decide) rfl hFc hk1 ht hvm hB
      have hP : va_P D vwCl [(ou, .inl (cJ, 1, .inr (.inl u_1205))), (mo, .inr (16, [.int u_1212, .ref gl, .ref po, .ref pi, .ref bu, .ref pa, .int 0, .int 0, .int u_1213, .int 0, .null, .int 0, .int 0]))] H := hP
      have hD : va_D A [(ou, .inl (cJ, 1, .inr (.inl u_1205))), (mo, .inr (16, [.int u_1212, .ref gl, .ref po, .ref pi, .ref bu, .ref pa, .int 0, .int 0, .int u_1213, .int 0, .null, .int 0, .int 0]))] := hD
      have hK : va_K D vwCl [(cJ, .long)] s := hK
      rcases w_1211 with ⟨c_1214, rfl, rfl, rfl⟩ | ⟨c_1215, rfl, rfl, rfl⟩
      · refine lv_istore (lv' := [(7, .int 40), (6, .int 0), (5, .int 0), (4, .ref od), (3, .ref ou), (2, .ref mo), (1, .ref xo), (0, .ref b)]) hx hb dL_law_2310 hl (by decide) rfl (fun ls hl => ?_)
        refine lv_aload_n hx hb dL_law_2312 rfl (lv_at hl 5 rfl) ?_
        refine vp_callSi (va_runV (As := []) (rest := []) ⟨hx, hb, hml, hown, hts⟩ (zc_X11_thrown l D G mo gl po pi bu pa 0 0 0 (xs (1 : Int32).toNatClampNeg)) (cwV 0 hts gzL_law_X11_thrown_165 rfl rfl rfl (by decide +kernel) ⟨(Nat.le_of_ble_eq_true rfl), (Nat.le_of_ble_eq_true rfl)⟩) ⟨p_RO_blind, va_recv hK hP (ci := 16) (q0 := 1) rfl rfl, (p_RO_at (tc := []) (wc := [(mo, .inr (16, [.int 0, .ref gl, .ref po, .ref pi, .ref bu, .ref pa, .int 0, .int 0, .int (xs (1 : Int32).toNatClampNeg), .int 0, .null, .int 0, .int 0]))]) hP hK hT [1] [] rfl rfl [.ref mo])⟩ rfl rfl hl.1 rfl (lv_room (Nat.le_of_ble_eq_true rfl)) dL_law_2313 ⟨(Nat.le_of_ble_eq_true rfl), (Nat.le_of_ble_eq_true rfl)⟩).run (fun r_1216 w_1217 => ?_)
        obtain rfl := w_1217
        refine lv_iload hx hb dL_law_2316 (lv_at hl 1 rfl) ?_
        refine lv_icmp_eq (tgt := 2323) hx hb dL_law_2318 (by decide) (fun _ => ?_) (fun cc => absurd (by decide) cc)
        refine lv_iload hx hb dL_law_2323 (lv_at hl 1 rfl) ?_
        refine lv_if_ne (tgt := 2340) hx hb dL_law_2325 (by decide) (fun cc => absurd (by decide) cc) (fun _ => ?_)
        refine lv_aload_n hx hb dL_law_2328 rfl (lv_at hl 4 rfl) ?_
        refine lv_iconst (v := 0) hx hb dL_law_2329 (by decide) ?_
        refine va_lald (D := D) (cl := vwCl) hx hb hK hP 0 0 rfl rfl (vp_in_nI (n := 0) (N := 1) (by decide) (by decide)) dL_law_2330 ?_
        refine lv_topl (fun y_1218 ey_1218 => ?_)
        have ey_1218 : y_1218 = 40 := ey_1218.trans c_1207
        subst ey_1218
        refine lv_iload hx hb dL_law_2331 (lv_at hl 0 rfl) ?_
        refine lv_i2l (v := 40) hx hb dL_law_2333 (by decide) ?_
        refine W.lcmp hx hb dL_law_2334 ?_
        refine lv_topi (fun y_1219 ey_1219 => ?_)
        have ey_1219 : y_1219 = 0 := ey_1219.trans (by decide +kernel)
        subst ey_1219
        refine lv_if_eq (tgt := 2340) hx hb dL_law_2335 (by decide) (fun _ => ?_) (fun cc => absurd (by decide) cc)
        refine lv_goto (tgt := 2999) hx hb dL_law_2340 (by decide) ?_
        refine W.widen (k := 797152) (n := 6710780) (Nat.le_of_ble_eq_true rfl) (Nat.le_of_ble_eq_true rfl) ?_
        exact hE _ _ _ hS (lv_sub hl [7, 2] rfl)
      · exact absurd c_1206 c_1215
    · refine lv_istore (lv' := [(6, .int 1), (5, .int 0), (4, .ref od), (3, .ref ou), (2, .ref mo), (1, .ref xo), (0, .ref b)]) hx hb dL_law_2298 hl (by decide) rfl (fun ls hl => ?_)
      refine lv_aload_n hx hb dL_law_2300 rfl (lv_at hl 4 rfl) ?_
      refine lv_aload_n hx hb dL_law_2301 rfl (lv_at hl 6 rfl) ?_
      refine lv_iload hx hb dL_law_2302 (lv_at hl 1 rfl) ?_
      refine lv_iconst (v := 1) hx hb dL_law_2304 (by decide) ?_
      refine lv_iadd hx hb dL_law_2305 ?_
      refine lv_topi (fun y_1220 ey_1220 => ?_)
      have ey_1220 : y_1220 = 1 := ey_1220.trans (by decide +kernel)
      subst ey_1220
      refine va_sld hx hb hX hbl hbA hS (vp_in_iff.mpr (by rw [hL]; decide +kernel)) dL_law_2306 ?_
      have hFc := va_free (wc := [(mo, .inr (16, [.int 0, .ref gl, .ref po, .ref pi, .ref bu, .ref pa, .int 0, .int 0, .int 40, .int 0, .null, .int 0, .int 0]))]) hD hS hA [0] rfl
      refine va_calli (va_runV (As := [.int (xs (1 : Int32).toNatClampNeg)]) (rest := []) ⟨hx, hb, hml, hown, hts⟩ (zc_X11_drop l D G mo gl po pi bu pa 0 0 0 (xs (1 : Int32).toNatClampNeg) H.size) (cwV 1 hts gzL_law_X11_drop_272 rfl rfl rfl (by decide +kernel) ⟨(Nat.le_of_ble_eq_true rfl), (Nat.le_of_ble_eq_true rfl)⟩) ⟨p_RW_blind, va_recv hK hP (ci := 16) (q0 := 0) rfl rfl, (p_RW_at (tc := []) (wc := [(mo, .inr (16, [.int 0, .ref gl, .ref po, .ref pi, .ref bu, .ref pa, .int 0, .int 0, .int 40, .int 0, .null, .int 0, .int 0]))]) hP hK hD hS hA hT hZ [0] [] rfl rfl (by decide) rfl [.ref mo, .int (xs (1 : Int32).toNatClampNeg)])⟩ rfl rfl hl.1 rfl (lv_room (Nat.le_of_ble_eq_true rfl)) dL_law_2307 ⟨(Nat.le_of_ble_eq_true rfl), (Nat.le_of_ble_eq_true rfl)⟩) hS (fun q _ h => hFc q h) hFc (fun r_1221 u t H locs ht hvm w_1222 hB hz1 hk1 hS => ?_)
      obtain ⟨u_1223, u_1224⟩ := u
      obtain ⟨hP, hD, hK⟩ := q_join (D := D) (wc := [(mo, .inr (16, [.int 0, .ref gl, .ref po, .ref pi, .ref bu, .ref pa, .int 0, .int 0, .int 40, .int 0, .null, .int 0, .int 0]))]) (wr := [(ou, .inl (cJ, 1, .inr (.inl u_1205)))]) (w1 := [(mo, .inr (16, [.int u_1223, .ref gl, .ref po, .ref pi, .ref bu, .ref pa, .int 0, .int 0, .int u_1224, .int 0, .null, .int 0, .int 0]))]) (tyr := [(cJ, .long)]) (ty1 := []) hP hD hK [0] [1] [0] rfl rfl (by decide) (by decide) rfl hFc hk1 ht hvm hB
      have hP : va_P D vwCl [(ou, .inl (cJ, 1, .inr (.inl u_1205))), (mo, .inr (16, [.int u_1223, .ref gl, .ref po, .ref pi, .ref bu, .ref pa, .int 0, .int 0, .int u_1224, .int 0, .null, .int 0, .int 0]))] H := hP
      have hD : va_D A [(ou, .inl (cJ, 1, .inr (.inl u_1205))), (mo, .inr (16, [.int u_1223, .ref gl, .ref po, .ref pi, .ref bu, .ref pa, .int 0, .int 0, .int u_1224, .int 0, .null, .int 0, .int 0]))] := hD
      have hK : va_K D vwCl [(cJ, .long)] s := hK
      rcases w_1222 with ⟨c_1225, rfl, rfl, rfl⟩ | ⟨c_1226, rfl, rfl, rfl⟩
      · exact absurd c_1225 c_1208
      · refine lv_istore (lv' := [(7, .int 0), (6, .int 1), (5, .int 0), (4, .ref od), (3, .ref ou), (2, .ref mo), (1, .ref xo), (0, .ref b)]) hx hb dL_law_2310 hl (by decide) rfl (fun ls hl => ?_)
        refine lv_aload_n hx hb dL_law_2312 rfl (lv_at hl 5 rfl) ?_
        refine vp_callSi (va_runV (As := []) (rest := []) ⟨hx, hb, hml, hown, hts⟩ (zc_X11_thrown l D G mo gl po pi bu pa 1 0 0 40) (cwV 0 hts gzL_law_X11_thrown_165 rfl rfl rfl (by decide +kernel) ⟨(Nat.le_of_ble_eq_true rfl), (Nat.le_of_ble_eq_true rfl)⟩) ⟨p_RO_blind, va_recv hK hP (ci := 16) (q0 := 1) rfl rfl, (p_RO_at (tc := []) (wc := [(mo, .inr (16, [.int 1, .ref gl, .ref po, .ref pi, .ref bu, .ref pa, .int 0, .int 0, .int 40, .int 0, .null, .int 0, .int 0]))]) hP hK hT [1] [] rfl rfl [.ref mo])⟩ rfl rfl hl.1 rfl (lv_room (Nat.le_of_ble_eq_true rfl)) dL_law_2313 ⟨(Nat.le_of_ble_eq_true rfl), (Nat.le_of_ble_eq_true rfl)⟩).run (fun r_1227 w_1228 => ?_)
        obtain rfl := w_1228
        refine lv_iload hx hb dL_law_2316 (lv_at hl 1 rfl) ?_
        refine lv_icmp_eq (tgt := 2323) hx hb dL_law_2318 (by decide) (fun _ => ?_) (fun cc => absurd (by decide) cc)
        refine lv_iload hx hb dL_law_2323 (lv_at hl 1 rfl) ?_
        refine lv_if_ne (tgt := 2340) hx hb dL_law_2325 (by decide) (fun _ => ?_) (fun cc => absurd cc (by decide))
        refine lv_goto (tgt := 2999) hx hb dL_law_2340 (by decide) ?_
        refine W.widen (k := 797152) (n := 6710780) (Nat.le_of_ble_eq_true rfl) (Nat.le_of_ble_eq_true rfl) ?_
        exact hE _ _ _ hS (lv_sub hl [7, 2] rfl)
theorem dL_law_2343 : decode cL_law 2343 = .ok (.aload_n 1, 1) := by decide +kernel
theorem dL_law_2344 : decode cL_law 2344 = .ok (.invokevirtual 273, 3) := by decide +kernel
theorem dL_law_2347 : decode cL_law 2347 = .ok (.aload_n 2, 1) := by decide +kernel
theorem dL_law_2348 : decode cL_law 2348 = .ok (.invokevirtual 276, 3) := by decide +kernel
theorem dL_law_2351 : decode cL_law 2351 = .ok (.if_icmp .eq 648, 3) := by decide +kernel
set_option maxHeartbeats 4000000 in
set_option maxRecDepth 100000 in
theorem zl_33 {p : Program} {e : Env} {s : State} {m : MethodId} {below : List Frame} {meth : Method} {c : Code} {Q : State → Prop} {args : Array Value} (l : Launch) (hnt : l.stackTraces = false) (D : va_G) (G : Nat × Nat × Nat) (xo : Nat) (xg : Nat) (xp : Nat) (xq : Nat) (r1 : Nat) (r2 : Nat) (r3 : Nat) (r4 : Nat) (se : Nat) (n1 : Nat) (n2 : Nat) (n3 : Nat) (mo : Nat) (gl : Nat) (po : Nat) (pi : Nat) (bu : Nat) (pa : Nat) (ou : Nat) (od : Nat) (cg : ClassId) (cp : ClassId) (cq : ClassId) (ci : ClassId) (cj : ClassId) (cJ : ClassId) (cD : ClassId) {b L : Nat} {xs : Nat → Int32} {A : Nat → Prop} {H : Heap} {locs : List Loc} {ls : Array Slot} (hx : p.tables.exec = Jvm.exec) (hb : c.code = code) (hml : c.maxLocals = 9) (hown : s.vm.findClass RL = some m.cls) (hts : ∀ w ∈ wzL_law, w.before args s = true) (hT : FT G s) (hA : ∀ q : Nat, s.heap.size ≤ q → A q) (hZ : FZ G A s s.heap) (hX : va_X b L xs s s.heap) (hbl : b < s.heap.size) (hbA : ¬ A b) (hL : L = 5) (hK : va_K D vwCl [(cg, .object "Gatherhouse$Glass"), (cp, .object "Gatherhouse$Pot"), (cq, .object "Gatherhouse$Piece"), (ci, .int), (cj, .int), (cJ, .long), (cD, .double)] s) (hP : va_P D vwCl [(xo, .inr (11, [.ref xg, .int 0, .ref xp, .int 0, .ref xq, .int 0, .ref r1, .ref r2, .ref r3, .ref r4, .ref se, .int 0, .int 0, .int 40, .int 0, .int 0])), (xg, .inl (cg, 6, .inr (.inr (.inr (.inr (fun _ => none)))))), (xp, .inl (cp, 4, .inr (.inr (.inr (.inr (fun _ => none)))))), (xq, .inl (cq, 16, .inr (.inr (.inr (.inr (fun _ => none)))))), (r1, .inr (9, [.int 0, .int 0])), (r2, .inr (9, [.int 0, .int 0])), (r3, .inr (9, [.int 0, .int 0])), (r4, .inr (9, [.int 0, .int 0])), (se, .inr (10, [.ref n1, .ref n2, .ref n3, .int 0, .int 0, .int 0, .int 0])), (mo, .inr (16, [.int 0, .ref gl, .ref po, .ref pi, .ref bu, .ref pa, .int 0, .int 0, .int 40, .int 0, .null, .int 0, .int 0])), (gl, .inr (4, [.int 0, .ref G.1, .int 0])), (po, .inr (4, [.int 0, .ref G.1, .int 0])), (pi, .inr (4, [.int 0, .ref G.1, .int 0])), (bu, .inl (ci, 4, .inl (fun _ => 0))), (pa, .inl (cj, 4, .inl (fun _ => 0))), (ou, .inl (cJ, 1, .inr (.inl (fun _ => 0)))), (od, .inl (cD, 1, .inr (.inr (.inr (.inl (fun _ => 0))))))] H) (hD : va_D A [(xo, .inr (11, [.ref xg, .int 0, .ref xp, .int 0, .ref xq, .int 0, .ref r1, .ref r2, .ref r3, .ref r4, .ref se, .int 0, .int 0, .int 40, .int 0, .int 0])), (xg, .inl (cg, 6, .inr (.inr (.inr (.inr (fun _ => none)))))), (xp, .inl (cp, 4, .inr (.inr (.inr (.inr (fun _ => none)))))), (xq, .inl (cq, 16, .inr (.inr (.inr (.inr (fun _ => none)))))), (r1, .inr (9, [.int 0, .int 0])), (r2, .inr (9, [.int 0, .int 0])), (r3, .inr (9, [.int 0, .int 0])), (r4, .inr (9, [.int 0, .int 0])), (se, .inr (10, [.ref n1, .ref n2, .ref n3, .int 0, .int 0, .int 0, .int 0])), (mo, .inr (16, [.int 0, .ref gl, .ref po, .ref pi, .ref bu, .ref pa, .int 0, .int 0, .int 40, .int 0, .null, .int 0, .int 0])), (gl, .inr (4, [.int 0, .ref G.1, .int 0])), (po, .inr (4, [.int 0, .ref G.1, .int 0])), (pi, .inr (4, [.int 0, .ref G.1, .int 0])), (bu, .inl (ci, 4, .inl (fun _ => 0))), (pa, .inl (cj, 4, .inl (fun _ => 0))), (ou, .inl (cJ, 1, .inr (.inl (fun _ => 0)))), (od, .inl (cD, 1, .inr (.inr (.inr (.inl (fun _ => 0))))))]) (hS : va_S A s.heap H locs) (hl : lv_has ls 9 [(5, .int 0), (4, .ref od), (3, .ref ou), (2, .ref mo), (1, .ref xo), (0, .ref b)]) (hE : ∀ (H : Heap) (locs : List Loc) (ls : Array Slot), va_S A s.heap H locs → lv_has ls 9 [(0, .ref b), (5, .int 0)] → W p l e room_1 s m args below meth c H locs 797152 6710780 Q (F0 m 2999 ls [])) : W p l e room_1 s m args below meth c H locs 60 300 Q (F0 m 2343 ls []) := by
  have hP := hP.sub (ws' := [(xo, .inr (11, [.ref xg, .int 0, .ref xp, .int 0, .ref xq, .int 0, .ref r1, .ref r2, .ref r3, .ref r4, .ref se, .int 0, .int 0, .int 40, .int 0, .int 0])), (xq, .inl (cq, 16, .inr (.inr (.inr (.inr (fun _ => none)))))), (mo, .inr (16, [.int 0, .ref gl, .ref po, .ref pi, .ref bu, .ref pa, .int 0, .int 0, .int 40, .int 0, .null, .int 0, .int 0])), (pi, .inr (4, [.int 0, .ref G.1, .int 0]))]) [0, 3, 9, 12] rfl
  have hD := hD.sub (ws' := [(xo, .inr (11, [.ref xg, .int 0, .ref xp, .int 0, .ref xq, .int 0, .ref r1, .ref r2, .ref r3, .ref r4, .ref se, .int 0, .int 0, .int 40, .int 0, .int 0])), (xq, .inl (cq, 16, .inr (.inr (.inr (.inr (fun _ => none)))))), (mo, .inr (16, [.int 0, .ref gl, .ref po, .ref pi, .ref bu, .ref pa, .int 0, .int 0, .int 40, .int 0, .null, .int 0, .int 0])), (pi, .inr (4, [.int 0, .ref G.1, .int 0]))]) [0, 3, 9, 12] (by decide) rfl
  have hK := hK.sub (tys' := [(cq, .object "Gatherhouse$Piece")]) [2] rfl
  refine lv_aload_n hx hb dL_law_2343 rfl (lv_at hl 4 rfl) ?_
  refine vp_callSi (va_runV (As := []) (rest := []) ⟨hx, hb, hml, hown, hts⟩ (zc_X6_lehr l D G xo xg xp xq r1 r2 r3 r4 se 0 0 cq) (cwV 0 hts gzL_law_X6_lehr_273 rfl rfl rfl (by decide +kernel) ⟨(Nat.le_of_ble_eq_true rfl), (Nat.le_of_ble_eq_true rfl)⟩) ⟨p_RO_blind, va_recv hK hP (ci := 11) (q0 := 0) rfl rfl, (p_RO_at (tc := [(cq, .object "Gatherhouse$Piece")]) (wc := [(xo, .inr (11, [.ref xg, .int 0, .ref xp, .int 0, .ref xq, .int 0, .ref r1, .ref r2, .ref r3, .ref r4, .ref se, .int 0, .int 0, .int 40, .int 0, .int 0])), (xq, .inl (cq, 16, .inr (.inr (.inr (.inr (fun _ => none))))))]) hP hK hT [0, 1] [0] rfl rfl [.ref xo])⟩ rfl rfl hl.1 rfl (lv_room (Nat.le_of_ble_eq_true rfl)) dL_law_2344 ⟨(Nat.le_of_ble_eq_true rfl), (Nat.le_of_ble_eq_true rfl)⟩).run (fun r_1229 w_1230 => ?_)
  obtain rfl := w_1230
  refine lv_aload_n hx hb dL_law_2347 rfl (lv_at hl 3 rfl) ?_
  have hFc := va_free (wc := [(mo, .inr (16, [.int 0, .ref gl, .ref po, .ref pi, .ref bu, .ref pa, .int 0, .int 0, .int 40, .int 0, .null, .int 0, .int 0])), (pi, .inr (4, [.int 0, .ref G.1, .int 0]))]) hD hS hA [2, 3] rfl
  refine va_calli (va_runV (As := []) (rest := [.int 0]) ⟨hx, hb, hml, hown, hts⟩ (zc_X11_lehr l D G mo gl po pi bu pa 0 0 0 H.size) (cwV 0 hts gzL_law_X11_lehr_276 rfl rfl rfl (by decide +kernel) ⟨(Nat.le_of_ble_eq_true rfl), (Nat.le_of_ble_eq_true rfl)⟩) ⟨p_RW_blind, va_recv hK hP (ci := 16) (q0 := 2) rfl rfl, (p_RW_at (tc := []) (wc := [(mo, .inr (16, [.int 0, .ref gl, .ref po, .ref pi, .ref bu, .ref pa, .int 0, .int 0, .int 40, .int 0, .null, .int 0, .int 0])), (pi, .inr (4, [.int 0, .ref G.1, .int 0]))]) hP hK hD hS hA hT hZ [2, 3] [] rfl rfl (by decide) rfl [.ref mo])⟩ rfl rfl hl.1 rfl (lv_room (Nat.le_of_ble_eq_true rfl)) dL_law_2348 ⟨(Nat.le_of_ble_eq_true rfl), (Nat.le_of_ble_eq_true rfl)⟩) hS (fun q _ h => hFc q h) hFc (fun r_1231 u t H locs ht hvm w_1232 hB hz1 hk1 hS => ?_)
  obtain ⟨hP, hD, hK⟩ := q_join (D := D) (wc := [(mo, .inr (16, [.int 0, .ref gl, .ref po, .ref pi, .ref bu, .ref pa, .int 0, .int 0, .int 40, .int 0, .null, .int 0, .int 0])), (pi, .inr (4, [.int 0, .ref G.1, .int 0]))]) (wr := [(xo, .inr (11, [.ref xg, .int 0, .ref xp, .int 0, .ref xq, .int 0, .ref r1, .ref r2, .ref r3, .ref r4, .ref se, .int 0, .int 0, .int 40, .int 0, .int 0])), (xq, .inl (cq, 16, .inr (.inr (.inr (.inr (fun _ => none))))))]) (w1 := [(mo, .inr (16, [.int 0, .ref gl, .ref po, .ref pi, .ref bu, .ref pa, .int 0, .int 0, .int 40, .int 0, .null, .int 0, .int 0])), (pi, .inr (4, [.int 0, .ref G.1, .int 0]))]) (tyr := [(cq, .object "Gatherhouse$Piece")]) (ty1 := []) hP hD hK [2, 3] [0, 1] [0] rfl rfl (by decide) (by decide) rfl hFc hk1 ht hvm hB
  have hP : va_P D vwCl [(xo, .inr (11, [.ref xg, .int 0, .ref xp, .int 0, .ref xq, .int 0, .ref r1, .ref r2, .ref r3, .ref r4, .ref se, .int 0, .int 0, .int 40, .int 0, .int 0])), (xq, .inl (cq, 16, .inr (.inr (.inr (.inr (fun _ => none)))))), (mo, .inr (16, [.int 0, .ref gl, .ref po, .ref pi, .ref bu, .ref pa, .int 0, .int 0, .int 40, .int 0, .null, .int 0, .int 0])), (pi, .inr (4, [.int 0, .ref G.1, .int 0]))] H := hP
  have hD : va_D A [(xo, .inr (11, [.ref xg, .int 0, .ref xp, .int 0, .ref xq, .int 0, .ref r1, .ref r2, .ref r3, .ref r4, .ref se, .int 0, .int 0, .int 40, .int 0, .int 0])), (xq, .inl (cq, 16, .inr (.inr (.inr (.inr (fun _ => none)))))), (mo, .inr (16, [.int 0, .ref gl, .ref po, .ref pi, .ref bu, .ref pa, .int 0, .int 0, .int 40, .int 0, .null, .int 0, .int 0])), (pi, .inr (4, [.int 0, .ref G.1, .int 0]))] := hD
  have hK : va_K D vwCl [(cq, .object "Gatherhouse$Piece")] s := hK
  refine W.widen (k := 61) (n := 304) (Nat.le_of_ble_eq_true rfl) (Nat.le_of_ble_eq_true rfl) ?_
  obtain rfl := w_1232
  refine lv_icmp_eq (tgt := 2999) hx hb dL_law_2351 (by decide) (fun _ => ?_) (fun cc => absurd (by decide) cc)
  refine W.widen (k := 797152) (n := 6710780) (Nat.le_of_ble_eq_true rfl) (Nat.le_of_ble_eq_true rfl) ?_
  exact hE _ _ _ hS (lv_sub hl [5, 0] rfl)
theorem dL_law_2356 : decode cL_law 2356 = .ok (.aload_n 1, 1) := by decide +kernel
theorem dL_law_2357 : decode cL_law 2357 = .ok (.aload_n 0, 1) := by decide +kernel
theorem dL_law_2358 : decode cL_law 2358 = .ok (.iload 5, 2) := by decide +kernel
theorem dL_law_2360 : decode cL_law 2360 = .ok (.iconst 1, 1) := by decide +kernel
theorem dL_law_2361 : decode cL_law 2361 = .ok (.iadd, 1) := by decide +kernel
theorem dL_law_2362 : decode cL_law 2362 = .ok (.iaload, 1) := by decide +kernel
theorem dL_law_2363 : decode cL_law 2363 = .ok (.aload_n 3, 1) := by decide +kernel
theorem dL_law_2364 : decode cL_law 2364 = .ok (.invokestatic 277, 3) := by decide +kernel
theorem dL_law_2367 : decode cL_law 2367 = .ok (.istore 6, 2) := by decide +kernel
theorem dL_law_2369 : decode cL_law 2369 = .ok (.aload_n 2, 1) := by decide +kernel
theorem dL_law_2370 : decode cL_law 2370 = .ok (.aload_n 0, 1) := by decide +kernel
theorem dL_law_2371 : decode cL_law 2371 = .ok (.iload 5, 2) := by decide +kernel
theorem dL_law_2373 : decode cL_law 2373 = .ok (.iconst 1, 1) := by decide +kernel
theorem dL_law_2374 : decode cL_law 2374 = .ok (.iadd, 1) := by decide +kernel
theorem dL_law_2375 : decode cL_law 2375 = .ok (.iaload, 1) := by decide +kernel
theorem dL_law_2376 : decode cL_law 2376 = .ok (.invokevirtual 279, 3) := by decide +kernel
theorem dL_law_2379 : decode cL_law 2379 = .ok (.istore 7, 2) := by decide +kernel
theorem dL_law_2381 : decode cL_law 2381 = .ok (.aload_n 2, 1) := by decide +kernel
theorem dL_law_2382 : decode cL_law 2382 = .ok (.invokevirtual 165, 3) := by decide +kernel
theorem dL_law_2385 : decode cL_law 2385 = .ok (.iload 6, 2) := by decide +kernel
theorem dL_law_2387 : decode cL_law 2387 = .ok (.if_icmp .eq 5, 3) := by decide +kernel
theorem dL_law_2392 : decode cL_law 2392 = .ok (.iload 6, 2) := by decide +kernel
theorem dL_law_2394 : decode cL_law 2394 = .ok (.ifCond .ne 15, 3) := by decide +kernel
theorem dL_law_2397 : decode cL_law 2397 = .ok (.aload_n 3, 1) := by decide +kernel
theorem dL_law_2398 : decode cL_law 2398 = .ok (.iconst 0, 1) := by decide +kernel
theorem dL_law_2399 : decode cL_law 2399 = .ok (.laload, 1) := by decide +kernel
theorem dL_law_2400 : decode cL_law 2400 = .ok (.iload 7, 2) := by decide +kernel
theorem dL_law_2402 : decode cL_law 2402 = .ok (.i2l, 1) := by decide +kernel
theorem dL_law_2403 : decode cL_law 2403 = .ok (.lcmp, 1) := by decide +kernel
theorem dL_law_2404 : decode cL_law 2404 = .ok (.ifCond .eq 5, 3) := by decide +kernel
theorem dL_law_2409 : decode cL_law 2409 = .ok (.goto 590, 3) := by decide +kernel
set_option maxHeartbeats 4000000 in
set_option maxRecDepth 100000 in
theorem zl_34 {p : Program} {e : Env} {s : State} {m : MethodId} {below : List Frame} {meth : Method} {c : Code} {Q : State → Prop} {args : Array Value} (l : Launch) (hnt : l.stackTraces = false) (D : va_G) (G : Nat × Nat × Nat) (xo : Nat) (xg : Nat) (xp : Nat) (xq : Nat) (r1 : Nat) (r2 : Nat) (r3 : Nat) (r4 : Nat) (se : Nat) (n1 : Nat) (n2 : Nat) (n3 : Nat) (mo : Nat) (gl : Nat) (po : Nat) (pi : Nat) (bu : Nat) (pa : Nat) (ou : Nat) (od : Nat) (cg : ClassId) (cp : ClassId) (cq : ClassId) (ci : ClassId) (cj : ClassId) (cJ : ClassId) (cD : ClassId) {b L : Nat} {xs : Nat → Int32} {A : Nat → Prop} {H : Heap} {locs : List Loc} {ls : Array Slot} (hx : p.tables.exec = Jvm.exec) (hb : c.code = code) (hml : c.maxLocals = 9) (hown : s.vm.findClass RL = some m.cls) (hts : ∀ w ∈ wzL_law, w.before args s = true) (hT : FT G s) (hA : ∀ q : Nat, s.heap.size ≤ q → A q) (hZ : FZ G A s s.heap) (hX : va_X b L xs s s.heap) (hbl : b < s.heap.size) (hbA : ¬ A b) (hL : L = 5) (hK : va_K D vwCl [(cg, .object "Gatherhouse$Glass"), (cp, .object "Gatherhouse$Pot"), (cq, .object "Gatherhouse$Piece"), (ci, .int), (cj, .int), (cJ, .long), (cD, .double)] s) (hP : va_P D vwCl [(xo, .inr (11, [.ref xg, .int 0, .ref xp, .int 0, .ref xq, .int 0, .ref r1, .ref r2, .ref r3, .ref r4, .ref se, .int 0, .int 0, .int 40, .int 0, .int 0])), (xg, .inl (cg, 6, .inr (.inr (.inr (.inr (fun _ => none)))))), (xp, .inl (cp, 4, .inr (.inr (.inr (.inr (fun _ => none)))))), (xq, .inl (cq, 16, .inr (.inr (.inr (.inr (fun _ => none)))))), (r1, .inr (9, [.int 0, .int 0])), (r2, .inr (9, [.int 0, .int 0])), (r3, .inr (9, [.int 0, .int 0])), (r4, .inr (9, [.int 0, .int 0])), (se, .inr (10, [.ref n1, .ref n2, .ref n3, .int 0, .int 0, .int 0, .int 0])), (mo, .inr (16, [.int 0, .ref gl, .ref po, .ref pi, .ref bu, .ref pa, .int 0, .int 0, .int 40, .int 0, .null, .int 0, .int 0])), (gl, .inr (4, [.int 0, .ref G.1, .int 0])), (po, .inr (4, [.int 0, .ref G.1, .int 0])), (pi, .inr (4, [.int 0, .ref G.1, .int 0])), (bu, .inl (ci, 4, .inl (fun _ => 0))), (pa, .inl (cj, 4, .inl (fun _ => 0))), (ou, .inl (cJ, 1, .inr (.inl (fun _ => 0)))), (od, .inl (cD, 1, .inr (.inr (.inr (.inl (fun _ => 0))))))] H) (hD : va_D A [(xo, .inr (11, [.ref xg, .int 0, .ref xp, .int 0, .ref xq, .int 0, .ref r1, .ref r2, .ref r3, .ref r4, .ref se, .int 0, .int 0, .int 40, .int 0, .int 0])), (xg, .inl (cg, 6, .inr (.inr (.inr (.inr (fun _ => none)))))), (xp, .inl (cp, 4, .inr (.inr (.inr (.inr (fun _ => none)))))), (xq, .inl (cq, 16, .inr (.inr (.inr (.inr (fun _ => none)))))), (r1, .inr (9, [.int 0, .int 0])), (r2, .inr (9, [.int 0, .int 0])), (r3, .inr (9, [.int 0, .int 0])), (r4, .inr (9, [.int 0, .int 0])), (se, .inr (10, [.ref n1, .ref n2, .ref n3, .int 0, .int 0, .int 0, .int 0])), (mo, .inr (16, [.int 0, .ref gl, .ref po, .ref pi, .ref bu, .ref pa, .int 0, .int 0, .int 40, .int 0, .null, .int 0, .int 0])), (gl, .inr (4, [.int 0, .ref G.1, .int 0])), (po, .inr (4, [.int 0, .ref G.1, .int 0])), (pi, .inr (4, [.int 0, .ref G.1, .int 0])), (bu, .inl (ci, 4, .inl (fun _ => 0))), (pa, .inl (cj, 4, .inl (fun _ => 0))), (ou, .inl (cJ, 1, .inr (.inl (fun _ => 0)))), (od, .inl (cD, 1, .inr (.inr (.inr (.inl (fun _ => 0))))))]) (hS : va_S A s.heap H locs) (hl : lv_has ls 9 [(5, .int 0), (4, .ref od), (3, .ref ou), (2, .ref mo), (1, .ref xo), (0, .ref b)]) (hE : ∀ (H : Heap) (locs : List Loc) (ls : Array Slot), va_S A s.heap H locs → lv_has ls 9 [(0, .ref b), (5, .int 0)] → W p l e room_1 s m args below meth c H locs 797152 6710780 Q (F0 m 2999 ls [])) : W p l e room_1 s m args below meth c H locs 60 300 Q (F0 m 2356 ls []) := by
  have hP := hP.sub (ws' := [(xo, .inr (11, [.ref xg, .int 0, .ref xp, .int 0, .ref xq, .int 0, .ref r1, .ref r2, .ref r3, .ref r4, .ref se, .int 0, .int 0, .int 40, .int 0, .int 0])), (xp, .inl (cp, 4, .inr (.inr (.inr (.inr (fun _ => none)))))), (xq, .inl (cq, 16, .inr (.inr (.inr (.inr (fun _ => none)))))), (r1, .inr (9, [.int 0, .int 0])), (r2, .inr (9, [.int 0, .int 0])), (r3, .inr (9, [.int 0, .int 0])), (r4, .inr (9, [.int 0, .int 0])), (mo, .inr (16, [.int 0, .ref gl, .ref po, .ref pi, .ref bu, .ref pa, .int 0, .int 0, .int 40, .int 0, .null, .int 0, .int 0])), (po, .inr (4, [.int 0, .ref G.1, .int 0])), (pi, .inr (4, [.int 0, .ref G.1, .int 0])), (bu, .inl (ci, 4, .inl (fun _ => 0))), (ou, .inl (cJ, 1, .inr (.inl (fun _ => 0))))]) [0, 2, 3, 4, 5, 6, 7, 9, 11, 12, 13, 15] rfl
  have hD := hD.sub (ws' := [(xo, .inr (11, [.ref xg, .int 0, .ref xp, .int 0, .ref xq, .int 0, .ref r1, .ref r2, .ref r3, .ref r4, .ref se, .int 0, .int 0, .int 40, .int 0, .int 0])), (xp, .inl (cp, 4, .inr (.inr (.inr (.inr (fun _ => none)))))), (xq, .inl (cq, 16, .inr (.inr (.inr (.inr (fun _ => none)))))), (r1, .inr (9, [.int 0, .int 0])), (r2, .inr (9, [.int 0, .int 0])), (r3, .inr (9, [.int 0, .int 0])), (r4, .inr (9, [.int 0, .int 0])), (mo, .inr (16, [.int 0, .ref gl, .ref po, .ref pi, .ref bu, .ref pa, .int 0, .int 0, .int 40, .int 0, .null, .int 0, .int 0])), (po, .inr (4, [.int 0, .ref G.1, .int 0])), (pi, .inr (4, [.int 0, .ref G.1, .int 0])), (bu, .inl (ci, 4, .inl (fun _ => 0))), (ou, .inl (cJ, 1, .inr (.inl (fun _ => 0))))]) [0, 2, 3, 4, 5, 6, 7, 9, 11, 12, 13, 15] (by decide) rfl
  have hK := hK.sub (tys' := [(cp, .object "Gatherhouse$Pot"), (cq, .object "Gatherhouse$Piece"), (ci, .int), (cJ, .long)]) [1, 2, 3, 5] rfl
  refine lv_aload_n hx hb dL_law_2356 rfl (lv_at hl 4 rfl) ?_
  refine lv_aload_n hx hb dL_law_2357 rfl (lv_at hl 5 rfl) ?_
  refine lv_iload hx hb dL_law_2358 (lv_at hl 0 rfl) ?_
  refine lv_iconst (v := 1) hx hb dL_law_2360 (by decide) ?_
  refine lv_iadd hx hb dL_law_2361 ?_
  refine lv_topi (fun y_1233 ey_1233 => ?_)
  have ey_1233 : y_1233 = 1 := ey_1233.trans (by decide +kernel)
  subst ey_1233
  refine va_sld hx hb hX hbl hbA hS (vp_in_iff.mpr (by rw [hL]; decide +kernel)) dL_law_2362 ?_
  refine lv_aload_n hx hb dL_law_2363 rfl (lv_at hl 2 rfl) ?_
  have hFc := va_free (wc := [(xo, .inr (11, [.ref xg, .int 0, .ref xp, .int 0, .ref xq, .int 0, .ref r1, .ref r2, .ref r3, .ref r4, .ref se, .int 0, .int 0, .int 40, .int 0, .int 0])), (xp, .inl (cp, 4, .inr (.inr (.inr (.inr (fun _ => none)))))), (xq, .inl (cq, 16, .inr (.inr (.inr (.inr (fun _ => none)))))), (r1, .inr (9, [.int 0, .int 0])), (r2, .inr (9, [.int 0, .int 0])), (r3, .inr (9, [.int 0, .int 0])), (r4, .inr (9, [.int 0, .int 0])), (ou, .inl (cJ, 1, .inr (.inl (fun _ => 0))))]) hD hS hA [0, 1, 2, 3, 4, 5, 6, 11] rfl
  refine vx_calli (vx_runSX (As := [.ref xo, .int (xs (1 : Int32).toNatClampNeg), .ref ou]) (rest := []) ⟨hx, hb, hml, hown, hts⟩ (zc_L_days l hnt D G xo xg xp xq r1 r2 r3 r4 se 0 0 cp cq ou cJ (xs (1 : Int32).toNatClampNeg) H.size) (vx_cwSW 3 hts gzL_law_L_days_277 rfl rfl rfl (by decide +kernel) ⟨(Nat.le_of_ble_eq_true rfl), (Nat.le_of_ble_eq_true rfl)⟩) ⟨p_RW_blind, (p_RW_at (tc := [(cp, .object "Gatherhouse$Pot"), (cq, .object "Gatherhouse$Piece"), (cJ, .long)]) (wc := [(xo, .inr (11, [.ref xg, .int 0, .ref xp, .int 0, .ref xq, .int 0, .ref r1, .ref r2, .ref r3, .ref r4, .ref se, .int 0, .int 0, .int 40, .int 0, .int 0])), (xp, .inl (cp, 4, .inr (.inr (.inr (.inr (fun _ => none)))))), (xq, .inl (cq, 16, .inr (.inr (.inr (.inr (fun _ => none)))))), (r1, .inr (9, [.int 0, .int 0])), (r2, .inr (9, [.int 0, .int 0])), (r3, .inr (9, [.int 0, .int 0])), (r4, .inr (9, [.int 0, .int 0])), (ou, .inl (cJ, 1, .inr (.inl (fun _ => 0))))]) hP hK hD hS hA hT hZ [0, 1, 2, 3, 4, 5, 6, 11] [0, 1, 3] rfl rfl (by decide) rfl [.ref xo, .int (xs (1 : Int32).toNatClampNeg), .ref ou])⟩ rfl rfl hl.1 rfl (lv_room (Nat.le_of_ble_eq_true rfl)) dL_law_2364 ⟨(Nat.le_of_ble_eq_true rfl), (Nat.le_of_ble_eq_true rfl)⟩) hS (fun q _ h => hFc q h) hFc (fun q _ h => hFc q h) (fun E ce q9 u t H locs ht hvm hpx hBX hz1 hk1 hS hce hcv hcl => ?_) (fun r_1234 u t H locs ht hvm w_1235 hB hz1 hk1 hS => ?_)
  · exact (show False from hBX).elim
  · obtain ⟨u_1236, rfl⟩ : ∃ z, z = u := ⟨_, rfl⟩
    obtain ⟨hP, hD, hK⟩ := q_join (D := D) (wc := [(xo, .inr (11, [.ref xg, .int 0, .ref xp, .int 0, .ref xq, .int 0, .ref r1, .ref r2, .ref r3, .ref r4, .ref se, .int 0, .int 0, .int 40, .int 0, .int 0])), (xp, .inl (cp, 4, .inr (.inr (.inr (.inr (fun _ => none)))))), (xq, .inl (cq, 16, .inr (.inr (.inr (.inr (fun _ => none)))))), (r1, .inr (9, [.int 0, .int 0])), (r2, .inr (9, [.int 0, .int 0])), (r3, .inr (9, [.int 0, .int 0])), (r4, .inr (9, [.int 0, .int 0])), (ou, .inl (cJ, 1, .inr (.inl (fun _ => 0))))]) (wr := [(mo, .inr (16, [.int 0, .ref gl, .ref po, .ref pi, .ref bu, .ref pa, .int 0, .int 0, .int 40, .int 0, .null, .int 0, .int 0])), (po, .inr (4, [.int 0, .ref G.1, .int 0])), (pi, .inr (4, [.int 0, .ref G.1, .int 0])), (bu, .inl (ci, 4, .inl (fun _ => 0)))]) (w1 := [(ou, .inl (cJ, 1, .inr (.inl u_1236)))]) (tyr := [(cp, .object "Gatherhouse$Pot"), (cq, .object "Gatherhouse$Piece"), (ci, .int)]) (ty1 := [(cJ, .long)]) hP hD hK [0, 1, 2, 3, 4, 5, 6, 11] [7, 8, 9, 10] [0, 1, 2] rfl rfl (by decide) (by decide) rfl hFc hk1 ht hvm hB
    have hP : va_P D vwCl [(mo, .inr (16, [.int 0, .ref gl, .ref po, .ref pi, .ref bu, .ref pa, .int 0, .int 0, .int 40, .int 0, .null, .int 0, .int 0])), (po, .inr (4, [.int 0, .ref G.1, .int 0])), (pi, .inr (4, [.int 0, .ref G.1, .int 0])), (bu, .inl (ci, 4, .inl (fun _ => 0))), (ou, .inl (cJ, 1, .inr (.inl u_1236)))] H := hP
    have hD : va_D A [(mo, .inr (16, [.int 0, .ref gl, .ref po, .ref pi, .ref bu, .ref pa, .int 0, .int 0, .int 40, .int 0, .null, .int 0, .int 0])), (po, .inr (4, [.int 0, .ref G.1, .int 0])), (pi, .inr (4, [.int 0, .ref G.1, .int 0])), (bu, .inl (ci, 4, .inl (fun _ => 0))), (ou, .inl (cJ, 1, .inr (.inl u_1236)))] := hD
    have hK : va_K D vwCl [(cp, .object "Gatherhouse$Pot"), (cq, .object "Gatherhouse$Piece"), (ci, .int), (cJ, .long)] s := hK
    refine W.widen (k := 61) (n := 306) (Nat.le_of_ble_eq_true rfl) (Nat.le_of_ble_eq_true rfl) ?_
    rcases w_1235 with ⟨c_1237, c_1238, rfl⟩ | ⟨c_1239, rfl⟩
    · refine lv_istore (lv' := [(6, .int 0), (5, .int 0), (4, .ref od), (3, .ref ou), (2, .ref mo), (1, .ref xo), (0, .ref b)]) hx hb dL_law_2367 hl (by decide) rfl (fun ls hl => ?_)
      refine lv_aload_n hx hb dL_law_2369 rfl (lv_at hl 4 rfl) ?_
      refine lv_aload_n hx hb dL_law_2370 rfl (lv_at hl 6 rfl) ?_
      refine lv_iload hx hb dL_law_2371 (lv_at hl 1 rfl) ?_
      refine lv_iconst (v := 1) hx hb dL_law_2373 (by decide) ?_
      refine lv_iadd hx hb dL_law_2374 ?_
      refine lv_topi (fun y_1240 ey_1240 => ?_)
      have ey_1240 : y_1240 = 1 := ey_1240.trans (by decide +kernel)
      subst ey_1240
      refine va_sld hx hb hX hbl hbA hS (vp_in_iff.mpr (by rw [hL]; decide +kernel)) dL_law_2375 ?_
      have hFc := va_free (wc := [(mo, .inr (16, [.int 0, .ref gl, .ref po, .ref pi, .ref bu, .ref pa, .int 0, .int 0, .int 40, .int 0, .null, .int 0, .int 0])), (po, .inr (4, [.int 0, .ref G.1, .int 0])), (pi, .inr (4, [.int 0, .ref G.1, .int 0])), (bu, .inl (ci, 4, .inl (fun _ => 0)))]) hD hS hA [0, 1, 2, 3] rfl
      refine va_calli (va_runV (As := [.int (xs (1 : Int32).toNatClampNeg)]) (rest := []) ⟨hx, hb, hml, hown, hts⟩ (zc_X11_days l D G mo gl po pi bu pa 0 0 0 ci (xs (1 : Int32).toNatClampNeg) H.size) (cwV 1 hts gzL_law_X11_days_279 rfl rfl rfl (by decide +kernel) ⟨(Nat.le_of_ble_eq_true rfl), (Nat.le_of_ble_eq_true rfl)⟩) ⟨p_RW_blind, va_recv hK hP (ci := 16) (q0 := 0) rfl rfl, (p_RW_at (tc := [(ci, .int)]) (wc := [(mo, .inr (16, [.int 0, .ref gl, .ref po, .ref pi, .ref bu, .ref pa, .int 0, .int 0, .int 40, .int 0, .null, .int 0, .int 0])), (po, .inr (4, [.int 0, .ref G.1, .int 0])), (pi, .inr (4, [.int 0, .ref G.1, .int 0])), (bu, .inl (ci, 4, .inl (fun _ => 0)))]) hP hK hD hS hA hT hZ [0, 1, 2, 3] [2] rfl rfl (by decide) rfl [.ref mo, .int (xs (1 : Int32).toNatClampNeg)])⟩ rfl rfl hl.1 rfl (lv_room (Nat.le_of_ble_eq_true rfl)) dL_law_2376 ⟨(Nat.le_of_ble_eq_true rfl), (Nat.le_of_ble_eq_true rfl)⟩) hS (fun q _ h => hFc q h) hFc (fun r_1241 u t H locs ht hvm w_1242 hB hz1 hk1 hS => ?_)
      obtain ⟨u_1243, u_1244⟩ := u
      obtain ⟨hP, hD, hK⟩ := q_join (D := D) (wc := [(mo, .inr (16, [.int 0, .ref gl, .ref po, .ref pi, .ref bu, .ref pa, .int 0, .int 0, .int 40, .int 0, .null, .int 0, .int 0])), (po, .inr (4, [.int 0, .ref G.1, .int 0])), (pi, .inr (4, [.int 0, .ref G.1, .int 0])), (bu, .inl (ci, 4, .inl (fun _ => 0)))]) (wr := [(ou, .inl (cJ, 1, .inr (.inl u_1236)))]) (w1 := [(mo, .inr (16, [.int u_1243, .ref gl, .ref po, .ref pi, .ref bu, .ref pa, .int 0, .int u_1244, .int 40, .int 0, .null, .int 0, .int 0]))]) (tyr := [(cp, .object "Gatherhouse$Pot"), (cq, .object "Gatherhouse$Piece"), (cJ, .long)]) (ty1 := [(ci, .int)]) hP hD hK [0, 1, 2, 3] [4] [0, 1, 3] rfl rfl (by decide) (by decide) rfl hFc hk1 ht hvm hB
      have hP : va_P D vwCl [(ou, .inl (cJ, 1, .inr (.inl u_1236))), (mo, .inr (16, [.int u_1243, .ref gl, .ref po, .ref pi, .ref bu, .ref pa, .int 0, .int u_1244, .int 40, .int 0, .null, .int 0, .int 0]))] H := hP
      have hD : va_D A [(ou, .inl (cJ, 1, .inr (.inl u_1236))), (mo, .inr (16, [.int u_1243, .ref gl, .ref po, .ref pi, .ref bu, .ref pa, .int 0, .int u_1244, .int 40, .int 0, .null, .int 0, .int 0]))] := hD
      have hK : va_K D vwCl [(cp, .object "Gatherhouse$Pot"), (cq, .object "Gatherhouse$Piece"), (cJ, .long), (ci, .int)] s := hK
      refine W.widen (k := 4382) (n := 17590) (Nat.le_of_ble_eq_true rfl) (Nat.le_of_ble_eq_true rfl) ?_
      rcases w_1242 with ⟨c_1245, rfl, rfl⟩ | ⟨c_1246, rfl, rfl⟩
      · refine lv_istore (lv' := [(7, .int 0), (6, .int 0), (5, .int 0), (4, .ref od), (3, .ref ou), (2, .ref mo), (1, .ref xo), (0, .ref b)]) hx hb dL_law_2379 hl (by decide) rfl (fun ls hl => ?_)
        refine lv_aload_n hx hb dL_law_2381 rfl (lv_at hl 5 rfl) ?_
        refine vp_callSi (va_runV (As := []) (rest := []) ⟨hx, hb, hml, hown, hts⟩ (zc_X11_thrown l D G mo gl po pi bu pa 0 u_1244 0 40) (cwV 0 hts gzL_law_X11_thrown_165 rfl rfl rfl (by decide +kernel) ⟨(Nat.le_of_ble_eq_true rfl), (Nat.le_of_ble_eq_true rfl)⟩) ⟨p_RO_blind, va_recv hK hP (ci := 16) (q0 := 1) rfl rfl, (p_RO_at (tc := []) (wc := [(mo, .inr (16, [.int 0, .ref gl, .ref po, .ref pi, .ref bu, .ref pa, .int 0, .int u_1244, .int 40, .int 0, .null, .int 0, .int 0]))]) hP hK hT [1] [] rfl rfl [.ref mo])⟩ rfl rfl hl.1 rfl (lv_room (Nat.le_of_ble_eq_true rfl)) dL_law_2382 ⟨(Nat.le_of_ble_eq_true rfl), (Nat.le_of_ble_eq_true rfl)⟩).run (fun r_1247 w_1248 => ?_)
        obtain rfl := w_1248
        refine lv_iload hx hb dL_law_2385 (lv_at hl 1 rfl) ?_
        refine lv_icmp_eq (tgt := 2392) hx hb dL_law_2387 (by decide) (fun _ => ?_) (fun cc => absurd (by decide) cc)
        refine lv_iload hx hb dL_law_2392 (lv_at hl 1 rfl) ?_
        refine lv_if_ne (tgt := 2409) hx hb dL_law_2394 (by decide) (fun cc => absurd (by decide) cc) (fun _ => ?_)
        refine lv_aload_n hx hb dL_law_2397 rfl (lv_at hl 4 rfl) ?_
        refine lv_iconst (v := 0) hx hb dL_law_2398 (by decide) ?_
        refine va_lald (D := D) (cl := vwCl) hx hb hK hP 0 2 rfl rfl (vp_in_nI (n := 0) (N := 1) (by decide) (by decide)) dL_law_2399 ?_
        refine lv_topl (fun y_1249 ey_1249 => ?_)
        have ey_1249 : y_1249 = 0 := ey_1249.trans c_1238
        subst ey_1249
        refine lv_iload hx hb dL_law_2400 (lv_at hl 0 rfl) ?_
        refine lv_i2l (v := 0) hx hb dL_law_2402 (by decide) ?_
        refine W.lcmp hx hb dL_law_2403 ?_
        refine lv_topi (fun y_1250 ey_1250 => ?_)
        have ey_1250 : y_1250 = 0 := ey_1250.trans (by decide +kernel)
        subst ey_1250
        refine lv_if_eq (tgt := 2409) hx hb dL_law_2404 (by decide) (fun _ => ?_) (fun cc => absurd (by decide) cc)
        refine lv_goto (tgt := 2999) hx hb dL_law_2409 (by decide) ?_
        refine W.widen (k := 797152) (n := 6710780) (Nat.le_of_ble_eq_true rfl) (Nat.le_of_ble_eq_true rfl) ?_
        exact hE _ _ _ hS (lv_sub hl [7, 2] rfl)
      · exact absurd c_1237 c_1246
    · refine lv_istore (lv' := [(6, .int 1), (5, .int 0), (4, .ref od), (3, .ref ou), (2, .ref mo), (1, .ref xo), (0, .ref b)]) hx hb dL_law_2367 hl (by decide) rfl (fun ls hl => ?_)
      refine lv_aload_n hx hb dL_law_2369 rfl (lv_at hl 4 rfl) ?_
      refine lv_aload_n hx hb dL_law_2370 rfl (lv_at hl 6 rfl) ?_
      refine lv_iload hx hb dL_law_2371 (lv_at hl 1 rfl) ?_
      refine lv_iconst (v := 1) hx hb dL_law_2373 (by decide) ?_
      refine lv_iadd hx hb dL_law_2374 ?_
      refine lv_topi (fun y_1251 ey_1251 => ?_)
      have ey_1251 : y_1251 = 1 := ey_1251.trans (by decide +kernel)
      subst ey_1251
      refine va_sld hx hb hX hbl hbA hS (vp_in_iff.mpr (by rw [hL]; decide +kernel)) dL_law_2375 ?_
      have hFc := va_free (wc := [(mo, .inr (16, [.int 0, .ref gl, .ref po, .ref pi, .ref bu, .ref pa, .int 0, .int 0, .int 40, .int 0, .null, .int 0, .int 0])), (po, .inr (4, [.int 0, .ref G.1, .int 0])), (pi, .inr (4, [.int 0, .ref G.1, .int 0])), (bu, .inl (ci, 4, .inl (fun _ => 0)))]) hD hS hA [0, 1, 2, 3] rfl
      refine va_calli (va_runV (As := [.int (xs (1 : Int32).toNatClampNeg)]) (rest := []) ⟨hx, hb, hml, hown, hts⟩ (zc_X11_days l D G mo gl po pi bu pa 0 0 0 ci (xs (1 : Int32).toNatClampNeg) H.size) (cwV 1 hts gzL_law_X11_days_279 rfl rfl rfl (by decide +kernel) ⟨(Nat.le_of_ble_eq_true rfl), (Nat.le_of_ble_eq_true rfl)⟩) ⟨p_RW_blind, va_recv hK hP (ci := 16) (q0 := 0) rfl rfl, (p_RW_at (tc := [(ci, .int)]) (wc := [(mo, .inr (16, [.int 0, .ref gl, .ref po, .ref pi, .ref bu, .ref pa, .int 0, .int 0, .int 40, .int 0, .null, .int 0, .int 0])), (po, .inr (4, [.int 0, .ref G.1, .int 0])), (pi, .inr (4, [.int 0, .ref G.1, .int 0])), (bu, .inl (ci, 4, .inl (fun _ => 0)))]) hP hK hD hS hA hT hZ [0, 1, 2, 3] [2] rfl rfl (by decide) rfl [.ref mo, .int (xs (1 : Int32).toNatClampNeg)])⟩ rfl rfl hl.1 rfl (lv_room (Nat.le_of_ble_eq_true rfl)) dL_law_2376 ⟨(Nat.le_of_ble_eq_true rfl), (Nat.le_of_ble_eq_true rfl)⟩) hS (fun q _ h => hFc q h) hFc (fun r_1252 u t H locs ht hvm w_1253 hB hz1 hk1 hS => ?_)
      obtain ⟨u_1254, u_1255⟩ := u
      obtain ⟨hP, hD, hK⟩ := q_join (D := D) (wc := [(mo, .inr (16, [.int 0, .ref gl, .ref po, .ref pi, .ref bu, .ref pa, .int 0, .int 0, .int 40, .int 0, .null, .int 0, .int 0])), (po, .inr (4, [.int 0, .ref G.1, .int 0])), (pi, .inr (4, [.int 0, .ref G.1, .int 0])), (bu, .inl (ci, 4, .inl (fun _ => 0)))]) (wr := [(ou, .inl (cJ, 1, .inr (.inl u_1236)))]) (w1 := [(mo, .inr (16, [.int u_1254, .ref gl, .ref po, .ref pi, .ref bu, .ref pa, .int 0, .int u_1255, .int 40, .int 0, .null, .int 0, .int 0]))]) (tyr := [(cp, .object "Gatherhouse$Pot"), (cq, .object "Gatherhouse$Piece"), (cJ, .long)]) (ty1 := [(ci, .int)]) hP hD hK [0, 1, 2, 3] [4] [0, 1, 3] rfl rfl (by decide) (by decide) rfl hFc hk1 ht hvm hB
      have hP : va_P D vwCl [(ou, .inl (cJ, 1, .inr (.inl u_1236))), (mo, .inr (16, [.int u_1254, .ref gl, .ref po, .ref pi, .ref bu, .ref pa, .int 0, .int u_1255, .int 40, .int 0, .null, .int 0, .int 0]))] H := hP
      have hD : va_D A [(ou, .inl (cJ, 1, .inr (.inl u_1236))), (mo, .inr (16, [.int u_1254, .ref gl, .ref po, .ref pi, .ref bu, .ref pa, .int 0, .int u_1255, .int 40, .int 0, .null, .int 0, .int 0]))] := hD
      have hK : va_K D vwCl [(cp, .object "Gatherhouse$Pot"), (cq, .object "Gatherhouse$Piece"), (cJ, .long), (ci, .int)] s := hK
      refine W.widen (k := 4382) (n := 17590) (Nat.le_of_ble_eq_true rfl) (Nat.le_of_ble_eq_true rfl) ?_
      rcases w_1253 with ⟨c_1256, rfl, rfl⟩ | ⟨c_1257, rfl, rfl⟩
      · exact absurd c_1256 c_1239
      · refine lv_istore (lv' := [(7, .int 0), (6, .int 1), (5, .int 0), (4, .ref od), (3, .ref ou), (2, .ref mo), (1, .ref xo), (0, .ref b)]) hx hb dL_law_2379 hl (by decide) rfl (fun ls hl => ?_)
        refine lv_aload_n hx hb dL_law_2381 rfl (lv_at hl 5 rfl) ?_
        refine vp_callSi (va_runV (As := []) (rest := []) ⟨hx, hb, hml, hown, hts⟩ (zc_X11_thrown l D G mo gl po pi bu pa 1 u_1255 0 40) (cwV 0 hts gzL_law_X11_thrown_165 rfl rfl rfl (by decide +kernel) ⟨(Nat.le_of_ble_eq_true rfl), (Nat.le_of_ble_eq_true rfl)⟩) ⟨p_RO_blind, va_recv hK hP (ci := 16) (q0 := 1) rfl rfl, (p_RO_at (tc := []) (wc := [(mo, .inr (16, [.int 1, .ref gl, .ref po, .ref pi, .ref bu, .ref pa, .int 0, .int u_1255, .int 40, .int 0, .null, .int 0, .int 0]))]) hP hK hT [1] [] rfl rfl [.ref mo])⟩ rfl rfl hl.1 rfl (lv_room (Nat.le_of_ble_eq_true rfl)) dL_law_2382 ⟨(Nat.le_of_ble_eq_true rfl), (Nat.le_of_ble_eq_true rfl)⟩).run (fun r_1258 w_1259 => ?_)
        obtain rfl := w_1259
        refine lv_iload hx hb dL_law_2385 (lv_at hl 1 rfl) ?_
        refine lv_icmp_eq (tgt := 2392) hx hb dL_law_2387 (by decide) (fun _ => ?_) (fun cc => absurd (by decide) cc)
        refine lv_iload hx hb dL_law_2392 (lv_at hl 1 rfl) ?_
        refine lv_if_ne (tgt := 2409) hx hb dL_law_2394 (by decide) (fun _ => ?_) (fun cc => absurd cc (by decide))
        refine lv_goto (tgt := 2999) hx hb dL_law_2409 (by decide) ?_
        refine W.widen (k := 797152) (n := 6710780) (Nat.le_of_ble_eq_true rfl) (Nat.le_of_ble_eq_true rfl) ?_
        exact hE _ _ _ hS (lv_sub hl [7, 2] rfl)
theorem dL_law_2412 : decode cL_law 2412 = .ok (.aload_n 1, 1) := by decide +kernel
theorem dL_law_2413 : decode cL_law 2413 = .ok (.invokevirtual 280, 3) := by decide +kernel
theorem dL_law_2416 : decode cL_law 2416 = .ok (.aload_n 2, 1) := by decide +kernel
theorem dL_law_2417 : decode cL_law 2417 = .ok (.invokevirtual 283, 3) := by decide +kernel
theorem dL_law_2420 : decode cL_law 2420 = .ok (.if_icmp .eq 579, 3) := by decide +kernel
set_option maxHeartbeats 4000000 in
set_option maxRecDepth 100000 in
theorem zl_35 {p : Program} {e : Env} {s : State} {m : MethodId} {below : List Frame} {meth : Method} {c : Code} {Q : State → Prop} {args : Array Value} (l : Launch) (hnt : l.stackTraces = false) (D : va_G) (G : Nat × Nat × Nat) (xo : Nat) (xg : Nat) (xp : Nat) (xq : Nat) (r1 : Nat) (r2 : Nat) (r3 : Nat) (r4 : Nat) (se : Nat) (n1 : Nat) (n2 : Nat) (n3 : Nat) (mo : Nat) (gl : Nat) (po : Nat) (pi : Nat) (bu : Nat) (pa : Nat) (ou : Nat) (od : Nat) (cg : ClassId) (cp : ClassId) (cq : ClassId) (ci : ClassId) (cj : ClassId) (cJ : ClassId) (cD : ClassId) {b L : Nat} {xs : Nat → Int32} {A : Nat → Prop} {H : Heap} {locs : List Loc} {ls : Array Slot} (hx : p.tables.exec = Jvm.exec) (hb : c.code = code) (hml : c.maxLocals = 9) (hown : s.vm.findClass RL = some m.cls) (hts : ∀ w ∈ wzL_law, w.before args s = true) (hT : FT G s) (hA : ∀ q : Nat, s.heap.size ≤ q → A q) (hZ : FZ G A s s.heap) (hX : va_X b L xs s s.heap) (hbl : b < s.heap.size) (hbA : ¬ A b) (hL : L = 5) (hK : va_K D vwCl [(cg, .object "Gatherhouse$Glass"), (cp, .object "Gatherhouse$Pot"), (cq, .object "Gatherhouse$Piece"), (ci, .int), (cj, .int), (cJ, .long), (cD, .double)] s) (hP : va_P D vwCl [(xo, .inr (11, [.ref xg, .int 0, .ref xp, .int 0, .ref xq, .int 0, .ref r1, .ref r2, .ref r3, .ref r4, .ref se, .int 0, .int 0, .int 40, .int 0, .int 0])), (xg, .inl (cg, 6, .inr (.inr (.inr (.inr (fun _ => none)))))), (xp, .inl (cp, 4, .inr (.inr (.inr (.inr (fun _ => none)))))), (xq, .inl (cq, 16, .inr (.inr (.inr (.inr (fun _ => none)))))), (r1, .inr (9, [.int 0, .int 0])), (r2, .inr (9, [.int 0, .int 0])), (r3, .inr (9, [.int 0, .int 0])), (r4, .inr (9, [.int 0, .int 0])), (se, .inr (10, [.ref n1, .ref n2, .ref n3, .int 0, .int 0, .int 0, .int 0])), (mo, .inr (16, [.int 0, .ref gl, .ref po, .ref pi, .ref bu, .ref pa, .int 0, .int 0, .int 40, .int 0, .null, .int 0, .int 0])), (gl, .inr (4, [.int 0, .ref G.1, .int 0])), (po, .inr (4, [.int 0, .ref G.1, .int 0])), (pi, .inr (4, [.int 0, .ref G.1, .int 0])), (bu, .inl (ci, 4, .inl (fun _ => 0))), (pa, .inl (cj, 4, .inl (fun _ => 0))), (ou, .inl (cJ, 1, .inr (.inl (fun _ => 0)))), (od, .inl (cD, 1, .inr (.inr (.inr (.inl (fun _ => 0))))))] H) (hD : va_D A [(xo, .inr (11, [.ref xg, .int 0, .ref xp, .int 0, .ref xq, .int 0, .ref r1, .ref r2, .ref r3, .ref r4, .ref se, .int 0, .int 0, .int 40, .int 0, .int 0])), (xg, .inl (cg, 6, .inr (.inr (.inr (.inr (fun _ => none)))))), (xp, .inl (cp, 4, .inr (.inr (.inr (.inr (fun _ => none)))))), (xq, .inl (cq, 16, .inr (.inr (.inr (.inr (fun _ => none)))))), (r1, .inr (9, [.int 0, .int 0])), (r2, .inr (9, [.int 0, .int 0])), (r3, .inr (9, [.int 0, .int 0])), (r4, .inr (9, [.int 0, .int 0])), (se, .inr (10, [.ref n1, .ref n2, .ref n3, .int 0, .int 0, .int 0, .int 0])), (mo, .inr (16, [.int 0, .ref gl, .ref po, .ref pi, .ref bu, .ref pa, .int 0, .int 0, .int 40, .int 0, .null, .int 0, .int 0])), (gl, .inr (4, [.int 0, .ref G.1, .int 0])), (po, .inr (4, [.int 0, .ref G.1, .int 0])), (pi, .inr (4, [.int 0, .ref G.1, .int 0])), (bu, .inl (ci, 4, .inl (fun _ => 0))), (pa, .inl (cj, 4, .inl (fun _ => 0))), (ou, .inl (cJ, 1, .inr (.inl (fun _ => 0)))), (od, .inl (cD, 1, .inr (.inr (.inr (.inl (fun _ => 0))))))]) (hS : va_S A s.heap H locs) (hl : lv_has ls 9 [(5, .int 0), (4, .ref od), (3, .ref ou), (2, .ref mo), (1, .ref xo), (0, .ref b)]) (hE : ∀ (H : Heap) (locs : List Loc) (ls : Array Slot), va_S A s.heap H locs → lv_has ls 9 [(0, .ref b), (5, .int 0)] → W p l e room_1 s m args below meth c H locs 797152 6710780 Q (F0 m 2999 ls [])) : W p l e room_1 s m args below meth c H locs 60 300 Q (F0 m 2412 ls []) := by
  have hP := hP.sub (ws' := [(xo, .inr (11, [.ref xg, .int 0, .ref xp, .int 0, .ref xq, .int 0, .ref r1, .ref r2, .ref r3, .ref r4, .ref se, .int 0, .int 0, .int 40, .int 0, .int 0])), (mo, .inr (16, [.int 0, .ref gl, .ref po, .ref pi, .ref bu, .ref pa, .int 0, .int 0, .int 40, .int 0, .null, .int 0, .int 0]))]) [0, 9] rfl
  have hD := hD.sub (ws' := [(xo, .inr (11, [.ref xg, .int 0, .ref xp, .int 0, .ref xq, .int 0, .ref r1, .ref r2, .ref r3, .ref r4, .ref se, .int 0, .int 0, .int 40, .int 0, .int 0])), (mo, .inr (16, [.int 0, .ref gl, .ref po, .ref pi, .ref bu, .ref pa, .int 0, .int 0, .int 40, .int 0, .null, .int 0, .int 0]))]) [0, 9] (by decide) rfl
  have hK := hK.sub (tys' := []) [] rfl
  refine lv_aload_n hx hb dL_law_2412 rfl (lv_at hl 4 rfl) ?_
  refine vp_callSi (va_runV (As := []) (rest := []) ⟨hx, hb, hml, hown, hts⟩ (zc_X6_day l D G xo xg xp xq r1 r2 r3 r4 se 0) (cwV 0 hts gzL_law_X6_day_280 rfl rfl rfl (by decide +kernel) ⟨(Nat.le_of_ble_eq_true rfl), (Nat.le_of_ble_eq_true rfl)⟩) ⟨p_RO_blind, va_recv hK hP (ci := 11) (q0 := 0) rfl rfl, (p_RO_at (tc := []) (wc := [(xo, .inr (11, [.ref xg, .int 0, .ref xp, .int 0, .ref xq, .int 0, .ref r1, .ref r2, .ref r3, .ref r4, .ref se, .int 0, .int 0, .int 40, .int 0, .int 0]))]) hP hK hT [0] [] rfl rfl [.ref xo])⟩ rfl rfl hl.1 rfl (lv_room (Nat.le_of_ble_eq_true rfl)) dL_law_2413 ⟨(Nat.le_of_ble_eq_true rfl), (Nat.le_of_ble_eq_true rfl)⟩).run (fun r_1260 w_1261 => ?_)
  obtain rfl := w_1261
  refine lv_aload_n hx hb dL_law_2416 rfl (lv_at hl 3 rfl) ?_
  have hFc := va_free (wc := [(mo, .inr (16, [.int 0, .ref gl, .ref po, .ref pi, .ref bu, .ref pa, .int 0, .int 0, .int 40, .int 0, .null, .int 0, .int 0]))]) hD hS hA [1] rfl
  refine va_calli (va_runV (As := []) (rest := [.int 0]) ⟨hx, hb, hml, hown, hts⟩ (zc_X11_day l D G mo gl po pi bu pa 0 0 H.size) (cwV 0 hts gzL_law_X11_day_283 rfl rfl rfl (by decide +kernel) ⟨(Nat.le_of_ble_eq_true rfl), (Nat.le_of_ble_eq_true rfl)⟩) ⟨p_RW_blind, va_recv hK hP (ci := 16) (q0 := 1) rfl rfl, (p_RW_at (tc := []) (wc := [(mo, .inr (16, [.int 0, .ref gl, .ref po, .ref pi, .ref bu, .ref pa, .int 0, .int 0, .int 40, .int 0, .null, .int 0, .int 0]))]) hP hK hD hS hA hT hZ [1] [] rfl rfl (by decide) rfl [.ref mo])⟩ rfl rfl hl.1 rfl (lv_room (Nat.le_of_ble_eq_true rfl)) dL_law_2417 ⟨(Nat.le_of_ble_eq_true rfl), (Nat.le_of_ble_eq_true rfl)⟩) hS (fun q _ h => hFc q h) hFc (fun r_1262 u t H locs ht hvm w_1263 hB hz1 hk1 hS => ?_)
  obtain ⟨hP, hD, hK⟩ := q_join (D := D) (wc := [(mo, .inr (16, [.int 0, .ref gl, .ref po, .ref pi, .ref bu, .ref pa, .int 0, .int 0, .int 40, .int 0, .null, .int 0, .int 0]))]) (wr := [(xo, .inr (11, [.ref xg, .int 0, .ref xp, .int 0, .ref xq, .int 0, .ref r1, .ref r2, .ref r3, .ref r4, .ref se, .int 0, .int 0, .int 40, .int 0, .int 0]))]) (w1 := [(mo, .inr (16, [.int 0, .ref gl, .ref po, .ref pi, .ref bu, .ref pa, .int 0, .int 0, .int 40, .int 0, .null, .int 0, .int 0]))]) (tyr := []) (ty1 := []) hP hD hK [1] [0] [] rfl rfl (by decide) (by decide) rfl hFc hk1 ht hvm hB
  have hP : va_P D vwCl [(xo, .inr (11, [.ref xg, .int 0, .ref xp, .int 0, .ref xq, .int 0, .ref r1, .ref r2, .ref r3, .ref r4, .ref se, .int 0, .int 0, .int 40, .int 0, .int 0])), (mo, .inr (16, [.int 0, .ref gl, .ref po, .ref pi, .ref bu, .ref pa, .int 0, .int 0, .int 40, .int 0, .null, .int 0, .int 0]))] H := hP
  have hD : va_D A [(xo, .inr (11, [.ref xg, .int 0, .ref xp, .int 0, .ref xq, .int 0, .ref r1, .ref r2, .ref r3, .ref r4, .ref se, .int 0, .int 0, .int 40, .int 0, .int 0])), (mo, .inr (16, [.int 0, .ref gl, .ref po, .ref pi, .ref bu, .ref pa, .int 0, .int 0, .int 40, .int 0, .null, .int 0, .int 0]))] := hD
  have hK : va_K D vwCl [] s := hK
  obtain rfl := w_1263
  refine lv_icmp_eq (tgt := 2999) hx hb dL_law_2420 (by decide) (fun _ => ?_) (fun cc => absurd (by decide) cc)
  refine W.widen (k := 797152) (n := 6710780) (Nat.le_of_ble_eq_true rfl) (Nat.le_of_ble_eq_true rfl) ?_
  exact hE _ _ _ hS (lv_sub hl [5, 0] rfl)
theorem dL_law_2425 : decode cL_law 2425 = .ok (.aload_n 1, 1) := by decide +kernel
theorem dL_law_2426 : decode cL_law 2426 = .ok (.aload_n 0, 1) := by decide +kernel
theorem dL_law_2427 : decode cL_law 2427 = .ok (.iload 5, 2) := by decide +kernel
theorem dL_law_2429 : decode cL_law 2429 = .ok (.iconst 1, 1) := by decide +kernel
theorem dL_law_2430 : decode cL_law 2430 = .ok (.iadd, 1) := by decide +kernel
theorem dL_law_2431 : decode cL_law 2431 = .ok (.iaload, 1) := by decide +kernel
theorem dL_law_2432 : decode cL_law 2432 = .ok (.aload_n 0, 1) := by decide +kernel
theorem dL_law_2433 : decode cL_law 2433 = .ok (.iload 5, 2) := by decide +kernel
theorem dL_law_2435 : decode cL_law 2435 = .ok (.iconst 2, 1) := by decide +kernel
theorem dL_law_2436 : decode cL_law 2436 = .ok (.iadd, 1) := by decide +kernel
theorem dL_law_2437 : decode cL_law 2437 = .ok (.iaload, 1) := by decide +kernel
theorem dL_law_2438 : decode cL_law 2438 = .ok (.aload_n 0, 1) := by decide +kernel
theorem dL_law_2439 : decode cL_law 2439 = .ok (.iload 5, 2) := by decide +kernel
theorem dL_law_2441 : decode cL_law 2441 = .ok (.iconst 3, 1) := by decide +kernel
theorem dL_law_2442 : decode cL_law 2442 = .ok (.iadd, 1) := by decide +kernel
theorem dL_law_2443 : decode cL_law 2443 = .ok (.iaload, 1) := by decide +kernel
theorem dL_law_2444 : decode cL_law 2444 = .ok (.aload_n 3, 1) := by decide +kernel
theorem dL_law_2445 : decode cL_law 2445 = .ok (.invokestatic 284, 3) := by decide +kernel
theorem dL_law_2448 : decode cL_law 2448 = .ok (.istore 6, 2) := by decide +kernel
theorem dL_law_2450 : decode cL_law 2450 = .ok (.aload_n 2, 1) := by decide +kernel
theorem dL_law_2451 : decode cL_law 2451 = .ok (.aload_n 0, 1) := by decide +kernel
theorem dL_law_2452 : decode cL_law 2452 = .ok (.iload 5, 2) := by decide +kernel
theorem dL_law_2454 : decode cL_law 2454 = .ok (.iconst 1, 1) := by decide +kernel
theorem dL_law_2455 : decode cL_law 2455 = .ok (.iadd, 1) := by decide +kernel
theorem dL_law_2456 : decode cL_law 2456 = .ok (.iaload, 1) := by decide +kernel
theorem dL_law_2457 : decode cL_law 2457 = .ok (.aload_n 0, 1) := by decide +kernel
theorem dL_law_2458 : decode cL_law 2458 = .ok (.iload 5, 2) := by decide +kernel
theorem dL_law_2460 : decode cL_law 2460 = .ok (.iconst 2, 1) := by decide +kernel
theorem dL_law_2461 : decode cL_law 2461 = .ok (.iadd, 1) := by decide +kernel
theorem dL_law_2462 : decode cL_law 2462 = .ok (.iaload, 1) := by decide +kernel
theorem dL_law_2463 : decode cL_law 2463 = .ok (.aload_n 0, 1) := by decide +kernel
theorem dL_law_2464 : decode cL_law 2464 = .ok (.iload 5, 2) := by decide +kernel
theorem dL_law_2466 : decode cL_law 2466 = .ok (.iconst 3, 1) := by decide +kernel
theorem dL_law_2467 : decode cL_law 2467 = .ok (.iadd, 1) := by decide +kernel
theorem dL_law_2468 : decode cL_law 2468 = .ok (.iaload, 1) := by decide +kernel
theorem dL_law_2469 : decode cL_law 2469 = .ok (.invokevirtual 286, 3) := by decide +kernel
theorem dL_law_2472 : decode cL_law 2472 = .ok (.istore 7, 2) := by decide +kernel
theorem dL_law_2474 : decode cL_law 2474 = .ok (.aload_n 2, 1) := by decide +kernel
theorem dL_law_2475 : decode cL_law 2475 = .ok (.invokevirtual 165, 3) := by decide +kernel
theorem dL_law_2478 : decode cL_law 2478 = .ok (.iload 6, 2) := by decide +kernel
theorem dL_law_2480 : decode cL_law 2480 = .ok (.if_icmp .eq 5, 3) := by decide +kernel
theorem dL_law_2485 : decode cL_law 2485 = .ok (.iload 6, 2) := by decide +kernel
theorem dL_law_2487 : decode cL_law 2487 = .ok (.ifCond .ne 15, 3) := by decide +kernel
theorem dL_law_2502 : decode cL_law 2502 = .ok (.goto 497, 3) := by decide +kernel
set_option maxHeartbeats 4000000 in
set_option maxRecDepth 100000 in
theorem zl_36 {p : Program} {e : Env} {s : State} {m : MethodId} {below : List Frame} {meth : Method} {c : Code} {Q : State → Prop} {args : Array Value} (l : Launch) (hnt : l.stackTraces = false) (D : va_G) (G : Nat × Nat × Nat) (xo : Nat) (xg : Nat) (xp : Nat) (xq : Nat) (r1 : Nat) (r2 : Nat) (r3 : Nat) (r4 : Nat) (se : Nat) (n1 : Nat) (n2 : Nat) (n3 : Nat) (mo : Nat) (gl : Nat) (po : Nat) (pi : Nat) (bu : Nat) (pa : Nat) (ou : Nat) (od : Nat) (cg : ClassId) (cp : ClassId) (cq : ClassId) (ci : ClassId) (cj : ClassId) (cJ : ClassId) (cD : ClassId) {b L : Nat} {xs : Nat → Int32} {A : Nat → Prop} {H : Heap} {locs : List Loc} {ls : Array Slot} (hx : p.tables.exec = Jvm.exec) (hb : c.code = code) (hml : c.maxLocals = 9) (hown : s.vm.findClass RL = some m.cls) (hts : ∀ w ∈ wzL_law, w.before args s = true) (hT : FT G s) (hA : ∀ q : Nat, s.heap.size ≤ q → A q) (hZ : FZ G A s s.heap) (hX : va_X b L xs s s.heap) (hbl : b < s.heap.size) (hbA : ¬ A b) (hL : L = 5) (hK : va_K D vwCl [(cg, .object "Gatherhouse$Glass"), (cp, .object "Gatherhouse$Pot"), (cq, .object "Gatherhouse$Piece"), (ci, .int), (cj, .int), (cJ, .long), (cD, .double)] s) (hP : va_P D vwCl [(xo, .inr (11, [.ref xg, .int 0, .ref xp, .int 0, .ref xq, .int 0, .ref r1, .ref r2, .ref r3, .ref r4, .ref se, .int 0, .int 0, .int 40, .int 0, .int 0])), (xg, .inl (cg, 6, .inr (.inr (.inr (.inr (fun _ => none)))))), (xp, .inl (cp, 4, .inr (.inr (.inr (.inr (fun _ => none)))))), (xq, .inl (cq, 16, .inr (.inr (.inr (.inr (fun _ => none)))))), (r1, .inr (9, [.int 0, .int 0])), (r2, .inr (9, [.int 0, .int 0])), (r3, .inr (9, [.int 0, .int 0])), (r4, .inr (9, [.int 0, .int 0])), (se, .inr (10, [.ref n1, .ref n2, .ref n3, .int 0, .int 0, .int 0, .int 0])), (mo, .inr (16, [.int 0, .ref gl, .ref po, .ref pi, .ref bu, .ref pa, .int 0, .int 0, .int 40, .int 0, .null, .int 0, .int 0])), (gl, .inr (4, [.int 0, .ref G.1, .int 0])), (po, .inr (4, [.int 0, .ref G.1, .int 0])), (pi, .inr (4, [.int 0, .ref G.1, .int 0])), (bu, .inl (ci, 4, .inl (fun _ => 0))), (pa, .inl (cj, 4, .inl (fun _ => 0))), (ou, .inl (cJ, 1, .inr (.inl (fun _ => 0)))), (od, .inl (cD, 1, .inr (.inr (.inr (.inl (fun _ => 0))))))] H) (hD : va_D A [(xo, .inr (11, [.ref xg, .int 0, .ref xp, .int 0, .ref xq, .int 0, .ref r1, .ref r2, .ref r3, .ref r4, .ref se, .int 0, .int 0, .int 40, .int 0, .int 0])), (xg, .inl (cg, 6, .inr (.inr (.inr (.inr (fun _ => none)))))), (xp, .inl (cp, 4, .inr (.inr (.inr (.inr (fun _ => none)))))), (xq, .inl (cq, 16, .inr (.inr (.inr (.inr (fun _ => none)))))), (r1, .inr (9, [.int 0, .int 0])), (r2, .inr (9, [.int 0, .int 0])), (r3, .inr (9, [.int 0, .int 0])), (r4, .inr (9, [.int 0, .int 0])), (se, .inr (10, [.ref n1, .ref n2, .ref n3, .int 0, .int 0, .int 0, .int 0])), (mo, .inr (16, [.int 0, .ref gl, .ref po, .ref pi, .ref bu, .ref pa, .int 0, .int 0, .int 40, .int 0, .null, .int 0, .int 0])), (gl, .inr (4, [.int 0, .ref G.1, .int 0])), (po, .inr (4, [.int 0, .ref G.1, .int 0])), (pi, .inr (4, [.int 0, .ref G.1, .int 0])), (bu, .inl (ci, 4, .inl (fun _ => 0))), (pa, .inl (cj, 4, .inl (fun _ => 0))), (ou, .inl (cJ, 1, .inr (.inl (fun _ => 0)))), (od, .inl (cD, 1, .inr (.inr (.inr (.inl (fun _ => 0))))))]) (hS : va_S A s.heap H locs) (hl : lv_has ls 9 [(5, .int 0), (4, .ref od), (3, .ref ou), (2, .ref mo), (1, .ref xo), (0, .ref b)]) (hE : ∀ (H : Heap) (locs : List Loc) (ls : Array Slot), va_S A s.heap H locs → lv_has ls 9 [(0, .ref b), (5, .int 0)] → W p l e room_1 s m args below meth c H locs 797152 6710780 Q (F0 m 2999 ls [])) : W p l e room_1 s m args below meth c H locs 60 300 Q (F0 m 2425 ls []) := by
  have hP := hP.sub (ws' := [(xo, .inr (11, [.ref xg, .int 0, .ref xp, .int 0, .ref xq, .int 0, .ref r1, .ref r2, .ref r3, .ref r4, .ref se, .int 0, .int 0, .int 40, .int 0, .int 0])), (xq, .inl (cq, 16, .inr (.inr (.inr (.inr (fun _ => none)))))), (mo, .inr (16, [.int 0, .ref gl, .ref po, .ref pi, .ref bu, .ref pa, .int 0, .int 0, .int 40, .int 0, .null, .int 0, .int 0])), (pi, .inr (4, [.int 0, .ref G.1, .int 0])), (ou, .inl (cJ, 1, .inr (.inl (fun _ => 0))))]) [0, 3, 9, 12, 15] rfl
  have hD := hD.sub (ws' := [(xo, .inr (11, [.ref xg, .int 0, .ref xp, .int 0, .ref xq, .int 0, .ref r1, .ref r2, .ref r3, .ref r4, .ref se, .int 0, .int 0, .int 40, .int 0, .int 0])), (xq, .inl (cq, 16, .inr (.inr (.inr (.inr (fun _ => none)))))), (mo, .inr (16, [.int 0, .ref gl, .ref po, .ref pi, .ref bu, .ref pa, .int 0, .int 0, .int 40, .int 0, .null, .int 0, .int 0])), (pi, .inr (4, [.int 0, .ref G.1, .int 0])), (ou, .inl (cJ, 1, .inr (.inl (fun _ => 0))))]) [0, 3, 9, 12, 15] (by decide) rfl
  have hK := hK.sub (tys' := [(cq, .object "Gatherhouse$Piece"), (cJ, .long)]) [2, 5] rfl
  refine lv_aload_n hx hb dL_law_2425 rfl (lv_at hl 4 rfl) ?_
  refine lv_aload_n hx hb dL_law_2426 rfl (lv_at hl 5 rfl) ?_
  refine lv_iload hx hb dL_law_2427 (lv_at hl 0 rfl) ?_
  refine lv_iconst (v := 1) hx hb dL_law_2429 (by decide) ?_
  refine lv_iadd hx hb dL_law_2430 ?_
  refine lv_topi (fun y_1264 ey_1264 => ?_)
  have ey_1264 : y_1264 = 1 := ey_1264.trans (by decide +kernel)
  subst ey_1264
  refine va_sld hx hb hX hbl hbA hS (vp_in_iff.mpr (by rw [hL]; decide +kernel)) dL_law_2431 ?_
  refine lv_aload_n hx hb dL_law_2432 rfl (lv_at hl 5 rfl) ?_
  refine lv_iload hx hb dL_law_2433 (lv_at hl 0 rfl) ?_
  refine lv_iconst (v := 2) hx hb dL_law_2435 (by decide) ?_
  refine lv_iadd hx hb dL_law_2436 ?_
  refine lv_topi (fun y_1265 ey_1265 => ?_)
  have ey_1265 : y_1265 = 2 := ey_1265.trans (by decide +kernel)
  subst ey_1265
  refine va_sld hx hb hX hbl hbA hS (vp_in_iff.mpr (by rw [hL]; decide +kernel)) dL_law_2437 ?_
  refine lv_aload_n hx hb dL_law_2438 rfl (lv_at hl 5 rfl) ?_
  refine lv_iload hx hb dL_law_2439 (lv_at hl 0 rfl) ?_
  refine lv_iconst (v := 3) hx hb dL_law_2441 (by decide) ?_
  refine lv_iadd hx hb dL_law_2442 ?_
  refine lv_topi (fun y_1266 ey_1266 => ?_)
  have ey_1266 : y_1266 = 3 := ey_1266.trans (by decide +kernel)
  subst ey_1266
  refine va_sld hx hb hX hbl hbA hS (vp_in_iff.mpr (by rw [hL]; decide +kernel)) dL_law_2443 ?_
  refine lv_aload_n hx hb dL_law_2444 rfl (lv_at hl 2 rfl) ?_
  have hFc := va_free (wc := [(xo, .inr (11, [.ref xg, .int 0, .ref xp, .int 0, .ref xq, .int 0, .ref r1, .ref r2, .ref r3, .ref r4, .ref se, .int 0, .int 0, .int 40, .int 0, .int 0])), (xq, .inl (cq, 16, .inr (.inr (.inr (.inr (fun _ => none)))))), (ou, .inl (cJ, 1, .inr (.inl (fun _ => 0))))]) hD hS hA [0, 1, 4] rfl
  refine vx_calli (vx_runSX (As := [.ref xo, .int (xs (1 : Int32).toNatClampNeg), .int (xs (2 : Int32).toNatClampNeg), .int (xs (3 : Int32).toNatClampNeg), .ref ou]) (rest := []) ⟨hx, hb, hml, hown, hts⟩ (zc_L_cut l hnt D G xo xg xp xq r1 r2 r3 r4 se 0 0 cq ou cJ (xs (1 : Int32).toNatClampNeg) (xs (2 : Int32).toNatClampNeg) (xs (3 : Int32).toNatClampNeg) H.size) (vx_cwSW 5 hts gzL_law_L_cut_284 rfl rfl rfl (by decide +kernel) ⟨(Nat.le_of_ble_eq_true rfl), (Nat.le_of_ble_eq_true rfl)⟩) ⟨p_RW_blind, (p_RW_at (tc := [(cq, .object "Gatherhouse$Piece"), (cJ, .long)]) (wc := [(xo, .inr (11, [.ref xg, .int 0, .ref xp, .int 0, .ref xq, .int 0, .ref r1, .ref r2, .ref r3, .ref r4, .ref se, .int 0, .int 0, .int 40, .int 0, .int 0])), (xq, .inl (cq, 16, .inr (.inr (.inr (.inr (fun _ => none)))))), (ou, .inl (cJ, 1, .inr (.inl (fun _ => 0))))]) hP hK hD hS hA hT hZ [0, 1, 4] [0, 1] rfl rfl (by decide) rfl [.ref xo, .int (xs (1 : Int32).toNatClampNeg), .int (xs (2 : Int32).toNatClampNeg), .int (xs (3 : Int32).toNatClampNeg), .ref ou])⟩ rfl rfl hl.1 rfl (lv_room (Nat.le_of_ble_eq_true rfl)) dL_law_2445 ⟨(Nat.le_of_ble_eq_true rfl), (Nat.le_of_ble_eq_true rfl)⟩) hS (fun q _ h => hFc q h) hFc (fun q _ h => hFc q h) (fun E ce q9 u t H locs ht hvm hpx hBX hz1 hk1 hS hce hcv hcl => ?_) (fun r_1267 u t H locs ht hvm w_1268 hB hz1 hk1 hS => ?_)
  · exact (show False from hBX).elim
  · obtain ⟨hP, hD, hK⟩ := q_join (D := D) (wc := [(xo, .inr (11, [.ref xg, .int 0, .ref xp, .int 0, .ref xq, .int 0, .ref r1, .ref r2, .ref r3, .ref r4, .ref se, .int 0, .int 0, .int 40, .int 0, .int 0])), (xq, .inl (cq, 16, .inr (.inr (.inr (.inr (fun _ => none)))))), (ou, .inl (cJ, 1, .inr (.inl (fun _ => 0))))]) (wr := [(mo, .inr (16, [.int 0, .ref gl, .ref po, .ref pi, .ref bu, .ref pa, .int 0, .int 0, .int 40, .int 0, .null, .int 0, .int 0])), (pi, .inr (4, [.int 0, .ref G.1, .int 0]))]) (w1 := []) (tyr := [(cq, .object "Gatherhouse$Piece"), (cJ, .long)]) (ty1 := []) hP hD hK [0, 1, 4] [2, 3] [0, 1] rfl rfl (by decide) (by decide) rfl hFc hk1 ht hvm (q_none hK hvm)
    have hP : va_P D vwCl [(mo, .inr (16, [.int 0, .ref gl, .ref po, .ref pi, .ref bu, .ref pa, .int 0, .int 0, .int 40, .int 0, .null, .int 0, .int 0])), (pi, .inr (4, [.int 0, .ref G.1, .int 0]))] H := hP
    have hD : va_D A [(mo, .inr (16, [.int 0, .ref gl, .ref po, .ref pi, .ref bu, .ref pa, .int 0, .int 0, .int 40, .int 0, .null, .int 0, .int 0])), (pi, .inr (4, [.int 0, .ref G.1, .int 0]))] := hD
    have hK : va_K D vwCl [(cq, .object "Gatherhouse$Piece"), (cJ, .long)] s := hK
    refine W.widen (k := 61) (n := 306) (Nat.le_of_ble_eq_true rfl) (Nat.le_of_ble_eq_true rfl) ?_
    obtain rfl := w_1268
    refine lv_istore (lv' := [(6, .int 1), (5, .int 0), (4, .ref od), (3, .ref ou), (2, .ref mo), (1, .ref xo), (0, .ref b)]) hx hb dL_law_2448 hl (by decide) rfl (fun ls hl => ?_)
    refine lv_aload_n hx hb dL_law_2450 rfl (lv_at hl 4 rfl) ?_
    refine lv_aload_n hx hb dL_law_2451 rfl (lv_at hl 6 rfl) ?_
    refine lv_iload hx hb dL_law_2452 (lv_at hl 1 rfl) ?_
    refine lv_iconst (v := 1) hx hb dL_law_2454 (by decide) ?_
    refine lv_iadd hx hb dL_law_2455 ?_
    refine lv_topi (fun y_1269 ey_1269 => ?_)
    have ey_1269 : y_1269 = 1 := ey_1269.trans (by decide +kernel)
    subst ey_1269
    refine va_sld hx hb hX hbl hbA hS (vp_in_iff.mpr (by rw [hL]; decide +kernel)) dL_law_2456 ?_
    refine lv_aload_n hx hb dL_law_2457 rfl (lv_at hl 6 rfl) ?_
    refine lv_iload hx hb dL_law_2458 (lv_at hl 1 rfl) ?_
    refine lv_iconst (v := 2) hx hb dL_law_2460 (by decide) ?_
    refine lv_iadd hx hb dL_law_2461 ?_
    refine lv_topi (fun y_1270 ey_1270 => ?_)
    have ey_1270 : y_1270 = 2 := ey_1270.trans (by decide +kernel)
    subst ey_1270
    refine va_sld hx hb hX hbl hbA hS (vp_in_iff.mpr (by rw [hL]; decide +kernel)) dL_law_2462 ?_
    refine lv_aload_n hx hb dL_law_2463 rfl (lv_at hl 6 rfl) ?_
    refine lv_iload hx hb dL_law_2464 (lv_at hl 1 rfl) ?_
    refine lv_iconst (v := 3) hx hb dL_law_2466 (by decide) ?_
    refine lv_iadd hx hb dL_law_2467 ?_
    refine lv_topi (fun y_1271 ey_1271 => ?_)
    have ey_1271 : y_1271 = 3 := ey_1271.trans (by decide +kernel)
    subst ey_1271
    refine va_sld hx hb hX hbl hbA hS (vp_in_iff.mpr (by rw [hL]; decide +kernel)) dL_law_2468 ?_
    have hFc := va_free (wc := [(mo, .inr (16, [.int 0, .ref gl, .ref po, .ref pi, .ref bu, .ref pa, .int 0, .int 0, .int 40, .int 0, .null, .int 0, .int 0])), (pi, .inr (4, [.int 0, .ref G.1, .int 0]))]) hD hS hA [0, 1] rfl
    refine va_calli (va_runV (As := [.int (xs (1 : Int32).toNatClampNeg), .int (xs (2 : Int32).toNatClampNeg), .int (xs (3 : Int32).toNatClampNeg)]) (rest := []) ⟨hx, hb, hml, hown, hts⟩ (zc_X11_cut l D G mo gl po pi bu pa 0 0 0 (xs (1 : Int32).toNatClampNeg) (xs (2 : Int32).toNatClampNeg) (xs (3 : Int32).toNatClampNeg) H.size) (cwV 3 hts gzL_law_X11_cut_286 rfl rfl rfl (by decide +kernel) ⟨(Nat.le_of_ble_eq_true rfl), (Nat.le_of_ble_eq_true rfl)⟩) ⟨p_RW_blind, va_recv hK hP (ci := 16) (q0 := 0) rfl rfl, (p_RW_at (tc := []) (wc := [(mo, .inr (16, [.int 0, .ref gl, .ref po, .ref pi, .ref bu, .ref pa, .int 0, .int 0, .int 40, .int 0, .null, .int 0, .int 0])), (pi, .inr (4, [.int 0, .ref G.1, .int 0]))]) hP hK hD hS hA hT hZ [0, 1] [] rfl rfl (by decide) rfl [.ref mo, .int (xs (1 : Int32).toNatClampNeg), .int (xs (2 : Int32).toNatClampNeg), .int (xs (3 : Int32).toNatClampNeg)])⟩ rfl rfl hl.1 rfl (lv_room (Nat.le_of_ble_eq_true rfl)) dL_law_2469 ⟨(Nat.le_of_ble_eq_true rfl), (Nat.le_of_ble_eq_true rfl)⟩) hS (fun q _ h => hFc q h) hFc (fun r_1272 u t H locs ht hvm w_1273 hB hz1 hk1 hS => ?_)
    obtain ⟨hP, hD, hK⟩ := q_join (D := D) (wc := [(mo, .inr (16, [.int 0, .ref gl, .ref po, .ref pi, .ref bu, .ref pa, .int 0, .int 0, .int 40, .int 0, .null, .int 0, .int 0])), (pi, .inr (4, [.int 0, .ref G.1, .int 0]))]) (wr := []) (w1 := [(mo, .inr (16, [.int 1, .ref gl, .ref po, .ref pi, .ref bu, .ref pa, .int 0, .int 0, .int 40, .int 0, .null, .int 0, .int 0])), (pi, .inr (4, [.int 0, .ref G.1, .int 0]))]) (tyr := [(cq, .object "Gatherhouse$Piece"), (cJ, .long)]) (ty1 := []) hP hD hK [0, 1] [] [0, 1] rfl rfl (by decide) (by decide) rfl hFc hk1 ht hvm hB
    have hP : va_P D vwCl [(mo, .inr (16, [.int 1, .ref gl, .ref po, .ref pi, .ref bu, .ref pa, .int 0, .int 0, .int 40, .int 0, .null, .int 0, .int 0])), (pi, .inr (4, [.int 0, .ref G.1, .int 0]))] H := hP
    have hD : va_D A [(mo, .inr (16, [.int 1, .ref gl, .ref po, .ref pi, .ref bu, .ref pa, .int 0, .int 0, .int 40, .int 0, .null, .int 0, .int 0])), (pi, .inr (4, [.int 0, .ref G.1, .int 0]))] := hD
    have hK : va_K D vwCl [(cq, .object "Gatherhouse$Piece"), (cJ, .long)] s := hK
    obtain rfl := w_1273
    refine lv_istore (lv' := [(7, .int 0), (6, .int 1), (5, .int 0), (4, .ref od), (3, .ref ou), (2, .ref mo), (1, .ref xo), (0, .ref b)]) hx hb dL_law_2472 hl (by decide) rfl (fun ls hl => ?_)
    refine lv_aload_n hx hb dL_law_2474 rfl (lv_at hl 5 rfl) ?_
    refine vp_callSi (va_runV (As := []) (rest := []) ⟨hx, hb, hml, hown, hts⟩ (zc_X11_thrown l D G mo gl po pi bu pa 1 0 0 40) (cwV 0 hts gzL_law_X11_thrown_165 rfl rfl rfl (by decide +kernel) ⟨(Nat.le_of_ble_eq_true rfl), (Nat.le_of_ble_eq_true rfl)⟩) ⟨p_RO_blind, va_recv hK hP (ci := 16) (q0 := 0) rfl rfl, (p_RO_at (tc := []) (wc := [(mo, .inr (16, [.int 1, .ref gl, .ref po, .ref pi, .ref bu, .ref pa, .int 0, .int 0, .int 40, .int 0, .null, .int 0, .int 0]))]) hP hK hT [0] [] rfl rfl [.ref mo])⟩ rfl rfl hl.1 rfl (lv_room (Nat.le_of_ble_eq_true rfl)) dL_law_2475 ⟨(Nat.le_of_ble_eq_true rfl), (Nat.le_of_ble_eq_true rfl)⟩).run (fun r_1274 w_1275 => ?_)
    obtain rfl := w_1275
    refine lv_iload hx hb dL_law_2478 (lv_at hl 1 rfl) ?_
    refine lv_icmp_eq (tgt := 2485) hx hb dL_law_2480 (by decide) (fun _ => ?_) (fun cc => absurd (by decide) cc)
    refine lv_iload hx hb dL_law_2485 (lv_at hl 1 rfl) ?_
    refine lv_if_ne (tgt := 2502) hx hb dL_law_2487 (by decide) (fun _ => ?_) (fun cc => absurd cc (by decide))
    refine lv_goto (tgt := 2999) hx hb dL_law_2502 (by decide) ?_
    refine W.widen (k := 797152) (n := 6710780) (Nat.le_of_ble_eq_true rfl) (Nat.le_of_ble_eq_true rfl) ?_
    exact hE _ _ _ hS (lv_sub hl [7, 2] rfl)
theorem dL_law_2505 : decode cL_law 2505 = .ok (.aload_n 1, 1) := by decide +kernel
theorem dL_law_2506 : decode cL_law 2506 = .ok (.aload_n 0, 1) := by decide +kernel
theorem dL_law_2507 : decode cL_law 2507 = .ok (.iload 5, 2) := by decide +kernel
theorem dL_law_2509 : decode cL_law 2509 = .ok (.iconst 1, 1) := by decide +kernel
theorem dL_law_2510 : decode cL_law 2510 = .ok (.iadd, 1) := by decide +kernel
theorem dL_law_2511 : decode cL_law 2511 = .ok (.iaload, 1) := by decide +kernel
theorem dL_law_2512 : decode cL_law 2512 = .ok (.aload_n 0, 1) := by decide +kernel
theorem dL_law_2513 : decode cL_law 2513 = .ok (.iload 5, 2) := by decide +kernel
theorem dL_law_2515 : decode cL_law 2515 = .ok (.iconst 2, 1) := by decide +kernel
theorem dL_law_2516 : decode cL_law 2516 = .ok (.iadd, 1) := by decide +kernel
theorem dL_law_2517 : decode cL_law 2517 = .ok (.iaload, 1) := by decide +kernel
theorem dL_law_2518 : decode cL_law 2518 = .ok (.aload_n 3, 1) := by decide +kernel
theorem dL_law_2519 : decode cL_law 2519 = .ok (.invokestatic 287, 3) := by decide +kernel
theorem dL_law_2522 : decode cL_law 2522 = .ok (.istore 6, 2) := by decide +kernel
theorem dL_law_2524 : decode cL_law 2524 = .ok (.aload_n 2, 1) := by decide +kernel
theorem dL_law_2525 : decode cL_law 2525 = .ok (.aload_n 0, 1) := by decide +kernel
theorem dL_law_2526 : decode cL_law 2526 = .ok (.iload 5, 2) := by decide +kernel
theorem dL_law_2528 : decode cL_law 2528 = .ok (.iconst 1, 1) := by decide +kernel
theorem dL_law_2529 : decode cL_law 2529 = .ok (.iadd, 1) := by decide +kernel
theorem dL_law_2530 : decode cL_law 2530 = .ok (.iaload, 1) := by decide +kernel
theorem dL_law_2531 : decode cL_law 2531 = .ok (.aload_n 0, 1) := by decide +kernel
theorem dL_law_2532 : decode cL_law 2532 = .ok (.iload 5, 2) := by decide +kernel
theorem dL_law_2534 : decode cL_law 2534 = .ok (.iconst 2, 1) := by decide +kernel
theorem dL_law_2535 : decode cL_law 2535 = .ok (.iadd, 1) := by decide +kernel
theorem dL_law_2536 : decode cL_law 2536 = .ok (.iaload, 1) := by decide +kernel
theorem dL_law_2537 : decode cL_law 2537 = .ok (.invokevirtual 289, 3) := by decide +kernel
theorem dL_law_2540 : decode cL_law 2540 = .ok (.istore 7, 2) := by decide +kernel
theorem dL_law_2542 : decode cL_law 2542 = .ok (.aload_n 2, 1) := by decide +kernel
theorem dL_law_2543 : decode cL_law 2543 = .ok (.invokevirtual 165, 3) := by decide +kernel
theorem dL_law_2546 : decode cL_law 2546 = .ok (.iload 6, 2) := by decide +kernel
theorem dL_law_2548 : decode cL_law 2548 = .ok (.if_icmp .eq 5, 3) := by decide +kernel
theorem dL_law_2553 : decode cL_law 2553 = .ok (.iload 6, 2) := by decide +kernel
theorem dL_law_2555 : decode cL_law 2555 = .ok (.ifCond .ne 15, 3) := by decide +kernel
theorem dL_law_2570 : decode cL_law 2570 = .ok (.goto 429, 3) := by decide +kernel
set_option maxHeartbeats 4000000 in
set_option maxRecDepth 100000 in
theorem zl_37 {p : Program} {e : Env} {s : State} {m : MethodId} {below : List Frame} {meth : Method} {c : Code} {Q : State → Prop} {args : Array Value} (l : Launch) (hnt : l.stackTraces = false) (D : va_G) (G : Nat × Nat × Nat) (xo : Nat) (xg : Nat) (xp : Nat) (xq : Nat) (r1 : Nat) (r2 : Nat) (r3 : Nat) (r4 : Nat) (se : Nat) (n1 : Nat) (n2 : Nat) (n3 : Nat) (mo : Nat) (gl : Nat) (po : Nat) (pi : Nat) (bu : Nat) (pa : Nat) (ou : Nat) (od : Nat) (cg : ClassId) (cp : ClassId) (cq : ClassId) (ci : ClassId) (cj : ClassId) (cJ : ClassId) (cD : ClassId) {b L : Nat} {xs : Nat → Int32} {A : Nat → Prop} {H : Heap} {locs : List Loc} {ls : Array Slot} (hx : p.tables.exec = Jvm.exec) (hb : c.code = code) (hml : c.maxLocals = 9) (hown : s.vm.findClass RL = some m.cls) (hts : ∀ w ∈ wzL_law, w.before args s = true) (hT : FT G s) (hA : ∀ q : Nat, s.heap.size ≤ q → A q) (hZ : FZ G A s s.heap) (hX : va_X b L xs s s.heap) (hbl : b < s.heap.size) (hbA : ¬ A b) (hL : L = 5) (hK : va_K D vwCl [(cg, .object "Gatherhouse$Glass"), (cp, .object "Gatherhouse$Pot"), (cq, .object "Gatherhouse$Piece"), (ci, .int), (cj, .int), (cJ, .long), (cD, .double)] s) (hP : va_P D vwCl [(xo, .inr (11, [.ref xg, .int 0, .ref xp, .int 0, .ref xq, .int 0, .ref r1, .ref r2, .ref r3, .ref r4, .ref se, .int 0, .int 0, .int 40, .int 0, .int 0])), (xg, .inl (cg, 6, .inr (.inr (.inr (.inr (fun _ => none)))))), (xp, .inl (cp, 4, .inr (.inr (.inr (.inr (fun _ => none)))))), (xq, .inl (cq, 16, .inr (.inr (.inr (.inr (fun _ => none)))))), (r1, .inr (9, [.int 0, .int 0])), (r2, .inr (9, [.int 0, .int 0])), (r3, .inr (9, [.int 0, .int 0])), (r4, .inr (9, [.int 0, .int 0])), (se, .inr (10, [.ref n1, .ref n2, .ref n3, .int 0, .int 0, .int 0, .int 0])), (mo, .inr (16, [.int 0, .ref gl, .ref po, .ref pi, .ref bu, .ref pa, .int 0, .int 0, .int 40, .int 0, .null, .int 0, .int 0])), (gl, .inr (4, [.int 0, .ref G.1, .int 0])), (po, .inr (4, [.int 0, .ref G.1, .int 0])), (pi, .inr (4, [.int 0, .ref G.1, .int 0])), (bu, .inl (ci, 4, .inl (fun _ => 0))), (pa, .inl (cj, 4, .inl (fun _ => 0))), (ou, .inl (cJ, 1, .inr (.inl (fun _ => 0)))), (od, .inl (cD, 1, .inr (.inr (.inr (.inl (fun _ => 0))))))] H) (hD : va_D A [(xo, .inr (11, [.ref xg, .int 0, .ref xp, .int 0, .ref xq, .int 0, .ref r1, .ref r2, .ref r3, .ref r4, .ref se, .int 0, .int 0, .int 40, .int 0, .int 0])), (xg, .inl (cg, 6, .inr (.inr (.inr (.inr (fun _ => none)))))), (xp, .inl (cp, 4, .inr (.inr (.inr (.inr (fun _ => none)))))), (xq, .inl (cq, 16, .inr (.inr (.inr (.inr (fun _ => none)))))), (r1, .inr (9, [.int 0, .int 0])), (r2, .inr (9, [.int 0, .int 0])), (r3, .inr (9, [.int 0, .int 0])), (r4, .inr (9, [.int 0, .int 0])), (se, .inr (10, [.ref n1, .ref n2, .ref n3, .int 0, .int 0, .int 0, .int 0])), (mo, .inr (16, [.int 0, .ref gl, .ref po, .ref pi, .ref bu, .ref pa, .int 0, .int 0, .int 40, .int 0, .null, .int 0, .int 0])), (gl, .inr (4, [.int 0, .ref G.1, .int 0])), (po, .inr (4, [.int 0, .ref G.1, .int 0])), (pi, .inr (4, [.int 0, .ref G.1, .int 0])), (bu, .inl (ci, 4, .inl (fun _ => 0))), (pa, .inl (cj, 4, .inl (fun _ => 0))), (ou, .inl (cJ, 1, .inr (.inl (fun _ => 0)))), (od, .inl (cD, 1, .inr (.inr (.inr (.inl (fun _ => 0))))))]) (hS : va_S A s.heap H locs) (hl : lv_has ls 9 [(5, .int 0), (4, .ref od), (3, .ref ou), (2, .ref mo), (1, .ref xo), (0, .ref b)]) (hE : ∀ (H : Heap) (locs : List Loc) (ls : Array Slot), va_S A s.heap H locs → lv_has ls 9 [(0, .ref b), (5, .int 0)] → W p l e room_1 s m args below meth c H locs 797152 6710780 Q (F0 m 2999 ls [])) : W p l e room_1 s m args below meth c H locs 60 300 Q (F0 m 2505 ls []) := by
  have hP := hP.sub (ws' := [(xo, .inr (11, [.ref xg, .int 0, .ref xp, .int 0, .ref xq, .int 0, .ref r1, .ref r2, .ref r3, .ref r4, .ref se, .int 0, .int 0, .int 40, .int 0, .int 0])), (xq, .inl (cq, 16, .inr (.inr (.inr (.inr (fun _ => none)))))), (mo, .inr (16, [.int 0, .ref gl, .ref po, .ref pi, .ref bu, .ref pa, .int 0, .int 0, .int 40, .int 0, .null, .int 0, .int 0])), (pi, .inr (4, [.int 0, .ref G.1, .int 0])), (ou, .inl (cJ, 1, .inr (.inl (fun _ => 0))))]) [0, 3, 9, 12, 15] rfl
  have hD := hD.sub (ws' := [(xo, .inr (11, [.ref xg, .int 0, .ref xp, .int 0, .ref xq, .int 0, .ref r1, .ref r2, .ref r3, .ref r4, .ref se, .int 0, .int 0, .int 40, .int 0, .int 0])), (xq, .inl (cq, 16, .inr (.inr (.inr (.inr (fun _ => none)))))), (mo, .inr (16, [.int 0, .ref gl, .ref po, .ref pi, .ref bu, .ref pa, .int 0, .int 0, .int 40, .int 0, .null, .int 0, .int 0])), (pi, .inr (4, [.int 0, .ref G.1, .int 0])), (ou, .inl (cJ, 1, .inr (.inl (fun _ => 0))))]) [0, 3, 9, 12, 15] (by decide) rfl
  have hK := hK.sub (tys' := [(cq, .object "Gatherhouse$Piece"), (cJ, .long)]) [2, 5] rfl
  refine lv_aload_n hx hb dL_law_2505 rfl (lv_at hl 4 rfl) ?_
  refine lv_aload_n hx hb dL_law_2506 rfl (lv_at hl 5 rfl) ?_
  refine lv_iload hx hb dL_law_2507 (lv_at hl 0 rfl) ?_
  refine lv_iconst (v := 1) hx hb dL_law_2509 (by decide) ?_
  refine lv_iadd hx hb dL_law_2510 ?_
  refine lv_topi (fun y_1276 ey_1276 => ?_)
  have ey_1276 : y_1276 = 1 := ey_1276.trans (by decide +kernel)
  subst ey_1276
  refine va_sld hx hb hX hbl hbA hS (vp_in_iff.mpr (by rw [hL]; decide +kernel)) dL_law_2511 ?_
  refine lv_aload_n hx hb dL_law_2512 rfl (lv_at hl 5 rfl) ?_
  refine lv_iload hx hb dL_law_2513 (lv_at hl 0 rfl) ?_
  refine lv_iconst (v := 2) hx hb dL_law_2515 (by decide) ?_
  refine lv_iadd hx hb dL_law_2516 ?_
  refine lv_topi (fun y_1277 ey_1277 => ?_)
  have ey_1277 : y_1277 = 2 := ey_1277.trans (by decide +kernel)
  subst ey_1277
  refine va_sld hx hb hX hbl hbA hS (vp_in_iff.mpr (by rw [hL]; decide +kernel)) dL_law_2517 ?_
  refine lv_aload_n hx hb dL_law_2518 rfl (lv_at hl 2 rfl) ?_
  have hFc := va_free (wc := [(xo, .inr (11, [.ref xg, .int 0, .ref xp, .int 0, .ref xq, .int 0, .ref r1, .ref r2, .ref r3, .ref r4, .ref se, .int 0, .int 0, .int 40, .int 0, .int 0])), (xq, .inl (cq, 16, .inr (.inr (.inr (.inr (fun _ => none)))))), (ou, .inl (cJ, 1, .inr (.inl (fun _ => 0))))]) hD hS hA [0, 1, 4] rfl
  refine vx_calli (vx_runSX (As := [.ref xo, .int (xs (1 : Int32).toNatClampNeg), .int (xs (2 : Int32).toNatClampNeg), .ref ou]) (rest := []) ⟨hx, hb, hml, hown, hts⟩ (zc_L_colour l hnt D G xo xg xp xq r1 r2 r3 r4 se 0 0 cq ou cJ (xs (1 : Int32).toNatClampNeg) (xs (2 : Int32).toNatClampNeg) H.size) (vx_cwSW 4 hts gzL_law_L_colour_287 rfl rfl rfl (by decide +kernel) ⟨(Nat.le_of_ble_eq_true rfl), (Nat.le_of_ble_eq_true rfl)⟩) ⟨p_RW_blind, (p_RW_at (tc := [(cq, .object "Gatherhouse$Piece"), (cJ, .long)]) (wc := [(xo, .inr (11, [.ref xg, .int 0, .ref xp, .int 0, .ref xq, .int 0, .ref r1, .ref r2, .ref r3, .ref r4, .ref se, .int 0, .int 0, .int 40, .int 0, .int 0])), (xq, .inl (cq, 16, .inr (.inr (.inr (.inr (fun _ => none)))))), (ou, .inl (cJ, 1, .inr (.inl (fun _ => 0))))]) hP hK hD hS hA hT hZ [0, 1, 4] [0, 1] rfl rfl (by decide) rfl [.ref xo, .int (xs (1 : Int32).toNatClampNeg), .int (xs (2 : Int32).toNatClampNeg), .ref ou])⟩ rfl rfl hl.1 rfl (lv_room (Nat.le_of_ble_eq_true rfl)) dL_law_2519 ⟨(Nat.le_of_ble_eq_true rfl), (Nat.le_of_ble_eq_true rfl)⟩) hS (fun q _ h => hFc q h) hFc (fun q _ h => hFc q h) (fun E ce q9 u t H locs ht hvm hpx hBX hz1 hk1 hS hce hcv hcl => ?_) (fun r_1278 u t H locs ht hvm w_1279 hB hz1 hk1 hS => ?_)
  · exact (show False from hBX).elim
  · obtain ⟨hP, hD, hK⟩ := q_join (D := D) (wc := [(xo, .inr (11, [.ref xg, .int 0, .ref xp, .int 0, .ref xq, .int 0, .ref r1, .ref r2, .ref r3, .ref r4, .ref se, .int 0, .int 0, .int 40, .int 0, .int 0])), (xq, .inl (cq, 16, .inr (.inr (.inr (.inr (fun _ => none)))))), (ou, .inl (cJ, 1, .inr (.inl (fun _ => 0))))]) (wr := [(mo, .inr (16, [.int 0, .ref gl, .ref po, .ref pi, .ref bu, .ref pa, .int 0, .int 0, .int 40, .int 0, .null, .int 0, .int 0])), (pi, .inr (4, [.int 0, .ref G.1, .int 0]))]) (w1 := []) (tyr := [(cq, .object "Gatherhouse$Piece"), (cJ, .long)]) (ty1 := []) hP hD hK [0, 1, 4] [2, 3] [0, 1] rfl rfl (by decide) (by decide) rfl hFc hk1 ht hvm (q_none hK hvm)
    have hP : va_P D vwCl [(mo, .inr (16, [.int 0, .ref gl, .ref po, .ref pi, .ref bu, .ref pa, .int 0, .int 0, .int 40, .int 0, .null, .int 0, .int 0])), (pi, .inr (4, [.int 0, .ref G.1, .int 0]))] H := hP
    have hD : va_D A [(mo, .inr (16, [.int 0, .ref gl, .ref po, .ref pi, .ref bu, .ref pa, .int 0, .int 0, .int 40, .int 0, .null, .int 0, .int 0])), (pi, .inr (4, [.int 0, .ref G.1, .int 0]))] := hD
    have hK : va_K D vwCl [(cq, .object "Gatherhouse$Piece"), (cJ, .long)] s := hK
    refine W.widen (k := 61) (n := 306) (Nat.le_of_ble_eq_true rfl) (Nat.le_of_ble_eq_true rfl) ?_
    obtain rfl := w_1279
    refine lv_istore (lv' := [(6, .int 1), (5, .int 0), (4, .ref od), (3, .ref ou), (2, .ref mo), (1, .ref xo), (0, .ref b)]) hx hb dL_law_2522 hl (by decide) rfl (fun ls hl => ?_)
    refine lv_aload_n hx hb dL_law_2524 rfl (lv_at hl 4 rfl) ?_
    refine lv_aload_n hx hb dL_law_2525 rfl (lv_at hl 6 rfl) ?_
    refine lv_iload hx hb dL_law_2526 (lv_at hl 1 rfl) ?_
    refine lv_iconst (v := 1) hx hb dL_law_2528 (by decide) ?_
    refine lv_iadd hx hb dL_law_2529 ?_
    refine lv_topi (fun y_1280 ey_1280 => ?_)
    have ey_1280 : y_1280 = 1 := ey_1280.trans (by decide +kernel)
    subst ey_1280
    refine va_sld hx hb hX hbl hbA hS (vp_in_iff.mpr (by rw [hL]; decide +kernel)) dL_law_2530 ?_
    refine lv_aload_n hx hb dL_law_2531 rfl (lv_at hl 6 rfl) ?_
    refine lv_iload hx hb dL_law_2532 (lv_at hl 1 rfl) ?_
    refine lv_iconst (v := 2) hx hb dL_law_2534 (by decide) ?_
    refine lv_iadd hx hb dL_law_2535 ?_
    refine lv_topi (fun y_1281 ey_1281 => ?_)
    have ey_1281 : y_1281 = 2 := ey_1281.trans (by decide +kernel)
    subst ey_1281
    refine va_sld hx hb hX hbl hbA hS (vp_in_iff.mpr (by rw [hL]; decide +kernel)) dL_law_2536 ?_
    have hFc := va_free (wc := [(mo, .inr (16, [.int 0, .ref gl, .ref po, .ref pi, .ref bu, .ref pa, .int 0, .int 0, .int 40, .int 0, .null, .int 0, .int 0])), (pi, .inr (4, [.int 0, .ref G.1, .int 0]))]) hD hS hA [0, 1] rfl
    refine va_calli (va_runV (As := [.int (xs (1 : Int32).toNatClampNeg), .int (xs (2 : Int32).toNatClampNeg)]) (rest := []) ⟨hx, hb, hml, hown, hts⟩ (zc_X11_colour l D G mo gl po pi bu pa 0 0 0 (xs (1 : Int32).toNatClampNeg) (xs (2 : Int32).toNatClampNeg) H.size) (cwV 2 hts gzL_law_X11_colour_289 rfl rfl rfl (by decide +kernel) ⟨(Nat.le_of_ble_eq_true rfl), (Nat.le_of_ble_eq_true rfl)⟩) ⟨p_RW_blind, va_recv hK hP (ci := 16) (q0 := 0) rfl rfl, (p_RW_at (tc := []) (wc := [(mo, .inr (16, [.int 0, .ref gl, .ref po, .ref pi, .ref bu, .ref pa, .int 0, .int 0, .int 40, .int 0, .null, .int 0, .int 0])), (pi, .inr (4, [.int 0, .ref G.1, .int 0]))]) hP hK hD hS hA hT hZ [0, 1] [] rfl rfl (by decide) rfl [.ref mo, .int (xs (1 : Int32).toNatClampNeg), .int (xs (2 : Int32).toNatClampNeg)])⟩ rfl rfl hl.1 rfl (lv_room (Nat.le_of_ble_eq_true rfl)) dL_law_2537 ⟨(Nat.le_of_ble_eq_true rfl), (Nat.le_of_ble_eq_true rfl)⟩) hS (fun q _ h => hFc q h) hFc (fun r_1282 u t H locs ht hvm w_1283 hB hz1 hk1 hS => ?_)
    obtain ⟨hP, hD, hK⟩ := q_join (D := D) (wc := [(mo, .inr (16, [.int 0, .ref gl, .ref po, .ref pi, .ref bu, .ref pa, .int 0, .int 0, .int 40, .int 0, .null, .int 0, .int 0])), (pi, .inr (4, [.int 0, .ref G.1, .int 0]))]) (wr := []) (w1 := [(mo, .inr (16, [.int 1, .ref gl, .ref po, .ref pi, .ref bu, .ref pa, .int 0, .int 0, .int 40, .int 0, .null, .int 0, .int 0])), (pi, .inr (4, [.int 0, .ref G.1, .int 0]))]) (tyr := [(cq, .object "Gatherhouse$Piece"), (cJ, .long)]) (ty1 := []) hP hD hK [0, 1] [] [0, 1] rfl rfl (by decide) (by decide) rfl hFc hk1 ht hvm hB
    have hP : va_P D vwCl [(mo, .inr (16, [.int 1, .ref gl, .ref po, .ref pi, .ref bu, .ref pa, .int 0, .int 0, .int 40, .int 0, .null, .int 0, .int 0])), (pi, .inr (4, [.int 0, .ref G.1, .int 0]))] H := hP
    have hD : va_D A [(mo, .inr (16, [.int 1, .ref gl, .ref po, .ref pi, .ref bu, .ref pa, .int 0, .int 0, .int 40, .int 0, .null, .int 0, .int 0])), (pi, .inr (4, [.int 0, .ref G.1, .int 0]))] := hD
    have hK : va_K D vwCl [(cq, .object "Gatherhouse$Piece"), (cJ, .long)] s := hK
    obtain rfl := w_1283
    refine lv_istore (lv' := [(7, .int 0), (6, .int 1), (5, .int 0), (4, .ref od), (3, .ref ou), (2, .ref mo), (1, .ref xo), (0, .ref b)]) hx hb dL_law_2540 hl (by decide) rfl (fun ls hl => ?_)
    refine lv_aload_n hx hb dL_law_2542 rfl (lv_at hl 5 rfl) ?_
    refine vp_callSi (va_runV (As := []) (rest := []) ⟨hx, hb, hml, hown, hts⟩ (zc_X11_thrown l D G mo gl po pi bu pa 1 0 0 40) (cwV 0 hts gzL_law_X11_thrown_165 rfl rfl rfl (by decide +kernel) ⟨(Nat.le_of_ble_eq_true rfl), (Nat.le_of_ble_eq_true rfl)⟩) ⟨p_RO_blind, va_recv hK hP (ci := 16) (q0 := 0) rfl rfl, (p_RO_at (tc := []) (wc := [(mo, .inr (16, [.int 1, .ref gl, .ref po, .ref pi, .ref bu, .ref pa, .int 0, .int 0, .int 40, .int 0, .null, .int 0, .int 0]))]) hP hK hT [0] [] rfl rfl [.ref mo])⟩ rfl rfl hl.1 rfl (lv_room (Nat.le_of_ble_eq_true rfl)) dL_law_2543 ⟨(Nat.le_of_ble_eq_true rfl), (Nat.le_of_ble_eq_true rfl)⟩).run (fun r_1284 w_1285 => ?_)
    obtain rfl := w_1285
    refine lv_iload hx hb dL_law_2546 (lv_at hl 1 rfl) ?_
    refine lv_icmp_eq (tgt := 2553) hx hb dL_law_2548 (by decide) (fun _ => ?_) (fun cc => absurd (by decide) cc)
    refine lv_iload hx hb dL_law_2553 (lv_at hl 1 rfl) ?_
    refine lv_if_ne (tgt := 2570) hx hb dL_law_2555 (by decide) (fun _ => ?_) (fun cc => absurd cc (by decide))
    refine lv_goto (tgt := 2999) hx hb dL_law_2570 (by decide) ?_
    refine W.widen (k := 797152) (n := 6710780) (Nat.le_of_ble_eq_true rfl) (Nat.le_of_ble_eq_true rfl) ?_
    exact hE _ _ _ hS (lv_sub hl [7, 2] rfl)
theorem dL_law_2573 : decode cL_law 2573 = .ok (.aload_n 1, 1) := by decide +kernel
theorem dL_law_2574 : decode cL_law 2574 = .ok (.aload_n 0, 1) := by decide +kernel
theorem dL_law_2575 : decode cL_law 2575 = .ok (.iload 5, 2) := by decide +kernel
theorem dL_law_2577 : decode cL_law 2577 = .ok (.iconst 1, 1) := by decide +kernel
theorem dL_law_2578 : decode cL_law 2578 = .ok (.iadd, 1) := by decide +kernel
theorem dL_law_2579 : decode cL_law 2579 = .ok (.iaload, 1) := by decide +kernel
theorem dL_law_2580 : decode cL_law 2580 = .ok (.aload_n 0, 1) := by decide +kernel
theorem dL_law_2581 : decode cL_law 2581 = .ok (.iload 5, 2) := by decide +kernel
theorem dL_law_2583 : decode cL_law 2583 = .ok (.iconst 2, 1) := by decide +kernel
theorem dL_law_2584 : decode cL_law 2584 = .ok (.iadd, 1) := by decide +kernel
theorem dL_law_2585 : decode cL_law 2585 = .ok (.iaload, 1) := by decide +kernel
theorem dL_law_2586 : decode cL_law 2586 = .ok (.aload_n 0, 1) := by decide +kernel
theorem dL_law_2587 : decode cL_law 2587 = .ok (.iload 5, 2) := by decide +kernel
theorem dL_law_2589 : decode cL_law 2589 = .ok (.iconst 3, 1) := by decide +kernel
theorem dL_law_2590 : decode cL_law 2590 = .ok (.iadd, 1) := by decide +kernel
theorem dL_law_2591 : decode cL_law 2591 = .ok (.iaload, 1) := by decide +kernel
theorem dL_law_2592 : decode cL_law 2592 = .ok (.aload_n 3, 1) := by decide +kernel
theorem dL_law_2593 : decode cL_law 2593 = .ok (.invokestatic 290, 3) := by decide +kernel
theorem dL_law_2596 : decode cL_law 2596 = .ok (.istore 6, 2) := by decide +kernel
theorem dL_law_2598 : decode cL_law 2598 = .ok (.aload_n 2, 1) := by decide +kernel
theorem dL_law_2599 : decode cL_law 2599 = .ok (.aload_n 0, 1) := by decide +kernel
theorem dL_law_2600 : decode cL_law 2600 = .ok (.iload 5, 2) := by decide +kernel
theorem dL_law_2602 : decode cL_law 2602 = .ok (.iconst 1, 1) := by decide +kernel
theorem dL_law_2603 : decode cL_law 2603 = .ok (.iadd, 1) := by decide +kernel
theorem dL_law_2604 : decode cL_law 2604 = .ok (.iaload, 1) := by decide +kernel
theorem dL_law_2605 : decode cL_law 2605 = .ok (.aload_n 0, 1) := by decide +kernel
theorem dL_law_2606 : decode cL_law 2606 = .ok (.iload 5, 2) := by decide +kernel
theorem dL_law_2608 : decode cL_law 2608 = .ok (.iconst 2, 1) := by decide +kernel
theorem dL_law_2609 : decode cL_law 2609 = .ok (.iadd, 1) := by decide +kernel
theorem dL_law_2610 : decode cL_law 2610 = .ok (.iaload, 1) := by decide +kernel
theorem dL_law_2611 : decode cL_law 2611 = .ok (.aload_n 0, 1) := by decide +kernel
theorem dL_law_2612 : decode cL_law 2612 = .ok (.iload 5, 2) := by decide +kernel
theorem dL_law_2614 : decode cL_law 2614 = .ok (.iconst 3, 1) := by decide +kernel
theorem dL_law_2615 : decode cL_law 2615 = .ok (.iadd, 1) := by decide +kernel
theorem dL_law_2616 : decode cL_law 2616 = .ok (.iaload, 1) := by decide +kernel
theorem dL_law_2617 : decode cL_law 2617 = .ok (.invokevirtual 292, 3) := by decide +kernel
theorem dL_law_2620 : decode cL_law 2620 = .ok (.istore 7, 2) := by decide +kernel
theorem dL_law_2622 : decode cL_law 2622 = .ok (.aload_n 2, 1) := by decide +kernel
theorem dL_law_2623 : decode cL_law 2623 = .ok (.invokevirtual 165, 3) := by decide +kernel
theorem dL_law_2626 : decode cL_law 2626 = .ok (.iload 6, 2) := by decide +kernel
theorem dL_law_2628 : decode cL_law 2628 = .ok (.if_icmp .eq 5, 3) := by decide +kernel
theorem dL_law_2633 : decode cL_law 2633 = .ok (.iload 6, 2) := by decide +kernel
theorem dL_law_2635 : decode cL_law 2635 = .ok (.ifCond .ne 15, 3) := by decide +kernel
theorem dL_law_2650 : decode cL_law 2650 = .ok (.goto 349, 3) := by decide +kernel
set_option maxHeartbeats 4000000 in
set_option maxRecDepth 100000 in
theorem zl_38 {p : Program} {e : Env} {s : State} {m : MethodId} {below : List Frame} {meth : Method} {c : Code} {Q : State → Prop} {args : Array Value} (l : Launch) (hnt : l.stackTraces = false) (D : va_G) (G : Nat × Nat × Nat) (xo : Nat) (xg : Nat) (xp : Nat) (xq : Nat) (r1 : Nat) (r2 : Nat) (r3 : Nat) (r4 : Nat) (se : Nat) (n1 : Nat) (n2 : Nat) (n3 : Nat) (mo : Nat) (gl : Nat) (po : Nat) (pi : Nat) (bu : Nat) (pa : Nat) (ou : Nat) (od : Nat) (cg : ClassId) (cp : ClassId) (cq : ClassId) (ci : ClassId) (cj : ClassId) (cJ : ClassId) (cD : ClassId) {b L : Nat} {xs : Nat → Int32} {A : Nat → Prop} {H : Heap} {locs : List Loc} {ls : Array Slot} (hx : p.tables.exec = Jvm.exec) (hb : c.code = code) (hml : c.maxLocals = 9) (hown : s.vm.findClass RL = some m.cls) (hts : ∀ w ∈ wzL_law, w.before args s = true) (hT : FT G s) (hA : ∀ q : Nat, s.heap.size ≤ q → A q) (hZ : FZ G A s s.heap) (hX : va_X b L xs s s.heap) (hbl : b < s.heap.size) (hbA : ¬ A b) (hL : L = 5) (hK : va_K D vwCl [(cg, .object "Gatherhouse$Glass"), (cp, .object "Gatherhouse$Pot"), (cq, .object "Gatherhouse$Piece"), (ci, .int), (cj, .int), (cJ, .long), (cD, .double)] s) (hP : va_P D vwCl [(xo, .inr (11, [.ref xg, .int 0, .ref xp, .int 0, .ref xq, .int 0, .ref r1, .ref r2, .ref r3, .ref r4, .ref se, .int 0, .int 0, .int 40, .int 0, .int 0])), (xg, .inl (cg, 6, .inr (.inr (.inr (.inr (fun _ => none)))))), (xp, .inl (cp, 4, .inr (.inr (.inr (.inr (fun _ => none)))))), (xq, .inl (cq, 16, .inr (.inr (.inr (.inr (fun _ => none)))))), (r1, .inr (9, [.int 0, .int 0])), (r2, .inr (9, [.int 0, .int 0])), (r3, .inr (9, [.int 0, .int 0])), (r4, .inr (9, [.int 0, .int 0])), (se, .inr (10, [.ref n1, .ref n2, .ref n3, .int 0, .int 0, .int 0, .int 0])), (mo, .inr (16, [.int 0, .ref gl, .ref po, .ref pi, .ref bu, .ref pa, .int 0, .int 0, .int 40, .int 0, .null, .int 0, .int 0])), (gl, .inr (4, [.int 0, .ref G.1, .int 0])), (po, .inr (4, [.int 0, .ref G.1, .int 0])), (pi, .inr (4, [.int 0, .ref G.1, .int 0])), (bu, .inl (ci, 4, .inl (fun _ => 0))), (pa, .inl (cj, 4, .inl (fun _ => 0))), (ou, .inl (cJ, 1, .inr (.inl (fun _ => 0)))), (od, .inl (cD, 1, .inr (.inr (.inr (.inl (fun _ => 0))))))] H) (hD : va_D A [(xo, .inr (11, [.ref xg, .int 0, .ref xp, .int 0, .ref xq, .int 0, .ref r1, .ref r2, .ref r3, .ref r4, .ref se, .int 0, .int 0, .int 40, .int 0, .int 0])), (xg, .inl (cg, 6, .inr (.inr (.inr (.inr (fun _ => none)))))), (xp, .inl (cp, 4, .inr (.inr (.inr (.inr (fun _ => none)))))), (xq, .inl (cq, 16, .inr (.inr (.inr (.inr (fun _ => none)))))), (r1, .inr (9, [.int 0, .int 0])), (r2, .inr (9, [.int 0, .int 0])), (r3, .inr (9, [.int 0, .int 0])), (r4, .inr (9, [.int 0, .int 0])), (se, .inr (10, [.ref n1, .ref n2, .ref n3, .int 0, .int 0, .int 0, .int 0])), (mo, .inr (16, [.int 0, .ref gl, .ref po, .ref pi, .ref bu, .ref pa, .int 0, .int 0, .int 40, .int 0, .null, .int 0, .int 0])), (gl, .inr (4, [.int 0, .ref G.1, .int 0])), (po, .inr (4, [.int 0, .ref G.1, .int 0])), (pi, .inr (4, [.int 0, .ref G.1, .int 0])), (bu, .inl (ci, 4, .inl (fun _ => 0))), (pa, .inl (cj, 4, .inl (fun _ => 0))), (ou, .inl (cJ, 1, .inr (.inl (fun _ => 0)))), (od, .inl (cD, 1, .inr (.inr (.inr (.inl (fun _ => 0))))))]) (hS : va_S A s.heap H locs) (hl : lv_has ls 9 [(5, .int 0), (4, .ref od), (3, .ref ou), (2, .ref mo), (1, .ref xo), (0, .ref b)]) (hE : ∀ (H : Heap) (locs : List Loc) (ls : Array Slot), va_S A s.heap H locs → lv_has ls 9 [(0, .ref b), (5, .int 0)] → W p l e room_1 s m args below meth c H locs 797152 6710780 Q (F0 m 2999 ls [])) : W p l e room_1 s m args below meth c H locs 60 300 Q (F0 m 2573 ls []) := by
  have hP := hP.sub (ws' := [(xo, .inr (11, [.ref xg, .int 0, .ref xp, .int 0, .ref xq, .int 0, .ref r1, .ref r2, .ref r3, .ref r4, .ref se, .int 0, .int 0, .int 40, .int 0, .int 0])), (xq, .inl (cq, 16, .inr (.inr (.inr (.inr (fun _ => none)))))), (se, .inr (10, [.ref n1, .ref n2, .ref n3, .int 0, .int 0, .int 0, .int 0])), (mo, .inr (16, [.int 0, .ref gl, .ref po, .ref pi, .ref bu, .ref pa, .int 0, .int 0, .int 40, .int 0, .null, .int 0, .int 0])), (pi, .inr (4, [.int 0, .ref G.1, .int 0])), (ou, .inl (cJ, 1, .inr (.inl (fun _ => 0))))]) [0, 3, 8, 9, 12, 15] rfl
  have hD := hD.sub (ws' := [(xo, .inr (11, [.ref xg, .int 0, .ref xp, .int 0, .ref xq, .int 0, .ref r1, .ref r2, .ref r3, .ref r4, .ref se, .int 0, .int 0, .int 40, .int 0, .int 0])), (xq, .inl (cq, 16, .inr (.inr (.inr (.inr (fun _ => none)))))), (se, .inr (10, [.ref n1, .ref n2, .ref n3, .int 0, .int 0, .int 0, .int 0])), (mo, .inr (16, [.int 0, .ref gl, .ref po, .ref pi, .ref bu, .ref pa, .int 0, .int 0, .int 40, .int 0, .null, .int 0, .int 0])), (pi, .inr (4, [.int 0, .ref G.1, .int 0])), (ou, .inl (cJ, 1, .inr (.inl (fun _ => 0))))]) [0, 3, 8, 9, 12, 15] (by decide) rfl
  have hK := hK.sub (tys' := [(cq, .object "Gatherhouse$Piece"), (cJ, .long)]) [2, 5] rfl
  refine lv_aload_n hx hb dL_law_2573 rfl (lv_at hl 4 rfl) ?_
  refine lv_aload_n hx hb dL_law_2574 rfl (lv_at hl 5 rfl) ?_
  refine lv_iload hx hb dL_law_2575 (lv_at hl 0 rfl) ?_
  refine lv_iconst (v := 1) hx hb dL_law_2577 (by decide) ?_
  refine lv_iadd hx hb dL_law_2578 ?_
  refine lv_topi (fun y_1286 ey_1286 => ?_)
  have ey_1286 : y_1286 = 1 := ey_1286.trans (by decide +kernel)
  subst ey_1286
  refine va_sld hx hb hX hbl hbA hS (vp_in_iff.mpr (by rw [hL]; decide +kernel)) dL_law_2579 ?_
  refine lv_aload_n hx hb dL_law_2580 rfl (lv_at hl 5 rfl) ?_
  refine lv_iload hx hb dL_law_2581 (lv_at hl 0 rfl) ?_
  refine lv_iconst (v := 2) hx hb dL_law_2583 (by decide) ?_
  refine lv_iadd hx hb dL_law_2584 ?_
  refine lv_topi (fun y_1287 ey_1287 => ?_)
  have ey_1287 : y_1287 = 2 := ey_1287.trans (by decide +kernel)
  subst ey_1287
  refine va_sld hx hb hX hbl hbA hS (vp_in_iff.mpr (by rw [hL]; decide +kernel)) dL_law_2585 ?_
  refine lv_aload_n hx hb dL_law_2586 rfl (lv_at hl 5 rfl) ?_
  refine lv_iload hx hb dL_law_2587 (lv_at hl 0 rfl) ?_
  refine lv_iconst (v := 3) hx hb dL_law_2589 (by decide) ?_
  refine lv_iadd hx hb dL_law_2590 ?_
  refine lv_topi (fun y_1288 ey_1288 => ?_)
  have ey_1288 : y_1288 = 3 := ey_1288.trans (by decide +kernel)
  subst ey_1288
  refine va_sld hx hb hX hbl hbA hS (vp_in_iff.mpr (by rw [hL]; decide +kernel)) dL_law_2591 ?_
  refine lv_aload_n hx hb dL_law_2592 rfl (lv_at hl 2 rfl) ?_
  have hFc := va_free (wc := [(xo, .inr (11, [.ref xg, .int 0, .ref xp, .int 0, .ref xq, .int 0, .ref r1, .ref r2, .ref r3, .ref r4, .ref se, .int 0, .int 0, .int 40, .int 0, .int 0])), (xq, .inl (cq, 16, .inr (.inr (.inr (.inr (fun _ => none)))))), (se, .inr (10, [.ref n1, .ref n2, .ref n3, .int 0, .int 0, .int 0, .int 0])), (ou, .inl (cJ, 1, .inr (.inl (fun _ => 0))))]) hD hS hA [0, 1, 2, 5] rfl
  refine vx_calli (vx_runSX (As := [.ref xo, .int (xs (1 : Int32).toNatClampNeg), .int (xs (2 : Int32).toNatClampNeg), .int (xs (3 : Int32).toNatClampNeg), .ref ou]) (rest := []) ⟨hx, hb, hml, hown, hts⟩ (zc_L_set l hnt D G xo xg xp xq r1 r2 r3 r4 se 0 0 cq n1 n2 n3 ou cJ (xs (1 : Int32).toNatClampNeg) (xs (2 : Int32).toNatClampNeg) (xs (3 : Int32).toNatClampNeg) H.size) (vx_cwSW 5 hts gzL_law_L_set_290 rfl rfl rfl (by decide +kernel) ⟨(Nat.le_of_ble_eq_true rfl), (Nat.le_of_ble_eq_true rfl)⟩) ⟨p_RW_blind, (p_RW_at (tc := [(cq, .object "Gatherhouse$Piece"), (cJ, .long)]) (wc := [(xo, .inr (11, [.ref xg, .int 0, .ref xp, .int 0, .ref xq, .int 0, .ref r1, .ref r2, .ref r3, .ref r4, .ref se, .int 0, .int 0, .int 40, .int 0, .int 0])), (xq, .inl (cq, 16, .inr (.inr (.inr (.inr (fun _ => none)))))), (se, .inr (10, [.ref n1, .ref n2, .ref n3, .int 0, .int 0, .int 0, .int 0])), (ou, .inl (cJ, 1, .inr (.inl (fun _ => 0))))]) hP hK hD hS hA hT hZ [0, 1, 2, 5] [0, 1] rfl rfl (by decide) rfl [.ref xo, .int (xs (1 : Int32).toNatClampNeg), .int (xs (2 : Int32).toNatClampNeg), .int (xs (3 : Int32).toNatClampNeg), .ref ou])⟩ rfl rfl hl.1 rfl (lv_room (Nat.le_of_ble_eq_true rfl)) dL_law_2593 ⟨(Nat.le_of_ble_eq_true rfl), (Nat.le_of_ble_eq_true rfl)⟩) hS (fun q _ h => hFc q h) hFc (fun q _ h => hFc q h) (fun E ce q9 u t H locs ht hvm hpx hBX hz1 hk1 hS hce hcv hcl => ?_) (fun r_1289 u t H locs ht hvm w_1290 hB hz1 hk1 hS => ?_)
  · exact (show False from hBX).elim
  · obtain ⟨hP, hD, hK⟩ := q_join (D := D) (wc := [(xo, .inr (11, [.ref xg, .int 0, .ref xp, .int 0, .ref xq, .int 0, .ref r1, .ref r2, .ref r3, .ref r4, .ref se, .int 0, .int 0, .int 40, .int 0, .int 0])), (xq, .inl (cq, 16, .inr (.inr (.inr (.inr (fun _ => none)))))), (se, .inr (10, [.ref n1, .ref n2, .ref n3, .int 0, .int 0, .int 0, .int 0])), (ou, .inl (cJ, 1, .inr (.inl (fun _ => 0))))]) (wr := [(mo, .inr (16, [.int 0, .ref gl, .ref po, .ref pi, .ref bu, .ref pa, .int 0, .int 0, .int 40, .int 0, .null, .int 0, .int 0])), (pi, .inr (4, [.int 0, .ref G.1, .int 0]))]) (w1 := []) (tyr := [(cq, .object "Gatherhouse$Piece"), (cJ, .long)]) (ty1 := []) hP hD hK [0, 1, 2, 5] [3, 4] [0, 1] rfl rfl (by decide) (by decide) rfl hFc hk1 ht hvm (q_none hK hvm)
    have hP : va_P D vwCl [(mo, .inr (16, [.int 0, .ref gl, .ref po, .ref pi, .ref bu, .ref pa, .int 0, .int 0, .int 40, .int 0, .null, .int 0, .int 0])), (pi, .inr (4, [.int 0, .ref G.1, .int 0]))] H := hP
    have hD : va_D A [(mo, .inr (16, [.int 0, .ref gl, .ref po, .ref pi, .ref bu, .ref pa, .int 0, .int 0, .int 40, .int 0, .null, .int 0, .int 0])), (pi, .inr (4, [.int 0, .ref G.1, .int 0]))] := hD
    have hK : va_K D vwCl [(cq, .object "Gatherhouse$Piece"), (cJ, .long)] s := hK
    refine W.widen (k := 64) (n := 324) (Nat.le_of_ble_eq_true rfl) (Nat.le_of_ble_eq_true rfl) ?_
    rcases w_1290 with ⟨c_1291, rfl⟩ | ⟨c_1292, rfl⟩
    · refine lv_istore (lv' := [(6, .int 2), (5, .int 0), (4, .ref od), (3, .ref ou), (2, .ref mo), (1, .ref xo), (0, .ref b)]) hx hb dL_law_2596 hl (by decide) rfl (fun ls hl => ?_)
      refine lv_aload_n hx hb dL_law_2598 rfl (lv_at hl 4 rfl) ?_
      refine lv_aload_n hx hb dL_law_2599 rfl (lv_at hl 6 rfl) ?_
      refine lv_iload hx hb dL_law_2600 (lv_at hl 1 rfl) ?_
      refine lv_iconst (v := 1) hx hb dL_law_2602 (by decide) ?_
      refine lv_iadd hx hb dL_law_2603 ?_
      refine lv_topi (fun y_1293 ey_1293 => ?_)
      have ey_1293 : y_1293 = 1 := ey_1293.trans (by decide +kernel)
      subst ey_1293
      refine va_sld hx hb hX hbl hbA hS (vp_in_iff.mpr (by rw [hL]; decide +kernel)) dL_law_2604 ?_
      refine lv_aload_n hx hb dL_law_2605 rfl (lv_at hl 6 rfl) ?_
      refine lv_iload hx hb dL_law_2606 (lv_at hl 1 rfl) ?_
      refine lv_iconst (v := 2) hx hb dL_law_2608 (by decide) ?_
      refine lv_iadd hx hb dL_law_2609 ?_
      refine lv_topi (fun y_1294 ey_1294 => ?_)
      have ey_1294 : y_1294 = 2 := ey_1294.trans (by decide +kernel)
      subst ey_1294
      refine va_sld hx hb hX hbl hbA hS (vp_in_iff.mpr (by rw [hL]; decide +kernel)) dL_law_2610 ?_
      refine lv_aload_n hx hb dL_law_2611 rfl (lv_at hl 6 rfl) ?_
      refine lv_iload hx hb dL_law_2612 (lv_at hl 1 rfl) ?_
      refine lv_iconst (v := 3) hx hb dL_law_2614 (by decide) ?_
      refine lv_iadd hx hb dL_law_2615 ?_
      refine lv_topi (fun y_1295 ey_1295 => ?_)
      have ey_1295 : y_1295 = 3 := ey_1295.trans (by decide +kernel)
      subst ey_1295
      refine va_sld hx hb hX hbl hbA hS (vp_in_iff.mpr (by rw [hL]; decide +kernel)) dL_law_2616 ?_
      have hFc := va_free (wc := [(mo, .inr (16, [.int 0, .ref gl, .ref po, .ref pi, .ref bu, .ref pa, .int 0, .int 0, .int 40, .int 0, .null, .int 0, .int 0])), (pi, .inr (4, [.int 0, .ref G.1, .int 0]))]) hD hS hA [0, 1] rfl
      refine va_calli (va_runV (As := [.int (xs (1 : Int32).toNatClampNeg), .int (xs (2 : Int32).toNatClampNeg), .int (xs (3 : Int32).toNatClampNeg)]) (rest := []) ⟨hx, hb, hml, hown, hts⟩ (zc_X11_set l D G mo gl po pi bu pa 0 0 0 (xs (1 : Int32).toNatClampNeg) (xs (2 : Int32).toNatClampNeg) (xs (3 : Int32).toNatClampNeg) H.size) (cwV 3 hts gzL_law_X11_set_292 rfl rfl rfl (by decide +kernel) ⟨(Nat.le_of_ble_eq_true rfl), (Nat.le_of_ble_eq_true rfl)⟩) ⟨p_RW_blind, va_recv hK hP (ci := 16) (q0 := 0) rfl rfl, (p_RW_at (tc := []) (wc := [(mo, .inr (16, [.int 0, .ref gl, .ref po, .ref pi, .ref bu, .ref pa, .int 0, .int 0, .int 40, .int 0, .null, .int 0, .int 0])), (pi, .inr (4, [.int 0, .ref G.1, .int 0]))]) hP hK hD hS hA hT hZ [0, 1] [] rfl rfl (by decide) rfl [.ref mo, .int (xs (1 : Int32).toNatClampNeg), .int (xs (2 : Int32).toNatClampNeg), .int (xs (3 : Int32).toNatClampNeg)])⟩ rfl rfl hl.1 rfl (lv_room (Nat.le_of_ble_eq_true rfl)) dL_law_2617 ⟨(Nat.le_of_ble_eq_true rfl), (Nat.le_of_ble_eq_true rfl)⟩) hS (fun q _ h => hFc q h) hFc (fun r_1296 u t H locs ht hvm w_1297 hB hz1 hk1 hS => ?_)
      obtain ⟨u_1298, rfl⟩ : ∃ z, z = u := ⟨_, rfl⟩
      obtain ⟨hP, hD, hK⟩ := q_join (D := D) (wc := [(mo, .inr (16, [.int 0, .ref gl, .ref po, .ref pi, .ref bu, .ref pa, .int 0, .int 0, .int 40, .int 0, .null, .int 0, .int 0])), (pi, .inr (4, [.int 0, .ref G.1, .int 0]))]) (wr := []) (w1 := [(mo, .inr (16, [.int u_1298, .ref gl, .ref po, .ref pi, .ref bu, .ref pa, .int 0, .int 0, .int 40, .int 0, .null, .int 0, .int 0]))]) (tyr := [(cq, .object "Gatherhouse$Piece"), (cJ, .long)]) (ty1 := []) hP hD hK [0, 1] [] [0, 1] rfl rfl (by decide) (by decide) rfl hFc hk1 ht hvm hB
      have hP : va_P D vwCl [(mo, .inr (16, [.int u_1298, .ref gl, .ref po, .ref pi, .ref bu, .ref pa, .int 0, .int 0, .int 40, .int 0, .null, .int 0, .int 0]))] H := hP
      have hD : va_D A [(mo, .inr (16, [.int u_1298, .ref gl, .ref po, .ref pi, .ref bu, .ref pa, .int 0, .int 0, .int 40, .int 0, .null, .int 0, .int 0]))] := hD
      have hK : va_K D vwCl [(cq, .object "Gatherhouse$Piece"), (cJ, .long)] s := hK
      refine W.widen (k := 66) (n := 333) (Nat.le_of_ble_eq_true rfl) (Nat.le_of_ble_eq_true rfl) ?_
      rcases w_1297 with ⟨c_1299, rfl, rfl⟩ | ⟨c_1300, rfl, rfl⟩
      · refine lv_istore (lv' := [(7, .int 0), (6, .int 2), (5, .int 0), (4, .ref od), (3, .ref ou), (2, .ref mo), (1, .ref xo), (0, .ref b)]) hx hb dL_law_2620 hl (by decide) rfl (fun ls hl => ?_)
        refine lv_aload_n hx hb dL_law_2622 rfl (lv_at hl 5 rfl) ?_
        refine vp_callSi (va_runV (As := []) (rest := []) ⟨hx, hb, hml, hown, hts⟩ (zc_X11_thrown l D G mo gl po pi bu pa 2 0 0 40) (cwV 0 hts gzL_law_X11_thrown_165 rfl rfl rfl (by decide +kernel) ⟨(Nat.le_of_ble_eq_true rfl), (Nat.le_of_ble_eq_true rfl)⟩) ⟨p_RO_blind, va_recv hK hP (ci := 16) (q0 := 0) rfl rfl, (p_RO_at (tc := []) (wc := [(mo, .inr (16, [.int 2, .ref gl, .ref po, .ref pi, .ref bu, .ref pa, .int 0, .int 0, .int 40, .int 0, .null, .int 0, .int 0]))]) hP hK hT [0] [] rfl rfl [.ref mo])⟩ rfl rfl hl.1 rfl (lv_room (Nat.le_of_ble_eq_true rfl)) dL_law_2623 ⟨(Nat.le_of_ble_eq_true rfl), (Nat.le_of_ble_eq_true rfl)⟩).run (fun r_1301 w_1302 => ?_)
        obtain rfl := w_1302
        refine lv_iload hx hb dL_law_2626 (lv_at hl 1 rfl) ?_
        refine lv_icmp_eq (tgt := 2633) hx hb dL_law_2628 (by decide) (fun _ => ?_) (fun cc => absurd (by decide) cc)
        refine lv_iload hx hb dL_law_2633 (lv_at hl 1 rfl) ?_
        refine lv_if_ne (tgt := 2650) hx hb dL_law_2635 (by decide) (fun _ => ?_) (fun cc => absurd cc (by decide))
        refine lv_goto (tgt := 2999) hx hb dL_law_2650 (by decide) ?_
        refine W.widen (k := 797152) (n := 6710780) (Nat.le_of_ble_eq_true rfl) (Nat.le_of_ble_eq_true rfl) ?_
        exact hE _ _ _ hS (lv_sub hl [7, 2] rfl)
      · exact absurd c_1291 c_1300
    · refine lv_istore (lv' := [(6, .int 1), (5, .int 0), (4, .ref od), (3, .ref ou), (2, .ref mo), (1, .ref xo), (0, .ref b)]) hx hb dL_law_2596 hl (by decide) rfl (fun ls hl => ?_)
      refine lv_aload_n hx hb dL_law_2598 rfl (lv_at hl 4 rfl) ?_
      refine lv_aload_n hx hb dL_law_2599 rfl (lv_at hl 6 rfl) ?_
      refine lv_iload hx hb dL_law_2600 (lv_at hl 1 rfl) ?_
      refine lv_iconst (v := 1) hx hb dL_law_2602 (by decide) ?_
      refine lv_iadd hx hb dL_law_2603 ?_
      refine lv_topi (fun y_1303 ey_1303 => ?_)
      have ey_1303 : y_1303 = 1 := ey_1303.trans (by decide +kernel)
      subst ey_1303
      refine va_sld hx hb hX hbl hbA hS (vp_in_iff.mpr (by rw [hL]; decide +kernel)) dL_law_2604 ?_
      refine lv_aload_n hx hb dL_law_2605 rfl (lv_at hl 6 rfl) ?_
      refine lv_iload hx hb dL_law_2606 (lv_at hl 1 rfl) ?_
      refine lv_iconst (v := 2) hx hb dL_law_2608 (by decide) ?_
      refine lv_iadd hx hb dL_law_2609 ?_
      refine lv_topi (fun y_1304 ey_1304 => ?_)
      have ey_1304 : y_1304 = 2 := ey_1304.trans (by decide +kernel)
      subst ey_1304
      refine va_sld hx hb hX hbl hbA hS (vp_in_iff.mpr (by rw [hL]; decide +kernel)) dL_law_2610 ?_
      refine lv_aload_n hx hb dL_law_2611 rfl (lv_at hl 6 rfl) ?_
      refine lv_iload hx hb dL_law_2612 (lv_at hl 1 rfl) ?_
      refine lv_iconst (v := 3) hx hb dL_law_2614 (by decide) ?_
      refine lv_iadd hx hb dL_law_2615 ?_
      refine lv_topi (fun y_1305 ey_1305 => ?_)
      have ey_1305 : y_1305 = 3 := ey_1305.trans (by decide +kernel)
      subst ey_1305
      refine va_sld hx hb hX hbl hbA hS (vp_in_iff.mpr (by rw [hL]; decide +kernel)) dL_law_2616 ?_
      have hFc := va_free (wc := [(mo, .inr (16, [.int 0, .ref gl, .ref po, .ref pi, .ref bu, .ref pa, .int 0, .int 0, .int 40, .int 0, .null, .int 0, .int 0])), (pi, .inr (4, [.int 0, .ref G.1, .int 0]))]) hD hS hA [0, 1] rfl
      refine va_calli (va_runV (As := [.int (xs (1 : Int32).toNatClampNeg), .int (xs (2 : Int32).toNatClampNeg), .int (xs (3 : Int32).toNatClampNeg)]) (rest := []) ⟨hx, hb, hml, hown, hts⟩ (zc_X11_set l D G mo gl po pi bu pa 0 0 0 (xs (1 : Int32).toNatClampNeg) (xs (2 : Int32).toNatClampNeg) (xs (3 : Int32).toNatClampNeg) H.size) (cwV 3 hts gzL_law_X11_set_292 rfl rfl rfl (by decide +kernel) ⟨(Nat.le_of_ble_eq_true rfl), (Nat.le_of_ble_eq_true rfl)⟩) ⟨p_RW_blind, va_recv hK hP (ci := 16) (q0 := 0) rfl rfl, (p_RW_at (tc := []) (wc := [(mo, .inr (16, [.int 0, .ref gl, .ref po, .ref pi, .ref bu, .ref pa, .int 0, .int 0, .int 40, .int 0, .null, .int 0, .int 0])), (pi, .inr (4, [.int 0, .ref G.1, .int 0]))]) hP hK hD hS hA hT hZ [0, 1] [] rfl rfl (by decide) rfl [.ref mo, .int (xs (1 : Int32).toNatClampNeg), .int (xs (2 : Int32).toNatClampNeg), .int (xs (3 : Int32).toNatClampNeg)])⟩ rfl rfl hl.1 rfl (lv_room (Nat.le_of_ble_eq_true rfl)) dL_law_2617 ⟨(Nat.le_of_ble_eq_true rfl), (Nat.le_of_ble_eq_true rfl)⟩) hS (fun q _ h => hFc q h) hFc (fun r_1306 u t H locs ht hvm w_1307 hB hz1 hk1 hS => ?_)
      obtain ⟨u_1308, rfl⟩ : ∃ z, z = u := ⟨_, rfl⟩
      obtain ⟨hP, hD, hK⟩ := q_join (D := D) (wc := [(mo, .inr (16, [.int 0, .ref gl, .ref po, .ref pi, .ref bu, .ref pa, .int 0, .int 0, .int 40, .int 0, .null, .int 0, .int 0])), (pi, .inr (4, [.int 0, .ref G.1, .int 0]))]) (wr := []) (w1 := [(mo, .inr (16, [.int u_1308, .ref gl, .ref po, .ref pi, .ref bu, .ref pa, .int 0, .int 0, .int 40, .int 0, .null, .int 0, .int 0]))]) (tyr := [(cq, .object "Gatherhouse$Piece"), (cJ, .long)]) (ty1 := []) hP hD hK [0, 1] [] [0, 1] rfl rfl (by decide) (by decide) rfl hFc hk1 ht hvm hB
      have hP : va_P D vwCl [(mo, .inr (16, [.int u_1308, .ref gl, .ref po, .ref pi, .ref bu, .ref pa, .int 0, .int 0, .int 40, .int 0, .null, .int 0, .int 0]))] H := hP
      have hD : va_D A [(mo, .inr (16, [.int u_1308, .ref gl, .ref po, .ref pi, .ref bu, .ref pa, .int 0, .int 0, .int 40, .int 0, .null, .int 0, .int 0]))] := hD
      have hK : va_K D vwCl [(cq, .object "Gatherhouse$Piece"), (cJ, .long)] s := hK
      refine W.widen (k := 66) (n := 333) (Nat.le_of_ble_eq_true rfl) (Nat.le_of_ble_eq_true rfl) ?_
      rcases w_1307 with ⟨c_1309, rfl, rfl⟩ | ⟨c_1310, rfl, rfl⟩
      · exact absurd c_1309 c_1292
      · refine lv_istore (lv' := [(7, .int 0), (6, .int 1), (5, .int 0), (4, .ref od), (3, .ref ou), (2, .ref mo), (1, .ref xo), (0, .ref b)]) hx hb dL_law_2620 hl (by decide) rfl (fun ls hl => ?_)
        refine lv_aload_n hx hb dL_law_2622 rfl (lv_at hl 5 rfl) ?_
        refine vp_callSi (va_runV (As := []) (rest := []) ⟨hx, hb, hml, hown, hts⟩ (zc_X11_thrown l D G mo gl po pi bu pa 1 0 0 40) (cwV 0 hts gzL_law_X11_thrown_165 rfl rfl rfl (by decide +kernel) ⟨(Nat.le_of_ble_eq_true rfl), (Nat.le_of_ble_eq_true rfl)⟩) ⟨p_RO_blind, va_recv hK hP (ci := 16) (q0 := 0) rfl rfl, (p_RO_at (tc := []) (wc := [(mo, .inr (16, [.int 1, .ref gl, .ref po, .ref pi, .ref bu, .ref pa, .int 0, .int 0, .int 40, .int 0, .null, .int 0, .int 0]))]) hP hK hT [0] [] rfl rfl [.ref mo])⟩ rfl rfl hl.1 rfl (lv_room (Nat.le_of_ble_eq_true rfl)) dL_law_2623 ⟨(Nat.le_of_ble_eq_true rfl), (Nat.le_of_ble_eq_true rfl)⟩).run (fun r_1311 w_1312 => ?_)
        obtain rfl := w_1312
        refine lv_iload hx hb dL_law_2626 (lv_at hl 1 rfl) ?_
        refine lv_icmp_eq (tgt := 2633) hx hb dL_law_2628 (by decide) (fun _ => ?_) (fun cc => absurd (by decide) cc)
        refine lv_iload hx hb dL_law_2633 (lv_at hl 1 rfl) ?_
        refine lv_if_ne (tgt := 2650) hx hb dL_law_2635 (by decide) (fun _ => ?_) (fun cc => absurd cc (by decide))
        refine lv_goto (tgt := 2999) hx hb dL_law_2650 (by decide) ?_
        refine W.widen (k := 797152) (n := 6710780) (Nat.le_of_ble_eq_true rfl) (Nat.le_of_ble_eq_true rfl) ?_
        exact hE _ _ _ hS (lv_sub hl [7, 2] rfl)
theorem dL_law_2653 : decode cL_law 2653 = .ok (.aload_n 1, 1) := by decide +kernel
theorem dL_law_2654 : decode cL_law 2654 = .ok (.aload_n 0, 1) := by decide +kernel
theorem dL_law_2655 : decode cL_law 2655 = .ok (.iload 5, 2) := by decide +kernel
theorem dL_law_2657 : decode cL_law 2657 = .ok (.iconst 1, 1) := by decide +kernel
theorem dL_law_2658 : decode cL_law 2658 = .ok (.iadd, 1) := by decide +kernel
theorem dL_law_2659 : decode cL_law 2659 = .ok (.iaload, 1) := by decide +kernel
theorem dL_law_2660 : decode cL_law 2660 = .ok (.aload_n 3, 1) := by decide +kernel
theorem dL_law_2661 : decode cL_law 2661 = .ok (.invokestatic 293, 3) := by decide +kernel
theorem dL_law_2664 : decode cL_law 2664 = .ok (.istore 6, 2) := by decide +kernel
theorem dL_law_2666 : decode cL_law 2666 = .ok (.aload_n 2, 1) := by decide +kernel
theorem dL_law_2667 : decode cL_law 2667 = .ok (.aload_n 0, 1) := by decide +kernel
theorem dL_law_2668 : decode cL_law 2668 = .ok (.iload 5, 2) := by decide +kernel
theorem dL_law_2670 : decode cL_law 2670 = .ok (.iconst 1, 1) := by decide +kernel
theorem dL_law_2671 : decode cL_law 2671 = .ok (.iadd, 1) := by decide +kernel
theorem dL_law_2672 : decode cL_law 2672 = .ok (.iaload, 1) := by decide +kernel
theorem dL_law_2673 : decode cL_law 2673 = .ok (.invokevirtual 295, 3) := by decide +kernel
theorem dL_law_2676 : decode cL_law 2676 = .ok (.istore 7, 2) := by decide +kernel
theorem dL_law_2678 : decode cL_law 2678 = .ok (.aload_n 2, 1) := by decide +kernel
theorem dL_law_2679 : decode cL_law 2679 = .ok (.invokevirtual 165, 3) := by decide +kernel
theorem dL_law_2682 : decode cL_law 2682 = .ok (.iload 6, 2) := by decide +kernel
theorem dL_law_2684 : decode cL_law 2684 = .ok (.if_icmp .eq 5, 3) := by decide +kernel
theorem dL_law_2689 : decode cL_law 2689 = .ok (.iload 6, 2) := by decide +kernel
theorem dL_law_2691 : decode cL_law 2691 = .ok (.ifCond .ne 22, 3) := by decide +kernel
theorem dL_law_2713 : decode cL_law 2713 = .ok (.goto 286, 3) := by decide +kernel
set_option maxHeartbeats 4000000 in
set_option maxRecDepth 100000 in
theorem zl_39 {p : Program} {e : Env} {s : State} {m : MethodId} {below : List Frame} {meth : Method} {c : Code} {Q : State → Prop} {args : Array Value} (l : Launch) (hnt : l.stackTraces = false) (D : va_G) (G : Nat × Nat × Nat) (xo : Nat) (xg : Nat) (xp : Nat) (xq : Nat) (r1 : Nat) (r2 : Nat) (r3 : Nat) (r4 : Nat) (se : Nat) (n1 : Nat) (n2 : Nat) (n3 : Nat) (mo : Nat) (gl : Nat) (po : Nat) (pi : Nat) (bu : Nat) (pa : Nat) (ou : Nat) (od : Nat) (cg : ClassId) (cp : ClassId) (cq : ClassId) (ci : ClassId) (cj : ClassId) (cJ : ClassId) (cD : ClassId) {b L : Nat} {xs : Nat → Int32} {A : Nat → Prop} {H : Heap} {locs : List Loc} {ls : Array Slot} (hx : p.tables.exec = Jvm.exec) (hb : c.code = code) (hml : c.maxLocals = 9) (hown : s.vm.findClass RL = some m.cls) (hts : ∀ w ∈ wzL_law, w.before args s = true) (hT : FT G s) (hA : ∀ q : Nat, s.heap.size ≤ q → A q) (hZ : FZ G A s s.heap) (hX : va_X b L xs s s.heap) (hbl : b < s.heap.size) (hbA : ¬ A b) (hL : L = 5) (hK : va_K D vwCl [(cg, .object "Gatherhouse$Glass"), (cp, .object "Gatherhouse$Pot"), (cq, .object "Gatherhouse$Piece"), (ci, .int), (cj, .int), (cJ, .long), (cD, .double)] s) (hP : va_P D vwCl [(xo, .inr (11, [.ref xg, .int 0, .ref xp, .int 0, .ref xq, .int 0, .ref r1, .ref r2, .ref r3, .ref r4, .ref se, .int 0, .int 0, .int 40, .int 0, .int 0])), (xg, .inl (cg, 6, .inr (.inr (.inr (.inr (fun _ => none)))))), (xp, .inl (cp, 4, .inr (.inr (.inr (.inr (fun _ => none)))))), (xq, .inl (cq, 16, .inr (.inr (.inr (.inr (fun _ => none)))))), (r1, .inr (9, [.int 0, .int 0])), (r2, .inr (9, [.int 0, .int 0])), (r3, .inr (9, [.int 0, .int 0])), (r4, .inr (9, [.int 0, .int 0])), (se, .inr (10, [.ref n1, .ref n2, .ref n3, .int 0, .int 0, .int 0, .int 0])), (mo, .inr (16, [.int 0, .ref gl, .ref po, .ref pi, .ref bu, .ref pa, .int 0, .int 0, .int 40, .int 0, .null, .int 0, .int 0])), (gl, .inr (4, [.int 0, .ref G.1, .int 0])), (po, .inr (4, [.int 0, .ref G.1, .int 0])), (pi, .inr (4, [.int 0, .ref G.1, .int 0])), (bu, .inl (ci, 4, .inl (fun _ => 0))), (pa, .inl (cj, 4, .inl (fun _ => 0))), (ou, .inl (cJ, 1, .inr (.inl (fun _ => 0)))), (od, .inl (cD, 1, .inr (.inr (.inr (.inl (fun _ => 0))))))] H) (hD : va_D A [(xo, .inr (11, [.ref xg, .int 0, .ref xp, .int 0, .ref xq, .int 0, .ref r1, .ref r2, .ref r3, .ref r4, .ref se, .int 0, .int 0, .int 40, .int 0, .int 0])), (xg, .inl (cg, 6, .inr (.inr (.inr (.inr (fun _ => none)))))), (xp, .inl (cp, 4, .inr (.inr (.inr (.inr (fun _ => none)))))), (xq, .inl (cq, 16, .inr (.inr (.inr (.inr (fun _ => none)))))), (r1, .inr (9, [.int 0, .int 0])), (r2, .inr (9, [.int 0, .int 0])), (r3, .inr (9, [.int 0, .int 0])), (r4, .inr (9, [.int 0, .int 0])), (se, .inr (10, [.ref n1, .ref n2, .ref n3, .int 0, .int 0, .int 0, .int 0])), (mo, .inr (16, [.int 0, .ref gl, .ref po, .ref pi, .ref bu, .ref pa, .int 0, .int 0, .int 40, .int 0, .null, .int 0, .int 0])), (gl, .inr (4, [.int 0, .ref G.1, .int 0])), (po, .inr (4, [.int 0, .ref G.1, .int 0])), (pi, .inr (4, [.int 0, .ref G.1, .int 0])), (bu, .inl (ci, 4, .inl (fun _ => 0))), (pa, .inl (cj, 4, .inl (fun _ => 0))), (ou, .inl (cJ, 1, .inr (.inl (fun _ => 0)))), (od, .inl (cD, 1, .inr (.inr (.inr (.inl (fun _ => 0))))))]) (hS : va_S A s.heap H locs) (hl : lv_has ls 9 [(5, .int 0), (4, .ref od), (3, .ref ou), (2, .ref mo), (1, .ref xo), (0, .ref b)]) (hE : ∀ (H : Heap) (locs : List Loc) (ls : Array Slot), va_S A s.heap H locs → lv_has ls 9 [(0, .ref b), (5, .int 0)] → W p l e room_1 s m args below meth c H locs 797152 6710780 Q (F0 m 2999 ls [])) : W p l e room_1 s m args below meth c H locs 60 300 Q (F0 m 2653 ls []) := by
  have hP := hP.sub (ws' := [(xo, .inr (11, [.ref xg, .int 0, .ref xp, .int 0, .ref xq, .int 0, .ref r1, .ref r2, .ref r3, .ref r4, .ref se, .int 0, .int 0, .int 40, .int 0, .int 0])), (xq, .inl (cq, 16, .inr (.inr (.inr (.inr (fun _ => none)))))), (mo, .inr (16, [.int 0, .ref gl, .ref po, .ref pi, .ref bu, .ref pa, .int 0, .int 0, .int 40, .int 0, .null, .int 0, .int 0])), (pi, .inr (4, [.int 0, .ref G.1, .int 0])), (ou, .inl (cJ, 1, .inr (.inl (fun _ => 0))))]) [0, 3, 9, 12, 15] rfl
  have hD := hD.sub (ws' := [(xo, .inr (11, [.ref xg, .int 0, .ref xp, .int 0, .ref xq, .int 0, .ref r1, .ref r2, .ref r3, .ref r4, .ref se, .int 0, .int 0, .int 40, .int 0, .int 0])), (xq, .inl (cq, 16, .inr (.inr (.inr (.inr (fun _ => none)))))), (mo, .inr (16, [.int 0, .ref gl, .ref po, .ref pi, .ref bu, .ref pa, .int 0, .int 0, .int 40, .int 0, .null, .int 0, .int 0])), (pi, .inr (4, [.int 0, .ref G.1, .int 0])), (ou, .inl (cJ, 1, .inr (.inl (fun _ => 0))))]) [0, 3, 9, 12, 15] (by decide) rfl
  have hK := hK.sub (tys' := [(cq, .object "Gatherhouse$Piece"), (cJ, .long)]) [2, 5] rfl
  refine lv_aload_n hx hb dL_law_2653 rfl (lv_at hl 4 rfl) ?_
  refine lv_aload_n hx hb dL_law_2654 rfl (lv_at hl 5 rfl) ?_
  refine lv_iload hx hb dL_law_2655 (lv_at hl 0 rfl) ?_
  refine lv_iconst (v := 1) hx hb dL_law_2657 (by decide) ?_
  refine lv_iadd hx hb dL_law_2658 ?_
  refine lv_topi (fun y_1313 ey_1313 => ?_)
  have ey_1313 : y_1313 = 1 := ey_1313.trans (by decide +kernel)
  subst ey_1313
  refine va_sld hx hb hX hbl hbA hS (vp_in_iff.mpr (by rw [hL]; decide +kernel)) dL_law_2659 ?_
  refine lv_aload_n hx hb dL_law_2660 rfl (lv_at hl 2 rfl) ?_
  have hFc := va_free (wc := [(xo, .inr (11, [.ref xg, .int 0, .ref xp, .int 0, .ref xq, .int 0, .ref r1, .ref r2, .ref r3, .ref r4, .ref se, .int 0, .int 0, .int 40, .int 0, .int 0])), (xq, .inl (cq, 16, .inr (.inr (.inr (.inr (fun _ => none)))))), (ou, .inl (cJ, 1, .inr (.inl (fun _ => 0))))]) hD hS hA [0, 1, 4] rfl
  refine vx_calli (vx_runSX (As := [.ref xo, .int (xs (1 : Int32).toNatClampNeg), .ref ou]) (rest := []) ⟨hx, hb, hml, hown, hts⟩ (zc_L_isInSet l hnt D G xo xg xp xq r1 r2 r3 r4 se 0 0 cq ou cJ (xs (1 : Int32).toNatClampNeg) H.size) (vx_cwSW 3 hts gzL_law_L_isInSet_293 rfl rfl rfl (by decide +kernel) ⟨(Nat.le_of_ble_eq_true rfl), (Nat.le_of_ble_eq_true rfl)⟩) ⟨p_RW_blind, (p_RW_at (tc := [(cq, .object "Gatherhouse$Piece"), (cJ, .long)]) (wc := [(xo, .inr (11, [.ref xg, .int 0, .ref xp, .int 0, .ref xq, .int 0, .ref r1, .ref r2, .ref r3, .ref r4, .ref se, .int 0, .int 0, .int 40, .int 0, .int 0])), (xq, .inl (cq, 16, .inr (.inr (.inr (.inr (fun _ => none)))))), (ou, .inl (cJ, 1, .inr (.inl (fun _ => 0))))]) hP hK hD hS hA hT hZ [0, 1, 4] [0, 1] rfl rfl (by decide) rfl [.ref xo, .int (xs (1 : Int32).toNatClampNeg), .ref ou])⟩ rfl rfl hl.1 rfl (lv_room (Nat.le_of_ble_eq_true rfl)) dL_law_2661 ⟨(Nat.le_of_ble_eq_true rfl), (Nat.le_of_ble_eq_true rfl)⟩) hS (fun q _ h => hFc q h) hFc (fun q _ h => hFc q h) (fun E ce q9 u t H locs ht hvm hpx hBX hz1 hk1 hS hce hcv hcl => ?_) (fun r_1314 u t H locs ht hvm w_1315 hB hz1 hk1 hS => ?_)
  · exact (show False from hBX).elim
  · obtain ⟨hP, hD, hK⟩ := q_join (D := D) (wc := [(xo, .inr (11, [.ref xg, .int 0, .ref xp, .int 0, .ref xq, .int 0, .ref r1, .ref r2, .ref r3, .ref r4, .ref se, .int 0, .int 0, .int 40, .int 0, .int 0])), (xq, .inl (cq, 16, .inr (.inr (.inr (.inr (fun _ => none)))))), (ou, .inl (cJ, 1, .inr (.inl (fun _ => 0))))]) (wr := [(mo, .inr (16, [.int 0, .ref gl, .ref po, .ref pi, .ref bu, .ref pa, .int 0, .int 0, .int 40, .int 0, .null, .int 0, .int 0])), (pi, .inr (4, [.int 0, .ref G.1, .int 0]))]) (w1 := []) (tyr := [(cq, .object "Gatherhouse$Piece"), (cJ, .long)]) (ty1 := []) hP hD hK [0, 1, 4] [2, 3] [0, 1] rfl rfl (by decide) (by decide) rfl hFc hk1 ht hvm (q_none hK hvm)
    have hP : va_P D vwCl [(mo, .inr (16, [.int 0, .ref gl, .ref po, .ref pi, .ref bu, .ref pa, .int 0, .int 0, .int 40, .int 0, .null, .int 0, .int 0])), (pi, .inr (4, [.int 0, .ref G.1, .int 0]))] H := hP
    have hD : va_D A [(mo, .inr (16, [.int 0, .ref gl, .ref po, .ref pi, .ref bu, .ref pa, .int 0, .int 0, .int 40, .int 0, .null, .int 0, .int 0])), (pi, .inr (4, [.int 0, .ref G.1, .int 0]))] := hD
    have hK : va_K D vwCl [(cq, .object "Gatherhouse$Piece"), (cJ, .long)] s := hK
    refine W.widen (k := 61) (n := 306) (Nat.le_of_ble_eq_true rfl) (Nat.le_of_ble_eq_true rfl) ?_
    obtain rfl := w_1315
    refine lv_istore (lv' := [(6, .int 1), (5, .int 0), (4, .ref od), (3, .ref ou), (2, .ref mo), (1, .ref xo), (0, .ref b)]) hx hb dL_law_2664 hl (by decide) rfl (fun ls hl => ?_)
    refine lv_aload_n hx hb dL_law_2666 rfl (lv_at hl 4 rfl) ?_
    refine lv_aload_n hx hb dL_law_2667 rfl (lv_at hl 6 rfl) ?_
    refine lv_iload hx hb dL_law_2668 (lv_at hl 1 rfl) ?_
    refine lv_iconst (v := 1) hx hb dL_law_2670 (by decide) ?_
    refine lv_iadd hx hb dL_law_2671 ?_
    refine lv_topi (fun y_1316 ey_1316 => ?_)
    have ey_1316 : y_1316 = 1 := ey_1316.trans (by decide +kernel)
    subst ey_1316
    refine va_sld hx hb hX hbl hbA hS (vp_in_iff.mpr (by rw [hL]; decide +kernel)) dL_law_2672 ?_
    have hFc := va_free (wc := [(mo, .inr (16, [.int 0, .ref gl, .ref po, .ref pi, .ref bu, .ref pa, .int 0, .int 0, .int 40, .int 0, .null, .int 0, .int 0])), (pi, .inr (4, [.int 0, .ref G.1, .int 0]))]) hD hS hA [0, 1] rfl
    refine va_calli (va_runV (As := [.int (xs (1 : Int32).toNatClampNeg)]) (rest := []) ⟨hx, hb, hml, hown, hts⟩ (zc_X11_isInSet l D G mo gl po pi bu pa 0 0 0 (xs (1 : Int32).toNatClampNeg) H.size) (cwV 1 hts gzL_law_X11_isInSet_295 rfl rfl rfl (by decide +kernel) ⟨(Nat.le_of_ble_eq_true rfl), (Nat.le_of_ble_eq_true rfl)⟩) ⟨p_RW_blind, va_recv hK hP (ci := 16) (q0 := 0) rfl rfl, (p_RW_at (tc := []) (wc := [(mo, .inr (16, [.int 0, .ref gl, .ref po, .ref pi, .ref bu, .ref pa, .int 0, .int 0, .int 40, .int 0, .null, .int 0, .int 0])), (pi, .inr (4, [.int 0, .ref G.1, .int 0]))]) hP hK hD hS hA hT hZ [0, 1] [] rfl rfl (by decide) rfl [.ref mo, .int (xs (1 : Int32).toNatClampNeg)])⟩ rfl rfl hl.1 rfl (lv_room (Nat.le_of_ble_eq_true rfl)) dL_law_2673 ⟨(Nat.le_of_ble_eq_true rfl), (Nat.le_of_ble_eq_true rfl)⟩) hS (fun q _ h => hFc q h) hFc (fun r_1317 u t H locs ht hvm w_1318 hB hz1 hk1 hS => ?_)
    obtain ⟨hP, hD, hK⟩ := q_join (D := D) (wc := [(mo, .inr (16, [.int 0, .ref gl, .ref po, .ref pi, .ref bu, .ref pa, .int 0, .int 0, .int 40, .int 0, .null, .int 0, .int 0])), (pi, .inr (4, [.int 0, .ref G.1, .int 0]))]) (wr := []) (w1 := [(mo, .inr (16, [.int 1, .ref gl, .ref po, .ref pi, .ref bu, .ref pa, .int 0, .int 0, .int 40, .int 0, .null, .int 0, .int 0])), (pi, .inr (4, [.int 0, .ref G.1, .int 0]))]) (tyr := [(cq, .object "Gatherhouse$Piece"), (cJ, .long)]) (ty1 := []) hP hD hK [0, 1] [] [0, 1] rfl rfl (by decide) (by decide) rfl hFc hk1 ht hvm hB
    have hP : va_P D vwCl [(mo, .inr (16, [.int 1, .ref gl, .ref po, .ref pi, .ref bu, .ref pa, .int 0, .int 0, .int 40, .int 0, .null, .int 0, .int 0])), (pi, .inr (4, [.int 0, .ref G.1, .int 0]))] H := hP
    have hD : va_D A [(mo, .inr (16, [.int 1, .ref gl, .ref po, .ref pi, .ref bu, .ref pa, .int 0, .int 0, .int 40, .int 0, .null, .int 0, .int 0])), (pi, .inr (4, [.int 0, .ref G.1, .int 0]))] := hD
    have hK : va_K D vwCl [(cq, .object "Gatherhouse$Piece"), (cJ, .long)] s := hK
    obtain rfl := w_1318
    refine lv_istore (lv' := [(7, .int 0), (6, .int 1), (5, .int 0), (4, .ref od), (3, .ref ou), (2, .ref mo), (1, .ref xo), (0, .ref b)]) hx hb dL_law_2676 hl (by decide) rfl (fun ls hl => ?_)
    refine lv_aload_n hx hb dL_law_2678 rfl (lv_at hl 5 rfl) ?_
    refine vp_callSi (va_runV (As := []) (rest := []) ⟨hx, hb, hml, hown, hts⟩ (zc_X11_thrown l D G mo gl po pi bu pa 1 0 0 40) (cwV 0 hts gzL_law_X11_thrown_165 rfl rfl rfl (by decide +kernel) ⟨(Nat.le_of_ble_eq_true rfl), (Nat.le_of_ble_eq_true rfl)⟩) ⟨p_RO_blind, va_recv hK hP (ci := 16) (q0 := 0) rfl rfl, (p_RO_at (tc := []) (wc := [(mo, .inr (16, [.int 1, .ref gl, .ref po, .ref pi, .ref bu, .ref pa, .int 0, .int 0, .int 40, .int 0, .null, .int 0, .int 0]))]) hP hK hT [0] [] rfl rfl [.ref mo])⟩ rfl rfl hl.1 rfl (lv_room (Nat.le_of_ble_eq_true rfl)) dL_law_2679 ⟨(Nat.le_of_ble_eq_true rfl), (Nat.le_of_ble_eq_true rfl)⟩).run (fun r_1319 w_1320 => ?_)
    obtain rfl := w_1320
    refine lv_iload hx hb dL_law_2682 (lv_at hl 1 rfl) ?_
    refine lv_icmp_eq (tgt := 2689) hx hb dL_law_2684 (by decide) (fun _ => ?_) (fun cc => absurd (by decide) cc)
    refine lv_iload hx hb dL_law_2689 (lv_at hl 1 rfl) ?_
    refine lv_if_ne (tgt := 2713) hx hb dL_law_2691 (by decide) (fun _ => ?_) (fun cc => absurd cc (by decide))
    refine lv_goto (tgt := 2999) hx hb dL_law_2713 (by decide) ?_
    refine W.widen (k := 797152) (n := 6710780) (Nat.le_of_ble_eq_true rfl) (Nat.le_of_ble_eq_true rfl) ?_
    exact hE _ _ _ hS (lv_sub hl [7, 2] rfl)
theorem dL_law_2716 : decode cL_law 2716 = .ok (.aload_n 1, 1) := by decide +kernel
theorem dL_law_2717 : decode cL_law 2717 = .ok (.aload_n 0, 1) := by decide +kernel
theorem dL_law_2718 : decode cL_law 2718 = .ok (.iload 5, 2) := by decide +kernel
theorem dL_law_2720 : decode cL_law 2720 = .ok (.iconst 1, 1) := by decide +kernel
theorem dL_law_2721 : decode cL_law 2721 = .ok (.iadd, 1) := by decide +kernel
theorem dL_law_2722 : decode cL_law 2722 = .ok (.iaload, 1) := by decide +kernel
theorem dL_law_2723 : decode cL_law 2723 = .ok (.aload_n 3, 1) := by decide +kernel
theorem dL_law_2724 : decode cL_law 2724 = .ok (.invokestatic 296, 3) := by decide +kernel
theorem dL_law_2727 : decode cL_law 2727 = .ok (.istore 6, 2) := by decide +kernel
theorem dL_law_2729 : decode cL_law 2729 = .ok (.aload_n 2, 1) := by decide +kernel
theorem dL_law_2730 : decode cL_law 2730 = .ok (.aload_n 0, 1) := by decide +kernel
theorem dL_law_2731 : decode cL_law 2731 = .ok (.iload 5, 2) := by decide +kernel
theorem dL_law_2733 : decode cL_law 2733 = .ok (.iconst 1, 1) := by decide +kernel
theorem dL_law_2734 : decode cL_law 2734 = .ok (.iadd, 1) := by decide +kernel
theorem dL_law_2735 : decode cL_law 2735 = .ok (.iaload, 1) := by decide +kernel
theorem dL_law_2736 : decode cL_law 2736 = .ok (.invokevirtual 298, 3) := by decide +kernel
theorem dL_law_2739 : decode cL_law 2739 = .ok (.istore 7, 2) := by decide +kernel
theorem dL_law_2741 : decode cL_law 2741 = .ok (.aload_n 2, 1) := by decide +kernel
theorem dL_law_2742 : decode cL_law 2742 = .ok (.invokevirtual 165, 3) := by decide +kernel
theorem dL_law_2745 : decode cL_law 2745 = .ok (.iload 6, 2) := by decide +kernel
theorem dL_law_2747 : decode cL_law 2747 = .ok (.if_icmp .eq 5, 3) := by decide +kernel
theorem dL_law_2752 : decode cL_law 2752 = .ok (.iload 6, 2) := by decide +kernel
theorem dL_law_2754 : decode cL_law 2754 = .ok (.ifCond .ne 15, 3) := by decide +kernel
theorem dL_law_2769 : decode cL_law 2769 = .ok (.goto 230, 3) := by decide +kernel
set_option maxHeartbeats 4000000 in
set_option maxRecDepth 100000 in
theorem zl_40 {p : Program} {e : Env} {s : State} {m : MethodId} {below : List Frame} {meth : Method} {c : Code} {Q : State → Prop} {args : Array Value} (l : Launch) (hnt : l.stackTraces = false) (D : va_G) (G : Nat × Nat × Nat) (xo : Nat) (xg : Nat) (xp : Nat) (xq : Nat) (r1 : Nat) (r2 : Nat) (r3 : Nat) (r4 : Nat) (se : Nat) (n1 : Nat) (n2 : Nat) (n3 : Nat) (mo : Nat) (gl : Nat) (po : Nat) (pi : Nat) (bu : Nat) (pa : Nat) (ou : Nat) (od : Nat) (cg : ClassId) (cp : ClassId) (cq : ClassId) (ci : ClassId) (cj : ClassId) (cJ : ClassId) (cD : ClassId) {b L : Nat} {xs : Nat → Int32} {A : Nat → Prop} {H : Heap} {locs : List Loc} {ls : Array Slot} (hx : p.tables.exec = Jvm.exec) (hb : c.code = code) (hml : c.maxLocals = 9) (hown : s.vm.findClass RL = some m.cls) (hts : ∀ w ∈ wzL_law, w.before args s = true) (hT : FT G s) (hA : ∀ q : Nat, s.heap.size ≤ q → A q) (hZ : FZ G A s s.heap) (hX : va_X b L xs s s.heap) (hbl : b < s.heap.size) (hbA : ¬ A b) (hL : L = 5) (hK : va_K D vwCl [(cg, .object "Gatherhouse$Glass"), (cp, .object "Gatherhouse$Pot"), (cq, .object "Gatherhouse$Piece"), (ci, .int), (cj, .int), (cJ, .long), (cD, .double)] s) (hP : va_P D vwCl [(xo, .inr (11, [.ref xg, .int 0, .ref xp, .int 0, .ref xq, .int 0, .ref r1, .ref r2, .ref r3, .ref r4, .ref se, .int 0, .int 0, .int 40, .int 0, .int 0])), (xg, .inl (cg, 6, .inr (.inr (.inr (.inr (fun _ => none)))))), (xp, .inl (cp, 4, .inr (.inr (.inr (.inr (fun _ => none)))))), (xq, .inl (cq, 16, .inr (.inr (.inr (.inr (fun _ => none)))))), (r1, .inr (9, [.int 0, .int 0])), (r2, .inr (9, [.int 0, .int 0])), (r3, .inr (9, [.int 0, .int 0])), (r4, .inr (9, [.int 0, .int 0])), (se, .inr (10, [.ref n1, .ref n2, .ref n3, .int 0, .int 0, .int 0, .int 0])), (mo, .inr (16, [.int 0, .ref gl, .ref po, .ref pi, .ref bu, .ref pa, .int 0, .int 0, .int 40, .int 0, .null, .int 0, .int 0])), (gl, .inr (4, [.int 0, .ref G.1, .int 0])), (po, .inr (4, [.int 0, .ref G.1, .int 0])), (pi, .inr (4, [.int 0, .ref G.1, .int 0])), (bu, .inl (ci, 4, .inl (fun _ => 0))), (pa, .inl (cj, 4, .inl (fun _ => 0))), (ou, .inl (cJ, 1, .inr (.inl (fun _ => 0)))), (od, .inl (cD, 1, .inr (.inr (.inr (.inl (fun _ => 0))))))] H) (hD : va_D A [(xo, .inr (11, [.ref xg, .int 0, .ref xp, .int 0, .ref xq, .int 0, .ref r1, .ref r2, .ref r3, .ref r4, .ref se, .int 0, .int 0, .int 40, .int 0, .int 0])), (xg, .inl (cg, 6, .inr (.inr (.inr (.inr (fun _ => none)))))), (xp, .inl (cp, 4, .inr (.inr (.inr (.inr (fun _ => none)))))), (xq, .inl (cq, 16, .inr (.inr (.inr (.inr (fun _ => none)))))), (r1, .inr (9, [.int 0, .int 0])), (r2, .inr (9, [.int 0, .int 0])), (r3, .inr (9, [.int 0, .int 0])), (r4, .inr (9, [.int 0, .int 0])), (se, .inr (10, [.ref n1, .ref n2, .ref n3, .int 0, .int 0, .int 0, .int 0])), (mo, .inr (16, [.int 0, .ref gl, .ref po, .ref pi, .ref bu, .ref pa, .int 0, .int 0, .int 40, .int 0, .null, .int 0, .int 0])), (gl, .inr (4, [.int 0, .ref G.1, .int 0])), (po, .inr (4, [.int 0, .ref G.1, .int 0])), (pi, .inr (4, [.int 0, .ref G.1, .int 0])), (bu, .inl (ci, 4, .inl (fun _ => 0))), (pa, .inl (cj, 4, .inl (fun _ => 0))), (ou, .inl (cJ, 1, .inr (.inl (fun _ => 0)))), (od, .inl (cD, 1, .inr (.inr (.inr (.inl (fun _ => 0))))))]) (hS : va_S A s.heap H locs) (hl : lv_has ls 9 [(5, .int 0), (4, .ref od), (3, .ref ou), (2, .ref mo), (1, .ref xo), (0, .ref b)]) (hE : ∀ (H : Heap) (locs : List Loc) (ls : Array Slot), va_S A s.heap H locs → lv_has ls 9 [(0, .ref b), (5, .int 0)] → W p l e room_1 s m args below meth c H locs 797152 6710780 Q (F0 m 2999 ls [])) : W p l e room_1 s m args below meth c H locs 60 300 Q (F0 m 2716 ls []) := by
  have hP := hP.sub (ws' := [(xo, .inr (11, [.ref xg, .int 0, .ref xp, .int 0, .ref xq, .int 0, .ref r1, .ref r2, .ref r3, .ref r4, .ref se, .int 0, .int 0, .int 40, .int 0, .int 0])), (xq, .inl (cq, 16, .inr (.inr (.inr (.inr (fun _ => none)))))), (mo, .inr (16, [.int 0, .ref gl, .ref po, .ref pi, .ref bu, .ref pa, .int 0, .int 0, .int 40, .int 0, .null, .int 0, .int 0])), (pi, .inr (4, [.int 0, .ref G.1, .int 0])), (ou, .inl (cJ, 1, .inr (.inl (fun _ => 0))))]) [0, 3, 9, 12, 15] rfl
  have hD := hD.sub (ws' := [(xo, .inr (11, [.ref xg, .int 0, .ref xp, .int 0, .ref xq, .int 0, .ref r1, .ref r2, .ref r3, .ref r4, .ref se, .int 0, .int 0, .int 40, .int 0, .int 0])), (xq, .inl (cq, 16, .inr (.inr (.inr (.inr (fun _ => none)))))), (mo, .inr (16, [.int 0, .ref gl, .ref po, .ref pi, .ref bu, .ref pa, .int 0, .int 0, .int 40, .int 0, .null, .int 0, .int 0])), (pi, .inr (4, [.int 0, .ref G.1, .int 0])), (ou, .inl (cJ, 1, .inr (.inl (fun _ => 0))))]) [0, 3, 9, 12, 15] (by decide) rfl
  have hK := hK.sub (tys' := [(cq, .object "Gatherhouse$Piece"), (cJ, .long)]) [2, 5] rfl
  refine lv_aload_n hx hb dL_law_2716 rfl (lv_at hl 4 rfl) ?_
  refine lv_aload_n hx hb dL_law_2717 rfl (lv_at hl 5 rfl) ?_
  refine lv_iload hx hb dL_law_2718 (lv_at hl 0 rfl) ?_
  refine lv_iconst (v := 1) hx hb dL_law_2720 (by decide) ?_
  refine lv_iadd hx hb dL_law_2721 ?_
  refine lv_topi (fun y_1321 ey_1321 => ?_)
  have ey_1321 : y_1321 = 1 := ey_1321.trans (by decide +kernel)
  subst ey_1321
  refine va_sld hx hb hX hbl hbA hS (vp_in_iff.mpr (by rw [hL]; decide +kernel)) dL_law_2722 ?_
  refine lv_aload_n hx hb dL_law_2723 rfl (lv_at hl 2 rfl) ?_
  have hFc := va_free (wc := [(xo, .inr (11, [.ref xg, .int 0, .ref xp, .int 0, .ref xq, .int 0, .ref r1, .ref r2, .ref r3, .ref r4, .ref se, .int 0, .int 0, .int 40, .int 0, .int 0])), (xq, .inl (cq, 16, .inr (.inr (.inr (.inr (fun _ => none)))))), (ou, .inl (cJ, 1, .inr (.inl (fun _ => 0))))]) hD hS hA [0, 1, 4] rfl
  refine vx_calli (vx_runSX (As := [.ref xo, .int (xs (1 : Int32).toNatClampNeg), .ref ou]) (rest := []) ⟨hx, hb, hml, hown, hts⟩ (zc_L_price l hnt D G xo xg xp xq r1 r2 r3 r4 se 0 0 cq ou cJ (xs (1 : Int32).toNatClampNeg) H.size) (vx_cwSW 3 hts gzL_law_L_price_296 rfl rfl rfl (by decide +kernel) ⟨(Nat.le_of_ble_eq_true rfl), (Nat.le_of_ble_eq_true rfl)⟩) ⟨p_RW_blind, (p_RW_at (tc := [(cq, .object "Gatherhouse$Piece"), (cJ, .long)]) (wc := [(xo, .inr (11, [.ref xg, .int 0, .ref xp, .int 0, .ref xq, .int 0, .ref r1, .ref r2, .ref r3, .ref r4, .ref se, .int 0, .int 0, .int 40, .int 0, .int 0])), (xq, .inl (cq, 16, .inr (.inr (.inr (.inr (fun _ => none)))))), (ou, .inl (cJ, 1, .inr (.inl (fun _ => 0))))]) hP hK hD hS hA hT hZ [0, 1, 4] [0, 1] rfl rfl (by decide) rfl [.ref xo, .int (xs (1 : Int32).toNatClampNeg), .ref ou])⟩ rfl rfl hl.1 rfl (lv_room (Nat.le_of_ble_eq_true rfl)) dL_law_2724 ⟨(Nat.le_of_ble_eq_true rfl), (Nat.le_of_ble_eq_true rfl)⟩) hS (fun q _ h => hFc q h) hFc (fun q _ h => hFc q h) (fun E ce q9 u t H locs ht hvm hpx hBX hz1 hk1 hS hce hcv hcl => ?_) (fun r_1322 u t H locs ht hvm w_1323 hB hz1 hk1 hS => ?_)
  · exact (show False from hBX).elim
  · obtain ⟨hP, hD, hK⟩ := q_join (D := D) (wc := [(xo, .inr (11, [.ref xg, .int 0, .ref xp, .int 0, .ref xq, .int 0, .ref r1, .ref r2, .ref r3, .ref r4, .ref se, .int 0, .int 0, .int 40, .int 0, .int 0])), (xq, .inl (cq, 16, .inr (.inr (.inr (.inr (fun _ => none)))))), (ou, .inl (cJ, 1, .inr (.inl (fun _ => 0))))]) (wr := [(mo, .inr (16, [.int 0, .ref gl, .ref po, .ref pi, .ref bu, .ref pa, .int 0, .int 0, .int 40, .int 0, .null, .int 0, .int 0])), (pi, .inr (4, [.int 0, .ref G.1, .int 0]))]) (w1 := []) (tyr := [(cq, .object "Gatherhouse$Piece"), (cJ, .long)]) (ty1 := []) hP hD hK [0, 1, 4] [2, 3] [0, 1] rfl rfl (by decide) (by decide) rfl hFc hk1 ht hvm (q_none hK hvm)
    have hP : va_P D vwCl [(mo, .inr (16, [.int 0, .ref gl, .ref po, .ref pi, .ref bu, .ref pa, .int 0, .int 0, .int 40, .int 0, .null, .int 0, .int 0])), (pi, .inr (4, [.int 0, .ref G.1, .int 0]))] H := hP
    have hD : va_D A [(mo, .inr (16, [.int 0, .ref gl, .ref po, .ref pi, .ref bu, .ref pa, .int 0, .int 0, .int 40, .int 0, .null, .int 0, .int 0])), (pi, .inr (4, [.int 0, .ref G.1, .int 0]))] := hD
    have hK : va_K D vwCl [(cq, .object "Gatherhouse$Piece"), (cJ, .long)] s := hK
    refine W.widen (k := 61) (n := 306) (Nat.le_of_ble_eq_true rfl) (Nat.le_of_ble_eq_true rfl) ?_
    obtain rfl := w_1323
    refine lv_istore (lv' := [(6, .int 1), (5, .int 0), (4, .ref od), (3, .ref ou), (2, .ref mo), (1, .ref xo), (0, .ref b)]) hx hb dL_law_2727 hl (by decide) rfl (fun ls hl => ?_)
    refine lv_aload_n hx hb dL_law_2729 rfl (lv_at hl 4 rfl) ?_
    refine lv_aload_n hx hb dL_law_2730 rfl (lv_at hl 6 rfl) ?_
    refine lv_iload hx hb dL_law_2731 (lv_at hl 1 rfl) ?_
    refine lv_iconst (v := 1) hx hb dL_law_2733 (by decide) ?_
    refine lv_iadd hx hb dL_law_2734 ?_
    refine lv_topi (fun y_1324 ey_1324 => ?_)
    have ey_1324 : y_1324 = 1 := ey_1324.trans (by decide +kernel)
    subst ey_1324
    refine va_sld hx hb hX hbl hbA hS (vp_in_iff.mpr (by rw [hL]; decide +kernel)) dL_law_2735 ?_
    have hFc := va_free (wc := [(mo, .inr (16, [.int 0, .ref gl, .ref po, .ref pi, .ref bu, .ref pa, .int 0, .int 0, .int 40, .int 0, .null, .int 0, .int 0])), (pi, .inr (4, [.int 0, .ref G.1, .int 0]))]) hD hS hA [0, 1] rfl
    refine va_calli (va_runV (As := [.int (xs (1 : Int32).toNatClampNeg)]) (rest := []) ⟨hx, hb, hml, hown, hts⟩ (zc_X11_price l D G mo gl po pi bu pa 0 0 0 (xs (1 : Int32).toNatClampNeg) H.size) (cwV 1 hts gzL_law_X11_price_298 rfl rfl rfl (by decide +kernel) ⟨(Nat.le_of_ble_eq_true rfl), (Nat.le_of_ble_eq_true rfl)⟩) ⟨p_RW_blind, va_recv hK hP (ci := 16) (q0 := 0) rfl rfl, (p_RW_at (tc := []) (wc := [(mo, .inr (16, [.int 0, .ref gl, .ref po, .ref pi, .ref bu, .ref pa, .int 0, .int 0, .int 40, .int 0, .null, .int 0, .int 0])), (pi, .inr (4, [.int 0, .ref G.1, .int 0]))]) hP hK hD hS hA hT hZ [0, 1] [] rfl rfl (by decide) rfl [.ref mo, .int (xs (1 : Int32).toNatClampNeg)])⟩ rfl rfl hl.1 rfl (lv_room (Nat.le_of_ble_eq_true rfl)) dL_law_2736 ⟨(Nat.le_of_ble_eq_true rfl), (Nat.le_of_ble_eq_true rfl)⟩) hS (fun q _ h => hFc q h) hFc (fun r_1325 u t H locs ht hvm w_1326 hB hz1 hk1 hS => ?_)
    obtain ⟨hP, hD, hK⟩ := q_join (D := D) (wc := [(mo, .inr (16, [.int 0, .ref gl, .ref po, .ref pi, .ref bu, .ref pa, .int 0, .int 0, .int 40, .int 0, .null, .int 0, .int 0])), (pi, .inr (4, [.int 0, .ref G.1, .int 0]))]) (wr := []) (w1 := [(mo, .inr (16, [.int 1, .ref gl, .ref po, .ref pi, .ref bu, .ref pa, .int 0, .int 0, .int 40, .int 0, .null, .int 0, .int 0])), (pi, .inr (4, [.int 0, .ref G.1, .int 0]))]) (tyr := [(cq, .object "Gatherhouse$Piece"), (cJ, .long)]) (ty1 := []) hP hD hK [0, 1] [] [0, 1] rfl rfl (by decide) (by decide) rfl hFc hk1 ht hvm hB
    have hP : va_P D vwCl [(mo, .inr (16, [.int 1, .ref gl, .ref po, .ref pi, .ref bu, .ref pa, .int 0, .int 0, .int 40, .int 0, .null, .int 0, .int 0])), (pi, .inr (4, [.int 0, .ref G.1, .int 0]))] H := hP
    have hD : va_D A [(mo, .inr (16, [.int 1, .ref gl, .ref po, .ref pi, .ref bu, .ref pa, .int 0, .int 0, .int 40, .int 0, .null, .int 0, .int 0])), (pi, .inr (4, [.int 0, .ref G.1, .int 0]))] := hD
    have hK : va_K D vwCl [(cq, .object "Gatherhouse$Piece"), (cJ, .long)] s := hK
    obtain rfl := w_1326
    refine lv_istore (lv' := [(7, .int 0), (6, .int 1), (5, .int 0), (4, .ref od), (3, .ref ou), (2, .ref mo), (1, .ref xo), (0, .ref b)]) hx hb dL_law_2739 hl (by decide) rfl (fun ls hl => ?_)
    refine lv_aload_n hx hb dL_law_2741 rfl (lv_at hl 5 rfl) ?_
    refine vp_callSi (va_runV (As := []) (rest := []) ⟨hx, hb, hml, hown, hts⟩ (zc_X11_thrown l D G mo gl po pi bu pa 1 0 0 40) (cwV 0 hts gzL_law_X11_thrown_165 rfl rfl rfl (by decide +kernel) ⟨(Nat.le_of_ble_eq_true rfl), (Nat.le_of_ble_eq_true rfl)⟩) ⟨p_RO_blind, va_recv hK hP (ci := 16) (q0 := 0) rfl rfl, (p_RO_at (tc := []) (wc := [(mo, .inr (16, [.int 1, .ref gl, .ref po, .ref pi, .ref bu, .ref pa, .int 0, .int 0, .int 40, .int 0, .null, .int 0, .int 0]))]) hP hK hT [0] [] rfl rfl [.ref mo])⟩ rfl rfl hl.1 rfl (lv_room (Nat.le_of_ble_eq_true rfl)) dL_law_2742 ⟨(Nat.le_of_ble_eq_true rfl), (Nat.le_of_ble_eq_true rfl)⟩).run (fun r_1327 w_1328 => ?_)
    obtain rfl := w_1328
    refine lv_iload hx hb dL_law_2745 (lv_at hl 1 rfl) ?_
    refine lv_icmp_eq (tgt := 2752) hx hb dL_law_2747 (by decide) (fun _ => ?_) (fun cc => absurd (by decide) cc)
    refine lv_iload hx hb dL_law_2752 (lv_at hl 1 rfl) ?_
    refine lv_if_ne (tgt := 2769) hx hb dL_law_2754 (by decide) (fun _ => ?_) (fun cc => absurd cc (by decide))
    refine lv_goto (tgt := 2999) hx hb dL_law_2769 (by decide) ?_
    refine W.widen (k := 797152) (n := 6710780) (Nat.le_of_ble_eq_true rfl) (Nat.le_of_ble_eq_true rfl) ?_
    exact hE _ _ _ hS (lv_sub hl [7, 2] rfl)
theorem dL_law_2772 : decode cL_law 2772 = .ok (.aload_n 1, 1) := by decide +kernel
theorem dL_law_2773 : decode cL_law 2773 = .ok (.aload_n 0, 1) := by decide +kernel
theorem dL_law_2774 : decode cL_law 2774 = .ok (.iload 5, 2) := by decide +kernel
theorem dL_law_2776 : decode cL_law 2776 = .ok (.iconst 1, 1) := by decide +kernel
theorem dL_law_2777 : decode cL_law 2777 = .ok (.iadd, 1) := by decide +kernel
theorem dL_law_2778 : decode cL_law 2778 = .ok (.iaload, 1) := by decide +kernel
theorem dL_law_2779 : decode cL_law 2779 = .ok (.aload_n 3, 1) := by decide +kernel
theorem dL_law_2780 : decode cL_law 2780 = .ok (.invokestatic 299, 3) := by decide +kernel
theorem dL_law_2783 : decode cL_law 2783 = .ok (.istore 6, 2) := by decide +kernel
theorem dL_law_2785 : decode cL_law 2785 = .ok (.aload_n 2, 1) := by decide +kernel
theorem dL_law_2786 : decode cL_law 2786 = .ok (.aload_n 0, 1) := by decide +kernel
theorem dL_law_2787 : decode cL_law 2787 = .ok (.iload 5, 2) := by decide +kernel
theorem dL_law_2789 : decode cL_law 2789 = .ok (.iconst 1, 1) := by decide +kernel
theorem dL_law_2790 : decode cL_law 2790 = .ok (.iadd, 1) := by decide +kernel
theorem dL_law_2791 : decode cL_law 2791 = .ok (.iaload, 1) := by decide +kernel
theorem dL_law_2792 : decode cL_law 2792 = .ok (.invokevirtual 301, 3) := by decide +kernel
theorem dL_law_2795 : decode cL_law 2795 = .ok (.istore 7, 2) := by decide +kernel
theorem dL_law_2797 : decode cL_law 2797 = .ok (.aload_n 2, 1) := by decide +kernel
theorem dL_law_2798 : decode cL_law 2798 = .ok (.invokevirtual 165, 3) := by decide +kernel
theorem dL_law_2801 : decode cL_law 2801 = .ok (.iload 6, 2) := by decide +kernel
theorem dL_law_2803 : decode cL_law 2803 = .ok (.if_icmp .eq 5, 3) := by decide +kernel
theorem dL_law_2808 : decode cL_law 2808 = .ok (.iload 6, 2) := by decide +kernel
theorem dL_law_2810 : decode cL_law 2810 = .ok (.ifCond .ne 15, 3) := by decide +kernel
theorem dL_law_2825 : decode cL_law 2825 = .ok (.goto 174, 3) := by decide +kernel
set_option maxHeartbeats 4000000 in
set_option maxRecDepth 100000 in
theorem zl_41 {p : Program} {e : Env} {s : State} {m : MethodId} {below : List Frame} {meth : Method} {c : Code} {Q : State → Prop} {args : Array Value} (l : Launch) (hnt : l.stackTraces = false) (D : va_G) (G : Nat × Nat × Nat) (xo : Nat) (xg : Nat) (xp : Nat) (xq : Nat) (r1 : Nat) (r2 : Nat) (r3 : Nat) (r4 : Nat) (se : Nat) (n1 : Nat) (n2 : Nat) (n3 : Nat) (mo : Nat) (gl : Nat) (po : Nat) (pi : Nat) (bu : Nat) (pa : Nat) (ou : Nat) (od : Nat) (cg : ClassId) (cp : ClassId) (cq : ClassId) (ci : ClassId) (cj : ClassId) (cJ : ClassId) (cD : ClassId) {b L : Nat} {xs : Nat → Int32} {A : Nat → Prop} {H : Heap} {locs : List Loc} {ls : Array Slot} (hx : p.tables.exec = Jvm.exec) (hb : c.code = code) (hml : c.maxLocals = 9) (hown : s.vm.findClass RL = some m.cls) (hts : ∀ w ∈ wzL_law, w.before args s = true) (hT : FT G s) (hA : ∀ q : Nat, s.heap.size ≤ q → A q) (hZ : FZ G A s s.heap) (hX : va_X b L xs s s.heap) (hbl : b < s.heap.size) (hbA : ¬ A b) (hL : L = 5) (hK : va_K D vwCl [(cg, .object "Gatherhouse$Glass"), (cp, .object "Gatherhouse$Pot"), (cq, .object "Gatherhouse$Piece"), (ci, .int), (cj, .int), (cJ, .long), (cD, .double)] s) (hP : va_P D vwCl [(xo, .inr (11, [.ref xg, .int 0, .ref xp, .int 0, .ref xq, .int 0, .ref r1, .ref r2, .ref r3, .ref r4, .ref se, .int 0, .int 0, .int 40, .int 0, .int 0])), (xg, .inl (cg, 6, .inr (.inr (.inr (.inr (fun _ => none)))))), (xp, .inl (cp, 4, .inr (.inr (.inr (.inr (fun _ => none)))))), (xq, .inl (cq, 16, .inr (.inr (.inr (.inr (fun _ => none)))))), (r1, .inr (9, [.int 0, .int 0])), (r2, .inr (9, [.int 0, .int 0])), (r3, .inr (9, [.int 0, .int 0])), (r4, .inr (9, [.int 0, .int 0])), (se, .inr (10, [.ref n1, .ref n2, .ref n3, .int 0, .int 0, .int 0, .int 0])), (mo, .inr (16, [.int 0, .ref gl, .ref po, .ref pi, .ref bu, .ref pa, .int 0, .int 0, .int 40, .int 0, .null, .int 0, .int 0])), (gl, .inr (4, [.int 0, .ref G.1, .int 0])), (po, .inr (4, [.int 0, .ref G.1, .int 0])), (pi, .inr (4, [.int 0, .ref G.1, .int 0])), (bu, .inl (ci, 4, .inl (fun _ => 0))), (pa, .inl (cj, 4, .inl (fun _ => 0))), (ou, .inl (cJ, 1, .inr (.inl (fun _ => 0)))), (od, .inl (cD, 1, .inr (.inr (.inr (.inl (fun _ => 0))))))] H) (hD : va_D A [(xo, .inr (11, [.ref xg, .int 0, .ref xp, .int 0, .ref xq, .int 0, .ref r1, .ref r2, .ref r3, .ref r4, .ref se, .int 0, .int 0, .int 40, .int 0, .int 0])), (xg, .inl (cg, 6, .inr (.inr (.inr (.inr (fun _ => none)))))), (xp, .inl (cp, 4, .inr (.inr (.inr (.inr (fun _ => none)))))), (xq, .inl (cq, 16, .inr (.inr (.inr (.inr (fun _ => none)))))), (r1, .inr (9, [.int 0, .int 0])), (r2, .inr (9, [.int 0, .int 0])), (r3, .inr (9, [.int 0, .int 0])), (r4, .inr (9, [.int 0, .int 0])), (se, .inr (10, [.ref n1, .ref n2, .ref n3, .int 0, .int 0, .int 0, .int 0])), (mo, .inr (16, [.int 0, .ref gl, .ref po, .ref pi, .ref bu, .ref pa, .int 0, .int 0, .int 40, .int 0, .null, .int 0, .int 0])), (gl, .inr (4, [.int 0, .ref G.1, .int 0])), (po, .inr (4, [.int 0, .ref G.1, .int 0])), (pi, .inr (4, [.int 0, .ref G.1, .int 0])), (bu, .inl (ci, 4, .inl (fun _ => 0))), (pa, .inl (cj, 4, .inl (fun _ => 0))), (ou, .inl (cJ, 1, .inr (.inl (fun _ => 0)))), (od, .inl (cD, 1, .inr (.inr (.inr (.inl (fun _ => 0))))))]) (hS : va_S A s.heap H locs) (hl : lv_has ls 9 [(5, .int 0), (4, .ref od), (3, .ref ou), (2, .ref mo), (1, .ref xo), (0, .ref b)]) (hE : ∀ (H : Heap) (locs : List Loc) (ls : Array Slot), va_S A s.heap H locs → lv_has ls 9 [(0, .ref b), (5, .int 0)] → W p l e room_1 s m args below meth c H locs 797152 6710780 Q (F0 m 2999 ls [])) : W p l e room_1 s m args below meth c H locs 60 300 Q (F0 m 2772 ls []) := by
  have hP := hP.sub (ws' := [(xo, .inr (11, [.ref xg, .int 0, .ref xp, .int 0, .ref xq, .int 0, .ref r1, .ref r2, .ref r3, .ref r4, .ref se, .int 0, .int 0, .int 40, .int 0, .int 0])), (xq, .inl (cq, 16, .inr (.inr (.inr (.inr (fun _ => none)))))), (mo, .inr (16, [.int 0, .ref gl, .ref po, .ref pi, .ref bu, .ref pa, .int 0, .int 0, .int 40, .int 0, .null, .int 0, .int 0])), (pi, .inr (4, [.int 0, .ref G.1, .int 0])), (ou, .inl (cJ, 1, .inr (.inl (fun _ => 0))))]) [0, 3, 9, 12, 15] rfl
  have hD := hD.sub (ws' := [(xo, .inr (11, [.ref xg, .int 0, .ref xp, .int 0, .ref xq, .int 0, .ref r1, .ref r2, .ref r3, .ref r4, .ref se, .int 0, .int 0, .int 40, .int 0, .int 0])), (xq, .inl (cq, 16, .inr (.inr (.inr (.inr (fun _ => none)))))), (mo, .inr (16, [.int 0, .ref gl, .ref po, .ref pi, .ref bu, .ref pa, .int 0, .int 0, .int 40, .int 0, .null, .int 0, .int 0])), (pi, .inr (4, [.int 0, .ref G.1, .int 0])), (ou, .inl (cJ, 1, .inr (.inl (fun _ => 0))))]) [0, 3, 9, 12, 15] (by decide) rfl
  have hK := hK.sub (tys' := [(cq, .object "Gatherhouse$Piece"), (cJ, .long)]) [2, 5] rfl
  refine lv_aload_n hx hb dL_law_2772 rfl (lv_at hl 4 rfl) ?_
  refine lv_aload_n hx hb dL_law_2773 rfl (lv_at hl 5 rfl) ?_
  refine lv_iload hx hb dL_law_2774 (lv_at hl 0 rfl) ?_
  refine lv_iconst (v := 1) hx hb dL_law_2776 (by decide) ?_
  refine lv_iadd hx hb dL_law_2777 ?_
  refine lv_topi (fun y_1329 ey_1329 => ?_)
  have ey_1329 : y_1329 = 1 := ey_1329.trans (by decide +kernel)
  subst ey_1329
  refine va_sld hx hb hX hbl hbA hS (vp_in_iff.mpr (by rw [hL]; decide +kernel)) dL_law_2778 ?_
  refine lv_aload_n hx hb dL_law_2779 rfl (lv_at hl 2 rfl) ?_
  have hFc := va_free (wc := [(xo, .inr (11, [.ref xg, .int 0, .ref xp, .int 0, .ref xq, .int 0, .ref r1, .ref r2, .ref r3, .ref r4, .ref se, .int 0, .int 0, .int 40, .int 0, .int 0])), (xq, .inl (cq, 16, .inr (.inr (.inr (.inr (fun _ => none)))))), (ou, .inl (cJ, 1, .inr (.inl (fun _ => 0))))]) hD hS hA [0, 1, 4] rfl
  refine vx_calli (vx_runSX (As := [.ref xo, .int (xs (1 : Int32).toNatClampNeg), .ref ou]) (rest := []) ⟨hx, hb, hml, hown, hts⟩ (zc_L_sell l hnt D G xo xg xp xq r1 r2 r3 r4 se 0 0 cq ou cJ (xs (1 : Int32).toNatClampNeg) H.size) (vx_cwSW 3 hts gzL_law_L_sell_299 rfl rfl rfl (by decide +kernel) ⟨(Nat.le_of_ble_eq_true rfl), (Nat.le_of_ble_eq_true rfl)⟩) ⟨p_RW_blind, (p_RW_at (tc := [(cq, .object "Gatherhouse$Piece"), (cJ, .long)]) (wc := [(xo, .inr (11, [.ref xg, .int 0, .ref xp, .int 0, .ref xq, .int 0, .ref r1, .ref r2, .ref r3, .ref r4, .ref se, .int 0, .int 0, .int 40, .int 0, .int 0])), (xq, .inl (cq, 16, .inr (.inr (.inr (.inr (fun _ => none)))))), (ou, .inl (cJ, 1, .inr (.inl (fun _ => 0))))]) hP hK hD hS hA hT hZ [0, 1, 4] [0, 1] rfl rfl (by decide) rfl [.ref xo, .int (xs (1 : Int32).toNatClampNeg), .ref ou])⟩ rfl rfl hl.1 rfl (lv_room (Nat.le_of_ble_eq_true rfl)) dL_law_2780 ⟨(Nat.le_of_ble_eq_true rfl), (Nat.le_of_ble_eq_true rfl)⟩) hS (fun q _ h => hFc q h) hFc (fun q _ h => hFc q h) (fun E ce q9 u t H locs ht hvm hpx hBX hz1 hk1 hS hce hcv hcl => ?_) (fun r_1330 u t H locs ht hvm w_1331 hB hz1 hk1 hS => ?_)
  · exact (show False from hBX).elim
  · obtain ⟨hP, hD, hK⟩ := q_join (D := D) (wc := [(xo, .inr (11, [.ref xg, .int 0, .ref xp, .int 0, .ref xq, .int 0, .ref r1, .ref r2, .ref r3, .ref r4, .ref se, .int 0, .int 0, .int 40, .int 0, .int 0])), (xq, .inl (cq, 16, .inr (.inr (.inr (.inr (fun _ => none)))))), (ou, .inl (cJ, 1, .inr (.inl (fun _ => 0))))]) (wr := [(mo, .inr (16, [.int 0, .ref gl, .ref po, .ref pi, .ref bu, .ref pa, .int 0, .int 0, .int 40, .int 0, .null, .int 0, .int 0])), (pi, .inr (4, [.int 0, .ref G.1, .int 0]))]) (w1 := []) (tyr := [(cq, .object "Gatherhouse$Piece"), (cJ, .long)]) (ty1 := []) hP hD hK [0, 1, 4] [2, 3] [0, 1] rfl rfl (by decide) (by decide) rfl hFc hk1 ht hvm (q_none hK hvm)
    have hP : va_P D vwCl [(mo, .inr (16, [.int 0, .ref gl, .ref po, .ref pi, .ref bu, .ref pa, .int 0, .int 0, .int 40, .int 0, .null, .int 0, .int 0])), (pi, .inr (4, [.int 0, .ref G.1, .int 0]))] H := hP
    have hD : va_D A [(mo, .inr (16, [.int 0, .ref gl, .ref po, .ref pi, .ref bu, .ref pa, .int 0, .int 0, .int 40, .int 0, .null, .int 0, .int 0])), (pi, .inr (4, [.int 0, .ref G.1, .int 0]))] := hD
    have hK : va_K D vwCl [(cq, .object "Gatherhouse$Piece"), (cJ, .long)] s := hK
    refine W.widen (k := 61) (n := 306) (Nat.le_of_ble_eq_true rfl) (Nat.le_of_ble_eq_true rfl) ?_
    obtain rfl := w_1331
    refine lv_istore (lv' := [(6, .int 1), (5, .int 0), (4, .ref od), (3, .ref ou), (2, .ref mo), (1, .ref xo), (0, .ref b)]) hx hb dL_law_2783 hl (by decide) rfl (fun ls hl => ?_)
    refine lv_aload_n hx hb dL_law_2785 rfl (lv_at hl 4 rfl) ?_
    refine lv_aload_n hx hb dL_law_2786 rfl (lv_at hl 6 rfl) ?_
    refine lv_iload hx hb dL_law_2787 (lv_at hl 1 rfl) ?_
    refine lv_iconst (v := 1) hx hb dL_law_2789 (by decide) ?_
    refine lv_iadd hx hb dL_law_2790 ?_
    refine lv_topi (fun y_1332 ey_1332 => ?_)
    have ey_1332 : y_1332 = 1 := ey_1332.trans (by decide +kernel)
    subst ey_1332
    refine va_sld hx hb hX hbl hbA hS (vp_in_iff.mpr (by rw [hL]; decide +kernel)) dL_law_2791 ?_
    have hFc := va_free (wc := [(mo, .inr (16, [.int 0, .ref gl, .ref po, .ref pi, .ref bu, .ref pa, .int 0, .int 0, .int 40, .int 0, .null, .int 0, .int 0])), (pi, .inr (4, [.int 0, .ref G.1, .int 0]))]) hD hS hA [0, 1] rfl
    refine va_calli (va_runV (As := [.int (xs (1 : Int32).toNatClampNeg)]) (rest := []) ⟨hx, hb, hml, hown, hts⟩ (zc_X11_sell l D G mo gl po pi bu pa 0 0 0 (xs (1 : Int32).toNatClampNeg) H.size) (cwV 1 hts gzL_law_X11_sell_301 rfl rfl rfl (by decide +kernel) ⟨(Nat.le_of_ble_eq_true rfl), (Nat.le_of_ble_eq_true rfl)⟩) ⟨p_RW_blind, va_recv hK hP (ci := 16) (q0 := 0) rfl rfl, (p_RW_at (tc := []) (wc := [(mo, .inr (16, [.int 0, .ref gl, .ref po, .ref pi, .ref bu, .ref pa, .int 0, .int 0, .int 40, .int 0, .null, .int 0, .int 0])), (pi, .inr (4, [.int 0, .ref G.1, .int 0]))]) hP hK hD hS hA hT hZ [0, 1] [] rfl rfl (by decide) rfl [.ref mo, .int (xs (1 : Int32).toNatClampNeg)])⟩ rfl rfl hl.1 rfl (lv_room (Nat.le_of_ble_eq_true rfl)) dL_law_2792 ⟨(Nat.le_of_ble_eq_true rfl), (Nat.le_of_ble_eq_true rfl)⟩) hS (fun q _ h => hFc q h) hFc (fun r_1333 u t H locs ht hvm w_1334 hB hz1 hk1 hS => ?_)
    obtain ⟨hP, hD, hK⟩ := q_join (D := D) (wc := [(mo, .inr (16, [.int 0, .ref gl, .ref po, .ref pi, .ref bu, .ref pa, .int 0, .int 0, .int 40, .int 0, .null, .int 0, .int 0])), (pi, .inr (4, [.int 0, .ref G.1, .int 0]))]) (wr := []) (w1 := [(mo, .inr (16, [.int 1, .ref gl, .ref po, .ref pi, .ref bu, .ref pa, .int 0, .int 0, .int 40, .int 0, .null, .int 0, .int 0])), (pi, .inr (4, [.int 0, .ref G.1, .int 0]))]) (tyr := [(cq, .object "Gatherhouse$Piece"), (cJ, .long)]) (ty1 := []) hP hD hK [0, 1] [] [0, 1] rfl rfl (by decide) (by decide) rfl hFc hk1 ht hvm hB
    have hP : va_P D vwCl [(mo, .inr (16, [.int 1, .ref gl, .ref po, .ref pi, .ref bu, .ref pa, .int 0, .int 0, .int 40, .int 0, .null, .int 0, .int 0])), (pi, .inr (4, [.int 0, .ref G.1, .int 0]))] H := hP
    have hD : va_D A [(mo, .inr (16, [.int 1, .ref gl, .ref po, .ref pi, .ref bu, .ref pa, .int 0, .int 0, .int 40, .int 0, .null, .int 0, .int 0])), (pi, .inr (4, [.int 0, .ref G.1, .int 0]))] := hD
    have hK : va_K D vwCl [(cq, .object "Gatherhouse$Piece"), (cJ, .long)] s := hK
    obtain rfl := w_1334
    refine lv_istore (lv' := [(7, .int 0), (6, .int 1), (5, .int 0), (4, .ref od), (3, .ref ou), (2, .ref mo), (1, .ref xo), (0, .ref b)]) hx hb dL_law_2795 hl (by decide) rfl (fun ls hl => ?_)
    refine lv_aload_n hx hb dL_law_2797 rfl (lv_at hl 5 rfl) ?_
    refine vp_callSi (va_runV (As := []) (rest := []) ⟨hx, hb, hml, hown, hts⟩ (zc_X11_thrown l D G mo gl po pi bu pa 1 0 0 40) (cwV 0 hts gzL_law_X11_thrown_165 rfl rfl rfl (by decide +kernel) ⟨(Nat.le_of_ble_eq_true rfl), (Nat.le_of_ble_eq_true rfl)⟩) ⟨p_RO_blind, va_recv hK hP (ci := 16) (q0 := 0) rfl rfl, (p_RO_at (tc := []) (wc := [(mo, .inr (16, [.int 1, .ref gl, .ref po, .ref pi, .ref bu, .ref pa, .int 0, .int 0, .int 40, .int 0, .null, .int 0, .int 0]))]) hP hK hT [0] [] rfl rfl [.ref mo])⟩ rfl rfl hl.1 rfl (lv_room (Nat.le_of_ble_eq_true rfl)) dL_law_2798 ⟨(Nat.le_of_ble_eq_true rfl), (Nat.le_of_ble_eq_true rfl)⟩).run (fun r_1335 w_1336 => ?_)
    obtain rfl := w_1336
    refine lv_iload hx hb dL_law_2801 (lv_at hl 1 rfl) ?_
    refine lv_icmp_eq (tgt := 2808) hx hb dL_law_2803 (by decide) (fun _ => ?_) (fun cc => absurd (by decide) cc)
    refine lv_iload hx hb dL_law_2808 (lv_at hl 1 rfl) ?_
    refine lv_if_ne (tgt := 2825) hx hb dL_law_2810 (by decide) (fun _ => ?_) (fun cc => absurd cc (by decide))
    refine lv_goto (tgt := 2999) hx hb dL_law_2825 (by decide) ?_
    refine W.widen (k := 797152) (n := 6710780) (Nat.le_of_ble_eq_true rfl) (Nat.le_of_ble_eq_true rfl) ?_
    exact hE _ _ _ hS (lv_sub hl [7, 2] rfl)
theorem dL_law_2828 : decode cL_law 2828 = .ok (.aload_n 1, 1) := by decide +kernel
theorem dL_law_2829 : decode cL_law 2829 = .ok (.invokevirtual 302, 3) := by decide +kernel
theorem dL_law_2832 : decode cL_law 2832 = .ok (.aload_n 2, 1) := by decide +kernel
theorem dL_law_2833 : decode cL_law 2833 = .ok (.invokevirtual 305, 3) := by decide +kernel
theorem dL_law_2836 : decode cL_law 2836 = .ok (.if_icmp .eq 163, 3) := by decide +kernel
set_option maxHeartbeats 4000000 in
set_option maxRecDepth 100000 in
theorem zl_42 {p : Program} {e : Env} {s : State} {m : MethodId} {below : List Frame} {meth : Method} {c : Code} {Q : State → Prop} {args : Array Value} (l : Launch) (hnt : l.stackTraces = false) (D : va_G) (G : Nat × Nat × Nat) (xo : Nat) (xg : Nat) (xp : Nat) (xq : Nat) (r1 : Nat) (r2 : Nat) (r3 : Nat) (r4 : Nat) (se : Nat) (n1 : Nat) (n2 : Nat) (n3 : Nat) (mo : Nat) (gl : Nat) (po : Nat) (pi : Nat) (bu : Nat) (pa : Nat) (ou : Nat) (od : Nat) (cg : ClassId) (cp : ClassId) (cq : ClassId) (ci : ClassId) (cj : ClassId) (cJ : ClassId) (cD : ClassId) {b L : Nat} {xs : Nat → Int32} {A : Nat → Prop} {H : Heap} {locs : List Loc} {ls : Array Slot} (hx : p.tables.exec = Jvm.exec) (hb : c.code = code) (hml : c.maxLocals = 9) (hown : s.vm.findClass RL = some m.cls) (hts : ∀ w ∈ wzL_law, w.before args s = true) (hT : FT G s) (hA : ∀ q : Nat, s.heap.size ≤ q → A q) (hZ : FZ G A s s.heap) (hX : va_X b L xs s s.heap) (hbl : b < s.heap.size) (hbA : ¬ A b) (hL : L = 5) (hK : va_K D vwCl [(cg, .object "Gatherhouse$Glass"), (cp, .object "Gatherhouse$Pot"), (cq, .object "Gatherhouse$Piece"), (ci, .int), (cj, .int), (cJ, .long), (cD, .double)] s) (hP : va_P D vwCl [(xo, .inr (11, [.ref xg, .int 0, .ref xp, .int 0, .ref xq, .int 0, .ref r1, .ref r2, .ref r3, .ref r4, .ref se, .int 0, .int 0, .int 40, .int 0, .int 0])), (xg, .inl (cg, 6, .inr (.inr (.inr (.inr (fun _ => none)))))), (xp, .inl (cp, 4, .inr (.inr (.inr (.inr (fun _ => none)))))), (xq, .inl (cq, 16, .inr (.inr (.inr (.inr (fun _ => none)))))), (r1, .inr (9, [.int 0, .int 0])), (r2, .inr (9, [.int 0, .int 0])), (r3, .inr (9, [.int 0, .int 0])), (r4, .inr (9, [.int 0, .int 0])), (se, .inr (10, [.ref n1, .ref n2, .ref n3, .int 0, .int 0, .int 0, .int 0])), (mo, .inr (16, [.int 0, .ref gl, .ref po, .ref pi, .ref bu, .ref pa, .int 0, .int 0, .int 40, .int 0, .null, .int 0, .int 0])), (gl, .inr (4, [.int 0, .ref G.1, .int 0])), (po, .inr (4, [.int 0, .ref G.1, .int 0])), (pi, .inr (4, [.int 0, .ref G.1, .int 0])), (bu, .inl (ci, 4, .inl (fun _ => 0))), (pa, .inl (cj, 4, .inl (fun _ => 0))), (ou, .inl (cJ, 1, .inr (.inl (fun _ => 0)))), (od, .inl (cD, 1, .inr (.inr (.inr (.inl (fun _ => 0))))))] H) (hD : va_D A [(xo, .inr (11, [.ref xg, .int 0, .ref xp, .int 0, .ref xq, .int 0, .ref r1, .ref r2, .ref r3, .ref r4, .ref se, .int 0, .int 0, .int 40, .int 0, .int 0])), (xg, .inl (cg, 6, .inr (.inr (.inr (.inr (fun _ => none)))))), (xp, .inl (cp, 4, .inr (.inr (.inr (.inr (fun _ => none)))))), (xq, .inl (cq, 16, .inr (.inr (.inr (.inr (fun _ => none)))))), (r1, .inr (9, [.int 0, .int 0])), (r2, .inr (9, [.int 0, .int 0])), (r3, .inr (9, [.int 0, .int 0])), (r4, .inr (9, [.int 0, .int 0])), (se, .inr (10, [.ref n1, .ref n2, .ref n3, .int 0, .int 0, .int 0, .int 0])), (mo, .inr (16, [.int 0, .ref gl, .ref po, .ref pi, .ref bu, .ref pa, .int 0, .int 0, .int 40, .int 0, .null, .int 0, .int 0])), (gl, .inr (4, [.int 0, .ref G.1, .int 0])), (po, .inr (4, [.int 0, .ref G.1, .int 0])), (pi, .inr (4, [.int 0, .ref G.1, .int 0])), (bu, .inl (ci, 4, .inl (fun _ => 0))), (pa, .inl (cj, 4, .inl (fun _ => 0))), (ou, .inl (cJ, 1, .inr (.inl (fun _ => 0)))), (od, .inl (cD, 1, .inr (.inr (.inr (.inl (fun _ => 0))))))]) (hS : va_S A s.heap H locs) (hl : lv_has ls 9 [(5, .int 0), (4, .ref od), (3, .ref ou), (2, .ref mo), (1, .ref xo), (0, .ref b)]) (hE : ∀ (H : Heap) (locs : List Loc) (ls : Array Slot), va_S A s.heap H locs → lv_has ls 9 [(0, .ref b), (5, .int 0)] → W p l e room_1 s m args below meth c H locs 797152 6710780 Q (F0 m 2999 ls [])) : W p l e room_1 s m args below meth c H locs 60 300 Q (F0 m 2828 ls []) := by
  have hP := hP.sub (ws' := [(xo, .inr (11, [.ref xg, .int 0, .ref xp, .int 0, .ref xq, .int 0, .ref r1, .ref r2, .ref r3, .ref r4, .ref se, .int 0, .int 0, .int 40, .int 0, .int 0])), (mo, .inr (16, [.int 0, .ref gl, .ref po, .ref pi, .ref bu, .ref pa, .int 0, .int 0, .int 40, .int 0, .null, .int 0, .int 0]))]) [0, 9] rfl
  have hD := hD.sub (ws' := [(xo, .inr (11, [.ref xg, .int 0, .ref xp, .int 0, .ref xq, .int 0, .ref r1, .ref r2, .ref r3, .ref r4, .ref se, .int 0, .int 0, .int 40, .int 0, .int 0])), (mo, .inr (16, [.int 0, .ref gl, .ref po, .ref pi, .ref bu, .ref pa, .int 0, .int 0, .int 40, .int 0, .null, .int 0, .int 0]))]) [0, 9] (by decide) rfl
  have hK := hK.sub (tys' := []) [] rfl
  refine lv_aload_n hx hb dL_law_2828 rfl (lv_at hl 4 rfl) ?_
  refine vp_callSi (va_runV (As := []) (rest := []) ⟨hx, hb, hml, hown, hts⟩ (zc_X6_takings l D G xo xg xp xq r1 r2 r3 r4 se 0 0) (cwV 0 hts gzL_law_X6_takings_302 rfl rfl rfl (by decide +kernel) ⟨(Nat.le_of_ble_eq_true rfl), (Nat.le_of_ble_eq_true rfl)⟩) ⟨p_RO_blind, va_recv hK hP (ci := 11) (q0 := 0) rfl rfl, (p_RO_at (tc := []) (wc := [(xo, .inr (11, [.ref xg, .int 0, .ref xp, .int 0, .ref xq, .int 0, .ref r1, .ref r2, .ref r3, .ref r4, .ref se, .int 0, .int 0, .int 40, .int 0, .int 0]))]) hP hK hT [0] [] rfl rfl [.ref xo])⟩ rfl rfl hl.1 rfl (lv_room (Nat.le_of_ble_eq_true rfl)) dL_law_2829 ⟨(Nat.le_of_ble_eq_true rfl), (Nat.le_of_ble_eq_true rfl)⟩).run (fun r_1337 w_1338 => ?_)
  obtain rfl := w_1338
  refine lv_aload_n hx hb dL_law_2832 rfl (lv_at hl 3 rfl) ?_
  have hFc := va_free (wc := [(mo, .inr (16, [.int 0, .ref gl, .ref po, .ref pi, .ref bu, .ref pa, .int 0, .int 0, .int 40, .int 0, .null, .int 0, .int 0]))]) hD hS hA [1] rfl
  refine va_calli (va_runV (As := []) (rest := [.int 0]) ⟨hx, hb, hml, hown, hts⟩ (zc_X11_takings l D G mo gl po pi bu pa 0 0 0 H.size) (cwV 0 hts gzL_law_X11_takings_305 rfl rfl rfl (by decide +kernel) ⟨(Nat.le_of_ble_eq_true rfl), (Nat.le_of_ble_eq_true rfl)⟩) ⟨p_RW_blind, va_recv hK hP (ci := 16) (q0 := 1) rfl rfl, (p_RW_at (tc := []) (wc := [(mo, .inr (16, [.int 0, .ref gl, .ref po, .ref pi, .ref bu, .ref pa, .int 0, .int 0, .int 40, .int 0, .null, .int 0, .int 0]))]) hP hK hD hS hA hT hZ [1] [] rfl rfl (by decide) rfl [.ref mo])⟩ rfl rfl hl.1 rfl (lv_room (Nat.le_of_ble_eq_true rfl)) dL_law_2833 ⟨(Nat.le_of_ble_eq_true rfl), (Nat.le_of_ble_eq_true rfl)⟩) hS (fun q _ h => hFc q h) hFc (fun r_1339 u t H locs ht hvm w_1340 hB hz1 hk1 hS => ?_)
  obtain ⟨hP, hD, hK⟩ := q_join (D := D) (wc := [(mo, .inr (16, [.int 0, .ref gl, .ref po, .ref pi, .ref bu, .ref pa, .int 0, .int 0, .int 40, .int 0, .null, .int 0, .int 0]))]) (wr := [(xo, .inr (11, [.ref xg, .int 0, .ref xp, .int 0, .ref xq, .int 0, .ref r1, .ref r2, .ref r3, .ref r4, .ref se, .int 0, .int 0, .int 40, .int 0, .int 0]))]) (w1 := [(mo, .inr (16, [.int 0, .ref gl, .ref po, .ref pi, .ref bu, .ref pa, .int 0, .int 0, .int 40, .int 0, .null, .int 0, .int 0]))]) (tyr := []) (ty1 := []) hP hD hK [1] [0] [] rfl rfl (by decide) (by decide) rfl hFc hk1 ht hvm hB
  have hP : va_P D vwCl [(xo, .inr (11, [.ref xg, .int 0, .ref xp, .int 0, .ref xq, .int 0, .ref r1, .ref r2, .ref r3, .ref r4, .ref se, .int 0, .int 0, .int 40, .int 0, .int 0])), (mo, .inr (16, [.int 0, .ref gl, .ref po, .ref pi, .ref bu, .ref pa, .int 0, .int 0, .int 40, .int 0, .null, .int 0, .int 0]))] H := hP
  have hD : va_D A [(xo, .inr (11, [.ref xg, .int 0, .ref xp, .int 0, .ref xq, .int 0, .ref r1, .ref r2, .ref r3, .ref r4, .ref se, .int 0, .int 0, .int 40, .int 0, .int 0])), (mo, .inr (16, [.int 0, .ref gl, .ref po, .ref pi, .ref bu, .ref pa, .int 0, .int 0, .int 40, .int 0, .null, .int 0, .int 0]))] := hD
  have hK : va_K D vwCl [] s := hK
  obtain rfl := w_1340
  refine lv_icmp_eq (tgt := 2999) hx hb dL_law_2836 (by decide) (fun _ => ?_) (fun cc => absurd (by decide) cc)
  refine W.widen (k := 797152) (n := 6710780) (Nat.le_of_ble_eq_true rfl) (Nat.le_of_ble_eq_true rfl) ?_
  exact hE _ _ _ hS (lv_sub hl [5, 0] rfl)
theorem dL_law_2841 : decode cL_law 2841 = .ok (.aload_n 1, 1) := by decide +kernel
theorem dL_law_2842 : decode cL_law 2842 = .ok (.invokevirtual 306, 3) := by decide +kernel
theorem dL_law_2845 : decode cL_law 2845 = .ok (.aload_n 2, 1) := by decide +kernel
theorem dL_law_2846 : decode cL_law 2846 = .ok (.invokevirtual 310, 3) := by decide +kernel
theorem dL_law_2849 : decode cL_law 2849 = .ok (.lcmp, 1) := by decide +kernel
theorem dL_law_2850 : decode cL_law 2850 = .ok (.ifCond .eq 149, 3) := by decide +kernel
set_option maxHeartbeats 4000000 in
set_option maxRecDepth 100000 in
theorem zl_43 {p : Program} {e : Env} {s : State} {m : MethodId} {below : List Frame} {meth : Method} {c : Code} {Q : State → Prop} {args : Array Value} (l : Launch) (hnt : l.stackTraces = false) (D : va_G) (G : Nat × Nat × Nat) (xo : Nat) (xg : Nat) (xp : Nat) (xq : Nat) (r1 : Nat) (r2 : Nat) (r3 : Nat) (r4 : Nat) (se : Nat) (n1 : Nat) (n2 : Nat) (n3 : Nat) (mo : Nat) (gl : Nat) (po : Nat) (pi : Nat) (bu : Nat) (pa : Nat) (ou : Nat) (od : Nat) (cg : ClassId) (cp : ClassId) (cq : ClassId) (ci : ClassId) (cj : ClassId) (cJ : ClassId) (cD : ClassId) {b L : Nat} {xs : Nat → Int32} {A : Nat → Prop} {H : Heap} {locs : List Loc} {ls : Array Slot} (hx : p.tables.exec = Jvm.exec) (hb : c.code = code) (hml : c.maxLocals = 9) (hown : s.vm.findClass RL = some m.cls) (hts : ∀ w ∈ wzL_law, w.before args s = true) (hT : FT G s) (hA : ∀ q : Nat, s.heap.size ≤ q → A q) (hZ : FZ G A s s.heap) (hX : va_X b L xs s s.heap) (hbl : b < s.heap.size) (hbA : ¬ A b) (hL : L = 5) (hK : va_K D vwCl [(cg, .object "Gatherhouse$Glass"), (cp, .object "Gatherhouse$Pot"), (cq, .object "Gatherhouse$Piece"), (ci, .int), (cj, .int), (cJ, .long), (cD, .double)] s) (hP : va_P D vwCl [(xo, .inr (11, [.ref xg, .int 0, .ref xp, .int 0, .ref xq, .int 0, .ref r1, .ref r2, .ref r3, .ref r4, .ref se, .int 0, .int 0, .int 40, .int 0, .int 0])), (xg, .inl (cg, 6, .inr (.inr (.inr (.inr (fun _ => none)))))), (xp, .inl (cp, 4, .inr (.inr (.inr (.inr (fun _ => none)))))), (xq, .inl (cq, 16, .inr (.inr (.inr (.inr (fun _ => none)))))), (r1, .inr (9, [.int 0, .int 0])), (r2, .inr (9, [.int 0, .int 0])), (r3, .inr (9, [.int 0, .int 0])), (r4, .inr (9, [.int 0, .int 0])), (se, .inr (10, [.ref n1, .ref n2, .ref n3, .int 0, .int 0, .int 0, .int 0])), (mo, .inr (16, [.int 0, .ref gl, .ref po, .ref pi, .ref bu, .ref pa, .int 0, .int 0, .int 40, .int 0, .null, .int 0, .int 0])), (gl, .inr (4, [.int 0, .ref G.1, .int 0])), (po, .inr (4, [.int 0, .ref G.1, .int 0])), (pi, .inr (4, [.int 0, .ref G.1, .int 0])), (bu, .inl (ci, 4, .inl (fun _ => 0))), (pa, .inl (cj, 4, .inl (fun _ => 0))), (ou, .inl (cJ, 1, .inr (.inl (fun _ => 0)))), (od, .inl (cD, 1, .inr (.inr (.inr (.inl (fun _ => 0))))))] H) (hD : va_D A [(xo, .inr (11, [.ref xg, .int 0, .ref xp, .int 0, .ref xq, .int 0, .ref r1, .ref r2, .ref r3, .ref r4, .ref se, .int 0, .int 0, .int 40, .int 0, .int 0])), (xg, .inl (cg, 6, .inr (.inr (.inr (.inr (fun _ => none)))))), (xp, .inl (cp, 4, .inr (.inr (.inr (.inr (fun _ => none)))))), (xq, .inl (cq, 16, .inr (.inr (.inr (.inr (fun _ => none)))))), (r1, .inr (9, [.int 0, .int 0])), (r2, .inr (9, [.int 0, .int 0])), (r3, .inr (9, [.int 0, .int 0])), (r4, .inr (9, [.int 0, .int 0])), (se, .inr (10, [.ref n1, .ref n2, .ref n3, .int 0, .int 0, .int 0, .int 0])), (mo, .inr (16, [.int 0, .ref gl, .ref po, .ref pi, .ref bu, .ref pa, .int 0, .int 0, .int 40, .int 0, .null, .int 0, .int 0])), (gl, .inr (4, [.int 0, .ref G.1, .int 0])), (po, .inr (4, [.int 0, .ref G.1, .int 0])), (pi, .inr (4, [.int 0, .ref G.1, .int 0])), (bu, .inl (ci, 4, .inl (fun _ => 0))), (pa, .inl (cj, 4, .inl (fun _ => 0))), (ou, .inl (cJ, 1, .inr (.inl (fun _ => 0)))), (od, .inl (cD, 1, .inr (.inr (.inr (.inl (fun _ => 0))))))]) (hS : va_S A s.heap H locs) (hl : lv_has ls 9 [(5, .int 0), (4, .ref od), (3, .ref ou), (2, .ref mo), (1, .ref xo), (0, .ref b)]) (hE : ∀ (H : Heap) (locs : List Loc) (ls : Array Slot), va_S A s.heap H locs → lv_has ls 9 [(0, .ref b), (5, .int 0)] → W p l e room_1 s m args below meth c H locs 797152 6710780 Q (F0 m 2999 ls [])) : W p l e room_1 s m args below meth c H locs 60 300 Q (F0 m 2841 ls []) := by
  have hP := hP.sub (ws' := [(xo, .inr (11, [.ref xg, .int 0, .ref xp, .int 0, .ref xq, .int 0, .ref r1, .ref r2, .ref r3, .ref r4, .ref se, .int 0, .int 0, .int 40, .int 0, .int 0])), (xq, .inl (cq, 16, .inr (.inr (.inr (.inr (fun _ => none)))))), (mo, .inr (16, [.int 0, .ref gl, .ref po, .ref pi, .ref bu, .ref pa, .int 0, .int 0, .int 40, .int 0, .null, .int 0, .int 0])), (pi, .inr (4, [.int 0, .ref G.1, .int 0]))]) [0, 3, 9, 12] rfl
  have hD := hD.sub (ws' := [(xo, .inr (11, [.ref xg, .int 0, .ref xp, .int 0, .ref xq, .int 0, .ref r1, .ref r2, .ref r3, .ref r4, .ref se, .int 0, .int 0, .int 40, .int 0, .int 0])), (xq, .inl (cq, 16, .inr (.inr (.inr (.inr (fun _ => none)))))), (mo, .inr (16, [.int 0, .ref gl, .ref po, .ref pi, .ref bu, .ref pa, .int 0, .int 0, .int 40, .int 0, .null, .int 0, .int 0])), (pi, .inr (4, [.int 0, .ref G.1, .int 0]))]) [0, 3, 9, 12] (by decide) rfl
  have hK := hK.sub (tys' := [(cq, .object "Gatherhouse$Piece")]) [2] rfl
  refine lv_aload_n hx hb dL_law_2841 rfl (lv_at hl 4 rfl) ?_
  refine vp_callSl (va_runV (As := []) (rest := []) ⟨hx, hb, hml, hown, hts⟩ (zc_X6_checksum l D G xo xg xp xq r1 r2 r3 r4 se 0 0 cq) (cwV 0 hts gzL_law_X6_checksum_306 rfl rfl rfl (by decide +kernel) ⟨(Nat.le_of_ble_eq_true rfl), (Nat.le_of_ble_eq_true rfl)⟩) ⟨p_RO_blind, va_recv hK hP (ci := 11) (q0 := 0) rfl rfl, (p_RO_at (tc := [(cq, .object "Gatherhouse$Piece")]) (wc := [(xo, .inr (11, [.ref xg, .int 0, .ref xp, .int 0, .ref xq, .int 0, .ref r1, .ref r2, .ref r3, .ref r4, .ref se, .int 0, .int 0, .int 40, .int 0, .int 0])), (xq, .inl (cq, 16, .inr (.inr (.inr (.inr (fun _ => none))))))]) hP hK hT [0, 1] [0] rfl rfl [.ref xo])⟩ rfl rfl hl.1 rfl (lv_room (Nat.le_of_ble_eq_true rfl)) dL_law_2842 ⟨(Nat.le_of_ble_eq_true rfl), (Nat.le_of_ble_eq_true rfl)⟩).run (fun r_1341 w_1342 => ?_)
  obtain rfl := w_1342
  refine lv_aload_n hx hb dL_law_2845 rfl (lv_at hl 3 rfl) ?_
  have hFc := va_free (wc := [(mo, .inr (16, [.int 0, .ref gl, .ref po, .ref pi, .ref bu, .ref pa, .int 0, .int 0, .int 40, .int 0, .null, .int 0, .int 0])), (pi, .inr (4, [.int 0, .ref G.1, .int 0]))]) hD hS hA [2, 3] rfl
  refine va_calll (va_runV (As := []) (rest := [.long 7]) ⟨hx, hb, hml, hown, hts⟩ (zc_X11_checksum l D G mo gl po pi bu pa 0 0 0 H.size) (cwV 0 hts gzL_law_X11_checksum_310 rfl rfl rfl (by decide +kernel) ⟨(Nat.le_of_ble_eq_true rfl), (Nat.le_of_ble_eq_true rfl)⟩) ⟨p_RW_blind, va_recv hK hP (ci := 16) (q0 := 2) rfl rfl, (p_RW_at (tc := []) (wc := [(mo, .inr (16, [.int 0, .ref gl, .ref po, .ref pi, .ref bu, .ref pa, .int 0, .int 0, .int 40, .int 0, .null, .int 0, .int 0])), (pi, .inr (4, [.int 0, .ref G.1, .int 0]))]) hP hK hD hS hA hT hZ [2, 3] [] rfl rfl (by decide) rfl [.ref mo])⟩ rfl rfl hl.1 rfl (lv_room (Nat.le_of_ble_eq_true rfl)) dL_law_2846 ⟨(Nat.le_of_ble_eq_true rfl), (Nat.le_of_ble_eq_true rfl)⟩) hS (fun q _ h => hFc q h) hFc (fun r_1343 u t H locs ht hvm w_1344 hB hz1 hk1 hS => ?_)
  obtain ⟨hP, hD, hK⟩ := q_join (D := D) (wc := [(mo, .inr (16, [.int 0, .ref gl, .ref po, .ref pi, .ref bu, .ref pa, .int 0, .int 0, .int 40, .int 0, .null, .int 0, .int 0])), (pi, .inr (4, [.int 0, .ref G.1, .int 0]))]) (wr := [(xo, .inr (11, [.ref xg, .int 0, .ref xp, .int 0, .ref xq, .int 0, .ref r1, .ref r2, .ref r3, .ref r4, .ref se, .int 0, .int 0, .int 40, .int 0, .int 0])), (xq, .inl (cq, 16, .inr (.inr (.inr (.inr (fun _ => none))))))]) (w1 := [(mo, .inr (16, [.int 0, .ref gl, .ref po, .ref pi, .ref bu, .ref pa, .int 0, .int 0, .int 40, .int 0, .null, .int 0, .int 0])), (pi, .inr (4, [.int 0, .ref G.1, .int 0]))]) (tyr := [(cq, .object "Gatherhouse$Piece")]) (ty1 := []) hP hD hK [2, 3] [0, 1] [0] rfl rfl (by decide) (by decide) rfl hFc hk1 ht hvm hB
  have hP : va_P D vwCl [(xo, .inr (11, [.ref xg, .int 0, .ref xp, .int 0, .ref xq, .int 0, .ref r1, .ref r2, .ref r3, .ref r4, .ref se, .int 0, .int 0, .int 40, .int 0, .int 0])), (xq, .inl (cq, 16, .inr (.inr (.inr (.inr (fun _ => none)))))), (mo, .inr (16, [.int 0, .ref gl, .ref po, .ref pi, .ref bu, .ref pa, .int 0, .int 0, .int 40, .int 0, .null, .int 0, .int 0])), (pi, .inr (4, [.int 0, .ref G.1, .int 0]))] H := hP
  have hD : va_D A [(xo, .inr (11, [.ref xg, .int 0, .ref xp, .int 0, .ref xq, .int 0, .ref r1, .ref r2, .ref r3, .ref r4, .ref se, .int 0, .int 0, .int 40, .int 0, .int 0])), (xq, .inl (cq, 16, .inr (.inr (.inr (.inr (fun _ => none)))))), (mo, .inr (16, [.int 0, .ref gl, .ref po, .ref pi, .ref bu, .ref pa, .int 0, .int 0, .int 40, .int 0, .null, .int 0, .int 0])), (pi, .inr (4, [.int 0, .ref G.1, .int 0]))] := hD
  have hK : va_K D vwCl [(cq, .object "Gatherhouse$Piece")] s := hK
  refine W.widen (k := 61) (n := 304) (Nat.le_of_ble_eq_true rfl) (Nat.le_of_ble_eq_true rfl) ?_
  obtain rfl := w_1344
  refine W.lcmp hx hb dL_law_2849 ?_
  refine lv_topi (fun y_1345 ey_1345 => ?_)
  have ey_1345 : y_1345 = 0 := ey_1345.trans (by decide +kernel)
  subst ey_1345
  refine lv_if_eq (tgt := 2999) hx hb dL_law_2850 (by decide) (fun _ => ?_) (fun cc => absurd (by decide) cc)
  refine W.widen (k := 797152) (n := 6710780) (Nat.le_of_ble_eq_true rfl) (Nat.le_of_ble_eq_true rfl) ?_
  exact hE _ _ _ hS (lv_sub hl [5, 0] rfl)
theorem dL_law_2855 : decode cL_law 2855 = .ok (.aload_n 1, 1) := by decide +kernel
theorem dL_law_2856 : decode cL_law 2856 = .ok (.aload 4, 2) := by decide +kernel
theorem dL_law_2858 : decode cL_law 2858 = .ok (.invokestatic 311, 3) := by decide +kernel
theorem dL_law_2861 : decode cL_law 2861 = .ok (.istore 6, 2) := by decide +kernel
theorem dL_law_2863 : decode cL_law 2863 = .ok (.aload_n 2, 1) := by decide +kernel
theorem dL_law_2864 : decode cL_law 2864 = .ok (.invokevirtual 314, 3) := by decide +kernel
theorem dL_law_2867 : decode cL_law 2867 = .ok (.fstore 7, 2) := by decide +kernel
theorem dL_law_2869 : decode cL_law 2869 = .ok (.aload_n 2, 1) := by decide +kernel
theorem dL_law_2870 : decode cL_law 2870 = .ok (.invokevirtual 165, 3) := by decide +kernel
theorem dL_law_2873 : decode cL_law 2873 = .ok (.iload 6, 2) := by decide +kernel
theorem dL_law_2875 : decode cL_law 2875 = .ok (.if_icmp .eq 5, 3) := by decide +kernel
theorem dL_law_2880 : decode cL_law 2880 = .ok (.iload 6, 2) := by decide +kernel
theorem dL_law_2882 : decode cL_law 2882 = .ok (.ifCond .ne 36, 3) := by decide +kernel
theorem dL_law_2918 : decode cL_law 2918 = .ok (.goto 81, 3) := by decide +kernel
set_option maxHeartbeats 4000000 in
set_option maxRecDepth 100000 in
theorem zl_44 {p : Program} {e : Env} {s : State} {m : MethodId} {below : List Frame} {meth : Method} {c : Code} {Q : State → Prop} {args : Array Value} (l : Launch) (hnt : l.stackTraces = false) (D : va_G) (G : Nat × Nat × Nat) (xo : Nat) (xg : Nat) (xp : Nat) (xq : Nat) (r1 : Nat) (r2 : Nat) (r3 : Nat) (r4 : Nat) (se : Nat) (n1 : Nat) (n2 : Nat) (n3 : Nat) (mo : Nat) (gl : Nat) (po : Nat) (pi : Nat) (bu : Nat) (pa : Nat) (ou : Nat) (od : Nat) (cg : ClassId) (cp : ClassId) (cq : ClassId) (ci : ClassId) (cj : ClassId) (cJ : ClassId) (cD : ClassId) {b L : Nat} {xs : Nat → Int32} {A : Nat → Prop} {H : Heap} {locs : List Loc} {ls : Array Slot} (hx : p.tables.exec = Jvm.exec) (hb : c.code = code) (hml : c.maxLocals = 9) (hown : s.vm.findClass RL = some m.cls) (hts : ∀ w ∈ wzL_law, w.before args s = true) (hT : FT G s) (hA : ∀ q : Nat, s.heap.size ≤ q → A q) (hZ : FZ G A s s.heap) (hX : va_X b L xs s s.heap) (hbl : b < s.heap.size) (hbA : ¬ A b) (hL : L = 5) (hK : va_K D vwCl [(cg, .object "Gatherhouse$Glass"), (cp, .object "Gatherhouse$Pot"), (cq, .object "Gatherhouse$Piece"), (ci, .int), (cj, .int), (cJ, .long), (cD, .double)] s) (hP : va_P D vwCl [(xo, .inr (11, [.ref xg, .int 0, .ref xp, .int 0, .ref xq, .int 0, .ref r1, .ref r2, .ref r3, .ref r4, .ref se, .int 0, .int 0, .int 40, .int 0, .int 0])), (xg, .inl (cg, 6, .inr (.inr (.inr (.inr (fun _ => none)))))), (xp, .inl (cp, 4, .inr (.inr (.inr (.inr (fun _ => none)))))), (xq, .inl (cq, 16, .inr (.inr (.inr (.inr (fun _ => none)))))), (r1, .inr (9, [.int 0, .int 0])), (r2, .inr (9, [.int 0, .int 0])), (r3, .inr (9, [.int 0, .int 0])), (r4, .inr (9, [.int 0, .int 0])), (se, .inr (10, [.ref n1, .ref n2, .ref n3, .int 0, .int 0, .int 0, .int 0])), (mo, .inr (16, [.int 0, .ref gl, .ref po, .ref pi, .ref bu, .ref pa, .int 0, .int 0, .int 40, .int 0, .null, .int 0, .int 0])), (gl, .inr (4, [.int 0, .ref G.1, .int 0])), (po, .inr (4, [.int 0, .ref G.1, .int 0])), (pi, .inr (4, [.int 0, .ref G.1, .int 0])), (bu, .inl (ci, 4, .inl (fun _ => 0))), (pa, .inl (cj, 4, .inl (fun _ => 0))), (ou, .inl (cJ, 1, .inr (.inl (fun _ => 0)))), (od, .inl (cD, 1, .inr (.inr (.inr (.inl (fun _ => 0))))))] H) (hD : va_D A [(xo, .inr (11, [.ref xg, .int 0, .ref xp, .int 0, .ref xq, .int 0, .ref r1, .ref r2, .ref r3, .ref r4, .ref se, .int 0, .int 0, .int 40, .int 0, .int 0])), (xg, .inl (cg, 6, .inr (.inr (.inr (.inr (fun _ => none)))))), (xp, .inl (cp, 4, .inr (.inr (.inr (.inr (fun _ => none)))))), (xq, .inl (cq, 16, .inr (.inr (.inr (.inr (fun _ => none)))))), (r1, .inr (9, [.int 0, .int 0])), (r2, .inr (9, [.int 0, .int 0])), (r3, .inr (9, [.int 0, .int 0])), (r4, .inr (9, [.int 0, .int 0])), (se, .inr (10, [.ref n1, .ref n2, .ref n3, .int 0, .int 0, .int 0, .int 0])), (mo, .inr (16, [.int 0, .ref gl, .ref po, .ref pi, .ref bu, .ref pa, .int 0, .int 0, .int 40, .int 0, .null, .int 0, .int 0])), (gl, .inr (4, [.int 0, .ref G.1, .int 0])), (po, .inr (4, [.int 0, .ref G.1, .int 0])), (pi, .inr (4, [.int 0, .ref G.1, .int 0])), (bu, .inl (ci, 4, .inl (fun _ => 0))), (pa, .inl (cj, 4, .inl (fun _ => 0))), (ou, .inl (cJ, 1, .inr (.inl (fun _ => 0)))), (od, .inl (cD, 1, .inr (.inr (.inr (.inl (fun _ => 0))))))]) (hS : va_S A s.heap H locs) (hl : lv_has ls 9 [(5, .int 0), (4, .ref od), (3, .ref ou), (2, .ref mo), (1, .ref xo), (0, .ref b)]) (hE : ∀ (H : Heap) (locs : List Loc) (ls : Array Slot), va_S A s.heap H locs → lv_has ls 9 [(0, .ref b), (5, .int 0)] → W p l e room_1 s m args below meth c H locs 797152 6710780 Q (F0 m 2999 ls [])) : W p l e room_1 s m args below meth c H locs 60 300 Q (F0 m 2855 ls []) := by
  have hP := hP.sub (ws' := [(xo, .inr (11, [.ref xg, .int 0, .ref xp, .int 0, .ref xq, .int 0, .ref r1, .ref r2, .ref r3, .ref r4, .ref se, .int 0, .int 0, .int 40, .int 0, .int 0])), (mo, .inr (16, [.int 0, .ref gl, .ref po, .ref pi, .ref bu, .ref pa, .int 0, .int 0, .int 40, .int 0, .null, .int 0, .int 0])), (pi, .inr (4, [.int 0, .ref G.1, .int 0])), (od, .inl (cD, 1, .inr (.inr (.inr (.inl (fun _ => 0))))))]) [0, 9, 12, 16] rfl
  have hD := hD.sub (ws' := [(xo, .inr (11, [.ref xg, .int 0, .ref xp, .int 0, .ref xq, .int 0, .ref r1, .ref r2, .ref r3, .ref r4, .ref se, .int 0, .int 0, .int 40, .int 0, .int 0])), (mo, .inr (16, [.int 0, .ref gl, .ref po, .ref pi, .ref bu, .ref pa, .int 0, .int 0, .int 40, .int 0, .null, .int 0, .int 0])), (pi, .inr (4, [.int 0, .ref G.1, .int 0])), (od, .inl (cD, 1, .inr (.inr (.inr (.inl (fun _ => 0))))))]) [0, 9, 12, 16] (by decide) rfl
  have hK := hK.sub (tys' := [(cD, .double)]) [6] rfl
  refine lv_aload_n hx hb dL_law_2855 rfl (lv_at hl 4 rfl) ?_
  refine lv_aload hx hb dL_law_2856 (lv_at hl 1 rfl) ?_
  have hFc := va_free (wc := [(xo, .inr (11, [.ref xg, .int 0, .ref xp, .int 0, .ref xq, .int 0, .ref r1, .ref r2, .ref r3, .ref r4, .ref se, .int 0, .int 0, .int 40, .int 0, .int 0])), (od, .inl (cD, 1, .inr (.inr (.inr (.inl (fun _ => 0))))))]) hD hS hA [0, 3] rfl
  refine vx_calli (vx_runSX (As := [.ref xo, .ref od]) (rest := []) ⟨hx, hb, hml, hown, hts⟩ (zc_L_wholeShare l hnt D G xo xg xp xq r1 r2 r3 r4 se 0 0 od cD H.size) (vx_cwSW 2 hts gzL_law_L_wholeShare_311 rfl rfl rfl (by decide +kernel) ⟨(Nat.le_of_ble_eq_true rfl), (Nat.le_of_ble_eq_true rfl)⟩) ⟨p_RW_blind, (p_RW_at (tc := [(cD, .double)]) (wc := [(xo, .inr (11, [.ref xg, .int 0, .ref xp, .int 0, .ref xq, .int 0, .ref r1, .ref r2, .ref r3, .ref r4, .ref se, .int 0, .int 0, .int 40, .int 0, .int 0])), (od, .inl (cD, 1, .inr (.inr (.inr (.inl (fun _ => 0))))))]) hP hK hD hS hA hT hZ [0, 3] [0] rfl rfl (by decide) rfl [.ref xo, .ref od])⟩ rfl rfl hl.1 rfl (lv_room (Nat.le_of_ble_eq_true rfl)) dL_law_2858 ⟨(Nat.le_of_ble_eq_true rfl), (Nat.le_of_ble_eq_true rfl)⟩) hS (fun q _ h => hFc q h) hFc (fun q _ h => hFc q h) (fun E ce q9 u t H locs ht hvm hpx hBX hz1 hk1 hS hce hcv hcl => ?_) (fun r_1346 u t H locs ht hvm w_1347 hB hz1 hk1 hS => ?_)
  · exact (show False from hBX).elim
  · obtain ⟨hP, hD, hK⟩ := q_join (D := D) (wc := [(xo, .inr (11, [.ref xg, .int 0, .ref xp, .int 0, .ref xq, .int 0, .ref r1, .ref r2, .ref r3, .ref r4, .ref se, .int 0, .int 0, .int 40, .int 0, .int 0])), (od, .inl (cD, 1, .inr (.inr (.inr (.inl (fun _ => 0))))))]) (wr := [(mo, .inr (16, [.int 0, .ref gl, .ref po, .ref pi, .ref bu, .ref pa, .int 0, .int 0, .int 40, .int 0, .null, .int 0, .int 0])), (pi, .inr (4, [.int 0, .ref G.1, .int 0]))]) (w1 := []) (tyr := [(cD, .double)]) (ty1 := []) hP hD hK [0, 3] [1, 2] [0] rfl rfl (by decide) (by decide) rfl hFc hk1 ht hvm (q_none hK hvm)
    have hP : va_P D vwCl [(mo, .inr (16, [.int 0, .ref gl, .ref po, .ref pi, .ref bu, .ref pa, .int 0, .int 0, .int 40, .int 0, .null, .int 0, .int 0])), (pi, .inr (4, [.int 0, .ref G.1, .int 0]))] H := hP
    have hD : va_D A [(mo, .inr (16, [.int 0, .ref gl, .ref po, .ref pi, .ref bu, .ref pa, .int 0, .int 0, .int 40, .int 0, .null, .int 0, .int 0])), (pi, .inr (4, [.int 0, .ref G.1, .int 0]))] := hD
    have hK : va_K D vwCl [(cD, .double)] s := hK
    refine W.widen (k := 61) (n := 306) (Nat.le_of_ble_eq_true rfl) (Nat.le_of_ble_eq_true rfl) ?_
    obtain rfl := w_1347
    refine lv_istore (lv' := [(6, .int 1), (5, .int 0), (4, .ref od), (3, .ref ou), (2, .ref mo), (1, .ref xo), (0, .ref b)]) hx hb dL_law_2861 hl (by decide) rfl (fun ls hl => ?_)
    refine lv_aload_n hx hb dL_law_2863 rfl (lv_at hl 4 rfl) ?_
    have hFc := va_free (wc := [(mo, .inr (16, [.int 0, .ref gl, .ref po, .ref pi, .ref bu, .ref pa, .int 0, .int 0, .int 40, .int 0, .null, .int 0, .int 0])), (pi, .inr (4, [.int 0, .ref G.1, .int 0]))]) hD hS hA [0, 1] rfl
    refine va_callf (va_runV (As := []) (rest := []) ⟨hx, hb, hml, hown, hts⟩ (zc_X11_wholeShare l D G mo gl po pi bu pa 0 0 0 H.size) (cwV 0 hts gzL_law_X11_wholeShare_314 rfl rfl rfl (by decide +kernel) ⟨(Nat.le_of_ble_eq_true rfl), (Nat.le_of_ble_eq_true rfl)⟩) ⟨p_RW_blind, va_recv hK hP (ci := 16) (q0 := 0) rfl rfl, (p_RW_at (tc := []) (wc := [(mo, .inr (16, [.int 0, .ref gl, .ref po, .ref pi, .ref bu, .ref pa, .int 0, .int 0, .int 40, .int 0, .null, .int 0, .int 0])), (pi, .inr (4, [.int 0, .ref G.1, .int 0]))]) hP hK hD hS hA hT hZ [0, 1] [] rfl rfl (by decide) rfl [.ref mo])⟩ rfl rfl hl.1 rfl (lv_room (Nat.le_of_ble_eq_true rfl)) dL_law_2864 ⟨(Nat.le_of_ble_eq_true rfl), (Nat.le_of_ble_eq_true rfl)⟩) hS (fun q _ h => hFc q h) hFc (fun r_1348 u t H locs ht hvm w_1349 hB hz1 hk1 hS => ?_)
    obtain ⟨hP, hD, hK⟩ := q_join (D := D) (wc := [(mo, .inr (16, [.int 0, .ref gl, .ref po, .ref pi, .ref bu, .ref pa, .int 0, .int 0, .int 40, .int 0, .null, .int 0, .int 0])), (pi, .inr (4, [.int 0, .ref G.1, .int 0]))]) (wr := []) (w1 := [(mo, .inr (16, [.int 1, .ref gl, .ref po, .ref pi, .ref bu, .ref pa, .int 0, .int 0, .int 40, .int 0, .null, .int 0, .int 0])), (pi, .inr (4, [.int 0, .ref G.1, .int 0]))]) (tyr := [(cD, .double)]) (ty1 := []) hP hD hK [0, 1] [] [0] rfl rfl (by decide) (by decide) rfl hFc hk1 ht hvm hB
    have hP : va_P D vwCl [(mo, .inr (16, [.int 1, .ref gl, .ref po, .ref pi, .ref bu, .ref pa, .int 0, .int 0, .int 40, .int 0, .null, .int 0, .int 0])), (pi, .inr (4, [.int 0, .ref G.1, .int 0]))] H := hP
    have hD : va_D A [(mo, .inr (16, [.int 1, .ref gl, .ref po, .ref pi, .ref bu, .ref pa, .int 0, .int 0, .int 40, .int 0, .null, .int 0, .int 0])), (pi, .inr (4, [.int 0, .ref G.1, .int 0]))] := hD
    have hK : va_K D vwCl [(cD, .double)] s := hK
    refine W.widen (k := 62) (n := 310) (Nat.le_of_ble_eq_true rfl) (Nat.le_of_ble_eq_true rfl) ?_
    obtain rfl := w_1349
    refine lv_fstore (lv' := [(7, .float FP.fconst0), (6, .int 1), (5, .int 0), (4, .ref od), (3, .ref ou), (2, .ref mo), (1, .ref xo), (0, .ref b)]) hx hb dL_law_2867 hl (by decide) rfl (fun ls hl => ?_)
    refine lv_aload_n hx hb dL_law_2869 rfl (lv_at hl 5 rfl) ?_
    refine vp_callSi (va_runV (As := []) (rest := []) ⟨hx, hb, hml, hown, hts⟩ (zc_X11_thrown l D G mo gl po pi bu pa 1 0 0 40) (cwV 0 hts gzL_law_X11_thrown_165 rfl rfl rfl (by decide +kernel) ⟨(Nat.le_of_ble_eq_true rfl), (Nat.le_of_ble_eq_true rfl)⟩) ⟨p_RO_blind, va_recv hK hP (ci := 16) (q0 := 0) rfl rfl, (p_RO_at (tc := []) (wc := [(mo, .inr (16, [.int 1, .ref gl, .ref po, .ref pi, .ref bu, .ref pa, .int 0, .int 0, .int 40, .int 0, .null, .int 0, .int 0]))]) hP hK hT [0] [] rfl rfl [.ref mo])⟩ rfl rfl hl.1 rfl (lv_room (Nat.le_of_ble_eq_true rfl)) dL_law_2870 ⟨(Nat.le_of_ble_eq_true rfl), (Nat.le_of_ble_eq_true rfl)⟩).run (fun r_1350 w_1351 => ?_)
    obtain rfl := w_1351
    refine lv_iload hx hb dL_law_2873 (lv_at hl 1 rfl) ?_
    refine lv_icmp_eq (tgt := 2880) hx hb dL_law_2875 (by decide) (fun _ => ?_) (fun cc => absurd (by decide) cc)
    refine lv_iload hx hb dL_law_2880 (lv_at hl 1 rfl) ?_
    refine lv_if_ne (tgt := 2918) hx hb dL_law_2882 (by decide) (fun _ => ?_) (fun cc => absurd cc (by decide))
    refine lv_goto (tgt := 2999) hx hb dL_law_2918 (by decide) ?_
    refine W.widen (k := 797152) (n := 6710780) (Nat.le_of_ble_eq_true rfl) (Nat.le_of_ble_eq_true rfl) ?_
    exact hE _ _ _ hS (lv_sub hl [7, 2] rfl)
theorem dL_law_2921 : decode cL_law 2921 = .ok (.aload_n 1, 1) := by decide +kernel
theorem dL_law_2922 : decode cL_law 2922 = .ok (.aload 4, 2) := by decide +kernel
theorem dL_law_2924 : decode cL_law 2924 = .ok (.invokestatic 315, 3) := by decide +kernel
theorem dL_law_2927 : decode cL_law 2927 = .ok (.istore 6, 2) := by decide +kernel
theorem dL_law_2929 : decode cL_law 2929 = .ok (.aload_n 2, 1) := by decide +kernel
theorem dL_law_2930 : decode cL_law 2930 = .ok (.invokevirtual 317, 3) := by decide +kernel
theorem dL_law_2933 : decode cL_law 2933 = .ok (.dstore 7, 2) := by decide +kernel
theorem dL_law_2935 : decode cL_law 2935 = .ok (.aload_n 2, 1) := by decide +kernel
theorem dL_law_2936 : decode cL_law 2936 = .ok (.invokevirtual 165, 3) := by decide +kernel
theorem dL_law_2939 : decode cL_law 2939 = .ok (.iload 6, 2) := by decide +kernel
theorem dL_law_2941 : decode cL_law 2941 = .ok (.if_icmp .eq 5, 3) := by decide +kernel
theorem dL_law_2946 : decode cL_law 2946 = .ok (.iload 6, 2) := by decide +kernel
theorem dL_law_2948 : decode cL_law 2948 = .ok (.ifCond .ne 35, 3) := by decide +kernel
theorem dL_law_2983 : decode cL_law 2983 = .ok (.goto 16, 3) := by decide +kernel
set_option maxHeartbeats 4000000 in
set_option maxRecDepth 100000 in
theorem zl_45 {p : Program} {e : Env} {s : State} {m : MethodId} {below : List Frame} {meth : Method} {c : Code} {Q : State → Prop} {args : Array Value} (l : Launch) (hnt : l.stackTraces = false) (D : va_G) (G : Nat × Nat × Nat) (xo : Nat) (xg : Nat) (xp : Nat) (xq : Nat) (r1 : Nat) (r2 : Nat) (r3 : Nat) (r4 : Nat) (se : Nat) (n1 : Nat) (n2 : Nat) (n3 : Nat) (mo : Nat) (gl : Nat) (po : Nat) (pi : Nat) (bu : Nat) (pa : Nat) (ou : Nat) (od : Nat) (cg : ClassId) (cp : ClassId) (cq : ClassId) (ci : ClassId) (cj : ClassId) (cJ : ClassId) (cD : ClassId) {b L : Nat} {xs : Nat → Int32} {A : Nat → Prop} {H : Heap} {locs : List Loc} {ls : Array Slot} (hx : p.tables.exec = Jvm.exec) (hb : c.code = code) (hml : c.maxLocals = 9) (hown : s.vm.findClass RL = some m.cls) (hts : ∀ w ∈ wzL_law, w.before args s = true) (hT : FT G s) (hA : ∀ q : Nat, s.heap.size ≤ q → A q) (hZ : FZ G A s s.heap) (hX : va_X b L xs s s.heap) (hbl : b < s.heap.size) (hbA : ¬ A b) (hL : L = 5) (hK : va_K D vwCl [(cg, .object "Gatherhouse$Glass"), (cp, .object "Gatherhouse$Pot"), (cq, .object "Gatherhouse$Piece"), (ci, .int), (cj, .int), (cJ, .long), (cD, .double)] s) (hP : va_P D vwCl [(xo, .inr (11, [.ref xg, .int 0, .ref xp, .int 0, .ref xq, .int 0, .ref r1, .ref r2, .ref r3, .ref r4, .ref se, .int 0, .int 0, .int 40, .int 0, .int 0])), (xg, .inl (cg, 6, .inr (.inr (.inr (.inr (fun _ => none)))))), (xp, .inl (cp, 4, .inr (.inr (.inr (.inr (fun _ => none)))))), (xq, .inl (cq, 16, .inr (.inr (.inr (.inr (fun _ => none)))))), (r1, .inr (9, [.int 0, .int 0])), (r2, .inr (9, [.int 0, .int 0])), (r3, .inr (9, [.int 0, .int 0])), (r4, .inr (9, [.int 0, .int 0])), (se, .inr (10, [.ref n1, .ref n2, .ref n3, .int 0, .int 0, .int 0, .int 0])), (mo, .inr (16, [.int 0, .ref gl, .ref po, .ref pi, .ref bu, .ref pa, .int 0, .int 0, .int 40, .int 0, .null, .int 0, .int 0])), (gl, .inr (4, [.int 0, .ref G.1, .int 0])), (po, .inr (4, [.int 0, .ref G.1, .int 0])), (pi, .inr (4, [.int 0, .ref G.1, .int 0])), (bu, .inl (ci, 4, .inl (fun _ => 0))), (pa, .inl (cj, 4, .inl (fun _ => 0))), (ou, .inl (cJ, 1, .inr (.inl (fun _ => 0)))), (od, .inl (cD, 1, .inr (.inr (.inr (.inl (fun _ => 0))))))] H) (hD : va_D A [(xo, .inr (11, [.ref xg, .int 0, .ref xp, .int 0, .ref xq, .int 0, .ref r1, .ref r2, .ref r3, .ref r4, .ref se, .int 0, .int 0, .int 40, .int 0, .int 0])), (xg, .inl (cg, 6, .inr (.inr (.inr (.inr (fun _ => none)))))), (xp, .inl (cp, 4, .inr (.inr (.inr (.inr (fun _ => none)))))), (xq, .inl (cq, 16, .inr (.inr (.inr (.inr (fun _ => none)))))), (r1, .inr (9, [.int 0, .int 0])), (r2, .inr (9, [.int 0, .int 0])), (r3, .inr (9, [.int 0, .int 0])), (r4, .inr (9, [.int 0, .int 0])), (se, .inr (10, [.ref n1, .ref n2, .ref n3, .int 0, .int 0, .int 0, .int 0])), (mo, .inr (16, [.int 0, .ref gl, .ref po, .ref pi, .ref bu, .ref pa, .int 0, .int 0, .int 40, .int 0, .null, .int 0, .int 0])), (gl, .inr (4, [.int 0, .ref G.1, .int 0])), (po, .inr (4, [.int 0, .ref G.1, .int 0])), (pi, .inr (4, [.int 0, .ref G.1, .int 0])), (bu, .inl (ci, 4, .inl (fun _ => 0))), (pa, .inl (cj, 4, .inl (fun _ => 0))), (ou, .inl (cJ, 1, .inr (.inl (fun _ => 0)))), (od, .inl (cD, 1, .inr (.inr (.inr (.inl (fun _ => 0))))))]) (hS : va_S A s.heap H locs) (hl : lv_has ls 9 [(5, .int 0), (4, .ref od), (3, .ref ou), (2, .ref mo), (1, .ref xo), (0, .ref b)]) (hE : ∀ (H : Heap) (locs : List Loc) (ls : Array Slot), va_S A s.heap H locs → lv_has ls 9 [(0, .ref b), (5, .int 0)] → W p l e room_1 s m args below meth c H locs 797152 6710780 Q (F0 m 2999 ls [])) : W p l e room_1 s m args below meth c H locs 60 300 Q (F0 m 2921 ls []) := by
  have hP := hP.sub (ws' := [(xo, .inr (11, [.ref xg, .int 0, .ref xp, .int 0, .ref xq, .int 0, .ref r1, .ref r2, .ref r3, .ref r4, .ref se, .int 0, .int 0, .int 40, .int 0, .int 0])), (mo, .inr (16, [.int 0, .ref gl, .ref po, .ref pi, .ref bu, .ref pa, .int 0, .int 0, .int 40, .int 0, .null, .int 0, .int 0])), (pi, .inr (4, [.int 0, .ref G.1, .int 0])), (od, .inl (cD, 1, .inr (.inr (.inr (.inl (fun _ => 0))))))]) [0, 9, 12, 16] rfl
  have hD := hD.sub (ws' := [(xo, .inr (11, [.ref xg, .int 0, .ref xp, .int 0, .ref xq, .int 0, .ref r1, .ref r2, .ref r3, .ref r4, .ref se, .int 0, .int 0, .int 40, .int 0, .int 0])), (mo, .inr (16, [.int 0, .ref gl, .ref po, .ref pi, .ref bu, .ref pa, .int 0, .int 0, .int 40, .int 0, .null, .int 0, .int 0])), (pi, .inr (4, [.int 0, .ref G.1, .int 0])), (od, .inl (cD, 1, .inr (.inr (.inr (.inl (fun _ => 0))))))]) [0, 9, 12, 16] (by decide) rfl
  have hK := hK.sub (tys' := [(cD, .double)]) [6] rfl
  refine lv_aload_n hx hb dL_law_2921 rfl (lv_at hl 4 rfl) ?_
  refine lv_aload hx hb dL_law_2922 (lv_at hl 1 rfl) ?_
  have hFc := va_free (wc := [(xo, .inr (11, [.ref xg, .int 0, .ref xp, .int 0, .ref xq, .int 0, .ref r1, .ref r2, .ref r3, .ref r4, .ref se, .int 0, .int 0, .int 40, .int 0, .int 0])), (od, .inl (cD, 1, .inr (.inr (.inr (.inl (fun _ => 0))))))]) hD hS hA [0, 3] rfl
  refine vx_calli (vx_runSX (As := [.ref xo, .ref od]) (rest := []) ⟨hx, hb, hml, hown, hts⟩ (zc_L_meanMass l hnt D G xo xg xp xq r1 r2 r3 r4 se 0 0 od cD H.size) (vx_cwSW 2 hts gzL_law_L_meanMass_315 rfl rfl rfl (by decide +kernel) ⟨(Nat.le_of_ble_eq_true rfl), (Nat.le_of_ble_eq_true rfl)⟩) ⟨p_RW_blind, (p_RW_at (tc := [(cD, .double)]) (wc := [(xo, .inr (11, [.ref xg, .int 0, .ref xp, .int 0, .ref xq, .int 0, .ref r1, .ref r2, .ref r3, .ref r4, .ref se, .int 0, .int 0, .int 40, .int 0, .int 0])), (od, .inl (cD, 1, .inr (.inr (.inr (.inl (fun _ => 0))))))]) hP hK hD hS hA hT hZ [0, 3] [0] rfl rfl (by decide) rfl [.ref xo, .ref od])⟩ rfl rfl hl.1 rfl (lv_room (Nat.le_of_ble_eq_true rfl)) dL_law_2924 ⟨(Nat.le_of_ble_eq_true rfl), (Nat.le_of_ble_eq_true rfl)⟩) hS (fun q _ h => hFc q h) hFc (fun q _ h => hFc q h) (fun E ce q9 u t H locs ht hvm hpx hBX hz1 hk1 hS hce hcv hcl => ?_) (fun r_1352 u t H locs ht hvm w_1353 hB hz1 hk1 hS => ?_)
  · exact (show False from hBX).elim
  · obtain ⟨hP, hD, hK⟩ := q_join (D := D) (wc := [(xo, .inr (11, [.ref xg, .int 0, .ref xp, .int 0, .ref xq, .int 0, .ref r1, .ref r2, .ref r3, .ref r4, .ref se, .int 0, .int 0, .int 40, .int 0, .int 0])), (od, .inl (cD, 1, .inr (.inr (.inr (.inl (fun _ => 0))))))]) (wr := [(mo, .inr (16, [.int 0, .ref gl, .ref po, .ref pi, .ref bu, .ref pa, .int 0, .int 0, .int 40, .int 0, .null, .int 0, .int 0])), (pi, .inr (4, [.int 0, .ref G.1, .int 0]))]) (w1 := []) (tyr := [(cD, .double)]) (ty1 := []) hP hD hK [0, 3] [1, 2] [0] rfl rfl (by decide) (by decide) rfl hFc hk1 ht hvm (q_none hK hvm)
    have hP : va_P D vwCl [(mo, .inr (16, [.int 0, .ref gl, .ref po, .ref pi, .ref bu, .ref pa, .int 0, .int 0, .int 40, .int 0, .null, .int 0, .int 0])), (pi, .inr (4, [.int 0, .ref G.1, .int 0]))] H := hP
    have hD : va_D A [(mo, .inr (16, [.int 0, .ref gl, .ref po, .ref pi, .ref bu, .ref pa, .int 0, .int 0, .int 40, .int 0, .null, .int 0, .int 0])), (pi, .inr (4, [.int 0, .ref G.1, .int 0]))] := hD
    have hK : va_K D vwCl [(cD, .double)] s := hK
    refine W.widen (k := 61) (n := 306) (Nat.le_of_ble_eq_true rfl) (Nat.le_of_ble_eq_true rfl) ?_
    obtain rfl := w_1353
    refine lv_istore (lv' := [(6, .int 1), (5, .int 0), (4, .ref od), (3, .ref ou), (2, .ref mo), (1, .ref xo), (0, .ref b)]) hx hb dL_law_2927 hl (by decide) rfl (fun ls hl => ?_)
    refine lv_aload_n hx hb dL_law_2929 rfl (lv_at hl 4 rfl) ?_
    have hFc := va_free (wc := [(mo, .inr (16, [.int 0, .ref gl, .ref po, .ref pi, .ref bu, .ref pa, .int 0, .int 0, .int 40, .int 0, .null, .int 0, .int 0])), (pi, .inr (4, [.int 0, .ref G.1, .int 0]))]) hD hS hA [0, 1] rfl
    refine va_calld (va_runV (As := []) (rest := []) ⟨hx, hb, hml, hown, hts⟩ (zc_X11_meanMass l D G mo gl po pi bu pa 0 0 0 H.size) (cwV 0 hts gzL_law_X11_meanMass_317 rfl rfl rfl (by decide +kernel) ⟨(Nat.le_of_ble_eq_true rfl), (Nat.le_of_ble_eq_true rfl)⟩) ⟨p_RW_blind, va_recv hK hP (ci := 16) (q0 := 0) rfl rfl, (p_RW_at (tc := []) (wc := [(mo, .inr (16, [.int 0, .ref gl, .ref po, .ref pi, .ref bu, .ref pa, .int 0, .int 0, .int 40, .int 0, .null, .int 0, .int 0])), (pi, .inr (4, [.int 0, .ref G.1, .int 0]))]) hP hK hD hS hA hT hZ [0, 1] [] rfl rfl (by decide) rfl [.ref mo])⟩ rfl rfl hl.1 rfl (lv_room (Nat.le_of_ble_eq_true rfl)) dL_law_2930 ⟨(Nat.le_of_ble_eq_true rfl), (Nat.le_of_ble_eq_true rfl)⟩) hS (fun q _ h => hFc q h) hFc (fun r_1354 u t H locs ht hvm w_1355 hB hz1 hk1 hS => ?_)
    obtain ⟨hP, hD, hK⟩ := q_join (D := D) (wc := [(mo, .inr (16, [.int 0, .ref gl, .ref po, .ref pi, .ref bu, .ref pa, .int 0, .int 0, .int 40, .int 0, .null, .int 0, .int 0])), (pi, .inr (4, [.int 0, .ref G.1, .int 0]))]) (wr := []) (w1 := [(mo, .inr (16, [.int 1, .ref gl, .ref po, .ref pi, .ref bu, .ref pa, .int 0, .int 0, .int 40, .int 0, .null, .int 0, .int 0])), (pi, .inr (4, [.int 0, .ref G.1, .int 0]))]) (tyr := [(cD, .double)]) (ty1 := []) hP hD hK [0, 1] [] [0] rfl rfl (by decide) (by decide) rfl hFc hk1 ht hvm hB
    have hP : va_P D vwCl [(mo, .inr (16, [.int 1, .ref gl, .ref po, .ref pi, .ref bu, .ref pa, .int 0, .int 0, .int 40, .int 0, .null, .int 0, .int 0])), (pi, .inr (4, [.int 0, .ref G.1, .int 0]))] H := hP
    have hD : va_D A [(mo, .inr (16, [.int 1, .ref gl, .ref po, .ref pi, .ref bu, .ref pa, .int 0, .int 0, .int 40, .int 0, .null, .int 0, .int 0])), (pi, .inr (4, [.int 0, .ref G.1, .int 0]))] := hD
    have hK : va_K D vwCl [(cD, .double)] s := hK
    refine W.widen (k := 62) (n := 310) (Nat.le_of_ble_eq_true rfl) (Nat.le_of_ble_eq_true rfl) ?_
    obtain rfl := w_1355
    refine lv_dstore (lv' := [(7, .double FP.dconst0), (6, .int 1), (5, .int 0), (4, .ref od), (3, .ref ou), (2, .ref mo), (1, .ref xo), (0, .ref b)]) hx hb dL_law_2933 hl (by decide) rfl (fun ls hl => ?_)
    refine lv_aload_n hx hb dL_law_2935 rfl (lv_at hl 5 rfl) ?_
    refine vp_callSi (va_runV (As := []) (rest := []) ⟨hx, hb, hml, hown, hts⟩ (zc_X11_thrown l D G mo gl po pi bu pa 1 0 0 40) (cwV 0 hts gzL_law_X11_thrown_165 rfl rfl rfl (by decide +kernel) ⟨(Nat.le_of_ble_eq_true rfl), (Nat.le_of_ble_eq_true rfl)⟩) ⟨p_RO_blind, va_recv hK hP (ci := 16) (q0 := 0) rfl rfl, (p_RO_at (tc := []) (wc := [(mo, .inr (16, [.int 1, .ref gl, .ref po, .ref pi, .ref bu, .ref pa, .int 0, .int 0, .int 40, .int 0, .null, .int 0, .int 0]))]) hP hK hT [0] [] rfl rfl [.ref mo])⟩ rfl rfl hl.1 rfl (lv_room (Nat.le_of_ble_eq_true rfl)) dL_law_2936 ⟨(Nat.le_of_ble_eq_true rfl), (Nat.le_of_ble_eq_true rfl)⟩).run (fun r_1356 w_1357 => ?_)
    obtain rfl := w_1357
    refine lv_iload hx hb dL_law_2939 (lv_at hl 1 rfl) ?_
    refine lv_icmp_eq (tgt := 2946) hx hb dL_law_2941 (by decide) (fun _ => ?_) (fun cc => absurd (by decide) cc)
    refine lv_iload hx hb dL_law_2946 (lv_at hl 1 rfl) ?_
    refine lv_if_ne (tgt := 2983) hx hb dL_law_2948 (by decide) (fun _ => ?_) (fun cc => absurd cc (by decide))
    refine lv_goto (tgt := 2999) hx hb dL_law_2983 (by decide) ?_
    refine W.widen (k := 797152) (n := 6710780) (Nat.le_of_ble_eq_true rfl) (Nat.le_of_ble_eq_true rfl) ?_
    exact hE _ _ _ hS (lv_sub hl [7, 2] rfl)
theorem dL_law_2986 : decode cL_law 2986 = .ok (.aload_n 1, 1) := by decide +kernel
theorem dL_law_2987 : decode cL_law 2987 = .ok (.invokevirtual 318, 3) := by decide +kernel
theorem dL_law_2990 : decode cL_law 2990 = .ok (.aload_n 2, 1) := by decide +kernel
theorem dL_law_2991 : decode cL_law 2991 = .ok (.invokevirtual 322, 3) := by decide +kernel
theorem dL_law_2994 : decode cL_law 2994 = .ok (.if_icmp .eq 5, 3) := by decide +kernel
set_option maxHeartbeats 4000000 in
set_option maxRecDepth 100000 in
theorem zl_46 {p : Program} {e : Env} {s : State} {m : MethodId} {below : List Frame} {meth : Method} {c : Code} {Q : State → Prop} {args : Array Value} (l : Launch) (hnt : l.stackTraces = false) (D : va_G) (G : Nat × Nat × Nat) (xo : Nat) (xg : Nat) (xp : Nat) (xq : Nat) (r1 : Nat) (r2 : Nat) (r3 : Nat) (r4 : Nat) (se : Nat) (n1 : Nat) (n2 : Nat) (n3 : Nat) (mo : Nat) (gl : Nat) (po : Nat) (pi : Nat) (bu : Nat) (pa : Nat) (ou : Nat) (od : Nat) (cg : ClassId) (cp : ClassId) (cq : ClassId) (ci : ClassId) (cj : ClassId) (cJ : ClassId) (cD : ClassId) {b L : Nat} {xs : Nat → Int32} {A : Nat → Prop} {H : Heap} {locs : List Loc} {ls : Array Slot} (hx : p.tables.exec = Jvm.exec) (hb : c.code = code) (hml : c.maxLocals = 9) (hown : s.vm.findClass RL = some m.cls) (hts : ∀ w ∈ wzL_law, w.before args s = true) (hT : FT G s) (hA : ∀ q : Nat, s.heap.size ≤ q → A q) (hZ : FZ G A s s.heap) (hX : va_X b L xs s s.heap) (hbl : b < s.heap.size) (hbA : ¬ A b) (hL : L = 5) (hK : va_K D vwCl [(cg, .object "Gatherhouse$Glass"), (cp, .object "Gatherhouse$Pot"), (cq, .object "Gatherhouse$Piece"), (ci, .int), (cj, .int), (cJ, .long), (cD, .double)] s) (hP : va_P D vwCl [(xo, .inr (11, [.ref xg, .int 0, .ref xp, .int 0, .ref xq, .int 0, .ref r1, .ref r2, .ref r3, .ref r4, .ref se, .int 0, .int 0, .int 40, .int 0, .int 0])), (xg, .inl (cg, 6, .inr (.inr (.inr (.inr (fun _ => none)))))), (xp, .inl (cp, 4, .inr (.inr (.inr (.inr (fun _ => none)))))), (xq, .inl (cq, 16, .inr (.inr (.inr (.inr (fun _ => none)))))), (r1, .inr (9, [.int 0, .int 0])), (r2, .inr (9, [.int 0, .int 0])), (r3, .inr (9, [.int 0, .int 0])), (r4, .inr (9, [.int 0, .int 0])), (se, .inr (10, [.ref n1, .ref n2, .ref n3, .int 0, .int 0, .int 0, .int 0])), (mo, .inr (16, [.int 0, .ref gl, .ref po, .ref pi, .ref bu, .ref pa, .int 0, .int 0, .int 40, .int 0, .null, .int 0, .int 0])), (gl, .inr (4, [.int 0, .ref G.1, .int 0])), (po, .inr (4, [.int 0, .ref G.1, .int 0])), (pi, .inr (4, [.int 0, .ref G.1, .int 0])), (bu, .inl (ci, 4, .inl (fun _ => 0))), (pa, .inl (cj, 4, .inl (fun _ => 0))), (ou, .inl (cJ, 1, .inr (.inl (fun _ => 0)))), (od, .inl (cD, 1, .inr (.inr (.inr (.inl (fun _ => 0))))))] H) (hD : va_D A [(xo, .inr (11, [.ref xg, .int 0, .ref xp, .int 0, .ref xq, .int 0, .ref r1, .ref r2, .ref r3, .ref r4, .ref se, .int 0, .int 0, .int 40, .int 0, .int 0])), (xg, .inl (cg, 6, .inr (.inr (.inr (.inr (fun _ => none)))))), (xp, .inl (cp, 4, .inr (.inr (.inr (.inr (fun _ => none)))))), (xq, .inl (cq, 16, .inr (.inr (.inr (.inr (fun _ => none)))))), (r1, .inr (9, [.int 0, .int 0])), (r2, .inr (9, [.int 0, .int 0])), (r3, .inr (9, [.int 0, .int 0])), (r4, .inr (9, [.int 0, .int 0])), (se, .inr (10, [.ref n1, .ref n2, .ref n3, .int 0, .int 0, .int 0, .int 0])), (mo, .inr (16, [.int 0, .ref gl, .ref po, .ref pi, .ref bu, .ref pa, .int 0, .int 0, .int 40, .int 0, .null, .int 0, .int 0])), (gl, .inr (4, [.int 0, .ref G.1, .int 0])), (po, .inr (4, [.int 0, .ref G.1, .int 0])), (pi, .inr (4, [.int 0, .ref G.1, .int 0])), (bu, .inl (ci, 4, .inl (fun _ => 0))), (pa, .inl (cj, 4, .inl (fun _ => 0))), (ou, .inl (cJ, 1, .inr (.inl (fun _ => 0)))), (od, .inl (cD, 1, .inr (.inr (.inr (.inl (fun _ => 0))))))]) (hS : va_S A s.heap H locs) (hl : lv_has ls 9 [(5, .int 0), (4, .ref od), (3, .ref ou), (2, .ref mo), (1, .ref xo), (0, .ref b)]) (hE : ∀ (H : Heap) (locs : List Loc) (ls : Array Slot), va_S A s.heap H locs → lv_has ls 9 [(0, .ref b), (5, .int 0)] → W p l e room_1 s m args below meth c H locs 797152 6710780 Q (F0 m 2999 ls [])) : W p l e room_1 s m args below meth c H locs 60 300 Q (F0 m 2986 ls []) := by
  have hP := hP.sub (ws' := [(xo, .inr (11, [.ref xg, .int 0, .ref xp, .int 0, .ref xq, .int 0, .ref r1, .ref r2, .ref r3, .ref r4, .ref se, .int 0, .int 0, .int 40, .int 0, .int 0])), (xq, .inl (cq, 16, .inr (.inr (.inr (.inr (fun _ => none)))))), (mo, .inr (16, [.int 0, .ref gl, .ref po, .ref pi, .ref bu, .ref pa, .int 0, .int 0, .int 40, .int 0, .null, .int 0, .int 0]))]) [0, 3, 9] rfl
  have hD := hD.sub (ws' := [(xo, .inr (11, [.ref xg, .int 0, .ref xp, .int 0, .ref xq, .int 0, .ref r1, .ref r2, .ref r3, .ref r4, .ref se, .int 0, .int 0, .int 40, .int 0, .int 0])), (xq, .inl (cq, 16, .inr (.inr (.inr (.inr (fun _ => none)))))), (mo, .inr (16, [.int 0, .ref gl, .ref po, .ref pi, .ref bu, .ref pa, .int 0, .int 0, .int 40, .int 0, .null, .int 0, .int 0]))]) [0, 3, 9] (by decide) rfl
  have hK := hK.sub (tys' := [(cq, .object "Gatherhouse$Piece")]) [2] rfl
  refine lv_aload_n hx hb dL_law_2986 rfl (lv_at hl 4 rfl) ?_
  refine vp_callSi (va_runV (As := []) (rest := []) ⟨hx, hb, hml, hown, hts⟩ (zc_X6_isSound l D G xo xg xp xq r1 r2 r3 r4 se 0 0 cq) (cwV 0 hts gzL_law_X6_isSound_318 rfl rfl rfl (by decide +kernel) ⟨(Nat.le_of_ble_eq_true rfl), (Nat.le_of_ble_eq_true rfl)⟩) ⟨p_RO_blind, va_recv hK hP (ci := 11) (q0 := 0) rfl rfl, (p_RO_at (tc := [(cq, .object "Gatherhouse$Piece")]) (wc := [(xo, .inr (11, [.ref xg, .int 0, .ref xp, .int 0, .ref xq, .int 0, .ref r1, .ref r2, .ref r3, .ref r4, .ref se, .int 0, .int 0, .int 40, .int 0, .int 0])), (xq, .inl (cq, 16, .inr (.inr (.inr (.inr (fun _ => none))))))]) hP hK hT [0, 1] [0] rfl rfl [.ref xo])⟩ rfl rfl hl.1 rfl (lv_room (Nat.le_of_ble_eq_true rfl)) dL_law_2987 ⟨(Nat.le_of_ble_eq_true rfl), (Nat.le_of_ble_eq_true rfl)⟩).run (fun r_1358 w_1359 => ?_)
  obtain rfl := w_1359
  refine lv_aload_n hx hb dL_law_2990 rfl (lv_at hl 3 rfl) ?_
  have hFc := va_free (wc := [(mo, .inr (16, [.int 0, .ref gl, .ref po, .ref pi, .ref bu, .ref pa, .int 0, .int 0, .int 40, .int 0, .null, .int 0, .int 0]))]) hD hS hA [2] rfl
  refine va_calli (va_runV (As := []) (rest := [.int 1]) ⟨hx, hb, hml, hown, hts⟩ (zc_X11_isSound l D G mo gl po pi bu pa 0 0 0 H.size) (cwV 0 hts gzL_law_X11_isSound_322 rfl rfl rfl (by decide +kernel) ⟨(Nat.le_of_ble_eq_true rfl), (Nat.le_of_ble_eq_true rfl)⟩) ⟨p_RW_blind, va_recv hK hP (ci := 16) (q0 := 2) rfl rfl, (p_RW_at (tc := []) (wc := [(mo, .inr (16, [.int 0, .ref gl, .ref po, .ref pi, .ref bu, .ref pa, .int 0, .int 0, .int 40, .int 0, .null, .int 0, .int 0]))]) hP hK hD hS hA hT hZ [2] [] rfl rfl (by decide) rfl [.ref mo])⟩ rfl rfl hl.1 rfl (lv_room (Nat.le_of_ble_eq_true rfl)) dL_law_2991 ⟨(Nat.le_of_ble_eq_true rfl), (Nat.le_of_ble_eq_true rfl)⟩) hS (fun q _ h => hFc q h) hFc (fun r_1360 u t H locs ht hvm w_1361 hB hz1 hk1 hS => ?_)
  obtain ⟨hP, hD, hK⟩ := q_join (D := D) (wc := [(mo, .inr (16, [.int 0, .ref gl, .ref po, .ref pi, .ref bu, .ref pa, .int 0, .int 0, .int 40, .int 0, .null, .int 0, .int 0]))]) (wr := [(xo, .inr (11, [.ref xg, .int 0, .ref xp, .int 0, .ref xq, .int 0, .ref r1, .ref r2, .ref r3, .ref r4, .ref se, .int 0, .int 0, .int 40, .int 0, .int 0])), (xq, .inl (cq, 16, .inr (.inr (.inr (.inr (fun _ => none))))))]) (w1 := [(mo, .inr (16, [.int 0, .ref gl, .ref po, .ref pi, .ref bu, .ref pa, .int 0, .int 0, .int 40, .int 0, .null, .int 0, .int 0]))]) (tyr := [(cq, .object "Gatherhouse$Piece")]) (ty1 := []) hP hD hK [2] [0, 1] [0] rfl rfl (by decide) (by decide) rfl hFc hk1 ht hvm hB
  have hP : va_P D vwCl [(xo, .inr (11, [.ref xg, .int 0, .ref xp, .int 0, .ref xq, .int 0, .ref r1, .ref r2, .ref r3, .ref r4, .ref se, .int 0, .int 0, .int 40, .int 0, .int 0])), (xq, .inl (cq, 16, .inr (.inr (.inr (.inr (fun _ => none)))))), (mo, .inr (16, [.int 0, .ref gl, .ref po, .ref pi, .ref bu, .ref pa, .int 0, .int 0, .int 40, .int 0, .null, .int 0, .int 0]))] H := hP
  have hD : va_D A [(xo, .inr (11, [.ref xg, .int 0, .ref xp, .int 0, .ref xq, .int 0, .ref r1, .ref r2, .ref r3, .ref r4, .ref se, .int 0, .int 0, .int 40, .int 0, .int 0])), (xq, .inl (cq, 16, .inr (.inr (.inr (.inr (fun _ => none)))))), (mo, .inr (16, [.int 0, .ref gl, .ref po, .ref pi, .ref bu, .ref pa, .int 0, .int 0, .int 40, .int 0, .null, .int 0, .int 0]))] := hD
  have hK : va_K D vwCl [(cq, .object "Gatherhouse$Piece")] s := hK
  obtain rfl := w_1361
  refine lv_icmp_eq (tgt := 2999) hx hb dL_law_2994 (by decide) (fun _ => ?_) (fun cc => absurd (by decide) cc)
  refine W.widen (k := 797152) (n := 6710780) (Nat.le_of_ble_eq_true rfl) (Nat.le_of_ble_eq_true rfl) ?_
  exact hE _ _ _ hS (lv_sub hl [5, 0] rfl)
