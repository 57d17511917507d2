theorem zgU_X0 : (u_ws RX0 TX0 4).all goodWord = true := by decide +kernel
theorem dX6_glass_27 : decode cX6_glass 27 = .ok (.iload 4, 2) := by decide +kernel
theorem dX6_glass_29 : decode cX6_glass 29 = .ok (.iconst 0, 1) := by decide +kernel
theorem dX6_glass_30 : decode cX6_glass 30 = .ok (.bipush 9, 2) := by decide +kernel
theorem dX6_glass_32 : decode cX6_glass 32 = .ok (.invokestatic 75, 3) := by decide +kernel
theorem dX6_glass_35 : decode cX6_glass 35 = .ok (.aload_n 0, 1) := by decide +kernel
theorem dX6_glass_36 : decode cX6_glass 36 = .ok (.getfield 15, 3) := by decide +kernel
theorem dX6_glass_39 : decode cX6_glass 39 = .ok (.ifCond .lt 15, 3) := by decide +kernel
theorem dX6_glass_42 : decode cX6_glass 42 = .ok (.aload_n 0, 1) := by decide +kernel
theorem dX6_glass_43 : decode cX6_glass 43 = .ok (.getfield 15, 3) := by decide +kernel
theorem dX6_glass_46 : decode cX6_glass 46 = .ok (.aload_n 0, 1) := by decide +kernel
theorem dX6_glass_47 : decode cX6_glass 47 = .ok (.getfield 11, 3) := by decide +kernel
theorem dX6_glass_50 : decode cX6_glass 50 = .ok (.arraylength, 1) := by decide +kernel
theorem dX6_glass_51 : decode cX6_glass 51 = .ok (.if_icmp .lt 13, 3) := by decide +kernel
theorem dX6_glass_64 : decode cX6_glass 64 = .ok (.aload_n 0, 1) := by decide +kernel
theorem dX6_glass_65 : decode cX6_glass 65 = .ok (.getfield 11, 3) := by decide +kernel
theorem dX6_glass_68 : decode cX6_glass 68 = .ok (.aload_n 0, 1) := by decide +kernel
theorem dX6_glass_69 : decode cX6_glass 69 = .ok (.getfield 15, 3) := by decide +kernel
theorem dX6_glass_72 : decode cX6_glass 72 = .ok (.new 9, 3) := by decide +kernel
theorem dX6_glass_75 : decode cX6_glass 75 = .ok (.dup, 1) := by decide +kernel
theorem dX6_glass_76 : decode cX6_glass 76 = .ok (.iload_n 1, 1) := by decide +kernel
theorem dX6_glass_77 : decode cX6_glass 77 = .ok (.iload_n 2, 1) := by decide +kernel
theorem dX6_glass_78 : decode cX6_glass 78 = .ok (.iload_n 3, 1) := by decide +kernel
theorem dX6_glass_79 : decode cX6_glass 79 = .ok (.iload 4, 2) := by decide +kernel
theorem dX6_glass_81 : decode cX6_glass 81 = .ok (.invokespecial 86, 3) := by decide +kernel
theorem dX6_glass_84 : decode cX6_glass 84 = .ok (.aastore, 1) := by decide +kernel
theorem dX6_glass_85 : decode cX6_glass 85 = .ok (.aload_n 0, 1) := by decide +kernel
theorem dX6_glass_86 : decode cX6_glass 86 = .ok (.dup, 1) := by decide +kernel
theorem dX6_glass_87 : decode cX6_glass 87 = .ok (.getfield 15, 3) := by decide +kernel
theorem dX6_glass_90 : decode cX6_glass 90 = .ok (.iconst 1, 1) := by decide +kernel
theorem dX6_glass_91 : decode cX6_glass 91 = .ok (.iadd, 1) := by decide +kernel
theorem dX6_glass_92 : decode cX6_glass 92 = .ok (.putfield 15, 3) := by decide +kernel
theorem dX6_glass_95 : decode cX6_glass 95 = .ok (.aload_n 0, 1) := by decide +kernel
theorem dX6_glass_96 : decode cX6_glass 96 = .ok (.getfield 15, 3) := by decide +kernel
theorem dX6_glass_99 : decode cX6_glass 99 = .ok (.iconst 1, 1) := by decide +kernel
theorem dX6_glass_100 : decode cX6_glass 100 = .ok (.isub, 1) := by decide +kernel
theorem dX6_glass_101 : decode cX6_glass 101 = .ok (.ireturn, 1) := by decide +kernel
def wzEX6_glass_0 : List Cond := [.code yX6_glass cX6_glass 5 (some .int), .methodLink RX6 75 yX6_checkRange, .static yX6_checkRange, .initialized RX6, .code yX6_checkRange cX6_checkRange 3 none, .fieldLink RX6 15 "Gatherhouse" "glassCount" "I", .fieldLink RX6 11 "Gatherhouse" "glasses" "[LGatherhouse$Glass;", .classLink RX6 9 RX0, .instantiable RX0 4, .initialized RX0, .code yX0_init cX0_init 5 none, .methodLink RX0 3 objectInit, .instanceMethod objectInit, .code objectInit ⟨#[0xb1]⟩ 1 none, .fieldLink RX0 9 "Gatherhouse$Glass" "low" "I", .fieldLink RX0 15 "Gatherhouse$Glass" "high" "I", .fieldLink RX0 18 "Gatherhouse$Glass" "expansion" "I", .fieldLink RX0 21 "Gatherhouse$Glass" "colour" "I", .instanceMethod yX0_init]
def wzX6_glass_0 : List Cond := wzEX6_glass_0 ++ (u_ws RX6 TX6 16 ++ (u_ws RX0 TX0 4))
theorem zgEX6_glass_0 : wzEX6_glass_0.all goodWord = true := by decide +kernel
theorem zuX6_glass_0_X6 : ∀ w ∈ u_ws RX6 TX6 16, w ∈ wzX6_glass_0 := (fun _ h => (List.mem_append_right _ (List.mem_append_left _ h)))
theorem zuX6_glass_0_X0 : ∀ w ∈ u_ws RX0 TX0 4, w ∈ wzX6_glass_0 := (fun _ h => (List.mem_append_right _ (List.mem_append_right _ h)))
theorem gzX6_glass_0_X6_checkRange_ok_75 : GoodIn wzX6_glass_0 (va_wsS RX6 75 yX6_checkRange wzX6_checkRange_ok) := (goodIn_app (z_lift (goodIn_r _ [1, 2, 3] rfl (by decide +kernel))) (goodIn_app (z_lift (goodIn_r wzEX6_checkRange_ok [4] rfl zgEX6_checkRange_ok)) z_gnil))
theorem gzX6_glass_0_X0_init_86 : GoodIn wzX6_glass_0 (wzX0_init) := (goodIn_app (z_lift (goodIn_r wzEX0_init [10, 11, 12, 13, 14, 15, 16, 17] rfl zgEX0_init)) (goodIn_sub (fun _ h => (List.mem_append_right _ (List.mem_append_right _ h))) zgU_X0))
set_option maxHeartbeats 4000000 in
set_option maxRecDepth 100000 in
theorem zc_X6_glass_0 (l : Launch) (hnt : l.stackTraces = false) (D : va_G) (G : Nat × Nat × (Nat → Int32)) (xo : Nat) (lo : Nat) (hi : Nat) (xe : Nat) (co : Nat) (xg : Nat) (xp : Nat) (pc : Int32) (xq : Nat) (qc : Int32) (r1 : Nat) (r2 : Nat) (r3 : Nat) (r4 : Nat) (se : Nat) (ts : Int32) (hou : Int32) (dr : Int32) (su : Int32) (br : Int32) (cg : ClassId) (sz : Nat) (g1 : lo ≤ hi) (hl_lo : 600 ≤ lo) (hh_lo : lo ≤ 1100) (hl_hi : 600 ≤ hi) (hh_hi : hi ≤ 1100) (hl_xe : 50 ≤ xe) (hh_xe : xe ≤ 150) (hh_co : co ≤ 9) : vx_Met l yX6_glass wzX6_glass_0 ({ frames := 2, cells := 1, slots := 4, locals := 36 }) (va_Pc [.ref xo, .int (nI lo), .int (nI hi), .int (nI xe), .int (nI co)] (p_RW D G [(cg, .object "Gatherhouse$Glass")] [(xo, .inr (6, [.ref xg, .int 0, .ref xp, .int pc, .ref xq, .int qc, .ref r1, .ref r2, .ref r3, .ref r4, .ref se, .int ts, .int hou, .int dr, .int su, .int br])), (xg, .inl (cg, 6, .inr (.inr (.inr (.inr (zq [none, none, none, none, none, none]))))))] sz)) (va_Qi (fun (r : Int32) (u : Unit) => r = 0) (fun (u : Unit) (t : State) => ∃ (gn : Nat), q_RW D [(cg, .object "Gatherhouse$Glass")] [(xo, .inr (6, [.ref xg, .int 1, .ref xp, .int pc, .ref xq, .int qc, .ref r1, .ref r2, .ref r3, .ref r4, .ref se, .int ts, .int hou, .int dr, .int su, .int br])), (xg, .inl (cg, 6, .inr (.inr (.inr (.inr (zq [some gn, none, none, none, none, none])))))), (gn, .inr (0, [.int (nI lo), .int (nI hi), .int (nI xe), .int (nI co)]))] (va_A [(xo, .inr (6, [.ref xg, .int 0, .ref xp, .int pc, .ref xq, .int qc, .ref r1, .ref r2, .ref r3, .ref r4, .ref se, .int ts, .int hou, .int dr, .int su, .int br])), (xg, .inl (cg, 6, .inr (.inr (.inr (.inr (zq [none, none, none, none, none, none]))))))] sz) t) (va_A [(xo, .inr (6, [.ref xg, .int 0, .ref xp, .int pc, .ref xq, .int qc, .ref r1, .ref r2, .ref r3, .ref r4, .ref se, .int ts, .int hou, .int dr, .int su, .int br])), (xg, .inl (cg, 6, .inr (.inr (.inr (.inr (zq [none, none, none, none, none, none]))))))] sz)) (vx_X (fun (_ : Unit) => True) (fun E (_ : Unit) (_ : State) => False) (va_A [(xo, .inr (6, [.ref xg, .int 0, .ref xp, .int pc, .ref xq, .int qc, .ref r1, .ref r2, .ref r3, .ref r4, .ref se, .int ts, .int hou, .int dr, .int su, .int br])), (xg, .inl (cg, 6, .inr (.inr (.inr (.inr (zq [none, none, none, none, none, none]))))))] sz)) 1 4 (va_A [(xo, .inr (6, [.ref xg, .int 0, .ref xp, .int pc, .ref xq, .int qc, .ref r1, .ref r2, .ref r3, .ref r4, .ref se, .int ts, .int hou, .int dr, .int su, .int br])), (xg, .inl (cg, 6, .inr (.inr (.inr (.inr (zq [none, none, none, none, none, none]))))))] sz) := by
  refine vx_ofW (cc := cX6_glass) (maxL := 5) (ret := (some .int)) (by decide) rfl ?_
  intro p e s m args below meth c s₁ B hml hxt hv
  obtain ⟨rfl, hsz, hP, hK, hD0, hT, hZ⟩ := hv
  have hx := B.exec
  have hb := B.bytes
  have hr := B.returns
  have hts := atoms_spec (ws := wzX6_glass_0) B.pre
  have hown : s.vm.findClass RX6 = some m.cls := findClass_of_methodNamed B.named
  have hlocks := B.notSynchronized
  subst hsz
  have hD := hD0.self (sz := s.heap.size)
  generalize hAe : va_A [(xo, .inr (6, [.ref xg, .int 0, .ref xp, .int pc, .ref xq, .int qc, .ref r1, .ref r2, .ref r3, .ref r4, .ref se, .int ts, .int hou, .int dr, .int su, .int br])), (xg, .inl (cg, 6, .inr (.inr (.inr (.inr (zq [none, none, none, none, none, none]))))))] s.heap.size = A at hD hZ ⊢
  have hA : ∀ q : Nat, s.heap.size ≤ q → A q := fun q h => by rw [← hAe]; exact Or.inr h
  have hS : va_S A s.heap s.heap [] := va_S.rf
  have hl := lv_entry ([.ref xo, .int (nI lo), .int (nI hi), .int (nI xe), .int (nI co)]) (n := 5) (Nat.le_of_ble_eq_true rfl)
  rw [lg_entry_eq]
  generalize (lg_sl ([.ref xo, .int (nI lo), .int (nI hi), .int (nI xe), .int (nI co)]) ++ List.replicate (5 - (lg_sl ([.ref xo, .int (nI lo), .int (nI hi), .int (nI xe), .int (nI co)])).length) Slot.unset).toArray = ls at hl ⊢
  have hl : lv_has ls 5 [(0, .ref xo), (1, .int (nI lo)), (2, .int (nI hi)), (3, .int (nI xe)), (4, .int (nI co))] := hl
  refine lv_iload_n hx hb dX6_glass_0 rfl (lv_at hl 1 rfl) ?_
  refine lv_sipush (v := 600) hx hb dX6_glass_1 (by decide) ?_
  refine lv_sipush (v := 1100) hx hb dX6_glass_4 (by decide) ?_
  have hFc := va_free (wc := []) hD hS hA [] rfl
  refine vx_callv (vx_runS (As := [.int (nI lo), .int 600, .int 1100]) (rest := []) ⟨hx, hb, hml, hown, hts⟩ (zc_X6_checkRange_ok l hnt D G lo 600 1100 s.heap.size (by first | assumption | rfl | omega | exact Nat.le_trans (zS_le _ _ _) (by omega) | decide) (by first | assumption | rfl | omega | exact Nat.le_trans (zS_le _ _ _) (by omega) | decide) (by first | assumption | rfl | omega | exact Nat.le_trans (zS_le _ _ _) (by omega) | decide) (by first | assumption | rfl | omega | exact Nat.le_trans (zS_le _ _ _) (by omega) | decide) (by first | assumption | rfl | omega | exact Nat.le_trans (zS_le _ _ _) (by omega) | decide)) (cwS 3 hts gzX6_glass_0_X6_checkRange_ok_75 rfl rfl rfl (by decide +kernel) ⟨(Nat.le_of_ble_eq_true rfl), (Nat.le_of_ble_eq_true rfl)⟩) ⟨p_RW_blind, (p_RW_at (tc := []) (wc := []) hP hK hD hS hA hT hZ [] [] rfl rfl (by decide) rfl [.int (nI lo), .int 600, .int 1100])⟩ rfl rfl hl.1 rfl (lv_room (Nat.le_of_ble_eq_true rfl)) dX6_glass_7 ⟨(Nat.le_of_ble_eq_true rfl), (Nat.le_of_ble_eq_true rfl)⟩) hS (fun q _ h => hFc q h) hFc (fun q _ h => hFc q h) (fun E ce q9 u t H locs ht hvm hpx hBX hz1 hk1 hS hce hcv hcl => ?_) (fun u t H locs ht hvm w_234 hB hz1 hk1 hS => ?_)
  · exact (show False from hBX).elim
  · obtain ⟨hP, hD, hK⟩ := q_join (D := D) (wc := []) (wr := [(xo, .inr (6, [.ref xg, .int 0, .ref xp, .int pc, .ref xq, .int qc, .ref r1, .ref r2, .ref r3, .ref r4, .ref se, .int ts, .int hou, .int dr, .int su, .int br])), (xg, .inl (cg, 6, .inr (.inr (.inr (.inr (zq [none, none, none, none, none, none]))))))]) (w1 := []) (tyr := [(cg, .object "Gatherhouse$Glass")]) (ty1 := []) hP hD hK [] [0, 1] [0] rfl rfl (by decide) (by decide) rfl hFc hk1 ht hvm hB
    have hP : va_P D vwCl [(xo, .inr (6, [.ref xg, .int 0, .ref xp, .int pc, .ref xq, .int qc, .ref r1, .ref r2, .ref r3, .ref r4, .ref se, .int ts, .int hou, .int dr, .int su, .int br])), (xg, .inl (cg, 6, .inr (.inr (.inr (.inr (zq [none, none, none, none, none, none]))))))] H := hP
    have hD : va_D A [(xo, .inr (6, [.ref xg, .int 0, .ref xp, .int pc, .ref xq, .int qc, .ref r1, .ref r2, .ref r3, .ref r4, .ref se, .int ts, .int hou, .int dr, .int su, .int br])), (xg, .inl (cg, 6, .inr (.inr (.inr (.inr (zq [none, none, none, none, none, none]))))))] := hD
    have hK : va_K D vwCl [(cg, .object "Gatherhouse$Glass")] s := hK
    refine lv_iload_n hx hb dX6_glass_10 rfl (lv_at hl 2 rfl) ?_
    refine lv_iload_n hx hb dX6_glass_11 rfl (lv_at hl 1 rfl) ?_
    refine lv_sipush (v := 1100) hx hb dX6_glass_12 (by decide) ?_
    have hFc := va_free (wc := []) hD hS hA [] rfl
    refine vx_callv (vx_runS (As := [.int (nI hi), .int (nI lo), .int 1100]) (rest := []) ⟨hx, hb, hml, hown, hts⟩ (zc_X6_checkRange_ok l hnt D G hi lo 1100 H.size (by first | assumption | rfl | omega | exact Nat.le_trans (zS_le _ _ _) (by omega) | decide) (by first | assumption | rfl | omega | exact Nat.le_trans (zS_le _ _ _) (by omega) | decide) (by first | assumption | rfl | omega | exact Nat.le_trans (zS_le _ _ _) (by omega) | decide) (by first | assumption | rfl | omega | exact Nat.le_trans (zS_le _ _ _) (by omega) | decide) (by first | assumption | rfl | omega | exact Nat.le_trans (zS_le _ _ _) (by omega) | decide)) (cwS 3 hts gzX6_glass_0_X6_checkRange_ok_75 rfl rfl rfl (by decide +kernel) ⟨(Nat.le_of_ble_eq_true rfl), (Nat.le_of_ble_eq_true rfl)⟩) ⟨p_RW_blind, (p_RW_at (tc := []) (wc := []) hP hK hD hS hA hT hZ [] [] rfl rfl (by decide) rfl [.int (nI hi), .int (nI lo), .int 1100])⟩ rfl rfl hl.1 rfl (lv_room (Nat.le_of_ble_eq_true rfl)) dX6_glass_15 ⟨(Nat.le_of_ble_eq_true rfl), (Nat.le_of_ble_eq_true rfl)⟩) hS (fun q _ h => hFc q h) hFc (fun q _ h => hFc q h) (fun E ce q9 u t H locs ht hvm hpx hBX hz1 hk1 hS hce hcv hcl => ?_) (fun u t H locs ht hvm w_236 hB hz1 hk1 hS => ?_)
    · exact (show False from hBX).elim
    · obtain ⟨hP, hD, hK⟩ := q_join (D := D) (wc := []) (wr := [(xo, .inr (6, [.ref xg, .int 0, .ref xp, .int pc, .ref xq, .int qc, .ref r1, .ref r2, .ref r3, .ref r4, .ref se, .int ts, .int hou, .int dr, .int su, .int br])), (xg, .inl (cg, 6, .inr (.inr (.inr (.inr (zq [none, none, none, none, none, none]))))))]) (w1 := []) (tyr := [(cg, .object "Gatherhouse$Glass")]) (ty1 := []) hP hD hK [] [0, 1] [0] rfl rfl (by decide) (by decide) rfl hFc hk1 ht hvm hB
      have hP : va_P D vwCl [(xo, .inr (6, [.ref xg, .int 0, .ref xp, .int pc, .ref xq, .int qc, .ref r1, .ref r2, .ref r3, .ref r4, .ref se, .int ts, .int hou, .int dr, .int su, .int br])), (xg, .inl (cg, 6, .inr (.inr (.inr (.inr (zq [none, none, none, none, none, none]))))))] H := hP
      have hD : va_D A [(xo, .inr (6, [.ref xg, .int 0, .ref xp, .int pc, .ref xq, .int qc, .ref r1, .ref r2, .ref r3, .ref r4, .ref se, .int ts, .int hou, .int dr, .int su, .int br])), (xg, .inl (cg, 6, .inr (.inr (.inr (.inr (zq [none, none, none, none, none, none]))))))] := hD
      have hK : va_K D vwCl [(cg, .object "Gatherhouse$Glass")] s := hK
      refine lv_iload_n hx hb dX6_glass_18 rfl (lv_at hl 3 rfl) ?_
      refine lv_bipush (v := 50) hx hb dX6_glass_19 (by decide) ?_
      refine lv_sipush (v := 150) hx hb dX6_glass_21 (by decide) ?_
      have hFc := va_free (wc := []) hD hS hA [] rfl
      refine vx_callv (vx_runS (As := [.int (nI xe), .int 50, .int 150]) (rest := []) ⟨hx, hb, hml, hown, hts⟩ (zc_X6_checkRange_ok l hnt D G xe 50 150 H.size (by first | assumption | rfl | omega | exact Nat.le_trans (zS_le _ _ _) (by omega) | decide) (by first | assumption | rfl | omega | exact Nat.le_trans (zS_le _ _ _) (by omega) | decide) (by first | assumption | rfl | omega | exact Nat.le_trans (zS_le _ _ _) (by omega) | decide) (by first | assumption | rfl | omega | exact Nat.le_trans (zS_le _ _ _) (by omega) | decide) (by first | assumption | rfl | omega | exact Nat.le_trans (zS_le _ _ _) (by omega) | decide)) (cwS 3 hts gzX6_glass_0_X6_checkRange_ok_75 rfl rfl rfl (by decide +kernel) ⟨(Nat.le_of_ble_eq_true rfl), (Nat.le_of_ble_eq_true rfl)⟩) ⟨p_RW_blind, (p_RW_at (tc := []) (wc := []) hP hK hD hS hA hT hZ [] [] rfl rfl (by decide) rfl [.int (nI xe), .int 50, .int 150])⟩ rfl rfl hl.1 rfl (lv_room (Nat.le_of_ble_eq_true rfl)) dX6_glass_24 ⟨(Nat.le_of_ble_eq_true rfl), (Nat.le_of_ble_eq_true rfl)⟩) hS (fun q _ h => hFc q h) hFc (fun q _ h => hFc q h) (fun E ce q9 u t H locs ht hvm hpx hBX hz1 hk1 hS hce hcv hcl => ?_) (fun u t H locs ht hvm w_238 hB hz1 hk1 hS => ?_)
      · exact (show False from hBX).elim
      · obtain ⟨hP, hD, hK⟩ := q_join (D := D) (wc := []) (wr := [(xo, .inr (6, [.ref xg, .int 0, .ref xp, .int pc, .ref xq, .int qc, .ref r1, .ref r2, .ref r3, .ref r4, .ref se, .int ts, .int hou, .int dr, .int su, .int br])), (xg, .inl (cg, 6, .inr (.inr (.inr (.inr (zq [none, none, none, none, none, none]))))))]) (w1 := []) (tyr := [(cg, .object "Gatherhouse$Glass")]) (ty1 := []) hP hD hK [] [0, 1] [0] rfl rfl (by decide) (by decide) rfl hFc hk1 ht hvm hB
        have hP : va_P D vwCl [(xo, .inr (6, [.ref xg, .int 0, .ref xp, .int pc, .ref xq, .int qc, .ref r1, .ref r2, .ref r3, .ref r4, .ref se, .int ts, .int hou, .int dr, .int su, .int br])), (xg, .inl (cg, 6, .inr (.inr (.inr (.inr (zq [none, none, none, none, none, none]))))))] H := hP
        have hD : va_D A [(xo, .inr (6, [.ref xg, .int 0, .ref xp, .int pc, .ref xq, .int qc, .ref r1, .ref r2, .ref r3, .ref r4, .ref se, .int ts, .int hou, .int dr, .int su, .int br])), (xg, .inl (cg, 6, .inr (.inr (.inr (.inr (zq [none, none, none, none, none, none]))))))] := hD
        have hK : va_K D vwCl [(cg, .object "Gatherhouse$Glass")] s := hK
        refine lv_iload hx hb dX6_glass_27 (lv_at hl 4 rfl) ?_
        refine lv_iconst (v := 0) hx hb dX6_glass_29 (by decide) ?_
        refine lv_bipush (v := 9) hx hb dX6_glass_30 (by decide) ?_
        have hFc := va_free (wc := []) hD hS hA [] rfl
        refine vx_callv (vx_runS (As := [.int (nI co), .int 0, .int 9]) (rest := []) ⟨hx, hb, hml, hown, hts⟩ (zc_X6_checkRange_ok l hnt D G co 0 9 H.size (by first | assumption | rfl | omega | exact Nat.le_trans (zS_le _ _ _) (by omega) | decide) (by first | assumption | rfl | omega | exact Nat.le_trans (zS_le _ _ _) (by omega) | decide) (by first | assumption | rfl | omega | exact Nat.le_trans (zS_le _ _ _) (by omega) | decide) (by first | assumption | rfl | omega | exact Nat.le_trans (zS_le _ _ _) (by omega) | decide) (by first | assumption | rfl | omega | exact Nat.le_trans (zS_le _ _ _) (by omega) | decide)) (cwS 3 hts gzX6_glass_0_X6_checkRange_ok_75 rfl rfl rfl (by decide +kernel) ⟨(Nat.le_of_ble_eq_true rfl), (Nat.le_of_ble_eq_true rfl)⟩) ⟨p_RW_blind, (p_RW_at (tc := []) (wc := []) hP hK hD hS hA hT hZ [] [] rfl rfl (by decide) rfl [.int (nI co), .int 0, .int 9])⟩ rfl rfl hl.1 rfl (lv_room (Nat.le_of_ble_eq_true rfl)) dX6_glass_32 ⟨(Nat.le_of_ble_eq_true rfl), (Nat.le_of_ble_eq_true rfl)⟩) hS (fun q _ h => hFc q h) hFc (fun q _ h => hFc q h) (fun E ce q9 u t H locs ht hvm hpx hBX hz1 hk1 hS hce hcv hcl => ?_) (fun u t H locs ht hvm w_240 hB hz1 hk1 hS => ?_)
        · exact (show False from hBX).elim
        · obtain ⟨hP, hD, hK⟩ := q_join (D := D) (wc := []) (wr := [(xo, .inr (6, [.ref xg, .int 0, .ref xp, .int pc, .ref xq, .int qc, .ref r1, .ref r2, .ref r3, .ref r4, .ref se, .int ts, .int hou, .int dr, .int su, .int br])), (xg, .inl (cg, 6, .inr (.inr (.inr (.inr (zq [none, none, none, none, none, none]))))))]) (w1 := []) (tyr := [(cg, .object "Gatherhouse$Glass")]) (ty1 := []) hP hD hK [] [0, 1] [0] rfl rfl (by decide) (by decide) rfl hFc hk1 ht hvm hB
          have hP : va_P D vwCl [(xo, .inr (6, [.ref xg, .int 0, .ref xp, .int pc, .ref xq, .int qc, .ref r1, .ref r2, .ref r3, .ref r4, .ref se, .int ts, .int hou, .int dr, .int su, .int br])), (xg, .inl (cg, 6, .inr (.inr (.inr (.inr (zq [none, none, none, none, none, none]))))))] H := hP
          have hD : va_D A [(xo, .inr (6, [.ref xg, .int 0, .ref xp, .int pc, .ref xq, .int qc, .ref r1, .ref r2, .ref r3, .ref r4, .ref se, .int ts, .int hou, .int dr, .int su, .int br])), (xg, .inl (cg, 6, .inr (.inr (.inr (.inr (zq [none, none, none, none, none, none]))))))] := hD
          have hK : va_K D vwCl [(cg, .object "Gatherhouse$Glass")] s := hK
          refine lv_aload_n hx hb dX6_glass_35 rfl (lv_at hl 0 rfl) ?_
          refine va_get (D := D) (cl := vwCl) (ci := 6) (v := .int 0) (C := RX6) (T := TX6) (N := 16) hx hb hts zuX6_glass_0_X6 hown hK hP 0 rfl rfl 1 (by decide) (hts (.fieldLink RX6 15 "Gatherhouse" "glassCount" "I") (by decide +kernel)) (fun _ h9 => h9) rfl dX6_glass_36 ?_
          refine lv_if_lt (tgt := 54) hx hb dX6_glass_39 (by decide) (fun cc => absurd cc (by decide)) (fun _ => ?_)
          refine lv_aload_n hx hb dX6_glass_42 rfl (lv_at hl 0 rfl) ?_
          refine va_get (D := D) (cl := vwCl) (ci := 6) (v := .int 0) (C := RX6) (T := TX6) (N := 16) hx hb hts zuX6_glass_0_X6 hown hK hP 0 rfl rfl 1 (by decide) (hts (.fieldLink RX6 15 "Gatherhouse" "glassCount" "I") (by decide +kernel)) (fun _ h9 => h9) rfl dX6_glass_43 ?_
          refine lv_aload_n hx hb dX6_glass_46 rfl (lv_at hl 0 rfl) ?_
          refine va_get (D := D) (cl := vwCl) (ci := 6) (v := .ref xg) (C := RX6) (T := TX6) (N := 16) hx hb hts zuX6_glass_0_X6 hown hK hP 0 rfl rfl 0 (by decide) (hts (.fieldLink RX6 11 "Gatherhouse" "glasses" "[LGatherhouse$Glass;") (by decide +kernel)) (fun _ h9 => h9) rfl dX6_glass_47 ?_
          refine va_alen (D := D) (cl := vwCl) (v := 6) hx hb hK hP 1 0 rfl rfl rfl dX6_glass_50 ?_
          refine lv_icmp_lt (tgt := 64) hx hb dX6_glass_51 (by decide) (fun _ => ?_) (fun cc => absurd (by decide) cc)
          refine lv_aload_n hx hb dX6_glass_64 rfl (lv_at hl 0 rfl) ?_
          refine va_get (D := D) (cl := vwCl) (ci := 6) (v := .ref xg) (C := RX6) (T := TX6) (N := 16) hx hb hts zuX6_glass_0_X6 hown hK hP 0 rfl rfl 0 (by decide) (hts (.fieldLink RX6 11 "Gatherhouse" "glasses" "[LGatherhouse$Glass;") (by decide +kernel)) (fun _ h9 => h9) rfl dX6_glass_65 ?_
          refine lv_aload_n hx hb dX6_glass_68 rfl (lv_at hl 0 rfl) ?_
          refine va_get (D := D) (cl := vwCl) (ci := 6) (v := .int 0) (C := RX6) (T := TX6) (N := 16) hx hb hts zuX6_glass_0_X6 hown hK hP 0 rfl rfl 1 (by decide) (hts (.fieldLink RX6 15 "Gatherhouse" "glassCount" "I") (by decide +kernel)) (fun _ h9 => h9) rfl dX6_glass_69 ?_
          refine va_new (D := D) (cl := vwCl) (ci := 0) (fs := [.int 0, .int 0, .int 0, .int 0]) (C := RX0) (T := TX0) (N := 4) hx hb hts zuX6_glass_0_X0 tyX0 tyX0_ok hown (hts (.classLink RX6 9 RX0) (by decide +kernel)) (hts (.instantiable RX0 4) (by decide +kernel)) (hts (.initialized RX0) (by decide +kernel)) hK hP hD hS hA rfl (fun j hj => by rcases (show j = 0 ∨ j = 1 ∨ j = 2 ∨ j = 3 by omega) with rfl | rfl | rfl | rfl <;> rfl) (Nat.le_of_ble_eq_true rfl) (Nat.le_of_ble_eq_true rfl) dX6_glass_72 (fun o_241 H hP hD hS => ?_)
          have hP : va_P D vwCl [(xo, .inr (6, [.ref xg, .int 0, .ref xp, .int pc, .ref xq, .int qc, .ref r1, .ref r2, .ref r3, .ref r4, .ref se, .int ts, .int hou, .int dr, .int su, .int br])), (xg, .inl (cg, 6, .inr (.inr (.inr (.inr (zq [none, none, none, none, none, none])))))), (o_241, .inr (0, [.int 0, .int 0, .int 0, .int 0]))] H := hP
          have hD : va_D A [(xo, .inr (6, [.ref xg, .int 0, .ref xp, .int pc, .ref xq, .int qc, .ref r1, .ref r2, .ref r3, .ref r4, .ref se, .int ts, .int hou, .int dr, .int su, .int br])), (xg, .inl (cg, 6, .inr (.inr (.inr (.inr (zq [none, none, none, none, none, none])))))), (o_241, .inr (0, [.int 0, .int 0, .int 0, .int 0]))] := hD
          refine W.widen (k := 1) (n := 4) (Nat.le_of_ble_eq_true rfl) (Nat.le_of_ble_eq_true rfl) ?_
          refine lv_dup hx hb dX6_glass_75 rfl ?_
          refine lv_iload_n hx hb dX6_glass_76 rfl (lv_at hl 1 rfl) ?_
          refine lv_iload_n hx hb dX6_glass_77 rfl (lv_at hl 2 rfl) ?_
          refine lv_iload_n hx hb dX6_glass_78 rfl (lv_at hl 3 rfl) ?_
          refine lv_iload hx hb dX6_glass_79 (lv_at hl 4 rfl) ?_
          have hFc := va_free (wc := [(o_241, .inr (0, [.int 0, .int 0, .int 0, .int 0]))]) hD hS hA [2] rfl
          refine va_callv (va_runIN (As := [.int (nI lo), .int (nI hi), .int (nI xe), .int (nI co)]) (rest := [.ref o_241, .int 0, .ref xg]) ⟨hx, hb, hml, hown, hts⟩ (zc_X0_init l D G o_241 (nI lo) (nI hi) (nI xe) (nI co) H.size) ⟨va_cnB 4 hts gzX6_glass_0_X0_init_86 rfl rfl rfl (hT.1 ("Gatherhouse", 86, ⟨"Gatherhouse$Glass", "<init>", "(IIII)V"⟩, "Gatherhouse") (by decide +kernel)) (hts (.initialized RX0) (by decide +kernel)) (by decide +kernel) ⟨(Nat.le_of_ble_eq_true rfl), (Nat.le_of_ble_eq_true rfl)⟩, rfl, (hts (.instanceMethod yX0_init) (by decide +kernel))⟩ ⟨p_RW_blind, (p_RW_at (tc := []) (wc := [(o_241, .inr (0, [.int 0, .int 0, .int 0, .int 0]))]) hP hK hD hS hA hT hZ [2] [] rfl rfl (by decide) rfl [.ref o_241, .int (nI lo), .int (nI hi), .int (nI xe), .int (nI co)])⟩ rfl rfl hl.1 rfl (lv_room (Nat.le_of_ble_eq_true rfl)) dX6_glass_81 ⟨(Nat.le_of_ble_eq_true rfl), (Nat.le_of_ble_eq_true rfl)⟩) hS (fun q _ h => hFc q h) hFc (fun u t H locs ht hvm w_243 hB hz1 hk1 hS => ?_)
          obtain ⟨hP, hD, hK⟩ := q_join (D := D) (wc := [(o_241, .inr (0, [.int 0, .int 0, .int 0, .int 0]))]) (wr := [(xo, .inr (6, [.ref xg, .int 0, .ref xp, .int pc, .ref xq, .int qc, .ref r1, .ref r2, .ref r3, .ref r4, .ref se, .int ts, .int hou, .int dr, .int su, .int br])), (xg, .inl (cg, 6, .inr (.inr (.inr (.inr (zq [none, none, none, none, none, none]))))))]) (w1 := [(o_241, .inr (0, [.int (nI lo), .int (nI hi), .int (nI xe), .int (nI co)]))]) (tyr := [(cg, .object "Gatherhouse$Glass")]) (ty1 := []) hP hD hK [2] [0, 1] [0] rfl rfl (by decide) (by decide) rfl hFc hk1 ht hvm hB
          have hP : va_P D vwCl [(xo, .inr (6, [.ref xg, .int 0, .ref xp, .int pc, .ref xq, .int qc, .ref r1, .ref r2, .ref r3, .ref r4, .ref se, .int ts, .int hou, .int dr, .int su, .int br])), (xg, .inl (cg, 6, .inr (.inr (.inr (.inr (zq [none, none, none, none, none, none])))))), (o_241, .inr (0, [.int (nI lo), .int (nI hi), .int (nI xe), .int (nI co)]))] H := hP
          have hD : va_D A [(xo, .inr (6, [.ref xg, .int 0, .ref xp, .int pc, .ref xq, .int qc, .ref r1, .ref r2, .ref r3, .ref r4, .ref se, .int ts, .int hou, .int dr, .int su, .int br])), (xg, .inl (cg, 6, .inr (.inr (.inr (.inr (zq [none, none, none, none, none, none])))))), (o_241, .inr (0, [.int (nI lo), .int (nI hi), .int (nI xe), .int (nI co)]))] := hD
          have hK : va_K D vwCl [(cg, .object "Gatherhouse$Glass")] s := hK
          refine va_astq (D := D) (cl := vwCl) hx hb hK hP hD hS 1 0 2 0 rfl rfl rfl rfl (vp_in_nI (n := 0) (N := 6) (by decide) (by decide)) dX6_glass_84 (fun H locs hP hD hS => ?_)
          have hP : va_P D vwCl [(xo, .inr (6, [.ref xg, .int 0, .ref xp, .int pc, .ref xq, .int qc, .ref r1, .ref r2, .ref r3, .ref r4, .ref se, .int ts, .int hou, .int dr, .int su, .int br])), (xg, .inl (cg, 6, .inr (.inr (.inr (.inr (zq [some o_241, none, none, none, none, none])))))), (o_241, .inr (0, [.int (nI lo), .int (nI hi), .int (nI xe), .int (nI co)]))] H := by have h9 := hP; rw [zq_upd (i := 0) (l := [none, none, none, none, none, none]) (x := some o_241) (k := 0) (l' := [some o_241, none, none, none, none, none]) (by decide +kernel) (Nat.lt_of_lt_of_eq (by decide : 0 < 6) rfl) rfl] at h9; exact h9
          have hD : va_D A [(xo, .inr (6, [.ref xg, .int 0, .ref xp, .int pc, .ref xq, .int qc, .ref r1, .ref r2, .ref r3, .ref r4, .ref se, .int ts, .int hou, .int dr, .int su, .int br])), (xg, .inl (cg, 6, .inr (.inr (.inr (.inr (zq [some o_241, none, none, none, none, none])))))), (o_241, .inr (0, [.int (nI lo), .int (nI hi), .int (nI xe), .int (nI co)]))] := by have h9 := hD; rw [zq_upd (i := 0) (l := [none, none, none, none, none, none]) (x := some o_241) (k := 0) (l' := [some o_241, none, none, none, none, none]) (by decide +kernel) (Nat.lt_of_lt_of_eq (by decide : 0 < 6) rfl) rfl] at h9; exact h9
          refine lv_aload_n hx hb dX6_glass_85 rfl (lv_at hl 0 rfl) ?_
          refine lv_dup hx hb dX6_glass_86 rfl ?_
          refine va_get (D := D) (cl := vwCl) (ci := 6) (v := .int 0) (C := RX6) (T := TX6) (N := 16) hx hb hts zuX6_glass_0_X6 hown hK hP 0 rfl rfl 1 (by decide) (hts (.fieldLink RX6 15 "Gatherhouse" "glassCount" "I") (by decide +kernel)) (fun _ h9 => h9) rfl dX6_glass_87 ?_
          refine lv_iconst (v := 1) hx hb dX6_glass_90 (by decide) ?_
          refine lv_iadd hx hb dX6_glass_91 ?_
          refine lv_topi (fun y_244 ey_244 => ?_)
          have ey_244 : y_244 = 1 := ey_244.trans (by decide +kernel)
          subst ey_244
          refine va_put (D := D) (cl := vwCl) (ci := 6) (v := .int 1) (ty := .int) (C := RX6) (T := TX6) (N := 16) hx hb hts zuX6_glass_0_X6 tyX6 tyX6_ok nmX6 hown hK hP hD hS 0 rfl rfl 1 (by decide) (hts (.fieldLink RX6 15 "Gatherhouse" "glassCount" "I") (by decide +kernel)) (fun _ h9 => h9) rfl (by decide +kernel) rfl rfl (Nat.le_of_ble_eq_true rfl) dX6_glass_92 (fun H locs hP hD hS => ?_)
          have hP : va_P D vwCl [(xo, .inr (6, [.ref xg, .int 1, .ref xp, .int pc, .ref xq, .int qc, .ref r1, .ref r2, .ref r3, .ref r4, .ref se, .int ts, .int hou, .int dr, .int su, .int br])), (xg, .inl (cg, 6, .inr (.inr (.inr (.inr (zq [some o_241, none, none, none, none, none])))))), (o_241, .inr (0, [.int (nI lo), .int (nI hi), .int (nI xe), .int (nI co)]))] H := hP
          have hD : va_D A [(xo, .inr (6, [.ref xg, .int 1, .ref xp, .int pc, .ref xq, .int qc, .ref r1, .ref r2, .ref r3, .ref r4, .ref se, .int ts, .int hou, .int dr, .int su, .int br])), (xg, .inl (cg, 6, .inr (.inr (.inr (.inr (zq [some o_241, none, none, none, none, none])))))), (o_241, .inr (0, [.int (nI lo), .int (nI hi), .int (nI xe), .int (nI co)]))] := hD
          refine lv_aload_n hx hb dX6_glass_95 rfl (lv_at hl 0 rfl) ?_
          refine va_get (D := D) (cl := vwCl) (ci := 6) (v := .int 1) (C := RX6) (T := TX6) (N := 16) hx hb hts zuX6_glass_0_X6 hown hK hP 0 rfl rfl 1 (by decide) (hts (.fieldLink RX6 15 "Gatherhouse" "glassCount" "I") (by decide +kernel)) (fun _ h9 => h9) rfl dX6_glass_96 ?_
          refine lv_iconst (v := 1) hx hb dX6_glass_99 (by decide) ?_
          refine lv_isub hx hb dX6_glass_100 ?_
          refine lv_topi (fun y_245 ey_245 => ?_)
          have ey_245 : y_245 = 0 := ey_245.trans (by decide +kernel)
          subst ey_245
          refine vx_ret ?_
          exact W.iret (v := 0) hx hb hr (fun t ht hW => ⟨⟨0, (), rfl, rfl, ⟨o_241, q_RW_mk hP hK hD [0, 1, 2] [0] rfl rfl (by decide) rfl ht hW.alike⟩⟩, hS.F ht⟩) hS.2.2 dX6_glass_101
def wzEX6_glass_1 : List Cond := [.code yX6_glass cX6_glass 5 (some .int), .methodLink RX6 75 yX6_checkRange, .static yX6_checkRange, .initialized RX6, .code yX6_checkRange cX6_checkRange 3 none, .fieldLink RX6 15 "Gatherhouse" "glassCount" "I", .fieldLink RX6 11 "Gatherhouse" "glasses" "[LGatherhouse$Glass;", .classLink RX6 9 RX0, .instantiable RX0 4, .initialized RX0, .code yX0_init cX0_init 5 none, .methodLink RX0 3 objectInit, .instanceMethod objectInit, .code objectInit ⟨#[0xb1]⟩ 1 none, .fieldLink RX0 9 "Gatherhouse$Glass" "low" "I", .fieldLink RX0 15 "Gatherhouse$Glass" "high" "I", .fieldLink RX0 18 "Gatherhouse$Glass" "expansion" "I", .fieldLink RX0 21 "Gatherhouse$Glass" "colour" "I", .instanceMethod yX0_init]
def wzX6_glass_1 : List Cond := wzEX6_glass_1 ++ (u_ws RX6 TX6 16 ++ (u_ws RX0 TX0 4))
theorem zgEX6_glass_1 : wzEX6_glass_1.all goodWord = true := by decide +kernel
theorem zuX6_glass_1_X6 : ∀ w ∈ u_ws RX6 TX6 16, w ∈ wzX6_glass_1 := (fun _ h => (List.mem_append_right _ (List.mem_append_left _ h)))
theorem zuX6_glass_1_X0 : ∀ w ∈ u_ws RX0 TX0 4, w ∈ wzX6_glass_1 := (fun _ h => (List.mem_append_right _ (List.mem_append_right _ h)))
theorem gzX6_glass_1_X6_checkRange_ok_75 : GoodIn wzX6_glass_1 (va_wsS RX6 75 yX6_checkRange wzX6_checkRange_ok) := (goodIn_app (z_lift (goodIn_r _ [1, 2, 3] rfl (by decide +kernel))) (goodIn_app (z_lift (goodIn_r wzEX6_checkRange_ok [4] rfl zgEX6_checkRange_ok)) z_gnil))
theorem gzX6_glass_1_X0_init_86 : GoodIn wzX6_glass_1 (wzX0_init) := (goodIn_app (z_lift (goodIn_r wzEX0_init [10, 11, 12, 13, 14, 15, 16, 17] rfl zgEX0_init)) (goodIn_sub (fun _ h => (List.mem_append_right _ (List.mem_append_right _ h))) zgU_X0))
set_option maxHeartbeats 4000000 in
set_option maxRecDepth 100000 in
theorem zc_X6_glass_1 (l : Launch) (hnt : l.stackTraces = false) (D : va_G) (G : Nat × Nat × (Nat → Int32)) (xo : Nat) (lo : Nat) (hi : Nat) (xe : Nat) (co : Nat) (xg : Nat) (xp : Nat) (pc : Int32) (xq : Nat) (qc : Int32) (r1 : Nat) (r2 : Nat) (r3 : Nat) (r4 : Nat) (se : Nat) (ts : Int32) (hou : Int32) (dr : Int32) (su : Int32) (br : Int32) (cg : ClassId) (a0 : Nat) (sz : Nat) (g1 : lo ≤ hi) (hl_lo : 600 ≤ lo) (hh_lo : lo ≤ 1100) (hl_hi : 600 ≤ hi) (hh_hi : hi ≤ 1100) (hl_xe : 50 ≤ xe) (hh_xe : xe ≤ 150) (hh_co : co ≤ 9) : vx_Met l yX6_glass wzX6_glass_1 ({ frames := 2, cells := 1, slots := 4, locals := 36 }) (va_Pc [.ref xo, .int (nI lo), .int (nI hi), .int (nI xe), .int (nI co)] (p_RW D G [(cg, .object "Gatherhouse$Glass")] [(xo, .inr (6, [.ref xg, .int 1, .ref xp, .int pc, .ref xq, .int qc, .ref r1, .ref r2, .ref r3, .ref r4, .ref se, .int ts, .int hou, .int dr, .int su, .int br])), (xg, .inl (cg, 6, .inr (.inr (.inr (.inr (zq [some a0, none, none, none, none, none]))))))] sz)) (va_Qi (fun (r : Int32) (u : Unit) => r = 1) (fun (u : Unit) (t : State) => ∃ (gn : Nat), q_RW D [(cg, .object "Gatherhouse$Glass")] [(xo, .inr (6, [.ref xg, .int 2, .ref xp, .int pc, .ref xq, .int qc, .ref r1, .ref r2, .ref r3, .ref r4, .ref se, .int ts, .int hou, .int dr, .int su, .int br])), (xg, .inl (cg, 6, .inr (.inr (.inr (.inr (zq [some a0, some gn, none, none, none, none])))))), (gn, .inr (0, [.int (nI lo), .int (nI hi), .int (nI xe), .int (nI co)]))] (va_A [(xo, .inr (6, [.ref xg, .int 1, .ref xp, .int pc, .ref xq, .int qc, .ref r1, .ref r2, .ref r3, .ref r4, .ref se, .int ts, .int hou, .int dr, .int su, .int br])), (xg, .inl (cg, 6, .inr (.inr (.inr (.inr (zq [some a0, none, none, none, none, none]))))))] sz) t) (va_A [(xo, .inr (6, [.ref xg, .int 1, .ref xp, .int pc, .ref xq, .int qc, .ref r1, .ref r2, .ref r3, .ref r4, .ref se, .int ts, .int hou, .int dr, .int su, .int br])), (xg, .inl (cg, 6, .inr (.inr (.inr (.inr (zq [some a0, none, none, none, none, none]))))))] sz)) (vx_X (fun (_ : Unit) => True) (fun E (_ : Unit) (_ : State) => False) (va_A [(xo, .inr (6, [.ref xg, .int 1, .ref xp, .int pc, .ref xq, .int qc, .ref r1, .ref r2, .ref r3, .ref r4, .ref se, .int ts, .int hou, .int dr, .int su, .int br])), (xg, .inl (cg, 6, .inr (.inr (.inr (.inr (zq [some a0, none, none, none, none, none]))))))] sz)) 1 4 (va_A [(xo, .inr (6, [.ref xg, .int 1, .ref xp, .int pc, .ref xq, .int qc, .ref r1, .ref r2, .ref r3, .ref r4, .ref se, .int ts, .int hou, .int dr, .int su, .int br])), (xg, .inl (cg, 6, .inr (.inr (.inr (.inr (zq [some a0, none, none, none, none, none]))))))] sz) := by
  refine vx_ofW (cc := cX6_glass) (maxL := 5) (ret := (some .int)) (by decide) rfl ?_
  intro p e s m args below meth c s₁ B hml hxt hv
  obtain ⟨rfl, hsz, hP, hK, hD0, hT, hZ⟩ := hv
  have hx := B.exec
  have hb := B.bytes
  have hr := B.returns
  have hts := atoms_spec (ws := wzX6_glass_1) B.pre
  have hown : s.vm.findClass RX6 = some m.cls := findClass_of_methodNamed B.named
  have hlocks := B.notSynchronized
  subst hsz
  have hD := hD0.self (sz := s.heap.size)
  generalize hAe : va_A [(xo, .inr (6, [.ref xg, .int 1, .ref xp, .int pc, .ref xq, .int qc, .ref r1, .ref r2, .ref r3, .ref r4, .ref se, .int ts, .int hou, .int dr, .int su, .int br])), (xg, .inl (cg, 6, .inr (.inr (.inr (.inr (zq [some a0, none, none, none, none, none]))))))] s.heap.size = A at hD hZ ⊢
  have hA : ∀ q : Nat, s.heap.size ≤ q → A q := fun q h => by rw [← hAe]; exact Or.inr h
  have hS : va_S A s.heap s.heap [] := va_S.rf
  have hl := lv_entry ([.ref xo, .int (nI lo), .int (nI hi), .int (nI xe), .int (nI co)]) (n := 5) (Nat.le_of_ble_eq_true rfl)
  rw [lg_entry_eq]
  generalize (lg_sl ([.ref xo, .int (nI lo), .int (nI hi), .int (nI xe), .int (nI co)]) ++ List.replicate (5 - (lg_sl ([.ref xo, .int (nI lo), .int (nI hi), .int (nI xe), .int (nI co)])).length) Slot.unset).toArray = ls at hl ⊢
  have hl : lv_has ls 5 [(0, .ref xo), (1, .int (nI lo)), (2, .int (nI hi)), (3, .int (nI xe)), (4, .int (nI co))] := hl
  refine lv_iload_n hx hb dX6_glass_0 rfl (lv_at hl 1 rfl) ?_
  refine lv_sipush (v := 600) hx hb dX6_glass_1 (by decide) ?_
  refine lv_sipush (v := 1100) hx hb dX6_glass_4 (by decide) ?_
  have hFc := va_free (wc := []) hD hS hA [] rfl
  refine vx_callv (vx_runS (As := [.int (nI lo), .int 600, .int 1100]) (rest := []) ⟨hx, hb, hml, hown, hts⟩ (zc_X6_checkRange_ok l hnt D G lo 600 1100 s.heap.size (by first | assumption | rfl | omega | exact Nat.le_trans (zS_le _ _ _) (by omega) | decide) (by first | assumption | rfl | omega | exact Nat.le_trans (zS_le _ _ _) (by omega) | decide) (by first | assumption | rfl | omega | exact Nat.le_trans (zS_le _ _ _) (by omega) | decide) (by first | assumption | rfl | omega | exact Nat.le_trans (zS_le _ _ _) (by omega) | decide) (by first | assumption | rfl | omega | exact Nat.le_trans (zS_le _ _ _) (by omega) | decide)) (cwS 3 hts gzX6_glass_1_X6_checkRange_ok_75 rfl rfl rfl (by decide +kernel) ⟨(Nat.le_of_ble_eq_true rfl), (Nat.le_of_ble_eq_true rfl)⟩) ⟨p_RW_blind, (p_RW_at (tc := []) (wc := []) hP hK hD hS hA hT hZ [] [] rfl rfl (by decide) rfl [.int (nI lo), .int 600, .int 1100])⟩ rfl rfl hl.1 rfl (lv_room (Nat.le_of_ble_eq_true rfl)) dX6_glass_7 ⟨(Nat.le_of_ble_eq_true rfl), (Nat.le_of_ble_eq_true rfl)⟩) hS (fun q _ h => hFc q h) hFc (fun q _ h => hFc q h) (fun E ce q9 u t H locs ht hvm hpx hBX hz1 hk1 hS hce hcv hcl => ?_) (fun u t H locs ht hvm w_247 hB hz1 hk1 hS => ?_)
  · exact (show False from hBX).elim
  · obtain ⟨hP, hD, hK⟩ := q_join (D := D) (wc := []) (wr := [(xo, .inr (6, [.ref xg, .int 1, .ref xp, .int pc, .ref xq, .int qc, .ref r1, .ref r2, .ref r3, .ref r4, .ref se, .int ts, .int hou, .int dr, .int su, .int br])), (xg, .inl (cg, 6, .inr (.inr (.inr (.inr (zq [some a0, none, none, none, none, none]))))))]) (w1 := []) (tyr := [(cg, .object "Gatherhouse$Glass")]) (ty1 := []) hP hD hK [] [0, 1] [0] rfl rfl (by decide) (by decide) rfl hFc hk1 ht hvm hB
    have hP : va_P D vwCl [(xo, .inr (6, [.ref xg, .int 1, .ref xp, .int pc, .ref xq, .int qc, .ref r1, .ref r2, .ref r3, .ref r4, .ref se, .int ts, .int hou, .int dr, .int su, .int br])), (xg, .inl (cg, 6, .inr (.inr (.inr (.inr (zq [some a0, none, none, none, none, none]))))))] H := hP
    have hD : va_D A [(xo, .inr (6, [.ref xg, .int 1, .ref xp, .int pc, .ref xq, .int qc, .ref r1, .ref r2, .ref r3, .ref r4, .ref se, .int ts, .int hou, .int dr, .int su, .int br])), (xg, .inl (cg, 6, .inr (.inr (.inr (.inr (zq [some a0, none, none, none, none, none]))))))] := hD
    have hK : va_K D vwCl [(cg, .object "Gatherhouse$Glass")] s := hK
    refine lv_iload_n hx hb dX6_glass_10 rfl (lv_at hl 2 rfl) ?_
    refine lv_iload_n hx hb dX6_glass_11 rfl (lv_at hl 1 rfl) ?_
    refine lv_sipush (v := 1100) hx hb dX6_glass_12 (by decide) ?_
    have hFc := va_free (wc := []) hD hS hA [] rfl
    refine vx_callv (vx_runS (As := [.int (nI hi), .int (nI lo), .int 1100]) (rest := []) ⟨hx, hb, hml, hown, hts⟩ (zc_X6_checkRange_ok l hnt D G hi lo 1100 H.size (by first | assumption | rfl | omega | exact Nat.le_trans (zS_le _ _ _) (by omega) | decide) (by first | assumption | rfl | omega | exact Nat.le_trans (zS_le _ _ _) (by omega) | decide) (by first | assumption | rfl | omega | exact Nat.le_trans (zS_le _ _ _) (by omega) | decide) (by first | assumption | rfl | omega | exact Nat.le_trans (zS_le _ _ _) (by omega) | decide) (by first | assumption | rfl | omega | exact Nat.le_trans (zS_le _ _ _) (by omega) | decide)) (cwS 3 hts gzX6_glass_1_X6_checkRange_ok_75 rfl rfl rfl (by decide +kernel) ⟨(Nat.le_of_ble_eq_true rfl), (Nat.le_of_ble_eq_true rfl)⟩) ⟨p_RW_blind, (p_RW_at (tc := []) (wc := []) hP hK hD hS hA hT hZ [] [] rfl rfl (by decide) rfl [.int (nI hi), .int (nI lo), .int 1100])⟩ rfl rfl hl.1 rfl (lv_room (Nat.le_of_ble_eq_true rfl)) dX6_glass_15 ⟨(Nat.le_of_ble_eq_true rfl), (Nat.le_of_ble_eq_true rfl)⟩) hS (fun q _ h => hFc q h) hFc (fun q _ h => hFc q h) (fun E ce q9 u t H locs ht hvm hpx hBX hz1 hk1 hS hce hcv hcl => ?_) (fun u t H locs ht hvm w_249 hB hz1 hk1 hS => ?_)
    · exact (show False from hBX).elim
    · obtain ⟨hP, hD, hK⟩ := q_join (D := D) (wc := []) (wr := [(xo, .inr (6, [.ref xg, .int 1, .ref xp, .int pc, .ref xq, .int qc, .ref r1, .ref r2, .ref r3, .ref r4, .ref se, .int ts, .int hou, .int dr, .int su, .int br])), (xg, .inl (cg, 6, .inr (.inr (.inr (.inr (zq [some a0, none, none, none, none, none]))))))]) (w1 := []) (tyr := [(cg, .object "Gatherhouse$Glass")]) (ty1 := []) hP hD hK [] [0, 1] [0] rfl rfl (by decide) (by decide) rfl hFc hk1 ht hvm hB
      have hP : va_P D vwCl [(xo, .inr (6, [.ref xg, .int 1, .ref xp, .int pc, .ref xq, .int qc, .ref r1, .ref r2, .ref r3, .ref r4, .ref se, .int ts, .int hou, .int dr, .int su, .int br])), (xg, .inl (cg, 6, .inr (.inr (.inr (.inr (zq [some a0, none, none, none, none, none]))))))] H := hP
      have hD : va_D A [(xo, .inr (6, [.ref xg, .int 1, .ref xp, .int pc, .ref xq, .int qc, .ref r1, .ref r2, .ref r3, .ref r4, .ref se, .int ts, .int hou, .int dr, .int su, .int br])), (xg, .inl (cg, 6, .inr (.inr (.inr (.inr (zq [some a0, none, none, none, none, none]))))))] := hD
      have hK : va_K D vwCl [(cg, .object "Gatherhouse$Glass")] s := hK
      refine lv_iload_n hx hb dX6_glass_18 rfl (lv_at hl 3 rfl) ?_
      refine lv_bipush (v := 50) hx hb dX6_glass_19 (by decide) ?_
      refine lv_sipush (v := 150) hx hb dX6_glass_21 (by decide) ?_
      have hFc := va_free (wc := []) hD hS hA [] rfl
      refine vx_callv (vx_runS (As := [.int (nI xe), .int 50, .int 150]) (rest := []) ⟨hx, hb, hml, hown, hts⟩ (zc_X6_checkRange_ok l hnt D G xe 50 150 H.size (by first | assumption | rfl | omega | exact Nat.le_trans (zS_le _ _ _) (by omega) | decide) (by first | assumption | rfl | omega | exact Nat.le_trans (zS_le _ _ _) (by omega) | decide) (by first | assumption | rfl | omega | exact Nat.le_trans (zS_le _ _ _) (by omega) | decide) (by first | assumption | rfl | omega | exact Nat.le_trans (zS_le _ _ _) (by omega) | decide) (by first | assumption | rfl | omega | exact Nat.le_trans (zS_le _ _ _) (by omega) | decide)) (cwS 3 hts gzX6_glass_1_X6_checkRange_ok_75 rfl rfl rfl (by decide +kernel) ⟨(Nat.le_of_ble_eq_true rfl), (Nat.le_of_ble_eq_true rfl)⟩) ⟨p_RW_blind, (p_RW_at (tc := []) (wc := []) hP hK hD hS hA hT hZ [] [] rfl rfl (by decide) rfl [.int (nI xe), .int 50, .int 150])⟩ rfl rfl hl.1 rfl (lv_room (Nat.le_of_ble_eq_true rfl)) dX6_glass_24 ⟨(Nat.le_of_ble_eq_true rfl), (Nat.le_of_ble_eq_true rfl)⟩) hS (fun q _ h => hFc q h) hFc (fun q _ h => hFc q h) (fun E ce q9 u t H locs ht hvm hpx hBX hz1 hk1 hS hce hcv hcl => ?_) (fun u t H locs ht hvm w_251 hB hz1 hk1 hS => ?_)
      · exact (show False from hBX).elim
      · obtain ⟨hP, hD, hK⟩ := q_join (D := D) (wc := []) (wr := [(xo, .inr (6, [.ref xg, .int 1, .ref xp, .int pc, .ref xq, .int qc, .ref r1, .ref r2, .ref r3, .ref r4, .ref se, .int ts, .int hou, .int dr, .int su, .int br])), (xg, .inl (cg, 6, .inr (.inr (.inr (.inr (zq [some a0, none, none, none, none, none]))))))]) (w1 := []) (tyr := [(cg, .object "Gatherhouse$Glass")]) (ty1 := []) hP hD hK [] [0, 1] [0] rfl rfl (by decide) (by decide) rfl hFc hk1 ht hvm hB
        have hP : va_P D vwCl [(xo, .inr (6, [.ref xg, .int 1, .ref xp, .int pc, .ref xq, .int qc, .ref r1, .ref r2, .ref r3, .ref r4, .ref se, .int ts, .int hou, .int dr, .int su, .int br])), (xg, .inl (cg, 6, .inr (.inr (.inr (.inr (zq [some a0, none, none, none, none, none]))))))] H := hP
        have hD : va_D A [(xo, .inr (6, [.ref xg, .int 1, .ref xp, .int pc, .ref xq, .int qc, .ref r1, .ref r2, .ref r3, .ref r4, .ref se, .int ts, .int hou, .int dr, .int su, .int br])), (xg, .inl (cg, 6, .inr (.inr (.inr (.inr (zq [some a0, none, none, none, none, none]))))))] := hD
        have hK : va_K D vwCl [(cg, .object "Gatherhouse$Glass")] s := hK
        refine lv_iload hx hb dX6_glass_27 (lv_at hl 4 rfl) ?_
        refine lv_iconst (v := 0) hx hb dX6_glass_29 (by decide) ?_
        refine lv_bipush (v := 9) hx hb dX6_glass_30 (by decide) ?_
        have hFc := va_free (wc := []) hD hS hA [] rfl
        refine vx_callv (vx_runS (As := [.int (nI co), .int 0, .int 9]) (rest := []) ⟨hx, hb, hml, hown, hts⟩ (zc_X6_checkRange_ok l hnt D G co 0 9 H.size (by first | assumption | rfl | omega | exact Nat.le_trans (zS_le _ _ _) (by omega) | decide) (by first | assumption | rfl | omega | exact Nat.le_trans (zS_le _ _ _) (by omega) | decide) (by first | assumption | rfl | omega | exact Nat.le_trans (zS_le _ _ _) (by omega) | decide) (by first | assumption | rfl | omega | exact Nat.le_trans (zS_le _ _ _) (by omega) | decide) (by first | assumption | rfl | omega | exact Nat.le_trans (zS_le _ _ _) (by omega) | decide)) (cwS 3 hts gzX6_glass_1_X6_checkRange_ok_75 rfl rfl rfl (by decide +kernel) ⟨(Nat.le_of_ble_eq_true rfl), (Nat.le_of_ble_eq_true rfl)⟩) ⟨p_RW_blind, (p_RW_at (tc := []) (wc := []) hP hK hD hS hA hT hZ [] [] rfl rfl (by decide) rfl [.int (nI co), .int 0, .int 9])⟩ rfl rfl hl.1 rfl (lv_room (Nat.le_of_ble_eq_true rfl)) dX6_glass_32 ⟨(Nat.le_of_ble_eq_true rfl), (Nat.le_of_ble_eq_true rfl)⟩) hS (fun q _ h => hFc q h) hFc (fun q _ h => hFc q h) (fun E ce q9 u t H locs ht hvm hpx hBX hz1 hk1 hS hce hcv hcl => ?_) (fun u t H locs ht hvm w_253 hB hz1 hk1 hS => ?_)
        · exact (show False from hBX).elim
        · obtain ⟨hP, hD, hK⟩ := q_join (D := D) (wc := []) (wr := [(xo, .inr (6, [.ref xg, .int 1, .ref xp, .int pc, .ref xq, .int qc, .ref r1, .ref r2, .ref r3, .ref r4, .ref se, .int ts, .int hou, .int dr, .int su, .int br])), (xg, .inl (cg, 6, .inr (.inr (.inr (.inr (zq [some a0, none, none, none, none, none]))))))]) (w1 := []) (tyr := [(cg, .object "Gatherhouse$Glass")]) (ty1 := []) hP hD hK [] [0, 1] [0] rfl rfl (by decide) (by decide) rfl hFc hk1 ht hvm hB
          have hP : va_P D vwCl [(xo, .inr (6, [.ref xg, .int 1, .ref xp, .int pc, .ref xq, .int qc, .ref r1, .ref r2, .ref r3, .ref r4, .ref se, .int ts, .int hou, .int dr, .int su, .int br])), (xg, .inl (cg, 6, .inr (.inr (.inr (.inr (zq [some a0, none, none, none, none, none]))))))] H := hP
          have hD : va_D A [(xo, .inr (6, [.ref xg, .int 1, .ref xp, .int pc, .ref xq, .int qc, .ref r1, .ref r2, .ref r3, .ref r4, .ref se, .int ts, .int hou, .int dr, .int su, .int br])), (xg, .inl (cg, 6, .inr (.inr (.inr (.inr (zq [some a0, none, none, none, none, none]))))))] := hD
          have hK : va_K D vwCl [(cg, .object "Gatherhouse$Glass")] s := hK
          refine lv_aload_n hx hb dX6_glass_35 rfl (lv_at hl 0 rfl) ?_
          refine va_get (D := D) (cl := vwCl) (ci := 6) (v := .int 1) (C := RX6) (T := TX6) (N := 16) hx hb hts zuX6_glass_1_X6 hown hK hP 0 rfl rfl 1 (by decide) (hts (.fieldLink RX6 15 "Gatherhouse" "glassCount" "I") (by decide +kernel)) (fun _ h9 => h9) rfl dX6_glass_36 ?_
          refine lv_if_lt (tgt := 54) hx hb dX6_glass_39 (by decide) (fun cc => absurd cc (by decide)) (fun _ => ?_)
          refine lv_aload_n hx hb dX6_glass_42 rfl (lv_at hl 0 rfl) ?_
          refine va_get (D := D) (cl := vwCl) (ci := 6) (v := .int 1) (C := RX6) (T := TX6) (N := 16) hx hb hts zuX6_glass_1_X6 hown hK hP 0 rfl rfl 1 (by decide) (hts (.fieldLink RX6 15 "Gatherhouse" "glassCount" "I") (by decide +kernel)) (fun _ h9 => h9) rfl dX6_glass_43 ?_
          refine lv_aload_n hx hb dX6_glass_46 rfl (lv_at hl 0 rfl) ?_
          refine va_get (D := D) (cl := vwCl) (ci := 6) (v := .ref xg) (C := RX6) (T := TX6) (N := 16) hx hb hts zuX6_glass_1_X6 hown hK hP 0 rfl rfl 0 (by decide) (hts (.fieldLink RX6 11 "Gatherhouse" "glasses" "[LGatherhouse$Glass;") (by decide +kernel)) (fun _ h9 => h9) rfl dX6_glass_47 ?_
          refine va_alen (D := D) (cl := vwCl) (v := 6) hx hb hK hP 1 0 rfl rfl rfl dX6_glass_50 ?_
          refine lv_icmp_lt (tgt := 64) hx hb dX6_glass_51 (by decide) (fun _ => ?_) (fun cc => absurd (by decide) cc)
          refine lv_aload_n hx hb dX6_glass_64 rfl (lv_at hl 0 rfl) ?_
          refine va_get (D := D) (cl := vwCl) (ci := 6) (v := .ref xg) (C := RX6) (T := TX6) (N := 16) hx hb hts zuX6_glass_1_X6 hown hK hP 0 rfl rfl 0 (by decide) (hts (.fieldLink RX6 11 "Gatherhouse" "glasses" "[LGatherhouse$Glass;") (by decide +kernel)) (fun _ h9 => h9) rfl dX6_glass_65 ?_
          refine lv_aload_n hx hb dX6_glass_68 rfl (lv_at hl 0 rfl) ?_
          refine va_get (D := D) (cl := vwCl) (ci := 6) (v := .int 1) (C := RX6) (T := TX6) (N := 16) hx hb hts zuX6_glass_1_X6 hown hK hP 0 rfl rfl 1 (by decide) (hts (.fieldLink RX6 15 "Gatherhouse" "glassCount" "I") (by decide +kernel)) (fun _ h9 => h9) rfl dX6_glass_69 ?_
          refine va_new (D := D) (cl := vwCl) (ci := 0) (fs := [.int 0, .int 0, .int 0, .int 0]) (C := RX0) (T := TX0) (N := 4) hx hb hts zuX6_glass_1_X0 tyX0 tyX0_ok hown (hts (.classLink RX6 9 RX0) (by decide +kernel)) (hts (.instantiable RX0 4) (by decide +kernel)) (hts (.initialized RX0) (by decide +kernel)) hK hP hD hS hA rfl (fun j hj => by rcases (show j = 0 ∨ j = 1 ∨ j = 2 ∨ j = 3 by omega) with rfl | rfl | rfl | rfl <;> rfl) (Nat.le_of_ble_eq_true rfl) (Nat.le_of_ble_eq_true rfl) dX6_glass_72 (fun o_254 H hP hD hS => ?_)
          have hP : va_P D vwCl [(xo, .inr (6, [.ref xg, .int 1, .ref xp, .int pc, .ref xq, .int qc, .ref r1, .ref r2, .ref r3, .ref r4, .ref se, .int ts, .int hou, .int dr, .int su, .int br])), (xg, .inl (cg, 6, .inr (.inr (.inr (.inr (zq [some a0, none, none, none, none, none])))))), (o_254, .inr (0, [.int 0, .int 0, .int 0, .int 0]))] H := hP
          have hD : va_D A [(xo, .inr (6, [.ref xg, .int 1, .ref xp, .int pc, .ref xq, .int qc, .ref r1, .ref r2, .ref r3, .ref r4, .ref se, .int ts, .int hou, .int dr, .int su, .int br])), (xg, .inl (cg, 6, .inr (.inr (.inr (.inr (zq [some a0, none, none, none, none, none])))))), (o_254, .inr (0, [.int 0, .int 0, .int 0, .int 0]))] := hD
          refine W.widen (k := 1) (n := 4) (Nat.le_of_ble_eq_true rfl) (Nat.le_of_ble_eq_true rfl) ?_
          refine lv_dup hx hb dX6_glass_75 rfl ?_
          refine lv_iload_n hx hb dX6_glass_76 rfl (lv_at hl 1 rfl) ?_
          refine lv_iload_n hx hb dX6_glass_77 rfl (lv_at hl 2 rfl) ?_
          refine lv_iload_n hx hb dX6_glass_78 rfl (lv_at hl 3 rfl) ?_
          refine lv_iload hx hb dX6_glass_79 (lv_at hl 4 rfl) ?_
          have hFc := va_free (wc := [(o_254, .inr (0, [.int 0, .int 0, .int 0, .int 0]))]) hD hS hA [2] rfl
          refine va_callv (va_runIN (As := [.int (nI lo), .int (nI hi), .int (nI xe), .int (nI co)]) (rest := [.ref o_254, .int 1, .ref xg]) ⟨hx, hb, hml, hown, hts⟩ (zc_X0_init l D G o_254 (nI lo) (nI hi) (nI xe) (nI co) H.size) ⟨va_cnB 4 hts gzX6_glass_1_X0_init_86 rfl rfl rfl (hT.1 ("Gatherhouse", 86, ⟨"Gatherhouse$Glass", "<init>", "(IIII)V"⟩, "Gatherhouse") (by decide +kernel)) (hts (.initialized RX0) (by decide +kernel)) (by decide +kernel) ⟨(Nat.le_of_ble_eq_true rfl), (Nat.le_of_ble_eq_true rfl)⟩, rfl, (hts (.instanceMethod yX0_init) (by decide +kernel))⟩ ⟨p_RW_blind, (p_RW_at (tc := []) (wc := [(o_254, .inr (0, [.int 0, .int 0, .int 0, .int 0]))]) hP hK hD hS hA hT hZ [2] [] rfl rfl (by decide) rfl [.ref o_254, .int (nI lo), .int (nI hi), .int (nI xe), .int (nI co)])⟩ rfl rfl hl.1 rfl (lv_room (Nat.le_of_ble_eq_true rfl)) dX6_glass_81 ⟨(Nat.le_of_ble_eq_true rfl), (Nat.le_of_ble_eq_true rfl)⟩) hS (fun q _ h => hFc q h) hFc (fun u t H locs ht hvm w_256 hB hz1 hk1 hS => ?_)
          obtain ⟨hP, hD, hK⟩ := q_join (D := D) (wc := [(o_254, .inr (0, [.int 0, .int 0, .int 0, .int 0]))]) (wr := [(xo, .inr (6, [.ref xg, .int 1, .ref xp, .int pc, .ref xq, .int qc, .ref r1, .ref r2, .ref r3, .ref r4, .ref se, .int ts, .int hou, .int dr, .int su, .int br])), (xg, .inl (cg, 6, .inr (.inr (.inr (.inr (zq [some a0, none, none, none, none, none]))))))]) (w1 := [(o_254, .inr (0, [.int (nI lo), .int (nI hi), .int (nI xe), .int (nI co)]))]) (tyr := [(cg, .object "Gatherhouse$Glass")]) (ty1 := []) hP hD hK [2] [0, 1] [0] rfl rfl (by decide) (by decide) rfl hFc hk1 ht hvm hB
          have hP : va_P D vwCl [(xo, .inr (6, [.ref xg, .int 1, .ref xp, .int pc, .ref xq, .int qc, .ref r1, .ref r2, .ref r3, .ref r4, .ref se, .int ts, .int hou, .int dr, .int su, .int br])), (xg, .inl (cg, 6, .inr (.inr (.inr (.inr (zq [some a0, none, none, none, none, none])))))), (o_254, .inr (0, [.int (nI lo), .int (nI hi), .int (nI xe), .int (nI co)]))] H := hP
          have hD : va_D A [(xo, .inr (6, [.ref xg, .int 1, .ref xp, .int pc, .ref xq, .int qc, .ref r1, .ref r2, .ref r3, .ref r4, .ref se, .int ts, .int hou, .int dr, .int su, .int br])), (xg, .inl (cg, 6, .inr (.inr (.inr (.inr (zq [some a0, none, none, none, none, none])))))), (o_254, .inr (0, [.int (nI lo), .int (nI hi), .int (nI xe), .int (nI co)]))] := hD
          have hK : va_K D vwCl [(cg, .object "Gatherhouse$Glass")] s := hK
          refine va_astq (D := D) (cl := vwCl) hx hb hK hP hD hS 1 0 2 0 rfl rfl rfl rfl (vp_in_nI (n := 1) (N := 6) (by decide) (by decide)) dX6_glass_84 (fun H locs hP hD hS => ?_)
          have hP : va_P D vwCl [(xo, .inr (6, [.ref xg, .int 1, .ref xp, .int pc, .ref xq, .int qc, .ref r1, .ref r2, .ref r3, .ref r4, .ref se, .int ts, .int hou, .int dr, .int su, .int br])), (xg, .inl (cg, 6, .inr (.inr (.inr (.inr (zq [some a0, some o_254, none, none, none, none])))))), (o_254, .inr (0, [.int (nI lo), .int (nI hi), .int (nI xe), .int (nI co)]))] H := by have h9 := hP; rw [zq_upd (i := 1) (l := [some a0, none, none, none, none, none]) (x := some o_254) (k := 1) (l' := [some a0, some o_254, none, none, none, none]) (by decide +kernel) (Nat.lt_of_lt_of_eq (by decide : 1 < 6) rfl) rfl] at h9; exact h9
          have hD : va_D A [(xo, .inr (6, [.ref xg, .int 1, .ref xp, .int pc, .ref xq, .int qc, .ref r1, .ref r2, .ref r3, .ref r4, .ref se, .int ts, .int hou, .int dr, .int su, .int br])), (xg, .inl (cg, 6, .inr (.inr (.inr (.inr (zq [some a0, some o_254, none, none, none, none])))))), (o_254, .inr (0, [.int (nI lo), .int (nI hi), .int (nI xe), .int (nI co)]))] := by have h9 := hD; rw [zq_upd (i := 1) (l := [some a0, none, none, none, none, none]) (x := some o_254) (k := 1) (l' := [some a0, some o_254, none, none, none, none]) (by decide +kernel) (Nat.lt_of_lt_of_eq (by decide : 1 < 6) rfl) rfl] at h9; exact h9
          refine lv_aload_n hx hb dX6_glass_85 rfl (lv_at hl 0 rfl) ?_
          refine lv_dup hx hb dX6_glass_86 rfl ?_
          refine va_get (D := D) (cl := vwCl) (ci := 6) (v := .int 1) (C := RX6) (T := TX6) (N := 16) hx hb hts zuX6_glass_1_X6 hown hK hP 0 rfl rfl 1 (by decide) (hts (.fieldLink RX6 15 "Gatherhouse" "glassCount" "I") (by decide +kernel)) (fun _ h9 => h9) rfl dX6_glass_87 ?_
          refine lv_iconst (v := 1) hx hb dX6_glass_90 (by decide) ?_
          refine lv_iadd hx hb dX6_glass_91 ?_
          refine lv_topi (fun y_257 ey_257 => ?_)
          have ey_257 : y_257 = 2 := ey_257.trans (by decide +kernel)
          subst ey_257
          refine va_put (D := D) (cl := vwCl) (ci := 6) (v := .int 2) (ty := .int) (C := RX6) (T := TX6) (N := 16) hx hb hts zuX6_glass_1_X6 tyX6 tyX6_ok nmX6 hown hK hP hD hS 0 rfl rfl 1 (by decide) (hts (.fieldLink RX6 15 "Gatherhouse" "glassCount" "I") (by decide +kernel)) (fun _ h9 => h9) rfl (by decide +kernel) rfl rfl (Nat.le_of_ble_eq_true rfl) dX6_glass_92 (fun H locs hP hD hS => ?_)
          have hP : va_P D vwCl [(xo, .inr (6, [.ref xg, .int 2, .ref xp, .int pc, .ref xq, .int qc, .ref r1, .ref r2, .ref r3, .ref r4, .ref se, .int ts, .int hou, .int dr, .int su, .int br])), (xg, .inl (cg, 6, .inr (.inr (.inr (.inr (zq [some a0, some o_254, none, none, none, none])))))), (o_254, .inr (0, [.int (nI lo), .int (nI hi), .int (nI xe), .int (nI co)]))] H := hP
          have hD : va_D A [(xo, .inr (6, [.ref xg, .int 2, .ref xp, .int pc, .ref xq, .int qc, .ref r1, .ref r2, .ref r3, .ref r4, .ref se, .int ts, .int hou, .int dr, .int su, .int br])), (xg, .inl (cg, 6, .inr (.inr (.inr (.inr (zq [some a0, some o_254, none, none, none, none])))))), (o_254, .inr (0, [.int (nI lo), .int (nI hi), .int (nI xe), .int (nI co)]))] := hD
          refine lv_aload_n hx hb dX6_glass_95 rfl (lv_at hl 0 rfl) ?_
          refine va_get (D := D) (cl := vwCl) (ci := 6) (v := .int 2) (C := RX6) (T := TX6) (N := 16) hx hb hts zuX6_glass_1_X6 hown hK hP 0 rfl rfl 1 (by decide) (hts (.fieldLink RX6 15 "Gatherhouse" "glassCount" "I") (by decide +kernel)) (fun _ h9 => h9) rfl dX6_glass_96 ?_
          refine lv_iconst (v := 1) hx hb dX6_glass_99 (by decide) ?_
          refine lv_isub hx hb dX6_glass_100 ?_
          refine lv_topi (fun y_258 ey_258 => ?_)
          have ey_258 : y_258 = 1 := ey_258.trans (by decide +kernel)
          subst ey_258
          refine vx_ret ?_
          exact W.iret (v := 1) hx hb hr (fun t ht hW => ⟨⟨1, (), rfl, rfl, ⟨o_254, q_RW_mk hP hK hD [0, 1, 2] [0] rfl rfl (by decide) rfl ht hW.alike⟩⟩, hS.F ht⟩) hS.2.2 dX6_glass_101
def wzEX6_glass_2 : List Cond := [.code yX6_glass cX6_glass 5 (some .int), .methodLink RX6 75 yX6_checkRange, .static yX6_checkRange, .initialized RX6, .code yX6_checkRange cX6_checkRange 3 none, .fieldLink RX6 15 "Gatherhouse" "glassCount" "I", .fieldLink RX6 11 "Gatherhouse" "glasses" "[LGatherhouse$Glass;", .classLink RX6 9 RX0, .instantiable RX0 4, .initialized RX0, .code yX0_init cX0_init 5 none, .methodLink RX0 3 objectInit, .instanceMethod objectInit, .code objectInit ⟨#[0xb1]⟩ 1 none, .fieldLink RX0 9 "Gatherhouse$Glass" "low" "I", .fieldLink RX0 15 "Gatherhouse$Glass" "high" "I", .fieldLink RX0 18 "Gatherhouse$Glass" "expansion" "I", .fieldLink RX0 21 "Gatherhouse$Glass" "colour" "I", .instanceMethod yX0_init]
def wzX6_glass_2 : List Cond := wzEX6_glass_2 ++ (u_ws RX6 TX6 16 ++ (u_ws RX0 TX0 4))
theorem zgEX6_glass_2 : wzEX6_glass_2.all goodWord = true := by decide +kernel
theorem zuX6_glass_2_X6 : ∀ w ∈ u_ws RX6 TX6 16, w ∈ wzX6_glass_2 := (fun _ h => (List.mem_append_right _ (List.mem_append_left _ h)))
theorem zuX6_glass_2_X0 : ∀ w ∈ u_ws RX0 TX0 4, w ∈ wzX6_glass_2 := (fun _ h => (List.mem_append_right _ (List.mem_append_right _ h)))
theorem gzX6_glass_2_X6_checkRange_ok_75 : GoodIn wzX6_glass_2 (va_wsS RX6 75 yX6_checkRange wzX6_checkRange_ok) := (goodIn_app (z_lift (goodIn_r _ [1, 2, 3] rfl (by decide +kernel))) (goodIn_app (z_lift (goodIn_r wzEX6_checkRange_ok [4] rfl zgEX6_checkRange_ok)) z_gnil))
theorem gzX6_glass_2_X0_init_86 : GoodIn wzX6_glass_2 (wzX0_init) := (goodIn_app (z_lift (goodIn_r wzEX0_init [10, 11, 12, 13, 14, 15, 16, 17] rfl zgEX0_init)) (goodIn_sub (fun _ h => (List.mem_append_right _ (List.mem_append_right _ h))) zgU_X0))
set_option maxHeartbeats 4000000 in
set_option maxRecDepth 100000 in
theorem zc_X6_glass_2 (l : Launch) (hnt : l.stackTraces = false) (D : va_G) (G : Nat × Nat × (Nat → Int32)) (xo : Nat) (lo : Nat) (hi : Nat) (xe : Nat) (co : Nat) (xg : Nat) (xp : Nat) (pc : Int32) (xq : Nat) (qc : Int32) (r1 : Nat) (r2 : Nat) (r3 : Nat) (r4 : Nat) (se : Nat) (ts : Int32) (hou : Int32) (dr : Int32) (su : Int32) (br : Int32) (cg : ClassId) (a0 : Nat) (a1 : Nat) (sz : Nat) (g1 : lo ≤ hi) (hl_lo : 600 ≤ lo) (hh_lo : lo ≤ 1100) (hl_hi : 600 ≤ hi) (hh_hi : hi ≤ 1100) (hl_xe : 50 ≤ xe) (hh_xe : xe ≤ 150) (hh_co : co ≤ 9) : vx_Met l yX6_glass wzX6_glass_2 ({ frames := 2, cells := 1, slots := 4, locals := 36 }) (va_Pc [.ref xo, .int (nI lo), .int (nI hi), .int (nI xe), .int (nI co)] (p_RW D G [(cg, .object "Gatherhouse$Glass")] [(xo, .inr (6, [.ref xg, .int 2, .ref xp, .int pc, .ref xq, .int qc, .ref r1, .ref r2, .ref r3, .ref r4, .ref se, .int ts, .int hou, .int dr, .int su, .int br])), (xg, .inl (cg, 6, .inr (.inr (.inr (.inr (zq [some a0, some a1, none, none, none, none]))))))] sz)) (va_Qi (fun (r : Int32) (u : Unit) => r = 2) (fun (u : Unit) (t : State) => ∃ (gn : Nat), q_RW D [(cg, .object "Gatherhouse$Glass")] [(xo, .inr (6, [.ref xg, .int 3, .ref xp, .int pc, .ref xq, .int qc, .ref r1, .ref r2, .ref r3, .ref r4, .ref se, .int ts, .int hou, .int dr, .int su, .int br])), (xg, .inl (cg, 6, .inr (.inr (.inr (.inr (zq [some a0, some a1, some gn, none, none, none])))))), (gn, .inr (0, [.int (nI lo), .int (nI hi), .int (nI xe), .int (nI co)]))] (va_A [(xo, .inr (6, [.ref xg, .int 2, .ref xp, .int pc, .ref xq, .int qc, .ref r1, .ref r2, .ref r3, .ref r4, .ref se, .int ts, .int hou, .int dr, .int su, .int br])), (xg, .inl (cg, 6, .inr (.inr (.inr (.inr (zq [some a0, some a1, none, none, none, none]))))))] sz) t) (va_A [(xo, .inr (6, [.ref xg, .int 2, .ref xp, .int pc, .ref xq, .int qc, .ref r1, .ref r2, .ref r3, .ref r4, .ref se, .int ts, .int hou, .int dr, .int su, .int br])), (xg, .inl (cg, 6, .inr (.inr (.inr (.inr (zq [some a0, some a1, none, none, none, none]))))))] sz)) (vx_X (fun (_ : Unit) => True) (fun E (_ : Unit) (_ : State) => False) (va_A [(xo, .inr (6, [.ref xg, .int 2, .ref xp, .int pc, .ref xq, .int qc, .ref r1, .ref r2, .ref r3, .ref r4, .ref se, .int ts, .int hou, .int dr, .int su, .int br])), (xg, .inl (cg, 6, .inr (.inr (.inr (.inr (zq [some a0, some a1, none, none, none, none]))))))] sz)) 1 4 (va_A [(xo, .inr (6, [.ref xg, .int 2, .ref xp, .int pc, .ref xq, .int qc, .ref r1, .ref r2, .ref r3, .ref r4, .ref se, .int ts, .int hou, .int dr, .int su, .int br])), (xg, .inl (cg, 6, .inr (.inr (.inr (.inr (zq [some a0, some a1, none, none, none, none]))))))] sz) := by
  refine vx_ofW (cc := cX6_glass) (maxL := 5) (ret := (some .int)) (by decide) rfl ?_
  intro p e s m args below meth c s₁ B hml hxt hv
  obtain ⟨rfl, hsz, hP, hK, hD0, hT, hZ⟩ := hv
  have hx := B.exec
  have hb := B.bytes
  have hr := B.returns
  have hts := atoms_spec (ws := wzX6_glass_2) B.pre
  have hown : s.vm.findClass RX6 = some m.cls := findClass_of_methodNamed B.named
  have hlocks := B.notSynchronized
  subst hsz
  have hD := hD0.self (sz := s.heap.size)
  generalize hAe : va_A [(xo, .inr (6, [.ref xg, .int 2, .ref xp, .int pc, .ref xq, .int qc, .ref r1, .ref r2, .ref r3, .ref r4, .ref se, .int ts, .int hou, .int dr, .int su, .int br])), (xg, .inl (cg, 6, .inr (.inr (.inr (.inr (zq [some a0, some a1, none, none, none, none]))))))] s.heap.size = A at hD hZ ⊢
  have hA : ∀ q : Nat, s.heap.size ≤ q → A q := fun q h => by rw [← hAe]; exact Or.inr h
  have hS : va_S A s.heap s.heap [] := va_S.rf
  have hl := lv_entry ([.ref xo, .int (nI lo), .int (nI hi), .int (nI xe), .int (nI co)]) (n := 5) (Nat.le_of_ble_eq_true rfl)
  rw [lg_entry_eq]
  generalize (lg_sl ([.ref xo, .int (nI lo), .int (nI hi), .int (nI xe), .int (nI co)]) ++ List.replicate (5 - (lg_sl ([.ref xo, .int (nI lo), .int (nI hi), .int (nI xe), .int (nI co)])).length) Slot.unset).toArray = ls at hl ⊢
  have hl : lv_has ls 5 [(0, .ref xo), (1, .int (nI lo)), (2, .int (nI hi)), (3, .int (nI xe)), (4, .int (nI co))] := hl
  refine lv_iload_n hx hb dX6_glass_0 rfl (lv_at hl 1 rfl) ?_
  refine lv_sipush (v := 600) hx hb dX6_glass_1 (by decide) ?_
  refine lv_sipush (v := 1100) hx hb dX6_glass_4 (by decide) ?_
  have hFc := va_free (wc := []) hD hS hA [] rfl
  refine vx_callv (vx_runS (As := [.int (nI lo), .int 600, .int 1100]) (rest := []) ⟨hx, hb, hml, hown, hts⟩ (zc_X6_checkRange_ok l hnt D G lo 600 1100 s.heap.size (by first | assumption | rfl | omega | exact Nat.le_trans (zS_le _ _ _) (by omega) | decide) (by first | assumption | rfl | omega | exact Nat.le_trans (zS_le _ _ _) (by omega) | decide) (by first | assumption | rfl | omega | exact Nat.le_trans (zS_le _ _ _) (by omega) | decide) (by first | assumption | rfl | omega | exact Nat.le_trans (zS_le _ _ _) (by omega) | decide) (by first | assumption | rfl | omega | exact Nat.le_trans (zS_le _ _ _) (by omega) | decide)) (cwS 3 hts gzX6_glass_2_X6_checkRange_ok_75 rfl rfl rfl (by decide +kernel) ⟨(Nat.le_of_ble_eq_true rfl), (Nat.le_of_ble_eq_true rfl)⟩) ⟨p_RW_blind, (p_RW_at (tc := []) (wc := []) hP hK hD hS hA hT hZ [] [] rfl rfl (by decide) rfl [.int (nI lo), .int 600, .int 1100])⟩ rfl rfl hl.1 rfl (lv_room (Nat.le_of_ble_eq_true rfl)) dX6_glass_7 ⟨(Nat.le_of_ble_eq_true rfl), (Nat.le_of_ble_eq_true rfl)⟩) hS (fun q _ h => hFc q h) hFc (fun q _ h => hFc q h) (fun E ce q9 u t H locs ht hvm hpx hBX hz1 hk1 hS hce hcv hcl => ?_) (fun u t H locs ht hvm w_260 hB hz1 hk1 hS => ?_)
  · exact (show False from hBX).elim
  · obtain ⟨hP, hD, hK⟩ := q_join (D := D) (wc := []) (wr := [(xo, .inr (6, [.ref xg, .int 2, .ref xp, .int pc, .ref xq, .int qc, .ref r1, .ref r2, .ref r3, .ref r4, .ref se, .int ts, .int hou, .int dr, .int su, .int br])), (xg, .inl (cg, 6, .inr (.inr (.inr (.inr (zq [some a0, some a1, none, none, none, none]))))))]) (w1 := []) (tyr := [(cg, .object "Gatherhouse$Glass")]) (ty1 := []) hP hD hK [] [0, 1] [0] rfl rfl (by decide) (by decide) rfl hFc hk1 ht hvm hB
    have hP : va_P D vwCl [(xo, .inr (6, [.ref xg, .int 2, .ref xp, .int pc, .ref xq, .int qc, .ref r1, .ref r2, .ref r3, .ref r4, .ref se, .int ts, .int hou, .int dr, .int su, .int br])), (xg, .inl (cg, 6, .inr (.inr (.inr (.inr (zq [some a0, some a1, none, none, none, none]))))))] H := hP
    have hD : va_D A [(xo, .inr (6, [.ref xg, .int 2, .ref xp, .int pc, .ref xq, .int qc, .ref r1, .ref r2, .ref r3, .ref r4, .ref se, .int ts, .int hou, .int dr, .int su, .int br])), (xg, .inl (cg, 6, .inr (.inr (.inr (.inr (zq [some a0, some a1, none, none, none, none]))))))] := hD
    have hK : va_K D vwCl [(cg, .object "Gatherhouse$Glass")] s := hK
    refine lv_iload_n hx hb dX6_glass_10 rfl (lv_at hl 2 rfl) ?_
    refine lv_iload_n hx hb dX6_glass_11 rfl (lv_at hl 1 rfl) ?_
    refine lv_sipush (v := 1100) hx hb dX6_glass_12 (by decide) ?_
    have hFc := va_free (wc := []) hD hS hA [] rfl
    refine vx_callv (vx_runS (As := [.int (nI hi), .int (nI lo), .int 1100]) (rest := []) ⟨hx, hb, hml, hown, hts⟩ (zc_X6_checkRange_ok l hnt D G hi lo 1100 H.size (by first | assumption | rfl | omega | exact Nat.le_trans (zS_le _ _ _) (by omega) | decide) (by first | assumption | rfl | omega | exact Nat.le_trans (zS_le _ _ _) (by omega) | decide) (by first | assumption | rfl | omega | exact Nat.le_trans (zS_le _ _ _) (by omega) | decide) (by first | assumption | rfl | omega | exact Nat.le_trans (zS_le _ _ _) (by omega) | decide) (by first | assumption | rfl | omega | exact Nat.le_trans (zS_le _ _ _) (by omega) | decide)) (cwS 3 hts gzX6_glass_2_X6_checkRange_ok_75 rfl rfl rfl (by decide +kernel) ⟨(Nat.le_of_ble_eq_true rfl), (Nat.le_of_ble_eq_true rfl)⟩) ⟨p_RW_blind, (p_RW_at (tc := []) (wc := []) hP hK hD hS hA hT hZ [] [] rfl rfl (by decide) rfl [.int (nI hi), .int (nI lo), .int 1100])⟩ rfl rfl hl.1 rfl (lv_room (Nat.le_of_ble_eq_true rfl)) dX6_glass_15 ⟨(Nat.le_of_ble_eq_true rfl), (Nat.le_of_ble_eq_true rfl)⟩) hS (fun q _ h => hFc q h) hFc (fun q _ h => hFc q h) (fun E ce q9 u t H locs ht hvm hpx hBX hz1 hk1 hS hce hcv hcl => ?_) (fun u t H locs ht hvm w_262 hB hz1 hk1 hS => ?_)
    · exact (show False from hBX).elim
    · obtain ⟨hP, hD, hK⟩ := q_join (D := D) (wc := []) (wr := [(xo, .inr (6, [.ref xg, .int 2, .ref xp, .int pc, .ref xq, .int qc, .ref r1, .ref r2, .ref r3, .ref r4, .ref se, .int ts, .int hou, .int dr, .int su, .int br])), (xg, .inl (cg, 6, .inr (.inr (.inr (.inr (zq [some a0, some a1, none, none, none, none]))))))]) (w1 := []) (tyr := [(cg, .object "Gatherhouse$Glass")]) (ty1 := []) hP hD hK [] [0, 1] [0] rfl rfl (by decide) (by decide) rfl hFc hk1 ht hvm hB
      have hP : va_P D vwCl [(xo, .inr (6, [.ref xg, .int 2, .ref xp, .int pc, .ref xq, .int qc, .ref r1, .ref r2, .ref r3, .ref r4, .ref se, .int ts, .int hou, .int dr, .int su, .int br])), (xg, .inl (cg, 6, .inr (.inr (.inr (.inr (zq [some a0, some a1, none, none, none, none]))))))] H := hP
      have hD : va_D A [(xo, .inr (6, [.ref xg, .int 2, .ref xp, .int pc, .ref xq, .int qc, .ref r1, .ref r2, .ref r3, .ref r4, .ref se, .int ts, .int hou, .int dr, .int su, .int br])), (xg, .inl (cg, 6, .inr (.inr (.inr (.inr (zq [some a0, some a1, none, none, none, none]))))))] := hD
      have hK : va_K D vwCl [(cg, .object "Gatherhouse$Glass")] s := hK
      refine lv_iload_n hx hb dX6_glass_18 rfl (lv_at hl 3 rfl) ?_
      refine lv_bipush (v := 50) hx hb dX6_glass_19 (by decide) ?_
      refine lv_sipush (v := 150) hx hb dX6_glass_21 (by decide) ?_
      have hFc := va_free (wc := []) hD hS hA [] rfl
      refine vx_callv (vx_runS (As := [.int (nI xe), .int 50, .int 150]) (rest := []) ⟨hx, hb, hml, hown, hts⟩ (zc_X6_checkRange_ok l hnt D G xe 50 150 H.size (by first | assumption | rfl | omega | exact Nat.le_trans (zS_le _ _ _) (by omega) | decide) (by first | assumption | rfl | omega | exact Nat.le_trans (zS_le _ _ _) (by omega) | decide) (by first | assumption | rfl | omega | exact Nat.le_trans (zS_le _ _ _) (by omega) | decide) (by first | assumption | rfl | omega | exact Nat.le_trans (zS_le _ _ _) (by omega) | decide) (by first | assumption | rfl | omega | exact Nat.le_trans (zS_le _ _ _) (by omega) | decide)) (cwS 3 hts gzX6_glass_2_X6_checkRange_ok_75 rfl rfl rfl (by decide +kernel) ⟨(Nat.le_of_ble_eq_true rfl), (Nat.le_of_ble_eq_true rfl)⟩) ⟨p_RW_blind, (p_RW_at (tc := []) (wc := []) hP hK hD hS hA hT hZ [] [] rfl rfl (by decide) rfl [.int (nI xe), .int 50, .int 150])⟩ rfl rfl hl.1 rfl (lv_room (Nat.le_of_ble_eq_true rfl)) dX6_glass_24 ⟨(Nat.le_of_ble_eq_true rfl), (Nat.le_of_ble_eq_true rfl)⟩) hS (fun q _ h => hFc q h) hFc (fun q _ h => hFc q h) (fun E ce q9 u t H locs ht hvm hpx hBX hz1 hk1 hS hce hcv hcl => ?_) (fun u t H locs ht hvm w_264 hB hz1 hk1 hS => ?_)
      · exact (show False from hBX).elim
      · obtain ⟨hP, hD, hK⟩ := q_join (D := D) (wc := []) (wr := [(xo, .inr (6, [.ref xg, .int 2, .ref xp, .int pc, .ref xq, .int qc, .ref r1, .ref r2, .ref r3, .ref r4, .ref se, .int ts, .int hou, .int dr, .int su, .int br])), (xg, .inl (cg, 6, .inr (.inr (.inr (.inr (zq [some a0, some a1, none, none, none, none]))))))]) (w1 := []) (tyr := [(cg, .object "Gatherhouse$Glass")]) (ty1 := []) hP hD hK [] [0, 1] [0] rfl rfl (by decide) (by decide) rfl hFc hk1 ht hvm hB
        have hP : va_P D vwCl [(xo, .inr (6, [.ref xg, .int 2, .ref xp, .int pc, .ref xq, .int qc, .ref r1, .ref r2, .ref r3, .ref r4, .ref se, .int ts, .int hou, .int dr, .int su, .int br])), (xg, .inl (cg, 6, .inr (.inr (.inr (.inr (zq [some a0, some a1, none, none, none, none]))))))] H := hP
        have hD : va_D A [(xo, .inr (6, [.ref xg, .int 2, .ref xp, .int pc, .ref xq, .int qc, .ref r1, .ref r2, .ref r3, .ref r4, .ref se, .int ts, .int hou, .int dr, .int su, .int br])), (xg, .inl (cg, 6, .inr (.inr (.inr (.inr (zq [some a0, some a1, none, none, none, none]))))))] := hD
        have hK : va_K D vwCl [(cg, .object "Gatherhouse$Glass")] s := hK
        refine lv_iload hx hb dX6_glass_27 (lv_at hl 4 rfl) ?_
        refine lv_iconst (v := 0) hx hb dX6_glass_29 (by decide) ?_
        refine lv_bipush (v := 9) hx hb dX6_glass_30 (by decide) ?_
        have hFc := va_free (wc := []) hD hS hA [] rfl
        refine vx_callv (vx_runS (As := [.int (nI co), .int 0, .int 9]) (rest := []) ⟨hx, hb, hml, hown, hts⟩ (zc_X6_checkRange_ok l hnt D G co 0 9 H.size (by first | assumption | rfl | omega | exact Nat.le_trans (zS_le _ _ _) (by omega) | decide) (by first | assumption | rfl | omega | exact Nat.le_trans (zS_le _ _ _) (by omega) | decide) (by first | assumption | rfl | omega | exact Nat.le_trans (zS_le _ _ _) (by omega) | decide) (by first | assumption | rfl | omega | exact Nat.le_trans (zS_le _ _ _) (by omega) | decide) (by first | assumption | rfl | omega | exact Nat.le_trans (zS_le _ _ _) (by omega) | decide)) (cwS 3 hts gzX6_glass_2_X6_checkRange_ok_75 rfl rfl rfl (by decide +kernel) ⟨(Nat.le_of_ble_eq_true rfl), (Nat.le_of_ble_eq_true rfl)⟩) ⟨p_RW_blind, (p_RW_at (tc := []) (wc := []) hP hK hD hS hA hT hZ [] [] rfl rfl (by decide) rfl [.int (nI co), .int 0, .int 9])⟩ rfl rfl hl.1 rfl (lv_room (Nat.le_of_ble_eq_true rfl)) dX6_glass_32 ⟨(Nat.le_of_ble_eq_true rfl), (Nat.le_of_ble_eq_true rfl)⟩) hS (fun q _ h => hFc q h) hFc (fun q _ h => hFc q h) (fun E ce q9 u t H locs ht hvm hpx hBX hz1 hk1 hS hce hcv hcl => ?_) (fun u t H locs ht hvm w_266 hB hz1 hk1 hS => ?_)
        · exact (show False from hBX).elim
        · obtain ⟨hP, hD, hK⟩ := q_join (D := D) (wc := []) (wr := [(xo, .inr (6, [.ref xg, .int 2, .ref xp, .int pc, .ref xq, .int qc, .ref r1, .ref r2, .ref r3, .ref r4, .ref se, .int ts, .int hou, .int dr, .int su, .int br])), (xg, .inl (cg, 6, .inr (.inr (.inr (.inr (zq [some a0, some a1, none, none, none, none]))))))]) (w1 := []) (tyr := [(cg, .object "Gatherhouse$Glass")]) (ty1 := []) hP hD hK [] [0, 1] [0] rfl rfl (by decide) (by decide) rfl hFc hk1 ht hvm hB
          have hP : va_P D vwCl [(xo, .inr (6, [.ref xg, .int 2, .ref xp, .int pc, .ref xq, .int qc, .ref r1, .ref r2, .ref r3, .ref r4, .ref se, .int ts, .int hou, .int dr, .int su, .int br])), (xg, .inl (cg, 6, .inr (.inr (.inr (.inr (zq [some a0, some a1, none, none, none, none]))))))] H := hP
          have hD : va_D A [(xo, .inr (6, [.ref xg, .int 2, .ref xp, .int pc, .ref xq, .int qc, .ref r1, .ref r2, .ref r3, .ref r4, .ref se, .int ts, .int hou, .int dr, .int su, .int br])), (xg, .inl (cg, 6, .inr (.inr (.inr (.inr (zq [some a0, some a1, none, none, none, none]))))))] := hD
          have hK : va_K D vwCl [(cg, .object "Gatherhouse$Glass")] s := hK
          refine lv_aload_n hx hb dX6_glass_35 rfl (lv_at hl 0 rfl) ?_
          refine va_get (D := D) (cl := vwCl) (ci := 6) (v := .int 2) (C := RX6) (T := TX6) (N := 16) hx hb hts zuX6_glass_2_X6 hown hK hP 0 rfl rfl 1 (by decide) (hts (.fieldLink RX6 15 "Gatherhouse" "glassCount" "I") (by decide +kernel)) (fun _ h9 => h9) rfl dX6_glass_36 ?_
          refine lv_if_lt (tgt := 54) hx hb dX6_glass_39 (by decide) (fun cc => absurd cc (by decide)) (fun _ => ?_)
          refine lv_aload_n hx hb dX6_glass_42 rfl (lv_at hl 0 rfl) ?_
          refine va_get (D := D) (cl := vwCl) (ci := 6) (v := .int 2) (C := RX6) (T := TX6) (N := 16) hx hb hts zuX6_glass_2_X6 hown hK hP 0 rfl rfl 1 (by decide) (hts (.fieldLink RX6 15 "Gatherhouse" "glassCount" "I") (by decide +kernel)) (fun _ h9 => h9) rfl dX6_glass_43 ?_
          refine lv_aload_n hx hb dX6_glass_46 rfl (lv_at hl 0 rfl) ?_
          refine va_get (D := D) (cl := vwCl) (ci := 6) (v := .ref xg) (C := RX6) (T := TX6) (N := 16) hx hb hts zuX6_glass_2_X6 hown hK hP 0 rfl rfl 0 (by decide) (hts (.fieldLink RX6 11 "Gatherhouse" "glasses" "[LGatherhouse$Glass;") (by decide +kernel)) (fun _ h9 => h9) rfl dX6_glass_47 ?_
          refine va_alen (D := D) (cl := vwCl) (v := 6) hx hb hK hP 1 0 rfl rfl rfl dX6_glass_50 ?_
          refine lv_icmp_lt (tgt := 64) hx hb dX6_glass_51 (by decide) (fun _ => ?_) (fun cc => absurd (by decide) cc)
          refine lv_aload_n hx hb dX6_glass_64 rfl (lv_at hl 0 rfl) ?_
          refine va_get (D := D) (cl := vwCl) (ci := 6) (v := .ref xg) (C := RX6) (T := TX6) (N := 16) hx hb hts zuX6_glass_2_X6 hown hK hP 0 rfl rfl 0 (by decide) (hts (.fieldLink RX6 11 "Gatherhouse" "glasses" "[LGatherhouse$Glass;") (by decide +kernel)) (fun _ h9 => h9) rfl dX6_glass_65 ?_
          refine lv_aload_n hx hb dX6_glass_68 rfl (lv_at hl 0 rfl) ?_
          refine va_get (D := D) (cl := vwCl) (ci := 6) (v := .int 2) (C := RX6) (T := TX6) (N := 16) hx hb hts zuX6_glass_2_X6 hown hK hP 0 rfl rfl 1 (by decide) (hts (.fieldLink RX6 15 "Gatherhouse" "glassCount" "I") (by decide +kernel)) (fun _ h9 => h9) rfl dX6_glass_69 ?_
          refine va_new (D := D) (cl := vwCl) (ci := 0) (fs := [.int 0, .int 0, .int 0, .int 0]) (C := RX0) (T := TX0) (N := 4) hx hb hts zuX6_glass_2_X0 tyX0 tyX0_ok hown (hts (.classLink RX6 9 RX0) (by decide +kernel)) (hts (.instantiable RX0 4) (by decide +kernel)) (hts (.initialized RX0) (by decide +kernel)) hK hP hD hS hA rfl (fun j hj => by rcases (show j = 0 ∨ j = 1 ∨ j = 2 ∨ j = 3 by omega) with rfl | rfl | rfl | rfl <;> rfl) (Nat.le_of_ble_eq_true rfl) (Nat.le_of_ble_eq_true rfl) dX6_glass_72 (fun o_267 H hP hD hS => ?_)
          have hP : va_P D vwCl [(xo, .inr (6, [.ref xg, .int 2, .ref xp, .int pc, .ref xq, .int qc, .ref r1, .ref r2, .ref r3, .ref r4, .ref se, .int ts, .int hou, .int dr, .int su, .int br])), (xg, .inl (cg, 6, .inr (.inr (.inr (.inr (zq [some a0, some a1, none, none, none, none])))))), (o_267, .inr (0, [.int 0, .int 0, .int 0, .int 0]))] H := hP
          have hD : va_D A [(xo, .inr (6, [.ref xg, .int 2, .ref xp, .int pc, .ref xq, .int qc, .ref r1, .ref r2, .ref r3, .ref r4, .ref se, .int ts, .int hou, .int dr, .int su, .int br])), (xg, .inl (cg, 6, .inr (.inr (.inr (.inr (zq [some a0, some a1, none, none, none, none])))))), (o_267, .inr (0, [.int 0, .int 0, .int 0, .int 0]))] := hD
          refine W.widen (k := 1) (n := 4) (Nat.le_of_ble_eq_true rfl) (Nat.le_of_ble_eq_true rfl) ?_
          refine lv_dup hx hb dX6_glass_75 rfl ?_
          refine lv_iload_n hx hb dX6_glass_76 rfl (lv_at hl 1 rfl) ?_
          refine lv_iload_n hx hb dX6_glass_77 rfl (lv_at hl 2 rfl) ?_
          refine lv_iload_n hx hb dX6_glass_78 rfl (lv_at hl 3 rfl) ?_
          refine lv_iload hx hb dX6_glass_79 (lv_at hl 4 rfl) ?_
          have hFc := va_free (wc := [(o_267, .inr (0, [.int 0, .int 0, .int 0, .int 0]))]) hD hS hA [2] rfl
          refine va_callv (va_runIN (As := [.int (nI lo), .int (nI hi), .int (nI xe), .int (nI co)]) (rest := [.ref o_267, .int 2, .ref xg]) ⟨hx, hb, hml, hown, hts⟩ (zc_X0_init l D G o_267 (nI lo) (nI hi) (nI xe) (nI co) H.size) ⟨va_cnB 4 hts gzX6_glass_2_X0_init_86 rfl rfl rfl (hT.1 ("Gatherhouse", 86, ⟨"Gatherhouse$Glass", "<init>", "(IIII)V"⟩, "Gatherhouse") (by decide +kernel)) (hts (.initialized RX0) (by decide +kernel)) (by decide +kernel) ⟨(Nat.le_of_ble_eq_true rfl), (Nat.le_of_ble_eq_true rfl)⟩, rfl, (hts (.instanceMethod yX0_init) (by decide +kernel))⟩ ⟨p_RW_blind, (p_RW_at (tc := []) (wc := [(o_267, .inr (0, [.int 0, .int 0, .int 0, .int 0]))]) hP hK hD hS hA hT hZ [2] [] rfl rfl (by decide) rfl [.ref o_267, .int (nI lo), .int (nI hi), .int (nI xe), .int (nI co)])⟩ rfl rfl hl.1 rfl (lv_room (Nat.le_of_ble_eq_true rfl)) dX6_glass_81 ⟨(Nat.le_of_ble_eq_true rfl), (Nat.le_of_ble_eq_true rfl)⟩) hS (fun q _ h => hFc q h) hFc (fun u t H locs ht hvm w_269 hB hz1 hk1 hS => ?_)
          obtain ⟨hP, hD, hK⟩ := q_join (D := D) (wc := [(o_267, .inr (0, [.int 0, .int 0, .int 0, .int 0]))]) (wr := [(xo, .inr (6, [.ref xg, .int 2, .ref xp, .int pc, .ref xq, .int qc, .ref r1, .ref r2, .ref r3, .ref r4, .ref se, .int ts, .int hou, .int dr, .int su, .int br])), (xg, .inl (cg, 6, .inr (.inr (.inr (.inr (zq [some a0, some a1, none, none, none, none]))))))]) (w1 := [(o_267, .inr (0, [.int (nI lo), .int (nI hi), .int (nI xe), .int (nI co)]))]) (tyr := [(cg, .object "Gatherhouse$Glass")]) (ty1 := []) hP hD hK [2] [0, 1] [0] rfl rfl (by decide) (by decide) rfl hFc hk1 ht hvm hB
          have hP : va_P D vwCl [(xo, .inr (6, [.ref xg, .int 2, .ref xp, .int pc, .ref xq, .int qc, .ref r1, .ref r2, .ref r3, .ref r4, .ref se, .int ts, .int hou, .int dr, .int su, .int br])), (xg, .inl (cg, 6, .inr (.inr (.inr (.inr (zq [some a0, some a1, none, none, none, none])))))), (o_267, .inr (0, [.int (nI lo), .int (nI hi), .int (nI xe), .int (nI co)]))] H := hP
          have hD : va_D A [(xo, .inr (6, [.ref xg, .int 2, .ref xp, .int pc, .ref xq, .int qc, .ref r1, .ref r2, .ref r3, .ref r4, .ref se, .int ts, .int hou, .int dr, .int su, .int br])), (xg, .inl (cg, 6, .inr (.inr (.inr (.inr (zq [some a0, some a1, none, none, none, none])))))), (o_267, .inr (0, [.int (nI lo), .int (nI hi), .int (nI xe), .int (nI co)]))] := hD
          have hK : va_K D vwCl [(cg, .object "Gatherhouse$Glass")] s := hK
          refine va_astq (D := D) (cl := vwCl) hx hb hK hP hD hS 1 0 2 0 rfl rfl rfl rfl (vp_in_nI (n := 2) (N := 6) (by decide) (by decide)) dX6_glass_84 (fun H locs hP hD hS => ?_)
          have hP : va_P D vwCl [(xo, .inr (6, [.ref xg, .int 2, .ref xp, .int pc, .ref xq, .int qc, .ref r1, .ref r2, .ref r3, .ref r4, .ref se, .int ts, .int hou, .int dr, .int su, .int br])), (xg, .inl (cg, 6, .inr (.inr (.inr (.inr (zq [some a0, some a1, some o_267, none, none, none])))))), (o_267, .inr (0, [.int (nI lo), .int (nI hi), .int (nI xe), .int (nI co)]))] H := by have h9 := hP; rw [zq_upd (i := 2) (l := [some a0, some a1, none, none, none, none]) (x := some o_267) (k := 2) (l' := [some a0, some a1, some o_267, none, none, none]) (by decide +kernel) (Nat.lt_of_lt_of_eq (by decide : 2 < 6) rfl) rfl] at h9; exact h9
          have hD : va_D A [(xo, .inr (6, [.ref xg, .int 2, .ref xp, .int pc, .ref xq, .int qc, .ref r1, .ref r2, .ref r3, .ref r4, .ref se, .int ts, .int hou, .int dr, .int su, .int br])), (xg, .inl (cg, 6, .inr (.inr (.inr (.inr (zq [some a0, some a1, some o_267, none, none, none])))))), (o_267, .inr (0, [.int (nI lo), .int (nI hi), .int (nI xe), .int (nI co)]))] := by have h9 := hD; rw [zq_upd (i := 2) (l := [some a0, some a1, none, none, none, none]) (x := some o_267) (k := 2) (l' := [some a0, some a1, some o_267, none, none, none]) (by decide +kernel) (Nat.lt_of_lt_of_eq (by decide : 2 < 6) rfl) rfl] at h9; exact h9
          refine lv_aload_n hx hb dX6_glass_85 rfl (lv_at hl 0 rfl) ?_
          refine lv_dup hx hb dX6_glass_86 rfl ?_
          refine va_get (D := D) (cl := vwCl) (ci := 6) (v := .int 2) (C := RX6) (T := TX6) (N := 16) hx hb hts zuX6_glass_2_X6 hown hK hP 0 rfl rfl 1 (by decide) (hts (.fieldLink RX6 15 "Gatherhouse" "glassCount" "I") (by decide +kernel)) (fun _ h9 => h9) rfl dX6_glass_87 ?_
          refine lv_iconst (v := 1) hx hb dX6_glass_90 (by decide) ?_
          refine lv_iadd hx hb dX6_glass_91 ?_
          refine lv_topi (fun y_270 ey_270 => ?_)
          have ey_270 : y_270 = 3 := ey_270.trans (by decide +kernel)
          subst ey_270
          refine va_put (D := D) (cl := vwCl) (ci := 6) (v := .int 3) (ty := .int) (C := RX6) (T := TX6) (N := 16) hx hb hts zuX6_glass_2_X6 tyX6 tyX6_ok nmX6 hown hK hP hD hS 0 rfl rfl 1 (by decide) (hts (.fieldLink RX6 15 "Gatherhouse" "glassCount" "I") (by decide +kernel)) (fun _ h9 => h9) rfl (by decide +kernel) rfl rfl (Nat.le_of_ble_eq_true rfl) dX6_glass_92 (fun H locs hP hD hS => ?_)
          have hP : va_P D vwCl [(xo, .inr (6, [.ref xg, .int 3, .ref xp, .int pc, .ref xq, .int qc, .ref r1, .ref r2, .ref r3, .ref r4, .ref se, .int ts, .int hou, .int dr, .int su, .int br])), (xg, .inl (cg, 6, .inr (.inr (.inr (.inr (zq [some a0, some a1, some o_267, none, none, none])))))), (o_267, .inr (0, [.int (nI lo), .int (nI hi), .int (nI xe), .int (nI co)]))] H := hP
          have hD : va_D A [(xo, .inr (6, [.ref xg, .int 3, .ref xp, .int pc, .ref xq, .int qc, .ref r1, .ref r2, .ref r3, .ref r4, .ref se, .int ts, .int hou, .int dr, .int su, .int br])), (xg, .inl (cg, 6, .inr (.inr (.inr (.inr (zq [some a0, some a1, some o_267, none, none, none])))))), (o_267, .inr (0, [.int (nI lo), .int (nI hi), .int (nI xe), .int (nI co)]))] := hD
          refine lv_aload_n hx hb dX6_glass_95 rfl (lv_at hl 0 rfl) ?_
          refine va_get (D := D) (cl := vwCl) (ci := 6) (v := .int 3) (C := RX6) (T := TX6) (N := 16) hx hb hts zuX6_glass_2_X6 hown hK hP 0 rfl rfl 1 (by decide) (hts (.fieldLink RX6 15 "Gatherhouse" "glassCount" "I") (by decide +kernel)) (fun _ h9 => h9) rfl dX6_glass_96 ?_
          refine lv_iconst (v := 1) hx hb dX6_glass_99 (by decide) ?_
          refine lv_isub hx hb dX6_glass_100 ?_
          refine lv_topi (fun y_271 ey_271 => ?_)
          have ey_271 : y_271 = 2 := ey_271.trans (by decide +kernel)
          subst ey_271
          refine vx_ret ?_
          exact W.iret (v := 2) hx hb hr (fun t ht hW => ⟨⟨2, (), rfl, rfl, ⟨o_267, q_RW_mk hP hK hD [0, 1, 2] [0] rfl rfl (by decide) rfl ht hW.alike⟩⟩, hS.F ht⟩) hS.2.2 dX6_glass_101
def wzEX6_glass_3 : List Cond := [.code yX6_glass cX6_glass 5 (some .int), .methodLink RX6 75 yX6_checkRange, .static yX6_checkRange, .initialized RX6, .code yX6_checkRange cX6_checkRange 3 none, .fieldLink RX6 15 "Gatherhouse" "glassCount" "I", .fieldLink RX6 11 "Gatherhouse" "glasses" "[LGatherhouse$Glass;", .classLink RX6 9 RX0, .instantiable RX0 4, .initialized RX0, .code yX0_init cX0_init 5 none, .methodLink RX0 3 objectInit, .instanceMethod objectInit, .code objectInit ⟨#[0xb1]⟩ 1 none, .fieldLink RX0 9 "Gatherhouse$Glass" "low" "I", .fieldLink RX0 15 "Gatherhouse$Glass" "high" "I", .fieldLink RX0 18 "Gatherhouse$Glass" "expansion" "I", .fieldLink RX0 21 "Gatherhouse$Glass" "colour" "I", .instanceMethod yX0_init]
def wzX6_glass_3 : List Cond := wzEX6_glass_3 ++ (u_ws RX6 TX6 16 ++ (u_ws RX0 TX0 4))
theorem zgEX6_glass_3 : wzEX6_glass_3.all goodWord = true := by decide +kernel
theorem zuX6_glass_3_X6 : ∀ w ∈ u_ws RX6 TX6 16, w ∈ wzX6_glass_3 := (fun _ h => (List.mem_append_right _ (List.mem_append_left _ h)))
theorem zuX6_glass_3_X0 : ∀ w ∈ u_ws RX0 TX0 4, w ∈ wzX6_glass_3 := (fun _ h => (List.mem_append_right _ (List.mem_append_right _ h)))
theorem gzX6_glass_3_X6_checkRange_ok_75 : GoodIn wzX6_glass_3 (va_wsS RX6 75 yX6_checkRange wzX6_checkRange_ok) := (goodIn_app (z_lift (goodIn_r _ [1, 2, 3] rfl (by decide +kernel))) (goodIn_app (z_lift (goodIn_r wzEX6_checkRange_ok [4] rfl zgEX6_checkRange_ok)) z_gnil))
theorem gzX6_glass_3_X0_init_86 : GoodIn wzX6_glass_3 (wzX0_init) := (goodIn_app (z_lift (goodIn_r wzEX0_init [10, 11, 12, 13, 14, 15, 16, 17] rfl zgEX0_init)) (goodIn_sub (fun _ h => (List.mem_append_right _ (List.mem_append_right _ h))) zgU_X0))
set_option maxHeartbeats 4000000 in
set_option maxRecDepth 100000 in
theorem zc_X6_glass_3 (l : Launch) (hnt : l.stackTraces = false) (D : va_G) (G : Nat × Nat × (Nat → Int32)) (xo : Nat) (lo : Nat) (hi : Nat) (xe : Nat) (co : Nat) (xg : Nat) (xp : Nat) (pc : Int32) (xq : Nat) (qc : Int32) (r1 : Nat) (r2 : Nat) (r3 : Nat) (r4 : Nat) (se : Nat) (ts : Int32) (hou : Int32) (dr : Int32) (su : Int32) (br : Int32) (cg : ClassId) (a0 : Nat) (a1 : Nat) (a2 : Nat) (sz : Nat) (g1 : lo ≤ hi) (hl_lo : 600 ≤ lo) (hh_lo : lo ≤ 1100) (hl_hi : 600 ≤ hi) (hh_hi : hi ≤ 1100) (hl_xe : 50 ≤ xe) (hh_xe : xe ≤ 150) (hh_co : co ≤ 9) : vx_Met l yX6_glass wzX6_glass_3 ({ frames := 2, cells := 1, slots := 4, locals := 36 }) (va_Pc [.ref xo, .int (nI lo), .int (nI hi), .int (nI xe), .int (nI co)] (p_RW D G [(cg, .object "Gatherhouse$Glass")] [(xo, .inr (6, [.ref xg, .int 3, .ref xp, .int pc, .ref xq, .int qc, .ref r1, .ref r2, .ref r3, .ref r4, .ref se, .int ts, .int hou, .int dr, .int su, .int br])), (xg, .inl (cg, 6, .inr (.inr (.inr (.inr (zq [some a0, some a1, some a2, none, none, none]))))))] sz)) (va_Qi (fun (r : Int32) (u : Unit) => r = 3) (fun (u : Unit) (t : State) => ∃ (gn : Nat), q_RW D [(cg, .object "Gatherhouse$Glass")] [(xo, .inr (6, [.ref xg, .int 4, .ref xp, .int pc, .ref xq, .int qc, .ref r1, .ref r2, .ref r3, .ref r4, .ref se, .int ts, .int hou, .int dr, .int su, .int br])), (xg, .inl (cg, 6, .inr (.inr (.inr (.inr (zq [some a0, some a1, some a2, some gn, none, none])))))), (gn, .inr (0, [.int (nI lo), .int (nI hi), .int (nI xe), .int (nI co)]))] (va_A [(xo, .inr (6, [.ref xg, .int 3, .ref xp, .int pc, .ref xq, .int qc, .ref r1, .ref r2, .ref r3, .ref r4, .ref se, .int ts, .int hou, .int dr, .int su, .int br])), (xg, .inl (cg, 6, .inr (.inr (.inr (.inr (zq [some a0, some a1, some a2, none, none, none]))))))] sz) t) (va_A [(xo, .inr (6, [.ref xg, .int 3, .ref xp, .int pc, .ref xq, .int qc, .ref r1, .ref r2, .ref r3, .ref r4, .ref se, .int ts, .int hou, .int dr, .int su, .int br])), (xg, .inl (cg, 6, .inr (.inr (.inr (.inr (zq [some a0, some a1, some a2, none, none, none]))))))] sz)) (vx_X (fun (_ : Unit) => True) (fun E (_ : Unit) (_ : State) => False) (va_A [(xo, .inr (6, [.ref xg, .int 3, .ref xp, .int pc, .ref xq, .int qc, .ref r1, .ref r2, .ref r3, .ref r4, .ref se, .int ts, .int hou, .int dr, .int su, .int br])), (xg, .inl (cg, 6, .inr (.inr (.inr (.inr (zq [some a0, some a1, some a2, none, none, none]))))))] sz)) 1 4 (va_A [(xo, .inr (6, [.ref xg, .int 3, .ref xp, .int pc, .ref xq, .int qc, .ref r1, .ref r2, .ref r3, .ref r4, .ref se, .int ts, .int hou, .int dr, .int su, .int br])), (xg, .inl (cg, 6, .inr (.inr (.inr (.inr (zq [some a0, some a1, some a2, none, none, none]))))))] sz) := by
  refine vx_ofW (cc := cX6_glass) (maxL := 5) (ret := (some .int)) (by decide) rfl ?_
  intro p e s m args below meth c s₁ B hml hxt hv
  obtain ⟨rfl, hsz, hP, hK, hD0, hT, hZ⟩ := hv
  have hx := B.exec
  have hb := B.bytes
  have hr := B.returns
  have hts := atoms_spec (ws := wzX6_glass_3) B.pre
  have hown : s.vm.findClass RX6 = some m.cls := findClass_of_methodNamed B.named
  have hlocks := B.notSynchronized
  subst hsz
  have hD := hD0.self (sz := s.heap.size)
  generalize hAe : va_A [(xo, .inr (6, [.ref xg, .int 3, .ref xp, .int pc, .ref xq, .int qc, .ref r1, .ref r2, .ref r3, .ref r4, .ref se, .int ts, .int hou, .int dr, .int su, .int br])), (xg, .inl (cg, 6, .inr (.inr (.inr (.inr (zq [some a0, some a1, some a2, none, none, none]))))))] s.heap.size = A at hD hZ ⊢
  have hA : ∀ q : Nat, s.heap.size ≤ q → A q := fun q h => by rw [← hAe]; exact Or.inr h
  have hS : va_S A s.heap s.heap [] := va_S.rf
  have hl := lv_entry ([.ref xo, .int (nI lo), .int (nI hi), .int (nI xe), .int (nI co)]) (n := 5) (Nat.le_of_ble_eq_true rfl)
  rw [lg_entry_eq]
  generalize (lg_sl ([.ref xo, .int (nI lo), .int (nI hi), .int (nI xe), .int (nI co)]) ++ List.replicate (5 - (lg_sl ([.ref xo, .int (nI lo), .int (nI hi), .int (nI xe), .int (nI co)])).length) Slot.unset).toArray = ls at hl ⊢
  have hl : lv_has ls 5 [(0, .ref xo), (1, .int (nI lo)), (2, .int (nI hi)), (3, .int (nI xe)), (4, .int (nI co))] := hl
  refine lv_iload_n hx hb dX6_glass_0 rfl (lv_at hl 1 rfl) ?_
  refine lv_sipush (v := 600) hx hb dX6_glass_1 (by decide) ?_
  refine lv_sipush (v := 1100) hx hb dX6_glass_4 (by decide) ?_
  have hFc := va_free (wc := []) hD hS hA [] rfl
  refine vx_callv (vx_runS (As := [.int (nI lo), .int 600, .int 1100]) (rest := []) ⟨hx, hb, hml, hown, hts⟩ (zc_X6_checkRange_ok l hnt D G lo 600 1100 s.heap.size (by first | assumption | rfl | omega | exact Nat.le_trans (zS_le _ _ _) (by omega) | decide) (by first | assumption | rfl | omega | exact Nat.le_trans (zS_le _ _ _) (by omega) | decide) (by first | assumption | rfl | omega | exact Nat.le_trans (zS_le _ _ _) (by omega) | decide) (by first | assumption | rfl | omega | exact Nat.le_trans (zS_le _ _ _) (by omega) | decide) (by first | assumption | rfl | omega | exact Nat.le_trans (zS_le _ _ _) (by omega) | decide)) (cwS 3 hts gzX6_glass_3_X6_checkRange_ok_75 rfl rfl rfl (by decide +kernel) ⟨(Nat.le_of_ble_eq_true rfl), (Nat.le_of_ble_eq_true rfl)⟩) ⟨p_RW_blind, (p_RW_at (tc := []) (wc := []) hP hK hD hS hA hT hZ [] [] rfl rfl (by decide) rfl [.int (nI lo), .int 600, .int 1100])⟩ rfl rfl hl.1 rfl (lv_room (Nat.le_of_ble_eq_true rfl)) dX6_glass_7 ⟨(Nat.le_of_ble_eq_true rfl), (Nat.le_of_ble_eq_true rfl)⟩) hS (fun q _ h => hFc q h) hFc (fun q _ h => hFc q h) (fun E ce q9 u t H locs ht hvm hpx hBX hz1 hk1 hS hce hcv hcl => ?_) (fun u t H locs ht hvm w_273 hB hz1 hk1 hS => ?_)
  · exact (show False from hBX).elim
  · obtain ⟨hP, hD, hK⟩ := q_join (D := D) (wc := []) (wr := [(xo, .inr (6, [.ref xg, .int 3, .ref xp, .int pc, .ref xq, .int qc, .ref r1, .ref r2, .ref r3, .ref r4, .ref se, .int ts, .int hou, .int dr, .int su, .int br])), (xg, .inl (cg, 6, .inr (.inr (.inr (.inr (zq [some a0, some a1, some a2, none, none, none]))))))]) (w1 := []) (tyr := [(cg, .object "Gatherhouse$Glass")]) (ty1 := []) hP hD hK [] [0, 1] [0] rfl rfl (by decide) (by decide) rfl hFc hk1 ht hvm hB
    have hP : va_P D vwCl [(xo, .inr (6, [.ref xg, .int 3, .ref xp, .int pc, .ref xq, .int qc, .ref r1, .ref r2, .ref r3, .ref r4, .ref se, .int ts, .int hou, .int dr, .int su, .int br])), (xg, .inl (cg, 6, .inr (.inr (.inr (.inr (zq [some a0, some a1, some a2, none, none, none]))))))] H := hP
    have hD : va_D A [(xo, .inr (6, [.ref xg, .int 3, .ref xp, .int pc, .ref xq, .int qc, .ref r1, .ref r2, .ref r3, .ref r4, .ref se, .int ts, .int hou, .int dr, .int su, .int br])), (xg, .inl (cg, 6, .inr (.inr (.inr (.inr (zq [some a0, some a1, some a2, none, none, none]))))))] := hD
    have hK : va_K D vwCl [(cg, .object "Gatherhouse$Glass")] s := hK
    refine lv_iload_n hx hb dX6_glass_10 rfl (lv_at hl 2 rfl) ?_
    refine lv_iload_n hx hb dX6_glass_11 rfl (lv_at hl 1 rfl) ?_
    refine lv_sipush (v := 1100) hx hb dX6_glass_12 (by decide) ?_
    have hFc := va_free (wc := []) hD hS hA [] rfl
    refine vx_callv (vx_runS (As := [.int (nI hi), .int (nI lo), .int 1100]) (rest := []) ⟨hx, hb, hml, hown, hts⟩ (zc_X6_checkRange_ok l hnt D G hi lo 1100 H.size (by first | assumption | rfl | omega | exact Nat.le_trans (zS_le _ _ _) (by omega) | decide) (by first | assumption | rfl | omega | exact Nat.le_trans (zS_le _ _ _) (by omega) | decide) (by first | assumption | rfl | omega | exact Nat.le_trans (zS_le _ _ _) (by omega) | decide) (by first | assumption | rfl | omega | exact Nat.le_trans (zS_le _ _ _) (by omega) | decide) (by first | assumption | rfl | omega | exact Nat.le_trans (zS_le _ _ _) (by omega) | decide)) (cwS 3 hts gzX6_glass_3_X6_checkRange_ok_75 rfl rfl rfl (by decide +kernel) ⟨(Nat.le_of_ble_eq_true rfl), (Nat.le_of_ble_eq_true rfl)⟩) ⟨p_RW_blind, (p_RW_at (tc := []) (wc := []) hP hK hD hS hA hT hZ [] [] rfl rfl (by decide) rfl [.int (nI hi), .int (nI lo), .int 1100])⟩ rfl rfl hl.1 rfl (lv_room (Nat.le_of_ble_eq_true rfl)) dX6_glass_15 ⟨(Nat.le_of_ble_eq_true rfl), (Nat.le_of_ble_eq_true rfl)⟩) hS (fun q _ h => hFc q h) hFc (fun q _ h => hFc q h) (fun E ce q9 u t H locs ht hvm hpx hBX hz1 hk1 hS hce hcv hcl => ?_) (fun u t H locs ht hvm w_275 hB hz1 hk1 hS => ?_)
    · exact (show False from hBX).elim
    · obtain ⟨hP, hD, hK⟩ := q_join (D := D) (wc := []) (wr := [(xo, .inr (6, [.ref xg, .int 3, .ref xp, .int pc, .ref xq, .int qc, .ref r1, .ref r2, .ref r3, .ref r4, .ref se, .int ts, .int hou, .int dr, .int su, .int br])), (xg, .inl (cg, 6, .inr (.inr (.inr (.inr (zq [some a0, some a1, some a2, none, none, none]))))))]) (w1 := []) (tyr := [(cg, .object "Gatherhouse$Glass")]) (ty1 := []) hP hD hK [] [0, 1] [0] rfl rfl (by decide) (by decide) rfl hFc hk1 ht hvm hB
      have hP : va_P D vwCl [(xo, .inr (6, [.ref xg, .int 3, .ref xp, .int pc, .ref xq, .int qc, .ref r1, .ref r2, .ref r3, .ref r4, .ref se, .int ts, .int hou, .int dr, .int su, .int br])), (xg, .inl (cg, 6, .inr (.inr (.inr (.inr (zq [some a0, some a1, some a2, none, none, none]))))))] H := hP
      have hD : va_D A [(xo, .inr (6, [.ref xg, .int 3, .ref xp, .int pc, .ref xq, .int qc, .ref r1, .ref r2, .ref r3, .ref r4, .ref se, .int ts, .int hou, .int dr, .int su, .int br])), (xg, .inl (cg, 6, .inr (.inr (.inr (.inr (zq [some a0, some a1, some a2, none, none, none]))))))] := hD
      have hK : va_K D vwCl [(cg, .object "Gatherhouse$Glass")] s := hK
      refine lv_iload_n hx hb dX6_glass_18 rfl (lv_at hl 3 rfl) ?_
      refine lv_bipush (v := 50) hx hb dX6_glass_19 (by decide) ?_
      refine lv_sipush (v := 150) hx hb dX6_glass_21 (by decide) ?_
      have hFc := va_free (wc := []) hD hS hA [] rfl
      refine vx_callv (vx_runS (As := [.int (nI xe), .int 50, .int 150]) (rest := []) ⟨hx, hb, hml, hown, hts⟩ (zc_X6_checkRange_ok l hnt D G xe 50 150 H.size (by first | assumption | rfl | omega | exact Nat.le_trans (zS_le _ _ _) (by omega) | decide) (by first | assumption | rfl | omega | exact Nat.le_trans (zS_le _ _ _) (by omega) | decide) (by first | assumption | rfl | omega | exact Nat.le_trans (zS_le _ _ _) (by omega) | decide) (by first | assumption | rfl | omega | exact Nat.le_trans (zS_le _ _ _) (by omega) | decide) (by first | assumption | rfl | omega | exact Nat.le_trans (zS_le _ _ _) (by omega) | decide)) (cwS 3 hts gzX6_glass_3_X6_checkRange_ok_75 rfl rfl rfl (by decide +kernel) ⟨(Nat.le_of_ble_eq_true rfl), (Nat.le_of_ble_eq_true rfl)⟩) ⟨p_RW_blind, (p_RW_at (tc := []) (wc := []) hP hK hD hS hA hT hZ [] [] rfl rfl (by decide) rfl [.int (nI xe), .int 50, .int 150])⟩ rfl rfl hl.1 rfl (lv_room (Nat.le_of_ble_eq_true rfl)) dX6_glass_24 ⟨(Nat.le_of_ble_eq_true rfl), (Nat.le_of_ble_eq_true rfl)⟩) hS (fun q _ h => hFc q h) hFc (fun q _ h => hFc q h) (fun E ce q9 u t H locs ht hvm hpx hBX hz1 hk1 hS hce hcv hcl => ?_) (fun u t H locs ht hvm w_277 hB hz1 hk1 hS => ?_)
      · exact (show False from hBX).elim
      · obtain ⟨hP, hD, hK⟩ := q_join (D := D) (wc := []) (wr := [(xo, .inr (6, [.ref xg, .int 3, .ref xp, .int pc, .ref xq, .int qc, .ref r1, .ref r2, .ref r3, .ref r4, .ref se, .int ts, .int hou, .int dr, .int su, .int br])), (xg, .inl (cg, 6, .inr (.inr (.inr (.inr (zq [some a0, some a1, some a2, none, none, none]))))))]) (w1 := []) (tyr := [(cg, .object "Gatherhouse$Glass")]) (ty1 := []) hP hD hK [] [0, 1] [0] rfl rfl (by decide) (by decide) rfl hFc hk1 ht hvm hB
        have hP : va_P D vwCl [(xo, .inr (6, [.ref xg, .int 3, .ref xp, .int pc, .ref xq, .int qc, .ref r1, .ref r2, .ref r3, .ref r4, .ref se, .int ts, .int hou, .int dr, .int su, .int br])), (xg, .inl (cg, 6, .inr (.inr (.inr (.inr (zq [some a0, some a1, some a2, none, none, none]))))))] H := hP
        have hD : va_D A [(xo, .inr (6, [.ref xg, .int 3, .ref xp, .int pc, .ref xq, .int qc, .ref r1, .ref r2, .ref r3, .ref r4, .ref se, .int ts, .int hou, .int dr, .int su, .int br])), (xg, .inl (cg, 6, .inr (.inr (.inr (.inr (zq [some a0, some a1, some a2, none, none, none]))))))] := hD
        have hK : va_K D vwCl [(cg, .object "Gatherhouse$Glass")] s := hK
        refine lv_iload hx hb dX6_glass_27 (lv_at hl 4 rfl) ?_
        refine lv_iconst (v := 0) hx hb dX6_glass_29 (by decide) ?_
        refine lv_bipush (v := 9) hx hb dX6_glass_30 (by decide) ?_
        have hFc := va_free (wc := []) hD hS hA [] rfl
        refine vx_callv (vx_runS (As := [.int (nI co), .int 0, .int 9]) (rest := []) ⟨hx, hb, hml, hown, hts⟩ (zc_X6_checkRange_ok l hnt D G co 0 9 H.size (by first | assumption | rfl | omega | exact Nat.le_trans (zS_le _ _ _) (by omega) | decide) (by first | assumption | rfl | omega | exact Nat.le_trans (zS_le _ _ _) (by omega) | decide) (by first | assumption | rfl | omega | exact Nat.le_trans (zS_le _ _ _) (by omega) | decide) (by first | assumption | rfl | omega | exact Nat.le_trans (zS_le _ _ _) (by omega) | decide) (by first | assumption | rfl | omega | exact Nat.le_trans (zS_le _ _ _) (by omega) | decide)) (cwS 3 hts gzX6_glass_3_X6_checkRange_ok_75 rfl rfl rfl (by decide +kernel) ⟨(Nat.le_of_ble_eq_true rfl), (Nat.le_of_ble_eq_true rfl)⟩) ⟨p_RW_blind, (p_RW_at (tc := []) (wc := []) hP hK hD hS hA hT hZ [] [] rfl rfl (by decide) rfl [.int (nI co), .int 0, .int 9])⟩ rfl rfl hl.1 rfl (lv_room (Nat.le_of_ble_eq_true rfl)) dX6_glass_32 ⟨(Nat.le_of_ble_eq_true rfl), (Nat.le_of_ble_eq_true rfl)⟩) hS (fun q _ h => hFc q h) hFc (fun q _ h => hFc q h) (fun E ce q9 u t H locs ht hvm hpx hBX hz1 hk1 hS hce hcv hcl => ?_) (fun u t H locs ht hvm w_279 hB hz1 hk1 hS => ?_)
        · exact (show False from hBX).elim
        · obtain ⟨hP, hD, hK⟩ := q_join (D := D) (wc := []) (wr := [(xo, .inr (6, [.ref xg, .int 3, .ref xp, .int pc, .ref xq, .int qc, .ref r1, .ref r2, .ref r3, .ref r4, .ref se, .int ts, .int hou, .int dr, .int su, .int br])), (xg, .inl (cg, 6, .inr (.inr (.inr (.inr (zq [some a0, some a1, some a2, none, none, none]))))))]) (w1 := []) (tyr := [(cg, .object "Gatherhouse$Glass")]) (ty1 := []) hP hD hK [] [0, 1] [0] rfl rfl (by decide) (by decide) rfl hFc hk1 ht hvm hB
          have hP : va_P D vwCl [(xo, .inr (6, [.ref xg, .int 3, .ref xp, .int pc, .ref xq, .int qc, .ref r1, .ref r2, .ref r3, .ref r4, .ref se, .int ts, .int hou, .int dr, .int su, .int br])), (xg, .inl (cg, 6, .inr (.inr (.inr (.inr (zq [some a0, some a1, some a2, none, none, none]))))))] H := hP
          have hD : va_D A [(xo, .inr (6, [.ref xg, .int 3, .ref xp, .int pc, .ref xq, .int qc, .ref r1, .ref r2, .ref r3, .ref r4, .ref se, .int ts, .int hou, .int dr, .int su, .int br])), (xg, .inl (cg, 6, .inr (.inr (.inr (.inr (zq [some a0, some a1, some a2, none, none, none]))))))] := hD
          have hK : va_K D vwCl [(cg, .object "Gatherhouse$Glass")] s := hK
          refine lv_aload_n hx hb dX6_glass_35 rfl (lv_at hl 0 rfl) ?_
          refine va_get (D := D) (cl := vwCl) (ci := 6) (v := .int 3) (C := RX6) (T := TX6) (N := 16) hx hb hts zuX6_glass_3_X6 hown hK hP 0 rfl rfl 1 (by decide) (hts (.fieldLink RX6 15 "Gatherhouse" "glassCount" "I") (by decide +kernel)) (fun _ h9 => h9) rfl dX6_glass_36 ?_
          refine lv_if_lt (tgt := 54) hx hb dX6_glass_39 (by decide) (fun cc => absurd cc (by decide)) (fun _ => ?_)
          refine lv_aload_n hx hb dX6_glass_42 rfl (lv_at hl 0 rfl) ?_
          refine va_get (D := D) (cl := vwCl) (ci := 6) (v := .int 3) (C := RX6) (T := TX6) (N := 16) hx hb hts zuX6_glass_3_X6 hown hK hP 0 rfl rfl 1 (by decide) (hts (.fieldLink RX6 15 "Gatherhouse" "glassCount" "I") (by decide +kernel)) (fun _ h9 => h9) rfl dX6_glass_43 ?_
          refine lv_aload_n hx hb dX6_glass_46 rfl (lv_at hl 0 rfl) ?_
          refine va_get (D := D) (cl := vwCl) (ci := 6) (v := .ref xg) (C := RX6) (T := TX6) (N := 16) hx hb hts zuX6_glass_3_X6 hown hK hP 0 rfl rfl 0 (by decide) (hts (.fieldLink RX6 11 "Gatherhouse" "glasses" "[LGatherhouse$Glass;") (by decide +kernel)) (fun _ h9 => h9) rfl dX6_glass_47 ?_
          refine va_alen (D := D) (cl := vwCl) (v := 6) hx hb hK hP 1 0 rfl rfl rfl dX6_glass_50 ?_
          refine lv_icmp_lt (tgt := 64) hx hb dX6_glass_51 (by decide) (fun _ => ?_) (fun cc => absurd (by decide) cc)
          refine lv_aload_n hx hb dX6_glass_64 rfl (lv_at hl 0 rfl) ?_
          refine va_get (D := D) (cl := vwCl) (ci := 6) (v := .ref xg) (C := RX6) (T := TX6) (N := 16) hx hb hts zuX6_glass_3_X6 hown hK hP 0 rfl rfl 0 (by decide) (hts (.fieldLink RX6 11 "Gatherhouse" "glasses" "[LGatherhouse$Glass;") (by decide +kernel)) (fun _ h9 => h9) rfl dX6_glass_65 ?_
          refine lv_aload_n hx hb dX6_glass_68 rfl (lv_at hl 0 rfl) ?_
          refine va_get (D := D) (cl := vwCl) (ci := 6) (v := .int 3) (C := RX6) (T := TX6) (N := 16) hx hb hts zuX6_glass_3_X6 hown hK hP 0 rfl rfl 1 (by decide) (hts (.fieldLink RX6 15 "Gatherhouse" "glassCount" "I") (by decide +kernel)) (fun _ h9 => h9) rfl dX6_glass_69 ?_
          refine va_new (D := D) (cl := vwCl) (ci := 0) (fs := [.int 0, .int 0, .int 0, .int 0]) (C := RX0) (T := TX0) (N := 4) hx hb hts zuX6_glass_3_X0 tyX0 tyX0_ok hown (hts (.classLink RX6 9 RX0) (by decide +kernel)) (hts (.instantiable RX0 4) (by decide +kernel)) (hts (.initialized RX0) (by decide +kernel)) hK hP hD hS hA rfl (fun j hj => by rcases (show j = 0 ∨ j = 1 ∨ j = 2 ∨ j = 3 by omega) with rfl | rfl | rfl | rfl <;> rfl) (Nat.le_of_ble_eq_true rfl) (Nat.le_of_ble_eq_true rfl) dX6_glass_72 (fun o_280 H hP hD hS => ?_)
          have hP : va_P D vwCl [(xo, .inr (6, [.ref xg, .int 3, .ref xp, .int pc, .ref xq, .int qc, .ref r1, .ref r2, .ref r3, .ref r4, .ref se, .int ts, .int hou, .int dr, .int su, .int br])), (xg, .inl (cg, 6, .inr (.inr (.inr (.inr (zq [some a0, some a1, some a2, none, none, none])))))), (o_280, .inr (0, [.int 0, .int 0, .int 0, .int 0]))] H := hP
          have hD : va_D A [(xo, .inr (6, [.ref xg, .int 3, .ref xp, .int pc, .ref xq, .int qc, .ref r1, .ref r2, .ref r3, .ref r4, .ref se, .int ts, .int hou, .int dr, .int su, .int br])), (xg, .inl (cg, 6, .inr (.inr (.inr (.inr (zq [some a0, some a1, some a2, none, none, none])))))), (o_280, .inr (0, [.int 0, .int 0, .int 0, .int 0]))] := hD
          refine W.widen (k := 1) (n := 4) (Nat.le_of_ble_eq_true rfl) (Nat.le_of_ble_eq_true rfl) ?_
          refine lv_dup hx hb dX6_glass_75 rfl ?_
          refine lv_iload_n hx hb dX6_glass_76 rfl (lv_at hl 1 rfl) ?_
          refine lv_iload_n hx hb dX6_glass_77 rfl (lv_at hl 2 rfl) ?_
          refine lv_iload_n hx hb dX6_glass_78 rfl (lv_at hl 3 rfl) ?_
          refine lv_iload hx hb dX6_glass_79 (lv_at hl 4 rfl) ?_
          have hFc := va_free (wc := [(o_280, .inr (0, [.int 0, .int 0, .int 0, .int 0]))]) hD hS hA [2] rfl
          refine va_callv (va_runIN (As := [.int (nI lo), .int (nI hi), .int (nI xe), .int (nI co)]) (rest := [.ref o_280, .int 3, .ref xg]) ⟨hx, hb, hml, hown, hts⟩ (zc_X0_init l D G o_280 (nI lo) (nI hi) (nI xe) (nI co) H.size) ⟨va_cnB 4 hts gzX6_glass_3_X0_init_86 rfl rfl rfl (hT.1 ("Gatherhouse", 86, ⟨"Gatherhouse$Glass", "<init>", "(IIII)V"⟩, "Gatherhouse") (by decide +kernel)) (hts (.initialized RX0) (by decide +kernel)) (by decide +kernel) ⟨(Nat.le_of_ble_eq_true rfl), (Nat.le_of_ble_eq_true rfl)⟩, rfl, (hts (.instanceMethod yX0_init) (by decide +kernel))⟩ ⟨p_RW_blind, (p_RW_at (tc := []) (wc := [(o_280, .inr (0, [.int 0, .int 0, .int 0, .int 0]))]) hP hK hD hS hA hT hZ [2] [] rfl rfl (by decide) rfl [.ref o_280, .int (nI lo), .int (nI hi), .int (nI xe), .int (nI co)])⟩ rfl rfl hl.1 rfl (lv_room (Nat.le_of_ble_eq_true rfl)) dX6_glass_81 ⟨(Nat.le_of_ble_eq_true rfl), (Nat.le_of_ble_eq_true rfl)⟩) hS (fun q _ h => hFc q h) hFc (fun u t H locs ht hvm w_282 hB hz1 hk1 hS => ?_)
          obtain ⟨hP, hD, hK⟩ := q_join (D := D) (wc := [(o_280, .inr (0, [.int 0, .int 0, .int 0, .int 0]))]) (wr := [(xo, .inr (6, [.ref xg, .int 3, .ref xp, .int pc, .ref xq, .int qc, .ref r1, .ref r2, .ref r3, .ref r4, .ref se, .int ts, .int hou, .int dr, .int su, .int br])), (xg, .inl (cg, 6, .inr (.inr (.inr (.inr (zq [some a0, some a1, some a2, none, none, none]))))))]) (w1 := [(o_280, .inr (0, [.int (nI lo), .int (nI hi), .int (nI xe), .int (nI co)]))]) (tyr := [(cg, .object "Gatherhouse$Glass")]) (ty1 := []) hP hD hK [2] [0, 1] [0] rfl rfl (by decide) (by decide) rfl hFc hk1 ht hvm hB
          have hP : va_P D vwCl [(xo, .inr (6, [.ref xg, .int 3, .ref xp, .int pc, .ref xq, .int qc, .ref r1, .ref r2, .ref r3, .ref r4, .ref se, .int ts, .int hou, .int dr, .int su, .int br])), (xg, .inl (cg, 6, .inr (.inr (.inr (.inr (zq [some a0, some a1, some a2, none, none, none])))))), (o_280, .inr (0, [.int (nI lo), .int (nI hi), .int (nI xe), .int (nI co)]))] H := hP
          have hD : va_D A [(xo, .inr (6, [.ref xg, .int 3, .ref xp, .int pc, .ref xq, .int qc, .ref r1, .ref r2, .ref r3, .ref r4, .ref se, .int ts, .int hou, .int dr, .int su, .int br])), (xg, .inl (cg, 6, .inr (.inr (.inr (.inr (zq [some a0, some a1, some a2, none, none, none])))))), (o_280, .inr (0, [.int (nI lo), .int (nI hi), .int (nI xe), .int (nI co)]))] := hD
          have hK : va_K D vwCl [(cg, .object "Gatherhouse$Glass")] s := hK
          refine va_astq (D := D) (cl := vwCl) hx hb hK hP hD hS 1 0 2 0 rfl rfl rfl rfl (vp_in_nI (n := 3) (N := 6) (by decide) (by decide)) dX6_glass_84 (fun H locs hP hD hS => ?_)
          have hP : va_P D vwCl [(xo, .inr (6, [.ref xg, .int 3, .ref xp, .int pc, .ref xq, .int qc, .ref r1, .ref r2, .ref r3, .ref r4, .ref se, .int ts, .int hou, .int dr, .int su, .int br])), (xg, .inl (cg, 6, .inr (.inr (.inr (.inr (zq [some a0, some a1, some a2, some o_280, none, none])))))), (o_280, .inr (0, [.int (nI lo), .int (nI hi), .int (nI xe), .int (nI co)]))] H := by have h9 := hP; rw [zq_upd (i := 3) (l := [some a0, some a1, some a2, none, none, none]) (x := some o_280) (k := 3) (l' := [some a0, some a1, some a2, some o_280, none, none]) (by decide +kernel) (Nat.lt_of_lt_of_eq (by decide : 3 < 6) rfl) rfl] at h9; exact h9
          have hD : va_D A [(xo, .inr (6, [.ref xg, .int 3, .ref xp, .int pc, .ref xq, .int qc, .ref r1, .ref r2, .ref r3, .ref r4, .ref se, .int ts, .int hou, .int dr, .int su, .int br])), (xg, .inl (cg, 6, .inr (.inr (.inr (.inr (zq [some a0, some a1, some a2, some o_280, none, none])))))), (o_280, .inr (0, [.int (nI lo), .int (nI hi), .int (nI xe), .int (nI co)]))] := by have h9 := hD; rw [zq_upd (i := 3) (l := [some a0, some a1, some a2, none, none, none]) (x := some o_280) (k := 3) (l' := [some a0, some a1, some a2, some o_280, none, none]) (by decide +kernel) (Nat.lt_of_lt_of_eq (by decide : 3 < 6) rfl) rfl] at h9; exact h9
          refine lv_aload_n hx hb dX6_glass_85 rfl (lv_at hl 0 rfl) ?_
          refine lv_dup hx hb dX6_glass_86 rfl ?_
          refine va_get (D := D) (cl := vwCl) (ci := 6) (v := .int 3) (C := RX6) (T := TX6) (N := 16) hx hb hts zuX6_glass_3_X6 hown hK hP 0 rfl rfl 1 (by decide) (hts (.fieldLink RX6 15 "Gatherhouse" "glassCount" "I") (by decide +kernel)) (fun _ h9 => h9) rfl dX6_glass_87 ?_
          refine lv_iconst (v := 1) hx hb dX6_glass_90 (by decide) ?_
          refine lv_iadd hx hb dX6_glass_91 ?_
          refine lv_topi (fun y_283 ey_283 => ?_)
          have ey_283 : y_283 = 4 := ey_283.trans (by decide +kernel)
          subst ey_283
          refine va_put (D := D) (cl := vwCl) (ci := 6) (v := .int 4) (ty := .int) (C := RX6) (T := TX6) (N := 16) hx hb hts zuX6_glass_3_X6 tyX6 tyX6_ok nmX6 hown hK hP hD hS 0 rfl rfl 1 (by decide) (hts (.fieldLink RX6 15 "Gatherhouse" "glassCount" "I") (by decide +kernel)) (fun _ h9 => h9) rfl (by decide +kernel) rfl rfl (Nat.le_of_ble_eq_true rfl) dX6_glass_92 (fun H locs hP hD hS => ?_)
          have hP : va_P D vwCl [(xo, .inr (6, [.ref xg, .int 4, .ref xp, .int pc, .ref xq, .int qc, .ref r1, .ref r2, .ref r3, .ref r4, .ref se, .int ts, .int hou, .int dr, .int su, .int br])), (xg, .inl (cg, 6, .inr (.inr (.inr (.inr (zq [some a0, some a1, some a2, some o_280, none, none])))))), (o_280, .inr (0, [.int (nI lo), .int (nI hi), .int (nI xe), .int (nI co)]))] H := hP
          have hD : va_D A [(xo, .inr (6, [.ref xg, .int 4, .ref xp, .int pc, .ref xq, .int qc, .ref r1, .ref r2, .ref r3, .ref r4, .ref se, .int ts, .int hou, .int dr, .int su, .int br])), (xg, .inl (cg, 6, .inr (.inr (.inr (.inr (zq [some a0, some a1, some a2, some o_280, none, none])))))), (o_280, .inr (0, [.int (nI lo), .int (nI hi), .int (nI xe), .int (nI co)]))] := hD
          refine lv_aload_n hx hb dX6_glass_95 rfl (lv_at hl 0 rfl) ?_
          refine va_get (D := D) (cl := vwCl) (ci := 6) (v := .int 4) (C := RX6) (T := TX6) (N := 16) hx hb hts zuX6_glass_3_X6 hown hK hP 0 rfl rfl 1 (by decide) (hts (.fieldLink RX6 15 "Gatherhouse" "glassCount" "I") (by decide +kernel)) (fun _ h9 => h9) rfl dX6_glass_96 ?_
          refine lv_iconst (v := 1) hx hb dX6_glass_99 (by decide) ?_
          refine lv_isub hx hb dX6_glass_100 ?_
          refine lv_topi (fun y_284 ey_284 => ?_)
          have ey_284 : y_284 = 3 := ey_284.trans (by decide +kernel)
          subst ey_284
          refine vx_ret ?_
          exact W.iret (v := 3) hx hb hr (fun t ht hW => ⟨⟨3, (), rfl, rfl, ⟨o_280, q_RW_mk hP hK hD [0, 1, 2] [0] rfl rfl (by decide) rfl ht hW.alike⟩⟩, hS.F ht⟩) hS.2.2 dX6_glass_101
def wzEX6_glass_4 : List Cond := [.code yX6_glass cX6_glass 5 (some .int), .methodLink RX6 75 yX6_checkRange, .static yX6_checkRange, .initialized RX6, .code yX6_checkRange cX6_checkRange 3 none, .fieldLink RX6 15 "Gatherhouse" "glassCount" "I", .fieldLink RX6 11 "Gatherhouse" "glasses" "[LGatherhouse$Glass;", .classLink RX6 9 RX0, .instantiable RX0 4, .initialized RX0, .code yX0_init cX0_init 5 none, .methodLink RX0 3 objectInit, .instanceMethod objectInit, .code objectInit ⟨#[0xb1]⟩ 1 none, .fieldLink RX0 9 "Gatherhouse$Glass" "low" "I", .fieldLink RX0 15 "Gatherhouse$Glass" "high" "I", .fieldLink RX0 18 "Gatherhouse$Glass" "expansion" "I", .fieldLink RX0 21 "Gatherhouse$Glass" "colour" "I", .instanceMethod yX0_init]
def wzX6_glass_4 : List Cond := wzEX6_glass_4 ++ (u_ws RX6 TX6 16 ++ (u_ws RX0 TX0 4))
theorem zgEX6_glass_4 : wzEX6_glass_4.all goodWord = true := by decide +kernel
theorem zuX6_glass_4_X6 : ∀ w ∈ u_ws RX6 TX6 16, w ∈ wzX6_glass_4 := (fun _ h => (List.mem_append_right _ (List.mem_append_left _ h)))
theorem zuX6_glass_4_X0 : ∀ w ∈ u_ws RX0 TX0 4, w ∈ wzX6_glass_4 := (fun _ h => (List.mem_append_right _ (List.mem_append_right _ h)))
theorem gzX6_glass_4_X6_checkRange_ok_75 : GoodIn wzX6_glass_4 (va_wsS RX6 75 yX6_checkRange wzX6_checkRange_ok) := (goodIn_app (z_lift (goodIn_r _ [1, 2, 3] rfl (by decide +kernel))) (goodIn_app (z_lift (goodIn_r wzEX6_checkRange_ok [4] rfl zgEX6_checkRange_ok)) z_gnil))
theorem gzX6_glass_4_X0_init_86 : GoodIn wzX6_glass_4 (wzX0_init) := (goodIn_app (z_lift (goodIn_r wzEX0_init [10, 11, 12, 13, 14, 15, 16, 17] rfl zgEX0_init)) (goodIn_sub (fun _ h => (List.mem_append_right _ (List.mem_append_right _ h))) zgU_X0))
set_option maxHeartbeats 4000000 in
set_option maxRecDepth 100000 in
theorem zc_X6_glass_4 (l : Launch) (hnt : l.stackTraces = false) (D : va_G) (G : Nat × Nat × (Nat → Int32)) (xo : Nat) (lo : Nat) (hi : Nat) (xe : Nat) (co : Nat) (xg : Nat) (xp : Nat) (pc : Int32) (xq : Nat) (qc : Int32) (r1 : Nat) (r2 : Nat) (r3 : Nat) (r4 : Nat) (se : Nat) (ts : Int32) (hou : Int32) (dr : Int32) (su : Int32) (br : Int32) (cg : ClassId) (a0 : Nat) (a1 : Nat) (a2 : Nat) (a3 : Nat) (sz : Nat) (g1 : lo ≤ hi) (hl_lo : 600 ≤ lo) (hh_lo : lo ≤ 1100) (hl_hi : 600 ≤ hi) (hh_hi : hi ≤ 1100) (hl_xe : 50 ≤ xe) (hh_xe : xe ≤ 150) (hh_co : co ≤ 9) : vx_Met l yX6_glass wzX6_glass_4 ({ frames := 2, cells := 1, slots := 4, locals := 36 }) (va_Pc [.ref xo, .int (nI lo), .int (nI hi), .int (nI xe), .int (nI co)] (p_RW D G [(cg, .object "Gatherhouse$Glass")] [(xo, .inr (6, [.ref xg, .int 4, .ref xp, .int pc, .ref xq, .int qc, .ref r1, .ref r2, .ref r3, .ref r4, .ref se, .int ts, .int hou, .int dr, .int su, .int br])), (xg, .inl (cg, 6, .inr (.inr (.inr (.inr (zq [some a0, some a1, some a2, some a3, none, none]))))))] sz)) (va_Qi (fun (r : Int32) (u : Unit) => r = 4) (fun (u : Unit) (t : State) => ∃ (gn : Nat), q_RW D [(cg, .object "Gatherhouse$Glass")] [(xo, .inr (6, [.ref xg, .int 5, .ref xp, .int pc, .ref xq, .int qc, .ref r1, .ref r2, .ref r3, .ref r4, .ref se, .int ts, .int hou, .int dr, .int su, .int br])), (xg, .inl (cg, 6, .inr (.inr (.inr (.inr (zq [some a0, some a1, some a2, some a3, some gn, none])))))), (gn, .inr (0, [.int (nI lo), .int (nI hi), .int (nI xe), .int (nI co)]))] (va_A [(xo, .inr (6, [.ref xg, .int 4, .ref xp, .int pc, .ref xq, .int qc, .ref r1, .ref r2, .ref r3, .ref r4, .ref se, .int ts, .int hou, .int dr, .int su, .int br])), (xg, .inl (cg, 6, .inr (.inr (.inr (.inr (zq [some a0, some a1, some a2, some a3, none, none]))))))] sz) t) (va_A [(xo, .inr (6, [.ref xg, .int 4, .ref xp, .int pc, .ref xq, .int qc, .ref r1, .ref r2, .ref r3, .ref r4, .ref se, .int ts, .int hou, .int dr, .int su, .int br])), (xg, .inl (cg, 6, .inr (.inr (.inr (.inr (zq [some a0, some a1, some a2, some a3, none, none]))))))] sz)) (vx_X (fun (_ : Unit) => True) (fun E (_ : Unit) (_ : State) => False) (va_A [(xo, .inr (6, [.ref xg, .int 4, .ref xp, .int pc, .ref xq, .int qc, .ref r1, .ref r2, .ref r3, .ref r4, .ref se, .int ts, .int hou, .int dr, .int su, .int br])), (xg, .inl (cg, 6, .inr (.inr (.inr (.inr (zq [some a0, some a1, some a2, some a3, none, none]))))))] sz)) 1 4 (va_A [(xo, .inr (6, [.ref xg, .int 4, .ref xp, .int pc, .ref xq, .int qc, .ref r1, .ref r2, .ref r3, .ref r4, .ref se, .int ts, .int hou, .int dr, .int su, .int br])), (xg, .inl (cg, 6, .inr (.inr (.inr (.inr (zq [some a0, some a1, some a2, some a3, none, none]))))))] sz) := by
  refine vx_ofW (cc := cX6_glass) (maxL := 5) (ret := (some .int)) (by decide) rfl ?_
  intro p e s m args below meth c s₁ B hml hxt hv
  obtain ⟨rfl, hsz, hP, hK, hD0, hT, hZ⟩ := hv
  have hx := B.exec
  have hb := B.bytes
  have hr := B.returns
  have hts := atoms_spec (ws := wzX6_glass_4) B.pre
  have hown : s.vm.findClass RX6 = some m.cls := findClass_of_methodNamed B.named
  have hlocks := B.notSynchronized
  subst hsz
  have hD := hD0.self (sz := s.heap.size)
  generalize hAe : va_A [(xo, .inr (6, [.ref xg, .int 4, .ref xp, .int pc, .ref xq, .int qc, .ref r1, .ref r2, .ref r3, .ref r4, .ref se, .int ts, .int hou, .int dr, .int su, .int br])), (xg, .inl (cg, 6, .inr (.inr (.inr (.inr (zq [some a0, some a1, some a2, some a3, none, none]))))))] s.heap.size = A at hD hZ ⊢
  have hA : ∀ q : Nat, s.heap.size ≤ q → A q := fun q h => by rw [← hAe]; exact Or.inr h
  have hS : va_S A s.heap s.heap [] := va_S.rf
  have hl := lv_entry ([.ref xo, .int (nI lo), .int (nI hi), .int (nI xe), .int (nI co)]) (n := 5) (Nat.le_of_ble_eq_true rfl)
  rw [lg_entry_eq]
  generalize (lg_sl ([.ref xo, .int (nI lo), .int (nI hi), .int (nI xe), .int (nI co)]) ++ List.replicate (5 - (lg_sl ([.ref xo, .int (nI lo), .int (nI hi), .int (nI xe), .int (nI co)])).length) Slot.unset).toArray = ls at hl ⊢
  have hl : lv_has ls 5 [(0, .ref xo), (1, .int (nI lo)), (2, .int (nI hi)), (3, .int (nI xe)), (4, .int (nI co))] := hl
  refine lv_iload_n hx hb dX6_glass_0 rfl (lv_at hl 1 rfl) ?_
  refine lv_sipush (v := 600) hx hb dX6_glass_1 (by decide) ?_
  refine lv_sipush (v := 1100) hx hb dX6_glass_4 (by decide) ?_
  have hFc := va_free (wc := []) hD hS hA [] rfl
  refine vx_callv (vx_runS (As := [.int (nI lo), .int 600, .int 1100]) (rest := []) ⟨hx, hb, hml, hown, hts⟩ (zc_X6_checkRange_ok l hnt D G lo 600 1100 s.heap.size (by first | assumption | rfl | omega | exact Nat.le_trans (zS_le _ _ _) (by omega) | decide) (by first | assumption | rfl | omega | exact Nat.le_trans (zS_le _ _ _) (by omega) | decide) (by first | assumption | rfl | omega | exact Nat.le_trans (zS_le _ _ _) (by omega) | decide) (by first | assumption | rfl | omega | exact Nat.le_trans (zS_le _ _ _) (by omega) | decide) (by first | assumption | rfl | omega | exact Nat.le_trans (zS_le _ _ _) (by omega) | decide)) (cwS 3 hts gzX6_glass_4_X6_checkRange_ok_75 rfl rfl rfl (by decide +kernel) ⟨(Nat.le_of_ble_eq_true rfl), (Nat.le_of_ble_eq_true rfl)⟩) ⟨p_RW_blind, (p_RW_at (tc := []) (wc := []) hP hK hD hS hA hT hZ [] [] rfl rfl (by decide) rfl [.int (nI lo), .int 600, .int 1100])⟩ rfl rfl hl.1 rfl (lv_room (Nat.le_of_ble_eq_true rfl)) dX6_glass_7 ⟨(Nat.le_of_ble_eq_true rfl), (Nat.le_of_ble_eq_true rfl)⟩) hS (fun q _ h => hFc q h) hFc (fun q _ h => hFc q h) (fun E ce q9 u t H locs ht hvm hpx hBX hz1 hk1 hS hce hcv hcl => ?_) (fun u t H locs ht hvm w_286 hB hz1 hk1 hS => ?_)
  · exact (show False from hBX).elim
  · obtain ⟨hP, hD, hK⟩ := q_join (D := D) (wc := []) (wr := [(xo, .inr (6, [.ref xg, .int 4, .ref xp, .int pc, .ref xq, .int qc, .ref r1, .ref r2, .ref r3, .ref r4, .ref se, .int ts, .int hou, .int dr, .int su, .int br])), (xg, .inl (cg, 6, .inr (.inr (.inr (.inr (zq [some a0, some a1, some a2, some a3, none, none]))))))]) (w1 := []) (tyr := [(cg, .object "Gatherhouse$Glass")]) (ty1 := []) hP hD hK [] [0, 1] [0] rfl rfl (by decide) (by decide) rfl hFc hk1 ht hvm hB
    have hP : va_P D vwCl [(xo, .inr (6, [.ref xg, .int 4, .ref xp, .int pc, .ref xq, .int qc, .ref r1, .ref r2, .ref r3, .ref r4, .ref se, .int ts, .int hou, .int dr, .int su, .int br])), (xg, .inl (cg, 6, .inr (.inr (.inr (.inr (zq [some a0, some a1, some a2, some a3, none, none]))))))] H := hP
    have hD : va_D A [(xo, .inr (6, [.ref xg, .int 4, .ref xp, .int pc, .ref xq, .int qc, .ref r1, .ref r2, .ref r3, .ref r4, .ref se, .int ts, .int hou, .int dr, .int su, .int br])), (xg, .inl (cg, 6, .inr (.inr (.inr (.inr (zq [some a0, some a1, some a2, some a3, none, none]))))))] := hD
    have hK : va_K D vwCl [(cg, .object "Gatherhouse$Glass")] s := hK
    refine lv_iload_n hx hb dX6_glass_10 rfl (lv_at hl 2 rfl) ?_
    refine lv_iload_n hx hb dX6_glass_11 rfl (lv_at hl 1 rfl) ?_
    refine lv_sipush (v := 1100) hx hb dX6_glass_12 (by decide) ?_
    have hFc := va_free (wc := []) hD hS hA [] rfl
    refine vx_callv (vx_runS (As := [.int (nI hi), .int (nI lo), .int 1100]) (rest := []) ⟨hx, hb, hml, hown, hts⟩ (zc_X6_checkRange_ok l hnt D G hi lo 1100 H.size (by first | assumption | rfl | omega | exact Nat.le_trans (zS_le _ _ _) (by omega) | decide) (by first | assumption | rfl | omega | exact Nat.le_trans (zS_le _ _ _) (by omega) | decide) (by first | assumption | rfl | omega | exact Nat.le_trans (zS_le _ _ _) (by omega) | decide) (by first | assumption | rfl | omega | exact Nat.le_trans (zS_le _ _ _) (by omega) | decide) (by first | assumption | rfl | omega | exact Nat.le_trans (zS_le _ _ _) (by omega) | decide)) (cwS 3 hts gzX6_glass_4_X6_checkRange_ok_75 rfl rfl rfl (by decide +kernel) ⟨(Nat.le_of_ble_eq_true rfl), (Nat.le_of_ble_eq_true rfl)⟩) ⟨p_RW_blind, (p_RW_at (tc := []) (wc := []) hP hK hD hS hA hT hZ [] [] rfl rfl (by decide) rfl [.int (nI hi), .int (nI lo), .int 1100])⟩ rfl rfl hl.1 rfl (lv_room (Nat.le_of_ble_eq_true rfl)) dX6_glass_15 ⟨(Nat.le_of_ble_eq_true rfl), (Nat.le_of_ble_eq_true rfl)⟩) hS (fun q _ h => hFc q h) hFc (fun q _ h => hFc q h) (fun E ce q9 u t H locs ht hvm hpx hBX hz1 hk1 hS hce hcv hcl => ?_) (fun u t H locs ht hvm w_288 hB hz1 hk1 hS => ?_)
    · exact (show False from hBX).elim
    · obtain ⟨hP, hD, hK⟩ := q_join (D := D) (wc := []) (wr := [(xo, .inr (6, [.ref xg, .int 4, .ref xp, .int pc, .ref xq, .int qc, .ref r1, .ref r2, .ref r3, .ref r4, .ref se, .int ts, .int hou, .int dr, .int su, .int br])), (xg, .inl (cg, 6, .inr (.inr (.inr (.inr (zq [some a0, some a1, some a2, some a3, none, none]))))))]) (w1 := []) (tyr := [(cg, .object "Gatherhouse$Glass")]) (ty1 := []) hP hD hK [] [0, 1] [0] rfl rfl (by decide) (by decide) rfl hFc hk1 ht hvm hB
      have hP : va_P D vwCl [(xo, .inr (6, [.ref xg, .int 4, .ref xp, .int pc, .ref xq, .int qc, .ref r1, .ref r2, .ref r3, .ref r4, .ref se, .int ts, .int hou, .int dr, .int su, .int br])), (xg, .inl (cg, 6, .inr (.inr (.inr (.inr (zq [some a0, some a1, some a2, some a3, none, none]))))))] H := hP
      have hD : va_D A [(xo, .inr (6, [.ref xg, .int 4, .ref xp, .int pc, .ref xq, .int qc, .ref r1, .ref r2, .ref r3, .ref r4, .ref se, .int ts, .int hou, .int dr, .int su, .int br])), (xg, .inl (cg, 6, .inr (.inr (.inr (.inr (zq [some a0, some a1, some a2, some a3, none, none]))))))] := hD
      have hK : va_K D vwCl [(cg, .object "Gatherhouse$Glass")] s := hK
      refine lv_iload_n hx hb dX6_glass_18 rfl (lv_at hl 3 rfl) ?_
      refine lv_bipush (v := 50) hx hb dX6_glass_19 (by decide) ?_
      refine lv_sipush (v := 150) hx hb dX6_glass_21 (by decide) ?_
      have hFc := va_free (wc := []) hD hS hA [] rfl
      refine vx_callv (vx_runS (As := [.int (nI xe), .int 50, .int 150]) (rest := []) ⟨hx, hb, hml, hown, hts⟩ (zc_X6_checkRange_ok l hnt D G xe 50 150 H.size (by first | assumption | rfl | omega | exact Nat.le_trans (zS_le _ _ _) (by omega) | decide) (by first | assumption | rfl | omega | exact Nat.le_trans (zS_le _ _ _) (by omega) | decide) (by first | assumption | rfl | omega | exact Nat.le_trans (zS_le _ _ _) (by omega) | decide) (by first | assumption | rfl | omega | exact Nat.le_trans (zS_le _ _ _) (by omega) | decide) (by first | assumption | rfl | omega | exact Nat.le_trans (zS_le _ _ _) (by omega) | decide)) (cwS 3 hts gzX6_glass_4_X6_checkRange_ok_75 rfl rfl rfl (by decide +kernel) ⟨(Nat.le_of_ble_eq_true rfl), (Nat.le_of_ble_eq_true rfl)⟩) ⟨p_RW_blind, (p_RW_at (tc := []) (wc := []) hP hK hD hS hA hT hZ [] [] rfl rfl (by decide) rfl [.int (nI xe), .int 50, .int 150])⟩ rfl rfl hl.1 rfl (lv_room (Nat.le_of_ble_eq_true rfl)) dX6_glass_24 ⟨(Nat.le_of_ble_eq_true rfl), (Nat.le_of_ble_eq_true rfl)⟩) hS (fun q _ h => hFc q h) hFc (fun q _ h => hFc q h) (fun E ce q9 u t H locs ht hvm hpx hBX hz1 hk1 hS hce hcv hcl => ?_) (fun u t H locs ht hvm w_290 hB hz1 hk1 hS => ?_)
      · exact (show False from hBX).elim
      · obtain ⟨hP, hD, hK⟩ := q_join (D := D) (wc := []) (wr := [(xo, .inr (6, [.ref xg, .int 4, .ref xp, .int pc, .ref xq, .int qc, .ref r1, .ref r2, .ref r3, .ref r4, .ref se, .int ts, .int hou, .int dr, .int su, .int br])), (xg, .inl (cg, 6, .inr (.inr (.inr (.inr (zq [some a0, some a1, some a2, some a3, none, none]))))))]) (w1 := []) (tyr := [(cg, .object "Gatherhouse$Glass")]) (ty1 := []) hP hD hK [] [0, 1] [0] rfl rfl (by decide) (by decide) rfl hFc hk1 ht hvm hB
        have hP : va_P D vwCl [(xo, .inr (6, [.ref xg, .int 4, .ref xp, .int pc, .ref xq, .int qc, .ref r1, .ref r2, .ref r3, .ref r4, .ref se, .int ts, .int hou, .int dr, .int su, .int br])), (xg, .inl (cg, 6, .inr (.inr (.inr (.inr (zq [some a0, some a1, some a2, some a3, none, none]))))))] H := hP
        have hD : va_D A [(xo, .inr (6, [.ref xg, .int 4, .ref xp, .int pc, .ref xq, .int qc, .ref r1, .ref r2, .ref r3, .ref r4, .ref se, .int ts, .int hou, .int dr, .int su, .int br])), (xg, .inl (cg, 6, .inr (.inr (.inr (.inr (zq [some a0, some a1, some a2, some a3, none, none]))))))] := hD
        have hK : va_K D vwCl [(cg, .object "Gatherhouse$Glass")] s := hK
        refine lv_iload hx hb dX6_glass_27 (lv_at hl 4 rfl) ?_
        refine lv_iconst (v := 0) hx hb dX6_glass_29 (by decide) ?_
        refine lv_bipush (v := 9) hx hb dX6_glass_30 (by decide) ?_
        have hFc := va_free (wc := []) hD hS hA [] rfl
        refine vx_callv (vx_runS (As := [.int (nI co), .int 0, .int 9]) (rest := []) ⟨hx, hb, hml, hown, hts⟩ (zc_X6_checkRange_ok l hnt D G co 0 9 H.size (by first | assumption | rfl | omega | exact Nat.le_trans (zS_le _ _ _) (by omega) | decide) (by first | assumption | rfl | omega | exact Nat.le_trans (zS_le _ _ _) (by omega) | decide) (by first | assumption | rfl | omega | exact Nat.le_trans (zS_le _ _ _) (by omega) | decide) (by first | assumption | rfl | omega | exact Nat.le_trans (zS_le _ _ _) (by omega) | decide) (by first | assumption | rfl | omega | exact Nat.le_trans (zS_le _ _ _) (by omega) | decide)) (cwS 3 hts gzX6_glass_4_X6_checkRange_ok_75 rfl rfl rfl (by decide +kernel) ⟨(Nat.le_of_ble_eq_true rfl), (Nat.le_of_ble_eq_true rfl)⟩) ⟨p_RW_blind, (p_RW_at (tc := []) (wc := []) hP hK hD hS hA hT hZ [] [] rfl rfl (by decide) rfl [.int (nI co), .int 0, .int 9])⟩ rfl rfl hl.1 rfl (lv_room (Nat.le_of_ble_eq_true rfl)) dX6_glass_32 ⟨(Nat.le_of_ble_eq_true rfl), (Nat.le_of_ble_eq_true rfl)⟩) hS (fun q _ h => hFc q h) hFc (fun q _ h => hFc q h) (fun E ce q9 u t H locs ht hvm hpx hBX hz1 hk1 hS hce hcv hcl => ?_) (fun u t H locs ht hvm w_292 hB hz1 hk1 hS => ?_)
        · exact (show False from hBX).elim
        · obtain ⟨hP, hD, hK⟩ := q_join (D := D) (wc := []) (wr := [(xo, .inr (6, [.ref xg, .int 4, .ref xp, .int pc, .ref xq, .int qc, .ref r1, .ref r2, .ref r3, .ref r4, .ref se, .int ts, .int hou, .int dr, .int su, .int br])), (xg, .inl (cg, 6, .inr (.inr (.inr (.inr (zq [some a0, some a1, some a2, some a3, none, none]))))))]) (w1 := []) (tyr := [(cg, .object "Gatherhouse$Glass")]) (ty1 := []) hP hD hK [] [0, 1] [0] rfl rfl (by decide) (by decide) rfl hFc hk1 ht hvm hB
          have hP : va_P D vwCl [(xo, .inr (6, [.ref xg, .int 4, .ref xp, .int pc, .ref xq, .int qc, .ref r1, .ref r2, .ref r3, .ref r4, .ref se, .int ts, .int hou, .int dr, .int su, .int br])), (xg, .inl (cg, 6, .inr (.inr (.inr (.inr (zq [some a0, some a1, some a2, some a3, none, none]))))))] H := hP
          have hD : va_D A [(xo, .inr (6, [.ref xg, .int 4, .ref xp, .int pc, .ref xq, .int qc, .ref r1, .ref r2, .ref r3, .ref r4, .ref se, .int ts, .int hou, .int dr, .int su, .int br])), (xg, .inl (cg, 6, .inr (.inr (.inr (.inr (zq [some a0, some a1, some a2, some a3, none, none]))))))] := hD
          have hK : va_K D vwCl [(cg, .object "Gatherhouse$Glass")] s := hK
          refine lv_aload_n hx hb dX6_glass_35 rfl (lv_at hl 0 rfl) ?_
          refine va_get (D := D) (cl := vwCl) (ci := 6) (v := .int 4) (C := RX6) (T := TX6) (N := 16) hx hb hts zuX6_glass_4_X6 hown hK hP 0 rfl rfl 1 (by decide) (hts (.fieldLink RX6 15 "Gatherhouse" "glassCount" "I") (by decide +kernel)) (fun _ h9 => h9) rfl dX6_glass_36 ?_
          refine lv_if_lt (tgt := 54) hx hb dX6_glass_39 (by decide) (fun cc => absurd cc (by decide)) (fun _ => ?_)
          refine lv_aload_n hx hb dX6_glass_42 rfl (lv_at hl 0 rfl) ?_
          refine va_get (D := D) (cl := vwCl) (ci := 6) (v := .int 4) (C := RX6) (T := TX6) (N := 16) hx hb hts zuX6_glass_4_X6 hown hK hP 0 rfl rfl 1 (by decide) (hts (.fieldLink RX6 15 "Gatherhouse" "glassCount" "I") (by decide +kernel)) (fun _ h9 => h9) rfl dX6_glass_43 ?_
          refine lv_aload_n hx hb dX6_glass_46 rfl (lv_at hl 0 rfl) ?_
          refine va_get (D := D) (cl := vwCl) (ci := 6) (v := .ref xg) (C := RX6) (T := TX6) (N := 16) hx hb hts zuX6_glass_4_X6 hown hK hP 0 rfl rfl 0 (by decide) (hts (.fieldLink RX6 11 "Gatherhouse" "glasses" "[LGatherhouse$Glass;") (by decide +kernel)) (fun _ h9 => h9) rfl dX6_glass_47 ?_
          refine va_alen (D := D) (cl := vwCl) (v := 6) hx hb hK hP 1 0 rfl rfl rfl dX6_glass_50 ?_
          refine lv_icmp_lt (tgt := 64) hx hb dX6_glass_51 (by decide) (fun _ => ?_) (fun cc => absurd (by decide) cc)
          refine lv_aload_n hx hb dX6_glass_64 rfl (lv_at hl 0 rfl) ?_
          refine va_get (D := D) (cl := vwCl) (ci := 6) (v := .ref xg) (C := RX6) (T := TX6) (N := 16) hx hb hts zuX6_glass_4_X6 hown hK hP 0 rfl rfl 0 (by decide) (hts (.fieldLink RX6 11 "Gatherhouse" "glasses" "[LGatherhouse$Glass;") (by decide +kernel)) (fun _ h9 => h9) rfl dX6_glass_65 ?_
          refine lv_aload_n hx hb dX6_glass_68 rfl (lv_at hl 0 rfl) ?_
          refine va_get (D := D) (cl := vwCl) (ci := 6) (v := .int 4) (C := RX6) (T := TX6) (N := 16) hx hb hts zuX6_glass_4_X6 hown hK hP 0 rfl rfl 1 (by decide) (hts (.fieldLink RX6 15 "Gatherhouse" "glassCount" "I") (by decide +kernel)) (fun _ h9 => h9) rfl dX6_glass_69 ?_
          refine va_new (D := D) (cl := vwCl) (ci := 0) (fs := [.int 0, .int 0, .int 0, .int 0]) (C := RX0) (T := TX0) (N := 4) hx hb hts zuX6_glass_4_X0 tyX0 tyX0_ok hown (hts (.classLink RX6 9 RX0) (by decide +kernel)) (hts (.instantiable RX0 4) (by decide +kernel)) (hts (.initialized RX0) (by decide +kernel)) hK hP hD hS hA rfl (fun j hj => by rcases (show j = 0 ∨ j = 1 ∨ j = 2 ∨ j = 3 by omega) with rfl | rfl | rfl | rfl <;> rfl) (Nat.le_of_ble_eq_true rfl) (Nat.le_of_ble_eq_true rfl) dX6_glass_72 (fun o_293 H hP hD hS => ?_)
          have hP : va_P D vwCl [(xo, .inr (6, [.ref xg, .int 4, .ref xp, .int pc, .ref xq, .int qc, .ref r1, .ref r2, .ref r3, .ref r4, .ref se, .int ts, .int hou, .int dr, .int su, .int br])), (xg, .inl (cg, 6, .inr (.inr (.inr (.inr (zq [some a0, some a1, some a2, some a3, none, none])))))), (o_293, .inr (0, [.int 0, .int 0, .int 0, .int 0]))] H := hP
          have hD : va_D A [(xo, .inr (6, [.ref xg, .int 4, .ref xp, .int pc, .ref xq, .int qc, .ref r1, .ref r2, .ref r3, .ref r4, .ref se, .int ts, .int hou, .int dr, .int su, .int br])), (xg, .inl (cg, 6, .inr (.inr (.inr (.inr (zq [some a0, some a1, some a2, some a3, none, none])))))), (o_293, .inr (0, [.int 0, .int 0, .int 0, .int 0]))] := hD
          refine W.widen (k := 1) (n := 4) (Nat.le_of_ble_eq_true rfl) (Nat.le_of_ble_eq_true rfl) ?_
          refine lv_dup hx hb dX6_glass_75 rfl ?_
          refine lv_iload_n hx hb dX6_glass_76 rfl (lv_at hl 1 rfl) ?_
          refine lv_iload_n hx hb dX6_glass_77 rfl (lv_at hl 2 rfl) ?_
          refine lv_iload_n hx hb dX6_glass_78 rfl (lv_at hl 3 rfl) ?_
          refine lv_iload hx hb dX6_glass_79 (lv_at hl 4 rfl) ?_
          have hFc := va_free (wc := [(o_293, .inr (0, [.int 0, .int 0, .int 0, .int 0]))]) hD hS hA [2] rfl
          refine va_callv (va_runIN (As := [.int (nI lo), .int (nI hi), .int (nI xe), .int (nI co)]) (rest := [.ref o_293, .int 4, .ref xg]) ⟨hx, hb, hml, hown, hts⟩ (zc_X0_init l D G o_293 (nI lo) (nI hi) (nI xe) (nI co) H.size) ⟨va_cnB 4 hts gzX6_glass_4_X0_init_86 rfl rfl rfl (hT.1 ("Gatherhouse", 86, ⟨"Gatherhouse$Glass", "<init>", "(IIII)V"⟩, "Gatherhouse") (by decide +kernel)) (hts (.initialized RX0) (by decide +kernel)) (by decide +kernel) ⟨(Nat.le_of_ble_eq_true rfl), (Nat.le_of_ble_eq_true rfl)⟩, rfl, (hts (.instanceMethod yX0_init) (by decide +kernel))⟩ ⟨p_RW_blind, (p_RW_at (tc := []) (wc := [(o_293, .inr (0, [.int 0, .int 0, .int 0, .int 0]))]) hP hK hD hS hA hT hZ [2] [] rfl rfl (by decide) rfl [.ref o_293, .int (nI lo), .int (nI hi), .int (nI xe), .int (nI co)])⟩ rfl rfl hl.1 rfl (lv_room (Nat.le_of_ble_eq_true rfl)) dX6_glass_81 ⟨(Nat.le_of_ble_eq_true rfl), (Nat.le_of_ble_eq_true rfl)⟩) hS (fun q _ h => hFc q h) hFc (fun u t H locs ht hvm w_295 hB hz1 hk1 hS => ?_)
          obtain ⟨hP, hD, hK⟩ := q_join (D := D) (wc := [(o_293, .inr (0, [.int 0, .int 0, .int 0, .int 0]))]) (wr := [(xo, .inr (6, [.ref xg, .int 4, .ref xp, .int pc, .ref xq, .int qc, .ref r1, .ref r2, .ref r3, .ref r4, .ref se, .int ts, .int hou, .int dr, .int su, .int br])), (xg, .inl (cg, 6, .inr (.inr (.inr (.inr (zq [some a0, some a1, some a2, some a3, none, none]))))))]) (w1 := [(o_293, .inr (0, [.int (nI lo), .int (nI hi), .int (nI xe), .int (nI co)]))]) (tyr := [(cg, .object "Gatherhouse$Glass")]) (ty1 := []) hP hD hK [2] [0, 1] [0] rfl rfl (by decide) (by decide) rfl hFc hk1 ht hvm hB
          have hP : va_P D vwCl [(xo, .inr (6, [.ref xg, .int 4, .ref xp, .int pc, .ref xq, .int qc, .ref r1, .ref r2, .ref r3, .ref r4, .ref se, .int ts, .int hou, .int dr, .int su, .int br])), (xg, .inl (cg, 6, .inr (.inr (.inr (.inr (zq [some a0, some a1, some a2, some a3, none, none])))))), (o_293, .inr (0, [.int (nI lo), .int (nI hi), .int (nI xe), .int (nI co)]))] H := hP
          have hD : va_D A [(xo, .inr (6, [.ref xg, .int 4, .ref xp, .int pc, .ref xq, .int qc, .ref r1, .ref r2, .ref r3, .ref r4, .ref se, .int ts, .int hou, .int dr, .int su, .int br])), (xg, .inl (cg, 6, .inr (.inr (.inr (.inr (zq [some a0, some a1, some a2, some a3, none, none])))))), (o_293, .inr (0, [.int (nI lo), .int (nI hi), .int (nI xe), .int (nI co)]))] := hD
          have hK : va_K D vwCl [(cg, .object "Gatherhouse$Glass")] s := hK
          refine va_astq (D := D) (cl := vwCl) hx hb hK hP hD hS 1 0 2 0 rfl rfl rfl rfl (vp_in_nI (n := 4) (N := 6) (by decide) (by decide)) dX6_glass_84 (fun H locs hP hD hS => ?_)
          have hP : va_P D vwCl [(xo, .inr (6, [.ref xg, .int 4, .ref xp, .int pc, .ref xq, .int qc, .ref r1, .ref r2, .ref r3, .ref r4, .ref se, .int ts, .int hou, .int dr, .int su, .int br])), (xg, .inl (cg, 6, .inr (.inr (.inr (.inr (zq [some a0, some a1, some a2, some a3, some o_293, none])))))), (o_293, .inr (0, [.int (nI lo), .int (nI hi), .int (nI xe), .int (nI co)]))] H := by have h9 := hP; rw [zq_upd (i := 4) (l := [some a0, some a1, some a2, some a3, none, none]) (x := some o_293) (k := 4) (l' := [some a0, some a1, some a2, some a3, some o_293, none]) (by decide +kernel) (Nat.lt_of_lt_of_eq (by decide : 4 < 6) rfl) rfl] at h9; exact h9
          have hD : va_D A [(xo, .inr (6, [.ref xg, .int 4, .ref xp, .int pc, .ref xq, .int qc, .ref r1, .ref r2, .ref r3, .ref r4, .ref se, .int ts, .int hou, .int dr, .int su, .int br])), (xg, .inl (cg, 6, .inr (.inr (.inr (.inr (zq [some a0, some a1, some a2, some a3, some o_293, none])))))), (o_293, .inr (0, [.int (nI lo), .int (nI hi), .int (nI xe), .int (nI co)]))] := by have h9 := hD; rw [zq_upd (i := 4) (l := [some a0, some a1, some a2, some a3, none, none]) (x := some o_293) (k := 4) (l' := [some a0, some a1, some a2, some a3, some o_293, none]) (by decide +kernel) (Nat.lt_of_lt_of_eq (by decide : 4 < 6) rfl) rfl] at h9; exact h9
          refine lv_aload_n hx hb dX6_glass_85 rfl (lv_at hl 0 rfl) ?_
          refine lv_dup hx hb dX6_glass_86 rfl ?_
          refine va_get (D := D) (cl := vwCl) (ci := 6) (v := .int 4) (C := RX6) (T := TX6) (N := 16) hx hb hts zuX6_glass_4_X6 hown hK hP 0 rfl rfl 1 (by decide) (hts (.fieldLink RX6 15 "Gatherhouse" "glassCount" "I") (by decide +kernel)) (fun _ h9 => h9) rfl dX6_glass_87 ?_
          refine lv_iconst (v := 1) hx hb dX6_glass_90 (by decide) ?_
          refine lv_iadd hx hb dX6_glass_91 ?_
          refine lv_topi (fun y_296 ey_296 => ?_)
          have ey_296 : y_296 = 5 := ey_296.trans (by decide +kernel)
          subst ey_296
          refine va_put (D := D) (cl := vwCl) (ci := 6) (v := .int 5) (ty := .int) (C := RX6) (T := TX6) (N := 16) hx hb hts zuX6_glass_4_X6 tyX6 tyX6_ok nmX6 hown hK hP hD hS 0 rfl rfl 1 (by decide) (hts (.fieldLink RX6 15 "Gatherhouse" "glassCount" "I") (by decide +kernel)) (fun _ h9 => h9) rfl (by decide +kernel) rfl rfl (Nat.le_of_ble_eq_true rfl) dX6_glass_92 (fun H locs hP hD hS => ?_)
          have hP : va_P D vwCl [(xo, .inr (6, [.ref xg, .int 5, .ref xp, .int pc, .ref xq, .int qc, .ref r1, .ref r2, .ref r3, .ref r4, .ref se, .int ts, .int hou, .int dr, .int su, .int br])), (xg, .inl (cg, 6, .inr (.inr (.inr (.inr (zq [some a0, some a1, some a2, some a3, some o_293, none])))))), (o_293, .inr (0, [.int (nI lo), .int (nI hi), .int (nI xe), .int (nI co)]))] H := hP
          have hD : va_D A [(xo, .inr (6, [.ref xg, .int 5, .ref xp, .int pc, .ref xq, .int qc, .ref r1, .ref r2, .ref r3, .ref r4, .ref se, .int ts, .int hou, .int dr, .int su, .int br])), (xg, .inl (cg, 6, .inr (.inr (.inr (.inr (zq [some a0, some a1, some a2, some a3, some o_293, none])))))), (o_293, .inr (0, [.int (nI lo), .int (nI hi), .int (nI xe), .int (nI co)]))] := hD
          refine lv_aload_n hx hb dX6_glass_95 rfl (lv_at hl 0 rfl) ?_
          refine va_get (D := D) (cl := vwCl) (ci := 6) (v := .int 5) (C := RX6) (T := TX6) (N := 16) hx hb hts zuX6_glass_4_X6 hown hK hP 0 rfl rfl 1 (by decide) (hts (.fieldLink RX6 15 "Gatherhouse" "glassCount" "I") (by decide +kernel)) (fun _ h9 => h9) rfl dX6_glass_96 ?_
          refine lv_iconst (v := 1) hx hb dX6_glass_99 (by decide) ?_
          refine lv_isub hx hb dX6_glass_100 ?_
          refine lv_topi (fun y_297 ey_297 => ?_)
          have ey_297 : y_297 = 4 := ey_297.trans (by decide +kernel)
          subst ey_297
          refine vx_ret ?_
          exact W.iret (v := 4) hx hb hr (fun t ht hW => ⟨⟨4, (), rfl, rfl, ⟨o_293, q_RW_mk hP hK hD [0, 1, 2] [0] rfl rfl (by decide) rfl ht hW.alike⟩⟩, hS.F ht⟩) hS.2.2 dX6_glass_101
def wzEX6_glass_5 : List Cond := [.code yX6_glass cX6_glass 5 (some .int), .methodLink RX6 75 yX6_checkRange, .static yX6_checkRange, .initialized RX6, .code yX6_checkRange cX6_checkRange 3 none, .fieldLink RX6 15 "Gatherhouse" "glassCount" "I", .fieldLink RX6 11 "Gatherhouse" "glasses" "[LGatherhouse$Glass;", .classLink RX6 9 RX0, .instantiable RX0 4, .initialized RX0, .code yX0_init cX0_init 5 none, .methodLink RX0 3 objectInit, .instanceMethod objectInit, .code objectInit ⟨#[0xb1]⟩ 1 none, .fieldLink RX0 9 "Gatherhouse$Glass" "low" "I", .fieldLink RX0 15 "Gatherhouse$Glass" "high" "I", .fieldLink RX0 18 "Gatherhouse$Glass" "expansion" "I", .fieldLink RX0 21 "Gatherhouse$Glass" "colour" "I", .instanceMethod yX0_init]
def wzX6_glass_5 : List Cond := wzEX6_glass_5 ++ (u_ws RX6 TX6 16 ++ (u_ws RX0 TX0 4))
theorem zgEX6_glass_5 : wzEX6_glass_5.all goodWord = true := by decide +kernel
theorem zuX6_glass_5_X6 : ∀ w ∈ u_ws RX6 TX6 16, w ∈ wzX6_glass_5 := (fun _ h => (List.mem_append_right _ (List.mem_append_left _ h)))
theorem zuX6_glass_5_X0 : ∀ w ∈ u_ws RX0 TX0 4, w ∈ wzX6_glass_5 := (fun _ h => (List.mem_append_right _ (List.mem_append_right _ h)))
theorem gzX6_glass_5_X6_checkRange_ok_75 : GoodIn wzX6_glass_5 (va_wsS RX6 75 yX6_checkRange wzX6_checkRange_ok) := (goodIn_app (z_lift (goodIn_r _ [1, 2, 3] rfl (by decide +kernel))) (goodIn_app (z_lift (goodIn_r wzEX6_checkRange_ok [4] rfl zgEX6_checkRange_ok)) z_gnil))
theorem gzX6_glass_5_X0_init_86 : GoodIn wzX6_glass_5 (wzX0_init) := (goodIn_app (z_lift (goodIn_r wzEX0_init [10, 11, 12, 13, 14, 15, 16, 17] rfl zgEX0_init)) (goodIn_sub (fun _ h => (List.mem_append_right _ (List.mem_append_right _ h))) zgU_X0))
set_option maxHeartbeats 4000000 in
set_option maxRecDepth 100000 in
theorem zc_X6_glass_5 (l : Launch) (hnt : l.stackTraces = false) (D : va_G) (G : Nat × Nat × (Nat → Int32)) (xo : Nat) (lo : Nat) (hi : Nat) (xe : Nat) (co : Nat) (xg : Nat) (xp : Nat) (pc : Int32) (xq : Nat) (qc : Int32) (r1 : Nat) (r2 : Nat) (r3 : Nat) (r4 : Nat) (se : Nat) (ts : Int32) (hou : Int32) (dr : Int32) (su : Int32) (br : Int32) (cg : ClassId) (a0 : Nat) (a1 : Nat) (a2 : Nat) (a3 : Nat) (a4 : Nat) (sz : Nat) (g1 : lo ≤ hi) (hl_lo : 600 ≤ lo) (hh_lo : lo ≤ 1100) (hl_hi : 600 ≤ hi) (hh_hi : hi ≤ 1100) (hl_xe : 50 ≤ xe) (hh_xe : xe ≤ 150) (hh_co : co ≤ 9) : vx_Met l yX6_glass wzX6_glass_5 ({ frames := 2, cells := 1, slots := 4, locals := 36 }) (va_Pc [.ref xo, .int (nI lo), .int (nI hi), .int (nI xe), .int (nI co)] (p_RW D G [(cg, .object "Gatherhouse$Glass")] [(xo, .inr (6, [.ref xg, .int 5, .ref xp, .int pc, .ref xq, .int qc, .ref r1, .ref r2, .ref r3, .ref r4, .ref se, .int ts, .int hou, .int dr, .int su, .int br])), (xg, .inl (cg, 6, .inr (.inr (.inr (.inr (zq [some a0, some a1, some a2, some a3, some a4, none]))))))] sz)) (va_Qi (fun (r : Int32) (u : Unit) => r = 5) (fun (u : Unit) (t : State) => ∃ (gn : Nat), q_RW D [(cg, .object "Gatherhouse$Glass")] [(xo, .inr (6, [.ref xg, .int 6, .ref xp, .int pc, .ref xq, .int qc, .ref r1, .ref r2, .ref r3, .ref r4, .ref se, .int ts, .int hou, .int dr, .int su, .int br])), (xg, .inl (cg, 6, .inr (.inr (.inr (.inr (zq [some a0, some a1, some a2, some a3, some a4, some gn])))))), (gn, .inr (0, [.int (nI lo), .int (nI hi), .int (nI xe), .int (nI co)]))] (va_A [(xo, .inr (6, [.ref xg, .int 5, .ref xp, .int pc, .ref xq, .int qc, .ref r1, .ref r2, .ref r3, .ref r4, .ref se, .int ts, .int hou, .int dr, .int su, .int br])), (xg, .inl (cg, 6, .inr (.inr (.inr (.inr (zq [some a0, some a1, some a2, some a3, some a4, none]))))))] sz) t) (va_A [(xo, .inr (6, [.ref xg, .int 5, .ref xp, .int pc, .ref xq, .int qc, .ref r1, .ref r2, .ref r3, .ref r4, .ref se, .int ts, .int hou, .int dr, .int su, .int br])), (xg, .inl (cg, 6, .inr (.inr (.inr (.inr (zq [some a0, some a1, some a2, some a3, some a4, none]))))))] sz)) (vx_X (fun (_ : Unit) => True) (fun E (_ : Unit) (_ : State) => False) (va_A [(xo, .inr (6, [.ref xg, .int 5, .ref xp, .int pc, .ref xq, .int qc, .ref r1, .ref r2, .ref r3, .ref r4, .ref se, .int ts, .int hou, .int dr, .int su, .int br])), (xg, .inl (cg, 6, .inr (.inr (.inr (.inr (zq [some a0, some a1, some a2, some a3, some a4, none]))))))] sz)) 1 4 (va_A [(xo, .inr (6, [.ref xg, .int 5, .ref xp, .int pc, .ref xq, .int qc, .ref r1, .ref r2, .ref r3, .ref r4, .ref se, .int ts, .int hou, .int dr, .int su, .int br])), (xg, .inl (cg, 6, .inr (.inr (.inr (.inr (zq [some a0, some a1, some a2, some a3, some a4, none]))))))] sz) := by
  refine vx_ofW (cc := cX6_glass) (maxL := 5) (ret := (some .int)) (by decide) rfl ?_
  intro p e s m args below meth c s₁ B hml hxt hv
  obtain ⟨rfl, hsz, hP, hK, hD0, hT, hZ⟩ := hv
  have hx := B.exec
  have hb := B.bytes
  have hr := B.returns
  have hts := atoms_spec (ws := wzX6_glass_5) B.pre
  have hown : s.vm.findClass RX6 = some m.cls := findClass_of_methodNamed B.named
  have hlocks := B.notSynchronized
  subst hsz
  have hD := hD0.self (sz := s.heap.size)
  generalize hAe : va_A [(xo, .inr (6, [.ref xg, .int 5, .ref xp, .int pc, .ref xq, .int qc, .ref r1, .ref r2, .ref r3, .ref r4, .ref se, .int ts, .int hou, .int dr, .int su, .int br])), (xg, .inl (cg, 6, .inr (.inr (.inr (.inr (zq [some a0, some a1, some a2, some a3, some a4, none]))))))] s.heap.size = A at hD hZ ⊢
  have hA : ∀ q : Nat, s.heap.size ≤ q → A q := fun q h => by rw [← hAe]; exact Or.inr h
  have hS : va_S A s.heap s.heap [] := va_S.rf
  have hl := lv_entry ([.ref xo, .int (nI lo), .int (nI hi), .int (nI xe), .int (nI co)]) (n := 5) (Nat.le_of_ble_eq_true rfl)
  rw [lg_entry_eq]
  generalize (lg_sl ([.ref xo, .int (nI lo), .int (nI hi), .int (nI xe), .int (nI co)]) ++ List.replicate (5 - (lg_sl ([.ref xo, .int (nI lo), .int (nI hi), .int (nI xe), .int (nI co)])).length) Slot.unset).toArray = ls at hl ⊢
  have hl : lv_has ls 5 [(0, .ref xo), (1, .int (nI lo)), (2, .int (nI hi)), (3, .int (nI xe)), (4, .int (nI co))] := hl
  refine lv_iload_n hx hb dX6_glass_0 rfl (lv_at hl 1 rfl) ?_
  refine lv_sipush (v := 600) hx hb dX6_glass_1 (by decide) ?_
  refine lv_sipush (v := 1100) hx hb dX6_glass_4 (by decide) ?_
  have hFc := va_free (wc := []) hD hS hA [] rfl
  refine vx_callv (vx_runS (As := [.int (nI lo), .int 600, .int 1100]) (rest := []) ⟨hx, hb, hml, hown, hts⟩ (zc_X6_checkRange_ok l hnt D G lo 600 1100 s.heap.size (by first | assumption | rfl | omega | exact Nat.le_trans (zS_le _ _ _) (by omega) | decide) (by first | assumption | rfl | omega | exact Nat.le_trans (zS_le _ _ _) (by omega) | decide) (by first | assumption | rfl | omega | exact Nat.le_trans (zS_le _ _ _) (by omega) | decide) (by first | assumption | rfl | omega | exact Nat.le_trans (zS_le _ _ _) (by omega) | decide) (by first | assumption | rfl | omega | exact Nat.le_trans (zS_le _ _ _) (by omega) | decide)) (cwS 3 hts gzX6_glass_5_X6_checkRange_ok_75 rfl rfl rfl (by decide +kernel) ⟨(Nat.le_of_ble_eq_true rfl), (Nat.le_of_ble_eq_true rfl)⟩) ⟨p_RW_blind, (p_RW_at (tc := []) (wc := []) hP hK hD hS hA hT hZ [] [] rfl rfl (by decide) rfl [.int (nI lo), .int 600, .int 1100])⟩ rfl rfl hl.1 rfl (lv_room (Nat.le_of_ble_eq_true rfl)) dX6_glass_7 ⟨(Nat.le_of_ble_eq_true rfl), (Nat.le_of_ble_eq_true rfl)⟩) hS (fun q _ h => hFc q h) hFc (fun q _ h => hFc q h) (fun E ce q9 u t H locs ht hvm hpx hBX hz1 hk1 hS hce hcv hcl => ?_) (fun u t H locs ht hvm w_299 hB hz1 hk1 hS => ?_)
  · exact (show False from hBX).elim
  · obtain ⟨hP, hD, hK⟩ := q_join (D := D) (wc := []) (wr := [(xo, .inr (6, [.ref xg, .int 5, .ref xp, .int pc, .ref xq, .int qc, .ref r1, .ref r2, .ref r3, .ref r4, .ref se, .int ts, .int hou, .int dr, .int su, .int br])), (xg, .inl (cg, 6, .inr (.inr (.inr (.inr (zq [some a0, some a1, some a2, some a3, some a4, none]))))))]) (w1 := []) (tyr := [(cg, .object "Gatherhouse$Glass")]) (ty1 := []) hP hD hK [] [0, 1] [0] rfl rfl (by decide) (by decide) rfl hFc hk1 ht hvm hB
    have hP : va_P D vwCl [(xo, .inr (6, [.ref xg, .int 5, .ref xp, .int pc, .ref xq, .int qc, .ref r1, .ref r2, .ref r3, .ref r4, .ref se, .int ts, .int hou, .int dr, .int su, .int br])), (xg, .inl (cg, 6, .inr (.inr (.inr (.inr (zq [some a0, some a1, some a2, some a3, some a4, none]))))))] H := hP
    have hD : va_D A [(xo, .inr (6, [.ref xg, .int 5, .ref xp, .int pc, .ref xq, .int qc, .ref r1, .ref r2, .ref r3, .ref r4, .ref se, .int ts, .int hou, .int dr, .int su, .int br])), (xg, .inl (cg, 6, .inr (.inr (.inr (.inr (zq [some a0, some a1, some a2, some a3, some a4, none]))))))] := hD
    have hK : va_K D vwCl [(cg, .object "Gatherhouse$Glass")] s := hK
    refine lv_iload_n hx hb dX6_glass_10 rfl (lv_at hl 2 rfl) ?_
    refine lv_iload_n hx hb dX6_glass_11 rfl (lv_at hl 1 rfl) ?_
    refine lv_sipush (v := 1100) hx hb dX6_glass_12 (by decide) ?_
    have hFc := va_free (wc := []) hD hS hA [] rfl
    refine vx_callv (vx_runS (As := [.int (nI hi), .int (nI lo), .int 1100]) (rest := []) ⟨hx, hb, hml, hown, hts⟩ (zc_X6_checkRange_ok l hnt D G hi lo 1100 H.size (by first | assumption | rfl | omega | exact Nat.le_trans (zS_le _ _ _) (by omega) | decide) (by first | assumption | rfl | omega | exact Nat.le_trans (zS_le _ _ _) (by omega) | decide) (by first | assumption | rfl | omega | exact Nat.le_trans (zS_le _ _ _) (by omega) | decide) (by first | assumption | rfl | omega | exact Nat.le_trans (zS_le _ _ _) (by omega) | decide) (by first | assumption | rfl | omega | exact Nat.le_trans (zS_le _ _ _) (by omega) | decide)) (cwS 3 hts gzX6_glass_5_X6_checkRange_ok_75 rfl rfl rfl (by decide +kernel) ⟨(Nat.le_of_ble_eq_true rfl), (Nat.le_of_ble_eq_true rfl)⟩) ⟨p_RW_blind, (p_RW_at (tc := []) (wc := []) hP hK hD hS hA hT hZ [] [] rfl rfl (by decide) rfl [.int (nI hi), .int (nI lo), .int 1100])⟩ rfl rfl hl.1 rfl (lv_room (Nat.le_of_ble_eq_true rfl)) dX6_glass_15 ⟨(Nat.le_of_ble_eq_true rfl), (Nat.le_of_ble_eq_true rfl)⟩) hS (fun q _ h => hFc q h) hFc (fun q _ h => hFc q h) (fun E ce q9 u t H locs ht hvm hpx hBX hz1 hk1 hS hce hcv hcl => ?_) (fun u t H locs ht hvm w_301 hB hz1 hk1 hS => ?_)
    · exact (show False from hBX).elim
    · obtain ⟨hP, hD, hK⟩ := q_join (D := D) (wc := []) (wr := [(xo, .inr (6, [.ref xg, .int 5, .ref xp, .int pc, .ref xq, .int qc, .ref r1, .ref r2, .ref r3, .ref r4, .ref se, .int ts, .int hou, .int dr, .int su, .int br])), (xg, .inl (cg, 6, .inr (.inr (.inr (.inr (zq [some a0, some a1, some a2, some a3, some a4, none]))))))]) (w1 := []) (tyr := [(cg, .object "Gatherhouse$Glass")]) (ty1 := []) hP hD hK [] [0, 1] [0] rfl rfl (by decide) (by decide) rfl hFc hk1 ht hvm hB
      have hP : va_P D vwCl [(xo, .inr (6, [.ref xg, .int 5, .ref xp, .int pc, .ref xq, .int qc, .ref r1, .ref r2, .ref r3, .ref r4, .ref se, .int ts, .int hou, .int dr, .int su, .int br])), (xg, .inl (cg, 6, .inr (.inr (.inr (.inr (zq [some a0, some a1, some a2, some a3, some a4, none]))))))] H := hP
      have hD : va_D A [(xo, .inr (6, [.ref xg, .int 5, .ref xp, .int pc, .ref xq, .int qc, .ref r1, .ref r2, .ref r3, .ref r4, .ref se, .int ts, .int hou, .int dr, .int su, .int br])), (xg, .inl (cg, 6, .inr (.inr (.inr (.inr (zq [some a0, some a1, some a2, some a3, some a4, none]))))))] := hD
      have hK : va_K D vwCl [(cg, .object "Gatherhouse$Glass")] s := hK
      refine lv_iload_n hx hb dX6_glass_18 rfl (lv_at hl 3 rfl) ?_
      refine lv_bipush (v := 50) hx hb dX6_glass_19 (by decide) ?_
      refine lv_sipush (v := 150) hx hb dX6_glass_21 (by decide) ?_
      have hFc := va_free (wc := []) hD hS hA [] rfl
      refine vx_callv (vx_runS (As := [.int (nI xe), .int 50, .int 150]) (rest := []) ⟨hx, hb, hml, hown, hts⟩ (zc_X6_checkRange_ok l hnt D G xe 50 150 H.size (by first | assumption | rfl | omega | exact Nat.le_trans (zS_le _ _ _) (by omega) | decide) (by first | assumption | rfl | omega | exact Nat.le_trans (zS_le _ _ _) (by omega) | decide) (by first | assumption | rfl | omega | exact Nat.le_trans (zS_le _ _ _) (by omega) | decide) (by first | assumption | rfl | omega | exact Nat.le_trans (zS_le _ _ _) (by omega) | decide) (by first | assumption | rfl | omega | exact Nat.le_trans (zS_le _ _ _) (by omega) | decide)) (cwS 3 hts gzX6_glass_5_X6_checkRange_ok_75 rfl rfl rfl (by decide +kernel) ⟨(Nat.le_of_ble_eq_true rfl), (Nat.le_of_ble_eq_true rfl)⟩) ⟨p_RW_blind, (p_RW_at (tc := []) (wc := []) hP hK hD hS hA hT hZ [] [] rfl rfl (by decide) rfl [.int (nI xe), .int 50, .int 150])⟩ rfl rfl hl.1 rfl (lv_room (Nat.le_of_ble_eq_true rfl)) dX6_glass_24 ⟨(Nat.le_of_ble_eq_true rfl), (Nat.le_of_ble_eq_true rfl)⟩) hS (fun q _ h => hFc q h) hFc (fun q _ h => hFc q h) (fun E ce q9 u t H locs ht hvm hpx hBX hz1 hk1 hS hce hcv hcl => ?_) (fun u t H locs ht hvm w_303 hB hz1 hk1 hS => ?_)
      · exact (show False from hBX).elim
      · obtain ⟨hP, hD, hK⟩ := q_join (D := D) (wc := []) (wr := [(xo, .inr (6, [.ref xg, .int 5, .ref xp, .int pc, .ref xq, .int qc, .ref r1, .ref r2, .ref r3, .ref r4, .ref se, .int ts, .int hou, .int dr, .int su, .int br])), (xg, .inl (cg, 6, .inr (.inr (.inr (.inr (zq [some a0, some a1, some a2, some a3, some a4, none]))))))]) (w1 := []) (tyr := [(cg, .object "Gatherhouse$Glass")]) (ty1 := []) hP hD hK [] [0, 1] [0] rfl rfl (by decide) (by decide) rfl hFc hk1 ht hvm hB
        have hP : va_P D vwCl [(xo, .inr (6, [.ref xg, .int 5, .ref xp, .int pc, .ref xq, .int qc, .ref r1, .ref r2, .ref r3, .ref r4, .ref se, .int ts, .int hou, .int dr, .int su, .int br])), (xg, .inl (cg, 6, .inr (.inr (.inr (.inr (zq [some a0, some a1, some a2, some a3, some a4, none]))))))] H := hP
        have hD : va_D A [(xo, .inr (6, [.ref xg, .int 5, .ref xp, .int pc, .ref xq, .int qc, .ref r1, .ref r2, .ref r3, .ref r4, .ref se, .int ts, .int hou, .int dr, .int su, .int br])), (xg, .inl (cg, 6, .inr (.inr (.inr (.inr (zq [some a0, some a1, some a2, some a3, some a4, none]))))))] := hD
        have hK : va_K D vwCl [(cg, .object "Gatherhouse$Glass")] s := hK
        refine lv_iload hx hb dX6_glass_27 (lv_at hl 4 rfl) ?_
        refine lv_iconst (v := 0) hx hb dX6_glass_29 (by decide) ?_
        refine lv_bipush (v := 9) hx hb dX6_glass_30 (by decide) ?_
        have hFc := va_free (wc := []) hD hS hA [] rfl
        refine vx_callv (vx_runS (As := [.int (nI co), .int 0, .int 9]) (rest := []) ⟨hx, hb, hml, hown, hts⟩ (zc_X6_checkRange_ok l hnt D G co 0 9 H.size (by first | assumption | rfl | omega | exact Nat.le_trans (zS_le _ _ _) (by omega) | decide) (by first | assumption | rfl | omega | exact Nat.le_trans (zS_le _ _ _) (by omega) | decide) (by first | assumption | rfl | omega | exact Nat.le_trans (zS_le _ _ _) (by omega) | decide) (by first | assumption | rfl | omega | exact Nat.le_trans (zS_le _ _ _) (by omega) | decide) (by first | assumption | rfl | omega | exact Nat.le_trans (zS_le _ _ _) (by omega) | decide)) (cwS 3 hts gzX6_glass_5_X6_checkRange_ok_75 rfl rfl rfl (by decide +kernel) ⟨(Nat.le_of_ble_eq_true rfl), (Nat.le_of_ble_eq_true rfl)⟩) ⟨p_RW_blind, (p_RW_at (tc := []) (wc := []) hP hK hD hS hA hT hZ [] [] rfl rfl (by decide) rfl [.int (nI co), .int 0, .int 9])⟩ rfl rfl hl.1 rfl (lv_room (Nat.le_of_ble_eq_true rfl)) dX6_glass_32 ⟨(Nat.le_of_ble_eq_true rfl), (Nat.le_of_ble_eq_true rfl)⟩) hS (fun q _ h => hFc q h) hFc (fun q _ h => hFc q h) (fun E ce q9 u t H locs ht hvm hpx hBX hz1 hk1 hS hce hcv hcl => ?_) (fun u t H locs ht hvm w_305 hB hz1 hk1 hS => ?_)
        · exact (show False from hBX).elim
        · obtain ⟨hP, hD, hK⟩ := q_join (D := D) (wc := []) (wr := [(xo, .inr (6, [.ref xg, .int 5, .ref xp, .int pc, .ref xq, .int qc, .ref r1, .ref r2, .ref r3, .ref r4, .ref se, .int ts, .int hou, .int dr, .int su, .int br])), (xg, .inl (cg, 6, .inr (.inr (.inr (.inr (zq [some a0, some a1, some a2, some a3, some a4, none]))))))]) (w1 := []) (tyr := [(cg, .object "Gatherhouse$Glass")]) (ty1 := []) hP hD hK [] [0, 1] [0] rfl rfl (by decide) (by decide) rfl hFc hk1 ht hvm hB
          have hP : va_P D vwCl [(xo, .inr (6, [.ref xg, .int 5, .ref xp, .int pc, .ref xq, .int qc, .ref r1, .ref r2, .ref r3, .ref r4, .ref se, .int ts, .int hou, .int dr, .int su, .int br])), (xg, .inl (cg, 6, .inr (.inr (.inr (.inr (zq [some a0, some a1, some a2, some a3, some a4, none]))))))] H := hP
          have hD : va_D A [(xo, .inr (6, [.ref xg, .int 5, .ref xp, .int pc, .ref xq, .int qc, .ref r1, .ref r2, .ref r3, .ref r4, .ref se, .int ts, .int hou, .int dr, .int su, .int br])), (xg, .inl (cg, 6, .inr (.inr (.inr (.inr (zq [some a0, some a1, some a2, some a3, some a4, none]))))))] := hD
          have hK : va_K D vwCl [(cg, .object "Gatherhouse$Glass")] s := hK
          refine lv_aload_n hx hb dX6_glass_35 rfl (lv_at hl 0 rfl) ?_
          refine va_get (D := D) (cl := vwCl) (ci := 6) (v := .int 5) (C := RX6) (T := TX6) (N := 16) hx hb hts zuX6_glass_5_X6 hown hK hP 0 rfl rfl 1 (by decide) (hts (.fieldLink RX6 15 "Gatherhouse" "glassCount" "I") (by decide +kernel)) (fun _ h9 => h9) rfl dX6_glass_36 ?_
          refine lv_if_lt (tgt := 54) hx hb dX6_glass_39 (by decide) (fun cc => absurd cc (by decide)) (fun _ => ?_)
          refine lv_aload_n hx hb dX6_glass_42 rfl (lv_at hl 0 rfl) ?_
          refine va_get (D := D) (cl := vwCl) (ci := 6) (v := .int 5) (C := RX6) (T := TX6) (N := 16) hx hb hts zuX6_glass_5_X6 hown hK hP 0 rfl rfl 1 (by decide) (hts (.fieldLink RX6 15 "Gatherhouse" "glassCount" "I") (by decide +kernel)) (fun _ h9 => h9) rfl dX6_glass_43 ?_
          refine lv_aload_n hx hb dX6_glass_46 rfl (lv_at hl 0 rfl) ?_
          refine va_get (D := D) (cl := vwCl) (ci := 6) (v := .ref xg) (C := RX6) (T := TX6) (N := 16) hx hb hts zuX6_glass_5_X6 hown hK hP 0 rfl rfl 0 (by decide) (hts (.fieldLink RX6 11 "Gatherhouse" "glasses" "[LGatherhouse$Glass;") (by decide +kernel)) (fun _ h9 => h9) rfl dX6_glass_47 ?_
          refine va_alen (D := D) (cl := vwCl) (v := 6) hx hb hK hP 1 0 rfl rfl rfl dX6_glass_50 ?_
          refine lv_icmp_lt (tgt := 64) hx hb dX6_glass_51 (by decide) (fun _ => ?_) (fun cc => absurd (by decide) cc)
          refine lv_aload_n hx hb dX6_glass_64 rfl (lv_at hl 0 rfl) ?_
          refine va_get (D := D) (cl := vwCl) (ci := 6) (v := .ref xg) (C := RX6) (T := TX6) (N := 16) hx hb hts zuX6_glass_5_X6 hown hK hP 0 rfl rfl 0 (by decide) (hts (.fieldLink RX6 11 "Gatherhouse" "glasses" "[LGatherhouse$Glass;") (by decide +kernel)) (fun _ h9 => h9) rfl dX6_glass_65 ?_
          refine lv_aload_n hx hb dX6_glass_68 rfl (lv_at hl 0 rfl) ?_
          refine va_get (D := D) (cl := vwCl) (ci := 6) (v := .int 5) (C := RX6) (T := TX6) (N := 16) hx hb hts zuX6_glass_5_X6 hown hK hP 0 rfl rfl 1 (by decide) (hts (.fieldLink RX6 15 "Gatherhouse" "glassCount" "I") (by decide +kernel)) (fun _ h9 => h9) rfl dX6_glass_69 ?_
          refine va_new (D := D) (cl := vwCl) (ci := 0) (fs := [.int 0, .int 0, .int 0, .int 0]) (C := RX0) (T := TX0) (N := 4) hx hb hts zuX6_glass_5_X0 tyX0 tyX0_ok hown (hts (.classLink RX6 9 RX0) (by decide +kernel)) (hts (.instantiable RX0 4) (by decide +kernel)) (hts (.initialized RX0) (by decide +kernel)) hK hP hD hS hA rfl (fun j hj => by rcases (show j = 0 ∨ j = 1 ∨ j = 2 ∨ j = 3 by omega) with rfl | rfl | rfl | rfl <;> rfl) (Nat.le_of_ble_eq_true rfl) (Nat.le_of_ble_eq_true rfl) dX6_glass_72 (fun o_306 H hP hD hS => ?_)
          have hP : va_P D vwCl [(xo, .inr (6, [.ref xg, .int 5, .ref xp, .int pc, .ref xq, .int qc, .ref r1, .ref r2, .ref r3, .ref r4, .ref se, .int ts, .int hou, .int dr, .int su, .int br])), (xg, .inl (cg, 6, .inr (.inr (.inr (.inr (zq [some a0, some a1, some a2, some a3, some a4, none])))))), (o_306, .inr (0, [.int 0, .int 0, .int 0, .int 0]))] H := hP
          have hD : va_D A [(xo, .inr (6, [.ref xg, .int 5, .ref xp, .int pc, .ref xq, .int qc, .ref r1, .ref r2, .ref r3, .ref r4, .ref se, .int ts, .int hou, .int dr, .int su, .int br])), (xg, .inl (cg, 6, .inr (.inr (.inr (.inr (zq [some a0, some a1, some a2, some a3, some a4, none])))))), (o_306, .inr (0, [.int 0, .int 0, .int 0, .int 0]))] := hD
          refine W.widen (k := 1) (n := 4) (Nat.le_of_ble_eq_true rfl) (Nat.le_of_ble_eq_true rfl) ?_
          refine lv_dup hx hb dX6_glass_75 rfl ?_
          refine lv_iload_n hx hb dX6_glass_76 rfl (lv_at hl 1 rfl) ?_
          refine lv_iload_n hx hb dX6_glass_77 rfl (lv_at hl 2 rfl) ?_
          refine lv_iload_n hx hb dX6_glass_78 rfl (lv_at hl 3 rfl) ?_
          refine lv_iload hx hb dX6_glass_79 (lv_at hl 4 rfl) ?_
          have hFc := va_free (wc := [(o_306, .inr (0, [.int 0, .int 0, .int 0, .int 0]))]) hD hS hA [2] rfl
          refine va_callv (va_runIN (As := [.int (nI lo), .int (nI hi), .int (nI xe), .int (nI co)]) (rest := [.ref o_306, .int 5, .ref xg]) ⟨hx, hb, hml, hown, hts⟩ (zc_X0_init l D G o_306 (nI lo) (nI hi) (nI xe) (nI co) H.size) ⟨va_cnB 4 hts gzX6_glass_5_X0_init_86 rfl rfl rfl (hT.1 ("Gatherhouse", 86, ⟨"Gatherhouse$Glass", "<init>", "(IIII)V"⟩, "Gatherhouse") (by decide +kernel)) (hts (.initialized RX0) (by decide +kernel)) (by decide +kernel) ⟨(Nat.le_of_ble_eq_true rfl), (Nat.le_of_ble_eq_true rfl)⟩, rfl, (hts (.instanceMethod yX0_init) (by decide +kernel))⟩ ⟨p_RW_blind, (p_RW_at (tc := []) (wc := [(o_306, .inr (0, [.int 0, .int 0, .int 0, .int 0]))]) hP hK hD hS hA hT hZ [2] [] rfl rfl (by decide) rfl [.ref o_306, .int (nI lo), .int (nI hi), .int (nI xe), .int (nI co)])⟩ rfl rfl hl.1 rfl (lv_room (Nat.le_of_ble_eq_true rfl)) dX6_glass_81 ⟨(Nat.le_of_ble_eq_true rfl), (Nat.le_of_ble_eq_true rfl)⟩) hS (fun q _ h => hFc q h) hFc (fun u t H locs ht hvm w_308 hB hz1 hk1 hS => ?_)
          obtain ⟨hP, hD, hK⟩ := q_join (D := D) (wc := [(o_306, .inr (0, [.int 0, .int 0, .int 0, .int 0]))]) (wr := [(xo, .inr (6, [.ref xg, .int 5, .ref xp, .int pc, .ref xq, .int qc, .ref r1, .ref r2, .ref r3, .ref r4, .ref se, .int ts, .int hou, .int dr, .int su, .int br])), (xg, .inl (cg, 6, .inr (.inr (.inr (.inr (zq [some a0, some a1, some a2, some a3, some a4, none]))))))]) (w1 := [(o_306, .inr (0, [.int (nI lo), .int (nI hi), .int (nI xe), .int (nI co)]))]) (tyr := [(cg, .object "Gatherhouse$Glass")]) (ty1 := []) hP hD hK [2] [0, 1] [0] rfl rfl (by decide) (by decide) rfl hFc hk1 ht hvm hB
          have hP : va_P D vwCl [(xo, .inr (6, [.ref xg, .int 5, .ref xp, .int pc, .ref xq, .int qc, .ref r1, .ref r2, .ref r3, .ref r4, .ref se, .int ts, .int hou, .int dr, .int su, .int br])), (xg, .inl (cg, 6, .inr (.inr (.inr (.inr (zq [some a0, some a1, some a2, some a3, some a4, none])))))), (o_306, .inr (0, [.int (nI lo), .int (nI hi), .int (nI xe), .int (nI co)]))] H := hP
          have hD : va_D A [(xo, .inr (6, [.ref xg, .int 5, .ref xp, .int pc, .ref xq, .int qc, .ref r1, .ref r2, .ref r3, .ref r4, .ref se, .int ts, .int hou, .int dr, .int su, .int br])), (xg, .inl (cg, 6, .inr (.inr (.inr (.inr (zq [some a0, some a1, some a2, some a3, some a4, none])))))), (o_306, .inr (0, [.int (nI lo), .int (nI hi), .int (nI xe), .int (nI co)]))] := hD
          have hK : va_K D vwCl [(cg, .object "Gatherhouse$Glass")] s := hK
          refine va_astq (D := D) (cl := vwCl) hx hb hK hP hD hS 1 0 2 0 rfl rfl rfl rfl (vp_in_nI (n := 5) (N := 6) (by decide) (by decide)) dX6_glass_84 (fun H locs hP hD hS => ?_)
          have hP : va_P D vwCl [(xo, .inr (6, [.ref xg, .int 5, .ref xp, .int pc, .ref xq, .int qc, .ref r1, .ref r2, .ref r3, .ref r4, .ref se, .int ts, .int hou, .int dr, .int su, .int br])), (xg, .inl (cg, 6, .inr (.inr (.inr (.inr (zq [some a0, some a1, some a2, some a3, some a4, some o_306])))))), (o_306, .inr (0, [.int (nI lo), .int (nI hi), .int (nI xe), .int (nI co)]))] H := by have h9 := hP; rw [zq_upd (i := 5) (l := [some a0, some a1, some a2, some a3, some a4, none]) (x := some o_306) (k := 5) (l' := [some a0, some a1, some a2, some a3, some a4, some o_306]) (by decide +kernel) (Nat.lt_of_lt_of_eq (by decide : 5 < 6) rfl) rfl] at h9; exact h9
          have hD : va_D A [(xo, .inr (6, [.ref xg, .int 5, .ref xp, .int pc, .ref xq, .int qc, .ref r1, .ref r2, .ref r3, .ref r4, .ref se, .int ts, .int hou, .int dr, .int su, .int br])), (xg, .inl (cg, 6, .inr (.inr (.inr (.inr (zq [some a0, some a1, some a2, some a3, some a4, some o_306])))))), (o_306, .inr (0, [.int (nI lo), .int (nI hi), .int (nI xe), .int (nI co)]))] := by have h9 := hD; rw [zq_upd (i := 5) (l := [some a0, some a1, some a2, some a3, some a4, none]) (x := some o_306) (k := 5) (l' := [some a0, some a1, some a2, some a3, some a4, some o_306]) (by decide +kernel) (Nat.lt_of_lt_of_eq (by decide : 5 < 6) rfl) rfl] at h9; exact h9
          refine lv_aload_n hx hb dX6_glass_85 rfl (lv_at hl 0 rfl) ?_
          refine lv_dup hx hb dX6_glass_86 rfl ?_
          refine va_get (D := D) (cl := vwCl) (ci := 6) (v := .int 5) (C := RX6) (T := TX6) (N := 16) hx hb hts zuX6_glass_5_X6 hown hK hP 0 rfl rfl 1 (by decide) (hts (.fieldLink RX6 15 "Gatherhouse" "glassCount" "I") (by decide +kernel)) (fun _ h9 => h9) rfl dX6_glass_87 ?_
          refine lv_iconst (v := 1) hx hb dX6_glass_90 (by decide) ?_
          refine lv_iadd hx hb dX6_glass_91 ?_
          refine lv_topi (fun y_309 ey_309 => ?_)
          have ey_309 : y_309 = 6 := ey_309.trans (by decide +kernel)
          subst ey_309
          refine va_put (D := D) (cl := vwCl) (ci := 6) (v := .int 6) (ty := .int) (C := RX6) (T := TX6) (N := 16) hx hb hts zuX6_glass_5_X6 tyX6 tyX6_ok nmX6 hown hK hP hD hS 0 rfl rfl 1 (by decide) (hts (.fieldLink RX6 15 "Gatherhouse" "glassCount" "I") (by decide +kernel)) (fun _ h9 => h9) rfl (by decide +kernel) rfl rfl (Nat.le_of_ble_eq_true rfl) dX6_glass_92 (fun H locs hP hD hS => ?_)
          have hP : va_P D vwCl [(xo, .inr (6, [.ref xg, .int 6, .ref xp, .int pc, .ref xq, .int qc, .ref r1, .ref r2, .ref r3, .ref r4, .ref se, .int ts, .int hou, .int dr, .int su, .int br])), (xg, .inl (cg, 6, .inr (.inr (.inr (.inr (zq [some a0, some a1, some a2, some a3, some a4, some o_306])))))), (o_306, .inr (0, [.int (nI lo), .int (nI hi), .int (nI xe), .int (nI co)]))] H := hP
          have hD : va_D A [(xo, .inr (6, [.ref xg, .int 6, .ref xp, .int pc, .ref xq, .int qc, .ref r1, .ref r2, .ref r3, .ref r4, .ref se, .int ts, .int hou, .int dr, .int su, .int br])), (xg, .inl (cg, 6, .inr (.inr (.inr (.inr (zq [some a0, some a1, some a2, some a3, some a4, some o_306])))))), (o_306, .inr (0, [.int (nI lo), .int (nI hi), .int (nI xe), .int (nI co)]))] := hD
          refine lv_aload_n hx hb dX6_glass_95 rfl (lv_at hl 0 rfl) ?_
          refine va_get (D := D) (cl := vwCl) (ci := 6) (v := .int 6) (C := RX6) (T := TX6) (N := 16) hx hb hts zuX6_glass_5_X6 hown hK hP 0 rfl rfl 1 (by decide) (hts (.fieldLink RX6 15 "Gatherhouse" "glassCount" "I") (by decide +kernel)) (fun _ h9 => h9) rfl dX6_glass_96 ?_
          refine lv_iconst (v := 1) hx hb dX6_glass_99 (by decide) ?_
          refine lv_isub hx hb dX6_glass_100 ?_
          refine lv_topi (fun y_310 ey_310 => ?_)
          have ey_310 : y_310 = 5 := ey_310.trans (by decide +kernel)
          subst ey_310
          refine vx_ret ?_
          exact W.iret (v := 5) hx hb hr (fun t ht hW => ⟨⟨5, (), rfl, rfl, ⟨o_306, q_RW_mk hP hK hD [0, 1, 2] [0] rfl rfl (by decide) rfl ht hW.alike⟩⟩, hS.F ht⟩) hS.2.2 dX6_glass_101
theorem dX6_glass_54 : decode cX6_glass 54 = .ok (.new 79, 3) := by decide +kernel
theorem dX6_glass_57 : decode cX6_glass 57 = .ok (.dup, 1) := by decide +kernel
theorem dX6_glass_58 : decode cX6_glass 58 = .ok (.ldc 81, 2) := by decide +kernel
theorem dX6_glass_60 : decode cX6_glass 60 = .ok (.invokespecial 83, 3) := by decide +kernel
theorem dX6_glass_63 : decode cX6_glass 63 = .ok (.athrow, 1) := by decide +kernel
def wzEX6_glass_full : List Cond := [.code yX6_glass cX6_glass 5 (some .int), .methodLink RX6 75 yX6_checkRange, .static yX6_checkRange, .initialized RX6, .code yX6_checkRange cX6_checkRange 3 none, .fieldLink RX6 15 "Gatherhouse" "glassCount" "I", .fieldLink RX6 11 "Gatherhouse" "glasses" "[LGatherhouse$Glass;", .classLink RX6 79 "java/lang/IllegalStateException", .initialized "java/lang/IllegalStateException"]
def wzX6_glass_full : List Cond := wzEX6_glass_full ++ (u_ws RX6 TX6 16 ++ ((vx_atS RX6 83 "java/lang/IllegalStateException" ["java/lang/RuntimeException", "java/lang/Exception"]).filter goodWord))
theorem zgEX6_glass_full : wzEX6_glass_full.all goodWord = true := by decide +kernel
theorem zuX6_glass_full_X6 : ∀ w ∈ u_ws RX6 TX6 16, w ∈ wzX6_glass_full := (fun _ h => (List.mem_append_right _ (List.mem_append_left _ h)))
theorem ztX6_glass_full_X6_83 : ∀ w ∈ (vx_atS RX6 83 "java/lang/IllegalStateException" ["java/lang/RuntimeException", "java/lang/Exception"]).filter goodWord, w ∈ wzX6_glass_full := (fun _ h => (List.mem_append_right _ (List.mem_append_right _ h)))
theorem gzX6_glass_full_X6_checkRange_ok_75 : GoodIn wzX6_glass_full (va_wsS RX6 75 yX6_checkRange wzX6_checkRange_ok) := (goodIn_app (z_lift (goodIn_r _ [1, 2, 3] rfl (by decide +kernel))) (goodIn_app (z_lift (goodIn_r wzEX6_checkRange_ok [4] rfl zgEX6_checkRange_ok)) z_gnil))
set_option maxHeartbeats 4000000 in
set_option maxRecDepth 100000 in
theorem zc_X6_glass_full (l : Launch) (hnt : l.stackTraces = false) (D : va_G) (G : Nat × Nat × (Nat → Int32)) (xo : Nat) (xg : Nat) (xp : Nat) (pc : Int32) (xq : Nat) (qc : Int32) (r1 : Nat) (r2 : Nat) (r3 : Nat) (r4 : Nat) (se : Nat) (ts : Int32) (hou : Int32) (dr : Int32) (su : Int32) (br : Int32) (cg : ClassId) (a0 : Nat) (a1 : Nat) (a2 : Nat) (a3 : Nat) (a4 : Nat) (a5 : Nat) (sz : Nat) : vx_Met l yX6_glass wzX6_glass_full ({ frames := 6, cells := 1, slots := 6, locals := 82 }) (va_Pc [.ref xo, .int 600, .int 700, .int 50, .int 0] (p_RW D G [(cg, .object "Gatherhouse$Glass")] [(xo, .inr (6, [.ref xg, .int 6, .ref xp, .int pc, .ref xq, .int qc, .ref r1, .ref r2, .ref r3, .ref r4, .ref se, .int ts, .int hou, .int dr, .int su, .int br])), (xg, .inl (cg, 6, .inr (.inr (.inr (.inr (zq [some a0, some a1, some a2, some a3, some a4, some a5]))))))] sz)) (va_Qi (fun (r : Int32) (u : Unit) => False) (fun (u : Unit) (t : State) => q_RW D [(cg, .object "Gatherhouse$Glass")] [(xo, .inr (6, [.ref xg, .int 6, .ref xp, .int pc, .ref xq, .int qc, .ref r1, .ref r2, .ref r3, .ref r4, .ref se, .int ts, .int hou, .int dr, .int su, .int br])), (xg, .inl (cg, 6, .inr (.inr (.inr (.inr (zq [some a0, some a1, some a2, some a3, some a4, some a5]))))))] (va_A [(xo, .inr (6, [.ref xg, .int 6, .ref xp, .int pc, .ref xq, .int qc, .ref r1, .ref r2, .ref r3, .ref r4, .ref se, .int ts, .int hou, .int dr, .int su, .int br])), (xg, .inl (cg, 6, .inr (.inr (.inr (.inr (zq [some a0, some a1, some a2, some a3, some a4, some a5]))))))] sz) t) (va_A [(xo, .inr (6, [.ref xg, .int 6, .ref xp, .int pc, .ref xq, .int qc, .ref r1, .ref r2, .ref r3, .ref r4, .ref se, .int ts, .int hou, .int dr, .int su, .int br])), (xg, .inl (cg, 6, .inr (.inr (.inr (.inr (zq [some a0, some a1, some a2, some a3, some a4, some a5]))))))] sz)) (vx_X (fun (_ : Unit) => True) (fun E (_ : Unit) (t : State) => ((E = "java/lang/IllegalStateException")) ∧ q_RW D [(cg, .object "Gatherhouse$Glass")] [(xo, .inr (6, [.ref xg, .int 6, .ref xp, .int pc, .ref xq, .int qc, .ref r1, .ref r2, .ref r3, .ref r4, .ref se, .int ts, .int hou, .int dr, .int su, .int br])), (xg, .inl (cg, 6, .inr (.inr (.inr (.inr (zq [some a0, some a1, some a2, some a3, some a4, some a5]))))))] (va_A [(xo, .inr (6, [.ref xg, .int 6, .ref xp, .int pc, .ref xq, .int qc, .ref r1, .ref r2, .ref r3, .ref r4, .ref se, .int ts, .int hou, .int dr, .int su, .int br])), (xg, .inl (cg, 6, .inr (.inr (.inr (.inr (zq [some a0, some a1, some a2, some a3, some a4, some a5]))))))] sz) t) (va_A [(xo, .inr (6, [.ref xg, .int 6, .ref xp, .int pc, .ref xq, .int qc, .ref r1, .ref r2, .ref r3, .ref r4, .ref se, .int ts, .int hou, .int dr, .int su, .int br])), (xg, .inl (cg, 6, .inr (.inr (.inr (.inr (zq [some a0, some a1, some a2, some a3, some a4, some a5]))))))] sz)) 1 6 (va_A [(xo, .inr (6, [.ref xg, .int 6, .ref xp, .int pc, .ref xq, .int qc, .ref r1, .ref r2, .ref r3, .ref r4, .ref se, .int ts, .int hou, .int dr, .int su, .int br])), (xg, .inl (cg, 6, .inr (.inr (.inr (.inr (zq [some a0, some a1, some a2, some a3, some a4, some a5]))))))] sz) := by
  refine vx_ofW (cc := cX6_glass) (maxL := 5) (ret := (some .int)) (by decide) rfl ?_
  intro p e s m args below meth c s₁ B hml hxt hv
  obtain ⟨rfl, hsz, hP, hK, hD0, hT, hZ⟩ := hv
  have hx := B.exec
  have hb := B.bytes
  have hr := B.returns
  have hts := atoms_spec (ws := wzX6_glass_full) B.pre
  have hown : s.vm.findClass RX6 = some m.cls := findClass_of_methodNamed B.named
  have hlocks := B.notSynchronized
  subst hsz
  have hD := hD0.self (sz := s.heap.size)
  generalize hAe : va_A [(xo, .inr (6, [.ref xg, .int 6, .ref xp, .int pc, .ref xq, .int qc, .ref r1, .ref r2, .ref r3, .ref r4, .ref se, .int ts, .int hou, .int dr, .int su, .int br])), (xg, .inl (cg, 6, .inr (.inr (.inr (.inr (zq [some a0, some a1, some a2, some a3, some a4, some a5]))))))] s.heap.size = A at hD hZ ⊢
  have hA : ∀ q : Nat, s.heap.size ≤ q → A q := fun q h => by rw [← hAe]; exact Or.inr h
  have hS : va_S A s.heap s.heap [] := va_S.rf
  have hl := lv_entry ([.ref xo, .int 600, .int 700, .int 50, .int 0]) (n := 5) (Nat.le_of_ble_eq_true rfl)
  rw [lg_entry_eq]
  generalize (lg_sl ([.ref xo, .int 600, .int 700, .int 50, .int 0]) ++ List.replicate (5 - (lg_sl ([.ref xo, .int 600, .int 700, .int 50, .int 0])).length) Slot.unset).toArray = ls at hl ⊢
  have hl : lv_has ls 5 [(0, .ref xo), (1, .int 600), (2, .int 700), (3, .int 50), (4, .int 0)] := hl
  refine lv_iload_n hx hb dX6_glass_0 rfl (lv_at hl 1 rfl) ?_
  refine lv_sipush (v := 600) hx hb dX6_glass_1 (by decide) ?_
  refine lv_sipush (v := 1100) hx hb dX6_glass_4 (by decide) ?_
  have hFc := va_free (wc := []) hD hS hA [] rfl
  refine vx_callv (vx_runS (As := [.int 600, .int 600, .int 1100]) (rest := []) ⟨hx, hb, hml, hown, hts⟩ (zc_X6_checkRange_ok l hnt D G 600 600 1100 s.heap.size (by first | assumption | rfl | omega | exact Nat.le_trans (zS_le _ _ _) (by omega) | decide) (by first | assumption | rfl | omega | exact Nat.le_trans (zS_le _ _ _) (by omega) | decide) (by first | assumption | rfl | omega | exact Nat.le_trans (zS_le _ _ _) (by omega) | decide) (by first | assumption | rfl | omega | exact Nat.le_trans (zS_le _ _ _) (by omega) | decide) (by first | assumption | rfl | omega | exact Nat.le_trans (zS_le _ _ _) (by omega) | decide)) (cwS 3 hts gzX6_glass_full_X6_checkRange_ok_75 rfl rfl rfl (by decide +kernel) ⟨(Nat.le_of_ble_eq_true rfl), (Nat.le_of_ble_eq_true rfl)⟩) ⟨p_RW_blind, (p_RW_at (tc := []) (wc := []) hP hK hD hS hA hT hZ [] [] rfl rfl (by decide) rfl [.int 600, .int 600, .int 1100])⟩ rfl rfl hl.1 rfl (lv_room (Nat.le_of_ble_eq_true rfl)) dX6_glass_7 ⟨(Nat.le_of_ble_eq_true rfl), (Nat.le_of_ble_eq_true rfl)⟩) hS (fun q _ h => hFc q h) hFc (fun q _ h => hFc q h) (fun E ce q9 u t H locs ht hvm hpx hBX hz1 hk1 hS hce hcv hcl => ?_) (fun u t H locs ht hvm w_312 hB hz1 hk1 hS => ?_)
  · exact (show False from hBX).elim
  · obtain ⟨hP, hD, hK⟩ := q_join (D := D) (wc := []) (wr := [(xo, .inr (6, [.ref xg, .int 6, .ref xp, .int pc, .ref xq, .int qc, .ref r1, .ref r2, .ref r3, .ref r4, .ref se, .int ts, .int hou, .int dr, .int su, .int br])), (xg, .inl (cg, 6, .inr (.inr (.inr (.inr (zq [some a0, some a1, some a2, some a3, some a4, some a5]))))))]) (w1 := []) (tyr := [(cg, .object "Gatherhouse$Glass")]) (ty1 := []) hP hD hK [] [0, 1] [0] rfl rfl (by decide) (by decide) rfl hFc hk1 ht hvm hB
    have hP : va_P D vwCl [(xo, .inr (6, [.ref xg, .int 6, .ref xp, .int pc, .ref xq, .int qc, .ref r1, .ref r2, .ref r3, .ref r4, .ref se, .int ts, .int hou, .int dr, .int su, .int br])), (xg, .inl (cg, 6, .inr (.inr (.inr (.inr (zq [some a0, some a1, some a2, some a3, some a4, some a5]))))))] H := hP
    have hD : va_D A [(xo, .inr (6, [.ref xg, .int 6, .ref xp, .int pc, .ref xq, .int qc, .ref r1, .ref r2, .ref r3, .ref r4, .ref se, .int ts, .int hou, .int dr, .int su, .int br])), (xg, .inl (cg, 6, .inr (.inr (.inr (.inr (zq [some a0, some a1, some a2, some a3, some a4, some a5]))))))] := hD
    have hK : va_K D vwCl [(cg, .object "Gatherhouse$Glass")] s := hK
    refine lv_iload_n hx hb dX6_glass_10 rfl (lv_at hl 2 rfl) ?_
    refine lv_iload_n hx hb dX6_glass_11 rfl (lv_at hl 1 rfl) ?_
    refine lv_sipush (v := 1100) hx hb dX6_glass_12 (by decide) ?_
    have hFc := va_free (wc := []) hD hS hA [] rfl
    refine vx_callv (vx_runS (As := [.int 700, .int 600, .int 1100]) (rest := []) ⟨hx, hb, hml, hown, hts⟩ (zc_X6_checkRange_ok l hnt D G 700 600 1100 H.size (by first | assumption | rfl | omega | exact Nat.le_trans (zS_le _ _ _) (by omega) | decide) (by first | assumption | rfl | omega | exact Nat.le_trans (zS_le _ _ _) (by omega) | decide) (by first | assumption | rfl | omega | exact Nat.le_trans (zS_le _ _ _) (by omega) | decide) (by first | assumption | rfl | omega | exact Nat.le_trans (zS_le _ _ _) (by omega) | decide) (by first | assumption | rfl | omega | exact Nat.le_trans (zS_le _ _ _) (by omega) | decide)) (cwS 3 hts gzX6_glass_full_X6_checkRange_ok_75 rfl rfl rfl (by decide +kernel) ⟨(Nat.le_of_ble_eq_true rfl), (Nat.le_of_ble_eq_true rfl)⟩) ⟨p_RW_blind, (p_RW_at (tc := []) (wc := []) hP hK hD hS hA hT hZ [] [] rfl rfl (by decide) rfl [.int 700, .int 600, .int 1100])⟩ rfl rfl hl.1 rfl (lv_room (Nat.le_of_ble_eq_true rfl)) dX6_glass_15 ⟨(Nat.le_of_ble_eq_true rfl), (Nat.le_of_ble_eq_true rfl)⟩) hS (fun q _ h => hFc q h) hFc (fun q _ h => hFc q h) (fun E ce q9 u t H locs ht hvm hpx hBX hz1 hk1 hS hce hcv hcl => ?_) (fun u t H locs ht hvm w_314 hB hz1 hk1 hS => ?_)
    · exact (show False from hBX).elim
    · obtain ⟨hP, hD, hK⟩ := q_join (D := D) (wc := []) (wr := [(xo, .inr (6, [.ref xg, .int 6, .ref xp, .int pc, .ref xq, .int qc, .ref r1, .ref r2, .ref r3, .ref r4, .ref se, .int ts, .int hou, .int dr, .int su, .int br])), (xg, .inl (cg, 6, .inr (.inr (.inr (.inr (zq [some a0, some a1, some a2, some a3, some a4, some a5]))))))]) (w1 := []) (tyr := [(cg, .object "Gatherhouse$Glass")]) (ty1 := []) hP hD hK [] [0, 1] [0] rfl rfl (by decide) (by decide) rfl hFc hk1 ht hvm hB
      have hP : va_P D vwCl [(xo, .inr (6, [.ref xg, .int 6, .ref xp, .int pc, .ref xq, .int qc, .ref r1, .ref r2, .ref r3, .ref r4, .ref se, .int ts, .int hou, .int dr, .int su, .int br])), (xg, .inl (cg, 6, .inr (.inr (.inr (.inr (zq [some a0, some a1, some a2, some a3, some a4, some a5]))))))] H := hP
      have hD : va_D A [(xo, .inr (6, [.ref xg, .int 6, .ref xp, .int pc, .ref xq, .int qc, .ref r1, .ref r2, .ref r3, .ref r4, .ref se, .int ts, .int hou, .int dr, .int su, .int br])), (xg, .inl (cg, 6, .inr (.inr (.inr (.inr (zq [some a0, some a1, some a2, some a3, some a4, some a5]))))))] := hD
      have hK : va_K D vwCl [(cg, .object "Gatherhouse$Glass")] s := hK
      refine lv_iload_n hx hb dX6_glass_18 rfl (lv_at hl 3 rfl) ?_
      refine lv_bipush (v := 50) hx hb dX6_glass_19 (by decide) ?_
      refine lv_sipush (v := 150) hx hb dX6_glass_21 (by decide) ?_
      have hFc := va_free (wc := []) hD hS hA [] rfl
      refine vx_callv (vx_runS (As := [.int 50, .int 50, .int 150]) (rest := []) ⟨hx, hb, hml, hown, hts⟩ (zc_X6_checkRange_ok l hnt D G 50 50 150 H.size (by first | assumption | rfl | omega | exact Nat.le_trans (zS_le _ _ _) (by omega) | decide) (by first | assumption | rfl | omega | exact Nat.le_trans (zS_le _ _ _) (by omega) | decide) (by first | assumption | rfl | omega | exact Nat.le_trans (zS_le _ _ _) (by omega) | decide) (by first | assumption | rfl | omega | exact Nat.le_trans (zS_le _ _ _) (by omega) | decide) (by first | assumption | rfl | omega | exact Nat.le_trans (zS_le _ _ _) (by omega) | decide)) (cwS 3 hts gzX6_glass_full_X6_checkRange_ok_75 rfl rfl rfl (by decide +kernel) ⟨(Nat.le_of_ble_eq_true rfl), (Nat.le_of_ble_eq_true rfl)⟩) ⟨p_RW_blind, (p_RW_at (tc := []) (wc := []) hP hK hD hS hA hT hZ [] [] rfl rfl (by decide) rfl [.int 50, .int 50, .int 150])⟩ rfl rfl hl.1 rfl (lv_room (Nat.le_of_ble_eq_true rfl)) dX6_glass_24 ⟨(Nat.le_of_ble_eq_true rfl), (Nat.le_of_ble_eq_true rfl)⟩) hS (fun q _ h => hFc q h) hFc (fun q _ h => hFc q h) (fun E ce q9 u t H locs ht hvm hpx hBX hz1 hk1 hS hce hcv hcl => ?_) (fun u t H locs ht hvm w_316 hB hz1 hk1 hS => ?_)
      · exact (show False from hBX).elim
      · obtain ⟨hP, hD, hK⟩ := q_join (D := D) (wc := []) (wr := [(xo, .inr (6, [.ref xg, .int 6, .ref xp, .int pc, .ref xq, .int qc, .ref r1, .ref r2, .ref r3, .ref r4, .ref se, .int ts, .int hou, .int dr, .int su, .int br])), (xg, .inl (cg, 6, .inr (.inr (.inr (.inr (zq [some a0, some a1, some a2, some a3, some a4, some a5]))))))]) (w1 := []) (tyr := [(cg, .object "Gatherhouse$Glass")]) (ty1 := []) hP hD hK [] [0, 1] [0] rfl rfl (by decide) (by decide) rfl hFc hk1 ht hvm hB
        have hP : va_P D vwCl [(xo, .inr (6, [.ref xg, .int 6, .ref xp, .int pc, .ref xq, .int qc, .ref r1, .ref r2, .ref r3, .ref r4, .ref se, .int ts, .int hou, .int dr, .int su, .int br])), (xg, .inl (cg, 6, .inr (.inr (.inr (.inr (zq [some a0, some a1, some a2, some a3, some a4, some a5]))))))] H := hP
        have hD : va_D A [(xo, .inr (6, [.ref xg, .int 6, .ref xp, .int pc, .ref xq, .int qc, .ref r1, .ref r2, .ref r3, .ref r4, .ref se, .int ts, .int hou, .int dr, .int su, .int br])), (xg, .inl (cg, 6, .inr (.inr (.inr (.inr (zq [some a0, some a1, some a2, some a3, some a4, some a5]))))))] := hD
        have hK : va_K D vwCl [(cg, .object "Gatherhouse$Glass")] s := hK
        refine lv_iload hx hb dX6_glass_27 (lv_at hl 4 rfl) ?_
        refine lv_iconst (v := 0) hx hb dX6_glass_29 (by decide) ?_
        refine lv_bipush (v := 9) hx hb dX6_glass_30 (by decide) ?_
        have hFc := va_free (wc := []) hD hS hA [] rfl
        refine vx_callv (vx_runS (As := [.int 0, .int 0, .int 9]) (rest := []) ⟨hx, hb, hml, hown, hts⟩ (zc_X6_checkRange_ok l hnt D G 0 0 9 H.size (by first | assumption | rfl | omega | exact Nat.le_trans (zS_le _ _ _) (by omega) | decide) (by first | assumption | rfl | omega | exact Nat.le_trans (zS_le _ _ _) (by omega) | decide) (by first | assumption | rfl | omega | exact Nat.le_trans (zS_le _ _ _) (by omega) | decide) (by first | assumption | rfl | omega | exact Nat.le_trans (zS_le _ _ _) (by omega) | decide) (by first | assumption | rfl | omega | exact Nat.le_trans (zS_le _ _ _) (by omega) | decide)) (cwS 3 hts gzX6_glass_full_X6_checkRange_ok_75 rfl rfl rfl (by decide +kernel) ⟨(Nat.le_of_ble_eq_true rfl), (Nat.le_of_ble_eq_true rfl)⟩) ⟨p_RW_blind, (p_RW_at (tc := []) (wc := []) hP hK hD hS hA hT hZ [] [] rfl rfl (by decide) rfl [.int 0, .int 0, .int 9])⟩ rfl rfl hl.1 rfl (lv_room (Nat.le_of_ble_eq_true rfl)) dX6_glass_32 ⟨(Nat.le_of_ble_eq_true rfl), (Nat.le_of_ble_eq_true rfl)⟩) hS (fun q _ h => hFc q h) hFc (fun q _ h => hFc q h) (fun E ce q9 u t H locs ht hvm hpx hBX hz1 hk1 hS hce hcv hcl => ?_) (fun u t H locs ht hvm w_318 hB hz1 hk1 hS => ?_)
        · exact (show False from hBX).elim
        · obtain ⟨hP, hD, hK⟩ := q_join (D := D) (wc := []) (wr := [(xo, .inr (6, [.ref xg, .int 6, .ref xp, .int pc, .ref xq, .int qc, .ref r1, .ref r2, .ref r3, .ref r4, .ref se, .int ts, .int hou, .int dr, .int su, .int br])), (xg, .inl (cg, 6, .inr (.inr (.inr (.inr (zq [some a0, some a1, some a2, some a3, some a4, some a5]))))))]) (w1 := []) (tyr := [(cg, .object "Gatherhouse$Glass")]) (ty1 := []) hP hD hK [] [0, 1] [0] rfl rfl (by decide) (by decide) rfl hFc hk1 ht hvm hB
          have hP : va_P D vwCl [(xo, .inr (6, [.ref xg, .int 6, .ref xp, .int pc, .ref xq, .int qc, .ref r1, .ref r2, .ref r3, .ref r4, .ref se, .int ts, .int hou, .int dr, .int su, .int br])), (xg, .inl (cg, 6, .inr (.inr (.inr (.inr (zq [some a0, some a1, some a2, some a3, some a4, some a5]))))))] H := hP
          have hD : va_D A [(xo, .inr (6, [.ref xg, .int 6, .ref xp, .int pc, .ref xq, .int qc, .ref r1, .ref r2, .ref r3, .ref r4, .ref se, .int ts, .int hou, .int dr, .int su, .int br])), (xg, .inl (cg, 6, .inr (.inr (.inr (.inr (zq [some a0, some a1, some a2, some a3, some a4, some a5]))))))] := hD
          have hK : va_K D vwCl [(cg, .object "Gatherhouse$Glass")] s := hK
          refine lv_aload_n hx hb dX6_glass_35 rfl (lv_at hl 0 rfl) ?_
          refine va_get (D := D) (cl := vwCl) (ci := 6) (v := .int 6) (C := RX6) (T := TX6) (N := 16) hx hb hts zuX6_glass_full_X6 hown hK hP 0 rfl rfl 1 (by decide) (hts (.fieldLink RX6 15 "Gatherhouse" "glassCount" "I") (by decide +kernel)) (fun _ h9 => h9) rfl dX6_glass_36 ?_
          refine lv_if_lt (tgt := 54) hx hb dX6_glass_39 (by decide) (fun cc => absurd cc (by decide)) (fun _ => ?_)
          refine lv_aload_n hx hb dX6_glass_42 rfl (lv_at hl 0 rfl) ?_
          refine va_get (D := D) (cl := vwCl) (ci := 6) (v := .int 6) (C := RX6) (T := TX6) (N := 16) hx hb hts zuX6_glass_full_X6 hown hK hP 0 rfl rfl 1 (by decide) (hts (.fieldLink RX6 15 "Gatherhouse" "glassCount" "I") (by decide +kernel)) (fun _ h9 => h9) rfl dX6_glass_43 ?_
          refine lv_aload_n hx hb dX6_glass_46 rfl (lv_at hl 0 rfl) ?_
          refine va_get (D := D) (cl := vwCl) (ci := 6) (v := .ref xg) (C := RX6) (T := TX6) (N := 16) hx hb hts zuX6_glass_full_X6 hown hK hP 0 rfl rfl 0 (by decide) (hts (.fieldLink RX6 11 "Gatherhouse" "glasses" "[LGatherhouse$Glass;") (by decide +kernel)) (fun _ h9 => h9) rfl dX6_glass_47 ?_
          refine va_alen (D := D) (cl := vwCl) (v := 6) hx hb hK hP 1 0 rfl rfl rfl dX6_glass_50 ?_
          refine lv_icmp_lt (tgt := 64) hx hb dX6_glass_51 (by decide) (fun cc => absurd cc (by decide)) (fun _ => ?_)
          obtain ⟨sa_319, hsa_319⟩ := hT.2.2.2.2.2.1 ("Gatherhouse", 81, "no more glasses") (by decide +kernel)
          refine vx_throwS (own := RX6) (cls := "java/lang/IllegalStateException") (names := ["java/lang/RuntimeException", "java/lang/Exception"]) (A := A) hx hb hnt hown (by decide +kernel) (by decide +kernel) (hts (.classLink RX6 79 "java/lang/IllegalStateException") (by decide +kernel)) (hts (.initialized "java/lang/IllegalStateException") (by decide +kernel)) hsa_319 (z_throw (fun w h => hts w (ztX6_glass_full_X6_83 w h)) (hT.2.2.1 ("java/lang/IllegalStateException", "java/lang/IllegalStateException") (by decide +kernel)) hT.2.2.2.2.2.2.2.1 (by decide +kernel)) (by decide +kernel) hZ.1 hZ.2.1 hS (hl.1.trans hml.symm) dX6_glass_54 dX6_glass_57 dX6_glass_58 dX6_glass_60 dX6_glass_63 (fun x h => (hxt x h).elim) (Nat.le_of_ble_eq_true rfl) (Nat.le_of_ble_eq_true rfl) (Nat.le_of_ble_eq_true rfl) (Nat.le_of_ble_eq_true rfl) hlocks (fun t hvm hz1 hk1 => ⟨(), trivial, ⟨rfl, q_RW_th hP hK hD [0, 1] [0] rfl rfl (by decide) rfl hk1 hvm⟩, ⟨Nat.le_trans hS.1 hz1, fun q h1 h2 => (hk1 q (Nat.lt_of_lt_of_le h1 hS.1)).trans (hS.2.1 q h1 h2)⟩⟩) hS.2.2 (Nat.le_of_ble_eq_true rfl) (Nat.le_of_ble_eq_true rfl)
theorem dX0_agreesWith_0 : decode cX0_agreesWith 0 = .ok (.aload_n 0, 1) := by decide +kernel
theorem dX0_agreesWith_1 : decode cX0_agreesWith 1 = .ok (.getfield 15, 3) := by decide +kernel
theorem dX0_agreesWith_4 : decode cX0_agreesWith 4 = .ok (.aload_n 1, 1) := by decide +kernel
theorem dX0_agreesWith_5 : decode cX0_agreesWith 5 = .ok (.getfield 15, 3) := by decide +kernel
theorem dX0_agreesWith_8 : decode cX0_agreesWith 8 = .ok (.invokestatic 24, 3) := by decide +kernel
theorem dX0_agreesWith_11 : decode cX0_agreesWith 11 = .ok (.aload_n 0, 1) := by decide +kernel
theorem dX0_agreesWith_12 : decode cX0_agreesWith 12 = .ok (.getfield 9, 3) := by decide +kernel
theorem dX0_agreesWith_15 : decode cX0_agreesWith 15 = .ok (.aload_n 1, 1) := by decide +kernel
theorem dX0_agreesWith_16 : decode cX0_agreesWith 16 = .ok (.getfield 9, 3) := by decide +kernel
theorem dX0_agreesWith_19 : decode cX0_agreesWith 19 = .ok (.invokestatic 30, 3) := by decide +kernel
theorem dX0_agreesWith_22 : decode cX0_agreesWith 22 = .ok (.isub, 1) := by decide +kernel
theorem dX0_agreesWith_23 : decode cX0_agreesWith 23 = .ok (.istore_n 2, 1) := by decide +kernel
theorem dX0_agreesWith_24 : decode cX0_agreesWith 24 = .ok (.aload_n 0, 1) := by decide +kernel
theorem dX0_agreesWith_25 : decode cX0_agreesWith 25 = .ok (.getfield 18, 3) := by decide +kernel
theorem dX0_agreesWith_28 : decode cX0_agreesWith 28 = .ok (.aload_n 1, 1) := by decide +kernel
theorem dX0_agreesWith_29 : decode cX0_agreesWith 29 = .ok (.getfield 18, 3) := by decide +kernel
theorem dX0_agreesWith_32 : decode cX0_agreesWith 32 = .ok (.isub, 1) := by decide +kernel
theorem dX0_agreesWith_33 : decode cX0_agreesWith 33 = .ok (.invokestatic 33, 3) := by decide +kernel
theorem dX0_agreesWith_36 : decode cX0_agreesWith 36 = .ok (.istore_n 3, 1) := by decide +kernel
theorem dX0_agreesWith_37 : decode cX0_agreesWith 37 = .ok (.iload_n 2, 1) := by decide +kernel
theorem dX0_agreesWith_38 : decode cX0_agreesWith 38 = .ok (.bipush 100, 2) := by decide +kernel
theorem dX0_agreesWith_40 : decode cX0_agreesWith 40 = .ok (.if_icmp .lt 12, 3) := by decide +kernel
theorem dX0_agreesWith_52 : decode cX0_agreesWith 52 = .ok (.iconst 0, 1) := by decide +kernel
theorem dX0_agreesWith_53 : decode cX0_agreesWith 53 = .ok (.ireturn, 1) := by decide +kernel
theorem dX0_agreesWith_43 : decode cX0_agreesWith 43 = .ok (.iload_n 3, 1) := by decide +kernel
theorem dX0_agreesWith_44 : decode cX0_agreesWith 44 = .ok (.iconst 5, 1) := by decide +kernel
theorem dX0_agreesWith_45 : decode cX0_agreesWith 45 = .ok (.if_icmp .gt 7, 3) := by decide +kernel
theorem dX0_agreesWith_48 : decode cX0_agreesWith 48 = .ok (.iconst 1, 1) := by decide +kernel
theorem dX0_agreesWith_49 : decode cX0_agreesWith 49 = .ok (.goto 4, 3) := by decide +kernel
def wzEX0_agreesWith_2 : List Cond := [.code yX0_agreesWith cX0_agreesWith 4 (some .boolean), .fieldLink RX0 15 "Gatherhouse$Glass" "high" "I", .methodLink RX0 24 Lib.Math.min.name, .static Lib.Math.min.name, .initialized "java/lang/Math", .code Lib.Math.min.name Lib.Math.min.code 2 (some .int), .fieldLink RX0 9 "Gatherhouse$Glass" "low" "I", .methodLink RX0 30 Lib.Math.max.name, .static Lib.Math.max.name, .code Lib.Math.max.name Lib.Math.max.code 2 (some .int), .fieldLink RX0 18 "Gatherhouse$Glass" "expansion" "I", .methodLink RX0 33 Lib.Math.abs.name, .static Lib.Math.abs.name, .code Lib.Math.abs.name Lib.Math.abs.code 1 (some .int)]
def wzX0_agreesWith_2 : List Cond := wzEX0_agreesWith_2 ++ (u_ws RX0 TX0 4)
theorem zgEX0_agreesWith_2 : wzEX0_agreesWith_2.all goodWord = true := by decide +kernel
theorem zuX0_agreesWith_2_X0 : ∀ w ∈ u_ws RX0 TX0 4, w ∈ wzX0_agreesWith_2 := (fun _ h => (List.mem_append_right _ h))
set_option maxHeartbeats 4000000 in
set_option maxRecDepth 100000 in
theorem zc_X0_agreesWith_2 (l : Launch) (D : va_G) (G : Nat × Nat × (Nat → Int32)) (ga : Nat) (gb : Nat) (l1 : Nat) (h1 : Nat) (e1 : Nat) (co1 : Int32) (l2 : Nat) (h2 : Nat) (e2 : Nat) (co2 : Int32) (hh_l1 : l1 ≤ 2000) (hh_h1 : h1 ≤ 2000) (hh_e1 : e1 ≤ 2000) (hh_l2 : l2 ≤ 2000) (hh_h2 : h2 ≤ 2000) (hh_e2 : e2 ≤ 2000) : Met l yX0_agreesWith wzX0_agreesWith_2 ({ frames := 1, cells := 0, slots := 0, locals := 22 }) (va_Pc [.ref ga, .ref gb] (p_RO D G [] [(ga, .inr (0, [.int (nI l1), .int (nI h1), .int (nI e1), .int co1])), (gb, .inr (0, [.int (nI l2), .int (nI h2), .int (nI e2), .int co2]))])) (vp_Si (fun r => (gAg l1 h1 e1 l2 h2 e2 ∧ r = 1) ∨ (¬ gAg l1 h1 e1 l2 h2 e2 ∧ r = 0))) 0 0 (fun _ => False) := by
  refine Met.ofW (cc := cX0_agreesWith) (maxL := 4) (ret := (some .boolean)) (by decide) rfl ?_
  intro p e s m args below meth c s₁ B hml hv
  obtain ⟨rfl, hP, hK, hT⟩ := hv
  have hx := B.exec
  have hb := B.bytes
  have hr := B.returns
  have hts := atoms_spec (ws := wzX0_agreesWith_2) B.pre
  have hown : s.vm.findClass RX0 = some m.cls := findClass_of_methodNamed B.named
  have hlocks := B.notSynchronized
  have hl := lv_entry ([.ref ga, .ref gb]) (n := 4) (Nat.le_of_ble_eq_true rfl)
  rw [lg_entry_eq]
  generalize (lg_sl ([.ref ga, .ref gb]) ++ List.replicate (4 - (lg_sl ([.ref ga, .ref gb])).length) Slot.unset).toArray = ls at hl ⊢
  have hl : lv_has ls 4 [(0, .ref ga), (1, .ref gb)] := hl
  refine lv_aload_n hx hb dX0_agreesWith_0 rfl (lv_at hl 0 rfl) ?_
  refine va_get (D := D) (cl := vwCl) (ci := 0) (v := .int (nI h1)) (C := RX0) (T := TX0) (N := 4) hx hb hts zuX0_agreesWith_2_X0 hown hK hP 0 rfl rfl 1 (by decide) (hts (.fieldLink RX0 15 "Gatherhouse$Glass" "high" "I") (by decide +kernel)) (fun _ h9 => h9) rfl dX0_agreesWith_1 ?_
  refine lv_aload_n hx hb dX0_agreesWith_4 rfl (lv_at hl 1 rfl) ?_
  refine va_get (D := D) (cl := vwCl) (ci := 0) (v := .int (nI h2)) (C := RX0) (T := TX0) (N := 4) hx hb hts zuX0_agreesWith_2_X0 hown hK hP 1 rfl rfl 1 (by decide) (hts (.fieldLink RX0 15 "Gatherhouse$Glass" "high" "I") (by decide +kernel)) (fun _ h9 => h9) rfl dX0_agreesWith_5 ?_
  refine va_mmin hx hb (hml.trans hl.1.symm) hown (hts (.methodLink RX0 24 Lib.Math.min.name) (by decide +kernel)) (hts (.static Lib.Math.min.name) (by decide +kernel)) (hts (.initialized "java/lang/Math") (by decide +kernel)) (hts (.code Lib.Math.min.name Lib.Math.min.code 2 (some .int)) (by decide +kernel)) (Nat.le_of_ble_eq_true rfl) (Nat.le_of_ble_eq_true rfl) (Nat.le_of_ble_eq_true rfl) (Nat.le_of_ble_eq_true rfl) dX0_agreesWith_8 ?_
  refine lv_topi (fun y_320 ey_320 => ?_)
  have ey_320 : y_320 = (nI (min h1 h2)) := ey_320.trans (z_min (a := h1) (b := h2) (by omega) (by omega))
  subst ey_320
  refine lv_aload_n hx hb dX0_agreesWith_11 rfl (lv_at hl 0 rfl) ?_
  refine va_get (D := D) (cl := vwCl) (ci := 0) (v := .int (nI l1)) (C := RX0) (T := TX0) (N := 4) hx hb hts zuX0_agreesWith_2_X0 hown hK hP 0 rfl rfl 0 (by decide) (hts (.fieldLink RX0 9 "Gatherhouse$Glass" "low" "I") (by decide +kernel)) (fun _ h9 => h9) rfl dX0_agreesWith_12 ?_
  refine lv_aload_n hx hb dX0_agreesWith_15 rfl (lv_at hl 1 rfl) ?_
  refine va_get (D := D) (cl := vwCl) (ci := 0) (v := .int (nI l2)) (C := RX0) (T := TX0) (N := 4) hx hb hts zuX0_agreesWith_2_X0 hown hK hP 1 rfl rfl 0 (by decide) (hts (.fieldLink RX0 9 "Gatherhouse$Glass" "low" "I") (by decide +kernel)) (fun _ h9 => h9) rfl dX0_agreesWith_16 ?_
  refine va_mmax hx hb (hml.trans hl.1.symm) hown (hts (.methodLink RX0 30 Lib.Math.max.name) (by decide +kernel)) (hts (.static Lib.Math.max.name) (by decide +kernel)) (hts (.initialized "java/lang/Math") (by decide +kernel)) (hts (.code Lib.Math.max.name Lib.Math.max.code 2 (some .int)) (by decide +kernel)) (Nat.le_of_ble_eq_true rfl) (Nat.le_of_ble_eq_true rfl) (Nat.le_of_ble_eq_true rfl) (Nat.le_of_ble_eq_true rfl) dX0_agreesWith_19 ?_
  refine lv_topi (fun y_321 ey_321 => ?_)
  have ey_321 : y_321 = (nI (max l1 l2)) := ey_321.trans (z_max (a := l1) (b := l2) (by omega) (by omega))
  subst ey_321
  refine lv_isub hx hb dX0_agreesWith_22 ?_
  refine lv_istore_n (lv' := [(2, .int ((nI (min h1 h2)) - (nI (max l1 l2)))), (0, .ref ga), (1, .ref gb)]) hx hb dX0_agreesWith_23 rfl hl (by decide) rfl (fun ls hl => ?_)
  refine lv_aload_n hx hb dX0_agreesWith_24 rfl (lv_at hl 1 rfl) ?_
  refine va_get (D := D) (cl := vwCl) (ci := 0) (v := .int (nI e1)) (C := RX0) (T := TX0) (N := 4) hx hb hts zuX0_agreesWith_2_X0 hown hK hP 0 rfl rfl 2 (by decide) (hts (.fieldLink RX0 18 "Gatherhouse$Glass" "expansion" "I") (by decide +kernel)) (fun _ h9 => h9) rfl dX0_agreesWith_25 ?_
  refine lv_aload_n hx hb dX0_agreesWith_28 rfl (lv_at hl 2 rfl) ?_
  refine va_get (D := D) (cl := vwCl) (ci := 0) (v := .int (nI e2)) (C := RX0) (T := TX0) (N := 4) hx hb hts zuX0_agreesWith_2_X0 hown hK hP 1 rfl rfl 2 (by decide) (hts (.fieldLink RX0 18 "Gatherhouse$Glass" "expansion" "I") (by decide +kernel)) (fun _ h9 => h9) rfl dX0_agreesWith_29 ?_
  refine lv_isub hx hb dX0_agreesWith_32 ?_
  refine va_mabs hx hb (hml.trans hl.1.symm) hown (hts (.methodLink RX0 33 Lib.Math.abs.name) (by decide +kernel)) (hts (.static Lib.Math.abs.name) (by decide +kernel)) (hts (.initialized "java/lang/Math") (by decide +kernel)) (hts (.code Lib.Math.abs.name Lib.Math.abs.code 1 (some .int)) (by decide +kernel)) (Nat.le_of_ble_eq_true rfl) (Nat.le_of_ble_eq_true rfl) (Nat.le_of_ble_eq_true rfl) (Nat.le_of_ble_eq_true rfl) dX0_agreesWith_33 ?_
  refine lv_topi (fun y_322 ey_322 => ?_)
  have ey_322 : y_322 = nI (e1 - e2 + (e2 - e1)) := ey_322.trans (z_absd (by omega) (by omega))
  subst ey_322
  refine lv_istore_n (lv' := [(3, .int (nI (e1 - e2 + (e2 - e1)))), (2, .int ((nI (min h1 h2)) - (nI (max l1 l2)))), (0, .ref ga), (1, .ref gb)]) hx hb dX0_agreesWith_36 rfl hl (by decide) rfl (fun ls hl => ?_)
  refine lv_iload_n hx hb dX0_agreesWith_37 rfl (lv_at hl 1 rfl) ?_
  refine lv_bipush (v := 100) hx hb dX0_agreesWith_38 (by decide) ?_
  refine lv_icmp_lt (tgt := 52) hx hb dX0_agreesWith_40 (by decide) (fun c_323 => ?_) (fun c_323 => ?_)
  · have n_324 : min h1 h2 < max l1 l2 + 100 := (z_dlt (a := (min h1 h2)) (b := (max l1 l2)) (c := 100) (by omega) (by omega) (by omega)).mp c_323
    refine lv_iconst (v := 0) hx hb dX0_agreesWith_52 (by decide) ?_
    exact W.zret (v := 0) hx hb hr rfl (fun t ht hW => ⟨0, rfl, (Or.inr (⟨(by first | assumption | exact inR_1 (by assumption) (by assumption) | exact inR_2 (by assumption) (by assumption) | exact inR_3 (by assumption) | exact inR_4 (by assumption) | exact inR_5 (by assumption) | exact ⟨by assumption, by assumption, by assumption, by assumption⟩ | exact ⟨by assumption, by assumption, by assumption⟩ | exact (fun q => absurd q.1 (by assumption)) | exact (fun q => absurd q.2.1 (by assumption)) | exact (fun q => absurd q.2.2 (by assumption)) | exact (fun q => absurd q.2.2.1 (by assumption)) | exact (fun q => absurd q.2.2.2 (by assumption)) | exact isRole_no (by assumption) (by assumption) (by assumption) (by assumption) | exact isRole_nb (by assumption) (by assumption) (by assumption) (by assumption) | exact isRole_out (by assumption) | exact enc_use (by assumption) (by assumption) (by assumption) | exact enc_103 (by assumption) | exact enc_103 (Eq.symm (by assumption)) | exact enc_115 (Eq.symm (by assumption)) | exact enc_102 (Eq.symm (by assumption)) | exact enc_98 (Eq.symm (by assumption)) | exact isRole_nc (by assumption) (by assumption) (by assumption) (by assumption) | exact enc_115 (by assumption) | exact enc_102 (by assumption) | exact enc_98 (by assumption) | exact Or.inr (by assumption) | rfl | exact Or.inl (by assumption) | exact Or.inr (Or.inl (by assumption)) | exact Or.inr (Or.inr (Or.inl (by assumption))) | exact Or.inr (Or.inr (Or.inr (by assumption))) | decide | (unfold gAg; omega)), rfl⟩)), ht⟩) (fun q h => by cases h) dX0_agreesWith_53
  · have n_325 : ¬ (min h1 h2 < max l1 l2 + 100) := fun z => c_323 ((z_dlt (a := (min h1 h2)) (b := (max l1 l2)) (c := 100) (by omega) (by omega) (by omega)).mpr z)
    refine lv_iload_n hx hb dX0_agreesWith_43 rfl (lv_at hl 0 rfl) ?_
    refine lv_iconst (v := 5) hx hb dX0_agreesWith_44 (by decide) ?_
    refine lv_icmp_gt (tgt := 52) hx hb dX0_agreesWith_45 (by decide) (fun c_326 => ?_) (fun c_326 => ?_)
    · have n_327 : 5 < e1 - e2 + (e2 - e1) := (nI_ltI (a := 5) (b := e1 - e2 + (e2 - e1)) (by omega) (by omega)).mp c_326
      refine lv_iconst (v := 0) hx hb dX0_agreesWith_52 (by decide) ?_
      exact W.zret (v := 0) hx hb hr rfl (fun t ht hW => ⟨0, rfl, (Or.inr (⟨(by first | assumption | exact inR_1 (by assumption) (by assumption) | exact inR_2 (by assumption) (by assumption) | exact inR_3 (by assumption) | exact inR_4 (by assumption) | exact inR_5 (by assumption) | exact ⟨by assumption, by assumption, by assumption, by assumption⟩ | exact ⟨by assumption, by assumption, by assumption⟩ | exact (fun q => absurd q.1 (by assumption)) | exact (fun q => absurd q.2.1 (by assumption)) | exact (fun q => absurd q.2.2 (by assumption)) | exact (fun q => absurd q.2.2.1 (by assumption)) | exact (fun q => absurd q.2.2.2 (by assumption)) | exact isRole_no (by assumption) (by assumption) (by assumption) (by assumption) | exact isRole_nb (by assumption) (by assumption) (by assumption) (by assumption) | exact isRole_out (by assumption) | exact enc_use (by assumption) (by assumption) (by assumption) | exact enc_103 (by assumption) | exact enc_103 (Eq.symm (by assumption)) | exact enc_115 (Eq.symm (by assumption)) | exact enc_102 (Eq.symm (by assumption)) | exact enc_98 (Eq.symm (by assumption)) | exact isRole_nc (by assumption) (by assumption) (by assumption) (by assumption) | exact enc_115 (by assumption) | exact enc_102 (by assumption) | exact enc_98 (by assumption) | exact Or.inr (by assumption) | rfl | exact Or.inl (by assumption) | exact Or.inr (Or.inl (by assumption)) | exact Or.inr (Or.inr (Or.inl (by assumption))) | exact Or.inr (Or.inr (Or.inr (by assumption))) | decide | (unfold gAg; omega)), rfl⟩)), ht⟩) (fun q h => by cases h) dX0_agreesWith_53
    · have n_328 : ¬ (5 < e1 - e2 + (e2 - e1)) := fun z => c_326 ((nI_ltI (a := 5) (b := e1 - e2 + (e2 - e1)) (by omega) (by omega)).mpr z)
      refine lv_iconst (v := 1) hx hb dX0_agreesWith_48 (by decide) ?_
      refine lv_goto (tgt := 53) hx hb dX0_agreesWith_49 (by decide) ?_
      exact W.zret (v := 1) hx hb hr rfl (fun t ht hW => ⟨1, rfl, (Or.inl (⟨(by first | assumption | exact inR_1 (by assumption) (by assumption) | exact inR_2 (by assumption) (by assumption) | exact inR_3 (by assumption) | exact inR_4 (by assumption) | exact inR_5 (by assumption) | exact ⟨by assumption, by assumption, by assumption, by assumption⟩ | exact ⟨by assumption, by assumption, by assumption⟩ | exact (fun q => absurd q.1 (by assumption)) | exact (fun q => absurd q.2.1 (by assumption)) | exact (fun q => absurd q.2.2 (by assumption)) | exact (fun q => absurd q.2.2.1 (by assumption)) | exact (fun q => absurd q.2.2.2 (by assumption)) | exact isRole_no (by assumption) (by assumption) (by assumption) (by assumption) | exact isRole_nb (by assumption) (by assumption) (by assumption) (by assumption) | exact isRole_out (by assumption) | exact enc_use (by assumption) (by assumption) (by assumption) | exact enc_103 (by assumption) | exact enc_103 (Eq.symm (by assumption)) | exact enc_115 (Eq.symm (by assumption)) | exact enc_102 (Eq.symm (by assumption)) | exact enc_98 (Eq.symm (by assumption)) | exact isRole_nc (by assumption) (by assumption) (by assumption) (by assumption) | exact enc_115 (by assumption) | exact enc_102 (by assumption) | exact enc_98 (by assumption) | exact Or.inr (by assumption) | rfl | exact Or.inl (by assumption) | exact Or.inr (Or.inl (by assumption)) | exact Or.inr (Or.inr (Or.inl (by assumption))) | exact Or.inr (Or.inr (Or.inr (by assumption))) | decide | (unfold gAg; omega)), rfl⟩)), ht⟩) (fun q h => by cases h) dX0_agreesWith_53
def wzEX0_agreesWith_1 : List Cond := [.code yX0_agreesWith cX0_agreesWith 4 (some .boolean), .fieldLink RX0 15 "Gatherhouse$Glass" "high" "I", .methodLink RX0 24 Lib.Math.min.name, .static Lib.Math.min.name, .initialized "java/lang/Math", .code Lib.Math.min.name Lib.Math.min.code 2 (some .int), .fieldLink RX0 9 "Gatherhouse$Glass" "low" "I", .methodLink RX0 30 Lib.Math.max.name, .static Lib.Math.max.name, .code Lib.Math.max.name Lib.Math.max.code 2 (some .int), .fieldLink RX0 18 "Gatherhouse$Glass" "expansion" "I", .methodLink RX0 33 Lib.Math.abs.name, .static Lib.Math.abs.name, .code Lib.Math.abs.name Lib.Math.abs.code 1 (some .int)]
def wzX0_agreesWith_1 : List Cond := wzEX0_agreesWith_1 ++ (u_ws RX0 TX0 4)
theorem zgEX0_agreesWith_1 : wzEX0_agreesWith_1.all goodWord = true := by decide +kernel
theorem zuX0_agreesWith_1_X0 : ∀ w ∈ u_ws RX0 TX0 4, w ∈ wzX0_agreesWith_1 := (fun _ h => (List.mem_append_right _ h))
set_option maxHeartbeats 4000000 in
set_option maxRecDepth 100000 in
theorem zc_X0_agreesWith_1 (l : Launch) (D : va_G) (G : Nat × Nat × (Nat → Int32)) (ga : Nat) (l1 : Nat) (h1 : Nat) (e1 : Nat) (co1 : Int32) (hh_l1 : l1 ≤ 2000) (hh_h1 : h1 ≤ 2000) (hh_e1 : e1 ≤ 2000) : Met l yX0_agreesWith wzX0_agreesWith_1 ({ frames := 1, cells := 0, slots := 0, locals := 22 }) (va_Pc [.ref ga, .ref ga] (p_RO D G [] [(ga, .inr (0, [.int (nI l1), .int (nI h1), .int (nI e1), .int co1]))])) (vp_Si (fun r => (gAg l1 h1 e1 l1 h1 e1 ∧ r = 1) ∨ (¬ gAg l1 h1 e1 l1 h1 e1 ∧ r = 0))) 0 0 (fun _ => False) := by
  refine Met.ofW (cc := cX0_agreesWith) (maxL := 4) (ret := (some .boolean)) (by decide) rfl ?_
  intro p e s m args below meth c s₁ B hml hv
  obtain ⟨rfl, hP, hK, hT⟩ := hv
  have hx := B.exec
  have hb := B.bytes
  have hr := B.returns
  have hts := atoms_spec (ws := wzX0_agreesWith_1) B.pre
  have hown : s.vm.findClass RX0 = some m.cls := findClass_of_methodNamed B.named
  have hlocks := B.notSynchronized
  have hl := lv_entry ([.ref ga, .ref ga]) (n := 4) (Nat.le_of_ble_eq_true rfl)
  rw [lg_entry_eq]
  generalize (lg_sl ([.ref ga, .ref ga]) ++ List.replicate (4 - (lg_sl ([.ref ga, .ref ga])).length) Slot.unset).toArray = ls at hl ⊢
  have hl : lv_has ls 4 [(0, .ref ga), (1, .ref ga)] := hl
  refine lv_aload_n hx hb dX0_agreesWith_0 rfl (lv_at hl 0 rfl) ?_
  refine va_get (D := D) (cl := vwCl) (ci := 0) (v := .int (nI h1)) (C := RX0) (T := TX0) (N := 4) hx hb hts zuX0_agreesWith_1_X0 hown hK hP 0 rfl rfl 1 (by decide) (hts (.fieldLink RX0 15 "Gatherhouse$Glass" "high" "I") (by decide +kernel)) (fun _ h9 => h9) rfl dX0_agreesWith_1 ?_
  refine lv_aload_n hx hb dX0_agreesWith_4 rfl (lv_at hl 1 rfl) ?_
  refine va_get (D := D) (cl := vwCl) (ci := 0) (v := .int (nI h1)) (C := RX0) (T := TX0) (N := 4) hx hb hts zuX0_agreesWith_1_X0 hown hK hP 0 rfl rfl 1 (by decide) (hts (.fieldLink RX0 15 "Gatherhouse$Glass" "high" "I") (by decide +kernel)) (fun _ h9 => h9) rfl dX0_agreesWith_5 ?_
  refine va_mmin hx hb (hml.trans hl.1.symm) hown (hts (.methodLink RX0 24 Lib.Math.min.name) (by decide +kernel)) (hts (.static Lib.Math.min.name) (by decide +kernel)) (hts (.initialized "java/lang/Math") (by decide +kernel)) (hts (.code Lib.Math.min.name Lib.Math.min.code 2 (some .int)) (by decide +kernel)) (Nat.le_of_ble_eq_true rfl) (Nat.le_of_ble_eq_true rfl) (Nat.le_of_ble_eq_true rfl) (Nat.le_of_ble_eq_true rfl) dX0_agreesWith_8 ?_
  refine lv_topi (fun y_329 ey_329 => ?_)
  have ey_329 : y_329 = (nI (min h1 h1)) := ey_329.trans (z_min (a := h1) (b := h1) (by omega) (by omega))
  subst ey_329
  refine lv_aload_n hx hb dX0_agreesWith_11 rfl (lv_at hl 0 rfl) ?_
  refine va_get (D := D) (cl := vwCl) (ci := 0) (v := .int (nI l1)) (C := RX0) (T := TX0) (N := 4) hx hb hts zuX0_agreesWith_1_X0 hown hK hP 0 rfl rfl 0 (by decide) (hts (.fieldLink RX0 9 "Gatherhouse$Glass" "low" "I") (by decide +kernel)) (fun _ h9 => h9) rfl dX0_agreesWith_12 ?_
  refine lv_aload_n hx hb dX0_agreesWith_15 rfl (lv_at hl 1 rfl) ?_
  refine va_get (D := D) (cl := vwCl) (ci := 0) (v := .int (nI l1)) (C := RX0) (T := TX0) (N := 4) hx hb hts zuX0_agreesWith_1_X0 hown hK hP 0 rfl rfl 0 (by decide) (hts (.fieldLink RX0 9 "Gatherhouse$Glass" "low" "I") (by decide +kernel)) (fun _ h9 => h9) rfl dX0_agreesWith_16 ?_
  refine va_mmax hx hb (hml.trans hl.1.symm) hown (hts (.methodLink RX0 30 Lib.Math.max.name) (by decide +kernel)) (hts (.static Lib.Math.max.name) (by decide +kernel)) (hts (.initialized "java/lang/Math") (by decide +kernel)) (hts (.code Lib.Math.max.name Lib.Math.max.code 2 (some .int)) (by decide +kernel)) (Nat.le_of_ble_eq_true rfl) (Nat.le_of_ble_eq_true rfl) (Nat.le_of_ble_eq_true rfl) (Nat.le_of_ble_eq_true rfl) dX0_agreesWith_19 ?_
  refine lv_topi (fun y_330 ey_330 => ?_)
  have ey_330 : y_330 = (nI (max l1 l1)) := ey_330.trans (z_max (a := l1) (b := l1) (by omega) (by omega))
  subst ey_330
  refine lv_isub hx hb dX0_agreesWith_22 ?_
  refine lv_istore_n (lv' := [(2, .int ((nI (min h1 h1)) - (nI (max l1 l1)))), (0, .ref ga), (1, .ref ga)]) hx hb dX0_agreesWith_23 rfl hl (by decide) rfl (fun ls hl => ?_)
  refine lv_aload_n hx hb dX0_agreesWith_24 rfl (lv_at hl 1 rfl) ?_
  refine va_get (D := D) (cl := vwCl) (ci := 0) (v := .int (nI e1)) (C := RX0) (T := TX0) (N := 4) hx hb hts zuX0_agreesWith_1_X0 hown hK hP 0 rfl rfl 2 (by decide) (hts (.fieldLink RX0 18 "Gatherhouse$Glass" "expansion" "I") (by decide +kernel)) (fun _ h9 => h9) rfl dX0_agreesWith_25 ?_
  refine lv_aload_n hx hb dX0_agreesWith_28 rfl (lv_at hl 2 rfl) ?_
  refine va_get (D := D) (cl := vwCl) (ci := 0) (v := .int (nI e1)) (C := RX0) (T := TX0) (N := 4) hx hb hts zuX0_agreesWith_1_X0 hown hK hP 0 rfl rfl 2 (by decide) (hts (.fieldLink RX0 18 "Gatherhouse$Glass" "expansion" "I") (by decide +kernel)) (fun _ h9 => h9) rfl dX0_agreesWith_29 ?_
  refine lv_isub hx hb dX0_agreesWith_32 ?_
  refine va_mabs hx hb (hml.trans hl.1.symm) hown (hts (.methodLink RX0 33 Lib.Math.abs.name) (by decide +kernel)) (hts (.static Lib.Math.abs.name) (by decide +kernel)) (hts (.initialized "java/lang/Math") (by decide +kernel)) (hts (.code Lib.Math.abs.name Lib.Math.abs.code 1 (some .int)) (by decide +kernel)) (Nat.le_of_ble_eq_true rfl) (Nat.le_of_ble_eq_true rfl) (Nat.le_of_ble_eq_true rfl) (Nat.le_of_ble_eq_true rfl) dX0_agreesWith_33 ?_
  refine lv_topi (fun y_331 ey_331 => ?_)
  have ey_331 : y_331 = nI (e1 - e1 + (e1 - e1)) := ey_331.trans (z_absd (by omega) (by omega))
  subst ey_331
  refine lv_istore_n (lv' := [(3, .int (nI (e1 - e1 + (e1 - e1)))), (2, .int ((nI (min h1 h1)) - (nI (max l1 l1)))), (0, .ref ga), (1, .ref ga)]) hx hb dX0_agreesWith_36 rfl hl (by decide) rfl (fun ls hl => ?_)
  refine lv_iload_n hx hb dX0_agreesWith_37 rfl (lv_at hl 1 rfl) ?_
  refine lv_bipush (v := 100) hx hb dX0_agreesWith_38 (by decide) ?_
  refine lv_icmp_lt (tgt := 52) hx hb dX0_agreesWith_40 (by decide) (fun c_332 => ?_) (fun c_332 => ?_)
  · have n_333 : min h1 h1 < max l1 l1 + 100 := (z_dlt (a := (min h1 h1)) (b := (max l1 l1)) (c := 100) (by omega) (by omega) (by omega)).mp c_332
    refine lv_iconst (v := 0) hx hb dX0_agreesWith_52 (by decide) ?_
    exact W.zret (v := 0) hx hb hr rfl (fun t ht hW => ⟨0, rfl, (Or.inr (⟨(by first | assumption | exact inR_1 (by assumption) (by assumption) | exact inR_2 (by assumption) (by assumption) | exact inR_3 (by assumption) | exact inR_4 (by assumption) | exact inR_5 (by assumption) | exact ⟨by assumption, by assumption, by assumption, by assumption⟩ | exact ⟨by assumption, by assumption, by assumption⟩ | exact (fun q => absurd q.1 (by assumption)) | exact (fun q => absurd q.2.1 (by assumption)) | exact (fun q => absurd q.2.2 (by assumption)) | exact (fun q => absurd q.2.2.1 (by assumption)) | exact (fun q => absurd q.2.2.2 (by assumption)) | exact isRole_no (by assumption) (by assumption) (by assumption) (by assumption) | exact isRole_nb (by assumption) (by assumption) (by assumption) (by assumption) | exact isRole_out (by assumption) | exact enc_use (by assumption) (by assumption) (by assumption) | exact enc_103 (by assumption) | exact enc_103 (Eq.symm (by assumption)) | exact enc_115 (Eq.symm (by assumption)) | exact enc_102 (Eq.symm (by assumption)) | exact enc_98 (Eq.symm (by assumption)) | exact isRole_nc (by assumption) (by assumption) (by assumption) (by assumption) | exact enc_115 (by assumption) | exact enc_102 (by assumption) | exact enc_98 (by assumption) | exact Or.inr (by assumption) | rfl | exact Or.inl (by assumption) | exact Or.inr (Or.inl (by assumption)) | exact Or.inr (Or.inr (Or.inl (by assumption))) | exact Or.inr (Or.inr (Or.inr (by assumption))) | decide | (unfold gAg; omega)), rfl⟩)), ht⟩) (fun q h => by cases h) dX0_agreesWith_53
  · have n_334 : ¬ (min h1 h1 < max l1 l1 + 100) := fun z => c_332 ((z_dlt (a := (min h1 h1)) (b := (max l1 l1)) (c := 100) (by omega) (by omega) (by omega)).mpr z)
    refine lv_iload_n hx hb dX0_agreesWith_43 rfl (lv_at hl 0 rfl) ?_
    refine lv_iconst (v := 5) hx hb dX0_agreesWith_44 (by decide) ?_
    refine lv_icmp_gt (tgt := 52) hx hb dX0_agreesWith_45 (by decide) (fun c_335 => ?_) (fun c_335 => ?_)
    · have n_336 : 5 < e1 - e1 + (e1 - e1) := (nI_ltI (a := 5) (b := e1 - e1 + (e1 - e1)) (by omega) (by omega)).mp c_335
      refine lv_iconst (v := 0) hx hb dX0_agreesWith_52 (by decide) ?_
      exact W.zret (v := 0) hx hb hr rfl (fun t ht hW => ⟨0, rfl, (Or.inr (⟨(by first | assumption | exact inR_1 (by assumption) (by assumption) | exact inR_2 (by assumption) (by assumption) | exact inR_3 (by assumption) | exact inR_4 (by assumption) | exact inR_5 (by assumption) | exact ⟨by assumption, by assumption, by assumption, by assumption⟩ | exact ⟨by assumption, by assumption, by assumption⟩ | exact (fun q => absurd q.1 (by assumption)) | exact (fun q => absurd q.2.1 (by assumption)) | exact (fun q => absurd q.2.2 (by assumption)) | exact (fun q => absurd q.2.2.1 (by assumption)) | exact (fun q => absurd q.2.2.2 (by assumption)) | exact isRole_no (by assumption) (by assumption) (by assumption) (by assumption) | exact isRole_nb (by assumption) (by assumption) (by assumption) (by assumption) | exact isRole_out (by assumption) | exact enc_use (by assumption) (by assumption) (by assumption) | exact enc_103 (by assumption) | exact enc_103 (Eq.symm (by assumption)) | exact enc_115 (Eq.symm (by assumption)) | exact enc_102 (Eq.symm (by assumption)) | exact enc_98 (Eq.symm (by assumption)) | exact isRole_nc (by assumption) (by assumption) (by assumption) (by assumption) | exact enc_115 (by assumption) | exact enc_102 (by assumption) | exact enc_98 (by assumption) | exact Or.inr (by assumption) | rfl | exact Or.inl (by assumption) | exact Or.inr (Or.inl (by assumption)) | exact Or.inr (Or.inr (Or.inl (by assumption))) | exact Or.inr (Or.inr (Or.inr (by assumption))) | decide | (unfold gAg; omega)), rfl⟩)), ht⟩) (fun q h => by cases h) dX0_agreesWith_53
    · have n_337 : ¬ (5 < e1 - e1 + (e1 - e1)) := fun z => c_335 ((nI_ltI (a := 5) (b := e1 - e1 + (e1 - e1)) (by omega) (by omega)).mpr z)
      refine lv_iconst (v := 1) hx hb dX0_agreesWith_48 (by decide) ?_
      refine lv_goto (tgt := 53) hx hb dX0_agreesWith_49 (by decide) ?_
      exact W.zret (v := 1) hx hb hr rfl (fun t ht hW => ⟨1, rfl, (Or.inl (⟨(by first | assumption | exact inR_1 (by assumption) (by assumption) | exact inR_2 (by assumption) (by assumption) | exact inR_3 (by assumption) | exact inR_4 (by assumption) | exact inR_5 (by assumption) | exact ⟨by assumption, by assumption, by assumption, by assumption⟩ | exact ⟨by assumption, by assumption, by assumption⟩ | exact (fun q => absurd q.1 (by assumption)) | exact (fun q => absurd q.2.1 (by assumption)) | exact (fun q => absurd q.2.2 (by assumption)) | exact (fun q => absurd q.2.2.1 (by assumption)) | exact (fun q => absurd q.2.2.2 (by assumption)) | exact isRole_no (by assumption) (by assumption) (by assumption) (by assumption) | exact isRole_nb (by assumption) (by assumption) (by assumption) (by assumption) | exact isRole_out (by assumption) | exact enc_use (by assumption) (by assumption) (by assumption) | exact enc_103 (by assumption) | exact enc_103 (Eq.symm (by assumption)) | exact enc_115 (Eq.symm (by assumption)) | exact enc_102 (Eq.symm (by assumption)) | exact enc_98 (Eq.symm (by assumption)) | exact isRole_nc (by assumption) (by assumption) (by assumption) (by assumption) | exact enc_115 (by assumption) | exact enc_102 (by assumption) | exact enc_98 (by assumption) | exact Or.inr (by assumption) | rfl | exact Or.inl (by assumption) | exact Or.inr (Or.inl (by assumption)) | exact Or.inr (Or.inr (Or.inl (by assumption))) | exact Or.inr (Or.inr (Or.inr (by assumption))) | decide | (unfold gAg; omega)), rfl⟩)), ht⟩) (fun q h => by cases h) dX0_agreesWith_53
theorem dX6_agree_5 : decode cX6_agree 5 = .ok (.astore_n 3, 1) := by decide +kernel
theorem dX6_agree_6 : decode cX6_agree 6 = .ok (.aload_n 0, 1) := by decide +kernel
theorem dX6_agree_7 : decode cX6_agree 7 = .ok (.iload_n 2, 1) := by decide +kernel
theorem dX6_agree_8 : decode cX6_agree 8 = .ok (.invokevirtual 89, 3) := by decide +kernel
theorem dX6_agree_11 : decode cX6_agree 11 = .ok (.astore 4, 2) := by decide +kernel
theorem dX6_agree_13 : decode cX6_agree 13 = .ok (.aload_n 3, 1) := by decide +kernel
theorem dX6_agree_14 : decode cX6_agree 14 = .ok (.aload 4, 2) := by decide +kernel
theorem dX6_agree_16 : decode cX6_agree 16 = .ok (.invokevirtual 93, 3) := by decide +kernel
theorem dX6_agree_19 : decode cX6_agree 19 = .ok (.ireturn, 1) := by decide +kernel
def wzEX6_agree_2 : List Cond := [.code yX6_agree cX6_agree 5 (some .boolean), .methodLink RX6 89 yX6_findGlass, .instanceMethod yX6_findGlass, .selects RX6 yX6_findGlass yX6_findGlass, .initialized RX6, .code yX6_findGlass cX6_findGlass 3 (some (.object "Gatherhouse$Glass")), .fieldLink RX6 11 "Gatherhouse" "glasses" "[LGatherhouse$Glass;", .code yX0_agreesWith cX0_agreesWith 4 (some .boolean), .fieldLink RX0 15 "Gatherhouse$Glass" "high" "I", .methodLink RX0 24 Lib.Math.min.name, .static Lib.Math.min.name, .initialized "java/lang/Math", .code Lib.Math.min.name Lib.Math.min.code 2 (some .int), .fieldLink RX0 9 "Gatherhouse$Glass" "low" "I", .methodLink RX0 30 Lib.Math.max.name, .static Lib.Math.max.name, .code Lib.Math.max.name Lib.Math.max.code 2 (some .int), .fieldLink RX0 18 "Gatherhouse$Glass" "expansion" "I", .methodLink RX0 33 Lib.Math.abs.name, .static Lib.Math.abs.name, .code Lib.Math.abs.name Lib.Math.abs.code 1 (some .int), .initialized RX0, .instanceMethod yX0_agreesWith, .selects RX0 yX0_agreesWith yX0_agreesWith]
def wzX6_agree_2 : List Cond := wzEX6_agree_2 ++ (u_ws RX6 TX6 16 ++ (u_ws RX0 TX0 4))
theorem zgEX6_agree_2 : wzEX6_agree_2.all goodWord = true := by decide +kernel
theorem zuX6_agree_2_X6 : ∀ w ∈ u_ws RX6 TX6 16, w ∈ wzX6_agree_2 := (fun _ h => (List.mem_append_right _ (List.mem_append_left _ h)))
theorem zuX6_agree_2_X0 : ∀ w ∈ u_ws RX0 TX0 4, w ∈ wzX6_agree_2 := (fun _ h => (List.mem_append_right _ (List.mem_append_right _ h)))
theorem gzX6_agree_2_X6_findGlass_ok_89 : GoodIn wzX6_agree_2 (wsV RX6 89 RX6 yX6_findGlass wzX6_findGlass_ok) := (goodIn_app (z_lift (goodIn_r _ [1, 2, 3, 4] rfl (by decide +kernel))) (goodIn_app (z_lift (goodIn_r wzEX6_findGlass_ok [5, 6] rfl zgEX6_findGlass_ok)) (goodIn_sub (fun _ h => (List.mem_append_right _ (List.mem_append_left _ h))) zgU_X6)))
theorem gzX6_agree_2_X0_agreesWith_2_93 : GoodIn wzX6_agree_2 (wzX0_agreesWith_2) := (goodIn_app (z_lift (goodIn_r wzEX0_agreesWith_2 [7, 8, 9, 10, 11, 12, 13, 14, 15, 16, 17, 18, 19, 20] rfl zgEX0_agreesWith_2)) (goodIn_sub (fun _ h => (List.mem_append_right _ (List.mem_append_right _ h))) zgU_X0))
set_option maxHeartbeats 4000000 in
set_option maxRecDepth 100000 in
theorem zc_X6_agree_2 (l : Launch) (hnt : l.stackTraces = false) (D : va_G) (G : Nat × Nat × (Nat → Int32)) (xo : Nat) (k : Nat) (kj : Nat) (xg : Nat) (gc : Int32) (xp : Nat) (pc : Int32) (xq : Nat) (qc : Int32) (r1 : Nat) (r2 : Nat) (r3 : Nat) (r4 : Nat) (se : Nat) (ts : Int32) (hou : Int32) (dr : Int32) (su : Int32) (br : Int32) (cg : ClassId) (f : Nat → Option Nat) (ga : Nat) (l1 : Nat) (h1 : Nat) (e1 : Nat) (co1 : Int32) (gb : Nat) (l2 : Nat) (h2 : Nat) (e2 : Nat) (co2 : Int32) (sz : Nat) (h9f : f k = some ga) (h9g : f kj = some gb) (hh_l1 : l1 ≤ 2000) (hh_h1 : h1 ≤ 2000) (hh_e1 : e1 ≤ 2000) (hh_l2 : l2 ≤ 2000) (hh_h2 : h2 ≤ 2000) (hh_e2 : e2 ≤ 2000) (hh_k : k ≤ 5) (hh_kj : kj ≤ 5) : vx_Met l yX6_agree wzX6_agree_2 ({ frames := 2, cells := 0, slots := 0, locals := 45 }) (va_Pc [.ref xo, .int (nI k), .int (nI kj)] (p_RW D G [(cg, .object "Gatherhouse$Glass")] [(xo, .inr (6, [.ref xg, .int gc, .ref xp, .int pc, .ref xq, .int qc, .ref r1, .ref r2, .ref r3, .ref r4, .ref se, .int ts, .int hou, .int dr, .int su, .int br])), (xg, .inl (cg, 6, .inr (.inr (.inr (.inr f))))), (ga, .inr (0, [.int (nI l1), .int (nI h1), .int (nI e1), .int co1])), (gb, .inr (0, [.int (nI l2), .int (nI h2), .int (nI e2), .int co2]))] sz)) (va_Qi (fun (r : Int32) (u : Unit) => (gAg l1 h1 e1 l2 h2 e2 ∧ r = 1) ∨ (¬ gAg l1 h1 e1 l2 h2 e2 ∧ r = 0)) (fun (u : Unit) (t : State) => q_RW D [(cg, .object "Gatherhouse$Glass")] [(xo, .inr (6, [.ref xg, .int gc, .ref xp, .int pc, .ref xq, .int qc, .ref r1, .ref r2, .ref r3, .ref r4, .ref se, .int ts, .int hou, .int dr, .int su, .int br])), (xg, .inl (cg, 6, .inr (.inr (.inr (.inr f))))), (ga, .inr (0, [.int (nI l1), .int (nI h1), .int (nI e1), .int co1])), (gb, .inr (0, [.int (nI l2), .int (nI h2), .int (nI e2), .int co2]))] (va_A [(xo, .inr (6, [.ref xg, .int gc, .ref xp, .int pc, .ref xq, .int qc, .ref r1, .ref r2, .ref r3, .ref r4, .ref se, .int ts, .int hou, .int dr, .int su, .int br])), (xg, .inl (cg, 6, .inr (.inr (.inr (.inr f))))), (ga, .inr (0, [.int (nI l1), .int (nI h1), .int (nI e1), .int co1])), (gb, .inr (0, [.int (nI l2), .int (nI h2), .int (nI e2), .int co2]))] sz) t) (va_A [(xo, .inr (6, [.ref xg, .int gc, .ref xp, .int pc, .ref xq, .int qc, .ref r1, .ref r2, .ref r3, .ref r4, .ref se, .int ts, .int hou, .int dr, .int su, .int br])), (xg, .inl (cg, 6, .inr (.inr (.inr (.inr f))))), (ga, .inr (0, [.int (nI l1), .int (nI h1), .int (nI e1), .int co1])), (gb, .inr (0, [.int (nI l2), .int (nI h2), .int (nI e2), .int co2]))] sz)) (vx_X (fun (_ : Unit) => True) (fun E (_ : Unit) (_ : State) => False) (va_A [(xo, .inr (6, [.ref xg, .int gc, .ref xp, .int pc, .ref xq, .int qc, .ref r1, .ref r2, .ref r3, .ref r4, .ref se, .int ts, .int hou, .int dr, .int su, .int br])), (xg, .inl (cg, 6, .inr (.inr (.inr (.inr f))))), (ga, .inr (0, [.int (nI l1), .int (nI h1), .int (nI e1), .int co1])), (gb, .inr (0, [.int (nI l2), .int (nI h2), .int (nI e2), .int co2]))] sz)) 0 0 (va_A [(xo, .inr (6, [.ref xg, .int gc, .ref xp, .int pc, .ref xq, .int qc, .ref r1, .ref r2, .ref r3, .ref r4, .ref se, .int ts, .int hou, .int dr, .int su, .int br])), (xg, .inl (cg, 6, .inr (.inr (.inr (.inr f))))), (ga, .inr (0, [.int (nI l1), .int (nI h1), .int (nI e1), .int co1])), (gb, .inr (0, [.int (nI l2), .int (nI h2), .int (nI e2), .int co2]))] sz) := by
  refine vx_ofW (cc := cX6_agree) (maxL := 5) (ret := (some .boolean)) (by decide) rfl ?_
  intro p e s m args below meth c s₁ B hml hxt hv
  obtain ⟨rfl, hsz, hP, hK, hD0, hT, hZ⟩ := hv
  have hx := B.exec
  have hb := B.bytes
  have hr := B.returns
  have hts := atoms_spec (ws := wzX6_agree_2) B.pre
  have hown : s.vm.findClass RX6 = some m.cls := findClass_of_methodNamed B.named
  have hlocks := B.notSynchronized
  subst hsz
  have hD := hD0.self (sz := s.heap.size)
  generalize hAe : va_A [(xo, .inr (6, [.ref xg, .int gc, .ref xp, .int pc, .ref xq, .int qc, .ref r1, .ref r2, .ref r3, .ref r4, .ref se, .int ts, .int hou, .int dr, .int su, .int br])), (xg, .inl (cg, 6, .inr (.inr (.inr (.inr f))))), (ga, .inr (0, [.int (nI l1), .int (nI h1), .int (nI e1), .int co1])), (gb, .inr (0, [.int (nI l2), .int (nI h2), .int (nI e2), .int co2]))] s.heap.size = A at hD hZ ⊢
  have hA : ∀ q : Nat, s.heap.size ≤ q → A q := fun q h => by rw [← hAe]; exact Or.inr h
  have hS : va_S A s.heap s.heap [] := va_S.rf
  have hl := lv_entry ([.ref xo, .int (nI k), .int (nI kj)]) (n := 5) (Nat.le_of_ble_eq_true rfl)
  rw [lg_entry_eq]
  generalize (lg_sl ([.ref xo, .int (nI k), .int (nI kj)]) ++ List.replicate (5 - (lg_sl ([.ref xo, .int (nI k), .int (nI kj)])).length) Slot.unset).toArray = ls at hl ⊢
  have hl : lv_has ls 5 [(0, .ref xo), (1, .int (nI k)), (2, .int (nI kj))] := hl
  refine lv_aload_n hx hb dX6_agree_0 rfl (lv_at hl 0 rfl) ?_
  refine lv_iload_n hx hb dX6_agree_1 rfl (lv_at hl 1 rfl) ?_
  have hFc := va_free (wc := [(xo, .inr (6, [.ref xg, .int gc, .ref xp, .int pc, .ref xq, .int qc, .ref r1, .ref r2, .ref r3, .ref r4, .ref se, .int ts, .int hou, .int dr, .int su, .int br])), (xg, .inl (cg, 6, .inr (.inr (.inr (.inr f)))))]) hD hS hA [0, 1] rfl
  refine vx_callq (vx_runV (As := [.int (nI k)]) (rest := []) ⟨hx, hb, hml, hown, hts⟩ (zc_X6_findGlass_ok l hnt D G xo k xg gc xp pc xq qc r1 r2 r3 r4 se ts hou dr su br cg f ga s.heap.size (by first | assumption | rfl | omega | exact Nat.le_trans (zS_le _ _ _) (by omega) | decide) (by first | assumption | rfl | omega | exact Nat.le_trans (zS_le _ _ _) (by omega) | decide)) (cwV 1 hts gzX6_agree_2_X6_findGlass_ok_89 rfl rfl rfl (by decide +kernel) ⟨(Nat.le_of_ble_eq_true rfl), (Nat.le_of_ble_eq_true rfl)⟩) ⟨p_RW_blind, va_recv hK hP (ci := 6) (q0 := 0) rfl rfl, (p_RW_at (tc := [(cg, .object "Gatherhouse$Glass")]) (wc := [(xo, .inr (6, [.ref xg, .int gc, .ref xp, .int pc, .ref xq, .int qc, .ref r1, .ref r2, .ref r3, .ref r4, .ref se, .int ts, .int hou, .int dr, .int su, .int br])), (xg, .inl (cg, 6, .inr (.inr (.inr (.inr f)))))]) hP hK hD hS hA hT hZ [0, 1] [0] rfl rfl (by decide) rfl [.ref xo, .int (nI k)])⟩ rfl rfl hl.1 rfl (lv_room (Nat.le_of_ble_eq_true rfl)) dX6_agree_2 ⟨(Nat.le_of_ble_eq_true rfl), (Nat.le_of_ble_eq_true rfl)⟩) hS (fun q _ h => hFc q h) hFc (fun q _ h => hFc q h) (fun E ce q9 u t H locs ht hvm hpx hBX hz1 hk1 hS hce hcv hcl => ?_) (fun r_338 u t H locs ht hvm w_339 hB hz1 hk1 hS => ?_)
  · exact (show False from hBX).elim
  · obtain ⟨hP, hD, hK⟩ := q_join (D := D) (wc := [(xo, .inr (6, [.ref xg, .int gc, .ref xp, .int pc, .ref xq, .int qc, .ref r1, .ref r2, .ref r3, .ref r4, .ref se, .int ts, .int hou, .int dr, .int su, .int br])), (xg, .inl (cg, 6, .inr (.inr (.inr (.inr f)))))]) (wr := [(ga, .inr (0, [.int (nI l1), .int (nI h1), .int (nI e1), .int co1])), (gb, .inr (0, [.int (nI l2), .int (nI h2), .int (nI e2), .int co2]))]) (w1 := [(xo, .inr (6, [.ref xg, .int gc, .ref xp, .int pc, .ref xq, .int qc, .ref r1, .ref r2, .ref r3, .ref r4, .ref se, .int ts, .int hou, .int dr, .int su, .int br])), (xg, .inl (cg, 6, .inr (.inr (.inr (.inr f)))))]) (tyr := []) (ty1 := [(cg, .object "Gatherhouse$Glass")]) hP hD hK [0, 1] [2, 3] [] rfl rfl (by decide) (by decide) rfl hFc hk1 ht hvm hB
    have hP : va_P D vwCl [(ga, .inr (0, [.int (nI l1), .int (nI h1), .int (nI e1), .int co1])), (gb, .inr (0, [.int (nI l2), .int (nI h2), .int (nI e2), .int co2])), (xo, .inr (6, [.ref xg, .int gc, .ref xp, .int pc, .ref xq, .int qc, .ref r1, .ref r2, .ref r3, .ref r4, .ref se, .int ts, .int hou, .int dr, .int su, .int br])), (xg, .inl (cg, 6, .inr (.inr (.inr (.inr f)))))] H := hP
    have hD : va_D A [(ga, .inr (0, [.int (nI l1), .int (nI h1), .int (nI e1), .int co1])), (gb, .inr (0, [.int (nI l2), .int (nI h2), .int (nI e2), .int co2])), (xo, .inr (6, [.ref xg, .int gc, .ref xp, .int pc, .ref xq, .int qc, .ref r1, .ref r2, .ref r3, .ref r4, .ref se, .int ts, .int hou, .int dr, .int su, .int br])), (xg, .inl (cg, 6, .inr (.inr (.inr (.inr f)))))] := hD
    have hK : va_K D vwCl [(cg, .object "Gatherhouse$Glass")] s := hK
    obtain rfl := w_339
    refine W.eq (g2 := F0 m 5 ls [.ref ga]) rfl ?_
    refine lv_astore_n (lv' := [(3, .ref ga), (0, .ref xo), (1, .int (nI k)), (2, .int (nI kj))]) hx hb dX6_agree_5 rfl hl (by decide) rfl (fun ls hl => ?_)
    refine lv_aload_n hx hb dX6_agree_6 rfl (lv_at hl 1 rfl) ?_
    refine lv_iload_n hx hb dX6_agree_7 rfl (lv_at hl 3 rfl) ?_
    have hFc := va_free (wc := [(xo, .inr (6, [.ref xg, .int gc, .ref xp, .int pc, .ref xq, .int qc, .ref r1, .ref r2, .ref r3, .ref r4, .ref se, .int ts, .int hou, .int dr, .int su, .int br])), (xg, .inl (cg, 6, .inr (.inr (.inr (.inr f)))))]) hD hS hA [2, 3] rfl
    refine vx_callq (vx_runV (As := [.int (nI kj)]) (rest := []) ⟨hx, hb, hml, hown, hts⟩ (zc_X6_findGlass_ok l hnt D G xo kj xg gc xp pc xq qc r1 r2 r3 r4 se ts hou dr su br cg f gb H.size (by first | assumption | rfl | omega | exact Nat.le_trans (zS_le _ _ _) (by omega) | decide) (by first | assumption | rfl | omega | exact Nat.le_trans (zS_le _ _ _) (by omega) | decide)) (cwV 1 hts gzX6_agree_2_X6_findGlass_ok_89 rfl rfl rfl (by decide +kernel) ⟨(Nat.le_of_ble_eq_true rfl), (Nat.le_of_ble_eq_true rfl)⟩) ⟨p_RW_blind, va_recv hK hP (ci := 6) (q0 := 2) rfl rfl, (p_RW_at (tc := [(cg, .object "Gatherhouse$Glass")]) (wc := [(xo, .inr (6, [.ref xg, .int gc, .ref xp, .int pc, .ref xq, .int qc, .ref r1, .ref r2, .ref r3, .ref r4, .ref se, .int ts, .int hou, .int dr, .int su, .int br])), (xg, .inl (cg, 6, .inr (.inr (.inr (.inr f)))))]) hP hK hD hS hA hT hZ [2, 3] [0] rfl rfl (by decide) rfl [.ref xo, .int (nI kj)])⟩ rfl rfl hl.1 rfl (lv_room (Nat.le_of_ble_eq_true rfl)) dX6_agree_8 ⟨(Nat.le_of_ble_eq_true rfl), (Nat.le_of_ble_eq_true rfl)⟩) hS (fun q _ h => hFc q h) hFc (fun q _ h => hFc q h) (fun E ce q9 u t H locs ht hvm hpx hBX hz1 hk1 hS hce hcv hcl => ?_) (fun r_340 u t H locs ht hvm w_341 hB hz1 hk1 hS => ?_)
    · exact (show False from hBX).elim
    · obtain ⟨hP, hD, hK⟩ := q_join (D := D) (wc := [(xo, .inr (6, [.ref xg, .int gc, .ref xp, .int pc, .ref xq, .int qc, .ref r1, .ref r2, .ref r3, .ref r4, .ref se, .int ts, .int hou, .int dr, .int su, .int br])), (xg, .inl (cg, 6, .inr (.inr (.inr (.inr f)))))]) (wr := [(ga, .inr (0, [.int (nI l1), .int (nI h1), .int (nI e1), .int co1])), (gb, .inr (0, [.int (nI l2), .int (nI h2), .int (nI e2), .int co2]))]) (w1 := [(xo, .inr (6, [.ref xg, .int gc, .ref xp, .int pc, .ref xq, .int qc, .ref r1, .ref r2, .ref r3, .ref r4, .ref se, .int ts, .int hou, .int dr, .int su, .int br])), (xg, .inl (cg, 6, .inr (.inr (.inr (.inr f)))))]) (tyr := []) (ty1 := [(cg, .object "Gatherhouse$Glass")]) hP hD hK [2, 3] [0, 1] [] rfl rfl (by decide) (by decide) rfl hFc hk1 ht hvm hB
      have hP : va_P D vwCl [(ga, .inr (0, [.int (nI l1), .int (nI h1), .int (nI e1), .int co1])), (gb, .inr (0, [.int (nI l2), .int (nI h2), .int (nI e2), .int co2])), (xo, .inr (6, [.ref xg, .int gc, .ref xp, .int pc, .ref xq, .int qc, .ref r1, .ref r2, .ref r3, .ref r4, .ref se, .int ts, .int hou, .int dr, .int su, .int br])), (xg, .inl (cg, 6, .inr (.inr (.inr (.inr f)))))] H := hP
      have hD : va_D A [(ga, .inr (0, [.int (nI l1), .int (nI h1), .int (nI e1), .int co1])), (gb, .inr (0, [.int (nI l2), .int (nI h2), .int (nI e2), .int co2])), (xo, .inr (6, [.ref xg, .int gc, .ref xp, .int pc, .ref xq, .int qc, .ref r1, .ref r2, .ref r3, .ref r4, .ref se, .int ts, .int hou, .int dr, .int su, .int br])), (xg, .inl (cg, 6, .inr (.inr (.inr (.inr f)))))] := hD
      have hK : va_K D vwCl [(cg, .object "Gatherhouse$Glass")] s := hK
      obtain rfl := w_341
      refine W.eq (g2 := F0 m 11 ls [.ref gb]) rfl ?_
      refine lv_astore (lv' := [(4, .ref gb), (3, .ref ga), (0, .ref xo), (1, .int (nI k)), (2, .int (nI kj))]) hx hb dX6_agree_11 hl (by decide) rfl (fun ls hl => ?_)
      refine lv_aload_n hx hb dX6_agree_13 rfl (lv_at hl 1 rfl) ?_
      refine lv_aload hx hb dX6_agree_14 (lv_at hl 0 rfl) ?_
      refine vp_callSi (va_runVN (As := [.ref gb]) (rest := []) ⟨hx, hb, hml, hown, hts⟩ (zc_X0_agreesWith_2 l D G ga gb l1 h1 e1 co1 l2 h2 e2 co2 (by first | assumption | rfl | omega | exact Nat.le_trans (zS_le _ _ _) (by omega) | decide) (by first | assumption | rfl | omega | exact Nat.le_trans (zS_le _ _ _) (by omega) | decide) (by first | assumption | rfl | omega | exact Nat.le_trans (zS_le _ _ _) (by omega) | decide) (by first | assumption | rfl | omega | exact Nat.le_trans (zS_le _ _ _) (by omega) | decide) (by first | assumption | rfl | omega | exact Nat.le_trans (zS_le _ _ _) (by omega) | decide) (by first | assumption | rfl | omega | exact Nat.le_trans (zS_le _ _ _) (by omega) | decide)) ⟨va_cnB 1 hts gzX6_agree_2_X0_agreesWith_2_93 rfl rfl rfl (hT.1 ("Gatherhouse", 93, ⟨"Gatherhouse$Glass", "agreesWith", "(LGatherhouse$Glass;)Z"⟩, "Gatherhouse") (by decide +kernel)) (hts (.initialized RX0) (by decide +kernel)) (by decide +kernel) ⟨(Nat.le_of_ble_eq_true rfl), (Nat.le_of_ble_eq_true rfl)⟩, (hts (.instanceMethod yX0_agreesWith) (by decide +kernel)), (hts (.selects RX0 yX0_agreesWith yX0_agreesWith) (by decide +kernel))⟩ ⟨p_RO_blind, va_recv hK hP (ci := 0) (q0 := 0) rfl rfl, (p_RO_at (tc := []) (wc := [(ga, .inr (0, [.int (nI l1), .int (nI h1), .int (nI e1), .int co1])), (gb, .inr (0, [.int (nI l2), .int (nI h2), .int (nI e2), .int co2]))]) hP hK hT [0, 1] [] rfl rfl [.ref ga, .ref gb])⟩ rfl rfl hl.1 rfl (lv_room (Nat.le_of_ble_eq_true rfl)) dX6_agree_16 ⟨(Nat.le_of_ble_eq_true rfl), (Nat.le_of_ble_eq_true rfl)⟩).run (fun r_342 w_343 => ?_)
      rcases w_343 with ⟨c_344, rfl⟩ | ⟨c_345, rfl⟩
      · refine vx_ret ?_
        exact W.zret (v := 1) hx hb hr rfl (fun t ht hW => ⟨⟨1, (), rfl, (Or.inl (⟨(by first | assumption | exact inR_1 (by assumption) (by assumption) | exact inR_2 (by assumption) (by assumption) | exact inR_3 (by assumption) | exact inR_4 (by assumption) | exact inR_5 (by assumption) | exact ⟨by assumption, by assumption, by assumption, by assumption⟩ | exact ⟨by assumption, by assumption, by assumption⟩ | exact (fun q => absurd q.1 (by assumption)) | exact (fun q => absurd q.2.1 (by assumption)) | exact (fun q => absurd q.2.2 (by assumption)) | exact (fun q => absurd q.2.2.1 (by assumption)) | exact (fun q => absurd q.2.2.2 (by assumption)) | exact isRole_no (by assumption) (by assumption) (by assumption) (by assumption) | exact isRole_nb (by assumption) (by assumption) (by assumption) (by assumption) | exact isRole_out (by assumption) | exact enc_use (by assumption) (by assumption) (by assumption) | exact enc_103 (by assumption) | exact enc_103 (Eq.symm (by assumption)) | exact enc_115 (Eq.symm (by assumption)) | exact enc_102 (Eq.symm (by assumption)) | exact enc_98 (Eq.symm (by assumption)) | exact isRole_nc (by assumption) (by assumption) (by assumption) (by assumption) | exact enc_115 (by assumption) | exact enc_102 (by assumption) | exact enc_98 (by assumption) | exact Or.inr (by assumption) | rfl | exact Or.inl (by assumption) | exact Or.inr (Or.inl (by assumption)) | exact Or.inr (Or.inr (Or.inl (by assumption))) | exact Or.inr (Or.inr (Or.inr (by assumption))) | decide), rfl⟩)), q_RW_mk hP hK hD [2, 3, 0, 1] [0] rfl rfl (by decide) rfl ht hW.alike⟩, hS.F ht⟩) hS.2.2 dX6_agree_19
      · refine vx_ret ?_
        exact W.zret (v := 0) hx hb hr rfl (fun t ht hW => ⟨⟨0, (), rfl, (Or.inr (⟨(by first | assumption | exact inR_1 (by assumption) (by assumption) | exact inR_2 (by assumption) (by assumption) | exact inR_3 (by assumption) | exact inR_4 (by assumption) | exact inR_5 (by assumption) | exact ⟨by assumption, by assumption, by assumption, by assumption⟩ | exact ⟨by assumption, by assumption, by assumption⟩ | exact (fun q => absurd q.1 (by assumption)) | exact (fun q => absurd q.2.1 (by assumption)) | exact (fun q => absurd q.2.2 (by assumption)) | exact (fun q => absurd q.2.2.1 (by assumption)) | exact (fun q => absurd q.2.2.2 (by assumption)) | exact isRole_no (by assumption) (by assumption) (by assumption) (by assumption) | exact isRole_nb (by assumption) (by assumption) (by assumption) (by assumption) | exact isRole_out (by assumption) | exact enc_use (by assumption) (by assumption) (by assumption) | exact enc_103 (by assumption) | exact enc_103 (Eq.symm (by assumption)) | exact enc_115 (Eq.symm (by assumption)) | exact enc_102 (Eq.symm (by assumption)) | exact enc_98 (Eq.symm (by assumption)) | exact isRole_nc (by assumption) (by assumption) (by assumption) (by assumption) | exact enc_115 (by assumption) | exact enc_102 (by assumption) | exact enc_98 (by assumption) | exact Or.inr (by assumption) | rfl | exact Or.inl (by assumption) | exact Or.inr (Or.inl (by assumption)) | exact Or.inr (Or.inr (Or.inl (by assumption))) | exact Or.inr (Or.inr (Or.inr (by assumption))) | decide), rfl⟩)), q_RW_mk hP hK hD [2, 3, 0, 1] [0] rfl rfl (by decide) rfl ht hW.alike⟩, hS.F ht⟩) hS.2.2 dX6_agree_19
def wzEX6_agree_1 : List Cond := [.code yX6_agree cX6_agree 5 (some .boolean), .methodLink RX6 89 yX6_findGlass, .instanceMethod yX6_findGlass, .selects RX6 yX6_findGlass yX6_findGlass, .initialized RX6, .code yX6_findGlass cX6_findGlass 3 (some (.object "Gatherhouse$Glass")), .fieldLink RX6 11 "Gatherhouse" "glasses" "[LGatherhouse$Glass;", .code yX0_agreesWith cX0_agreesWith 4 (some .boolean), .fieldLink RX0 15 "Gatherhouse$Glass" "high" "I", .methodLink RX0 24 Lib.Math.min.name, .static Lib.Math.min.name, .initialized "java/lang/Math", .code Lib.Math.min.name Lib.Math.min.code 2 (some .int), .fieldLink RX0 9 "Gatherhouse$Glass" "low" "I", .methodLink RX0 30 Lib.Math.max.name, .static Lib.Math.max.name, .code Lib.Math.max.name Lib.Math.max.code 2 (some .int), .fieldLink RX0 18 "Gatherhouse$Glass" "expansion" "I", .methodLink RX0 33 Lib.Math.abs.name, .static Lib.Math.abs.name, .code Lib.Math.abs.name Lib.Math.abs.code 1 (some .int), .initialized RX0, .instanceMethod yX0_agreesWith, .selects RX0 yX0_agreesWith yX0_agreesWith]
def wzX6_agree_1 : List Cond := wzEX6_agree_1 ++ (u_ws RX6 TX6 16 ++ (u_ws RX0 TX0 4))
theorem zgEX6_agree_1 : wzEX6_agree_1.all goodWord = true := by decide +kernel
theorem zuX6_agree_1_X6 : ∀ w ∈ u_ws RX6 TX6 16, w ∈ wzX6_agree_1 := (fun _ h => (List.mem_append_right _ (List.mem_append_left _ h)))
theorem zuX6_agree_1_X0 : ∀ w ∈ u_ws RX0 TX0 4, w ∈ wzX6_agree_1 := (fun _ h => (List.mem_append_right _ (List.mem_append_right _ h)))
theorem gzX6_agree_1_X6_findGlass_ok_89 : GoodIn wzX6_agree_1 (wsV RX6 89 RX6 yX6_findGlass wzX6_findGlass_ok) := (goodIn_app (z_lift (goodIn_r _ [1, 2, 3, 4] rfl (by decide +kernel))) (goodIn_app (z_lift (goodIn_r wzEX6_findGlass_ok [5, 6] rfl zgEX6_findGlass_ok)) (goodIn_sub (fun _ h => (List.mem_append_right _ (List.mem_append_left _ h))) zgU_X6)))
theorem gzX6_agree_1_X0_agreesWith_1_93 : GoodIn wzX6_agree_1 (wzX0_agreesWith_1) := (goodIn_app (z_lift (goodIn_r wzEX0_agreesWith_1 [7, 8, 9, 10, 11, 12, 13, 14, 15, 16, 17, 18, 19, 20] rfl zgEX0_agreesWith_1)) (goodIn_sub (fun _ h => (List.mem_append_right _ (List.mem_append_right _ h))) zgU_X0))
set_option maxHeartbeats 4000000 in
set_option maxRecDepth 100000 in
theorem zc_X6_agree_1 (l : Launch) (hnt : l.stackTraces = false) (D : va_G) (G : Nat × Nat × (Nat → Int32)) (xo : Nat) (k : Nat) (xg : Nat) (gc : Int32) (xp : Nat) (pc : Int32) (xq : Nat) (qc : Int32) (r1 : Nat) (r2 : Nat) (r3 : Nat) (r4 : Nat) (se : Nat) (ts : Int32) (hou : Int32) (dr : Int32) (su : Int32) (br : Int32) (cg : ClassId) (f : Nat → Option Nat) (ga : Nat) (l1 : Nat) (h1 : Nat) (e1 : Nat) (co1 : Int32) (sz : Nat) (h9f : f k = some ga) (hh_l1 : l1 ≤ 2000) (hh_h1 : h1 ≤ 2000) (hh_e1 : e1 ≤ 2000) (hh_k : k ≤ 5) : vx_Met l yX6_agree wzX6_agree_1 ({ frames := 2, cells := 0, slots := 0, locals := 45 }) (va_Pc [.ref xo, .int (nI k), .int (nI k)] (p_RW D G [(cg, .object "Gatherhouse$Glass")] [(xo, .inr (6, [.ref xg, .int gc, .ref xp, .int pc, .ref xq, .int qc, .ref r1, .ref r2, .ref r3, .ref r4, .ref se, .int ts, .int hou, .int dr, .int su, .int br])), (xg, .inl (cg, 6, .inr (.inr (.inr (.inr f))))), (ga, .inr (0, [.int (nI l1), .int (nI h1), .int (nI e1), .int co1]))] sz)) (va_Qi (fun (r : Int32) (u : Unit) => (gAg l1 h1 e1 l1 h1 e1 ∧ r = 1) ∨ (¬ gAg l1 h1 e1 l1 h1 e1 ∧ r = 0)) (fun (u : Unit) (t : State) => q_RW D [(cg, .object "Gatherhouse$Glass")] [(xo, .inr (6, [.ref xg, .int gc, .ref xp, .int pc, .ref xq, .int qc, .ref r1, .ref r2, .ref r3, .ref r4, .ref se, .int ts, .int hou, .int dr, .int su, .int br])), (xg, .inl (cg, 6, .inr (.inr (.inr (.inr f))))), (ga, .inr (0, [.int (nI l1), .int (nI h1), .int (nI e1), .int co1]))] (va_A [(xo, .inr (6, [.ref xg, .int gc, .ref xp, .int pc, .ref xq, .int qc, .ref r1, .ref r2, .ref r3, .ref r4, .ref se, .int ts, .int hou, .int dr, .int su, .int br])), (xg, .inl (cg, 6, .inr (.inr (.inr (.inr f))))), (ga, .inr (0, [.int (nI l1), .int (nI h1), .int (nI e1), .int co1]))] sz) t) (va_A [(xo, .inr (6, [.ref xg, .int gc, .ref xp, .int pc, .ref xq, .int qc, .ref r1, .ref r2, .ref r3, .ref r4, .ref se, .int ts, .int hou, .int dr, .int su, .int br])), (xg, .inl (cg, 6, .inr (.inr (.inr (.inr f))))), (ga, .inr (0, [.int (nI l1), .int (nI h1), .int (nI e1), .int co1]))] sz)) (vx_X (fun (_ : Unit) => True) (fun E (_ : Unit) (_ : State) => False) (va_A [(xo, .inr (6, [.ref xg, .int gc, .ref xp, .int pc, .ref xq, .int qc, .ref r1, .ref r2, .ref r3, .ref r4, .ref se, .int ts, .int hou, .int dr, .int su, .int br])), (xg, .inl (cg, 6, .inr (.inr (.inr (.inr f))))), (ga, .inr (0, [.int (nI l1), .int (nI h1), .int (nI e1), .int co1]))] sz)) 0 0 (va_A [(xo, .inr (6, [.ref xg, .int gc, .ref xp, .int pc, .ref xq, .int qc, .ref r1, .ref r2, .ref r3, .ref r4, .ref se, .int ts, .int hou, .int dr, .int su, .int br])), (xg, .inl (cg, 6, .inr (.inr (.inr (.inr f))))), (ga, .inr (0, [.int (nI l1), .int (nI h1), .int (nI e1), .int co1]))] sz) := by
  refine vx_ofW (cc := cX6_agree) (maxL := 5) (ret := (some .boolean)) (by decide) rfl ?_
  intro p e s m args below meth c s₁ B hml hxt hv
  obtain ⟨rfl, hsz, hP, hK, hD0, hT, hZ⟩ := hv
  have hx := B.exec
  have hb := B.bytes
  have hr := B.returns
  have hts := atoms_spec (ws := wzX6_agree_1) B.pre
  have hown : s.vm.findClass RX6 = some m.cls := findClass_of_methodNamed B.named
  have hlocks := B.notSynchronized
  subst hsz
  have hD := hD0.self (sz := s.heap.size)
  generalize hAe : va_A [(xo, .inr (6, [.ref xg, .int gc, .ref xp, .int pc, .ref xq, .int qc, .ref r1, .ref r2, .ref r3, .ref r4, .ref se, .int ts, .int hou, .int dr, .int su, .int br])), (xg, .inl (cg, 6, .inr (.inr (.inr (.inr f))))), (ga, .inr (0, [.int (nI l1), .int (nI h1), .int (nI e1), .int co1]))] s.heap.size = A at hD hZ ⊢
  have hA : ∀ q : Nat, s.heap.size ≤ q → A q := fun q h => by rw [← hAe]; exact Or.inr h
  have hS : va_S A s.heap s.heap [] := va_S.rf
  have hl := lv_entry ([.ref xo, .int (nI k), .int (nI k)]) (n := 5) (Nat.le_of_ble_eq_true rfl)
  rw [lg_entry_eq]
  generalize (lg_sl ([.ref xo, .int (nI k), .int (nI k)]) ++ List.replicate (5 - (lg_sl ([.ref xo, .int (nI k), .int (nI k)])).length) Slot.unset).toArray = ls at hl ⊢
  have hl : lv_has ls 5 [(0, .ref xo), (1, .int (nI k)), (2, .int (nI k))] := hl
  refine lv_aload_n hx hb dX6_agree_0 rfl (lv_at hl 0 rfl) ?_
  refine lv_iload_n hx hb dX6_agree_1 rfl (lv_at hl 1 rfl) ?_
  have hFc := va_free (wc := [(xo, .inr (6, [.ref xg, .int gc, .ref xp, .int pc, .ref xq, .int qc, .ref r1, .ref r2, .ref r3, .ref r4, .ref se, .int ts, .int hou, .int dr, .int su, .int br])), (xg, .inl (cg, 6, .inr (.inr (.inr (.inr f)))))]) hD hS hA [0, 1] rfl
  refine vx_callq (vx_runV (As := [.int (nI k)]) (rest := []) ⟨hx, hb, hml, hown, hts⟩ (zc_X6_findGlass_ok l hnt D G xo k xg gc xp pc xq qc r1 r2 r3 r4 se ts hou dr su br cg f ga s.heap.size (by first | assumption | rfl | omega | exact Nat.le_trans (zS_le _ _ _) (by omega) | decide) (by first | assumption | rfl | omega | exact Nat.le_trans (zS_le _ _ _) (by omega) | decide)) (cwV 1 hts gzX6_agree_1_X6_findGlass_ok_89 rfl rfl rfl (by decide +kernel) ⟨(Nat.le_of_ble_eq_true rfl), (Nat.le_of_ble_eq_true rfl)⟩) ⟨p_RW_blind, va_recv hK hP (ci := 6) (q0 := 0) rfl rfl, (p_RW_at (tc := [(cg, .object "Gatherhouse$Glass")]) (wc := [(xo, .inr (6, [.ref xg, .int gc, .ref xp, .int pc, .ref xq, .int qc, .ref r1, .ref r2, .ref r3, .ref r4, .ref se, .int ts, .int hou, .int dr, .int su, .int br])), (xg, .inl (cg, 6, .inr (.inr (.inr (.inr f)))))]) hP hK hD hS hA hT hZ [0, 1] [0] rfl rfl (by decide) rfl [.ref xo, .int (nI k)])⟩ rfl rfl hl.1 rfl (lv_room (Nat.le_of_ble_eq_true rfl)) dX6_agree_2 ⟨(Nat.le_of_ble_eq_true rfl), (Nat.le_of_ble_eq_true rfl)⟩) hS (fun q _ h => hFc q h) hFc (fun q _ h => hFc q h) (fun E ce q9 u t H locs ht hvm hpx hBX hz1 hk1 hS hce hcv hcl => ?_) (fun r_346 u t H locs ht hvm w_347 hB hz1 hk1 hS => ?_)
  · exact (show False from hBX).elim
  · obtain ⟨hP, hD, hK⟩ := q_join (D := D) (wc := [(xo, .inr (6, [.ref xg, .int gc, .ref xp, .int pc, .ref xq, .int qc, .ref r1, .ref r2, .ref r3, .ref r4, .ref se, .int ts, .int hou, .int dr, .int su, .int br])), (xg, .inl (cg, 6, .inr (.inr (.inr (.inr f)))))]) (wr := [(ga, .inr (0, [.int (nI l1), .int (nI h1), .int (nI e1), .int co1]))]) (w1 := [(xo, .inr (6, [.ref xg, .int gc, .ref xp, .int pc, .ref xq, .int qc, .ref r1, .ref r2, .ref r3, .ref r4, .ref se, .int ts, .int hou, .int dr, .int su, .int br])), (xg, .inl (cg, 6, .inr (.inr (.inr (.inr f)))))]) (tyr := []) (ty1 := [(cg, .object "Gatherhouse$Glass")]) hP hD hK [0, 1] [2] [] rfl rfl (by decide) (by decide) rfl hFc hk1 ht hvm hB
    have hP : va_P D vwCl [(ga, .inr (0, [.int (nI l1), .int (nI h1), .int (nI e1), .int co1])), (xo, .inr (6, [.ref xg, .int gc, .ref xp, .int pc, .ref xq, .int qc, .ref r1, .ref r2, .ref r3, .ref r4, .ref se, .int ts, .int hou, .int dr, .int su, .int br])), (xg, .inl (cg, 6, .inr (.inr (.inr (.inr f)))))] H := hP
    have hD : va_D A [(ga, .inr (0, [.int (nI l1), .int (nI h1), .int (nI e1), .int co1])), (xo, .inr (6, [.ref xg, .int gc, .ref xp, .int pc, .ref xq, .int qc, .ref r1, .ref r2, .ref r3, .ref r4, .ref se, .int ts, .int hou, .int dr, .int su, .int br])), (xg, .inl (cg, 6, .inr (.inr (.inr (.inr f)))))] := hD
    have hK : va_K D vwCl [(cg, .object "Gatherhouse$Glass")] s := hK
    obtain rfl := w_347
    refine W.eq (g2 := F0 m 5 ls [.ref ga]) rfl ?_
    refine lv_astore_n (lv' := [(3, .ref ga), (0, .ref xo), (1, .int (nI k)), (2, .int (nI k))]) hx hb dX6_agree_5 rfl hl (by decide) rfl (fun ls hl => ?_)
    refine lv_aload_n hx hb dX6_agree_6 rfl (lv_at hl 1 rfl) ?_
    refine lv_iload_n hx hb dX6_agree_7 rfl (lv_at hl 3 rfl) ?_
    have hFc := va_free (wc := [(xo, .inr (6, [.ref xg, .int gc, .ref xp, .int pc, .ref xq, .int qc, .ref r1, .ref r2, .ref r3, .ref r4, .ref se, .int ts, .int hou, .int dr, .int su, .int br])), (xg, .inl (cg, 6, .inr (.inr (.inr (.inr f)))))]) hD hS hA [1, 2] rfl
    refine vx_callq (vx_runV (As := [.int (nI k)]) (rest := []) ⟨hx, hb, hml, hown, hts⟩ (zc_X6_findGlass_ok l hnt D G xo k xg gc xp pc xq qc r1 r2 r3 r4 se ts hou dr su br cg f ga H.size (by first | assumption | rfl | omega | exact Nat.le_trans (zS_le _ _ _) (by omega) | decide) (by first | assumption | rfl | omega | exact Nat.le_trans (zS_le _ _ _) (by omega) | decide)) (cwV 1 hts gzX6_agree_1_X6_findGlass_ok_89 rfl rfl rfl (by decide +kernel) ⟨(Nat.le_of_ble_eq_true rfl), (Nat.le_of_ble_eq_true rfl)⟩) ⟨p_RW_blind, va_recv hK hP (ci := 6) (q0 := 1) rfl rfl, (p_RW_at (tc := [(cg, .object "Gatherhouse$Glass")]) (wc := [(xo, .inr (6, [.ref xg, .int gc, .ref xp, .int pc, .ref xq, .int qc, .ref r1, .ref r2, .ref r3, .ref r4, .ref se, .int ts, .int hou, .int dr, .int su, .int br])), (xg, .inl (cg, 6, .inr (.inr (.inr (.inr f)))))]) hP hK hD hS hA hT hZ [1, 2] [0] rfl rfl (by decide) rfl [.ref xo, .int (nI k)])⟩ rfl rfl hl.1 rfl (lv_room (Nat.le_of_ble_eq_true rfl)) dX6_agree_8 ⟨(Nat.le_of_ble_eq_true rfl), (Nat.le_of_ble_eq_true rfl)⟩) hS (fun q _ h => hFc q h) hFc (fun q _ h => hFc q h) (fun E ce q9 u t H locs ht hvm hpx hBX hz1 hk1 hS hce hcv hcl => ?_) (fun r_348 u t H locs ht hvm w_349 hB hz1 hk1 hS => ?_)
    · exact (show False from hBX).elim
    · obtain ⟨hP, hD, hK⟩ := q_join (D := D) (wc := [(xo, .inr (6, [.ref xg, .int gc, .ref xp, .int pc, .ref xq, .int qc, .ref r1, .ref r2, .ref r3, .ref r4, .ref se, .int ts, .int hou, .int dr, .int su, .int br])), (xg, .inl (cg, 6, .inr (.inr (.inr (.inr f)))))]) (wr := [(ga, .inr (0, [.int (nI l1), .int (nI h1), .int (nI e1), .int co1]))]) (w1 := [(xo, .inr (6, [.ref xg, .int gc, .ref xp, .int pc, .ref xq, .int qc, .ref r1, .ref r2, .ref r3, .ref r4, .ref se, .int ts, .int hou, .int dr, .int su, .int br])), (xg, .inl (cg, 6, .inr (.inr (.inr (.inr f)))))]) (tyr := []) (ty1 := [(cg, .object "Gatherhouse$Glass")]) hP hD hK [1, 2] [0] [] rfl rfl (by decide) (by decide) rfl hFc hk1 ht hvm hB
      have hP : va_P D vwCl [(ga, .inr (0, [.int (nI l1), .int (nI h1), .int (nI e1), .int co1])), (xo, .inr (6, [.ref xg, .int gc, .ref xp, .int pc, .ref xq, .int qc, .ref r1, .ref r2, .ref r3, .ref r4, .ref se, .int ts, .int hou, .int dr, .int su, .int br])), (xg, .inl (cg, 6, .inr (.inr (.inr (.inr f)))))] H := hP
      have hD : va_D A [(ga, .inr (0, [.int (nI l1), .int (nI h1), .int (nI e1), .int co1])), (xo, .inr (6, [.ref xg, .int gc, .ref xp, .int pc, .ref xq, .int qc, .ref r1, .ref r2, .ref r3, .ref r4, .ref se, .int ts, .int hou, .int dr, .int su, .int br])), (xg, .inl (cg, 6, .inr (.inr (.inr (.inr f)))))] := hD
      have hK : va_K D vwCl [(cg, .object "Gatherhouse$Glass")] s := hK
      obtain rfl := w_349
      refine W.eq (g2 := F0 m 11 ls [.ref ga]) rfl ?_
      refine lv_astore (lv' := [(4, .ref ga), (3, .ref ga), (0, .ref xo), (1, .int (nI k)), (2, .int (nI k))]) hx hb dX6_agree_11 hl (by decide) rfl (fun ls hl => ?_)
      refine lv_aload_n hx hb dX6_agree_13 rfl (lv_at hl 1 rfl) ?_
      refine lv_aload hx hb dX6_agree_14 (lv_at hl 0 rfl) ?_
      refine vp_callSi (va_runVN (As := [.ref ga]) (rest := []) ⟨hx, hb, hml, hown, hts⟩ (zc_X0_agreesWith_1 l D G ga l1 h1 e1 co1 (by first | assumption | rfl | omega | exact Nat.le_trans (zS_le _ _ _) (by omega) | decide) (by first | assumption | rfl | omega | exact Nat.le_trans (zS_le _ _ _) (by omega) | decide) (by first | assumption | rfl | omega | exact Nat.le_trans (zS_le _ _ _) (by omega) | decide)) ⟨va_cnB 1 hts gzX6_agree_1_X0_agreesWith_1_93 rfl rfl rfl (hT.1 ("Gatherhouse", 93, ⟨"Gatherhouse$Glass", "agreesWith", "(LGatherhouse$Glass;)Z"⟩, "Gatherhouse") (by decide +kernel)) (hts (.initialized RX0) (by decide +kernel)) (by decide +kernel) ⟨(Nat.le_of_ble_eq_true rfl), (Nat.le_of_ble_eq_true rfl)⟩, (hts (.instanceMethod yX0_agreesWith) (by decide +kernel)), (hts (.selects RX0 yX0_agreesWith yX0_agreesWith) (by decide +kernel))⟩ ⟨p_RO_blind, va_recv hK hP (ci := 0) (q0 := 0) rfl rfl, (p_RO_at (tc := []) (wc := [(ga, .inr (0, [.int (nI l1), .int (nI h1), .int (nI e1), .int co1]))]) hP hK hT [0] [] rfl rfl [.ref ga, .ref ga])⟩ rfl rfl hl.1 rfl (lv_room (Nat.le_of_ble_eq_true rfl)) dX6_agree_16 ⟨(Nat.le_of_ble_eq_true rfl), (Nat.le_of_ble_eq_true rfl)⟩).run (fun r_350 w_351 => ?_)
      rcases w_351 with ⟨c_352, rfl⟩ | ⟨c_353, rfl⟩
      · refine vx_ret ?_
        exact W.zret (v := 1) hx hb hr rfl (fun t ht hW => ⟨⟨1, (), rfl, (Or.inl (⟨(by first | assumption | exact inR_1 (by assumption) (by assumption) | exact inR_2 (by assumption) (by assumption) | exact inR_3 (by assumption) | exact inR_4 (by assumption) | exact inR_5 (by assumption) | exact ⟨by assumption, by assumption, by assumption, by assumption⟩ | exact ⟨by assumption, by assumption, by assumption⟩ | exact (fun q => absurd q.1 (by assumption)) | exact (fun q => absurd q.2.1 (by assumption)) | exact (fun q => absurd q.2.2 (by assumption)) | exact (fun q => absurd q.2.2.1 (by assumption)) | exact (fun q => absurd q.2.2.2 (by assumption)) | exact isRole_no (by assumption) (by assumption) (by assumption) (by assumption) | exact isRole_nb (by assumption) (by assumption) (by assumption) (by assumption) | exact isRole_out (by assumption) | exact enc_use (by assumption) (by assumption) (by assumption) | exact enc_103 (by assumption) | exact enc_103 (Eq.symm (by assumption)) | exact enc_115 (Eq.symm (by assumption)) | exact enc_102 (Eq.symm (by assumption)) | exact enc_98 (Eq.symm (by assumption)) | exact isRole_nc (by assumption) (by assumption) (by assumption) (by assumption) | exact enc_115 (by assumption) | exact enc_102 (by assumption) | exact enc_98 (by assumption) | exact Or.inr (by assumption) | rfl | exact Or.inl (by assumption) | exact Or.inr (Or.inl (by assumption)) | exact Or.inr (Or.inr (Or.inl (by assumption))) | exact Or.inr (Or.inr (Or.inr (by assumption))) | decide), rfl⟩)), q_RW_mk hP hK hD [1, 2, 0] [0] rfl rfl (by decide) rfl ht hW.alike⟩, hS.F ht⟩) hS.2.2 dX6_agree_19
      · refine vx_ret ?_
        exact W.zret (v := 0) hx hb hr rfl (fun t ht hW => ⟨⟨0, (), rfl, (Or.inr (⟨(by first | assumption | exact inR_1 (by assumption) (by assumption) | exact inR_2 (by assumption) (by assumption) | exact inR_3 (by assumption) | exact inR_4 (by assumption) | exact inR_5 (by assumption) | exact ⟨by assumption, by assumption, by assumption, by assumption⟩ | exact ⟨by assumption, by assumption, by assumption⟩ | exact (fun q => absurd q.1 (by assumption)) | exact (fun q => absurd q.2.1 (by assumption)) | exact (fun q => absurd q.2.2 (by assumption)) | exact (fun q => absurd q.2.2.1 (by assumption)) | exact (fun q => absurd q.2.2.2 (by assumption)) | exact isRole_no (by assumption) (by assumption) (by assumption) (by assumption) | exact isRole_nb (by assumption) (by assumption) (by assumption) (by assumption) | exact isRole_out (by assumption) | exact enc_use (by assumption) (by assumption) (by assumption) | exact enc_103 (by assumption) | exact enc_103 (Eq.symm (by assumption)) | exact enc_115 (Eq.symm (by assumption)) | exact enc_102 (Eq.symm (by assumption)) | exact enc_98 (Eq.symm (by assumption)) | exact isRole_nc (by assumption) (by assumption) (by assumption) (by assumption) | exact enc_115 (by assumption) | exact enc_102 (by assumption) | exact enc_98 (by assumption) | exact Or.inr (by assumption) | rfl | exact Or.inl (by assumption) | exact Or.inr (Or.inl (by assumption)) | exact Or.inr (Or.inr (Or.inl (by assumption))) | exact Or.inr (Or.inr (Or.inr (by assumption))) | decide), rfl⟩)), q_RW_mk hP hK hD [1, 2, 0] [0] rfl rfl (by decide) rfl ht hW.alike⟩, hS.F ht⟩) hS.2.2 dX6_agree_19
def wzEX6_agree_out : List Cond := [.code yX6_agree cX6_agree 5 (some .boolean), .methodLink RX6 89 yX6_findGlass, .instanceMethod yX6_findGlass, .selects RX6 yX6_findGlass yX6_findGlass, .initialized RX6, .code yX6_findGlass cX6_findGlass 3 (some (.object "Gatherhouse$Glass")), .fieldLink RX6 11 "Gatherhouse" "glasses" "[LGatherhouse$Glass;", .classLink RX6 365 "java/lang/IndexOutOfBoundsException", .initialized "java/lang/IndexOutOfBoundsException"]
def wzX6_agree_out : List Cond := wzEX6_agree_out ++ (u_ws RX6 TX6 16 ++ ((vx_atS RX6 369 "java/lang/IndexOutOfBoundsException" ["java/lang/RuntimeException", "java/lang/Exception"]).filter goodWord))
theorem zgEX6_agree_out : wzEX6_agree_out.all goodWord = true := by decide +kernel
theorem zuX6_agree_out_X6 : ∀ w ∈ u_ws RX6 TX6 16, w ∈ wzX6_agree_out := (fun _ h => (List.mem_append_right _ (List.mem_append_left _ h)))
theorem ztX6_agree_out_X6_369 : ∀ w ∈ (vx_atS RX6 369 "java/lang/IndexOutOfBoundsException" ["java/lang/RuntimeException", "java/lang/Exception"]).filter goodWord, w ∈ wzX6_agree_out := (fun _ h => (List.mem_append_right _ (List.mem_append_right _ h)))
theorem gzX6_agree_out_X6_findGlass_ok_89 : GoodIn wzX6_agree_out (wsV RX6 89 RX6 yX6_findGlass wzX6_findGlass_ok) := (goodIn_app (z_lift (goodIn_r _ [1, 2, 3, 4] rfl (by decide +kernel))) (goodIn_app (z_lift (goodIn_r wzEX6_findGlass_ok [5, 6] rfl zgEX6_findGlass_ok)) (goodIn_sub (fun _ h => (List.mem_append_right _ (List.mem_append_left _ h))) zgU_X6)))
theorem gzX6_agree_out_X6_findGlass_out_89 : GoodIn wzX6_agree_out (wsV RX6 89 RX6 yX6_findGlass wzX6_findGlass_out) := (goodIn_app (z_lift (goodIn_r _ [1, 2, 3, 4] rfl (by decide +kernel))) (goodIn_app (z_lift (goodIn_r wzEX6_findGlass_out [5, 6, 7, 8] rfl zgEX6_findGlass_out)) (goodIn_app (goodIn_sub (fun _ h => (List.mem_append_right _ (List.mem_append_left _ h))) zgU_X6) (goodIn_sub (fun _ h => (List.mem_append_right _ (List.mem_append_right _ h))) zgV_X6_369))))
set_option maxHeartbeats 4000000 in
set_option maxRecDepth 100000 in
theorem zc_X6_agree_out (l : Launch) (hnt : l.stackTraces = false) (D : va_G) (G : Nat × Nat × (Nat → Int32)) (xo : Nat) (xg : Nat) (gc : Int32) (xp : Nat) (pc : Int32) (xq : Nat) (qc : Int32) (r1 : Nat) (r2 : Nat) (r3 : Nat) (r4 : Nat) (se : Nat) (ts : Int32) (hou : Int32) (dr : Int32) (su : Int32) (br : Int32) (cg : ClassId) (f : Nat → Option Nat) (ga : Nat) (l1 : Nat) (h1 : Nat) (e1 : Nat) (co1 : Int32) (sz : Nat) (h9f : f 0 = some ga) (hh_l1 : l1 ≤ 2000) (hh_h1 : h1 ≤ 2000) (hh_e1 : e1 ≤ 2000) : vx_Met l yX6_agree wzX6_agree_out ({ frames := 7, cells := 1, slots := 6, locals := 104 }) (va_Pc [.ref xo, .int 0, .int 6] (p_RW D G [(cg, .object "Gatherhouse$Glass")] [(xo, .inr (6, [.ref xg, .int gc, .ref xp, .int pc, .ref xq, .int qc, .ref r1, .ref r2, .ref r3, .ref r4, .ref se, .int ts, .int hou, .int dr, .int su, .int br])), (xg, .inl (cg, 6, .inr (.inr (.inr (.inr f))))), (ga, .inr (0, [.int (nI l1), .int (nI h1), .int (nI e1), .int co1]))] sz)) (va_Qi (fun (r : Int32) (u : Unit) => False) (fun (u : Unit) (t : State) => q_RW D [(cg, .object "Gatherhouse$Glass")] [(xo, .inr (6, [.ref xg, .int gc, .ref xp, .int pc, .ref xq, .int qc, .ref r1, .ref r2, .ref r3, .ref r4, .ref se, .int ts, .int hou, .int dr, .int su, .int br])), (xg, .inl (cg, 6, .inr (.inr (.inr (.inr f))))), (ga, .inr (0, [.int (nI l1), .int (nI h1), .int (nI e1), .int co1]))] (va_A [(xo, .inr (6, [.ref xg, .int gc, .ref xp, .int pc, .ref xq, .int qc, .ref r1, .ref r2, .ref r3, .ref r4, .ref se, .int ts, .int hou, .int dr, .int su, .int br])), (xg, .inl (cg, 6, .inr (.inr (.inr (.inr f))))), (ga, .inr (0, [.int (nI l1), .int (nI h1), .int (nI e1), .int co1]))] sz) t) (va_A [(xo, .inr (6, [.ref xg, .int gc, .ref xp, .int pc, .ref xq, .int qc, .ref r1, .ref r2, .ref r3, .ref r4, .ref se, .int ts, .int hou, .int dr, .int su, .int br])), (xg, .inl (cg, 6, .inr (.inr (.inr (.inr f))))), (ga, .inr (0, [.int (nI l1), .int (nI h1), .int (nI e1), .int co1]))] sz)) (vx_X (fun (_ : Unit) => True) (fun E (_ : Unit) (t : State) => ((E = "java/lang/IndexOutOfBoundsException")) ∧ q_RW D [(cg, .object "Gatherhouse$Glass")] [(xo, .inr (6, [.ref xg, .int gc, .ref xp, .int pc, .ref xq, .int qc, .ref r1, .ref r2, .ref r3, .ref r4, .ref se, .int ts, .int hou, .int dr, .int su, .int br])), (xg, .inl (cg, 6, .inr (.inr (.inr (.inr f))))), (ga, .inr (0, [.int (nI l1), .int (nI h1), .int (nI e1), .int co1]))] (va_A [(xo, .inr (6, [.ref xg, .int gc, .ref xp, .int pc, .ref xq, .int qc, .ref r1, .ref r2, .ref r3, .ref r4, .ref se, .int ts, .int hou, .int dr, .int su, .int br])), (xg, .inl (cg, 6, .inr (.inr (.inr (.inr f))))), (ga, .inr (0, [.int (nI l1), .int (nI h1), .int (nI e1), .int co1]))] sz) t) (va_A [(xo, .inr (6, [.ref xg, .int gc, .ref xp, .int pc, .ref xq, .int qc, .ref r1, .ref r2, .ref r3, .ref r4, .ref se, .int ts, .int hou, .int dr, .int su, .int br])), (xg, .inl (cg, 6, .inr (.inr (.inr (.inr f))))), (ga, .inr (0, [.int (nI l1), .int (nI h1), .int (nI e1), .int co1]))] sz)) 1 6 (va_A [(xo, .inr (6, [.ref xg, .int gc, .ref xp, .int pc, .ref xq, .int qc, .ref r1, .ref r2, .ref r3, .ref r4, .ref se, .int ts, .int hou, .int dr, .int su, .int br])), (xg, .inl (cg, 6, .inr (.inr (.inr (.inr f))))), (ga, .inr (0, [.int (nI l1), .int (nI h1), .int (nI e1), .int co1]))] sz) := by
  refine vx_ofW (cc := cX6_agree) (maxL := 5) (ret := (some .boolean)) (by decide) rfl ?_
  intro p e s m args below meth c s₁ B hml hxt hv
  obtain ⟨rfl, hsz, hP, hK, hD0, hT, hZ⟩ := hv
  have hx := B.exec
  have hb := B.bytes
  have hr := B.returns
  have hts := atoms_spec (ws := wzX6_agree_out) B.pre
  have hown : s.vm.findClass RX6 = some m.cls := findClass_of_methodNamed B.named
  have hlocks := B.notSynchronized
  subst hsz
  have hD := hD0.self (sz := s.heap.size)
  generalize hAe : va_A [(xo, .inr (6, [.ref xg, .int gc, .ref xp, .int pc, .ref xq, .int qc, .ref r1, .ref r2, .ref r3, .ref r4, .ref se, .int ts, .int hou, .int dr, .int su, .int br])), (xg, .inl (cg, 6, .inr (.inr (.inr (.inr f))))), (ga, .inr (0, [.int (nI l1), .int (nI h1), .int (nI e1), .int co1]))] s.heap.size = A at hD hZ ⊢
  have hA : ∀ q : Nat, s.heap.size ≤ q → A q := fun q h => by rw [← hAe]; exact Or.inr h
  have hS : va_S A s.heap s.heap [] := va_S.rf
  have hl := lv_entry ([.ref xo, .int 0, .int 6]) (n := 5) (Nat.le_of_ble_eq_true rfl)
  rw [lg_entry_eq]
  generalize (lg_sl ([.ref xo, .int 0, .int 6]) ++ List.replicate (5 - (lg_sl ([.ref xo, .int 0, .int 6])).length) Slot.unset).toArray = ls at hl ⊢
  have hl : lv_has ls 5 [(0, .ref xo), (1, .int 0), (2, .int 6)] := hl
  refine lv_aload_n hx hb dX6_agree_0 rfl (lv_at hl 0 rfl) ?_
  refine lv_iload_n hx hb dX6_agree_1 rfl (lv_at hl 1 rfl) ?_
  have hFc := va_free (wc := [(xo, .inr (6, [.ref xg, .int gc, .ref xp, .int pc, .ref xq, .int qc, .ref r1, .ref r2, .ref r3, .ref r4, .ref se, .int ts, .int hou, .int dr, .int su, .int br])), (xg, .inl (cg, 6, .inr (.inr (.inr (.inr f)))))]) hD hS hA [0, 1] rfl
  refine vx_callq (vx_runV (As := [.int 0]) (rest := []) ⟨hx, hb, hml, hown, hts⟩ (zc_X6_findGlass_ok l hnt D G xo 0 xg gc xp pc xq qc r1 r2 r3 r4 se ts hou dr su br cg f ga s.heap.size (by first | assumption | rfl | omega | exact Nat.le_trans (zS_le _ _ _) (by omega) | decide) (by first | assumption | rfl | omega | exact Nat.le_trans (zS_le _ _ _) (by omega) | decide)) (cwV 1 hts gzX6_agree_out_X6_findGlass_ok_89 rfl rfl rfl (by decide +kernel) ⟨(Nat.le_of_ble_eq_true rfl), (Nat.le_of_ble_eq_true rfl)⟩) ⟨p_RW_blind, va_recv hK hP (ci := 6) (q0 := 0) rfl rfl, (p_RW_at (tc := [(cg, .object "Gatherhouse$Glass")]) (wc := [(xo, .inr (6, [.ref xg, .int gc, .ref xp, .int pc, .ref xq, .int qc, .ref r1, .ref r2, .ref r3, .ref r4, .ref se, .int ts, .int hou, .int dr, .int su, .int br])), (xg, .inl (cg, 6, .inr (.inr (.inr (.inr f)))))]) hP hK hD hS hA hT hZ [0, 1] [0] rfl rfl (by decide) rfl [.ref xo, .int 0])⟩ rfl rfl hl.1 rfl (lv_room (Nat.le_of_ble_eq_true rfl)) dX6_agree_2 ⟨(Nat.le_of_ble_eq_true rfl), (Nat.le_of_ble_eq_true rfl)⟩) hS (fun q _ h => hFc q h) hFc (fun q _ h => hFc q h) (fun E ce q9 u t H locs ht hvm hpx hBX hz1 hk1 hS hce hcv hcl => ?_) (fun r_354 u t H locs ht hvm w_355 hB hz1 hk1 hS => ?_)
  · exact (show False from hBX).elim
  · obtain ⟨hP, hD, hK⟩ := q_join (D := D) (wc := [(xo, .inr (6, [.ref xg, .int gc, .ref xp, .int pc, .ref xq, .int qc, .ref r1, .ref r2, .ref r3, .ref r4, .ref se, .int ts, .int hou, .int dr, .int su, .int br])), (xg, .inl (cg, 6, .inr (.inr (.inr (.inr f)))))]) (wr := [(ga, .inr (0, [.int (nI l1), .int (nI h1), .int (nI e1), .int co1]))]) (w1 := [(xo, .inr (6, [.ref xg, .int gc, .ref xp, .int pc, .ref xq, .int qc, .ref r1, .ref r2, .ref r3, .ref r4, .ref se, .int ts, .int hou, .int dr, .int su, .int br])), (xg, .inl (cg, 6, .inr (.inr (.inr (.inr f)))))]) (tyr := []) (ty1 := [(cg, .object "Gatherhouse$Glass")]) hP hD hK [0, 1] [2] [] rfl rfl (by decide) (by decide) rfl hFc hk1 ht hvm hB
    have hP : va_P D vwCl [(ga, .inr (0, [.int (nI l1), .int (nI h1), .int (nI e1), .int co1])), (xo, .inr (6, [.ref xg, .int gc, .ref xp, .int pc, .ref xq, .int qc, .ref r1, .ref r2, .ref r3, .ref r4, .ref se, .int ts, .int hou, .int dr, .int su, .int br])), (xg, .inl (cg, 6, .inr (.inr (.inr (.inr f)))))] H := hP
    have hD : va_D A [(ga, .inr (0, [.int (nI l1), .int (nI h1), .int (nI e1), .int co1])), (xo, .inr (6, [.ref xg, .int gc, .ref xp, .int pc, .ref xq, .int qc, .ref r1, .ref r2, .ref r3, .ref r4, .ref se, .int ts, .int hou, .int dr, .int su, .int br])), (xg, .inl (cg, 6, .inr (.inr (.inr (.inr f)))))] := hD
    have hK : va_K D vwCl [(cg, .object "Gatherhouse$Glass")] s := hK
    obtain rfl := w_355
    refine W.eq (g2 := F0 m 5 ls [.ref ga]) rfl ?_
    refine lv_astore_n (lv' := [(3, .ref ga), (0, .ref xo), (1, .int 0), (2, .int 6)]) hx hb dX6_agree_5 rfl hl (by decide) rfl (fun ls hl => ?_)
    refine lv_aload_n hx hb dX6_agree_6 rfl (lv_at hl 1 rfl) ?_
    refine lv_iload_n hx hb dX6_agree_7 rfl (lv_at hl 3 rfl) ?_
    have hFc := va_free (wc := [(xo, .inr (6, [.ref xg, .int gc, .ref xp, .int pc, .ref xq, .int qc, .ref r1, .ref r2, .ref r3, .ref r4, .ref se, .int ts, .int hou, .int dr, .int su, .int br])), (xg, .inl (cg, 6, .inr (.inr (.inr (.inr f)))))]) hD hS hA [1, 2] rfl
    refine vx_callq (vx_runV (As := [.int 6]) (rest := []) ⟨hx, hb, hml, hown, hts⟩ (zc_X6_findGlass_out l hnt D G xo xg gc xp pc xq qc r1 r2 r3 r4 se ts hou dr su br cg f H.size) (cwV 1 hts gzX6_agree_out_X6_findGlass_out_89 rfl rfl rfl (by decide +kernel) ⟨(Nat.le_of_ble_eq_true rfl), (Nat.le_of_ble_eq_true rfl)⟩) ⟨p_RW_blind, va_recv hK hP (ci := 6) (q0 := 1) rfl rfl, (p_RW_at (tc := [(cg, .object "Gatherhouse$Glass")]) (wc := [(xo, .inr (6, [.ref xg, .int gc, .ref xp, .int pc, .ref xq, .int qc, .ref r1, .ref r2, .ref r3, .ref r4, .ref se, .int ts, .int hou, .int dr, .int su, .int br])), (xg, .inl (cg, 6, .inr (.inr (.inr (.inr f)))))]) hP hK hD hS hA hT hZ [1, 2] [0] rfl rfl (by decide) rfl [.ref xo, .int 6])⟩ rfl rfl hl.1 rfl (lv_room (Nat.le_of_ble_eq_true rfl)) dX6_agree_8 ⟨(Nat.le_of_ble_eq_true rfl), (Nat.le_of_ble_eq_true rfl)⟩) hS (fun q _ h => hFc q h) hFc (fun q _ h => hFc q h) (fun E ce q9 u t H locs ht hvm hpx hBX hz1 hk1 hS hce hcv hcl => ?_) (fun r_356 u t H locs ht hvm w_357 hB hz1 hk1 hS => ?_)
    · obtain ⟨hBX, hB⟩ := hBX
      obtain ⟨hP, hD, hK⟩ := q_join (D := D) (wc := [(xo, .inr (6, [.ref xg, .int gc, .ref xp, .int pc, .ref xq, .int qc, .ref r1, .ref r2, .ref r3, .ref r4, .ref se, .int ts, .int hou, .int dr, .int su, .int br])), (xg, .inl (cg, 6, .inr (.inr (.inr (.inr f)))))]) (wr := [(ga, .inr (0, [.int (nI l1), .int (nI h1), .int (nI e1), .int co1]))]) (w1 := [(xo, .inr (6, [.ref xg, .int gc, .ref xp, .int pc, .ref xq, .int qc, .ref r1, .ref r2, .ref r3, .ref r4, .ref se, .int ts, .int hou, .int dr, .int su, .int br])), (xg, .inl (cg, 6, .inr (.inr (.inr (.inr f)))))]) (tyr := []) (ty1 := [(cg, .object "Gatherhouse$Glass")]) hP hD hK [1, 2] [0] [] rfl rfl (by decide) (by decide) rfl hFc hk1 ht hvm hB
      have hP : va_P D vwCl [(ga, .inr (0, [.int (nI l1), .int (nI h1), .int (nI e1), .int co1])), (xo, .inr (6, [.ref xg, .int gc, .ref xp, .int pc, .ref xq, .int qc, .ref r1, .ref r2, .ref r3, .ref r4, .ref se, .int ts, .int hou, .int dr, .int su, .int br])), (xg, .inl (cg, 6, .inr (.inr (.inr (.inr f)))))] H := hP
      have hD : va_D A [(ga, .inr (0, [.int (nI l1), .int (nI h1), .int (nI e1), .int co1])), (xo, .inr (6, [.ref xg, .int gc, .ref xp, .int pc, .ref xq, .int qc, .ref r1, .ref r2, .ref r3, .ref r4, .ref se, .int ts, .int hou, .int dr, .int su, .int br])), (xg, .inl (cg, 6, .inr (.inr (.inr (.inr f)))))] := hD
      have hK : va_K D vwCl [(cg, .object "Gatherhouse$Glass")] s := hK
      have hBX : (E = "java/lang/IndexOutOfBoundsException") := hBX
      rcases hBX with rfl
      exact vx_out (fun x h => (hxt x h).elim) hlocks hce hcv hcl (fun t ht hW9 => ⟨(), trivial, ⟨rfl, q_RW_mk hP hK hD [1, 2, 0] [0] rfl rfl (by decide) rfl ht hW9⟩, hS.F ht⟩) hS.2.2 (Nat.le_of_ble_eq_true rfl) (Nat.le_of_ble_eq_true rfl)
    · exact w_357.elim
theorem dX2_init_0 : decode cX2_init 0 = .ok (.aload_n 0, 1) := by decide +kernel
theorem dX2_init_1 : decode cX2_init 1 = .ok (.invokespecial 3, 3) := by decide +kernel
theorem dX2_init_4 : decode cX2_init 4 = .ok (.aload_n 0, 1) := by decide +kernel
theorem dX2_init_5 : decode cX2_init 5 = .ok (.iconst 0, 1) := by decide +kernel
theorem dX2_init_6 : decode cX2_init 6 = .ok (.putfield 9, 3) := by decide +kernel
theorem dX2_init_9 : decode cX2_init 9 = .ok (.aload_n 0, 1) := by decide +kernel
theorem dX2_init_10 : decode cX2_init 10 = .ok (.iconst 0, 1) := by decide +kernel
theorem dX2_init_11 : decode cX2_init 11 = .ok (.putfield 15, 3) := by decide +kernel
theorem dX2_init_14 : decode cX2_init 14 = .ok (.aload_n 0, 1) := by decide +kernel
theorem dX2_init_15 : decode cX2_init 15 = .ok (.iconst 0, 1) := by decide +kernel
theorem dX2_init_16 : decode cX2_init 16 = .ok (.putfield 18, 3) := by decide +kernel
theorem dX2_init_19 : decode cX2_init 19 = .ok (.aload_n 0, 1) := by decide +kernel
theorem dX2_init_20 : decode cX2_init 20 = .ok (.iconst 0, 1) := by decide +kernel
theorem dX2_init_21 : decode cX2_init 21 = .ok (.putfield 21, 3) := by decide +kernel
theorem dX2_init_24 : decode cX2_init 24 = .ok (.aload_n 0, 1) := by decide +kernel
theorem dX2_init_25 : decode cX2_init 25 = .ok (.aload_n 1, 1) := by decide +kernel
theorem dX2_init_26 : decode cX2_init 26 = .ok (.putfield 24, 3) := by decide +kernel
theorem dX2_init_29 : decode cX2_init 29 = .ok (.return_, 1) := by decide +kernel
def wzEX2_init : List Cond := [.code yX2_init cX2_init 2 none, .methodLink RX2 3 objectInit, .instanceMethod objectInit, .code objectInit ⟨#[0xb1]⟩ 1 none, .fieldLink RX2 9 "Gatherhouse$Pot" "mass" "I", .fieldLink RX2 15 "Gatherhouse$Pot" "seeds" "I", .fieldLink RX2 18 "Gatherhouse$Pot" "stones" "I", .fieldLink RX2 21 "Gatherhouse$Pot" "age" "I", .fieldLink RX2 24 "Gatherhouse$Pot" "glass" "LGatherhouse$Glass;"]
def wzX2_init : List Cond := wzEX2_init ++ (u_ws RX2 TX2 5)
theorem zgEX2_init : wzEX2_init.all goodWord = true := by decide +kernel
theorem zuX2_init_X2 : ∀ w ∈ u_ws RX2 TX2 5, w ∈ wzX2_init := (fun _ h => (List.mem_append_right _ h))
set_option maxHeartbeats 4000000 in
set_option maxRecDepth 100000 in
theorem zc_X2_init (l : Launch) (D : va_G) (G : Nat × Nat × (Nat → Int32)) (po : Nat) (gx : Nat) (sz : Nat) : Met l yX2_init wzX2_init ({ frames := 1, cells := 0, slots := 0, locals := 12 }) (va_Pc [.ref po, .ref gx] (p_RW D G [] [(po, .inr (2, [.null, .int 0, .int 0, .int 0, .int 0]))] sz)) (va_Qv (fun (u : Unit) => True) (fun (u : Unit) (t : State) => q_RW D [] [(po, .inr (2, [.ref gx, .int 0, .int 0, .int 0, .int 0]))] (va_A [(po, .inr (2, [.null, .int 0, .int 0, .int 0, .int 0]))] sz) t) (va_A [(po, .inr (2, [.null, .int 0, .int 0, .int 0, .int 0]))] sz)) 0 0 (va_A [(po, .inr (2, [.null, .int 0, .int 0, .int 0, .int 0]))] sz) := by
  refine Met.ofW (cc := cX2_init) (maxL := 2) (ret := none) (by decide) rfl ?_
  intro p e s m args below meth c s₁ B hml hv
  obtain ⟨rfl, hsz, hP, hK, hD0, hT, hZ⟩ := hv
  have hx := B.exec
  have hb := B.bytes
  have hr := B.returns
  have hts := atoms_spec (ws := wzX2_init) B.pre
  have hown : s.vm.findClass RX2 = some m.cls := findClass_of_methodNamed B.named
  have hlocks := B.notSynchronized
  have hin : meth.name = "<init>" := (name_of_methodNamed B.named B.method).1
  subst hsz
  have hD := hD0.self (sz := s.heap.size)
  generalize hAe : va_A [(po, .inr (2, [.null, .int 0, .int 0, .int 0, .int 0]))] s.heap.size = A at hD hZ ⊢
  have hA : ∀ q : Nat, s.heap.size ≤ q → A q := fun q h => by rw [← hAe]; exact Or.inr h
  have hS : va_S A s.heap s.heap [] := va_S.rf
  have hl := lv_entry ([.ref po, .ref gx]) (n := 2) (Nat.le_of_ble_eq_true rfl)
  rw [lg_entry_eq]
  generalize (lg_sl ([.ref po, .ref gx]) ++ List.replicate (2 - (lg_sl ([.ref po, .ref gx])).length) Slot.unset).toArray = ls at hl ⊢
  have hl : lv_has ls 2 [(0, .ref po), (1, .ref gx)] := hl
  refine lv_aload_n hx hb dX2_init_0 rfl (lv_at hl 0 rfl) ?_
  refine W.objInit hx hb hown (hts (.methodLink RX2 3 objectInit) (by decide +kernel)) (hts (.instanceMethod objectInit) (by decide +kernel)) (hts (.code objectInit ⟨#[0xb1]⟩ 1 none) (by decide +kernel)) rfl (by rw [hml]; exact hl.1) rfl dX2_init_1 (Nat.le_of_ble_eq_true rfl) (Nat.le_of_ble_eq_true rfl) ?_
  refine W.eq (g2 := F0 m 4 ls []) rfl ?_
  refine lv_aload_n hx hb dX2_init_4 rfl (lv_at hl 0 rfl) ?_
  refine lv_iconst (v := 0) hx hb dX2_init_5 (by decide) ?_
  refine va_put (D := D) (cl := vwCl) (ci := 2) (v := .int 0) (ty := .int) (C := RX2) (T := TX2) (N := 5) hx hb hts zuX2_init_X2 tyX2 tyX2_ok nmX2 hown hK hP hD hS 0 rfl rfl 1 (by decide) (hts (.fieldLink RX2 9 "Gatherhouse$Pot" "mass" "I") (by decide +kernel)) (fun _ h9 => h9) rfl (by decide +kernel) rfl rfl (Nat.le_of_ble_eq_true rfl) dX2_init_6 (fun H locs hP hD hS => ?_)
  have hP : va_P D vwCl [(po, .inr (2, [.null, .int 0, .int 0, .int 0, .int 0]))] H := hP
  have hD : va_D A [(po, .inr (2, [.null, .int 0, .int 0, .int 0, .int 0]))] := hD
  refine lv_aload_n hx hb dX2_init_9 rfl (lv_at hl 0 rfl) ?_
  refine lv_iconst (v := 0) hx hb dX2_init_10 (by decide) ?_
  refine va_put (D := D) (cl := vwCl) (ci := 2) (v := .int 0) (ty := .int) (C := RX2) (T := TX2) (N := 5) hx hb hts zuX2_init_X2 tyX2 tyX2_ok nmX2 hown hK hP hD hS 0 rfl rfl 2 (by decide) (hts (.fieldLink RX2 15 "Gatherhouse$Pot" "seeds" "I") (by decide +kernel)) (fun _ h9 => h9) rfl (by decide +kernel) rfl rfl (Nat.le_of_ble_eq_true rfl) dX2_init_11 (fun H locs hP hD hS => ?_)
  have hP : va_P D vwCl [(po, .inr (2, [.null, .int 0, .int 0, .int 0, .int 0]))] H := hP
  have hD : va_D A [(po, .inr (2, [.null, .int 0, .int 0, .int 0, .int 0]))] := hD
  refine lv_aload_n hx hb dX2_init_14 rfl (lv_at hl 0 rfl) ?_
  refine lv_iconst (v := 0) hx hb dX2_init_15 (by decide) ?_
  refine va_put (D := D) (cl := vwCl) (ci := 2) (v := .int 0) (ty := .int) (C := RX2) (T := TX2) (N := 5) hx hb hts zuX2_init_X2 tyX2 tyX2_ok nmX2 hown hK hP hD hS 0 rfl rfl 3 (by decide) (hts (.fieldLink RX2 18 "Gatherhouse$Pot" "stones" "I") (by decide +kernel)) (fun _ h9 => h9) rfl (by decide +kernel) rfl rfl (Nat.le_of_ble_eq_true rfl) dX2_init_16 (fun H locs hP hD hS => ?_)
  have hP : va_P D vwCl [(po, .inr (2, [.null, .int 0, .int 0, .int 0, .int 0]))] H := hP
  have hD : va_D A [(po, .inr (2, [.null, .int 0, .int 0, .int 0, .int 0]))] := hD
  refine lv_aload_n hx hb dX2_init_19 rfl (lv_at hl 0 rfl) ?_
  refine lv_iconst (v := 0) hx hb dX2_init_20 (by decide) ?_
  refine va_put (D := D) (cl := vwCl) (ci := 2) (v := .int 0) (ty := .int) (C := RX2) (T := TX2) (N := 5) hx hb hts zuX2_init_X2 tyX2 tyX2_ok nmX2 hown hK hP hD hS 0 rfl rfl 4 (by decide) (hts (.fieldLink RX2 21 "Gatherhouse$Pot" "age" "I") (by decide +kernel)) (fun _ h9 => h9) rfl (by decide +kernel) rfl rfl (Nat.le_of_ble_eq_true rfl) dX2_init_21 (fun H locs hP hD hS => ?_)
  have hP : va_P D vwCl [(po, .inr (2, [.null, .int 0, .int 0, .int 0, .int 0]))] H := hP
  have hD : va_D A [(po, .inr (2, [.null, .int 0, .int 0, .int 0, .int 0]))] := hD
  refine lv_aload_n hx hb dX2_init_24 rfl (lv_at hl 0 rfl) ?_
  refine lv_aload_n hx hb dX2_init_25 rfl (lv_at hl 1 rfl) ?_
  refine va_putF (D := D) (cl := vwCl) (ci := 2) (v := .ref gx) (ty := (.object "Gatherhouse$Glass")) (C := RX2) (T := TX2) (N := 5) hx hb hts zuX2_init_X2 tyX2 tyX2_ok nmX2 hown hK hP hD hS 0 rfl rfl 0 (by decide) (hts (.fieldLink RX2 24 "Gatherhouse$Pot" "glass" "LGatherhouse$Glass;") (by decide +kernel)) (fun _ h9 => h9) rfl hin rfl (by decide +kernel) rfl rfl (Nat.le_of_ble_eq_true rfl) dX2_init_26 (fun H locs hP hD hS => ?_)
  have hP : va_P D vwCl [(po, .inr (2, [.ref gx, .int 0, .int 0, .int 0, .int 0]))] H := hP
  have hD : va_D A [(po, .inr (2, [.ref gx, .int 0, .int 0, .int 0, .int 0]))] := hD
  exact W.vret hx hb hr (fun t ht hW => ⟨⟨(), rfl, trivial, q_RW_mk hP hK hD [0] [] rfl rfl (by decide) rfl ht hW.alike⟩, hS.F ht⟩) hS.2.2 dX2_init_29
theorem zgU_X2 : (u_ws RX2 TX2 5).all goodWord = true := by decide +kernel
theorem dX6_pot_5 : decode cX6_pot 5 = .ok (.astore_n 2, 1) := by decide +kernel
theorem dX6_pot_6 : decode cX6_pot 6 = .ok (.aload_n 0, 1) := by decide +kernel
theorem dX6_pot_7 : decode cX6_pot 7 = .ok (.getfield 25, 3) := by decide +kernel
theorem dX6_pot_10 : decode cX6_pot 10 = .ok (.ifCond .lt 15, 3) := by decide +kernel
theorem dX6_pot_13 : decode cX6_pot 13 = .ok (.aload_n 0, 1) := by decide +kernel
theorem dX6_pot_14 : decode cX6_pot 14 = .ok (.getfield 25, 3) := by decide +kernel
theorem dX6_pot_17 : decode cX6_pot 17 = .ok (.aload_n 0, 1) := by decide +kernel
theorem dX6_pot_18 : decode cX6_pot 18 = .ok (.getfield 21, 3) := by decide +kernel
theorem dX6_pot_21 : decode cX6_pot 21 = .ok (.arraylength, 1) := by decide +kernel
theorem dX6_pot_22 : decode cX6_pot 22 = .ok (.if_icmp .lt 13, 3) := by decide +kernel
theorem dX6_pot_35 : decode cX6_pot 35 = .ok (.aload_n 0, 1) := by decide +kernel
theorem dX6_pot_36 : decode cX6_pot 36 = .ok (.getfield 21, 3) := by decide +kernel
theorem dX6_pot_39 : decode cX6_pot 39 = .ok (.aload_n 0, 1) := by decide +kernel
theorem dX6_pot_40 : decode cX6_pot 40 = .ok (.getfield 25, 3) := by decide +kernel
theorem dX6_pot_43 : decode cX6_pot 43 = .ok (.new 19, 3) := by decide +kernel
theorem dX6_pot_46 : decode cX6_pot 46 = .ok (.dup, 1) := by decide +kernel
theorem dX6_pot_47 : decode cX6_pot 47 = .ok (.aload_n 2, 1) := by decide +kernel
theorem dX6_pot_48 : decode cX6_pot 48 = .ok (.invokespecial 99, 3) := by decide +kernel
theorem dX6_pot_51 : decode cX6_pot 51 = .ok (.aastore, 1) := by decide +kernel
theorem dX6_pot_52 : decode cX6_pot 52 = .ok (.aload_n 0, 1) := by decide +kernel
theorem dX6_pot_53 : decode cX6_pot 53 = .ok (.dup, 1) := by decide +kernel
theorem dX6_pot_54 : decode cX6_pot 54 = .ok (.getfield 25, 3) := by decide +kernel
theorem dX6_pot_57 : decode cX6_pot 57 = .ok (.iconst 1, 1) := by decide +kernel
theorem dX6_pot_58 : decode cX6_pot 58 = .ok (.iadd, 1) := by decide +kernel
theorem dX6_pot_59 : decode cX6_pot 59 = .ok (.putfield 25, 3) := by decide +kernel
theorem dX6_pot_62 : decode cX6_pot 62 = .ok (.aload_n 0, 1) := by decide +kernel
theorem dX6_pot_63 : decode cX6_pot 63 = .ok (.getfield 25, 3) := by decide +kernel
theorem dX6_pot_66 : decode cX6_pot 66 = .ok (.iconst 1, 1) := by decide +kernel
theorem dX6_pot_67 : decode cX6_pot 67 = .ok (.isub, 1) := by decide +kernel
theorem dX6_pot_68 : decode cX6_pot 68 = .ok (.ireturn, 1) := by decide +kernel
def wzEX6_pot_0 : List Cond := [.code yX6_pot cX6_pot 3 (some .int), .methodLink RX6 89 yX6_findGlass, .instanceMethod yX6_findGlass, .selects RX6 yX6_findGlass yX6_findGlass, .initialized RX6, .code yX6_findGlass cX6_findGlass 3 (some (.object "Gatherhouse$Glass")), .fieldLink RX6 11 "Gatherhouse" "glasses" "[LGatherhouse$Glass;", .fieldLink RX6 25 "Gatherhouse" "potCount" "I", .fieldLink RX6 21 "Gatherhouse" "pots" "[LGatherhouse$Pot;", .classLink RX6 19 RX2, .instantiable RX2 5, .initialized RX2, .code yX2_init cX2_init 2 none, .methodLink RX2 3 objectInit, .instanceMethod objectInit, .code objectInit ⟨#[0xb1]⟩ 1 none, .fieldLink RX2 9 "Gatherhouse$Pot" "mass" "I", .fieldLink RX2 15 "Gatherhouse$Pot" "seeds" "I", .fieldLink RX2 18 "Gatherhouse$Pot" "stones" "I", .fieldLink RX2 21 "Gatherhouse$Pot" "age" "I", .fieldLink RX2 24 "Gatherhouse$Pot" "glass" "LGatherhouse$Glass;", .instanceMethod yX2_init]
def wzX6_pot_0 : List Cond := wzEX6_pot_0 ++ (u_ws RX6 TX6 16 ++ (u_ws RX2 TX2 5))
theorem zgEX6_pot_0 : wzEX6_pot_0.all goodWord = true := by decide +kernel
theorem zuX6_pot_0_X6 : ∀ w ∈ u_ws RX6 TX6 16, w ∈ wzX6_pot_0 := (fun _ h => (List.mem_append_right _ (List.mem_append_left _ h)))
theorem zuX6_pot_0_X2 : ∀ w ∈ u_ws RX2 TX2 5, w ∈ wzX6_pot_0 := (fun _ h => (List.mem_append_right _ (List.mem_append_right _ h)))
theorem gzX6_pot_0_X6_findGlass_ok_89 : GoodIn wzX6_pot_0 (wsV RX6 89 RX6 yX6_findGlass wzX6_findGlass_ok) := (goodIn_app (z_lift (goodIn_r _ [1, 2, 3, 4] rfl (by decide +kernel))) (goodIn_app (z_lift (goodIn_r wzEX6_findGlass_ok [5, 6] rfl zgEX6_findGlass_ok)) (goodIn_sub (fun _ h => (List.mem_append_right _ (List.mem_append_left _ h))) zgU_X6)))
theorem gzX6_pot_0_X2_init_99 : GoodIn wzX6_pot_0 (wzX2_init) := (goodIn_app (z_lift (goodIn_r wzEX2_init [12, 13, 14, 15, 16, 17, 18, 19, 20] rfl zgEX2_init)) (goodIn_sub (fun _ h => (List.mem_append_right _ (List.mem_append_right _ h))) zgU_X2))
set_option maxHeartbeats 4000000 in
set_option maxRecDepth 100000 in
theorem zc_X6_pot_0 (l : Launch) (hnt : l.stackTraces = false) (D : va_G) (G : Nat × Nat × (Nat → Int32)) (xo : Nat) (gi : Nat) (xg : Nat) (gc : Int32) (xp : Nat) (xq : Nat) (qc : Int32) (r1 : Nat) (r2 : Nat) (r3 : Nat) (r4 : Nat) (se : Nat) (ts : Int32) (hou : Int32) (dr : Int32) (su : Int32) (br : Int32) (cg : ClassId) (f : Nat → Option Nat) (cp : ClassId) (gx : Nat) (sz : Nat) (h9f : f gi = some gx) (hh_gi : gi ≤ 5) : vx_Met l yX6_pot wzX6_pot_0 ({ frames := 2, cells := 1, slots := 5, locals := 33 }) (va_Pc [.ref xo, .int (nI gi)] (p_RW D G [(cg, .object "Gatherhouse$Glass"), (cp, .object "Gatherhouse$Pot")] [(xo, .inr (6, [.ref xg, .int gc, .ref xp, .int 0, .ref xq, .int qc, .ref r1, .ref r2, .ref r3, .ref r4, .ref se, .int ts, .int hou, .int dr, .int su, .int br])), (xg, .inl (cg, 6, .inr (.inr (.inr (.inr f))))), (xp, .inl (cp, 4, .inr (.inr (.inr (.inr (zq [none, none, none, none]))))))] sz)) (va_Qi (fun (r : Int32) (u : Unit) => r = 0) (fun (u : Unit) (t : State) => ∃ (pn : Nat), q_RW D [(cg, .object "Gatherhouse$Glass"), (cp, .object "Gatherhouse$Pot")] [(xo, .inr (6, [.ref xg, .int gc, .ref xp, .int 1, .ref xq, .int qc, .ref r1, .ref r2, .ref r3, .ref r4, .ref se, .int ts, .int hou, .int dr, .int su, .int br])), (xg, .inl (cg, 6, .inr (.inr (.inr (.inr f))))), (xp, .inl (cp, 4, .inr (.inr (.inr (.inr (zq [some pn, none, none, none])))))), (pn, .inr (2, [.ref gx, .int 0, .int 0, .int 0, .int 0]))] (va_A [(xo, .inr (6, [.ref xg, .int gc, .ref xp, .int 0, .ref xq, .int qc, .ref r1, .ref r2, .ref r3, .ref r4, .ref se, .int ts, .int hou, .int dr, .int su, .int br])), (xg, .inl (cg, 6, .inr (.inr (.inr (.inr f))))), (xp, .inl (cp, 4, .inr (.inr (.inr (.inr (zq [none, none, none, none]))))))] sz) t) (va_A [(xo, .inr (6, [.ref xg, .int gc, .ref xp, .int 0, .ref xq, .int qc, .ref r1, .ref r2, .ref r3, .ref r4, .ref se, .int ts, .int hou, .int dr, .int su, .int br])), (xg, .inl (cg, 6, .inr (.inr (.inr (.inr f))))), (xp, .inl (cp, 4, .inr (.inr (.inr (.inr (zq [none, none, none, none]))))))] sz)) (vx_X (fun (_ : Unit) => True) (fun E (_ : Unit) (_ : State) => False) (va_A [(xo, .inr (6, [.ref xg, .int gc, .ref xp, .int 0, .ref xq, .int qc, .ref r1, .ref r2, .ref r3, .ref r4, .ref se, .int ts, .int hou, .int dr, .int su, .int br])), (xg, .inl (cg, 6, .inr (.inr (.inr (.inr f))))), (xp, .inl (cp, 4, .inr (.inr (.inr (.inr (zq [none, none, none, none]))))))] sz)) 1 5 (va_A [(xo, .inr (6, [.ref xg, .int gc, .ref xp, .int 0, .ref xq, .int qc, .ref r1, .ref r2, .ref r3, .ref r4, .ref se, .int ts, .int hou, .int dr, .int su, .int br])), (xg, .inl (cg, 6, .inr (.inr (.inr (.inr f))))), (xp, .inl (cp, 4, .inr (.inr (.inr (.inr (zq [none, none, none, none]))))))] sz) := by
  refine vx_ofW (cc := cX6_pot) (maxL := 3) (ret := (some .int)) (by decide) rfl ?_
  intro p e s m args below meth c s₁ B hml hxt hv
  obtain ⟨rfl, hsz, hP, hK, hD0, hT, hZ⟩ := hv
  have hx := B.exec
  have hb := B.bytes
  have hr := B.returns
  have hts := atoms_spec (ws := wzX6_pot_0) B.pre
  have hown : s.vm.findClass RX6 = some m.cls := findClass_of_methodNamed B.named
  have hlocks := B.notSynchronized
  subst hsz
  have hD := hD0.self (sz := s.heap.size)
  generalize hAe : va_A [(xo, .inr (6, [.ref xg, .int gc, .ref xp, .int 0, .ref xq, .int qc, .ref r1, .ref r2, .ref r3, .ref r4, .ref se, .int ts, .int hou, .int dr, .int su, .int br])), (xg, .inl (cg, 6, .inr (.inr (.inr (.inr f))))), (xp, .inl (cp, 4, .inr (.inr (.inr (.inr (zq [none, none, none, none]))))))] s.heap.size = A at hD hZ ⊢
  have hA : ∀ q : Nat, s.heap.size ≤ q → A q := fun q h => by rw [← hAe]; exact Or.inr h
  have hS : va_S A s.heap s.heap [] := va_S.rf
  have hl := lv_entry ([.ref xo, .int (nI gi)]) (n := 3) (Nat.le_of_ble_eq_true rfl)
  rw [lg_entry_eq]
  generalize (lg_sl ([.ref xo, .int (nI gi)]) ++ List.replicate (3 - (lg_sl ([.ref xo, .int (nI gi)])).length) Slot.unset).toArray = ls at hl ⊢
  have hl : lv_has ls 3 [(0, .ref xo), (1, .int (nI gi))] := hl
  refine lv_aload_n hx hb dX6_pot_0 rfl (lv_at hl 0 rfl) ?_
  refine lv_iload_n hx hb dX6_pot_1 rfl (lv_at hl 1 rfl) ?_
  have hFc := va_free (wc := [(xo, .inr (6, [.ref xg, .int gc, .ref xp, .int 0, .ref xq, .int qc, .ref r1, .ref r2, .ref r3, .ref r4, .ref se, .int ts, .int hou, .int dr, .int su, .int br])), (xg, .inl (cg, 6, .inr (.inr (.inr (.inr f)))))]) hD hS hA [0, 1] rfl
  refine vx_callq (vx_runV (As := [.int (nI gi)]) (rest := []) ⟨hx, hb, hml, hown, hts⟩ (zc_X6_findGlass_ok l hnt D G xo gi xg gc xp 0 xq qc r1 r2 r3 r4 se ts hou dr su br cg f gx s.heap.size (by first | assumption | rfl | omega | exact Nat.le_trans (zS_le _ _ _) (by omega) | decide) (by first | assumption | rfl | omega | exact Nat.le_trans (zS_le _ _ _) (by omega) | decide)) (cwV 1 hts gzX6_pot_0_X6_findGlass_ok_89 rfl rfl rfl (by decide +kernel) ⟨(Nat.le_of_ble_eq_true rfl), (Nat.le_of_ble_eq_true rfl)⟩) ⟨p_RW_blind, va_recv hK hP (ci := 6) (q0 := 0) rfl rfl, (p_RW_at (tc := [(cg, .object "Gatherhouse$Glass")]) (wc := [(xo, .inr (6, [.ref xg, .int gc, .ref xp, .int 0, .ref xq, .int qc, .ref r1, .ref r2, .ref r3, .ref r4, .ref se, .int ts, .int hou, .int dr, .int su, .int br])), (xg, .inl (cg, 6, .inr (.inr (.inr (.inr f)))))]) hP hK hD hS hA hT hZ [0, 1] [0] rfl rfl (by decide) rfl [.ref xo, .int (nI gi)])⟩ rfl rfl hl.1 rfl (lv_room (Nat.le_of_ble_eq_true rfl)) dX6_pot_2 ⟨(Nat.le_of_ble_eq_true rfl), (Nat.le_of_ble_eq_true rfl)⟩) hS (fun q _ h => hFc q h) hFc (fun q _ h => hFc q h) (fun E ce q9 u t H locs ht hvm hpx hBX hz1 hk1 hS hce hcv hcl => ?_) (fun r_358 u t H locs ht hvm w_359 hB hz1 hk1 hS => ?_)
  · exact (show False from hBX).elim
  · obtain ⟨hP, hD, hK⟩ := q_join (D := D) (wc := [(xo, .inr (6, [.ref xg, .int gc, .ref xp, .int 0, .ref xq, .int qc, .ref r1, .ref r2, .ref r3, .ref r4, .ref se, .int ts, .int hou, .int dr, .int su, .int br])), (xg, .inl (cg, 6, .inr (.inr (.inr (.inr f)))))]) (wr := [(xp, .inl (cp, 4, .inr (.inr (.inr (.inr (zq [none, none, none, none]))))))]) (w1 := [(xo, .inr (6, [.ref xg, .int gc, .ref xp, .int 0, .ref xq, .int qc, .ref r1, .ref r2, .ref r3, .ref r4, .ref se, .int ts, .int hou, .int dr, .int su, .int br])), (xg, .inl (cg, 6, .inr (.inr (.inr (.inr f)))))]) (tyr := [(cp, .object "Gatherhouse$Pot")]) (ty1 := [(cg, .object "Gatherhouse$Glass")]) hP hD hK [0, 1] [2] [1] rfl rfl (by decide) (by decide) rfl hFc hk1 ht hvm hB
    have hP : va_P D vwCl [(xp, .inl (cp, 4, .inr (.inr (.inr (.inr (zq [none, none, none, none])))))), (xo, .inr (6, [.ref xg, .int gc, .ref xp, .int 0, .ref xq, .int qc, .ref r1, .ref r2, .ref r3, .ref r4, .ref se, .int ts, .int hou, .int dr, .int su, .int br])), (xg, .inl (cg, 6, .inr (.inr (.inr (.inr f)))))] H := hP
    have hD : va_D A [(xp, .inl (cp, 4, .inr (.inr (.inr (.inr (zq [none, none, none, none])))))), (xo, .inr (6, [.ref xg, .int gc, .ref xp, .int 0, .ref xq, .int qc, .ref r1, .ref r2, .ref r3, .ref r4, .ref se, .int ts, .int hou, .int dr, .int su, .int br])), (xg, .inl (cg, 6, .inr (.inr (.inr (.inr f)))))] := hD
    have hK : va_K D vwCl [(cp, .object "Gatherhouse$Pot"), (cg, .object "Gatherhouse$Glass")] s := hK
    obtain rfl := w_359
    refine W.eq (g2 := F0 m 5 ls [.ref gx]) rfl ?_
    refine lv_astore_n (lv' := [(2, .ref gx), (0, .ref xo), (1, .int (nI gi))]) hx hb dX6_pot_5 rfl hl (by decide) rfl (fun ls hl => ?_)
    refine lv_aload_n hx hb dX6_pot_6 rfl (lv_at hl 1 rfl) ?_
    refine va_get (D := D) (cl := vwCl) (ci := 6) (v := .int 0) (C := RX6) (T := TX6) (N := 16) hx hb hts zuX6_pot_0_X6 hown hK hP 1 rfl rfl 3 (by decide) (hts (.fieldLink RX6 25 "Gatherhouse" "potCount" "I") (by decide +kernel)) (fun _ h9 => h9) rfl dX6_pot_7 ?_
    refine lv_if_lt (tgt := 25) hx hb dX6_pot_10 (by decide) (fun cc => absurd cc (by decide)) (fun _ => ?_)
    refine lv_aload_n hx hb dX6_pot_13 rfl (lv_at hl 1 rfl) ?_
    refine va_get (D := D) (cl := vwCl) (ci := 6) (v := .int 0) (C := RX6) (T := TX6) (N := 16) hx hb hts zuX6_pot_0_X6 hown hK hP 1 rfl rfl 3 (by decide) (hts (.fieldLink RX6 25 "Gatherhouse" "potCount" "I") (by decide +kernel)) (fun _ h9 => h9) rfl dX6_pot_14 ?_
    refine lv_aload_n hx hb dX6_pot_17 rfl (lv_at hl 1 rfl) ?_
    refine va_get (D := D) (cl := vwCl) (ci := 6) (v := .ref xp) (C := RX6) (T := TX6) (N := 16) hx hb hts zuX6_pot_0_X6 hown hK hP 1 rfl rfl 2 (by decide) (hts (.fieldLink RX6 21 "Gatherhouse" "pots" "[LGatherhouse$Pot;") (by decide +kernel)) (fun _ h9 => h9) rfl dX6_pot_18 ?_
    refine va_alen (D := D) (cl := vwCl) (v := 4) hx hb hK hP 0 0 rfl rfl rfl dX6_pot_21 ?_
    refine lv_icmp_lt (tgt := 35) hx hb dX6_pot_22 (by decide) (fun _ => ?_) (fun cc => absurd (by decide) cc)
    refine lv_aload_n hx hb dX6_pot_35 rfl (lv_at hl 1 rfl) ?_
    refine va_get (D := D) (cl := vwCl) (ci := 6) (v := .ref xp) (C := RX6) (T := TX6) (N := 16) hx hb hts zuX6_pot_0_X6 hown hK hP 1 rfl rfl 2 (by decide) (hts (.fieldLink RX6 21 "Gatherhouse" "pots" "[LGatherhouse$Pot;") (by decide +kernel)) (fun _ h9 => h9) rfl dX6_pot_36 ?_
    refine lv_aload_n hx hb dX6_pot_39 rfl (lv_at hl 1 rfl) ?_
    refine va_get (D := D) (cl := vwCl) (ci := 6) (v := .int 0) (C := RX6) (T := TX6) (N := 16) hx hb hts zuX6_pot_0_X6 hown hK hP 1 rfl rfl 3 (by decide) (hts (.fieldLink RX6 25 "Gatherhouse" "potCount" "I") (by decide +kernel)) (fun _ h9 => h9) rfl dX6_pot_40 ?_
    refine va_new (D := D) (cl := vwCl) (ci := 2) (fs := [.null, .int 0, .int 0, .int 0, .int 0]) (C := RX2) (T := TX2) (N := 5) hx hb hts zuX6_pot_0_X2 tyX2 tyX2_ok hown (hts (.classLink RX6 19 RX2) (by decide +kernel)) (hts (.instantiable RX2 5) (by decide +kernel)) (hts (.initialized RX2) (by decide +kernel)) hK hP hD hS hA rfl (fun j hj => by rcases (show j = 0 ∨ j = 1 ∨ j = 2 ∨ j = 3 ∨ j = 4 by omega) with rfl | rfl | rfl | rfl | rfl <;> rfl) (Nat.le_of_ble_eq_true rfl) (Nat.le_of_ble_eq_true rfl) dX6_pot_43 (fun o_360 H hP hD hS => ?_)
    have hP : va_P D vwCl [(xp, .inl (cp, 4, .inr (.inr (.inr (.inr (zq [none, none, none, none])))))), (xo, .inr (6, [.ref xg, .int gc, .ref xp, .int 0, .ref xq, .int qc, .ref r1, .ref r2, .ref r3, .ref r4, .ref se, .int ts, .int hou, .int dr, .int su, .int br])), (xg, .inl (cg, 6, .inr (.inr (.inr (.inr f))))), (o_360, .inr (2, [.null, .int 0, .int 0, .int 0, .int 0]))] H := hP
    have hD : va_D A [(xp, .inl (cp, 4, .inr (.inr (.inr (.inr (zq [none, none, none, none])))))), (xo, .inr (6, [.ref xg, .int gc, .ref xp, .int 0, .ref xq, .int qc, .ref r1, .ref r2, .ref r3, .ref r4, .ref se, .int ts, .int hou, .int dr, .int su, .int br])), (xg, .inl (cg, 6, .inr (.inr (.inr (.inr f))))), (o_360, .inr (2, [.null, .int 0, .int 0, .int 0, .int 0]))] := hD
    refine W.widen (k := 1) (n := 5) (Nat.le_of_ble_eq_true rfl) (Nat.le_of_ble_eq_true rfl) ?_
    refine lv_dup hx hb dX6_pot_46 rfl ?_
    refine lv_aload_n hx hb dX6_pot_47 rfl (lv_at hl 0 rfl) ?_
    have hFc := va_free (wc := [(o_360, .inr (2, [.null, .int 0, .int 0, .int 0, .int 0]))]) hD hS hA [3] rfl
    refine va_callv (va_runIN (As := [.ref gx]) (rest := [.ref o_360, .int 0, .ref xp]) ⟨hx, hb, hml, hown, hts⟩ (zc_X2_init l D G o_360 gx H.size) ⟨va_cnB 1 hts gzX6_pot_0_X2_init_99 rfl rfl rfl (hT.1 ("Gatherhouse", 99, ⟨"Gatherhouse$Pot", "<init>", "(LGatherhouse$Glass;)V"⟩, "Gatherhouse") (by decide +kernel)) (hts (.initialized RX2) (by decide +kernel)) (by decide +kernel) ⟨(Nat.le_of_ble_eq_true rfl), (Nat.le_of_ble_eq_true rfl)⟩, rfl, (hts (.instanceMethod yX2_init) (by decide +kernel))⟩ ⟨p_RW_blind, (p_RW_at (tc := []) (wc := [(o_360, .inr (2, [.null, .int 0, .int 0, .int 0, .int 0]))]) hP hK hD hS hA hT hZ [3] [] rfl rfl (by decide) rfl [.ref o_360, .ref gx])⟩ rfl rfl hl.1 rfl (lv_room (Nat.le_of_ble_eq_true rfl)) dX6_pot_48 ⟨(Nat.le_of_ble_eq_true rfl), (Nat.le_of_ble_eq_true rfl)⟩) hS (fun q _ h => hFc q h) hFc (fun u t H locs ht hvm w_362 hB hz1 hk1 hS => ?_)
    obtain ⟨hP, hD, hK⟩ := q_join (D := D) (wc := [(o_360, .inr (2, [.null, .int 0, .int 0, .int 0, .int 0]))]) (wr := [(xp, .inl (cp, 4, .inr (.inr (.inr (.inr (zq [none, none, none, none])))))), (xo, .inr (6, [.ref xg, .int gc, .ref xp, .int 0, .ref xq, .int qc, .ref r1, .ref r2, .ref r3, .ref r4, .ref se, .int ts, .int hou, .int dr, .int su, .int br])), (xg, .inl (cg, 6, .inr (.inr (.inr (.inr f)))))]) (w1 := [(o_360, .inr (2, [.ref gx, .int 0, .int 0, .int 0, .int 0]))]) (tyr := [(cp, .object "Gatherhouse$Pot"), (cg, .object "Gatherhouse$Glass")]) (ty1 := []) hP hD hK [3] [0, 1, 2] [0, 1] rfl rfl (by decide) (by decide) rfl hFc hk1 ht hvm hB
    have hP : va_P D vwCl [(xp, .inl (cp, 4, .inr (.inr (.inr (.inr (zq [none, none, none, none])))))), (xo, .inr (6, [.ref xg, .int gc, .ref xp, .int 0, .ref xq, .int qc, .ref r1, .ref r2, .ref r3, .ref r4, .ref se, .int ts, .int hou, .int dr, .int su, .int br])), (xg, .inl (cg, 6, .inr (.inr (.inr (.inr f))))), (o_360, .inr (2, [.ref gx, .int 0, .int 0, .int 0, .int 0]))] H := hP
    have hD : va_D A [(xp, .inl (cp, 4, .inr (.inr (.inr (.inr (zq [none, none, none, none])))))), (xo, .inr (6, [.ref xg, .int gc, .ref xp, .int 0, .ref xq, .int qc, .ref r1, .ref r2, .ref r3, .ref r4, .ref se, .int ts, .int hou, .int dr, .int su, .int br])), (xg, .inl (cg, 6, .inr (.inr (.inr (.inr f))))), (o_360, .inr (2, [.ref gx, .int 0, .int 0, .int 0, .int 0]))] := hD
    have hK : va_K D vwCl [(cp, .object "Gatherhouse$Pot"), (cg, .object "Gatherhouse$Glass")] s := hK
    refine va_astq (D := D) (cl := vwCl) hx hb hK hP hD hS 0 0 3 2 rfl rfl rfl rfl (vp_in_nI (n := 0) (N := 4) (by decide) (by decide)) dX6_pot_51 (fun H locs hP hD hS => ?_)
    have hP : va_P D vwCl [(xp, .inl (cp, 4, .inr (.inr (.inr (.inr (zq [some o_360, none, none, none])))))), (xo, .inr (6, [.ref xg, .int gc, .ref xp, .int 0, .ref xq, .int qc, .ref r1, .ref r2, .ref r3, .ref r4, .ref se, .int ts, .int hou, .int dr, .int su, .int br])), (xg, .inl (cg, 6, .inr (.inr (.inr (.inr f))))), (o_360, .inr (2, [.ref gx, .int 0, .int 0, .int 0, .int 0]))] H := by have h9 := hP; rw [zq_upd (i := 0) (l := [none, none, none, none]) (x := some o_360) (k := 0) (l' := [some o_360, none, none, none]) (by decide +kernel) (Nat.lt_of_lt_of_eq (by decide : 0 < 4) rfl) rfl] at h9; exact h9
    have hD : va_D A [(xp, .inl (cp, 4, .inr (.inr (.inr (.inr (zq [some o_360, none, none, none])))))), (xo, .inr (6, [.ref xg, .int gc, .ref xp, .int 0, .ref xq, .int qc, .ref r1, .ref r2, .ref r3, .ref r4, .ref se, .int ts, .int hou, .int dr, .int su, .int br])), (xg, .inl (cg, 6, .inr (.inr (.inr (.inr f))))), (o_360, .inr (2, [.ref gx, .int 0, .int 0, .int 0, .int 0]))] := by have h9 := hD; rw [zq_upd (i := 0) (l := [none, none, none, none]) (x := some o_360) (k := 0) (l' := [some o_360, none, none, none]) (by decide +kernel) (Nat.lt_of_lt_of_eq (by decide : 0 < 4) rfl) rfl] at h9; exact h9
    refine lv_aload_n hx hb dX6_pot_52 rfl (lv_at hl 1 rfl) ?_
    refine lv_dup hx hb dX6_pot_53 rfl ?_
    refine va_get (D := D) (cl := vwCl) (ci := 6) (v := .int 0) (C := RX6) (T := TX6) (N := 16) hx hb hts zuX6_pot_0_X6 hown hK hP 1 rfl rfl 3 (by decide) (hts (.fieldLink RX6 25 "Gatherhouse" "potCount" "I") (by decide +kernel)) (fun _ h9 => h9) rfl dX6_pot_54 ?_
    refine lv_iconst (v := 1) hx hb dX6_pot_57 (by decide) ?_
    refine lv_iadd hx hb dX6_pot_58 ?_
    refine lv_topi (fun y_363 ey_363 => ?_)
    have ey_363 : y_363 = 1 := ey_363.trans (by decide +kernel)
    subst ey_363
    refine va_put (D := D) (cl := vwCl) (ci := 6) (v := .int 1) (ty := .int) (C := RX6) (T := TX6) (N := 16) hx hb hts zuX6_pot_0_X6 tyX6 tyX6_ok nmX6 hown hK hP hD hS 1 rfl rfl 3 (by decide) (hts (.fieldLink RX6 25 "Gatherhouse" "potCount" "I") (by decide +kernel)) (fun _ h9 => h9) rfl (by decide +kernel) rfl rfl (Nat.le_of_ble_eq_true rfl) dX6_pot_59 (fun H locs hP hD hS => ?_)
    have hP : va_P D vwCl [(xp, .inl (cp, 4, .inr (.inr (.inr (.inr (zq [some o_360, none, none, none])))))), (xo, .inr (6, [.ref xg, .int gc, .ref xp, .int 1, .ref xq, .int qc, .ref r1, .ref r2, .ref r3, .ref r4, .ref se, .int ts, .int hou, .int dr, .int su, .int br])), (xg, .inl (cg, 6, .inr (.inr (.inr (.inr f))))), (o_360, .inr (2, [.ref gx, .int 0, .int 0, .int 0, .int 0]))] H := hP
    have hD : va_D A [(xp, .inl (cp, 4, .inr (.inr (.inr (.inr (zq [some o_360, none, none, none])))))), (xo, .inr (6, [.ref xg, .int gc, .ref xp, .int 1, .ref xq, .int qc, .ref r1, .ref r2, .ref r3, .ref r4, .ref se, .int ts, .int hou, .int dr, .int su, .int br])), (xg, .inl (cg, 6, .inr (.inr (.inr (.inr f))))), (o_360, .inr (2, [.ref gx, .int 0, .int 0, .int 0, .int 0]))] := hD
    refine lv_aload_n hx hb dX6_pot_62 rfl (lv_at hl 1 rfl) ?_
    refine va_get (D := D) (cl := vwCl) (ci := 6) (v := .int 1) (C := RX6) (T := TX6) (N := 16) hx hb hts zuX6_pot_0_X6 hown hK hP 1 rfl rfl 3 (by decide) (hts (.fieldLink RX6 25 "Gatherhouse" "potCount" "I") (by decide +kernel)) (fun _ h9 => h9) rfl dX6_pot_63 ?_
    refine lv_iconst (v := 1) hx hb dX6_pot_66 (by decide) ?_
    refine lv_isub hx hb dX6_pot_67 ?_
    refine lv_topi (fun y_364 ey_364 => ?_)
    have ey_364 : y_364 = 0 := ey_364.trans (by decide +kernel)
    subst ey_364
    refine vx_ret ?_
    exact W.iret (v := 0) hx hb hr (fun t ht hW => ⟨⟨0, (), rfl, rfl, ⟨o_360, q_RW_mk hP hK hD [1, 2, 0, 3] [1, 0] rfl rfl (by decide) rfl ht hW.alike⟩⟩, hS.F ht⟩) hS.2.2 dX6_pot_68
def wzEX6_pot_1 : List Cond := [.code yX6_pot cX6_pot 3 (some .int), .methodLink RX6 89 yX6_findGlass, .instanceMethod yX6_findGlass, .selects RX6 yX6_findGlass yX6_findGlass, .initialized RX6, .code yX6_findGlass cX6_findGlass 3 (some (.object "Gatherhouse$Glass")), .fieldLink RX6 11 "Gatherhouse" "glasses" "[LGatherhouse$Glass;", .fieldLink RX6 25 "Gatherhouse" "potCount" "I", .fieldLink RX6 21 "Gatherhouse" "pots" "[LGatherhouse$Pot;", .classLink RX6 19 RX2, .instantiable RX2 5, .initialized RX2, .code yX2_init cX2_init 2 none, .methodLink RX2 3 objectInit, .instanceMethod objectInit, .code objectInit ⟨#[0xb1]⟩ 1 none, .fieldLink RX2 9 "Gatherhouse$Pot" "mass" "I", .fieldLink RX2 15 "Gatherhouse$Pot" "seeds" "I", .fieldLink RX2 18 "Gatherhouse$Pot" "stones" "I", .fieldLink RX2 21 "Gatherhouse$Pot" "age" "I", .fieldLink RX2 24 "Gatherhouse$Pot" "glass" "LGatherhouse$Glass;", .instanceMethod yX2_init]
def wzX6_pot_1 : List Cond := wzEX6_pot_1 ++ (u_ws RX6 TX6 16 ++ (u_ws RX2 TX2 5))
theorem zgEX6_pot_1 : wzEX6_pot_1.all goodWord = true := by decide +kernel
theorem zuX6_pot_1_X6 : ∀ w ∈ u_ws RX6 TX6 16, w ∈ wzX6_pot_1 := (fun _ h => (List.mem_append_right _ (List.mem_append_left _ h)))
theorem zuX6_pot_1_X2 : ∀ w ∈ u_ws RX2 TX2 5, w ∈ wzX6_pot_1 := (fun _ h => (List.mem_append_right _ (List.mem_append_right _ h)))
theorem gzX6_pot_1_X6_findGlass_ok_89 : GoodIn wzX6_pot_1 (wsV RX6 89 RX6 yX6_findGlass wzX6_findGlass_ok) := (goodIn_app (z_lift (goodIn_r _ [1, 2, 3, 4] rfl (by decide +kernel))) (goodIn_app (z_lift (goodIn_r wzEX6_findGlass_ok [5, 6] rfl zgEX6_findGlass_ok)) (goodIn_sub (fun _ h => (List.mem_append_right _ (List.mem_append_left _ h))) zgU_X6)))
theorem gzX6_pot_1_X2_init_99 : GoodIn wzX6_pot_1 (wzX2_init) := (goodIn_app (z_lift (goodIn_r wzEX2_init [12, 13, 14, 15, 16, 17, 18, 19, 20] rfl zgEX2_init)) (goodIn_sub (fun _ h => (List.mem_append_right _ (List.mem_append_right _ h))) zgU_X2))
set_option maxHeartbeats 4000000 in
set_option maxRecDepth 100000 in
theorem zc_X6_pot_1 (l : Launch) (hnt : l.stackTraces = false) (D : va_G) (G : Nat × Nat × (Nat → Int32)) (xo : Nat) (gi : Nat) (xg : Nat) (gc : Int32) (xp : Nat) (xq : Nat) (qc : Int32) (r1 : Nat) (r2 : Nat) (r3 : Nat) (r4 : Nat) (se : Nat) (ts : Int32) (hou : Int32) (dr : Int32) (su : Int32) (br : Int32) (cg : ClassId) (f : Nat → Option Nat) (cp : ClassId) (b0 : Nat) (gx : Nat) (sz : Nat) (h9f : f gi = some gx) (hh_gi : gi ≤ 5) : vx_Met l yX6_pot wzX6_pot_1 ({ frames := 2, cells := 1, slots := 5, locals := 33 }) (va_Pc [.ref xo, .int (nI gi)] (p_RW D G [(cg, .object "Gatherhouse$Glass"), (cp, .object "Gatherhouse$Pot")] [(xo, .inr (6, [.ref xg, .int gc, .ref xp, .int 1, .ref xq, .int qc, .ref r1, .ref r2, .ref r3, .ref r4, .ref se, .int ts, .int hou, .int dr, .int su, .int br])), (xg, .inl (cg, 6, .inr (.inr (.inr (.inr f))))), (xp, .inl (cp, 4, .inr (.inr (.inr (.inr (zq [some b0, none, none, none]))))))] sz)) (va_Qi (fun (r : Int32) (u : Unit) => r = 1) (fun (u : Unit) (t : State) => ∃ (pn : Nat), q_RW D [(cg, .object "Gatherhouse$Glass"), (cp, .object "Gatherhouse$Pot")] [(xo, .inr (6, [.ref xg, .int gc, .ref xp, .int 2, .ref xq, .int qc, .ref r1, .ref r2, .ref r3, .ref r4, .ref se, .int ts, .int hou, .int dr, .int su, .int br])), (xg, .inl (cg, 6, .inr (.inr (.inr (.inr f))))), (xp, .inl (cp, 4, .inr (.inr (.inr (.inr (zq [some b0, some pn, none, none])))))), (pn, .inr (2, [.ref gx, .int 0, .int 0, .int 0, .int 0]))] (va_A [(xo, .inr (6, [.ref xg, .int gc, .ref xp, .int 1, .ref xq, .int qc, .ref r1, .ref r2, .ref r3, .ref r4, .ref se, .int ts, .int hou, .int dr, .int su, .int br])), (xg, .inl (cg, 6, .inr (.inr (.inr (.inr f))))), (xp, .inl (cp, 4, .inr (.inr (.inr (.inr (zq [some b0, none, none, none]))))))] sz) t) (va_A [(xo, .inr (6, [.ref xg, .int gc, .ref xp, .int 1, .ref xq, .int qc, .ref r1, .ref r2, .ref r3, .ref r4, .ref se, .int ts, .int hou, .int dr, .int su, .int br])), (xg, .inl (cg, 6, .inr (.inr (.inr (.inr f))))), (xp, .inl (cp, 4, .inr (.inr (.inr (.inr (zq [some b0, none, none, none]))))))] sz)) (vx_X (fun (_ : Unit) => True) (fun E (_ : Unit) (_ : State) => False) (va_A [(xo, .inr (6, [.ref xg, .int gc, .ref xp, .int 1, .ref xq, .int qc, .ref r1, .ref r2, .ref r3, .ref r4, .ref se, .int ts, .int hou, .int dr, .int su, .int br])), (xg, .inl (cg, 6, .inr (.inr (.inr (.inr f))))), (xp, .inl (cp, 4, .inr (.inr (.inr (.inr (zq [some b0, none, none, none]))))))] sz)) 1 5 (va_A [(xo, .inr (6, [.ref xg, .int gc, .ref xp, .int 1, .ref xq, .int qc, .ref r1, .ref r2, .ref r3, .ref r4, .ref se, .int ts, .int hou, .int dr, .int su, .int br])), (xg, .inl (cg, 6, .inr (.inr (.inr (.inr f))))), (xp, .inl (cp, 4, .inr (.inr (.inr (.inr (zq [some b0, none, none, none]))))))] sz) := by
  refine vx_ofW (cc := cX6_pot) (maxL := 3) (ret := (some .int)) (by decide) rfl ?_
  intro p e s m args below meth c s₁ B hml hxt hv
  obtain ⟨rfl, hsz, hP, hK, hD0, hT, hZ⟩ := hv
  have hx := B.exec
  have hb := B.bytes
  have hr := B.returns
  have hts := atoms_spec (ws := wzX6_pot_1) B.pre
  have hown : s.vm.findClass RX6 = some m.cls := findClass_of_methodNamed B.named
  have hlocks := B.notSynchronized
  subst hsz
  have hD := hD0.self (sz := s.heap.size)
  generalize hAe : va_A [(xo, .inr (6, [.ref xg, .int gc, .ref xp, .int 1, .ref xq, .int qc, .ref r1, .ref r2, .ref r3, .ref r4, .ref se, .int ts, .int hou, .int dr, .int su, .int br])), (xg, .inl (cg, 6, .inr (.inr (.inr (.inr f))))), (xp, .inl (cp, 4, .inr (.inr (.inr (.inr (zq [some b0, none, none, none]))))))] s.heap.size = A at hD hZ ⊢
  have hA : ∀ q : Nat, s.heap.size ≤ q → A q := fun q h => by rw [← hAe]; exact Or.inr h
  have hS : va_S A s.heap s.heap [] := va_S.rf
  have hl := lv_entry ([.ref xo, .int (nI gi)]) (n := 3) (Nat.le_of_ble_eq_true rfl)
  rw [lg_entry_eq]
  generalize (lg_sl ([.ref xo, .int (nI gi)]) ++ List.replicate (3 - (lg_sl ([.ref xo, .int (nI gi)])).length) Slot.unset).toArray = ls at hl ⊢
  have hl : lv_has ls 3 [(0, .ref xo), (1, .int (nI gi))] := hl
  refine lv_aload_n hx hb dX6_pot_0 rfl (lv_at hl 0 rfl) ?_
  refine lv_iload_n hx hb dX6_pot_1 rfl (lv_at hl 1 rfl) ?_
  have hFc := va_free (wc := [(xo, .inr (6, [.ref xg, .int gc, .ref xp, .int 1, .ref xq, .int qc, .ref r1, .ref r2, .ref r3, .ref r4, .ref se, .int ts, .int hou, .int dr, .int su, .int br])), (xg, .inl (cg, 6, .inr (.inr (.inr (.inr f)))))]) hD hS hA [0, 1] rfl
  refine vx_callq (vx_runV (As := [.int (nI gi)]) (rest := []) ⟨hx, hb, hml, hown, hts⟩ (zc_X6_findGlass_ok l hnt D G xo gi xg gc xp 1 xq qc r1 r2 r3 r4 se ts hou dr su br cg f gx s.heap.size (by first | assumption | rfl | omega | exact Nat.le_trans (zS_le _ _ _) (by omega) | decide) (by first | assumption | rfl | omega | exact Nat.le_trans (zS_le _ _ _) (by omega) | decide)) (cwV 1 hts gzX6_pot_1_X6_findGlass_ok_89 rfl rfl rfl (by decide +kernel) ⟨(Nat.le_of_ble_eq_true rfl), (Nat.le_of_ble_eq_true rfl)⟩) ⟨p_RW_blind, va_recv hK hP (ci := 6) (q0 := 0) rfl rfl, (p_RW_at (tc := [(cg, .object "Gatherhouse$Glass")]) (wc := [(xo, .inr (6, [.ref xg, .int gc, .ref xp, .int 1, .ref xq, .int qc, .ref r1, .ref r2, .ref r3, .ref r4, .ref se, .int ts, .int hou, .int dr, .int su, .int br])), (xg, .inl (cg, 6, .inr (.inr (.inr (.inr f)))))]) hP hK hD hS hA hT hZ [0, 1] [0] rfl rfl (by decide) rfl [.ref xo, .int (nI gi)])⟩ rfl rfl hl.1 rfl (lv_room (Nat.le_of_ble_eq_true rfl)) dX6_pot_2 ⟨(Nat.le_of_ble_eq_true rfl), (Nat.le_of_ble_eq_true rfl)⟩) hS (fun q _ h => hFc q h) hFc (fun q _ h => hFc q h) (fun E ce q9 u t H locs ht hvm hpx hBX hz1 hk1 hS hce hcv hcl => ?_) (fun r_365 u t H locs ht hvm w_366 hB hz1 hk1 hS => ?_)
  · exact (show False from hBX).elim
  · obtain ⟨hP, hD, hK⟩ := q_join (D := D) (wc := [(xo, .inr (6, [.ref xg, .int gc, .ref xp, .int 1, .ref xq, .int qc, .ref r1, .ref r2, .ref r3, .ref r4, .ref se, .int ts, .int hou, .int dr, .int su, .int br])), (xg, .inl (cg, 6, .inr (.inr (.inr (.inr f)))))]) (wr := [(xp, .inl (cp, 4, .inr (.inr (.inr (.inr (zq [some b0, none, none, none]))))))]) (w1 := [(xo, .inr (6, [.ref xg, .int gc, .ref xp, .int 1, .ref xq, .int qc, .ref r1, .ref r2, .ref r3, .ref r4, .ref se, .int ts, .int hou, .int dr, .int su, .int br])), (xg, .inl (cg, 6, .inr (.inr (.inr (.inr f)))))]) (tyr := [(cp, .object "Gatherhouse$Pot")]) (ty1 := [(cg, .object "Gatherhouse$Glass")]) hP hD hK [0, 1] [2] [1] rfl rfl (by decide) (by decide) rfl hFc hk1 ht hvm hB
    have hP : va_P D vwCl [(xp, .inl (cp, 4, .inr (.inr (.inr (.inr (zq [some b0, none, none, none])))))), (xo, .inr (6, [.ref xg, .int gc, .ref xp, .int 1, .ref xq, .int qc, .ref r1, .ref r2, .ref r3, .ref r4, .ref se, .int ts, .int hou, .int dr, .int su, .int br])), (xg, .inl (cg, 6, .inr (.inr (.inr (.inr f)))))] H := hP
    have hD : va_D A [(xp, .inl (cp, 4, .inr (.inr (.inr (.inr (zq [some b0, none, none, none])))))), (xo, .inr (6, [.ref xg, .int gc, .ref xp, .int 1, .ref xq, .int qc, .ref r1, .ref r2, .ref r3, .ref r4, .ref se, .int ts, .int hou, .int dr, .int su, .int br])), (xg, .inl (cg, 6, .inr (.inr (.inr (.inr f)))))] := hD
    have hK : va_K D vwCl [(cp, .object "Gatherhouse$Pot"), (cg, .object "Gatherhouse$Glass")] s := hK
    obtain rfl := w_366
    refine W.eq (g2 := F0 m 5 ls [.ref gx]) rfl ?_
    refine lv_astore_n (lv' := [(2, .ref gx), (0, .ref xo), (1, .int (nI gi))]) hx hb dX6_pot_5 rfl hl (by decide) rfl (fun ls hl => ?_)
    refine lv_aload_n hx hb dX6_pot_6 rfl (lv_at hl 1 rfl) ?_
    refine va_get (D := D) (cl := vwCl) (ci := 6) (v := .int 1) (C := RX6) (T := TX6) (N := 16) hx hb hts zuX6_pot_1_X6 hown hK hP 1 rfl rfl 3 (by decide) (hts (.fieldLink RX6 25 "Gatherhouse" "potCount" "I") (by decide +kernel)) (fun _ h9 => h9) rfl dX6_pot_7 ?_
    refine lv_if_lt (tgt := 25) hx hb dX6_pot_10 (by decide) (fun cc => absurd cc (by decide)) (fun _ => ?_)
    refine lv_aload_n hx hb dX6_pot_13 rfl (lv_at hl 1 rfl) ?_
    refine va_get (D := D) (cl := vwCl) (ci := 6) (v := .int 1) (C := RX6) (T := TX6) (N := 16) hx hb hts zuX6_pot_1_X6 hown hK hP 1 rfl rfl 3 (by decide) (hts (.fieldLink RX6 25 "Gatherhouse" "potCount" "I") (by decide +kernel)) (fun _ h9 => h9) rfl dX6_pot_14 ?_
    refine lv_aload_n hx hb dX6_pot_17 rfl (lv_at hl 1 rfl) ?_
    refine va_get (D := D) (cl := vwCl) (ci := 6) (v := .ref xp) (C := RX6) (T := TX6) (N := 16) hx hb hts zuX6_pot_1_X6 hown hK hP 1 rfl rfl 2 (by decide) (hts (.fieldLink RX6 21 "Gatherhouse" "pots" "[LGatherhouse$Pot;") (by decide +kernel)) (fun _ h9 => h9) rfl dX6_pot_18 ?_
    refine va_alen (D := D) (cl := vwCl) (v := 4) hx hb hK hP 0 0 rfl rfl rfl dX6_pot_21 ?_
    refine lv_icmp_lt (tgt := 35) hx hb dX6_pot_22 (by decide) (fun _ => ?_) (fun cc => absurd (by decide) cc)
    refine lv_aload_n hx hb dX6_pot_35 rfl (lv_at hl 1 rfl) ?_
    refine va_get (D := D) (cl := vwCl) (ci := 6) (v := .ref xp) (C := RX6) (T := TX6) (N := 16) hx hb hts zuX6_pot_1_X6 hown hK hP 1 rfl rfl 2 (by decide) (hts (.fieldLink RX6 21 "Gatherhouse" "pots" "[LGatherhouse$Pot;") (by decide +kernel)) (fun _ h9 => h9) rfl dX6_pot_36 ?_
    refine lv_aload_n hx hb dX6_pot_39 rfl (lv_at hl 1 rfl) ?_
    refine va_get (D := D) (cl := vwCl) (ci := 6) (v := .int 1) (C := RX6) (T := TX6) (N := 16) hx hb hts zuX6_pot_1_X6 hown hK hP 1 rfl rfl 3 (by decide) (hts (.fieldLink RX6 25 "Gatherhouse" "potCount" "I") (by decide +kernel)) (fun _ h9 => h9) rfl dX6_pot_40 ?_
    refine va_new (D := D) (cl := vwCl) (ci := 2) (fs := [.null, .int 0, .int 0, .int 0, .int 0]) (C := RX2) (T := TX2) (N := 5) hx hb hts zuX6_pot_1_X2 tyX2 tyX2_ok hown (hts (.classLink RX6 19 RX2) (by decide +kernel)) (hts (.instantiable RX2 5) (by decide +kernel)) (hts (.initialized RX2) (by decide +kernel)) hK hP hD hS hA rfl (fun j hj => by rcases (show j = 0 ∨ j = 1 ∨ j = 2 ∨ j = 3 ∨ j = 4 by omega) with rfl | rfl | rfl | rfl | rfl <;> rfl) (Nat.le_of_ble_eq_true rfl) (Nat.le_of_ble_eq_true rfl) dX6_pot_43 (fun o_367 H hP hD hS => ?_)
    have hP : va_P D vwCl [(xp, .inl (cp, 4, .inr (.inr (.inr (.inr (zq [some b0, none, none, none])))))), (xo, .inr (6, [.ref xg, .int gc, .ref xp, .int 1, .ref xq, .int qc, .ref r1, .ref r2, .ref r3, .ref r4, .ref se, .int ts, .int hou, .int dr, .int su, .int br])), (xg, .inl (cg, 6, .inr (.inr (.inr (.inr f))))), (o_367, .inr (2, [.null, .int 0, .int 0, .int 0, .int 0]))] H := hP
    have hD : va_D A [(xp, .inl (cp, 4, .inr (.inr (.inr (.inr (zq [some b0, none, none, none])))))), (xo, .inr (6, [.ref xg, .int gc, .ref xp, .int 1, .ref xq, .int qc, .ref r1, .ref r2, .ref r3, .ref r4, .ref se, .int ts, .int hou, .int dr, .int su, .int br])), (xg, .inl (cg, 6, .inr (.inr (.inr (.inr f))))), (o_367, .inr (2, [.null, .int 0, .int 0, .int 0, .int 0]))] := hD
    refine W.widen (k := 1) (n := 5) (Nat.le_of_ble_eq_true rfl) (Nat.le_of_ble_eq_true rfl) ?_
    refine lv_dup hx hb dX6_pot_46 rfl ?_
    refine lv_aload_n hx hb dX6_pot_47 rfl (lv_at hl 0 rfl) ?_
    have hFc := va_free (wc := [(o_367, .inr (2, [.null, .int 0, .int 0, .int 0, .int 0]))]) hD hS hA [3] rfl
    refine va_callv (va_runIN (As := [.ref gx]) (rest := [.ref o_367, .int 1, .ref xp]) ⟨hx, hb, hml, hown, hts⟩ (zc_X2_init l D G o_367 gx H.size) ⟨va_cnB 1 hts gzX6_pot_1_X2_init_99 rfl rfl rfl (hT.1 ("Gatherhouse", 99, ⟨"Gatherhouse$Pot", "<init>", "(LGatherhouse$Glass;)V"⟩, "Gatherhouse") (by decide +kernel)) (hts (.initialized RX2) (by decide +kernel)) (by decide +kernel) ⟨(Nat.le_of_ble_eq_true rfl), (Nat.le_of_ble_eq_true rfl)⟩, rfl, (hts (.instanceMethod yX2_init) (by decide +kernel))⟩ ⟨p_RW_blind, (p_RW_at (tc := []) (wc := [(o_367, .inr (2, [.null, .int 0, .int 0, .int 0, .int 0]))]) hP hK hD hS hA hT hZ [3] [] rfl rfl (by decide) rfl [.ref o_367, .ref gx])⟩ rfl rfl hl.1 rfl (lv_room (Nat.le_of_ble_eq_true rfl)) dX6_pot_48 ⟨(Nat.le_of_ble_eq_true rfl), (Nat.le_of_ble_eq_true rfl)⟩) hS (fun q _ h => hFc q h) hFc (fun u t H locs ht hvm w_369 hB hz1 hk1 hS => ?_)
    obtain ⟨hP, hD, hK⟩ := q_join (D := D) (wc := [(o_367, .inr (2, [.null, .int 0, .int 0, .int 0, .int 0]))]) (wr := [(xp, .inl (cp, 4, .inr (.inr (.inr (.inr (zq [some b0, none, none, none])))))), (xo, .inr (6, [.ref xg, .int gc, .ref xp, .int 1, .ref xq, .int qc, .ref r1, .ref r2, .ref r3, .ref r4, .ref se, .int ts, .int hou, .int dr, .int su, .int br])), (xg, .inl (cg, 6, .inr (.inr (.inr (.inr f)))))]) (w1 := [(o_367, .inr (2, [.ref gx, .int 0, .int 0, .int 0, .int 0]))]) (tyr := [(cp, .object "Gatherhouse$Pot"), (cg, .object "Gatherhouse$Glass")]) (ty1 := []) hP hD hK [3] [0, 1, 2] [0, 1] rfl rfl (by decide) (by decide) rfl hFc hk1 ht hvm hB
    have hP : va_P D vwCl [(xp, .inl (cp, 4, .inr (.inr (.inr (.inr (zq [some b0, none, none, none])))))), (xo, .inr (6, [.ref xg, .int gc, .ref xp, .int 1, .ref xq, .int qc, .ref r1, .ref r2, .ref r3, .ref r4, .ref se, .int ts, .int hou, .int dr, .int su, .int br])), (xg, .inl (cg, 6, .inr (.inr (.inr (.inr f))))), (o_367, .inr (2, [.ref gx, .int 0, .int 0, .int 0, .int 0]))] H := hP
    have hD : va_D A [(xp, .inl (cp, 4, .inr (.inr (.inr (.inr (zq [some b0, none, none, none])))))), (xo, .inr (6, [.ref xg, .int gc, .ref xp, .int 1, .ref xq, .int qc, .ref r1, .ref r2, .ref r3, .ref r4, .ref se, .int ts, .int hou, .int dr, .int su, .int br])), (xg, .inl (cg, 6, .inr (.inr (.inr (.inr f))))), (o_367, .inr (2, [.ref gx, .int 0, .int 0, .int 0, .int 0]))] := hD
    have hK : va_K D vwCl [(cp, .object "Gatherhouse$Pot"), (cg, .object "Gatherhouse$Glass")] s := hK
    refine va_astq (D := D) (cl := vwCl) hx hb hK hP hD hS 0 0 3 2 rfl rfl rfl rfl (vp_in_nI (n := 1) (N := 4) (by decide) (by decide)) dX6_pot_51 (fun H locs hP hD hS => ?_)
    have hP : va_P D vwCl [(xp, .inl (cp, 4, .inr (.inr (.inr (.inr (zq [some b0, some o_367, none, none])))))), (xo, .inr (6, [.ref xg, .int gc, .ref xp, .int 1, .ref xq, .int qc, .ref r1, .ref r2, .ref r3, .ref r4, .ref se, .int ts, .int hou, .int dr, .int su, .int br])), (xg, .inl (cg, 6, .inr (.inr (.inr (.inr f))))), (o_367, .inr (2, [.ref gx, .int 0, .int 0, .int 0, .int 0]))] H := by have h9 := hP; rw [zq_upd (i := 1) (l := [some b0, none, none, none]) (x := some o_367) (k := 1) (l' := [some b0, some o_367, none, none]) (by decide +kernel) (Nat.lt_of_lt_of_eq (by decide : 1 < 4) rfl) rfl] at h9; exact h9
    have hD : va_D A [(xp, .inl (cp, 4, .inr (.inr (.inr (.inr (zq [some b0, some o_367, none, none])))))), (xo, .inr (6, [.ref xg, .int gc, .ref xp, .int 1, .ref xq, .int qc, .ref r1, .ref r2, .ref r3, .ref r4, .ref se, .int ts, .int hou, .int dr, .int su, .int br])), (xg, .inl (cg, 6, .inr (.inr (.inr (.inr f))))), (o_367, .inr (2, [.ref gx, .int 0, .int 0, .int 0, .int 0]))] := by have h9 := hD; rw [zq_upd (i := 1) (l := [some b0, none, none, none]) (x := some o_367) (k := 1) (l' := [some b0, some o_367, none, none]) (by decide +kernel) (Nat.lt_of_lt_of_eq (by decide : 1 < 4) rfl) rfl] at h9; exact h9
    refine lv_aload_n hx hb dX6_pot_52 rfl (lv_at hl 1 rfl) ?_
    refine lv_dup hx hb dX6_pot_53 rfl ?_
    refine va_get (D := D) (cl := vwCl) (ci := 6) (v := .int 1) (C := RX6) (T := TX6) (N := 16) hx hb hts zuX6_pot_1_X6 hown hK hP 1 rfl rfl 3 (by decide) (hts (.fieldLink RX6 25 "Gatherhouse" "potCount" "I") (by decide +kernel)) (fun _ h9 => h9) rfl dX6_pot_54 ?_
    refine lv_iconst (v := 1) hx hb dX6_pot_57 (by decide) ?_
    refine lv_iadd hx hb dX6_pot_58 ?_
    refine lv_topi (fun y_370 ey_370 => ?_)
    have ey_370 : y_370 = 2 := ey_370.trans (by decide +kernel)
    subst ey_370
    refine va_put (D := D) (cl := vwCl) (ci := 6) (v := .int 2) (ty := .int) (C := RX6) (T := TX6) (N := 16) hx hb hts zuX6_pot_1_X6 tyX6 tyX6_ok nmX6 hown hK hP hD hS 1 rfl rfl 3 (by decide) (hts (.fieldLink RX6 25 "Gatherhouse" "potCount" "I") (by decide +kernel)) (fun _ h9 => h9) rfl (by decide +kernel) rfl rfl (Nat.le_of_ble_eq_true rfl) dX6_pot_59 (fun H locs hP hD hS => ?_)
    have hP : va_P D vwCl [(xp, .inl (cp, 4, .inr (.inr (.inr (.inr (zq [some b0, some o_367, none, none])))))), (xo, .inr (6, [.ref xg, .int gc, .ref xp, .int 2, .ref xq, .int qc, .ref r1, .ref r2, .ref r3, .ref r4, .ref se, .int ts, .int hou, .int dr, .int su, .int br])), (xg, .inl (cg, 6, .inr (.inr (.inr (.inr f))))), (o_367, .inr (2, [.ref gx, .int 0, .int 0, .int 0, .int 0]))] H := hP
    have hD : va_D A [(xp, .inl (cp, 4, .inr (.inr (.inr (.inr (zq [some b0, some o_367, none, none])))))), (xo, .inr (6, [.ref xg, .int gc, .ref xp, .int 2, .ref xq, .int qc, .ref r1, .ref r2, .ref r3, .ref r4, .ref se, .int ts, .int hou, .int dr, .int su, .int br])), (xg, .inl (cg, 6, .inr (.inr (.inr (.inr f))))), (o_367, .inr (2, [.ref gx, .int 0, .int 0, .int 0, .int 0]))] := hD
    refine lv_aload_n hx hb dX6_pot_62 rfl (lv_at hl 1 rfl) ?_
    refine va_get (D := D) (cl := vwCl) (ci := 6) (v := .int 2) (C := RX6) (T := TX6) (N := 16) hx hb hts zuX6_pot_1_X6 hown hK hP 1 rfl rfl 3 (by decide) (hts (.fieldLink RX6 25 "Gatherhouse" "potCount" "I") (by decide +kernel)) (fun _ h9 => h9) rfl dX6_pot_63 ?_
    refine lv_iconst (v := 1) hx hb dX6_pot_66 (by decide) ?_
    refine lv_isub hx hb dX6_pot_67 ?_
    refine lv_topi (fun y_371 ey_371 => ?_)
    have ey_371 : y_371 = 1 := ey_371.trans (by decide +kernel)
    subst ey_371
    refine vx_ret ?_
    exact W.iret (v := 1) hx hb hr (fun t ht hW => ⟨⟨1, (), rfl, rfl, ⟨o_367, q_RW_mk hP hK hD [1, 2, 0, 3] [1, 0] rfl rfl (by decide) rfl ht hW.alike⟩⟩, hS.F ht⟩) hS.2.2 dX6_pot_68
def wzEX6_pot_2 : List Cond := [.code yX6_pot cX6_pot 3 (some .int), .methodLink RX6 89 yX6_findGlass, .instanceMethod yX6_findGlass, .selects RX6 yX6_findGlass yX6_findGlass, .initialized RX6, .code yX6_findGlass cX6_findGlass 3 (some (.object "Gatherhouse$Glass")), .fieldLink RX6 11 "Gatherhouse" "glasses" "[LGatherhouse$Glass;", .fieldLink RX6 25 "Gatherhouse" "potCount" "I", .fieldLink RX6 21 "Gatherhouse" "pots" "[LGatherhouse$Pot;", .classLink RX6 19 RX2, .instantiable RX2 5, .initialized RX2, .code yX2_init cX2_init 2 none, .methodLink RX2 3 objectInit, .instanceMethod objectInit, .code objectInit ⟨#[0xb1]⟩ 1 none, .fieldLink RX2 9 "Gatherhouse$Pot" "mass" "I", .fieldLink RX2 15 "Gatherhouse$Pot" "seeds" "I", .fieldLink RX2 18 "Gatherhouse$Pot" "stones" "I", .fieldLink RX2 21 "Gatherhouse$Pot" "age" "I", .fieldLink RX2 24 "Gatherhouse$Pot" "glass" "LGatherhouse$Glass;", .instanceMethod yX2_init]
def wzX6_pot_2 : List Cond := wzEX6_pot_2 ++ (u_ws RX6 TX6 16 ++ (u_ws RX2 TX2 5))
theorem zgEX6_pot_2 : wzEX6_pot_2.all goodWord = true := by decide +kernel
theorem zuX6_pot_2_X6 : ∀ w ∈ u_ws RX6 TX6 16, w ∈ wzX6_pot_2 := (fun _ h => (List.mem_append_right _ (List.mem_append_left _ h)))
theorem zuX6_pot_2_X2 : ∀ w ∈ u_ws RX2 TX2 5, w ∈ wzX6_pot_2 := (fun _ h => (List.mem_append_right _ (List.mem_append_right _ h)))
theorem gzX6_pot_2_X6_findGlass_ok_89 : GoodIn wzX6_pot_2 (wsV RX6 89 RX6 yX6_findGlass wzX6_findGlass_ok) := (goodIn_app (z_lift (goodIn_r _ [1, 2, 3, 4] rfl (by decide +kernel))) (goodIn_app (z_lift (goodIn_r wzEX6_findGlass_ok [5, 6] rfl zgEX6_findGlass_ok)) (goodIn_sub (fun _ h => (List.mem_append_right _ (List.mem_append_left _ h))) zgU_X6)))
theorem gzX6_pot_2_X2_init_99 : GoodIn wzX6_pot_2 (wzX2_init) := (goodIn_app (z_lift (goodIn_r wzEX2_init [12, 13, 14, 15, 16, 17, 18, 19, 20] rfl zgEX2_init)) (goodIn_sub (fun _ h => (List.mem_append_right _ (List.mem_append_right _ h))) zgU_X2))
set_option maxHeartbeats 4000000 in
set_option maxRecDepth 100000 in
theorem zc_X6_pot_2 (l : Launch) (hnt : l.stackTraces = false) (D : va_G) (G : Nat × Nat × (Nat → Int32)) (xo : Nat) (gi : Nat) (xg : Nat) (gc : Int32) (xp : Nat) (xq : Nat) (qc : Int32) (r1 : Nat) (r2 : Nat) (r3 : Nat) (r4 : Nat) (se : Nat) (ts : Int32) (hou : Int32) (dr : Int32) (su : Int32) (br : Int32) (cg : ClassId) (f : Nat → Option Nat) (cp : ClassId) (b0 : Nat) (b1 : Nat) (gx : Nat) (sz : Nat) (h9f : f gi = some gx) (hh_gi : gi ≤ 5) : vx_Met l yX6_pot wzX6_pot_2 ({ frames := 2, cells := 1, slots := 5, locals := 33 }) (va_Pc [.ref xo, .int (nI gi)] (p_RW D G [(cg, .object "Gatherhouse$Glass"), (cp, .object "Gatherhouse$Pot")] [(xo, .inr (6, [.ref xg, .int gc, .ref xp, .int 2, .ref xq, .int qc, .ref r1, .ref r2, .ref r3, .ref r4, .ref se, .int ts, .int hou, .int dr, .int su, .int br])), (xg, .inl (cg, 6, .inr (.inr (.inr (.inr f))))), (xp, .inl (cp, 4, .inr (.inr (.inr (.inr (zq [some b0, some b1, none, none]))))))] sz)) (va_Qi (fun (r : Int32) (u : Unit) => r = 2) (fun (u : Unit) (t : State) => ∃ (pn : Nat), q_RW D [(cg, .object "Gatherhouse$Glass"), (cp, .object "Gatherhouse$Pot")] [(xo, .inr (6, [.ref xg, .int gc, .ref xp, .int 3, .ref xq, .int qc, .ref r1, .ref r2, .ref r3, .ref r4, .ref se, .int ts, .int hou, .int dr, .int su, .int br])), (xg, .inl (cg, 6, .inr (.inr (.inr (.inr f))))), (xp, .inl (cp, 4, .inr (.inr (.inr (.inr (zq [some b0, some b1, some pn, none])))))), (pn, .inr (2, [.ref gx, .int 0, .int 0, .int 0, .int 0]))] (va_A [(xo, .inr (6, [.ref xg, .int gc, .ref xp, .int 2, .ref xq, .int qc, .ref r1, .ref r2, .ref r3, .ref r4, .ref se, .int ts, .int hou, .int dr, .int su, .int br])), (xg, .inl (cg, 6, .inr (.inr (.inr (.inr f))))), (xp, .inl (cp, 4, .inr (.inr (.inr (.inr (zq [some b0, some b1, none, none]))))))] sz) t) (va_A [(xo, .inr (6, [.ref xg, .int gc, .ref xp, .int 2, .ref xq, .int qc, .ref r1, .ref r2, .ref r3, .ref r4, .ref se, .int ts, .int hou, .int dr, .int su, .int br])), (xg, .inl (cg, 6, .inr (.inr (.inr (.inr f))))), (xp, .inl (cp, 4, .inr (.inr (.inr (.inr (zq [some b0, some b1, none, none]))))))] sz)) (vx_X (fun (_ : Unit) => True) (fun E (_ : Unit) (_ : State) => False) (va_A [(xo, .inr (6, [.ref xg, .int gc, .ref xp, .int 2, .ref xq, .int qc, .ref r1, .ref r2, .ref r3, .ref r4, .ref se, .int ts, .int hou, .int dr, .int su, .int br])), (xg, .inl (cg, 6, .inr (.inr (.inr (.inr f))))), (xp, .inl (cp, 4, .inr (.inr (.inr (.inr (zq [some b0, some b1, none, none]))))))] sz)) 1 5 (va_A [(xo, .inr (6, [.ref xg, .int gc, .ref xp, .int 2, .ref xq, .int qc, .ref r1, .ref r2, .ref r3, .ref r4, .ref se, .int ts, .int hou, .int dr, .int su, .int br])), (xg, .inl (cg, 6, .inr (.inr (.inr (.inr f))))), (xp, .inl (cp, 4, .inr (.inr (.inr (.inr (zq [some b0, some b1, none, none]))))))] sz) := by
  refine vx_ofW (cc := cX6_pot) (maxL := 3) (ret := (some .int)) (by decide) rfl ?_
  intro p e s m args below meth c s₁ B hml hxt hv
  obtain ⟨rfl, hsz, hP, hK, hD0, hT, hZ⟩ := hv
  have hx := B.exec
  have hb := B.bytes
  have hr := B.returns
  have hts := atoms_spec (ws := wzX6_pot_2) B.pre
  have hown : s.vm.findClass RX6 = some m.cls := findClass_of_methodNamed B.named
  have hlocks := B.notSynchronized
  subst hsz
  have hD := hD0.self (sz := s.heap.size)
  generalize hAe : va_A [(xo, .inr (6, [.ref xg, .int gc, .ref xp, .int 2, .ref xq, .int qc, .ref r1, .ref r2, .ref r3, .ref r4, .ref se, .int ts, .int hou, .int dr, .int su, .int br])), (xg, .inl (cg, 6, .inr (.inr (.inr (.inr f))))), (xp, .inl (cp, 4, .inr (.inr (.inr (.inr (zq [some b0, some b1, none, none]))))))] s.heap.size = A at hD hZ ⊢
  have hA : ∀ q : Nat, s.heap.size ≤ q → A q := fun q h => by rw [← hAe]; exact Or.inr h
  have hS : va_S A s.heap s.heap [] := va_S.rf
  have hl := lv_entry ([.ref xo, .int (nI gi)]) (n := 3) (Nat.le_of_ble_eq_true rfl)
  rw [lg_entry_eq]
  generalize (lg_sl ([.ref xo, .int (nI gi)]) ++ List.replicate (3 - (lg_sl ([.ref xo, .int (nI gi)])).length) Slot.unset).toArray = ls at hl ⊢
  have hl : lv_has ls 3 [(0, .ref xo), (1, .int (nI gi))] := hl
  refine lv_aload_n hx hb dX6_pot_0 rfl (lv_at hl 0 rfl) ?_
  refine lv_iload_n hx hb dX6_pot_1 rfl (lv_at hl 1 rfl) ?_
  have hFc := va_free (wc := [(xo, .inr (6, [.ref xg, .int gc, .ref xp, .int 2, .ref xq, .int qc, .ref r1, .ref r2, .ref r3, .ref r4, .ref se, .int ts, .int hou, .int dr, .int su, .int br])), (xg, .inl (cg, 6, .inr (.inr (.inr (.inr f)))))]) hD hS hA [0, 1] rfl
  refine vx_callq (vx_runV (As := [.int (nI gi)]) (rest := []) ⟨hx, hb, hml, hown, hts⟩ (zc_X6_findGlass_ok l hnt D G xo gi xg gc xp 2 xq qc r1 r2 r3 r4 se ts hou dr su br cg f gx s.heap.size (by first | assumption | rfl | omega | exact Nat.le_trans (zS_le _ _ _) (by omega) | decide) (by first | assumption | rfl | omega | exact Nat.le_trans (zS_le _ _ _) (by omega) | decide)) (cwV 1 hts gzX6_pot_2_X6_findGlass_ok_89 rfl rfl rfl (by decide +kernel) ⟨(Nat.le_of_ble_eq_true rfl), (Nat.le_of_ble_eq_true rfl)⟩) ⟨p_RW_blind, va_recv hK hP (ci := 6) (q0 := 0) rfl rfl, (p_RW_at (tc := [(cg, .object "Gatherhouse$Glass")]) (wc := [(xo, .inr (6, [.ref xg, .int gc, .ref xp, .int 2, .ref xq, .int qc, .ref r1, .ref r2, .ref r3, .ref r4, .ref se, .int ts, .int hou, .int dr, .int su, .int br])), (xg, .inl (cg, 6, .inr (.inr (.inr (.inr f)))))]) hP hK hD hS hA hT hZ [0, 1] [0] rfl rfl (by decide) rfl [.ref xo, .int (nI gi)])⟩ rfl rfl hl.1 rfl (lv_room (Nat.le_of_ble_eq_true rfl)) dX6_pot_2 ⟨(Nat.le_of_ble_eq_true rfl), (Nat.le_of_ble_eq_true rfl)⟩) hS (fun q _ h => hFc q h) hFc (fun q _ h => hFc q h) (fun E ce q9 u t H locs ht hvm hpx hBX hz1 hk1 hS hce hcv hcl => ?_) (fun r_372 u t H locs ht hvm w_373 hB hz1 hk1 hS => ?_)
  · exact (show False from hBX).elim
  · obtain ⟨hP, hD, hK⟩ := q_join (D := D) (wc := [(xo, .inr (6, [.ref xg, .int gc, .ref xp, .int 2, .ref xq, .int qc, .ref r1, .ref r2, .ref r3, .ref r4, .ref se, .int ts, .int hou, .int dr, .int su, .int br])), (xg, .inl (cg, 6, .inr (.inr (.inr (.inr f)))))]) (wr := [(xp, .inl (cp, 4, .inr (.inr (.inr (.inr (zq [some b0, some b1, none, none]))))))]) (w1 := [(xo, .inr (6, [.ref xg, .int gc, .ref xp, .int 2, .ref xq, .int qc, .ref r1, .ref r2, .ref r3, .ref r4, .ref se, .int ts, .int hou, .int dr, .int su, .int br])), (xg, .inl (cg, 6, .inr (.inr (.inr (.inr f)))))]) (tyr := [(cp, .object "Gatherhouse$Pot")]) (ty1 := [(cg, .object "Gatherhouse$Glass")]) hP hD hK [0, 1] [2] [1] rfl rfl (by decide) (by decide) rfl hFc hk1 ht hvm hB
    have hP : va_P D vwCl [(xp, .inl (cp, 4, .inr (.inr (.inr (.inr (zq [some b0, some b1, none, none])))))), (xo, .inr (6, [.ref xg, .int gc, .ref xp, .int 2, .ref xq, .int qc, .ref r1, .ref r2, .ref r3, .ref r4, .ref se, .int ts, .int hou, .int dr, .int su, .int br])), (xg, .inl (cg, 6, .inr (.inr (.inr (.inr f)))))] H := hP
    have hD : va_D A [(xp, .inl (cp, 4, .inr (.inr (.inr (.inr (zq [some b0, some b1, none, none])))))), (xo, .inr (6, [.ref xg, .int gc, .ref xp, .int 2, .ref xq, .int qc, .ref r1, .ref r2, .ref r3, .ref r4, .ref se, .int ts, .int hou, .int dr, .int su, .int br])), (xg, .inl (cg, 6, .inr (.inr (.inr (.inr f)))))] := hD
    have hK : va_K D vwCl [(cp, .object "Gatherhouse$Pot"), (cg, .object "Gatherhouse$Glass")] s := hK
    obtain rfl := w_373
    refine W.eq (g2 := F0 m 5 ls [.ref gx]) rfl ?_
    refine lv_astore_n (lv' := [(2, .ref gx), (0, .ref xo), (1, .int (nI gi))]) hx hb dX6_pot_5 rfl hl (by decide) rfl (fun ls hl => ?_)
    refine lv_aload_n hx hb dX6_pot_6 rfl (lv_at hl 1 rfl) ?_
    refine va_get (D := D) (cl := vwCl) (ci := 6) (v := .int 2) (C := RX6) (T := TX6) (N := 16) hx hb hts zuX6_pot_2_X6 hown hK hP 1 rfl rfl 3 (by decide) (hts (.fieldLink RX6 25 "Gatherhouse" "potCount" "I") (by decide +kernel)) (fun _ h9 => h9) rfl dX6_pot_7 ?_
    refine lv_if_lt (tgt := 25) hx hb dX6_pot_10 (by decide) (fun cc => absurd cc (by decide)) (fun _ => ?_)
    refine lv_aload_n hx hb dX6_pot_13 rfl (lv_at hl 1 rfl) ?_
    refine va_get (D := D) (cl := vwCl) (ci := 6) (v := .int 2) (C := RX6) (T := TX6) (N := 16) hx hb hts zuX6_pot_2_X6 hown hK hP 1 rfl rfl 3 (by decide) (hts (.fieldLink RX6 25 "Gatherhouse" "potCount" "I") (by decide +kernel)) (fun _ h9 => h9) rfl dX6_pot_14 ?_
    refine lv_aload_n hx hb dX6_pot_17 rfl (lv_at hl 1 rfl) ?_
    refine va_get (D := D) (cl := vwCl) (ci := 6) (v := .ref xp) (C := RX6) (T := TX6) (N := 16) hx hb hts zuX6_pot_2_X6 hown hK hP 1 rfl rfl 2 (by decide) (hts (.fieldLink RX6 21 "Gatherhouse" "pots" "[LGatherhouse$Pot;") (by decide +kernel)) (fun _ h9 => h9) rfl dX6_pot_18 ?_
    refine va_alen (D := D) (cl := vwCl) (v := 4) hx hb hK hP 0 0 rfl rfl rfl dX6_pot_21 ?_
    refine lv_icmp_lt (tgt := 35) hx hb dX6_pot_22 (by decide) (fun _ => ?_) (fun cc => absurd (by decide) cc)
    refine lv_aload_n hx hb dX6_pot_35 rfl (lv_at hl 1 rfl) ?_
    refine va_get (D := D) (cl := vwCl) (ci := 6) (v := .ref xp) (C := RX6) (T := TX6) (N := 16) hx hb hts zuX6_pot_2_X6 hown hK hP 1 rfl rfl 2 (by decide) (hts (.fieldLink RX6 21 "Gatherhouse" "pots" "[LGatherhouse$Pot;") (by decide +kernel)) (fun _ h9 => h9) rfl dX6_pot_36 ?_
    refine lv_aload_n hx hb dX6_pot_39 rfl (lv_at hl 1 rfl) ?_
    refine va_get (D := D) (cl := vwCl) (ci := 6) (v := .int 2) (C := RX6) (T := TX6) (N := 16) hx hb hts zuX6_pot_2_X6 hown hK hP 1 rfl rfl 3 (by decide) (hts (.fieldLink RX6 25 "Gatherhouse" "potCount" "I") (by decide +kernel)) (fun _ h9 => h9) rfl dX6_pot_40 ?_
    refine va_new (D := D) (cl := vwCl) (ci := 2) (fs := [.null, .int 0, .int 0, .int 0, .int 0]) (C := RX2) (T := TX2) (N := 5) hx hb hts zuX6_pot_2_X2 tyX2 tyX2_ok hown (hts (.classLink RX6 19 RX2) (by decide +kernel)) (hts (.instantiable RX2 5) (by decide +kernel)) (hts (.initialized RX2) (by decide +kernel)) hK hP hD hS hA rfl (fun j hj => by rcases (show j = 0 ∨ j = 1 ∨ j = 2 ∨ j = 3 ∨ j = 4 by omega) with rfl | rfl | rfl | rfl | rfl <;> rfl) (Nat.le_of_ble_eq_true rfl) (Nat.le_of_ble_eq_true rfl) dX6_pot_43 (fun o_374 H hP hD hS => ?_)
    have hP : va_P D vwCl [(xp, .inl (cp, 4, .inr (.inr (.inr (.inr (zq [some b0, some b1, none, none])))))), (xo, .inr (6, [.ref xg, .int gc, .ref xp, .int 2, .ref xq, .int qc, .ref r1, .ref r2, .ref r3, .ref r4, .ref se, .int ts, .int hou, .int dr, .int su, .int br])), (xg, .inl (cg, 6, .inr (.inr (.inr (.inr f))))), (o_374, .inr (2, [.null, .int 0, .int 0, .int 0, .int 0]))] H := hP
    have hD : va_D A [(xp, .inl (cp, 4, .inr (.inr (.inr (.inr (zq [some b0, some b1, none, none])))))), (xo, .inr (6, [.ref xg, .int gc, .ref xp, .int 2, .ref xq, .int qc, .ref r1, .ref r2, .ref r3, .ref r4, .ref se, .int ts, .int hou, .int dr, .int su, .int br])), (xg, .inl (cg, 6, .inr (.inr (.inr (.inr f))))), (o_374, .inr (2, [.null, .int 0, .int 0, .int 0, .int 0]))] := hD
    refine W.widen (k := 1) (n := 5) (Nat.le_of_ble_eq_true rfl) (Nat.le_of_ble_eq_true rfl) ?_
    refine lv_dup hx hb dX6_pot_46 rfl ?_
    refine lv_aload_n hx hb dX6_pot_47 rfl (lv_at hl 0 rfl) ?_
    have hFc := va_free (wc := [(o_374, .inr (2, [.null, .int 0, .int 0, .int 0, .int 0]))]) hD hS hA [3] rfl
    refine va_callv (va_runIN (As := [.ref gx]) (rest := [.ref o_374, .int 2, .ref xp]) ⟨hx, hb, hml, hown, hts⟩ (zc_X2_init l D G o_374 gx H.size) ⟨va_cnB 1 hts gzX6_pot_2_X2_init_99 rfl rfl rfl (hT.1 ("Gatherhouse", 99, ⟨"Gatherhouse$Pot", "<init>", "(LGatherhouse$Glass;)V"⟩, "Gatherhouse") (by decide +kernel)) (hts (.initialized RX2) (by decide +kernel)) (by decide +kernel) ⟨(Nat.le_of_ble_eq_true rfl), (Nat.le_of_ble_eq_true rfl)⟩, rfl, (hts (.instanceMethod yX2_init) (by decide +kernel))⟩ ⟨p_RW_blind, (p_RW_at (tc := []) (wc := [(o_374, .inr (2, [.null, .int 0, .int 0, .int 0, .int 0]))]) hP hK hD hS hA hT hZ [3] [] rfl rfl (by decide) rfl [.ref o_374, .ref gx])⟩ rfl rfl hl.1 rfl (lv_room (Nat.le_of_ble_eq_true rfl)) dX6_pot_48 ⟨(Nat.le_of_ble_eq_true rfl), (Nat.le_of_ble_eq_true rfl)⟩) hS (fun q _ h => hFc q h) hFc (fun u t H locs ht hvm w_376 hB hz1 hk1 hS => ?_)
    obtain ⟨hP, hD, hK⟩ := q_join (D := D) (wc := [(o_374, .inr (2, [.null, .int 0, .int 0, .int 0, .int 0]))]) (wr := [(xp, .inl (cp, 4, .inr (.inr (.inr (.inr (zq [some b0, some b1, none, none])))))), (xo, .inr (6, [.ref xg, .int gc, .ref xp, .int 2, .ref xq, .int qc, .ref r1, .ref r2, .ref r3, .ref r4, .ref se, .int ts, .int hou, .int dr, .int su, .int br])), (xg, .inl (cg, 6, .inr (.inr (.inr (.inr f)))))]) (w1 := [(o_374, .inr (2, [.ref gx, .int 0, .int 0, .int 0, .int 0]))]) (tyr := [(cp, .object "Gatherhouse$Pot"), (cg, .object "Gatherhouse$Glass")]) (ty1 := []) hP hD hK [3] [0, 1, 2] [0, 1] rfl rfl (by decide) (by decide) rfl hFc hk1 ht hvm hB
    have hP : va_P D vwCl [(xp, .inl (cp, 4, .inr (.inr (.inr (.inr (zq [some b0, some b1, none, none])))))), (xo, .inr (6, [.ref xg, .int gc, .ref xp, .int 2, .ref xq, .int qc, .ref r1, .ref r2, .ref r3, .ref r4, .ref se, .int ts, .int hou, .int dr, .int su, .int br])), (xg, .inl (cg, 6, .inr (.inr (.inr (.inr f))))), (o_374, .inr (2, [.ref gx, .int 0, .int 0, .int 0, .int 0]))] H := hP
    have hD : va_D A [(xp, .inl (cp, 4, .inr (.inr (.inr (.inr (zq [some b0, some b1, none, none])))))), (xo, .inr (6, [.ref xg, .int gc, .ref xp, .int 2, .ref xq, .int qc, .ref r1, .ref r2, .ref r3, .ref r4, .ref se, .int ts, .int hou, .int dr, .int su, .int br])), (xg, .inl (cg, 6, .inr (.inr (.inr (.inr f))))), (o_374, .inr (2, [.ref gx, .int 0, .int 0, .int 0, .int 0]))] := hD
    have hK : va_K D vwCl [(cp, .object "Gatherhouse$Pot"), (cg, .object "Gatherhouse$Glass")] s := hK
    refine va_astq (D := D) (cl := vwCl) hx hb hK hP hD hS 0 0 3 2 rfl rfl rfl rfl (vp_in_nI (n := 2) (N := 4) (by decide) (by decide)) dX6_pot_51 (fun H locs hP hD hS => ?_)
    have hP : va_P D vwCl [(xp, .inl (cp, 4, .inr (.inr (.inr (.inr (zq [some b0, some b1, some o_374, none])))))), (xo, .inr (6, [.ref xg, .int gc, .ref xp, .int 2, .ref xq, .int qc, .ref r1, .ref r2, .ref r3, .ref r4, .ref se, .int ts, .int hou, .int dr, .int su, .int br])), (xg, .inl (cg, 6, .inr (.inr (.inr (.inr f))))), (o_374, .inr (2, [.ref gx, .int 0, .int 0, .int 0, .int 0]))] H := by have h9 := hP; rw [zq_upd (i := 2) (l := [some b0, some b1, none, none]) (x := some o_374) (k := 2) (l' := [some b0, some b1, some o_374, none]) (by decide +kernel) (Nat.lt_of_lt_of_eq (by decide : 2 < 4) rfl) rfl] at h9; exact h9
    have hD : va_D A [(xp, .inl (cp, 4, .inr (.inr (.inr (.inr (zq [some b0, some b1, some o_374, none])))))), (xo, .inr (6, [.ref xg, .int gc, .ref xp, .int 2, .ref xq, .int qc, .ref r1, .ref r2, .ref r3, .ref r4, .ref se, .int ts, .int hou, .int dr, .int su, .int br])), (xg, .inl (cg, 6, .inr (.inr (.inr (.inr f))))), (o_374, .inr (2, [.ref gx, .int 0, .int 0, .int 0, .int 0]))] := by have h9 := hD; rw [zq_upd (i := 2) (l := [some b0, some b1, none, none]) (x := some o_374) (k := 2) (l' := [some b0, some b1, some o_374, none]) (by decide +kernel) (Nat.lt_of_lt_of_eq (by decide : 2 < 4) rfl) rfl] at h9; exact h9
    refine lv_aload_n hx hb dX6_pot_52 rfl (lv_at hl 1 rfl) ?_
    refine lv_dup hx hb dX6_pot_53 rfl ?_
    refine va_get (D := D) (cl := vwCl) (ci := 6) (v := .int 2) (C := RX6) (T := TX6) (N := 16) hx hb hts zuX6_pot_2_X6 hown hK hP 1 rfl rfl 3 (by decide) (hts (.fieldLink RX6 25 "Gatherhouse" "potCount" "I") (by decide +kernel)) (fun _ h9 => h9) rfl dX6_pot_54 ?_
    refine lv_iconst (v := 1) hx hb dX6_pot_57 (by decide) ?_
    refine lv_iadd hx hb dX6_pot_58 ?_
    refine lv_topi (fun y_377 ey_377 => ?_)
    have ey_377 : y_377 = 3 := ey_377.trans (by decide +kernel)
    subst ey_377
    refine va_put (D := D) (cl := vwCl) (ci := 6) (v := .int 3) (ty := .int) (C := RX6) (T := TX6) (N := 16) hx hb hts zuX6_pot_2_X6 tyX6 tyX6_ok nmX6 hown hK hP hD hS 1 rfl rfl 3 (by decide) (hts (.fieldLink RX6 25 "Gatherhouse" "potCount" "I") (by decide +kernel)) (fun _ h9 => h9) rfl (by decide +kernel) rfl rfl (Nat.le_of_ble_eq_true rfl) dX6_pot_59 (fun H locs hP hD hS => ?_)
    have hP : va_P D vwCl [(xp, .inl (cp, 4, .inr (.inr (.inr (.inr (zq [some b0, some b1, some o_374, none])))))), (xo, .inr (6, [.ref xg, .int gc, .ref xp, .int 3, .ref xq, .int qc, .ref r1, .ref r2, .ref r3, .ref r4, .ref se, .int ts, .int hou, .int dr, .int su, .int br])), (xg, .inl (cg, 6, .inr (.inr (.inr (.inr f))))), (o_374, .inr (2, [.ref gx, .int 0, .int 0, .int 0, .int 0]))] H := hP
    have hD : va_D A [(xp, .inl (cp, 4, .inr (.inr (.inr (.inr (zq [some b0, some b1, some o_374, none])))))), (xo, .inr (6, [.ref xg, .int gc, .ref xp, .int 3, .ref xq, .int qc, .ref r1, .ref r2, .ref r3, .ref r4, .ref se, .int ts, .int hou, .int dr, .int su, .int br])), (xg, .inl (cg, 6, .inr (.inr (.inr (.inr f))))), (o_374, .inr (2, [.ref gx, .int 0, .int 0, .int 0, .int 0]))] := hD
    refine lv_aload_n hx hb dX6_pot_62 rfl (lv_at hl 1 rfl) ?_
    refine va_get (D := D) (cl := vwCl) (ci := 6) (v := .int 3) (C := RX6) (T := TX6) (N := 16) hx hb hts zuX6_pot_2_X6 hown hK hP 1 rfl rfl 3 (by decide) (hts (.fieldLink RX6 25 "Gatherhouse" "potCount" "I") (by decide +kernel)) (fun _ h9 => h9) rfl dX6_pot_63 ?_
    refine lv_iconst (v := 1) hx hb dX6_pot_66 (by decide) ?_
    refine lv_isub hx hb dX6_pot_67 ?_
    refine lv_topi (fun y_378 ey_378 => ?_)
    have ey_378 : y_378 = 2 := ey_378.trans (by decide +kernel)
    subst ey_378
    refine vx_ret ?_
    exact W.iret (v := 2) hx hb hr (fun t ht hW => ⟨⟨2, (), rfl, rfl, ⟨o_374, q_RW_mk hP hK hD [1, 2, 0, 3] [1, 0] rfl rfl (by decide) rfl ht hW.alike⟩⟩, hS.F ht⟩) hS.2.2 dX6_pot_68
theorem dX6_charge_5 : decode cX6_charge 5 = .ok (.astore_n 3, 1) := by decide +kernel
theorem dX6_charge_6 : decode cX6_charge 6 = .ok (.iload_n 2, 1) := by decide +kernel
theorem dX6_charge_7 : decode cX6_charge 7 = .ok (.iconst 1, 1) := by decide +kernel
theorem dX6_charge_8 : decode cX6_charge 8 = .ok (.sipush 500, 3) := by decide +kernel
theorem dX6_charge_11 : decode cX6_charge 11 = .ok (.invokestatic 75, 3) := by decide +kernel
theorem dX6_charge_14 : decode cX6_charge 14 = .ok (.aload_n 3, 1) := by decide +kernel
theorem dX6_charge_15 : decode cX6_charge 15 = .ok (.getfield 106, 3) := by decide +kernel
theorem dX6_charge_18 : decode cX6_charge 18 = .ok (.iload_n 2, 1) := by decide +kernel
theorem dX6_charge_19 : decode cX6_charge 19 = .ok (.iadd, 1) := by decide +kernel
theorem dX6_charge_20 : decode cX6_charge 20 = .ok (.iconst 1, 1) := by decide +kernel
theorem dX6_charge_21 : decode cX6_charge 21 = .ok (.sipush 1000, 3) := by decide +kernel
theorem dX6_charge_24 : decode cX6_charge 24 = .ok (.invokestatic 75, 3) := by decide +kernel
theorem dX6_charge_27 : decode cX6_charge 27 = .ok (.aload_n 3, 1) := by decide +kernel
theorem dX6_charge_28 : decode cX6_charge 28 = .ok (.dup, 1) := by decide +kernel
theorem dX6_charge_29 : decode cX6_charge 29 = .ok (.getfield 106, 3) := by decide +kernel
theorem dX6_charge_32 : decode cX6_charge 32 = .ok (.iload_n 2, 1) := by decide +kernel
theorem dX6_charge_33 : decode cX6_charge 33 = .ok (.iadd, 1) := by decide +kernel
theorem dX6_charge_34 : decode cX6_charge 34 = .ok (.putfield 106, 3) := by decide +kernel
theorem dX6_charge_37 : decode cX6_charge 37 = .ok (.aload_n 3, 1) := by decide +kernel
theorem dX6_charge_38 : decode cX6_charge 38 = .ok (.bipush 30, 2) := by decide +kernel
theorem dX6_charge_40 : decode cX6_charge 40 = .ok (.putfield 109, 3) := by decide +kernel
theorem dX6_charge_43 : decode cX6_charge 43 = .ok (.aload_n 3, 1) := by decide +kernel
theorem dX6_charge_44 : decode cX6_charge 44 = .ok (.getfield 106, 3) := by decide +kernel
theorem dX6_charge_47 : decode cX6_charge 47 = .ok (.ireturn, 1) := by decide +kernel
def wzEX6_charge_ok : List Cond := [.code yX6_charge cX6_charge 4 (some .int), .methodLink RX6 102 yX6_findPot, .instanceMethod yX6_findPot, .selects RX6 yX6_findPot yX6_findPot, .initialized RX6, .code yX6_findPot cX6_findPot 3 (some (.object "Gatherhouse$Pot")), .fieldLink RX6 21 "Gatherhouse" "pots" "[LGatherhouse$Pot;", .methodLink RX6 75 yX6_checkRange, .static yX6_checkRange, .code yX6_checkRange cX6_checkRange 3 none]
def wzX6_charge_ok : List Cond := wzEX6_charge_ok ++ (u_ws RX6 TX6 16 ++ (u_ws RX2 TX2 5))
theorem zgEX6_charge_ok : wzEX6_charge_ok.all goodWord = true := by decide +kernel
theorem zuX6_charge_ok_X6 : ∀ w ∈ u_ws RX6 TX6 16, w ∈ wzX6_charge_ok := (fun _ h => (List.mem_append_right _ (List.mem_append_left _ h)))
theorem zuX6_charge_ok_X2 : ∀ w ∈ u_ws RX2 TX2 5, w ∈ wzX6_charge_ok := (fun _ h => (List.mem_append_right _ (List.mem_append_right _ h)))
theorem gzX6_charge_ok_X6_findPot_ok_102 : GoodIn wzX6_charge_ok (wsV RX6 102 RX6 yX6_findPot wzX6_findPot_ok) := (goodIn_app (z_lift (goodIn_r _ [1, 2, 3, 4] rfl (by decide +kernel))) (goodIn_app (z_lift (goodIn_r wzEX6_findPot_ok [5, 6] rfl zgEX6_findPot_ok)) (goodIn_sub (fun _ h => (List.mem_append_right _ (List.mem_append_left _ h))) zgU_X6)))
theorem gzX6_charge_ok_X6_checkRange_ok_75 : GoodIn wzX6_charge_ok (va_wsS RX6 75 yX6_checkRange wzX6_checkRange_ok) := (goodIn_app (z_lift (goodIn_r _ [7, 8, 4] rfl (by decide +kernel))) (goodIn_app (z_lift (goodIn_r wzEX6_checkRange_ok [9] rfl zgEX6_checkRange_ok)) z_gnil))
set_option maxHeartbeats 4000000 in
set_option maxRecDepth 100000 in
theorem zc_X6_charge_ok (l : Launch) (hnt : l.stackTraces = false) (D : va_G) (G : Nat × Nat × (Nat → Int32)) (xo : Nat) (k : Nat) (w : Nat) (xg : Nat) (gc : Int32) (xp : Nat) (pc : Int32) (xq : Nat) (qc : Int32) (r1 : Nat) (r2 : Nat) (r3 : Nat) (r4 : Nat) (se : Nat) (ts : Int32) (hou : Int32) (dr : Int32) (su : Int32) (br : Int32) (cp : ClassId) (fp : Nat → Option Nat) (pot : Nat) (gx : Nat) (pm : Nat) (pe : Int32) (ps : Int32) (pa : Int32) (sz : Nat) (h9f : fp k = some pot) (g1 : pm + w ≤ 1000) (hh_k : k ≤ 3) (hl_w : 1 ≤ w) (hh_w : w ≤ 500) (hh_pm : pm ≤ 1000) : vx_Met l yX6_charge wzX6_charge_ok ({ frames := 1, cells := 0, slots := 0, locals := 22 }) (va_Pc [.ref xo, .int (nI k), .int (nI w)] (p_RW D G [(cp, .object "Gatherhouse$Pot")] [(xo, .inr (6, [.ref xg, .int gc, .ref xp, .int pc, .ref xq, .int qc, .ref r1, .ref r2, .ref r3, .ref r4, .ref se, .int ts, .int hou, .int dr, .int su, .int br])), (xp, .inl (cp, 4, .inr (.inr (.inr (.inr fp))))), (pot, .inr (2, [.ref gx, .int (nI pm), .int pe, .int ps, .int pa]))] sz)) (va_Qi (fun (r : Int32) (u : Unit) => r = (nI (pm + w))) (fun (u : Unit) (t : State) => q_RW D [(cp, .object "Gatherhouse$Pot")] [(xo, .inr (6, [.ref xg, .int gc, .ref xp, .int pc, .ref xq, .int qc, .ref r1, .ref r2, .ref r3, .ref r4, .ref se, .int ts, .int hou, .int dr, .int su, .int br])), (xp, .inl (cp, 4, .inr (.inr (.inr (.inr fp))))), (pot, .inr (2, [.ref gx, .int (nI (pm + w)), .int 30, .int ps, .int pa]))] (va_A [(xo, .inr (6, [.ref xg, .int gc, .ref xp, .int pc, .ref xq, .int qc, .ref r1, .ref r2, .ref r3, .ref r4, .ref se, .int ts, .int hou, .int dr, .int su, .int br])), (xp, .inl (cp, 4, .inr (.inr (.inr (.inr fp))))), (pot, .inr (2, [.ref gx, .int (nI pm), .int pe, .int ps, .int pa]))] sz) t) (va_A [(xo, .inr (6, [.ref xg, .int gc, .ref xp, .int pc, .ref xq, .int qc, .ref r1, .ref r2, .ref r3, .ref r4, .ref se, .int ts, .int hou, .int dr, .int su, .int br])), (xp, .inl (cp, 4, .inr (.inr (.inr (.inr fp))))), (pot, .inr (2, [.ref gx, .int (nI pm), .int pe, .int ps, .int pa]))] sz)) (vx_X (fun (_ : Unit) => True) (fun E (_ : Unit) (_ : State) => False) (va_A [(xo, .inr (6, [.ref xg, .int gc, .ref xp, .int pc, .ref xq, .int qc, .ref r1, .ref r2, .ref r3, .ref r4, .ref se, .int ts, .int hou, .int dr, .int su, .int br])), (xp, .inl (cp, 4, .inr (.inr (.inr (.inr fp))))), (pot, .inr (2, [.ref gx, .int (nI pm), .int pe, .int ps, .int pa]))] sz)) 0 0 (va_A [(xo, .inr (6, [.ref xg, .int gc, .ref xp, .int pc, .ref xq, .int qc, .ref r1, .ref r2, .ref r3, .ref r4, .ref se, .int ts, .int hou, .int dr, .int su, .int br])), (xp, .inl (cp, 4, .inr (.inr (.inr (.inr fp))))), (pot, .inr (2, [.ref gx, .int (nI pm), .int pe, .int ps, .int pa]))] sz) := by
  refine vx_ofW (cc := cX6_charge) (maxL := 4) (ret := (some .int)) (by decide) rfl ?_
  intro p e s m args below meth c s₁ B hml hxt hv
  obtain ⟨rfl, hsz, hP, hK, hD0, hT, hZ⟩ := hv
  have hx := B.exec
  have hb := B.bytes
  have hr := B.returns
  have hts := atoms_spec (ws := wzX6_charge_ok) B.pre
  have hown : s.vm.findClass RX6 = some m.cls := findClass_of_methodNamed B.named
  have hlocks := B.notSynchronized
  subst hsz
  have hD := hD0.self (sz := s.heap.size)
  generalize hAe : va_A [(xo, .inr (6, [.ref xg, .int gc, .ref xp, .int pc, .ref xq, .int qc, .ref r1, .ref r2, .ref r3, .ref r4, .ref se, .int ts, .int hou, .int dr, .int su, .int br])), (xp, .inl (cp, 4, .inr (.inr (.inr (.inr fp))))), (pot, .inr (2, [.ref gx, .int (nI pm), .int pe, .int ps, .int pa]))] s.heap.size = A at hD hZ ⊢
  have hA : ∀ q : Nat, s.heap.size ≤ q → A q := fun q h => by rw [← hAe]; exact Or.inr h
  have hS : va_S A s.heap s.heap [] := va_S.rf
  have hl := lv_entry ([.ref xo, .int (nI k), .int (nI w)]) (n := 4) (Nat.le_of_ble_eq_true rfl)
  rw [lg_entry_eq]
  generalize (lg_sl ([.ref xo, .int (nI k), .int (nI w)]) ++ List.replicate (4 - (lg_sl ([.ref xo, .int (nI k), .int (nI w)])).length) Slot.unset).toArray = ls at hl ⊢
  have hl : lv_has ls 4 [(0, .ref xo), (1, .int (nI k)), (2, .int (nI w))] := hl
  refine lv_aload_n hx hb dX6_charge_0 rfl (lv_at hl 0 rfl) ?_
  refine lv_iload_n hx hb dX6_charge_1 rfl (lv_at hl 1 rfl) ?_
  have hFc := va_free (wc := [(xo, .inr (6, [.ref xg, .int gc, .ref xp, .int pc, .ref xq, .int qc, .ref r1, .ref r2, .ref r3, .ref r4, .ref se, .int ts, .int hou, .int dr, .int su, .int br])), (xp, .inl (cp, 4, .inr (.inr (.inr (.inr fp)))))]) hD hS hA [0, 1] rfl
  refine vx_callq (vx_runV (As := [.int (nI k)]) (rest := []) ⟨hx, hb, hml, hown, hts⟩ (zc_X6_findPot_ok l hnt D G xo k xg gc xp pc xq qc r1 r2 r3 r4 se ts hou dr su br cp fp pot s.heap.size (by first | assumption | rfl | omega | exact Nat.le_trans (zS_le _ _ _) (by omega) | decide) (by first | assumption | rfl | omega | exact Nat.le_trans (zS_le _ _ _) (by omega) | decide)) (cwV 1 hts gzX6_charge_ok_X6_findPot_ok_102 rfl rfl rfl (by decide +kernel) ⟨(Nat.le_of_ble_eq_true rfl), (Nat.le_of_ble_eq_true rfl)⟩) ⟨p_RW_blind, va_recv hK hP (ci := 6) (q0 := 0) rfl rfl, (p_RW_at (tc := [(cp, .object "Gatherhouse$Pot")]) (wc := [(xo, .inr (6, [.ref xg, .int gc, .ref xp, .int pc, .ref xq, .int qc, .ref r1, .ref r2, .ref r3, .ref r4, .ref se, .int ts, .int hou, .int dr, .int su, .int br])), (xp, .inl (cp, 4, .inr (.inr (.inr (.inr fp)))))]) hP hK hD hS hA hT hZ [0, 1] [0] rfl rfl (by decide) rfl [.ref xo, .int (nI k)])⟩ rfl rfl hl.1 rfl (lv_room (Nat.le_of_ble_eq_true rfl)) dX6_charge_2 ⟨(Nat.le_of_ble_eq_true rfl), (Nat.le_of_ble_eq_true rfl)⟩) hS (fun q _ h => hFc q h) hFc (fun q _ h => hFc q h) (fun E ce q9 u t H locs ht hvm hpx hBX hz1 hk1 hS hce hcv hcl => ?_) (fun r_379 u t H locs ht hvm w_380 hB hz1 hk1 hS => ?_)
  · exact (show False from hBX).elim
  · obtain ⟨hP, hD, hK⟩ := q_join (D := D) (wc := [(xo, .inr (6, [.ref xg, .int gc, .ref xp, .int pc, .ref xq, .int qc, .ref r1, .ref r2, .ref r3, .ref r4, .ref se, .int ts, .int hou, .int dr, .int su, .int br])), (xp, .inl (cp, 4, .inr (.inr (.inr (.inr fp)))))]) (wr := [(pot, .inr (2, [.ref gx, .int (nI pm), .int pe, .int ps, .int pa]))]) (w1 := [(xo, .inr (6, [.ref xg, .int gc, .ref xp, .int pc, .ref xq, .int qc, .ref r1, .ref r2, .ref r3, .ref r4, .ref se, .int ts, .int hou, .int dr, .int su, .int br])), (xp, .inl (cp, 4, .inr (.inr (.inr (.inr fp)))))]) (tyr := []) (ty1 := [(cp, .object "Gatherhouse$Pot")]) hP hD hK [0, 1] [2] [] rfl rfl (by decide) (by decide) rfl hFc hk1 ht hvm hB
    have hP : va_P D vwCl [(pot, .inr (2, [.ref gx, .int (nI pm), .int pe, .int ps, .int pa])), (xo, .inr (6, [.ref xg, .int gc, .ref xp, .int pc, .ref xq, .int qc, .ref r1, .ref r2, .ref r3, .ref r4, .ref se, .int ts, .int hou, .int dr, .int su, .int br])), (xp, .inl (cp, 4, .inr (.inr (.inr (.inr fp)))))] H := hP
    have hD : va_D A [(pot, .inr (2, [.ref gx, .int (nI pm), .int pe, .int ps, .int pa])), (xo, .inr (6, [.ref xg, .int gc, .ref xp, .int pc, .ref xq, .int qc, .ref r1, .ref r2, .ref r3, .ref r4, .ref se, .int ts, .int hou, .int dr, .int su, .int br])), (xp, .inl (cp, 4, .inr (.inr (.inr (.inr fp)))))] := hD
    have hK : va_K D vwCl [(cp, .object "Gatherhouse$Pot")] s := hK
    obtain rfl := w_380
    refine W.eq (g2 := F0 m 5 ls [.ref pot]) rfl ?_
    refine lv_astore_n (lv' := [(3, .ref pot), (0, .ref xo), (1, .int (nI k)), (2, .int (nI w))]) hx hb dX6_charge_5 rfl hl (by decide) rfl (fun ls hl => ?_)
    refine lv_iload_n hx hb dX6_charge_6 rfl (lv_at hl 3 rfl) ?_
    refine lv_iconst (v := 1) hx hb dX6_charge_7 (by decide) ?_
    refine lv_sipush (v := 500) hx hb dX6_charge_8 (by decide) ?_
    have hFc := va_free (wc := []) hD hS hA [] rfl
    refine vx_callv (vx_runS (As := [.int (nI w), .int 1, .int 500]) (rest := []) ⟨hx, hb, hml, hown, hts⟩ (zc_X6_checkRange_ok l hnt D G w 1 500 H.size (by first | assumption | rfl | omega | exact Nat.le_trans (zS_le _ _ _) (by omega) | decide) (by first | assumption | rfl | omega | exact Nat.le_trans (zS_le _ _ _) (by omega) | decide) (by first | assumption | rfl | omega | exact Nat.le_trans (zS_le _ _ _) (by omega) | decide) (by first | assumption | rfl | omega | exact Nat.le_trans (zS_le _ _ _) (by omega) | decide) (by first | assumption | rfl | omega | exact Nat.le_trans (zS_le _ _ _) (by omega) | decide)) (cwS 3 hts gzX6_charge_ok_X6_checkRange_ok_75 rfl rfl rfl (by decide +kernel) ⟨(Nat.le_of_ble_eq_true rfl), (Nat.le_of_ble_eq_true rfl)⟩) ⟨p_RW_blind, (p_RW_at (tc := []) (wc := []) hP hK hD hS hA hT hZ [] [] rfl rfl (by decide) rfl [.int (nI w), .int 1, .int 500])⟩ rfl rfl hl.1 rfl (lv_room (Nat.le_of_ble_eq_true rfl)) dX6_charge_11 ⟨(Nat.le_of_ble_eq_true rfl), (Nat.le_of_ble_eq_true rfl)⟩) hS (fun q _ h => hFc q h) hFc (fun q _ h => hFc q h) (fun E ce q9 u t H locs ht hvm hpx hBX hz1 hk1 hS hce hcv hcl => ?_) (fun u t H locs ht hvm w_382 hB hz1 hk1 hS => ?_)
    · exact (show False from hBX).elim
    · obtain ⟨hP, hD, hK⟩ := q_join (D := D) (wc := []) (wr := [(pot, .inr (2, [.ref gx, .int (nI pm), .int pe, .int ps, .int pa])), (xo, .inr (6, [.ref xg, .int gc, .ref xp, .int pc, .ref xq, .int qc, .ref r1, .ref r2, .ref r3, .ref r4, .ref se, .int ts, .int hou, .int dr, .int su, .int br])), (xp, .inl (cp, 4, .inr (.inr (.inr (.inr fp)))))]) (w1 := []) (tyr := [(cp, .object "Gatherhouse$Pot")]) (ty1 := []) hP hD hK [] [0, 1, 2] [0] rfl rfl (by decide) (by decide) rfl hFc hk1 ht hvm hB
      have hP : va_P D vwCl [(pot, .inr (2, [.ref gx, .int (nI pm), .int pe, .int ps, .int pa])), (xo, .inr (6, [.ref xg, .int gc, .ref xp, .int pc, .ref xq, .int qc, .ref r1, .ref r2, .ref r3, .ref r4, .ref se, .int ts, .int hou, .int dr, .int su, .int br])), (xp, .inl (cp, 4, .inr (.inr (.inr (.inr fp)))))] H := hP
      have hD : va_D A [(pot, .inr (2, [.ref gx, .int (nI pm), .int pe, .int ps, .int pa])), (xo, .inr (6, [.ref xg, .int gc, .ref xp, .int pc, .ref xq, .int qc, .ref r1, .ref r2, .ref r3, .ref r4, .ref se, .int ts, .int hou, .int dr, .int su, .int br])), (xp, .inl (cp, 4, .inr (.inr (.inr (.inr fp)))))] := hD
      have hK : va_K D vwCl [(cp, .object "Gatherhouse$Pot")] s := hK
      refine lv_aload_n hx hb dX6_charge_14 rfl (lv_at hl 0 rfl) ?_
      refine va_getN (D := D) (cl := vwCl) (ci := 2) (v := .int (nI pm)) (C := RX2) (T := TX2) (N := 5) hx hb hts zuX6_charge_ok_X2 hown hK hP 0 rfl rfl 1 (by decide) (va_Nw.use rfl (hT.2.1 ("Gatherhouse", 106, "Gatherhouse$Pot", "mass", "I", "Gatherhouse") (by decide +kernel))) (fun _ h9 => h9) rfl dX6_charge_15 ?_
      refine lv_iload_n hx hb dX6_charge_18 rfl (lv_at hl 3 rfl) ?_
      refine lv_iadd hx hb dX6_charge_19 ?_
      refine lv_topi (fun y_383 ey_383 => ?_)
      have ey_383 : y_383 = (nI (pm + w)) := ey_383.trans (nI_add pm w)
      subst ey_383
      refine lv_iconst (v := 1) hx hb dX6_charge_20 (by decide) ?_
      refine lv_sipush (v := 1000) hx hb dX6_charge_21 (by decide) ?_
      have hFc := va_free (wc := []) hD hS hA [] rfl
      refine vx_callv (vx_runS (As := [.int (nI (pm + w)), .int 1, .int 1000]) (rest := []) ⟨hx, hb, hml, hown, hts⟩ (zc_X6_checkRange_ok l hnt D G (pm + w) 1 1000 H.size (by first | assumption | rfl | omega | exact Nat.le_trans (zS_le _ _ _) (by omega) | decide) (by first | assumption | rfl | omega | exact Nat.le_trans (zS_le _ _ _) (by omega) | decide) (by first | assumption | rfl | omega | exact Nat.le_trans (zS_le _ _ _) (by omega) | decide) (by first | assumption | rfl | omega | exact Nat.le_trans (zS_le _ _ _) (by omega) | decide) (by first | assumption | rfl | omega | exact Nat.le_trans (zS_le _ _ _) (by omega) | decide)) (cwS 3 hts gzX6_charge_ok_X6_checkRange_ok_75 rfl rfl rfl (by decide +kernel) ⟨(Nat.le_of_ble_eq_true rfl), (Nat.le_of_ble_eq_true rfl)⟩) ⟨p_RW_blind, (p_RW_at (tc := []) (wc := []) hP hK hD hS hA hT hZ [] [] rfl rfl (by decide) rfl [.int (nI (pm + w)), .int 1, .int 1000])⟩ rfl rfl hl.1 rfl (lv_room (Nat.le_of_ble_eq_true rfl)) dX6_charge_24 ⟨(Nat.le_of_ble_eq_true rfl), (Nat.le_of_ble_eq_true rfl)⟩) hS (fun q _ h => hFc q h) hFc (fun q _ h => hFc q h) (fun E ce q9 u t H locs ht hvm hpx hBX hz1 hk1 hS hce hcv hcl => ?_) (fun u t H locs ht hvm w_385 hB hz1 hk1 hS => ?_)
      · exact (show False from hBX).elim
      · obtain ⟨hP, hD, hK⟩ := q_join (D := D) (wc := []) (wr := [(pot, .inr (2, [.ref gx, .int (nI pm), .int pe, .int ps, .int pa])), (xo, .inr (6, [.ref xg, .int gc, .ref xp, .int pc, .ref xq, .int qc, .ref r1, .ref r2, .ref r3, .ref r4, .ref se, .int ts, .int hou, .int dr, .int su, .int br])), (xp, .inl (cp, 4, .inr (.inr (.inr (.inr fp)))))]) (w1 := []) (tyr := [(cp, .object "Gatherhouse$Pot")]) (ty1 := []) hP hD hK [] [0, 1, 2] [0] rfl rfl (by decide) (by decide) rfl hFc hk1 ht hvm hB
        have hP : va_P D vwCl [(pot, .inr (2, [.ref gx, .int (nI pm), .int pe, .int ps, .int pa])), (xo, .inr (6, [.ref xg, .int gc, .ref xp, .int pc, .ref xq, .int qc, .ref r1, .ref r2, .ref r3, .ref r4, .ref se, .int ts, .int hou, .int dr, .int su, .int br])), (xp, .inl (cp, 4, .inr (.inr (.inr (.inr fp)))))] H := hP
        have hD : va_D A [(pot, .inr (2, [.ref gx, .int (nI pm), .int pe, .int ps, .int pa])), (xo, .inr (6, [.ref xg, .int gc, .ref xp, .int pc, .ref xq, .int qc, .ref r1, .ref r2, .ref r3, .ref r4, .ref se, .int ts, .int hou, .int dr, .int su, .int br])), (xp, .inl (cp, 4, .inr (.inr (.inr (.inr fp)))))] := hD
        have hK : va_K D vwCl [(cp, .object "Gatherhouse$Pot")] s := hK
        refine lv_aload_n hx hb dX6_charge_27 rfl (lv_at hl 0 rfl) ?_
        refine lv_dup hx hb dX6_charge_28 rfl ?_
        refine va_getN (D := D) (cl := vwCl) (ci := 2) (v := .int (nI pm)) (C := RX2) (T := TX2) (N := 5) hx hb hts zuX6_charge_ok_X2 hown hK hP 0 rfl rfl 1 (by decide) (va_Nw.use rfl (hT.2.1 ("Gatherhouse", 106, "Gatherhouse$Pot", "mass", "I", "Gatherhouse") (by decide +kernel))) (fun _ h9 => h9) rfl dX6_charge_29 ?_
        refine lv_iload_n hx hb dX6_charge_32 rfl (lv_at hl 3 rfl) ?_
        refine lv_iadd hx hb dX6_charge_33 ?_
        refine lv_topi (fun y_386 ey_386 => ?_)
        have ey_386 : y_386 = (nI (pm + w)) := ey_386.trans (nI_add pm w)
        subst ey_386
        refine va_putN (D := D) (cl := vwCl) (ci := 2) (v := .int (nI (pm + w))) (ty := .int) (C := RX2) (T := TX2) (N := 5) hx hb hts zuX6_charge_ok_X2 tyX2 tyX2_ok nmX2 hown hK hP hD hS 0 rfl rfl 1 (by decide) (va_Nw.use rfl (hT.2.1 ("Gatherhouse", 106, "Gatherhouse$Pot", "mass", "I", "Gatherhouse") (by decide +kernel))) (fun _ h9 => h9) rfl (by decide +kernel) rfl rfl (Nat.le_of_ble_eq_true rfl) dX6_charge_34 (fun H locs hP hD hS => ?_)
        have hP : va_P D vwCl [(pot, .inr (2, [.ref gx, .int (nI (pm + w)), .int pe, .int ps, .int pa])), (xo, .inr (6, [.ref xg, .int gc, .ref xp, .int pc, .ref xq, .int qc, .ref r1, .ref r2, .ref r3, .ref r4, .ref se, .int ts, .int hou, .int dr, .int su, .int br])), (xp, .inl (cp, 4, .inr (.inr (.inr (.inr fp)))))] H := hP
        have hD : va_D A [(pot, .inr (2, [.ref gx, .int (nI (pm + w)), .int pe, .int ps, .int pa])), (xo, .inr (6, [.ref xg, .int gc, .ref xp, .int pc, .ref xq, .int qc, .ref r1, .ref r2, .ref r3, .ref r4, .ref se, .int ts, .int hou, .int dr, .int su, .int br])), (xp, .inl (cp, 4, .inr (.inr (.inr (.inr fp)))))] := hD
        refine lv_aload_n hx hb dX6_charge_37 rfl (lv_at hl 0 rfl) ?_
        refine lv_bipush (v := 30) hx hb dX6_charge_38 (by decide) ?_
        refine va_putN (D := D) (cl := vwCl) (ci := 2) (v := .int 30) (ty := .int) (C := RX2) (T := TX2) (N := 5) hx hb hts zuX6_charge_ok_X2 tyX2 tyX2_ok nmX2 hown hK hP hD hS 0 rfl rfl 2 (by decide) (va_Nw.use rfl (hT.2.1 ("Gatherhouse", 109, "Gatherhouse$Pot", "seeds", "I", "Gatherhouse") (by decide +kernel))) (fun _ h9 => h9) rfl (by decide +kernel) rfl rfl (Nat.le_of_ble_eq_true rfl) dX6_charge_40 (fun H locs hP hD hS => ?_)
        have hP : va_P D vwCl [(pot, .inr (2, [.ref gx, .int (nI (pm + w)), .int 30, .int ps, .int pa])), (xo, .inr (6, [.ref xg, .int gc, .ref xp, .int pc, .ref xq, .int qc, .ref r1, .ref r2, .ref r3, .ref r4, .ref se, .int ts, .int hou, .int dr, .int su, .int br])), (xp, .inl (cp, 4, .inr (.inr (.inr (.inr fp)))))] H := hP
        have hD : va_D A [(pot, .inr (2, [.ref gx, .int (nI (pm + w)), .int 30, .int ps, .int pa])), (xo, .inr (6, [.ref xg, .int gc, .ref xp, .int pc, .ref xq, .int qc, .ref r1, .ref r2, .ref r3, .ref r4, .ref se, .int ts, .int hou, .int dr, .int su, .int br])), (xp, .inl (cp, 4, .inr (.inr (.inr (.inr fp)))))] := hD
        refine lv_aload_n hx hb dX6_charge_43 rfl (lv_at hl 0 rfl) ?_
        refine va_getN (D := D) (cl := vwCl) (ci := 2) (v := .int (nI (pm + w))) (C := RX2) (T := TX2) (N := 5) hx hb hts zuX6_charge_ok_X2 hown hK hP 0 rfl rfl 1 (by decide) (va_Nw.use rfl (hT.2.1 ("Gatherhouse", 106, "Gatherhouse$Pot", "mass", "I", "Gatherhouse") (by decide +kernel))) (fun _ h9 => h9) rfl dX6_charge_44 ?_
        refine vx_ret ?_
        exact W.iret (v := (nI (pm + w))) hx hb hr (fun t ht hW => ⟨⟨(nI (pm + w)), (), rfl, rfl, q_RW_mk hP hK hD [1, 2, 0] [0] rfl rfl (by decide) rfl ht hW.alike⟩, hS.F ht⟩) hS.2.2 dX6_charge_47
def wzEX6_charge_bad : List Cond := [.code yX6_charge cX6_charge 4 (some .int), .methodLink RX6 102 yX6_findPot, .instanceMethod yX6_findPot, .selects RX6 yX6_findPot yX6_findPot, .initialized RX6, .code yX6_findPot cX6_findPot 3 (some (.object "Gatherhouse$Pot")), .fieldLink RX6 21 "Gatherhouse" "pots" "[LGatherhouse$Pot;", .methodLink RX6 75 yX6_checkRange, .static yX6_checkRange, .code yX6_checkRange cX6_checkRange 3 none, .classLink RX6 118 "java/lang/IllegalArgumentException", .initialized "java/lang/IllegalArgumentException"]
def wzX6_charge_bad : List Cond := wzEX6_charge_bad ++ (u_ws RX6 TX6 16 ++ (u_ws RX2 TX2 5 ++ ((vx_atS RX6 122 "java/lang/IllegalArgumentException" ["java/lang/RuntimeException", "java/lang/Exception"]).filter goodWord)))
theorem zgEX6_charge_bad : wzEX6_charge_bad.all goodWord = true := by decide +kernel
theorem zuX6_charge_bad_X6 : ∀ w ∈ u_ws RX6 TX6 16, w ∈ wzX6_charge_bad := (fun _ h => (List.mem_append_right _ (List.mem_append_left _ h)))
theorem zuX6_charge_bad_X2 : ∀ w ∈ u_ws RX2 TX2 5, w ∈ wzX6_charge_bad := (fun _ h => (List.mem_append_right _ (List.mem_append_right _ (List.mem_append_left _ h))))
theorem ztX6_charge_bad_X6_122 : ∀ w ∈ (vx_atS RX6 122 "java/lang/IllegalArgumentException" ["java/lang/RuntimeException", "java/lang/Exception"]).filter goodWord, w ∈ wzX6_charge_bad := (fun _ h => (List.mem_append_right _ (List.mem_append_right _ (List.mem_append_right _ h))))
theorem gzX6_charge_bad_X6_findPot_ok_102 : GoodIn wzX6_charge_bad (wsV RX6 102 RX6 yX6_findPot wzX6_findPot_ok) := (goodIn_app (z_lift (goodIn_r _ [1, 2, 3, 4] rfl (by decide +kernel))) (goodIn_app (z_lift (goodIn_r wzEX6_findPot_ok [5, 6] rfl zgEX6_findPot_ok)) (goodIn_sub (fun _ h => (List.mem_append_right _ (List.mem_append_left _ h))) zgU_X6)))
theorem gzX6_charge_bad_X6_checkRange_ok_75 : GoodIn wzX6_charge_bad (va_wsS RX6 75 yX6_checkRange wzX6_checkRange_ok) := (goodIn_app (z_lift (goodIn_r _ [7, 8, 4] rfl (by decide +kernel))) (goodIn_app (z_lift (goodIn_r wzEX6_checkRange_ok [9] rfl zgEX6_checkRange_ok)) z_gnil))
theorem gzX6_charge_bad_X6_checkRange_hi_75 : GoodIn wzX6_charge_bad (va_wsS RX6 75 yX6_checkRange wzX6_checkRange_hi) := (goodIn_app (z_lift (goodIn_r _ [7, 8, 4] rfl (by decide +kernel))) (goodIn_app (z_lift (goodIn_r wzEX6_checkRange_hi [9, 10, 11] rfl zgEX6_checkRange_hi)) (goodIn_sub (fun _ h => (List.mem_append_right _ (List.mem_append_right _ (List.mem_append_right _ h)))) zgV_X6_122)))
set_option maxHeartbeats 4000000 in
set_option maxRecDepth 100000 in
theorem zc_X6_charge_bad (l : Launch) (hnt : l.stackTraces = false) (D : va_G) (G : Nat × Nat × (Nat → Int32)) (xo : Nat) (k : Nat) (w : Nat) (xg : Nat) (gc : Int32) (xp : Nat) (pc : Int32) (xq : Nat) (qc : Int32) (r1 : Nat) (r2 : Nat) (r3 : Nat) (r4 : Nat) (se : Nat) (ts : Int32) (hou : Int32) (dr : Int32) (su : Int32) (br : Int32) (cp : ClassId) (fp : Nat → Option Nat) (pot : Nat) (gx : Nat) (pm : Nat) (pe : Int32) (ps : Int32) (pa : Int32) (sz : Nat) (h9f : fp k = some pot) (g1 : 1000 < pm + w) (hh_k : k ≤ 3) (hl_w : 1 ≤ w) (hh_w : w ≤ 500) (hh_pm : pm ≤ 1000) : vx_Met l yX6_charge wzX6_charge_bad ({ frames := 7, cells := 1, slots := 6, locals := 104 }) (va_Pc [.ref xo, .int (nI k), .int (nI w)] (p_RW D G [(cp, .object "Gatherhouse$Pot")] [(xo, .inr (6, [.ref xg, .int gc, .ref xp, .int pc, .ref xq, .int qc, .ref r1, .ref r2, .ref r3, .ref r4, .ref se, .int ts, .int hou, .int dr, .int su, .int br])), (xp, .inl (cp, 4, .inr (.inr (.inr (.inr fp))))), (pot, .inr (2, [.ref gx, .int (nI pm), .int pe, .int ps, .int pa]))] sz)) (va_Qi (fun (r : Int32) (u : Unit) => False) (fun (u : Unit) (t : State) => q_RW D [(cp, .object "Gatherhouse$Pot")] [(xo, .inr (6, [.ref xg, .int gc, .ref xp, .int pc, .ref xq, .int qc, .ref r1, .ref r2, .ref r3, .ref r4, .ref se, .int ts, .int hou, .int dr, .int su, .int br])), (xp, .inl (cp, 4, .inr (.inr (.inr (.inr fp))))), (pot, .inr (2, [.ref gx, .int (nI pm), .int pe, .int ps, .int pa]))] (va_A [(xo, .inr (6, [.ref xg, .int gc, .ref xp, .int pc, .ref xq, .int qc, .ref r1, .ref r2, .ref r3, .ref r4, .ref se, .int ts, .int hou, .int dr, .int su, .int br])), (xp, .inl (cp, 4, .inr (.inr (.inr (.inr fp))))), (pot, .inr (2, [.ref gx, .int (nI pm), .int pe, .int ps, .int pa]))] sz) t) (va_A [(xo, .inr (6, [.ref xg, .int gc, .ref xp, .int pc, .ref xq, .int qc, .ref r1, .ref r2, .ref r3, .ref r4, .ref se, .int ts, .int hou, .int dr, .int su, .int br])), (xp, .inl (cp, 4, .inr (.inr (.inr (.inr fp))))), (pot, .inr (2, [.ref gx, .int (nI pm), .int pe, .int ps, .int pa]))] sz)) (vx_X (fun (_ : Unit) => True) (fun E (_ : Unit) (t : State) => ((E = "java/lang/IllegalArgumentException")) ∧ q_RW D [(cp, .object "Gatherhouse$Pot")] [(xo, .inr (6, [.ref xg, .int gc, .ref xp, .int pc, .ref xq, .int qc, .ref r1, .ref r2, .ref r3, .ref r4, .ref se, .int ts, .int hou, .int dr, .int su, .int br])), (xp, .inl (cp, 4, .inr (.inr (.inr (.inr fp))))), (pot, .inr (2, [.ref gx, .int (nI pm), .int pe, .int ps, .int pa]))] (va_A [(xo, .inr (6, [.ref xg, .int gc, .ref xp, .int pc, .ref xq, .int qc, .ref r1, .ref r2, .ref r3, .ref r4, .ref se, .int ts, .int hou, .int dr, .int su, .int br])), (xp, .inl (cp, 4, .inr (.inr (.inr (.inr fp))))), (pot, .inr (2, [.ref gx, .int (nI pm), .int pe, .int ps, .int pa]))] sz) t) (va_A [(xo, .inr (6, [.ref xg, .int gc, .ref xp, .int pc, .ref xq, .int qc, .ref r1, .ref r2, .ref r3, .ref r4, .ref se, .int ts, .int hou, .int dr, .int su, .int br])), (xp, .inl (cp, 4, .inr (.inr (.inr (.inr fp))))), (pot, .inr (2, [.ref gx, .int (nI pm), .int pe, .int ps, .int pa]))] sz)) 1 6 (va_A [(xo, .inr (6, [.ref xg, .int gc, .ref xp, .int pc, .ref xq, .int qc, .ref r1, .ref r2, .ref r3, .ref r4, .ref se, .int ts, .int hou, .int dr, .int su, .int br])), (xp, .inl (cp, 4, .inr (.inr (.inr (.inr fp))))), (pot, .inr (2, [.ref gx, .int (nI pm), .int pe, .int ps, .int pa]))] sz) := by
  refine vx_ofW (cc := cX6_charge) (maxL := 4) (ret := (some .int)) (by decide) rfl ?_
  intro p e s m args below meth c s₁ B hml hxt hv
  obtain ⟨rfl, hsz, hP, hK, hD0, hT, hZ⟩ := hv
  have hx := B.exec
  have hb := B.bytes
  have hr := B.returns
  have hts := atoms_spec (ws := wzX6_charge_bad) B.pre
  have hown : s.vm.findClass RX6 = some m.cls := findClass_of_methodNamed B.named
  have hlocks := B.notSynchronized
  subst hsz
  have hD := hD0.self (sz := s.heap.size)
  generalize hAe : va_A [(xo, .inr (6, [.ref xg, .int gc, .ref xp, .int pc, .ref xq, .int qc, .ref r1, .ref r2, .ref r3, .ref r4, .ref se, .int ts, .int hou, .int dr, .int su, .int br])), (xp, .inl (cp, 4, .inr (.inr (.inr (.inr fp))))), (pot, .inr (2, [.ref gx, .int (nI pm), .int pe, .int ps, .int pa]))] s.heap.size = A at hD hZ ⊢
  have hA : ∀ q : Nat, s.heap.size ≤ q → A q := fun q h => by rw [← hAe]; exact Or.inr h
  have hS : va_S A s.heap s.heap [] := va_S.rf
  have hl := lv_entry ([.ref xo, .int (nI k), .int (nI w)]) (n := 4) (Nat.le_of_ble_eq_true rfl)
  rw [lg_entry_eq]
  generalize (lg_sl ([.ref xo, .int (nI k), .int (nI w)]) ++ List.replicate (4 - (lg_sl ([.ref xo, .int (nI k), .int (nI w)])).length) Slot.unset).toArray = ls at hl ⊢
  have hl : lv_has ls 4 [(0, .ref xo), (1, .int (nI k)), (2, .int (nI w))] := hl
  refine lv_aload_n hx hb dX6_charge_0 rfl (lv_at hl 0 rfl) ?_
  refine lv_iload_n hx hb dX6_charge_1 rfl (lv_at hl 1 rfl) ?_
  have hFc := va_free (wc := [(xo, .inr (6, [.ref xg, .int gc, .ref xp, .int pc, .ref xq, .int qc, .ref r1, .ref r2, .ref r3, .ref r4, .ref se, .int ts, .int hou, .int dr, .int su, .int br])), (xp, .inl (cp, 4, .inr (.inr (.inr (.inr fp)))))]) hD hS hA [0, 1] rfl
  refine vx_callq (vx_runV (As := [.int (nI k)]) (rest := []) ⟨hx, hb, hml, hown, hts⟩ (zc_X6_findPot_ok l hnt D G xo k xg gc xp pc xq qc r1 r2 r3 r4 se ts hou dr su br cp fp pot s.heap.size (by first | assumption | rfl | omega | exact Nat.le_trans (zS_le _ _ _) (by omega) | decide) (by first | assumption | rfl | omega | exact Nat.le_trans (zS_le _ _ _) (by omega) | decide)) (cwV 1 hts gzX6_charge_bad_X6_findPot_ok_102 rfl rfl rfl (by decide +kernel) ⟨(Nat.le_of_ble_eq_true rfl), (Nat.le_of_ble_eq_true rfl)⟩) ⟨p_RW_blind, va_recv hK hP (ci := 6) (q0 := 0) rfl rfl, (p_RW_at (tc := [(cp, .object "Gatherhouse$Pot")]) (wc := [(xo, .inr (6, [.ref xg, .int gc, .ref xp, .int pc, .ref xq, .int qc, .ref r1, .ref r2, .ref r3, .ref r4, .ref se, .int ts, .int hou, .int dr, .int su, .int br])), (xp, .inl (cp, 4, .inr (.inr (.inr (.inr fp)))))]) hP hK hD hS hA hT hZ [0, 1] [0] rfl rfl (by decide) rfl [.ref xo, .int (nI k)])⟩ rfl rfl hl.1 rfl (lv_room (Nat.le_of_ble_eq_true rfl)) dX6_charge_2 ⟨(Nat.le_of_ble_eq_true rfl), (Nat.le_of_ble_eq_true rfl)⟩) hS (fun q _ h => hFc q h) hFc (fun q _ h => hFc q h) (fun E ce q9 u t H locs ht hvm hpx hBX hz1 hk1 hS hce hcv hcl => ?_) (fun r_387 u t H locs ht hvm w_388 hB hz1 hk1 hS => ?_)
  · exact (show False from hBX).elim
  · obtain ⟨hP, hD, hK⟩ := q_join (D := D) (wc := [(xo, .inr (6, [.ref xg, .int gc, .ref xp, .int pc, .ref xq, .int qc, .ref r1, .ref r2, .ref r3, .ref r4, .ref se, .int ts, .int hou, .int dr, .int su, .int br])), (xp, .inl (cp, 4, .inr (.inr (.inr (.inr fp)))))]) (wr := [(pot, .inr (2, [.ref gx, .int (nI pm), .int pe, .int ps, .int pa]))]) (w1 := [(xo, .inr (6, [.ref xg, .int gc, .ref xp, .int pc, .ref xq, .int qc, .ref r1, .ref r2, .ref r3, .ref r4, .ref se, .int ts, .int hou, .int dr, .int su, .int br])), (xp, .inl (cp, 4, .inr (.inr (.inr (.inr fp)))))]) (tyr := []) (ty1 := [(cp, .object "Gatherhouse$Pot")]) hP hD hK [0, 1] [2] [] rfl rfl (by decide) (by decide) rfl hFc hk1 ht hvm hB
    have hP : va_P D vwCl [(pot, .inr (2, [.ref gx, .int (nI pm), .int pe, .int ps, .int pa])), (xo, .inr (6, [.ref xg, .int gc, .ref xp, .int pc, .ref xq, .int qc, .ref r1, .ref r2, .ref r3, .ref r4, .ref se, .int ts, .int hou, .int dr, .int su, .int br])), (xp, .inl (cp, 4, .inr (.inr (.inr (.inr fp)))))] H := hP
    have hD : va_D A [(pot, .inr (2, [.ref gx, .int (nI pm), .int pe, .int ps, .int pa])), (xo, .inr (6, [.ref xg, .int gc, .ref xp, .int pc, .ref xq, .int qc, .ref r1, .ref r2, .ref r3, .ref r4, .ref se, .int ts, .int hou, .int dr, .int su, .int br])), (xp, .inl (cp, 4, .inr (.inr (.inr (.inr fp)))))] := hD
    have hK : va_K D vwCl [(cp, .object "Gatherhouse$Pot")] s := hK
    obtain rfl := w_388
    refine W.eq (g2 := F0 m 5 ls [.ref pot]) rfl ?_
    refine lv_astore_n (lv' := [(3, .ref pot), (0, .ref xo), (1, .int (nI k)), (2, .int (nI w))]) hx hb dX6_charge_5 rfl hl (by decide) rfl (fun ls hl => ?_)
    refine lv_iload_n hx hb dX6_charge_6 rfl (lv_at hl 3 rfl) ?_
    refine lv_iconst (v := 1) hx hb dX6_charge_7 (by decide) ?_
    refine lv_sipush (v := 500) hx hb dX6_charge_8 (by decide) ?_
    have hFc := va_free (wc := []) hD hS hA [] rfl
    refine vx_callv (vx_runS (As := [.int (nI w), .int 1, .int 500]) (rest := []) ⟨hx, hb, hml, hown, hts⟩ (zc_X6_checkRange_ok l hnt D G w 1 500 H.size (by first | assumption | rfl | omega | exact Nat.le_trans (zS_le _ _ _) (by omega) | decide) (by first | assumption | rfl | omega | exact Nat.le_trans (zS_le _ _ _) (by omega) | decide) (by first | assumption | rfl | omega | exact Nat.le_trans (zS_le _ _ _) (by omega) | decide) (by first | assumption | rfl | omega | exact Nat.le_trans (zS_le _ _ _) (by omega) | decide) (by first | assumption | rfl | omega | exact Nat.le_trans (zS_le _ _ _) (by omega) | decide)) (cwS 3 hts gzX6_charge_bad_X6_checkRange_ok_75 rfl rfl rfl (by decide +kernel) ⟨(Nat.le_of_ble_eq_true rfl), (Nat.le_of_ble_eq_true rfl)⟩) ⟨p_RW_blind, (p_RW_at (tc := []) (wc := []) hP hK hD hS hA hT hZ [] [] rfl rfl (by decide) rfl [.int (nI w), .int 1, .int 500])⟩ rfl rfl hl.1 rfl (lv_room (Nat.le_of_ble_eq_true rfl)) dX6_charge_11 ⟨(Nat.le_of_ble_eq_true rfl), (Nat.le_of_ble_eq_true rfl)⟩) hS (fun q _ h => hFc q h) hFc (fun q _ h => hFc q h) (fun E ce q9 u t H locs ht hvm hpx hBX hz1 hk1 hS hce hcv hcl => ?_) (fun u t H locs ht hvm w_390 hB hz1 hk1 hS => ?_)
    · exact (show False from hBX).elim
    · obtain ⟨hP, hD, hK⟩ := q_join (D := D) (wc := []) (wr := [(pot, .inr (2, [.ref gx, .int (nI pm), .int pe, .int ps, .int pa])), (xo, .inr (6, [.ref xg, .int gc, .ref xp, .int pc, .ref xq, .int qc, .ref r1, .ref r2, .ref r3, .ref r4, .ref se, .int ts, .int hou, .int dr, .int su, .int br])), (xp, .inl (cp, 4, .inr (.inr (.inr (.inr fp)))))]) (w1 := []) (tyr := [(cp, .object "Gatherhouse$Pot")]) (ty1 := []) hP hD hK [] [0, 1, 2] [0] rfl rfl (by decide) (by decide) rfl hFc hk1 ht hvm hB
      have hP : va_P D vwCl [(pot, .inr (2, [.ref gx, .int (nI pm), .int pe, .int ps, .int pa])), (xo, .inr (6, [.ref xg, .int gc, .ref xp, .int pc, .ref xq, .int qc, .ref r1, .ref r2, .ref r3, .ref r4, .ref se, .int ts, .int hou, .int dr, .int su, .int br])), (xp, .inl (cp, 4, .inr (.inr (.inr (.inr fp)))))] H := hP
      have hD : va_D A [(pot, .inr (2, [.ref gx, .int (nI pm), .int pe, .int ps, .int pa])), (xo, .inr (6, [.ref xg, .int gc, .ref xp, .int pc, .ref xq, .int qc, .ref r1, .ref r2, .ref r3, .ref r4, .ref se, .int ts, .int hou, .int dr, .int su, .int br])), (xp, .inl (cp, 4, .inr (.inr (.inr (.inr fp)))))] := hD
      have hK : va_K D vwCl [(cp, .object "Gatherhouse$Pot")] s := hK
      refine lv_aload_n hx hb dX6_charge_14 rfl (lv_at hl 0 rfl) ?_
      refine va_getN (D := D) (cl := vwCl) (ci := 2) (v := .int (nI pm)) (C := RX2) (T := TX2) (N := 5) hx hb hts zuX6_charge_bad_X2 hown hK hP 0 rfl rfl 1 (by decide) (va_Nw.use rfl (hT.2.1 ("Gatherhouse", 106, "Gatherhouse$Pot", "mass", "I", "Gatherhouse") (by decide +kernel))) (fun _ h9 => h9) rfl dX6_charge_15 ?_
      refine lv_iload_n hx hb dX6_charge_18 rfl (lv_at hl 3 rfl) ?_
      refine lv_iadd hx hb dX6_charge_19 ?_
      refine lv_topi (fun y_391 ey_391 => ?_)
      have ey_391 : y_391 = (nI (pm + w)) := ey_391.trans (nI_add pm w)
      subst ey_391
      refine lv_iconst (v := 1) hx hb dX6_charge_20 (by decide) ?_
      refine lv_sipush (v := 1000) hx hb dX6_charge_21 (by decide) ?_
      have hFc := va_free (wc := []) hD hS hA [] rfl
      refine vx_callv (vx_runS (As := [.int (nI (pm + w)), .int 1, .int 1000]) (rest := []) ⟨hx, hb, hml, hown, hts⟩ (zc_X6_checkRange_hi l hnt D G (pm + w) 1 1000 H.size (by first | assumption | rfl | omega | exact Nat.le_trans (zS_le _ _ _) (by omega) | decide) (by first | assumption | rfl | omega | exact Nat.le_trans (zS_le _ _ _) (by omega) | decide) (by first | assumption | rfl | omega | exact Nat.le_trans (zS_le _ _ _) (by omega) | decide) (by first | assumption | rfl | omega | exact Nat.le_trans (zS_le _ _ _) (by omega) | decide) (by first | assumption | rfl | omega | exact Nat.le_trans (zS_le _ _ _) (by omega) | decide)) (cwS 3 hts gzX6_charge_bad_X6_checkRange_hi_75 rfl rfl rfl (by decide +kernel) ⟨(Nat.le_of_ble_eq_true rfl), (Nat.le_of_ble_eq_true rfl)⟩) ⟨p_RW_blind, (p_RW_at (tc := []) (wc := []) hP hK hD hS hA hT hZ [] [] rfl rfl (by decide) rfl [.int (nI (pm + w)), .int 1, .int 1000])⟩ rfl rfl hl.1 rfl (lv_room (Nat.le_of_ble_eq_true rfl)) dX6_charge_24 ⟨(Nat.le_of_ble_eq_true rfl), (Nat.le_of_ble_eq_true rfl)⟩) hS (fun q _ h => hFc q h) hFc (fun q _ h => hFc q h) (fun E ce q9 u t H locs ht hvm hpx hBX hz1 hk1 hS hce hcv hcl => ?_) (fun u t H locs ht hvm w_393 hB hz1 hk1 hS => ?_)
      · obtain ⟨hP, hD, hK⟩ := q_join (D := D) (wc := []) (wr := [(pot, .inr (2, [.ref gx, .int (nI pm), .int pe, .int ps, .int pa])), (xo, .inr (6, [.ref xg, .int gc, .ref xp, .int pc, .ref xq, .int qc, .ref r1, .ref r2, .ref r3, .ref r4, .ref se, .int ts, .int hou, .int dr, .int su, .int br])), (xp, .inl (cp, 4, .inr (.inr (.inr (.inr fp)))))]) (w1 := []) (tyr := [(cp, .object "Gatherhouse$Pot")]) (ty1 := []) hP hD hK [] [0, 1, 2] [0] rfl rfl (by decide) (by decide) rfl hFc hk1 ht hvm (q_none hK hvm)
        have hP : va_P D vwCl [(pot, .inr (2, [.ref gx, .int (nI pm), .int pe, .int ps, .int pa])), (xo, .inr (6, [.ref xg, .int gc, .ref xp, .int pc, .ref xq, .int qc, .ref r1, .ref r2, .ref r3, .ref r4, .ref se, .int ts, .int hou, .int dr, .int su, .int br])), (xp, .inl (cp, 4, .inr (.inr (.inr (.inr fp)))))] H := hP
        have hD : va_D A [(pot, .inr (2, [.ref gx, .int (nI pm), .int pe, .int ps, .int pa])), (xo, .inr (6, [.ref xg, .int gc, .ref xp, .int pc, .ref xq, .int qc, .ref r1, .ref r2, .ref r3, .ref r4, .ref se, .int ts, .int hou, .int dr, .int su, .int br])), (xp, .inl (cp, 4, .inr (.inr (.inr (.inr fp)))))] := hD
        have hK : va_K D vwCl [(cp, .object "Gatherhouse$Pot")] s := hK
        have hBX : (E = "java/lang/IllegalArgumentException") := hBX
        rcases hBX with rfl
        exact vx_out (fun x h => (hxt x h).elim) hlocks hce hcv hcl (fun t ht hW9 => ⟨(), trivial, ⟨rfl, q_RW_mk hP hK hD [1, 2, 0] [0] rfl rfl (by decide) rfl ht hW9⟩, hS.F ht⟩) hS.2.2 (Nat.le_of_ble_eq_true rfl) (Nat.le_of_ble_eq_true rfl)
      · exact w_393.elim
theorem dX6_change_5 : decode cX6_change 5 = .ok (.astore_n 2, 1) := by decide +kernel
theorem dX6_change_6 : decode cX6_change 6 = .ok (.aload_n 2, 1) := by decide +kernel
theorem dX6_change_7 : decode cX6_change 7 = .ok (.getfield 106, 3) := by decide +kernel
theorem dX6_change_10 : decode cX6_change 10 = .ok (.istore_n 3, 1) := by decide +kernel
theorem dX6_change_11 : decode cX6_change 11 = .ok (.aload_n 2, 1) := by decide +kernel
theorem dX6_change_12 : decode cX6_change 12 = .ok (.iconst 0, 1) := by decide +kernel
theorem dX6_change_13 : decode cX6_change 13 = .ok (.putfield 106, 3) := by decide +kernel
theorem dX6_change_16 : decode cX6_change 16 = .ok (.aload_n 2, 1) := by decide +kernel
theorem dX6_change_17 : decode cX6_change 17 = .ok (.iconst 0, 1) := by decide +kernel
theorem dX6_change_18 : decode cX6_change 18 = .ok (.putfield 112, 3) := by decide +kernel
theorem dX6_change_21 : decode cX6_change 21 = .ok (.aload_n 2, 1) := by decide +kernel
theorem dX6_change_22 : decode cX6_change 22 = .ok (.iconst 0, 1) := by decide +kernel
theorem dX6_change_23 : decode cX6_change 23 = .ok (.putfield 115, 3) := by decide +kernel
theorem dX6_change_26 : decode cX6_change 26 = .ok (.iload_n 3, 1) := by decide +kernel
theorem dX6_change_27 : decode cX6_change 27 = .ok (.ireturn, 1) := by decide +kernel
def wzEX6_change_ok : List Cond := [.code yX6_change cX6_change 4 (some .int), .methodLink RX6 102 yX6_findPot, .instanceMethod yX6_findPot, .selects RX6 yX6_findPot yX6_findPot, .initialized RX6, .code yX6_findPot cX6_findPot 3 (some (.object "Gatherhouse$Pot")), .fieldLink RX6 21 "Gatherhouse" "pots" "[LGatherhouse$Pot;"]
def wzX6_change_ok : List Cond := wzEX6_change_ok ++ (u_ws RX6 TX6 16 ++ (u_ws RX2 TX2 5))
theorem zgEX6_change_ok : wzEX6_change_ok.all goodWord = true := by decide +kernel
theorem zuX6_change_ok_X6 : ∀ w ∈ u_ws RX6 TX6 16, w ∈ wzX6_change_ok := (fun _ h => (List.mem_append_right _ (List.mem_append_left _ h)))
theorem zuX6_change_ok_X2 : ∀ w ∈ u_ws RX2 TX2 5, w ∈ wzX6_change_ok := (fun _ h => (List.mem_append_right _ (List.mem_append_right _ h)))
theorem gzX6_change_ok_X6_findPot_ok_102 : GoodIn wzX6_change_ok (wsV RX6 102 RX6 yX6_findPot wzX6_findPot_ok) := (goodIn_app (z_lift (goodIn_r _ [1, 2, 3, 4] rfl (by decide +kernel))) (goodIn_app (z_lift (goodIn_r wzEX6_findPot_ok [5, 6] rfl zgEX6_findPot_ok)) (goodIn_sub (fun _ h => (List.mem_append_right _ (List.mem_append_left _ h))) zgU_X6)))
set_option maxHeartbeats 4000000 in
set_option maxRecDepth 100000 in
theorem zc_X6_change_ok (l : Launch) (hnt : l.stackTraces = false) (D : va_G) (G : Nat × Nat × (Nat → Int32)) (xo : Nat) (k : Nat) (xg : Nat) (gc : Int32) (xp : Nat) (pc : Int32) (xq : Nat) (qc : Int32) (r1 : Nat) (r2 : Nat) (r3 : Nat) (r4 : Nat) (se : Nat) (ts : Int32) (hou : Int32) (dr : Int32) (su : Int32) (br : Int32) (cp : ClassId) (fp : Nat → Option Nat) (pot : Nat) (gx : Nat) (pm : Int32) (pe : Int32) (ps : Int32) (pa : Int32) (sz : Nat) (h9f : fp k = some pot) (hh_k : k ≤ 3) : vx_Met l yX6_change wzX6_change_ok ({ frames := 1, cells := 0, slots := 0, locals := 22 }) (va_Pc [.ref xo, .int (nI k)] (p_RW D G [(cp, .object "Gatherhouse$Pot")] [(xo, .inr (6, [.ref xg, .int gc, .ref xp, .int pc, .ref xq, .int qc, .ref r1, .ref r2, .ref r3, .ref r4, .ref se, .int ts, .int hou, .int dr, .int su, .int br])), (xp, .inl (cp, 4, .inr (.inr (.inr (.inr fp))))), (pot, .inr (2, [.ref gx, .int pm, .int pe, .int ps, .int pa]))] sz)) (va_Qi (fun (r : Int32) (u : Unit) => r = pm) (fun (u : Unit) (t : State) => q_RW D [(cp, .object "Gatherhouse$Pot")] [(xo, .inr (6, [.ref xg, .int gc, .ref xp, .int pc, .ref xq, .int qc, .ref r1, .ref r2, .ref r3, .ref r4, .ref se, .int ts, .int hou, .int dr, .int su, .int br])), (xp, .inl (cp, 4, .inr (.inr (.inr (.inr fp))))), (pot, .inr (2, [.ref gx, .int 0, .int pe, .int 0, .int 0]))] (va_A [(xo, .inr (6, [.ref xg, .int gc, .ref xp, .int pc, .ref xq, .int qc, .ref r1, .ref r2, .ref r3, .ref r4, .ref se, .int ts, .int hou, .int dr, .int su, .int br])), (xp, .inl (cp, 4, .inr (.inr (.inr (.inr fp))))), (pot, .inr (2, [.ref gx, .int pm, .int pe, .int ps, .int pa]))] sz) t) (va_A [(xo, .inr (6, [.ref xg, .int gc, .ref xp, .int pc, .ref xq, .int qc, .ref r1, .ref r2, .ref r3, .ref r4, .ref se, .int ts, .int hou, .int dr, .int su, .int br])), (xp, .inl (cp, 4, .inr (.inr (.inr (.inr fp))))), (pot, .inr (2, [.ref gx, .int pm, .int pe, .int ps, .int pa]))] sz)) (vx_X (fun (_ : Unit) => True) (fun E (_ : Unit) (_ : State) => False) (va_A [(xo, .inr (6, [.ref xg, .int gc, .ref xp, .int pc, .ref xq, .int qc, .ref r1, .ref r2, .ref r3, .ref r4, .ref se, .int ts, .int hou, .int dr, .int su, .int br])), (xp, .inl (cp, 4, .inr (.inr (.inr (.inr fp))))), (pot, .inr (2, [.ref gx, .int pm, .int pe, .int ps, .int pa]))] sz)) 0 0 (va_A [(xo, .inr (6, [.ref xg, .int gc, .ref xp, .int pc, .ref xq, .int qc, .ref r1, .ref r2, .ref r3, .ref r4, .ref se, .int ts, .int hou, .int dr, .int su, .int br])), (xp, .inl (cp, 4, .inr (.inr (.inr (.inr fp))))), (pot, .inr (2, [.ref gx, .int pm, .int pe, .int ps, .int pa]))] sz) := by
  refine vx_ofW (cc := cX6_change) (maxL := 4) (ret := (some .int)) (by decide) rfl ?_
  intro p e s m args below meth c s₁ B hml hxt hv
  obtain ⟨rfl, hsz, hP, hK, hD0, hT, hZ⟩ := hv
  have hx := B.exec
  have hb := B.bytes
  have hr := B.returns
  have hts := atoms_spec (ws := wzX6_change_ok) B.pre
  have hown : s.vm.findClass RX6 = some m.cls := findClass_of_methodNamed B.named
  have hlocks := B.notSynchronized
  subst hsz
  have hD := hD0.self (sz := s.heap.size)
  generalize hAe : va_A [(xo, .inr (6, [.ref xg, .int gc, .ref xp, .int pc, .ref xq, .int qc, .ref r1, .ref r2, .ref r3, .ref r4, .ref se, .int ts, .int hou, .int dr, .int su, .int br])), (xp, .inl (cp, 4, .inr (.inr (.inr (.inr fp))))), (pot, .inr (2, [.ref gx, .int pm, .int pe, .int ps, .int pa]))] s.heap.size = A at hD hZ ⊢
  have hA : ∀ q : Nat, s.heap.size ≤ q → A q := fun q h => by rw [← hAe]; exact Or.inr h
  have hS : va_S A s.heap s.heap [] := va_S.rf
  have hl := lv_entry ([.ref xo, .int (nI k)]) (n := 4) (Nat.le_of_ble_eq_true rfl)
  rw [lg_entry_eq]
  generalize (lg_sl ([.ref xo, .int (nI k)]) ++ List.replicate (4 - (lg_sl ([.ref xo, .int (nI k)])).length) Slot.unset).toArray = ls at hl ⊢
  have hl : lv_has ls 4 [(0, .ref xo), (1, .int (nI k))] := hl
  refine lv_aload_n hx hb dX6_change_0 rfl (lv_at hl 0 rfl) ?_
  refine lv_iload_n hx hb dX6_change_1 rfl (lv_at hl 1 rfl) ?_
  have hFc := va_free (wc := [(xo, .inr (6, [.ref xg, .int gc, .ref xp, .int pc, .ref xq, .int qc, .ref r1, .ref r2, .ref r3, .ref r4, .ref se, .int ts, .int hou, .int dr, .int su, .int br])), (xp, .inl (cp, 4, .inr (.inr (.inr (.inr fp)))))]) hD hS hA [0, 1] rfl
  refine vx_callq (vx_runV (As := [.int (nI k)]) (rest := []) ⟨hx, hb, hml, hown, hts⟩ (zc_X6_findPot_ok l hnt D G xo k xg gc xp pc xq qc r1 r2 r3 r4 se ts hou dr su br cp fp pot s.heap.size (by first | assumption | rfl | omega | exact Nat.le_trans (zS_le _ _ _) (by omega) | decide) (by first | assumption | rfl | omega | exact Nat.le_trans (zS_le _ _ _) (by omega) | decide)) (cwV 1 hts gzX6_change_ok_X6_findPot_ok_102 rfl rfl rfl (by decide +kernel) ⟨(Nat.le_of_ble_eq_true rfl), (Nat.le_of_ble_eq_true rfl)⟩) ⟨p_RW_blind, va_recv hK hP (ci := 6) (q0 := 0) rfl rfl, (p_RW_at (tc := [(cp, .object "Gatherhouse$Pot")]) (wc := [(xo, .inr (6, [.ref xg, .int gc, .ref xp, .int pc, .ref xq, .int qc, .ref r1, .ref r2, .ref r3, .ref r4, .ref se, .int ts, .int hou, .int dr, .int su, .int br])), (xp, .inl (cp, 4, .inr (.inr (.inr (.inr fp)))))]) hP hK hD hS hA hT hZ [0, 1] [0] rfl rfl (by decide) rfl [.ref xo, .int (nI k)])⟩ rfl rfl hl.1 rfl (lv_room (Nat.le_of_ble_eq_true rfl)) dX6_change_2 ⟨(Nat.le_of_ble_eq_true rfl), (Nat.le_of_ble_eq_true rfl)⟩) hS (fun q _ h => hFc q h) hFc (fun q _ h => hFc q h) (fun E ce q9 u t H locs ht hvm hpx hBX hz1 hk1 hS hce hcv hcl => ?_) (fun r_394 u t H locs ht hvm w_395 hB hz1 hk1 hS => ?_)
  · exact (show False from hBX).elim
  · obtain ⟨hP, hD, hK⟩ := q_join (D := D) (wc := [(xo, .inr (6, [.ref xg, .int gc, .ref xp, .int pc, .ref xq, .int qc, .ref r1, .ref r2, .ref r3, .ref r4, .ref se, .int ts, .int hou, .int dr, .int su, .int br])), (xp, .inl (cp, 4, .inr (.inr (.inr (.inr fp)))))]) (wr := [(pot, .inr (2, [.ref gx, .int pm, .int pe, .int ps, .int pa]))]) (w1 := [(xo, .inr (6, [.ref xg, .int gc, .ref xp, .int pc, .ref xq, .int qc, .ref r1, .ref r2, .ref r3, .ref r4, .ref se, .int ts, .int hou, .int dr, .int su, .int br])), (xp, .inl (cp, 4, .inr (.inr (.inr (.inr fp)))))]) (tyr := []) (ty1 := [(cp, .object "Gatherhouse$Pot")]) hP hD hK [0, 1] [2] [] rfl rfl (by decide) (by decide) rfl hFc hk1 ht hvm hB
    have hP : va_P D vwCl [(pot, .inr (2, [.ref gx, .int pm, .int pe, .int ps, .int pa])), (xo, .inr (6, [.ref xg, .int gc, .ref xp, .int pc, .ref xq, .int qc, .ref r1, .ref r2, .ref r3, .ref r4, .ref se, .int ts, .int hou, .int dr, .int su, .int br])), (xp, .inl (cp, 4, .inr (.inr (.inr (.inr fp)))))] H := hP
    have hD : va_D A [(pot, .inr (2, [.ref gx, .int pm, .int pe, .int ps, .int pa])), (xo, .inr (6, [.ref xg, .int gc, .ref xp, .int pc, .ref xq, .int qc, .ref r1, .ref r2, .ref r3, .ref r4, .ref se, .int ts, .int hou, .int dr, .int su, .int br])), (xp, .inl (cp, 4, .inr (.inr (.inr (.inr fp)))))] := hD
    have hK : va_K D vwCl [(cp, .object "Gatherhouse$Pot")] s := hK
    obtain rfl := w_395
    refine W.eq (g2 := F0 m 5 ls [.ref pot]) rfl ?_
    refine lv_astore_n (lv' := [(2, .ref pot), (0, .ref xo), (1, .int (nI k))]) hx hb dX6_change_5 rfl hl (by decide) rfl (fun ls hl => ?_)
    refine lv_aload_n hx hb dX6_change_6 rfl (lv_at hl 0 rfl) ?_
    refine va_getN (D := D) (cl := vwCl) (ci := 2) (v := .int pm) (C := RX2) (T := TX2) (N := 5) hx hb hts zuX6_change_ok_X2 hown hK hP 0 rfl rfl 1 (by decide) (va_Nw.use rfl (hT.2.1 ("Gatherhouse", 106, "Gatherhouse$Pot", "mass", "I", "Gatherhouse") (by decide +kernel))) (fun _ h9 => h9) rfl dX6_change_7 ?_
    refine lv_istore_n (lv' := [(3, .int pm), (2, .ref pot), (0, .ref xo), (1, .int (nI k))]) hx hb dX6_change_10 rfl hl (by decide) rfl (fun ls hl => ?_)
    refine lv_aload_n hx hb dX6_change_11 rfl (lv_at hl 1 rfl) ?_
    refine lv_iconst (v := 0) hx hb dX6_change_12 (by decide) ?_
    refine va_putN (D := D) (cl := vwCl) (ci := 2) (v := .int 0) (ty := .int) (C := RX2) (T := TX2) (N := 5) hx hb hts zuX6_change_ok_X2 tyX2 tyX2_ok nmX2 hown hK hP hD hS 0 rfl rfl 1 (by decide) (va_Nw.use rfl (hT.2.1 ("Gatherhouse", 106, "Gatherhouse$Pot", "mass", "I", "Gatherhouse") (by decide +kernel))) (fun _ h9 => h9) rfl (by decide +kernel) rfl rfl (Nat.le_of_ble_eq_true rfl) dX6_change_13 (fun H locs hP hD hS => ?_)
    have hP : va_P D vwCl [(pot, .inr (2, [.ref gx, .int 0, .int pe, .int ps, .int pa])), (xo, .inr (6, [.ref xg, .int gc, .ref xp, .int pc, .ref xq, .int qc, .ref r1, .ref r2, .ref r3, .ref r4, .ref se, .int ts, .int hou, .int dr, .int su, .int br])), (xp, .inl (cp, 4, .inr (.inr (.inr (.inr fp)))))] H := hP
    have hD : va_D A [(pot, .inr (2, [.ref gx, .int 0, .int pe, .int ps, .int pa])), (xo, .inr (6, [.ref xg, .int gc, .ref xp, .int pc, .ref xq, .int qc, .ref r1, .ref r2, .ref r3, .ref r4, .ref se, .int ts, .int hou, .int dr, .int su, .int br])), (xp, .inl (cp, 4, .inr (.inr (.inr (.inr fp)))))] := hD
    refine lv_aload_n hx hb dX6_change_16 rfl (lv_at hl 1 rfl) ?_
    refine lv_iconst (v := 0) hx hb dX6_change_17 (by decide) ?_
    refine va_putN (D := D) (cl := vwCl) (ci := 2) (v := .int 0) (ty := .int) (C := RX2) (T := TX2) (N := 5) hx hb hts zuX6_change_ok_X2 tyX2 tyX2_ok nmX2 hown hK hP hD hS 0 rfl rfl 3 (by decide) (va_Nw.use rfl (hT.2.1 ("Gatherhouse", 112, "Gatherhouse$Pot", "stones", "I", "Gatherhouse") (by decide +kernel))) (fun _ h9 => h9) rfl (by decide +kernel) rfl rfl (Nat.le_of_ble_eq_true rfl) dX6_change_18 (fun H locs hP hD hS => ?_)
    have hP : va_P D vwCl [(pot, .inr (2, [.ref gx, .int 0, .int pe, .int 0, .int pa])), (xo, .inr (6, [.ref xg, .int gc, .ref xp, .int pc, .ref xq, .int qc, .ref r1, .ref r2, .ref r3, .ref r4, .ref se, .int ts, .int hou, .int dr, .int su, .int br])), (xp, .inl (cp, 4, .inr (.inr (.inr (.inr fp)))))] H := hP
    have hD : va_D A [(pot, .inr (2, [.ref gx, .int 0, .int pe, .int 0, .int pa])), (xo, .inr (6, [.ref xg, .int gc, .ref xp, .int pc, .ref xq, .int qc, .ref r1, .ref r2, .ref r3, .ref r4, .ref se, .int ts, .int hou, .int dr, .int su, .int br])), (xp, .inl (cp, 4, .inr (.inr (.inr (.inr fp)))))] := hD
    refine lv_aload_n hx hb dX6_change_21 rfl (lv_at hl 1 rfl) ?_
    refine lv_iconst (v := 0) hx hb dX6_change_22 (by decide) ?_
    refine va_putN (D := D) (cl := vwCl) (ci := 2) (v := .int 0) (ty := .int) (C := RX2) (T := TX2) (N := 5) hx hb hts zuX6_change_ok_X2 tyX2 tyX2_ok nmX2 hown hK hP hD hS 0 rfl rfl 4 (by decide) (va_Nw.use rfl (hT.2.1 ("Gatherhouse", 115, "Gatherhouse$Pot", "age", "I", "Gatherhouse") (by decide +kernel))) (fun _ h9 => h9) rfl (by decide +kernel) rfl rfl (Nat.le_of_ble_eq_true rfl) dX6_change_23 (fun H locs hP hD hS => ?_)
    have hP : va_P D vwCl [(pot, .inr (2, [.ref gx, .int 0, .int pe, .int 0, .int 0])), (xo, .inr (6, [.ref xg, .int gc, .ref xp, .int pc, .ref xq, .int qc, .ref r1, .ref r2, .ref r3, .ref r4, .ref se, .int ts, .int hou, .int dr, .int su, .int br])), (xp, .inl (cp, 4, .inr (.inr (.inr (.inr fp)))))] H := hP
    have hD : va_D A [(pot, .inr (2, [.ref gx, .int 0, .int pe, .int 0, .int 0])), (xo, .inr (6, [.ref xg, .int gc, .ref xp, .int pc, .ref xq, .int qc, .ref r1, .ref r2, .ref r3, .ref r4, .ref se, .int ts, .int hou, .int dr, .int su, .int br])), (xp, .inl (cp, 4, .inr (.inr (.inr (.inr fp)))))] := hD
    refine lv_iload_n hx hb dX6_change_26 rfl (lv_at hl 0 rfl) ?_
    refine vx_ret ?_
    exact W.iret (v := pm) hx hb hr (fun t ht hW => ⟨⟨pm, (), rfl, rfl, q_RW_mk hP hK hD [1, 2, 0] [0] rfl rfl (by decide) rfl ht hW.alike⟩, hS.F ht⟩) hS.2.2 dX6_change_27
theorem dX6_of_5 : decode cX6_of 5 = .ok (.astore_n 3, 1) := by decide +kernel
theorem dX6_of_6 : decode cX6_of 6 = .ok (.iload_n 2, 1) := by decide +kernel
theorem dX6_of_7 : decode cX6_of 7 = .ok (.lookupswitch 61 #[(97, 56), (109, 41), (115, 46), (116, 51)], 41) := by decide +kernel
theorem dX6_of_48 : decode cX6_of 48 = .ok (.aload_n 3, 1) := by decide +kernel
theorem dX6_of_49 : decode cX6_of 49 = .ok (.getfield 106, 3) := by decide +kernel
theorem dX6_of_52 : decode cX6_of 52 = .ok (.ireturn, 1) := by decide +kernel
def wzEX6_of_109 : List Cond := [.code yX6_of cX6_of 4 (some .int), .methodLink RX6 102 yX6_findPot, .instanceMethod yX6_findPot, .selects RX6 yX6_findPot yX6_findPot, .initialized RX6, .code yX6_findPot cX6_findPot 3 (some (.object "Gatherhouse$Pot")), .fieldLink RX6 21 "Gatherhouse" "pots" "[LGatherhouse$Pot;"]
def wzX6_of_109 : List Cond := wzEX6_of_109 ++ (u_ws RX6 TX6 16 ++ (u_ws RX2 TX2 5))
theorem zgEX6_of_109 : wzEX6_of_109.all goodWord = true := by decide +kernel
theorem zuX6_of_109_X6 : ∀ w ∈ u_ws RX6 TX6 16, w ∈ wzX6_of_109 := (fun _ h => (List.mem_append_right _ (List.mem_append_left _ h)))
theorem zuX6_of_109_X2 : ∀ w ∈ u_ws RX2 TX2 5, w ∈ wzX6_of_109 := (fun _ h => (List.mem_append_right _ (List.mem_append_right _ h)))
theorem gzX6_of_109_X6_findPot_ok_102 : GoodIn wzX6_of_109 (wsV RX6 102 RX6 yX6_findPot wzX6_findPot_ok) := (goodIn_app (z_lift (goodIn_r _ [1, 2, 3, 4] rfl (by decide +kernel))) (goodIn_app (z_lift (goodIn_r wzEX6_findPot_ok [5, 6] rfl zgEX6_findPot_ok)) (goodIn_sub (fun _ h => (List.mem_append_right _ (List.mem_append_left _ h))) zgU_X6)))
set_option maxHeartbeats 4000000 in
set_option maxRecDepth 100000 in
theorem zc_X6_of_109 (l : Launch) (hnt : l.stackTraces = false) (D : va_G) (G : Nat × Nat × (Nat → Int32)) (xo : Nat) (k : Nat) (xg : Nat) (gc : Int32) (xp : Nat) (pc : Int32) (xq : Nat) (qc : Int32) (r1 : Nat) (r2 : Nat) (r3 : Nat) (r4 : Nat) (se : Nat) (ts : Int32) (hou : Int32) (dr : Int32) (su : Int32) (br : Int32) (cp : ClassId) (fp : Nat → Option Nat) (pot : Nat) (gx : Nat) (pm : Int32) (pe : Int32) (ps : Int32) (pa : Int32) (sz : Nat) (h9f : fp k = some pot) (hh_k : k ≤ 3) : vx_Met l yX6_of wzX6_of_109 ({ frames := 1, cells := 0, slots := 0, locals := 22 }) (va_Pc [.ref xo, .int (nI k), .int 109] (p_RW D G [(cp, .object "Gatherhouse$Pot")] [(xo, .inr (6, [.ref xg, .int gc, .ref xp, .int pc, .ref xq, .int qc, .ref r1, .ref r2, .ref r3, .ref r4, .ref se, .int ts, .int hou, .int dr, .int su, .int br])), (xp, .inl (cp, 4, .inr (.inr (.inr (.inr fp))))), (pot, .inr (2, [.ref gx, .int pm, .int pe, .int ps, .int pa]))] sz)) (va_Qi (fun (r : Int32) (u : Unit) => r = pm) (fun (u : Unit) (t : State) => q_RW D [(cp, .object "Gatherhouse$Pot")] [(xo, .inr (6, [.ref xg, .int gc, .ref xp, .int pc, .ref xq, .int qc, .ref r1, .ref r2, .ref r3, .ref r4, .ref se, .int ts, .int hou, .int dr, .int su, .int br])), (xp, .inl (cp, 4, .inr (.inr (.inr (.inr fp))))), (pot, .inr (2, [.ref gx, .int pm, .int pe, .int ps, .int pa]))] (va_A [(xo, .inr (6, [.ref xg, .int gc, .ref xp, .int pc, .ref xq, .int qc, .ref r1, .ref r2, .ref r3, .ref r4, .ref se, .int ts, .int hou, .int dr, .int su, .int br])), (xp, .inl (cp, 4, .inr (.inr (.inr (.inr fp))))), (pot, .inr (2, [.ref gx, .int pm, .int pe, .int ps, .int pa]))] sz) t) (va_A [(xo, .inr (6, [.ref xg, .int gc, .ref xp, .int pc, .ref xq, .int qc, .ref r1, .ref r2, .ref r3, .ref r4, .ref se, .int ts, .int hou, .int dr, .int su, .int br])), (xp, .inl (cp, 4, .inr (.inr (.inr (.inr fp))))), (pot, .inr (2, [.ref gx, .int pm, .int pe, .int ps, .int pa]))] sz)) (vx_X (fun (_ : Unit) => True) (fun E (_ : Unit) (_ : State) => False) (va_A [(xo, .inr (6, [.ref xg, .int gc, .ref xp, .int pc, .ref xq, .int qc, .ref r1, .ref r2, .ref r3, .ref r4, .ref se, .int ts, .int hou, .int dr, .int su, .int br])), (xp, .inl (cp, 4, .inr (.inr (.inr (.inr fp))))), (pot, .inr (2, [.ref gx, .int pm, .int pe, .int ps, .int pa]))] sz)) 0 0 (va_A [(xo, .inr (6, [.ref xg, .int gc, .ref xp, .int pc, .ref xq, .int qc, .ref r1, .ref r2, .ref r3, .ref r4, .ref se, .int ts, .int hou, .int dr, .int su, .int br])), (xp, .inl (cp, 4, .inr (.inr (.inr (.inr fp))))), (pot, .inr (2, [.ref gx, .int pm, .int pe, .int ps, .int pa]))] sz) := by
  refine vx_ofW (cc := cX6_of) (maxL := 4) (ret := (some .int)) (by decide) rfl ?_
  intro p e s m args below meth c s₁ B hml hxt hv
  obtain ⟨rfl, hsz, hP, hK, hD0, hT, hZ⟩ := hv
  have hx := B.exec
  have hb := B.bytes
  have hr := B.returns
  have hts := atoms_spec (ws := wzX6_of_109) B.pre
  have hown : s.vm.findClass RX6 = some m.cls := findClass_of_methodNamed B.named
  have hlocks := B.notSynchronized
  subst hsz
  have hD := hD0.self (sz := s.heap.size)
  generalize hAe : va_A [(xo, .inr (6, [.ref xg, .int gc, .ref xp, .int pc, .ref xq, .int qc, .ref r1, .ref r2, .ref r3, .ref r4, .ref se, .int ts, .int hou, .int dr, .int su, .int br])), (xp, .inl (cp, 4, .inr (.inr (.inr (.inr fp))))), (pot, .inr (2, [.ref gx, .int pm, .int pe, .int ps, .int pa]))] s.heap.size = A at hD hZ ⊢
  have hA : ∀ q : Nat, s.heap.size ≤ q → A q := fun q h => by rw [← hAe]; exact Or.inr h
  have hS : va_S A s.heap s.heap [] := va_S.rf
  have hl := lv_entry ([.ref xo, .int (nI k), .int 109]) (n := 4) (Nat.le_of_ble_eq_true rfl)
  rw [lg_entry_eq]
  generalize (lg_sl ([.ref xo, .int (nI k), .int 109]) ++ List.replicate (4 - (lg_sl ([.ref xo, .int (nI k), .int 109])).length) Slot.unset).toArray = ls at hl ⊢
  have hl : lv_has ls 4 [(0, .ref xo), (1, .int (nI k)), (2, .int 109)] := hl
  refine lv_aload_n hx hb dX6_of_0 rfl (lv_at hl 0 rfl) ?_
  refine lv_iload_n hx hb dX6_of_1 rfl (lv_at hl 1 rfl) ?_
  have hFc := va_free (wc := [(xo, .inr (6, [.ref xg, .int gc, .ref xp, .int pc, .ref xq, .int qc, .ref r1, .ref r2, .ref r3, .ref r4, .ref se, .int ts, .int hou, .int dr, .int su, .int br])), (xp, .inl (cp, 4, .inr (.inr (.inr (.inr fp)))))]) hD hS hA [0, 1] rfl
  refine vx_callq (vx_runV (As := [.int (nI k)]) (rest := []) ⟨hx, hb, hml, hown, hts⟩ (zc_X6_findPot_ok l hnt D G xo k xg gc xp pc xq qc r1 r2 r3 r4 se ts hou dr su br cp fp pot s.heap.size (by first | assumption | rfl | omega | exact Nat.le_trans (zS_le _ _ _) (by omega) | decide) (by first | assumption | rfl | omega | exact Nat.le_trans (zS_le _ _ _) (by omega) | decide)) (cwV 1 hts gzX6_of_109_X6_findPot_ok_102 rfl rfl rfl (by decide +kernel) ⟨(Nat.le_of_ble_eq_true rfl), (Nat.le_of_ble_eq_true rfl)⟩) ⟨p_RW_blind, va_recv hK hP (ci := 6) (q0 := 0) rfl rfl, (p_RW_at (tc := [(cp, .object "Gatherhouse$Pot")]) (wc := [(xo, .inr (6, [.ref xg, .int gc, .ref xp, .int pc, .ref xq, .int qc, .ref r1, .ref r2, .ref r3, .ref r4, .ref se, .int ts, .int hou, .int dr, .int su, .int br])), (xp, .inl (cp, 4, .inr (.inr (.inr (.inr fp)))))]) hP hK hD hS hA hT hZ [0, 1] [0] rfl rfl (by decide) rfl [.ref xo, .int (nI k)])⟩ rfl rfl hl.1 rfl (lv_room (Nat.le_of_ble_eq_true rfl)) dX6_of_2 ⟨(Nat.le_of_ble_eq_true rfl), (Nat.le_of_ble_eq_true rfl)⟩) hS (fun q _ h => hFc q h) hFc (fun q _ h => hFc q h) (fun E ce q9 u t H locs ht hvm hpx hBX hz1 hk1 hS hce hcv hcl => ?_) (fun r_396 u t H locs ht hvm w_397 hB hz1 hk1 hS => ?_)
  · exact (show False from hBX).elim
  · obtain ⟨hP, hD, hK⟩ := q_join (D := D) (wc := [(xo, .inr (6, [.ref xg, .int gc, .ref xp, .int pc, .ref xq, .int qc, .ref r1, .ref r2, .ref r3, .ref r4, .ref se, .int ts, .int hou, .int dr, .int su, .int br])), (xp, .inl (cp, 4, .inr (.inr (.inr (.inr fp)))))]) (wr := [(pot, .inr (2, [.ref gx, .int pm, .int pe, .int ps, .int pa]))]) (w1 := [(xo, .inr (6, [.ref xg, .int gc, .ref xp, .int pc, .ref xq, .int qc, .ref r1, .ref r2, .ref r3, .ref r4, .ref se, .int ts, .int hou, .int dr, .int su, .int br])), (xp, .inl (cp, 4, .inr (.inr (.inr (.inr fp)))))]) (tyr := []) (ty1 := [(cp, .object "Gatherhouse$Pot")]) hP hD hK [0, 1] [2] [] rfl rfl (by decide) (by decide) rfl hFc hk1 ht hvm hB
    have hP : va_P D vwCl [(pot, .inr (2, [.ref gx, .int pm, .int pe, .int ps, .int pa])), (xo, .inr (6, [.ref xg, .int gc, .ref xp, .int pc, .ref xq, .int qc, .ref r1, .ref r2, .ref r3, .ref r4, .ref se, .int ts, .int hou, .int dr, .int su, .int br])), (xp, .inl (cp, 4, .inr (.inr (.inr (.inr fp)))))] H := hP
    have hD : va_D A [(pot, .inr (2, [.ref gx, .int pm, .int pe, .int ps, .int pa])), (xo, .inr (6, [.ref xg, .int gc, .ref xp, .int pc, .ref xq, .int qc, .ref r1, .ref r2, .ref r3, .ref r4, .ref se, .int ts, .int hou, .int dr, .int su, .int br])), (xp, .inl (cp, 4, .inr (.inr (.inr (.inr fp)))))] := hD
    have hK : va_K D vwCl [(cp, .object "Gatherhouse$Pot")] s := hK
    obtain rfl := w_397
    refine W.eq (g2 := F0 m 5 ls [.ref pot]) rfl ?_
    refine lv_astore_n (lv' := [(3, .ref pot), (0, .ref xo), (1, .int (nI k)), (2, .int 109)]) hx hb dX6_of_5 rfl hl (by decide) rfl (fun ls hl => ?_)
    refine lv_iload_n hx hb dX6_of_6 rfl (lv_at hl 3 rfl) ?_
    refine lv_lookup (off := 41) (tgt := 48) hx hb dX6_of_7 (by decide) (by decide +kernel) (by decide) ?_
    refine lv_aload_n hx hb dX6_of_48 rfl (lv_at hl 0 rfl) ?_
    refine va_getN (D := D) (cl := vwCl) (ci := 2) (v := .int pm) (C := RX2) (T := TX2) (N := 5) hx hb hts zuX6_of_109_X2 hown hK hP 0 rfl rfl 1 (by decide) (va_Nw.use rfl (hT.2.1 ("Gatherhouse", 106, "Gatherhouse$Pot", "mass", "I", "Gatherhouse") (by decide +kernel))) (fun _ h9 => h9) rfl dX6_of_49 ?_
    refine vx_ret ?_
    exact W.iret (v := pm) hx hb hr (fun t ht hW => ⟨⟨pm, (), rfl, rfl, q_RW_mk hP hK hD [1, 2, 0] [0] rfl rfl (by decide) rfl ht hW.alike⟩, hS.F ht⟩) hS.2.2 dX6_of_52
theorem dX6_of_53 : decode cX6_of 53 = .ok (.aload_n 3, 1) := by decide +kernel
theorem dX6_of_54 : decode cX6_of 54 = .ok (.getfield 109, 3) := by decide +kernel
theorem dX6_of_57 : decode cX6_of 57 = .ok (.ireturn, 1) := by decide +kernel
def wzEX6_of_115 : List Cond := [.code yX6_of cX6_of 4 (some .int), .methodLink RX6 102 yX6_findPot, .instanceMethod yX6_findPot, .selects RX6 yX6_findPot yX6_findPot, .initialized RX6, .code yX6_findPot cX6_findPot 3 (some (.object "Gatherhouse$Pot")), .fieldLink RX6 21 "Gatherhouse" "pots" "[LGatherhouse$Pot;"]
def wzX6_of_115 : List Cond := wzEX6_of_115 ++ (u_ws RX6 TX6 16 ++ (u_ws RX2 TX2 5))
theorem zgEX6_of_115 : wzEX6_of_115.all goodWord = true := by decide +kernel
theorem zuX6_of_115_X6 : ∀ w ∈ u_ws RX6 TX6 16, w ∈ wzX6_of_115 := (fun _ h => (List.mem_append_right _ (List.mem_append_left _ h)))
theorem zuX6_of_115_X2 : ∀ w ∈ u_ws RX2 TX2 5, w ∈ wzX6_of_115 := (fun _ h => (List.mem_append_right _ (List.mem_append_right _ h)))
theorem gzX6_of_115_X6_findPot_ok_102 : GoodIn wzX6_of_115 (wsV RX6 102 RX6 yX6_findPot wzX6_findPot_ok) := (goodIn_app (z_lift (goodIn_r _ [1, 2, 3, 4] rfl (by decide +kernel))) (goodIn_app (z_lift (goodIn_r wzEX6_findPot_ok [5, 6] rfl zgEX6_findPot_ok)) (goodIn_sub (fun _ h => (List.mem_append_right _ (List.mem_append_left _ h))) zgU_X6)))
set_option maxHeartbeats 4000000 in
set_option maxRecDepth 100000 in
theorem zc_X6_of_115 (l : Launch) (hnt : l.stackTraces = false) (D : va_G) (G : Nat × Nat × (Nat → Int32)) (xo : Nat) (k : Nat) (xg : Nat) (gc : Int32) (xp : Nat) (pc : Int32) (xq : Nat) (qc : Int32) (r1 : Nat) (r2 : Nat) (r3 : Nat) (r4 : Nat) (se : Nat) (ts : Int32) (hou : Int32) (dr : Int32) (su : Int32) (br : Int32) (cp : ClassId) (fp : Nat → Option Nat) (pot : Nat) (gx : Nat) (pm : Int32) (pe : Int32) (ps : Int32) (pa : Int32) (sz : Nat) (h9f : fp k = some pot) (hh_k : k ≤ 3) : vx_Met l yX6_of wzX6_of_115 ({ frames := 1, cells := 0, slots := 0, locals := 22 }) (va_Pc [.ref xo, .int (nI k), .int 115] (p_RW D G [(cp, .object "Gatherhouse$Pot")] [(xo, .inr (6, [.ref xg, .int gc, .ref xp, .int pc, .ref xq, .int qc, .ref r1, .ref r2, .ref r3, .ref r4, .ref se, .int ts, .int hou, .int dr, .int su, .int br])), (xp, .inl (cp, 4, .inr (.inr (.inr (.inr fp))))), (pot, .inr (2, [.ref gx, .int pm, .int pe, .int ps, .int pa]))] sz)) (va_Qi (fun (r : Int32) (u : Unit) => r = pe) (fun (u : Unit) (t : State) => q_RW D [(cp, .object "Gatherhouse$Pot")] [(xo, .inr (6, [.ref xg, .int gc, .ref xp, .int pc, .ref xq, .int qc, .ref r1, .ref r2, .ref r3, .ref r4, .ref se, .int ts, .int hou, .int dr, .int su, .int br])), (xp, .inl (cp, 4, .inr (.inr (.inr (.inr fp))))), (pot, .inr (2, [.ref gx, .int pm, .int pe, .int ps, .int pa]))] (va_A [(xo, .inr (6, [.ref xg, .int gc, .ref xp, .int pc, .ref xq, .int qc, .ref r1, .ref r2, .ref r3, .ref r4, .ref se, .int ts, .int hou, .int dr, .int su, .int br])), (xp, .inl (cp, 4, .inr (.inr (.inr (.inr fp))))), (pot, .inr (2, [.ref gx, .int pm, .int pe, .int ps, .int pa]))] sz) t) (va_A [(xo, .inr (6, [.ref xg, .int gc, .ref xp, .int pc, .ref xq, .int qc, .ref r1, .ref r2, .ref r3, .ref r4, .ref se, .int ts, .int hou, .int dr, .int su, .int br])), (xp, .inl (cp, 4, .inr (.inr (.inr (.inr fp))))), (pot, .inr (2, [.ref gx, .int pm, .int pe, .int ps, .int pa]))] sz)) (vx_X (fun (_ : Unit) => True) (fun E (_ : Unit) (_ : State) => False) (va_A [(xo, .inr (6, [.ref xg, .int gc, .ref xp, .int pc, .ref xq, .int qc, .ref r1, .ref r2, .ref r3, .ref r4, .ref se, .int ts, .int hou, .int dr, .int su, .int br])), (xp, .inl (cp, 4, .inr (.inr (.inr (.inr fp))))), (pot, .inr (2, [.ref gx, .int pm, .int pe, .int ps, .int pa]))] sz)) 0 0 (va_A [(xo, .inr (6, [.ref xg, .int gc, .ref xp, .int pc, .ref xq, .int qc, .ref r1, .ref r2, .ref r3, .ref r4, .ref se, .int ts, .int hou, .int dr, .int su, .int br])), (xp, .inl (cp, 4, .inr (.inr (.inr (.inr fp))))), (pot, .inr (2, [.ref gx, .int pm, .int pe, .int ps, .int pa]))] sz) := by
  refine vx_ofW (cc := cX6_of) (maxL := 4) (ret := (some .int)) (by decide) rfl ?_
  intro p e s m args below meth c s₁ B hml hxt hv
  obtain ⟨rfl, hsz, hP, hK, hD0, hT, hZ⟩ := hv
  have hx := B.exec
  have hb := B.bytes
  have hr := B.returns
  have hts := atoms_spec (ws := wzX6_of_115) B.pre
  have hown : s.vm.findClass RX6 = some m.cls := findClass_of_methodNamed B.named
  have hlocks := B.notSynchronized
  subst hsz
  have hD := hD0.self (sz := s.heap.size)
  generalize hAe : va_A [(xo, .inr (6, [.ref xg, .int gc, .ref xp, .int pc, .ref xq, .int qc, .ref r1, .ref r2, .ref r3, .ref r4, .ref se, .int ts, .int hou, .int dr, .int su, .int br])), (xp, .inl (cp, 4, .inr (.inr (.inr (.inr fp))))), (pot, .inr (2, [.ref gx, .int pm, .int pe, .int ps, .int pa]))] s.heap.size = A at hD hZ ⊢
  have hA : ∀ q : Nat, s.heap.size ≤ q → A q := fun q h => by rw [← hAe]; exact Or.inr h
  have hS : va_S A s.heap s.heap [] := va_S.rf
  have hl := lv_entry ([.ref xo, .int (nI k), .int 115]) (n := 4) (Nat.le_of_ble_eq_true rfl)
  rw [lg_entry_eq]
  generalize (lg_sl ([.ref xo, .int (nI k), .int 115]) ++ List.replicate (4 - (lg_sl ([.ref xo, .int (nI k), .int 115])).length) Slot.unset).toArray = ls at hl ⊢
  have hl : lv_has ls 4 [(0, .ref xo), (1, .int (nI k)), (2, .int 115)] := hl
  refine lv_aload_n hx hb dX6_of_0 rfl (lv_at hl 0 rfl) ?_
  refine lv_iload_n hx hb dX6_of_1 rfl (lv_at hl 1 rfl) ?_
  have hFc := va_free (wc := [(xo, .inr (6, [.ref xg, .int gc, .ref xp, .int pc, .ref xq, .int qc, .ref r1, .ref r2, .ref r3, .ref r4, .ref se, .int ts, .int hou, .int dr, .int su, .int br])), (xp, .inl (cp, 4, .inr (.inr (.inr (.inr fp)))))]) hD hS hA [0, 1] rfl
  refine vx_callq (vx_runV (As := [.int (nI k)]) (rest := []) ⟨hx, hb, hml, hown, hts⟩ (zc_X6_findPot_ok l hnt D G xo k xg gc xp pc xq qc r1 r2 r3 r4 se ts hou dr su br cp fp pot s.heap.size (by first | assumption | rfl | omega | exact Nat.le_trans (zS_le _ _ _) (by omega) | decide) (by first | assumption | rfl | omega | exact Nat.le_trans (zS_le _ _ _) (by omega) | decide)) (cwV 1 hts gzX6_of_115_X6_findPot_ok_102 rfl rfl rfl (by decide +kernel) ⟨(Nat.le_of_ble_eq_true rfl), (Nat.le_of_ble_eq_true rfl)⟩) ⟨p_RW_blind, va_recv hK hP (ci := 6) (q0 := 0) rfl rfl, (p_RW_at (tc := [(cp, .object "Gatherhouse$Pot")]) (wc := [(xo, .inr (6, [.ref xg, .int gc, .ref xp, .int pc, .ref xq, .int qc, .ref r1, .ref r2, .ref r3, .ref r4, .ref se, .int ts, .int hou, .int dr, .int su, .int br])), (xp, .inl (cp, 4, .inr (.inr (.inr (.inr fp)))))]) hP hK hD hS hA hT hZ [0, 1] [0] rfl rfl (by decide) rfl [.ref xo, .int (nI k)])⟩ rfl rfl hl.1 rfl (lv_room (Nat.le_of_ble_eq_true rfl)) dX6_of_2 ⟨(Nat.le_of_ble_eq_true rfl), (Nat.le_of_ble_eq_true rfl)⟩) hS (fun q _ h => hFc q h) hFc (fun q _ h => hFc q h) (fun E ce q9 u t H locs ht hvm hpx hBX hz1 hk1 hS hce hcv hcl => ?_) (fun r_398 u t H locs ht hvm w_399 hB hz1 hk1 hS => ?_)
  · exact (show False from hBX).elim
  · obtain ⟨hP, hD, hK⟩ := q_join (D := D) (wc := [(xo, .inr (6, [.ref xg, .int gc, .ref xp, .int pc, .ref xq, .int qc, .ref r1, .ref r2, .ref r3, .ref r4, .ref se, .int ts, .int hou, .int dr, .int su, .int br])), (xp, .inl (cp, 4, .inr (.inr (.inr (.inr fp)))))]) (wr := [(pot, .inr (2, [.ref gx, .int pm, .int pe, .int ps, .int pa]))]) (w1 := [(xo, .inr (6, [.ref xg, .int gc, .ref xp, .int pc, .ref xq, .int qc, .ref r1, .ref r2, .ref r3, .ref r4, .ref se, .int ts, .int hou, .int dr, .int su, .int br])), (xp, .inl (cp, 4, .inr (.inr (.inr (.inr fp)))))]) (tyr := []) (ty1 := [(cp, .object "Gatherhouse$Pot")]) hP hD hK [0, 1] [2] [] rfl rfl (by decide) (by decide) rfl hFc hk1 ht hvm hB
    have hP : va_P D vwCl [(pot, .inr (2, [.ref gx, .int pm, .int pe, .int ps, .int pa])), (xo, .inr (6, [.ref xg, .int gc, .ref xp, .int pc, .ref xq, .int qc, .ref r1, .ref r2, .ref r3, .ref r4, .ref se, .int ts, .int hou, .int dr, .int su, .int br])), (xp, .inl (cp, 4, .inr (.inr (.inr (.inr fp)))))] H := hP
    have hD : va_D A [(pot, .inr (2, [.ref gx, .int pm, .int pe, .int ps, .int pa])), (xo, .inr (6, [.ref xg, .int gc, .ref xp, .int pc, .ref xq, .int qc, .ref r1, .ref r2, .ref r3, .ref r4, .ref se, .int ts, .int hou, .int dr, .int su, .int br])), (xp, .inl (cp, 4, .inr (.inr (.inr (.inr fp)))))] := hD
    have hK : va_K D vwCl [(cp, .object "Gatherhouse$Pot")] s := hK
    obtain rfl := w_399
    refine W.eq (g2 := F0 m 5 ls [.ref pot]) rfl ?_
    refine lv_astore_n (lv' := [(3, .ref pot), (0, .ref xo), (1, .int (nI k)), (2, .int 115)]) hx hb dX6_of_5 rfl hl (by decide) rfl (fun ls hl => ?_)
    refine lv_iload_n hx hb dX6_of_6 rfl (lv_at hl 3 rfl) ?_
    refine lv_lookup (off := 46) (tgt := 53) hx hb dX6_of_7 (by decide) (by decide +kernel) (by decide) ?_
    refine lv_aload_n hx hb dX6_of_53 rfl (lv_at hl 0 rfl) ?_
    refine va_getN (D := D) (cl := vwCl) (ci := 2) (v := .int pe) (C := RX2) (T := TX2) (N := 5) hx hb hts zuX6_of_115_X2 hown hK hP 0 rfl rfl 2 (by decide) (va_Nw.use rfl (hT.2.1 ("Gatherhouse", 109, "Gatherhouse$Pot", "seeds", "I", "Gatherhouse") (by decide +kernel))) (fun _ h9 => h9) rfl dX6_of_54 ?_
    refine vx_ret ?_
    exact W.iret (v := pe) hx hb hr (fun t ht hW => ⟨⟨pe, (), rfl, rfl, q_RW_mk hP hK hD [1, 2, 0] [0] rfl rfl (by decide) rfl ht hW.alike⟩, hS.F ht⟩) hS.2.2 dX6_of_57
theorem dX6_of_58 : decode cX6_of 58 = .ok (.aload_n 3, 1) := by decide +kernel
theorem dX6_of_59 : decode cX6_of 59 = .ok (.getfield 112, 3) := by decide +kernel
theorem dX6_of_62 : decode cX6_of 62 = .ok (.ireturn, 1) := by decide +kernel
def wzEX6_of_116 : List Cond := [.code yX6_of cX6_of 4 (some .int), .methodLink RX6 102 yX6_findPot, .instanceMethod yX6_findPot, .selects RX6 yX6_findPot yX6_findPot, .initialized RX6, .code yX6_findPot cX6_findPot 3 (some (.object "Gatherhouse$Pot")), .fieldLink RX6 21 "Gatherhouse" "pots" "[LGatherhouse$Pot;"]
def wzX6_of_116 : List Cond := wzEX6_of_116 ++ (u_ws RX6 TX6 16 ++ (u_ws RX2 TX2 5))
theorem zgEX6_of_116 : wzEX6_of_116.all goodWord = true := by decide +kernel
theorem zuX6_of_116_X6 : ∀ w ∈ u_ws RX6 TX6 16, w ∈ wzX6_of_116 := (fun _ h => (List.mem_append_right _ (List.mem_append_left _ h)))
theorem zuX6_of_116_X2 : ∀ w ∈ u_ws RX2 TX2 5, w ∈ wzX6_of_116 := (fun _ h => (List.mem_append_right _ (List.mem_append_right _ h)))
theorem gzX6_of_116_X6_findPot_ok_102 : GoodIn wzX6_of_116 (wsV RX6 102 RX6 yX6_findPot wzX6_findPot_ok) := (goodIn_app (z_lift (goodIn_r _ [1, 2, 3, 4] rfl (by decide +kernel))) (goodIn_app (z_lift (goodIn_r wzEX6_findPot_ok [5, 6] rfl zgEX6_findPot_ok)) (goodIn_sub (fun _ h => (List.mem_append_right _ (List.mem_append_left _ h))) zgU_X6)))
set_option maxHeartbeats 4000000 in
set_option maxRecDepth 100000 in
theorem zc_X6_of_116 (l : Launch) (hnt : l.stackTraces = false) (D : va_G) (G : Nat × Nat × (Nat → Int32)) (xo : Nat) (k : Nat) (xg : Nat) (gc : Int32) (xp : Nat) (pc : Int32) (xq : Nat) (qc : Int32) (r1 : Nat) (r2 : Nat) (r3 : Nat) (r4 : Nat) (se : Nat) (ts : Int32) (hou : Int32) (dr : Int32) (su : Int32) (br : Int32) (cp : ClassId) (fp : Nat → Option Nat) (pot : Nat) (gx : Nat) (pm : Int32) (pe : Int32) (ps : Int32) (pa : Int32) (sz : Nat) (h9f : fp k = some pot) (hh_k : k ≤ 3) : vx_Met l yX6_of wzX6_of_116 ({ frames := 1, cells := 0, slots := 0, locals := 22 }) (va_Pc [.ref xo, .int (nI k), .int 116] (p_RW D G [(cp, .object "Gatherhouse$Pot")] [(xo, .inr (6, [.ref xg, .int gc, .ref xp, .int pc, .ref xq, .int qc, .ref r1, .ref r2, .ref r3, .ref r4, .ref se, .int ts, .int hou, .int dr, .int su, .int br])), (xp, .inl (cp, 4, .inr (.inr (.inr (.inr fp))))), (pot, .inr (2, [.ref gx, .int pm, .int pe, .int ps, .int pa]))] sz)) (va_Qi (fun (r : Int32) (u : Unit) => r = ps) (fun (u : Unit) (t : State) => q_RW D [(cp, .object "Gatherhouse$Pot")] [(xo, .inr (6, [.ref xg, .int gc, .ref xp, .int pc, .ref xq, .int qc, .ref r1, .ref r2, .ref r3, .ref r4, .ref se, .int ts, .int hou, .int dr, .int su, .int br])), (xp, .inl (cp, 4, .inr (.inr (.inr (.inr fp))))), (pot, .inr (2, [.ref gx, .int pm, .int pe, .int ps, .int pa]))] (va_A [(xo, .inr (6, [.ref xg, .int gc, .ref xp, .int pc, .ref xq, .int qc, .ref r1, .ref r2, .ref r3, .ref r4, .ref se, .int ts, .int hou, .int dr, .int su, .int br])), (xp, .inl (cp, 4, .inr (.inr (.inr (.inr fp))))), (pot, .inr (2, [.ref gx, .int pm, .int pe, .int ps, .int pa]))] sz) t) (va_A [(xo, .inr (6, [.ref xg, .int gc, .ref xp, .int pc, .ref xq, .int qc, .ref r1, .ref r2, .ref r3, .ref r4, .ref se, .int ts, .int hou, .int dr, .int su, .int br])), (xp, .inl (cp, 4, .inr (.inr (.inr (.inr fp))))), (pot, .inr (2, [.ref gx, .int pm, .int pe, .int ps, .int pa]))] sz)) (vx_X (fun (_ : Unit) => True) (fun E (_ : Unit) (_ : State) => False) (va_A [(xo, .inr (6, [.ref xg, .int gc, .ref xp, .int pc, .ref xq, .int qc, .ref r1, .ref r2, .ref r3, .ref r4, .ref se, .int ts, .int hou, .int dr, .int su, .int br])), (xp, .inl (cp, 4, .inr (.inr (.inr (.inr fp))))), (pot, .inr (2, [.ref gx, .int pm, .int pe, .int ps, .int pa]))] sz)) 0 0 (va_A [(xo, .inr (6, [.ref xg, .int gc, .ref xp, .int pc, .ref xq, .int qc, .ref r1, .ref r2, .ref r3, .ref r4, .ref se, .int ts, .int hou, .int dr, .int su, .int br])), (xp, .inl (cp, 4, .inr (.inr (.inr (.inr fp))))), (pot, .inr (2, [.ref gx, .int pm, .int pe, .int ps, .int pa]))] sz) := by
  refine vx_ofW (cc := cX6_of) (maxL := 4) (ret := (some .int)) (by decide) rfl ?_
  intro p e s m args below meth c s₁ B hml hxt hv
  obtain ⟨rfl, hsz, hP, hK, hD0, hT, hZ⟩ := hv
  have hx := B.exec
  have hb := B.bytes
  have hr := B.returns
  have hts := atoms_spec (ws := wzX6_of_116) B.pre
  have hown : s.vm.findClass RX6 = some m.cls := findClass_of_methodNamed B.named
  have hlocks := B.notSynchronized
  subst hsz
  have hD := hD0.self (sz := s.heap.size)
  generalize hAe : va_A [(xo, .inr (6, [.ref xg, .int gc, .ref xp, .int pc, .ref xq, .int qc, .ref r1, .ref r2, .ref r3, .ref r4, .ref se, .int ts, .int hou, .int dr, .int su, .int br])), (xp, .inl (cp, 4, .inr (.inr (.inr (.inr fp))))), (pot, .inr (2, [.ref gx, .int pm, .int pe, .int ps, .int pa]))] s.heap.size = A at hD hZ ⊢
  have hA : ∀ q : Nat, s.heap.size ≤ q → A q := fun q h => by rw [← hAe]; exact Or.inr h
  have hS : va_S A s.heap s.heap [] := va_S.rf
  have hl := lv_entry ([.ref xo, .int (nI k), .int 116]) (n := 4) (Nat.le_of_ble_eq_true rfl)
  rw [lg_entry_eq]
  generalize (lg_sl ([.ref xo, .int (nI k), .int 116]) ++ List.replicate (4 - (lg_sl ([.ref xo, .int (nI k), .int 116])).length) Slot.unset).toArray = ls at hl ⊢
  have hl : lv_has ls 4 [(0, .ref xo), (1, .int (nI k)), (2, .int 116)] := hl
  refine lv_aload_n hx hb dX6_of_0 rfl (lv_at hl 0 rfl) ?_
  refine lv_iload_n hx hb dX6_of_1 rfl (lv_at hl 1 rfl) ?_
  have hFc := va_free (wc := [(xo, .inr (6, [.ref xg, .int gc, .ref xp, .int pc, .ref xq, .int qc, .ref r1, .ref r2, .ref r3, .ref r4, .ref se, .int ts, .int hou, .int dr, .int su, .int br])), (xp, .inl (cp, 4, .inr (.inr (.inr (.inr fp)))))]) hD hS hA [0, 1] rfl
  refine vx_callq (vx_runV (As := [.int (nI k)]) (rest := []) ⟨hx, hb, hml, hown, hts⟩ (zc_X6_findPot_ok l hnt D G xo k xg gc xp pc xq qc r1 r2 r3 r4 se ts hou dr su br cp fp pot s.heap.size (by first | assumption | rfl | omega | exact Nat.le_trans (zS_le _ _ _) (by omega) | decide) (by first | assumption | rfl | omega | exact Nat.le_trans (zS_le _ _ _) (by omega) | decide)) (cwV 1 hts gzX6_of_116_X6_findPot_ok_102 rfl rfl rfl (by decide +kernel) ⟨(Nat.le_of_ble_eq_true rfl), (Nat.le_of_ble_eq_true rfl)⟩) ⟨p_RW_blind, va_recv hK hP (ci := 6) (q0 := 0) rfl rfl, (p_RW_at (tc := [(cp, .object "Gatherhouse$Pot")]) (wc := [(xo, .inr (6, [.ref xg, .int gc, .ref xp, .int pc, .ref xq, .int qc, .ref r1, .ref r2, .ref r3, .ref r4, .ref se, .int ts, .int hou, .int dr, .int su, .int br])), (xp, .inl (cp, 4, .inr (.inr (.inr (.inr fp)))))]) hP hK hD hS hA hT hZ [0, 1] [0] rfl rfl (by decide) rfl [.ref xo, .int (nI k)])⟩ rfl rfl hl.1 rfl (lv_room (Nat.le_of_ble_eq_true rfl)) dX6_of_2 ⟨(Nat.le_of_ble_eq_true rfl), (Nat.le_of_ble_eq_true rfl)⟩) hS (fun q _ h => hFc q h) hFc (fun q _ h => hFc q h) (fun E ce q9 u t H locs ht hvm hpx hBX hz1 hk1 hS hce hcv hcl => ?_) (fun r_400 u t H locs ht hvm w_401 hB hz1 hk1 hS => ?_)
  · exact (show False from hBX).elim
  · obtain ⟨hP, hD, hK⟩ := q_join (D := D) (wc := [(xo, .inr (6, [.ref xg, .int gc, .ref xp, .int pc, .ref xq, .int qc, .ref r1, .ref r2, .ref r3, .ref r4, .ref se, .int ts, .int hou, .int dr, .int su, .int br])), (xp, .inl (cp, 4, .inr (.inr (.inr (.inr fp)))))]) (wr := [(pot, .inr (2, [.ref gx, .int pm, .int pe, .int ps, .int pa]))]) (w1 := [(xo, .inr (6, [.ref xg, .int gc, .ref xp, .int pc, .ref xq, .int qc, .ref r1, .ref r2, .ref r3, .ref r4, .ref se, .int ts, .int hou, .int dr, .int su, .int br])), (xp, .inl (cp, 4, .inr (.inr (.inr (.inr fp)))))]) (tyr := []) (ty1 := [(cp, .object "Gatherhouse$Pot")]) hP hD hK [0, 1] [2] [] rfl rfl (by decide) (by decide) rfl hFc hk1 ht hvm hB
    have hP : va_P D vwCl [(pot, .inr (2, [.ref gx, .int pm, .int pe, .int ps, .int pa])), (xo, .inr (6, [.ref xg, .int gc, .ref xp, .int pc, .ref xq, .int qc, .ref r1, .ref r2, .ref r3, .ref r4, .ref se, .int ts, .int hou, .int dr, .int su, .int br])), (xp, .inl (cp, 4, .inr (.inr (.inr (.inr fp)))))] H := hP
    have hD : va_D A [(pot, .inr (2, [.ref gx, .int pm, .int pe, .int ps, .int pa])), (xo, .inr (6, [.ref xg, .int gc, .ref xp, .int pc, .ref xq, .int qc, .ref r1, .ref r2, .ref r3, .ref r4, .ref se, .int ts, .int hou, .int dr, .int su, .int br])), (xp, .inl (cp, 4, .inr (.inr (.inr (.inr fp)))))] := hD
    have hK : va_K D vwCl [(cp, .object "Gatherhouse$Pot")] s := hK
    obtain rfl := w_401
    refine W.eq (g2 := F0 m 5 ls [.ref pot]) rfl ?_
    refine lv_astore_n (lv' := [(3, .ref pot), (0, .ref xo), (1, .int (nI k)), (2, .int 116)]) hx hb dX6_of_5 rfl hl (by decide) rfl (fun ls hl => ?_)
    refine lv_iload_n hx hb dX6_of_6 rfl (lv_at hl 3 rfl) ?_
    refine lv_lookup (off := 51) (tgt := 58) hx hb dX6_of_7 (by decide) (by decide +kernel) (by decide) ?_
    refine lv_aload_n hx hb dX6_of_58 rfl (lv_at hl 0 rfl) ?_
    refine va_getN (D := D) (cl := vwCl) (ci := 2) (v := .int ps) (C := RX2) (T := TX2) (N := 5) hx hb hts zuX6_of_116_X2 hown hK hP 0 rfl rfl 3 (by decide) (va_Nw.use rfl (hT.2.1 ("Gatherhouse", 112, "Gatherhouse$Pot", "stones", "I", "Gatherhouse") (by decide +kernel))) (fun _ h9 => h9) rfl dX6_of_59 ?_
    refine vx_ret ?_
    exact W.iret (v := ps) hx hb hr (fun t ht hW => ⟨⟨ps, (), rfl, rfl, q_RW_mk hP hK hD [1, 2, 0] [0] rfl rfl (by decide) rfl ht hW.alike⟩, hS.F ht⟩) hS.2.2 dX6_of_62
theorem dX6_of_63 : decode cX6_of 63 = .ok (.aload_n 3, 1) := by decide +kernel
theorem dX6_of_64 : decode cX6_of 64 = .ok (.getfield 115, 3) := by decide +kernel
theorem dX6_of_67 : decode cX6_of 67 = .ok (.ireturn, 1) := by decide +kernel
def wzEX6_of_97 : List Cond := [.code yX6_of cX6_of 4 (some .int), .methodLink RX6 102 yX6_findPot, .instanceMethod yX6_findPot, .selects RX6 yX6_findPot yX6_findPot, .initialized RX6, .code yX6_findPot cX6_findPot 3 (some (.object "Gatherhouse$Pot")), .fieldLink RX6 21 "Gatherhouse" "pots" "[LGatherhouse$Pot;"]
def wzX6_of_97 : List Cond := wzEX6_of_97 ++ (u_ws RX6 TX6 16 ++ (u_ws RX2 TX2 5))
theorem zgEX6_of_97 : wzEX6_of_97.all goodWord = true := by decide +kernel
theorem zuX6_of_97_X6 : ∀ w ∈ u_ws RX6 TX6 16, w ∈ wzX6_of_97 := (fun _ h => (List.mem_append_right _ (List.mem_append_left _ h)))
theorem zuX6_of_97_X2 : ∀ w ∈ u_ws RX2 TX2 5, w ∈ wzX6_of_97 := (fun _ h => (List.mem_append_right _ (List.mem_append_right _ h)))
theorem gzX6_of_97_X6_findPot_ok_102 : GoodIn wzX6_of_97 (wsV RX6 102 RX6 yX6_findPot wzX6_findPot_ok) := (goodIn_app (z_lift (goodIn_r _ [1, 2, 3, 4] rfl (by decide +kernel))) (goodIn_app (z_lift (goodIn_r wzEX6_findPot_ok [5, 6] rfl zgEX6_findPot_ok)) (goodIn_sub (fun _ h => (List.mem_append_right _ (List.mem_append_left _ h))) zgU_X6)))
set_option maxHeartbeats 4000000 in
set_option maxRecDepth 100000 in
theorem zc_X6_of_97 (l : Launch) (hnt : l.stackTraces = false) (D : va_G) (G : Nat × Nat × (Nat → Int32)) (xo : Nat) (k : Nat) (xg : Nat) (gc : Int32) (xp : Nat) (pc : Int32) (xq : Nat) (qc : Int32) (r1 : Nat) (r2 : Nat) (r3 : Nat) (r4 : Nat) (se : Nat) (ts : Int32) (hou : Int32) (dr : Int32) (su : Int32) (br : Int32) (cp : ClassId) (fp : Nat → Option Nat) (pot : Nat) (gx : Nat) (pm : Int32) (pe : Int32) (ps : Int32) (pa : Int32) (sz : Nat) (h9f : fp k = some pot) (hh_k : k ≤ 3) : vx_Met l yX6_of wzX6_of_97 ({ frames := 1, cells := 0, slots := 0, locals := 22 }) (va_Pc [.ref xo, .int (nI k), .int 97] (p_RW D G [(cp, .object "Gatherhouse$Pot")] [(xo, .inr (6, [.ref xg, .int gc, .ref xp, .int pc, .ref xq, .int qc, .ref r1, .ref r2, .ref r3, .ref r4, .ref se, .int ts, .int hou, .int dr, .int su, .int br])), (xp, .inl (cp, 4, .inr (.inr (.inr (.inr fp))))), (pot, .inr (2, [.ref gx, .int pm, .int pe, .int ps, .int pa]))] sz)) (va_Qi (fun (r : Int32) (u : Unit) => r = pa) (fun (u : Unit) (t : State) => q_RW D [(cp, .object "Gatherhouse$Pot")] [(xo, .inr (6, [.ref xg, .int gc, .ref xp, .int pc, .ref xq, .int qc, .ref r1, .ref r2, .ref r3, .ref r4, .ref se, .int ts, .int hou, .int dr, .int su, .int br])), (xp, .inl (cp, 4, .inr (.inr (.inr (.inr fp))))), (pot, .inr (2, [.ref gx, .int pm, .int pe, .int ps, .int pa]))] (va_A [(xo, .inr (6, [.ref xg, .int gc, .ref xp, .int pc, .ref xq, .int qc, .ref r1, .ref r2, .ref r3, .ref r4, .ref se, .int ts, .int hou, .int dr, .int su, .int br])), (xp, .inl (cp, 4, .inr (.inr (.inr (.inr fp))))), (pot, .inr (2, [.ref gx, .int pm, .int pe, .int ps, .int pa]))] sz) t) (va_A [(xo, .inr (6, [.ref xg, .int gc, .ref xp, .int pc, .ref xq, .int qc, .ref r1, .ref r2, .ref r3, .ref r4, .ref se, .int ts, .int hou, .int dr, .int su, .int br])), (xp, .inl (cp, 4, .inr (.inr (.inr (.inr fp))))), (pot, .inr (2, [.ref gx, .int pm, .int pe, .int ps, .int pa]))] sz)) (vx_X (fun (_ : Unit) => True) (fun E (_ : Unit) (_ : State) => False) (va_A [(xo, .inr (6, [.ref xg, .int gc, .ref xp, .int pc, .ref xq, .int qc, .ref r1, .ref r2, .ref r3, .ref r4, .ref se, .int ts, .int hou, .int dr, .int su, .int br])), (xp, .inl (cp, 4, .inr (.inr (.inr (.inr fp))))), (pot, .inr (2, [.ref gx, .int pm, .int pe, .int ps, .int pa]))] sz)) 0 0 (va_A [(xo, .inr (6, [.ref xg, .int gc, .ref xp, .int pc, .ref xq, .int qc, .ref r1, .ref r2, .ref r3, .ref r4, .ref se, .int ts, .int hou, .int dr, .int su, .int br])), (xp, .inl (cp, 4, .inr (.inr (.inr (.inr fp))))), (pot, .inr (2, [.ref gx, .int pm, .int pe, .int ps, .int pa]))] sz) := by
  refine vx_ofW (cc := cX6_of) (maxL := 4) (ret := (some .int)) (by decide) rfl ?_
  intro p e s m args below meth c s₁ B hml hxt hv
  obtain ⟨rfl, hsz, hP, hK, hD0, hT, hZ⟩ := hv
  have hx := B.exec
  have hb := B.bytes
  have hr := B.returns
  have hts := atoms_spec (ws := wzX6_of_97) B.pre
  have hown : s.vm.findClass RX6 = some m.cls := findClass_of_methodNamed B.named
  have hlocks := B.notSynchronized
  subst hsz
  have hD := hD0.self (sz := s.heap.size)
  generalize hAe : va_A [(xo, .inr (6, [.ref xg, .int gc, .ref xp, .int pc, .ref xq, .int qc, .ref r1, .ref r2, .ref r3, .ref r4, .ref se, .int ts, .int hou, .int dr, .int su, .int br])), (xp, .inl (cp, 4, .inr (.inr (.inr (.inr fp))))), (pot, .inr (2, [.ref gx, .int pm, .int pe, .int ps, .int pa]))] s.heap.size = A at hD hZ ⊢
  have hA : ∀ q : Nat, s.heap.size ≤ q → A q := fun q h => by rw [← hAe]; exact Or.inr h
  have hS : va_S A s.heap s.heap [] := va_S.rf
  have hl := lv_entry ([.ref xo, .int (nI k), .int 97]) (n := 4) (Nat.le_of_ble_eq_true rfl)
  rw [lg_entry_eq]
  generalize (lg_sl ([.ref xo, .int (nI k), .int 97]) ++ List.replicate (4 - (lg_sl ([.ref xo, .int (nI k), .int 97])).length) Slot.unset).toArray = ls at hl ⊢
  have hl : lv_has ls 4 [(0, .ref xo), (1, .int (nI k)), (2, .int 97)] := hl
  refine lv_aload_n hx hb dX6_of_0 rfl (lv_at hl 0 rfl) ?_
  refine lv_iload_n hx hb dX6_of_1 rfl (lv_at hl 1 rfl) ?_
  have hFc := va_free (wc := [(xo, .inr (6, [.ref xg, .int gc, .ref xp, .int pc, .ref xq, .int qc, .ref r1, .ref r2, .ref r3, .ref r4, .ref se, .int ts, .int hou, .int dr, .int su, .int br])), (xp, .inl (cp, 4, .inr (.inr (.inr (.inr fp)))))]) hD hS hA [0, 1] rfl
  refine vx_callq (vx_runV (As := [.int (nI k)]) (rest := []) ⟨hx, hb, hml, hown, hts⟩ (zc_X6_findPot_ok l hnt D G xo k xg gc xp pc xq qc r1 r2 r3 r4 se ts hou dr su br cp fp pot s.heap.size (by first | assumption | rfl | omega | exact Nat.le_trans (zS_le _ _ _) (by omega) | decide) (by first | assumption | rfl | omega | exact Nat.le_trans (zS_le _ _ _) (by omega) | decide)) (cwV 1 hts gzX6_of_97_X6_findPot_ok_102 rfl rfl rfl (by decide +kernel) ⟨(Nat.le_of_ble_eq_true rfl), (Nat.le_of_ble_eq_true rfl)⟩) ⟨p_RW_blind, va_recv hK hP (ci := 6) (q0 := 0) rfl rfl, (p_RW_at (tc := [(cp, .object "Gatherhouse$Pot")]) (wc := [(xo, .inr (6, [.ref xg, .int gc, .ref xp, .int pc, .ref xq, .int qc, .ref r1, .ref r2, .ref r3, .ref r4, .ref se, .int ts, .int hou, .int dr, .int su, .int br])), (xp, .inl (cp, 4, .inr (.inr (.inr (.inr fp)))))]) hP hK hD hS hA hT hZ [0, 1] [0] rfl rfl (by decide) rfl [.ref xo, .int (nI k)])⟩ rfl rfl hl.1 rfl (lv_room (Nat.le_of_ble_eq_true rfl)) dX6_of_2 ⟨(Nat.le_of_ble_eq_true rfl), (Nat.le_of_ble_eq_true rfl)⟩) hS (fun q _ h => hFc q h) hFc (fun q _ h => hFc q h) (fun E ce q9 u t H locs ht hvm hpx hBX hz1 hk1 hS hce hcv hcl => ?_) (fun r_402 u t H locs ht hvm w_403 hB hz1 hk1 hS => ?_)
  · exact (show False from hBX).elim
  · obtain ⟨hP, hD, hK⟩ := q_join (D := D) (wc := [(xo, .inr (6, [.ref xg, .int gc, .ref xp, .int pc, .ref xq, .int qc, .ref r1, .ref r2, .ref r3, .ref r4, .ref se, .int ts, .int hou, .int dr, .int su, .int br])), (xp, .inl (cp, 4, .inr (.inr (.inr (.inr fp)))))]) (wr := [(pot, .inr (2, [.ref gx, .int pm, .int pe, .int ps, .int pa]))]) (w1 := [(xo, .inr (6, [.ref xg, .int gc, .ref xp, .int pc, .ref xq, .int qc, .ref r1, .ref r2, .ref r3, .ref r4, .ref se, .int ts, .int hou, .int dr, .int su, .int br])), (xp, .inl (cp, 4, .inr (.inr (.inr (.inr fp)))))]) (tyr := []) (ty1 := [(cp, .object "Gatherhouse$Pot")]) hP hD hK [0, 1] [2] [] rfl rfl (by decide) (by decide) rfl hFc hk1 ht hvm hB
    have hP : va_P D vwCl [(pot, .inr (2, [.ref gx, .int pm, .int pe, .int ps, .int pa])), (xo, .inr (6, [.ref xg, .int gc, .ref xp, .int pc, .ref xq, .int qc, .ref r1, .ref r2, .ref r3, .ref r4, .ref se, .int ts, .int hou, .int dr, .int su, .int br])), (xp, .inl (cp, 4, .inr (.inr (.inr (.inr fp)))))] H := hP
    have hD : va_D A [(pot, .inr (2, [.ref gx, .int pm, .int pe, .int ps, .int pa])), (xo, .inr (6, [.ref xg, .int gc, .ref xp, .int pc, .ref xq, .int qc, .ref r1, .ref r2, .ref r3, .ref r4, .ref se, .int ts, .int hou, .int dr, .int su, .int br])), (xp, .inl (cp, 4, .inr (.inr (.inr (.inr fp)))))] := hD
    have hK : va_K D vwCl [(cp, .object "Gatherhouse$Pot")] s := hK
    obtain rfl := w_403
    refine W.eq (g2 := F0 m 5 ls [.ref pot]) rfl ?_
    refine lv_astore_n (lv' := [(3, .ref pot), (0, .ref xo), (1, .int (nI k)), (2, .int 97)]) hx hb dX6_of_5 rfl hl (by decide) rfl (fun ls hl => ?_)
    refine lv_iload_n hx hb dX6_of_6 rfl (lv_at hl 3 rfl) ?_
    refine lv_lookup (off := 56) (tgt := 63) hx hb dX6_of_7 (by decide) (by decide +kernel) (by decide) ?_
    refine lv_aload_n hx hb dX6_of_63 rfl (lv_at hl 0 rfl) ?_
    refine va_getN (D := D) (cl := vwCl) (ci := 2) (v := .int pa) (C := RX2) (T := TX2) (N := 5) hx hb hts zuX6_of_97_X2 hown hK hP 0 rfl rfl 4 (by decide) (va_Nw.use rfl (hT.2.1 ("Gatherhouse", 115, "Gatherhouse$Pot", "age", "I", "Gatherhouse") (by decide +kernel))) (fun _ h9 => h9) rfl dX6_of_64 ?_
    refine vx_ret ?_
    exact W.iret (v := pa) hx hb hr (fun t ht hW => ⟨⟨pa, (), rfl, rfl, q_RW_mk hP hK hD [1, 2, 0] [0] rfl rfl (by decide) rfl ht hW.alike⟩, hS.F ht⟩) hS.2.2 dX6_of_67
theorem dX6_of_68 : decode cX6_of 68 = .ok (.new 118, 3) := by decide +kernel
theorem dX6_of_71 : decode cX6_of 71 = .ok (.dup, 1) := by decide +kernel
theorem dX6_of_72 : decode cX6_of 72 = .ok (.ldc 120, 2) := by decide +kernel
theorem dX6_of_74 : decode cX6_of 74 = .ok (.invokespecial 122, 3) := by decide +kernel
theorem dX6_of_77 : decode cX6_of 77 = .ok (.athrow, 1) := by decide +kernel
def wzEX6_of_x : List Cond := [.code yX6_of cX6_of 4 (some .int), .methodLink RX6 102 yX6_findPot, .instanceMethod yX6_findPot, .selects RX6 yX6_findPot yX6_findPot, .initialized RX6, .code yX6_findPot cX6_findPot 3 (some (.object "Gatherhouse$Pot")), .fieldLink RX6 21 "Gatherhouse" "pots" "[LGatherhouse$Pot;", .classLink RX6 118 "java/lang/IllegalArgumentException", .initialized "java/lang/IllegalArgumentException"]
def wzX6_of_x : List Cond := wzEX6_of_x ++ (u_ws RX6 TX6 16 ++ ((vx_atS RX6 122 "java/lang/IllegalArgumentException" ["java/lang/RuntimeException", "java/lang/Exception"]).filter goodWord))
theorem zgEX6_of_x : wzEX6_of_x.all goodWord = true := by decide +kernel
theorem zuX6_of_x_X6 : ∀ w ∈ u_ws RX6 TX6 16, w ∈ wzX6_of_x := (fun _ h => (List.mem_append_right _ (List.mem_append_left _ h)))
theorem ztX6_of_x_X6_122 : ∀ w ∈ (vx_atS RX6 122 "java/lang/IllegalArgumentException" ["java/lang/RuntimeException", "java/lang/Exception"]).filter goodWord, w ∈ wzX6_of_x := (fun _ h => (List.mem_append_right _ (List.mem_append_right _ h)))
theorem gzX6_of_x_X6_findPot_ok_102 : GoodIn wzX6_of_x (wsV RX6 102 RX6 yX6_findPot wzX6_findPot_ok) := (goodIn_app (z_lift (goodIn_r _ [1, 2, 3, 4] rfl (by decide +kernel))) (goodIn_app (z_lift (goodIn_r wzEX6_findPot_ok [5, 6] rfl zgEX6_findPot_ok)) (goodIn_sub (fun _ h => (List.mem_append_right _ (List.mem_append_left _ h))) zgU_X6)))
set_option maxHeartbeats 4000000 in
set_option maxRecDepth 100000 in
theorem zc_X6_of_x (l : Launch) (hnt : l.stackTraces = false) (D : va_G) (G : Nat × Nat × (Nat → Int32)) (xo : Nat) (k : Nat) (xg : Nat) (gc : Int32) (xp : Nat) (pc : Int32) (xq : Nat) (qc : Int32) (r1 : Nat) (r2 : Nat) (r3 : Nat) (r4 : Nat) (se : Nat) (ts : Int32) (hou : Int32) (dr : Int32) (su : Int32) (br : Int32) (cp : ClassId) (fp : Nat → Option Nat) (pot : Nat) (gx : Nat) (pm : Int32) (pe : Int32) (ps : Int32) (pa : Int32) (sz : Nat) (h9f : fp k = some pot) (hh_k : k ≤ 3) : vx_Met l yX6_of wzX6_of_x ({ frames := 6, cells := 1, slots := 6, locals := 82 }) (va_Pc [.ref xo, .int (nI k), .int 120] (p_RW D G [(cp, .object "Gatherhouse$Pot")] [(xo, .inr (6, [.ref xg, .int gc, .ref xp, .int pc, .ref xq, .int qc, .ref r1, .ref r2, .ref r3, .ref r4, .ref se, .int ts, .int hou, .int dr, .int su, .int br])), (xp, .inl (cp, 4, .inr (.inr (.inr (.inr fp))))), (pot, .inr (2, [.ref gx, .int pm, .int pe, .int ps, .int pa]))] sz)) (va_Qi (fun (r : Int32) (u : Unit) => False) (fun (u : Unit) (t : State) => q_RW D [(cp, .object "Gatherhouse$Pot")] [(xo, .inr (6, [.ref xg, .int gc, .ref xp, .int pc, .ref xq, .int qc, .ref r1, .ref r2, .ref r3, .ref r4, .ref se, .int ts, .int hou, .int dr, .int su, .int br])), (xp, .inl (cp, 4, .inr (.inr (.inr (.inr fp))))), (pot, .inr (2, [.ref gx, .int pm, .int pe, .int ps, .int pa]))] (va_A [(xo, .inr (6, [.ref xg, .int gc, .ref xp, .int pc, .ref xq, .int qc, .ref r1, .ref r2, .ref r3, .ref r4, .ref se, .int ts, .int hou, .int dr, .int su, .int br])), (xp, .inl (cp, 4, .inr (.inr (.inr (.inr fp))))), (pot, .inr (2, [.ref gx, .int pm, .int pe, .int ps, .int pa]))] sz) t) (va_A [(xo, .inr (6, [.ref xg, .int gc, .ref xp, .int pc, .ref xq, .int qc, .ref r1, .ref r2, .ref r3, .ref r4, .ref se, .int ts, .int hou, .int dr, .int su, .int br])), (xp, .inl (cp, 4, .inr (.inr (.inr (.inr fp))))), (pot, .inr (2, [.ref gx, .int pm, .int pe, .int ps, .int pa]))] sz)) (vx_X (fun (_ : Unit) => True) (fun E (_ : Unit) (t : State) => ((E = "java/lang/IllegalArgumentException")) ∧ q_RW D [(cp, .object "Gatherhouse$Pot")] [(xo, .inr (6, [.ref xg, .int gc, .ref xp, .int pc, .ref xq, .int qc, .ref r1, .ref r2, .ref r3, .ref r4, .ref se, .int ts, .int hou, .int dr, .int su, .int br])), (xp, .inl (cp, 4, .inr (.inr (.inr (.inr fp))))), (pot, .inr (2, [.ref gx, .int pm, .int pe, .int ps, .int pa]))] (va_A [(xo, .inr (6, [.ref xg, .int gc, .ref xp, .int pc, .ref xq, .int qc, .ref r1, .ref r2, .ref r3, .ref r4, .ref se, .int ts, .int hou, .int dr, .int su, .int br])), (xp, .inl (cp, 4, .inr (.inr (.inr (.inr fp))))), (pot, .inr (2, [.ref gx, .int pm, .int pe, .int ps, .int pa]))] sz) t) (va_A [(xo, .inr (6, [.ref xg, .int gc, .ref xp, .int pc, .ref xq, .int qc, .ref r1, .ref r2, .ref r3, .ref r4, .ref se, .int ts, .int hou, .int dr, .int su, .int br])), (xp, .inl (cp, 4, .inr (.inr (.inr (.inr fp))))), (pot, .inr (2, [.ref gx, .int pm, .int pe, .int ps, .int pa]))] sz)) 1 6 (va_A [(xo, .inr (6, [.ref xg, .int gc, .ref xp, .int pc, .ref xq, .int qc, .ref r1, .ref r2, .ref r3, .ref r4, .ref se, .int ts, .int hou, .int dr, .int su, .int br])), (xp, .inl (cp, 4, .inr (.inr (.inr (.inr fp))))), (pot, .inr (2, [.ref gx, .int pm, .int pe, .int ps, .int pa]))] sz) := by
  refine vx_ofW (cc := cX6_of) (maxL := 4) (ret := (some .int)) (by decide) rfl ?_
  intro p e s m args below meth c s₁ B hml hxt hv
  obtain ⟨rfl, hsz, hP, hK, hD0, hT, hZ⟩ := hv
  have hx := B.exec
  have hb := B.bytes
  have hr := B.returns
  have hts := atoms_spec (ws := wzX6_of_x) B.pre
  have hown : s.vm.findClass RX6 = some m.cls := findClass_of_methodNamed B.named
  have hlocks := B.notSynchronized
  subst hsz
  have hD := hD0.self (sz := s.heap.size)
  generalize hAe : va_A [(xo, .inr (6, [.ref xg, .int gc, .ref xp, .int pc, .ref xq, .int qc, .ref r1, .ref r2, .ref r3, .ref r4, .ref se, .int ts, .int hou, .int dr, .int su, .int br])), (xp, .inl (cp, 4, .inr (.inr (.inr (.inr fp))))), (pot, .inr (2, [.ref gx, .int pm, .int pe, .int ps, .int pa]))] s.heap.size = A at hD hZ ⊢
  have hA : ∀ q : Nat, s.heap.size ≤ q → A q := fun q h => by rw [← hAe]; exact Or.inr h
  have hS : va_S A s.heap s.heap [] := va_S.rf
  have hl := lv_entry ([.ref xo, .int (nI k), .int 120]) (n := 4) (Nat.le_of_ble_eq_true rfl)
  rw [lg_entry_eq]
  generalize (lg_sl ([.ref xo, .int (nI k), .int 120]) ++ List.replicate (4 - (lg_sl ([.ref xo, .int (nI k), .int 120])).length) Slot.unset).toArray = ls at hl ⊢
  have hl : lv_has ls 4 [(0, .ref xo), (1, .int (nI k)), (2, .int 120)] := hl
  refine lv_aload_n hx hb dX6_of_0 rfl (lv_at hl 0 rfl) ?_
  refine lv_iload_n hx hb dX6_of_1 rfl (lv_at hl 1 rfl) ?_
  have hFc := va_free (wc := [(xo, .inr (6, [.ref xg, .int gc, .ref xp, .int pc, .ref xq, .int qc, .ref r1, .ref r2, .ref r3, .ref r4, .ref se, .int ts, .int hou, .int dr, .int su, .int br])), (xp, .inl (cp, 4, .inr (.inr (.inr (.inr fp)))))]) hD hS hA [0, 1] rfl
  refine vx_callq (vx_runV (As := [.int (nI k)]) (rest := []) ⟨hx, hb, hml, hown, hts⟩ (zc_X6_findPot_ok l hnt D G xo k xg gc xp pc xq qc r1 r2 r3 r4 se ts hou dr su br cp fp pot s.heap.size (by first | assumption | rfl | omega | exact Nat.le_trans (zS_le _ _ _) (by omega) | decide) (by first | assumption | rfl | omega | exact Nat.le_trans (zS_le _ _ _) (by omega) | decide)) (cwV 1 hts gzX6_of_x_X6_findPot_ok_102 rfl rfl rfl (by decide +kernel) ⟨(Nat.le_of_ble_eq_true rfl), (Nat.le_of_ble_eq_true rfl)⟩) ⟨p_RW_blind, va_recv hK hP (ci := 6) (q0 := 0) rfl rfl, (p_RW_at (tc := [(cp, .object "Gatherhouse$Pot")]) (wc := [(xo, .inr (6, [.ref xg, .int gc, .ref xp, .int pc, .ref xq, .int qc, .ref r1, .ref r2, .ref r3, .ref r4, .ref se, .int ts, .int hou, .int dr, .int su, .int br])), (xp, .inl (cp, 4, .inr (.inr (.inr (.inr fp)))))]) hP hK hD hS hA hT hZ [0, 1] [0] rfl rfl (by decide) rfl [.ref xo, .int (nI k)])⟩ rfl rfl hl.1 rfl (lv_room (Nat.le_of_ble_eq_true rfl)) dX6_of_2 ⟨(Nat.le_of_ble_eq_true rfl), (Nat.le_of_ble_eq_true rfl)⟩) hS (fun q _ h => hFc q h) hFc (fun q _ h => hFc q h) (fun E ce q9 u t H locs ht hvm hpx hBX hz1 hk1 hS hce hcv hcl => ?_) (fun r_404 u t H locs ht hvm w_405 hB hz1 hk1 hS => ?_)
  · exact (show False from hBX).elim
  · obtain ⟨hP, hD, hK⟩ := q_join (D := D) (wc := [(xo, .inr (6, [.ref xg, .int gc, .ref xp, .int pc, .ref xq, .int qc, .ref r1, .ref r2, .ref r3, .ref r4, .ref se, .int ts, .int hou, .int dr, .int su, .int br])), (xp, .inl (cp, 4, .inr (.inr (.inr (.inr fp)))))]) (wr := [(pot, .inr (2, [.ref gx, .int pm, .int pe, .int ps, .int pa]))]) (w1 := [(xo, .inr (6, [.ref xg, .int gc, .ref xp, .int pc, .ref xq, .int qc, .ref r1, .ref r2, .ref r3, .ref r4, .ref se, .int ts, .int hou, .int dr, .int su, .int br])), (xp, .inl (cp, 4, .inr (.inr (.inr (.inr fp)))))]) (tyr := []) (ty1 := [(cp, .object "Gatherhouse$Pot")]) hP hD hK [0, 1] [2] [] rfl rfl (by decide) (by decide) rfl hFc hk1 ht hvm hB
    have hP : va_P D vwCl [(pot, .inr (2, [.ref gx, .int pm, .int pe, .int ps, .int pa])), (xo, .inr (6, [.ref xg, .int gc, .ref xp, .int pc, .ref xq, .int qc, .ref r1, .ref r2, .ref r3, .ref r4, .ref se, .int ts, .int hou, .int dr, .int su, .int br])), (xp, .inl (cp, 4, .inr (.inr (.inr (.inr fp)))))] H := hP
    have hD : va_D A [(pot, .inr (2, [.ref gx, .int pm, .int pe, .int ps, .int pa])), (xo, .inr (6, [.ref xg, .int gc, .ref xp, .int pc, .ref xq, .int qc, .ref r1, .ref r2, .ref r3, .ref r4, .ref se, .int ts, .int hou, .int dr, .int su, .int br])), (xp, .inl (cp, 4, .inr (.inr (.inr (.inr fp)))))] := hD
    have hK : va_K D vwCl [(cp, .object "Gatherhouse$Pot")] s := hK
    obtain rfl := w_405
    refine W.eq (g2 := F0 m 5 ls [.ref pot]) rfl ?_
    refine lv_astore_n (lv' := [(3, .ref pot), (0, .ref xo), (1, .int (nI k)), (2, .int 120)]) hx hb dX6_of_5 rfl hl (by decide) rfl (fun ls hl => ?_)
    refine lv_iload_n hx hb dX6_of_6 rfl (lv_at hl 3 rfl) ?_
    refine lv_lookup (off := 61) (tgt := 68) hx hb dX6_of_7 (by decide) (by decide +kernel) (by decide) ?_
    obtain ⟨sa_406, hsa_406⟩ := hT.2.2.2.2.2.1 ("Gatherhouse", 120, "no such letter") (by decide +kernel)
    refine vx_throwS (own := RX6) (cls := "java/lang/IllegalArgumentException") (names := ["java/lang/RuntimeException", "java/lang/Exception"]) (A := A) hx hb hnt hown (by decide +kernel) (by decide +kernel) (hts (.classLink RX6 118 "java/lang/IllegalArgumentException") (by decide +kernel)) (hts (.initialized "java/lang/IllegalArgumentException") (by decide +kernel)) hsa_406 (z_throw (fun w h => hts w (ztX6_of_x_X6_122 w h)) (hT.2.2.1 ("java/lang/IllegalArgumentException", "java/lang/IllegalArgumentException") (by decide +kernel)) hT.2.2.2.2.2.2.2.1 (by decide +kernel)) (by decide +kernel) hZ.1 hZ.2.1 hS (hl.1.trans hml.symm) dX6_of_68 dX6_of_71 dX6_of_72 dX6_of_74 dX6_of_77 (fun x h => (hxt x h).elim) (Nat.le_of_ble_eq_true rfl) (Nat.le_of_ble_eq_true rfl) (Nat.le_of_ble_eq_true rfl) (Nat.le_of_ble_eq_true rfl) hlocks (fun t hvm hz1 hk1 => ⟨(), trivial, ⟨rfl, q_RW_th hP hK hD [1, 2, 0] [0] rfl rfl (by decide) rfl hk1 hvm⟩, ⟨Nat.le_trans hS.1 hz1, fun q h1 h2 => (hk1 q (Nat.lt_of_lt_of_le h1 hS.1)).trans (hS.2.1 q h1 h2)⟩⟩) hS.2.2 (Nat.le_of_ble_eq_true rfl) (Nat.le_of_ble_eq_true rfl)
theorem dX2_passHour_0 : decode cX2_passHour 0 = .ok (.aload_n 0, 1) := by decide +kernel
theorem dX2_passHour_1 : decode cX2_passHour 1 = .ok (.getfield 9, 3) := by decide +kernel
theorem dX2_passHour_4 : decode cX2_passHour 4 = .ok (.ifCond .le 17, 3) := by decide +kernel
theorem dX2_passHour_21 : decode cX2_passHour 21 = .ok (.aload_n 0, 1) := by decide +kernel
theorem dX2_passHour_22 : decode cX2_passHour 22 = .ok (.dup, 1) := by decide +kernel
theorem dX2_passHour_23 : decode cX2_passHour 23 = .ok (.getfield 21, 3) := by decide +kernel
theorem dX2_passHour_26 : decode cX2_passHour 26 = .ok (.iconst 1, 1) := by decide +kernel
theorem dX2_passHour_27 : decode cX2_passHour 27 = .ok (.iadd, 1) := by decide +kernel
theorem dX2_passHour_28 : decode cX2_passHour 28 = .ok (.putfield 21, 3) := by decide +kernel
theorem dX2_passHour_31 : decode cX2_passHour 31 = .ok (.aload_n 0, 1) := by decide +kernel
theorem dX2_passHour_32 : decode cX2_passHour 32 = .ok (.getfield 21, 3) := by decide +kernel
theorem dX2_passHour_35 : decode cX2_passHour 35 = .ok (.bipush 50, 2) := by decide +kernel
theorem dX2_passHour_37 : decode cX2_passHour 37 = .ok (.irem, 1) := by decide +kernel
theorem dX2_passHour_38 : decode cX2_passHour 38 = .ok (.ifCond .ne 13, 3) := by decide +kernel
theorem dX2_passHour_51 : decode cX2_passHour 51 = .ok (.return_, 1) := by decide +kernel
theorem dX2_passHour_41 : decode cX2_passHour 41 = .ok (.aload_n 0, 1) := by decide +kernel
theorem dX2_passHour_42 : decode cX2_passHour 42 = .ok (.dup, 1) := by decide +kernel
theorem dX2_passHour_43 : decode cX2_passHour 43 = .ok (.getfield 18, 3) := by decide +kernel
theorem dX2_passHour_46 : decode cX2_passHour 46 = .ok (.iconst 1, 1) := by decide +kernel
theorem dX2_passHour_47 : decode cX2_passHour 47 = .ok (.iadd, 1) := by decide +kernel
theorem dX2_passHour_48 : decode cX2_passHour 48 = .ok (.putfield 18, 3) := by decide +kernel
theorem dX2_passHour_7 : decode cX2_passHour 7 = .ok (.aload_n 0, 1) := by decide +kernel
theorem dX2_passHour_8 : decode cX2_passHour 8 = .ok (.iconst 0, 1) := by decide +kernel
theorem dX2_passHour_9 : decode cX2_passHour 9 = .ok (.aload_n 0, 1) := by decide +kernel
theorem dX2_passHour_10 : decode cX2_passHour 10 = .ok (.getfield 15, 3) := by decide +kernel
theorem dX2_passHour_13 : decode cX2_passHour 13 = .ok (.iconst 2, 1) := by decide +kernel
theorem dX2_passHour_14 : decode cX2_passHour 14 = .ok (.isub, 1) := by decide +kernel
theorem dX2_passHour_15 : decode cX2_passHour 15 = .ok (.invokestatic 28, 3) := by decide +kernel
theorem dX2_passHour_18 : decode cX2_passHour 18 = .ok (.putfield 15, 3) := by decide +kernel
def wzEX2_passHour : List Cond := [.code yX2_passHour cX2_passHour 1 none, .fieldLink RX2 9 "Gatherhouse$Pot" "mass" "I", .fieldLink RX2 21 "Gatherhouse$Pot" "age" "I", .fieldLink RX2 18 "Gatherhouse$Pot" "stones" "I", .fieldLink RX2 15 "Gatherhouse$Pot" "seeds" "I", .methodLink RX2 28 Lib.Math.max.name, .static Lib.Math.max.name, .initialized "java/lang/Math", .code Lib.Math.max.name Lib.Math.max.code 2 (some .int)]
def wzX2_passHour : List Cond := wzEX2_passHour ++ (u_ws RX2 TX2 5)
theorem zgEX2_passHour : wzEX2_passHour.all goodWord = true := by decide +kernel
theorem zuX2_passHour_X2 : ∀ w ∈ u_ws RX2 TX2 5, w ∈ wzX2_passHour := (fun _ h => (List.mem_append_right _ h))
set_option maxHeartbeats 4000000 in
set_option maxRecDepth 100000 in
theorem zc_X2_passHour (l : Launch) (D : va_G) (G : Nat × Nat × (Nat → Int32)) (pot : Nat) (gx : Nat) (pm : Nat) (pe : Nat) (ps : Nat) (pa : Nat) (sz : Nat) (hh_pm : pm ≤ 1000) (hh_pe : pe ≤ 1000) (hh_ps : ps ≤ 100000) (hh_pa : pa ≤ 100000) : Met l yX2_passHour wzX2_passHour ({ frames := 1, cells := 0, slots := 0, locals := 22 }) (va_Pc [.ref pot] (p_RW D G [] [(pot, .inr (2, [.ref gx, .int (nI pm), .int (nI pe), .int (nI ps), .int (nI pa)]))] sz)) (va_Qv (fun (u : Unit) => True) (fun (u : Unit) (t : State) => q_RW D [] [(pot, .inr (2, [.ref gx, .int (nI pm), .int (nI (zS pm pe 1)), .int (nI (ps + ((pa + 1) / 50 - pa / 50))), .int (nI (pa + 1))]))] (va_A [(pot, .inr (2, [.ref gx, .int (nI pm), .int (nI pe), .int (nI ps), .int (nI pa)]))] sz) t) (va_A [(pot, .inr (2, [.ref gx, .int (nI pm), .int (nI pe), .int (nI ps), .int (nI pa)]))] sz)) 0 0 (va_A [(pot, .inr (2, [.ref gx, .int (nI pm), .int (nI pe), .int (nI ps), .int (nI pa)]))] sz) := by
  refine Met.ofW (cc := cX2_passHour) (maxL := 1) (ret := none) (by decide) rfl ?_
  intro p e s m args below meth c s₁ B hml hv
  obtain ⟨rfl, hsz, hP, hK, hD0, hT, hZ⟩ := hv
  have hx := B.exec
  have hb := B.bytes
  have hr := B.returns
  have hts := atoms_spec (ws := wzX2_passHour) B.pre
  have hown : s.vm.findClass RX2 = some m.cls := findClass_of_methodNamed B.named
  have hlocks := B.notSynchronized
  subst hsz
  have hD := hD0.self (sz := s.heap.size)
  generalize hAe : va_A [(pot, .inr (2, [.ref gx, .int (nI pm), .int (nI pe), .int (nI ps), .int (nI pa)]))] s.heap.size = A at hD hZ ⊢
  have hA : ∀ q : Nat, s.heap.size ≤ q → A q := fun q h => by rw [← hAe]; exact Or.inr h
  have hS : va_S A s.heap s.heap [] := va_S.rf
  have hl := lv_entry ([.ref pot]) (n := 1) (Nat.le_of_ble_eq_true rfl)
  rw [lg_entry_eq]
  generalize (lg_sl ([.ref pot]) ++ List.replicate (1 - (lg_sl ([.ref pot])).length) Slot.unset).toArray = ls at hl ⊢
  have hl : lv_has ls 1 [(0, .ref pot)] := hl
  refine lv_aload_n hx hb dX2_passHour_0 rfl (lv_at hl 0 rfl) ?_
  refine va_get (D := D) (cl := vwCl) (ci := 2) (v := .int (nI pm)) (C := RX2) (T := TX2) (N := 5) hx hb hts zuX2_passHour_X2 hown hK hP 0 rfl rfl 1 (by decide) (hts (.fieldLink RX2 9 "Gatherhouse$Pot" "mass" "I") (by decide +kernel)) (fun _ h9 => h9) rfl dX2_passHour_1 ?_
  refine lv_if_le (tgt := 21) hx hb dX2_passHour_4 (by decide) (fun c_407 => ?_) (fun c_407 => ?_)
  · have n_408 : pm ≤ 0 := (nI_leI (a := pm) (b := 0) (by omega) (by omega)).mp c_407
    refine lv_aload_n hx hb dX2_passHour_21 rfl (lv_at hl 0 rfl) ?_
    refine lv_dup hx hb dX2_passHour_22 rfl ?_
    refine va_get (D := D) (cl := vwCl) (ci := 2) (v := .int (nI pa)) (C := RX2) (T := TX2) (N := 5) hx hb hts zuX2_passHour_X2 hown hK hP 0 rfl rfl 4 (by decide) (hts (.fieldLink RX2 21 "Gatherhouse$Pot" "age" "I") (by decide +kernel)) (fun _ h9 => h9) rfl dX2_passHour_23 ?_
    refine lv_iconst (v := 1) hx hb dX2_passHour_26 (by decide) ?_
    refine lv_iadd hx hb dX2_passHour_27 ?_
    refine lv_topi (fun y_409 ey_409 => ?_)
    have ey_409 : y_409 = (nI (pa + 1)) := ey_409.trans (nI_add pa 1)
    subst ey_409
    refine va_put (D := D) (cl := vwCl) (ci := 2) (v := .int (nI (pa + 1))) (ty := .int) (C := RX2) (T := TX2) (N := 5) hx hb hts zuX2_passHour_X2 tyX2 tyX2_ok nmX2 hown hK hP hD hS 0 rfl rfl 4 (by decide) (hts (.fieldLink RX2 21 "Gatherhouse$Pot" "age" "I") (by decide +kernel)) (fun _ h9 => h9) rfl (by decide +kernel) rfl rfl (Nat.le_of_ble_eq_true rfl) dX2_passHour_28 (fun H locs hP hD hS => ?_)
    have hP : va_P D vwCl [(pot, .inr (2, [.ref gx, .int (nI pm), .int (nI pe), .int (nI ps), .int (nI (pa + 1))]))] H := hP
    have hD : va_D A [(pot, .inr (2, [.ref gx, .int (nI pm), .int (nI pe), .int (nI ps), .int (nI (pa + 1))]))] := hD
    refine lv_aload_n hx hb dX2_passHour_31 rfl (lv_at hl 0 rfl) ?_
    refine va_get (D := D) (cl := vwCl) (ci := 2) (v := .int (nI (pa + 1))) (C := RX2) (T := TX2) (N := 5) hx hb hts zuX2_passHour_X2 hown hK hP 0 rfl rfl 4 (by decide) (hts (.fieldLink RX2 21 "Gatherhouse$Pot" "age" "I") (by decide +kernel)) (fun _ h9 => h9) rfl dX2_passHour_32 ?_
    refine lv_bipush (v := 50) hx hb dX2_passHour_35 (by decide) ?_
    refine lv_irem hx hb dX2_passHour_37 (by decide) ?_
    refine lv_topi (fun y_410 ey_410 => ?_)
    have ey_410 : y_410 = (nI ((pa + 1) % 50)) := ey_410.trans (pk_rem (a := (pa + 1)) (d := 50) (by omega) (by omega) (by omega))
    subst ey_410
    refine lv_if_ne (tgt := 51) hx hb dX2_passHour_38 (by decide) (fun c_411 => ?_) (fun c_411 => ?_)
    · have n_412 : ¬ ((pa + 1) % 50 = 0) := fun z => c_411 ((nI_eq (a := (pa + 1) % 50) (b := 0) (by omega) (by omega)).mpr z)
      have hw9 : ([(pot, .inr (2, [.ref gx, .int (nI pm), .int (nI pe), .int (nI ps), .int (nI (pa + 1))]))] : va_W) = [(pot, .inr (2, [.ref gx, .int (nI pm), .int (nI (zS pm pe 1)), .int (nI (ps + ((pa + 1) / 50 - pa / 50))), .int (nI (pa + 1))]))] := by
        have z_413 : (nI pe : Int32) = nI (zS pm pe 1) := (by first | rfl | exact congrArg nI (by omega) | exact congrArg nI (by simp only [zS]; omega) | exact congrArg nI (by simp only [zS]; split <;> omega) | exact congrArg nI (by simp only [zS]; split <;> split <;> omega) | (simp only [zS]; omega) | (simp only [zS]; split <;> omega))
        have z_414 : (nI ps : Int32) = nI (ps + ((pa + 1) / 50 - pa / 50)) := (by first | rfl | exact congrArg nI (by omega) | exact congrArg nI (by simp only [zS]; omega) | exact congrArg nI (by simp only [zS]; split <;> omega) | exact congrArg nI (by simp only [zS]; split <;> split <;> omega) | (simp only [zS]; omega) | (simp only [zS]; split <;> omega))
        first | rfl | rw [z_413, z_414] | rw [← z_413, ← z_414] | simp only [z_413, z_414]
      have hP : va_P D vwCl [(pot, .inr (2, [.ref gx, .int (nI pm), .int (nI (zS pm pe 1)), .int (nI (ps + ((pa + 1) / 50 - pa / 50))), .int (nI (pa + 1))]))] H := by rw [← hw9]; exact hP
      have hD : va_D A [(pot, .inr (2, [.ref gx, .int (nI pm), .int (nI (zS pm pe 1)), .int (nI (ps + ((pa + 1) / 50 - pa / 50))), .int (nI (pa + 1))]))] := by rw [← hw9]; exact hD
      exact W.vret hx hb hr (fun t ht hW => ⟨⟨(), rfl, trivial, q_RW_mk hP hK hD [0] [] rfl rfl (by decide) rfl ht hW.alike⟩, hS.F ht⟩) hS.2.2 dX2_passHour_51
    · have n_415 : (pa + 1) % 50 = 0 := (nI_eq (a := (pa + 1) % 50) (b := 0) (by omega) (by omega)).mp c_411
      refine lv_aload_n hx hb dX2_passHour_41 rfl (lv_at hl 0 rfl) ?_
      refine lv_dup hx hb dX2_passHour_42 rfl ?_
      refine va_get (D := D) (cl := vwCl) (ci := 2) (v := .int (nI ps)) (C := RX2) (T := TX2) (N := 5) hx hb hts zuX2_passHour_X2 hown hK hP 0 rfl rfl 3 (by decide) (hts (.fieldLink RX2 18 "Gatherhouse$Pot" "stones" "I") (by decide +kernel)) (fun _ h9 => h9) rfl dX2_passHour_43 ?_
      refine lv_iconst (v := 1) hx hb dX2_passHour_46 (by decide) ?_
      refine lv_iadd hx hb dX2_passHour_47 ?_
      refine lv_topi (fun y_416 ey_416 => ?_)
      have ey_416 : y_416 = (nI (ps + 1)) := ey_416.trans (nI_add ps 1)
      subst ey_416
      refine va_put (D := D) (cl := vwCl) (ci := 2) (v := .int (nI (ps + 1))) (ty := .int) (C := RX2) (T := TX2) (N := 5) hx hb hts zuX2_passHour_X2 tyX2 tyX2_ok nmX2 hown hK hP hD hS 0 rfl rfl 3 (by decide) (hts (.fieldLink RX2 18 "Gatherhouse$Pot" "stones" "I") (by decide +kernel)) (fun _ h9 => h9) rfl (by decide +kernel) rfl rfl (Nat.le_of_ble_eq_true rfl) dX2_passHour_48 (fun H locs hP hD hS => ?_)
      have hP : va_P D vwCl [(pot, .inr (2, [.ref gx, .int (nI pm), .int (nI pe), .int (nI (ps + 1)), .int (nI (pa + 1))]))] H := hP
      have hD : va_D A [(pot, .inr (2, [.ref gx, .int (nI pm), .int (nI pe), .int (nI (ps + 1)), .int (nI (pa + 1))]))] := hD
      have hw9 : ([(pot, .inr (2, [.ref gx, .int (nI pm), .int (nI pe), .int (nI (ps + 1)), .int (nI (pa + 1))]))] : va_W) = [(pot, .inr (2, [.ref gx, .int (nI pm), .int (nI (zS pm pe 1)), .int (nI (ps + ((pa + 1) / 50 - pa / 50))), .int (nI (pa + 1))]))] := by
        have z_417 : (nI pe : Int32) = nI (zS pm pe 1) := (by first | rfl | exact congrArg nI (by omega) | exact congrArg nI (by simp only [zS]; omega) | exact congrArg nI (by simp only [zS]; split <;> omega) | exact congrArg nI (by simp only [zS]; split <;> split <;> omega) | (simp only [zS]; omega) | (simp only [zS]; split <;> omega))
        have z_418 : (nI (ps + 1) : Int32) = nI (ps + ((pa + 1) / 50 - pa / 50)) := (by first | rfl | exact congrArg nI (by omega) | exact congrArg nI (by simp only [zS]; omega) | exact congrArg nI (by simp only [zS]; split <;> omega) | exact congrArg nI (by simp only [zS]; split <;> split <;> omega) | (simp only [zS]; omega) | (simp only [zS]; split <;> omega))
        first | rfl | rw [z_417, z_418] | rw [← z_417, ← z_418] | simp only [z_417, z_418]
      have hP : va_P D vwCl [(pot, .inr (2, [.ref gx, .int (nI pm), .int (nI (zS pm pe 1)), .int (nI (ps + ((pa + 1) / 50 - pa / 50))), .int (nI (pa + 1))]))] H := by rw [← hw9]; exact hP
      have hD : va_D A [(pot, .inr (2, [.ref gx, .int (nI pm), .int (nI (zS pm pe 1)), .int (nI (ps + ((pa + 1) / 50 - pa / 50))), .int (nI (pa + 1))]))] := by rw [← hw9]; exact hD
      exact W.vret hx hb hr (fun t ht hW => ⟨⟨(), rfl, trivial, q_RW_mk hP hK hD [0] [] rfl rfl (by decide) rfl ht hW.alike⟩, hS.F ht⟩) hS.2.2 dX2_passHour_51
  · have n_419 : ¬ (pm ≤ 0) := fun z => c_407 ((nI_leI (a := pm) (b := 0) (by omega) (by omega)).mpr z)
    refine lv_aload_n hx hb dX2_passHour_7 rfl (lv_at hl 0 rfl) ?_
    refine lv_iconst (v := 0) hx hb dX2_passHour_8 (by decide) ?_
    refine lv_aload_n hx hb dX2_passHour_9 rfl (lv_at hl 0 rfl) ?_
    refine va_get (D := D) (cl := vwCl) (ci := 2) (v := .int (nI pe)) (C := RX2) (T := TX2) (N := 5) hx hb hts zuX2_passHour_X2 hown hK hP 0 rfl rfl 2 (by decide) (hts (.fieldLink RX2 15 "Gatherhouse$Pot" "seeds" "I") (by decide +kernel)) (fun _ h9 => h9) rfl dX2_passHour_10 ?_
    refine lv_iconst (v := 2) hx hb dX2_passHour_13 (by decide) ?_
    refine lv_isub hx hb dX2_passHour_14 ?_
    refine va_mmax hx hb (hml.trans hl.1.symm) hown (hts (.methodLink RX2 28 Lib.Math.max.name) (by decide +kernel)) (hts (.static Lib.Math.max.name) (by decide +kernel)) (hts (.initialized "java/lang/Math") (by decide +kernel)) (hts (.code Lib.Math.max.name Lib.Math.max.code 2 (some .int)) (by decide +kernel)) (Nat.le_of_ble_eq_true rfl) (Nat.le_of_ble_eq_true rfl) (Nat.le_of_ble_eq_true rfl) (Nat.le_of_ble_eq_true rfl) dX2_passHour_15 ?_
    refine lv_topi (fun y_420 ey_420 => ?_)
    have ey_420 : y_420 = (nI (pe - 2)) := ey_420.trans (z_msub (a := pe) (c := 2) (by omega) (by omega) (by omega))
    subst ey_420
    refine va_put (D := D) (cl := vwCl) (ci := 2) (v := .int (nI (pe - 2))) (ty := .int) (C := RX2) (T := TX2) (N := 5) hx hb hts zuX2_passHour_X2 tyX2 tyX2_ok nmX2 hown hK hP hD hS 0 rfl rfl 2 (by decide) (hts (.fieldLink RX2 15 "Gatherhouse$Pot" "seeds" "I") (by decide +kernel)) (fun _ h9 => h9) rfl (by decide +kernel) rfl rfl (Nat.le_of_ble_eq_true rfl) dX2_passHour_18 (fun H locs hP hD hS => ?_)
    have hP : va_P D vwCl [(pot, .inr (2, [.ref gx, .int (nI pm), .int (nI (pe - 2)), .int (nI ps), .int (nI pa)]))] H := hP
    have hD : va_D A [(pot, .inr (2, [.ref gx, .int (nI pm), .int (nI (pe - 2)), .int (nI ps), .int (nI pa)]))] := hD
    refine lv_aload_n hx hb dX2_passHour_21 rfl (lv_at hl 0 rfl) ?_
    refine lv_dup hx hb dX2_passHour_22 rfl ?_
    refine va_get (D := D) (cl := vwCl) (ci := 2) (v := .int (nI pa)) (C := RX2) (T := TX2) (N := 5) hx hb hts zuX2_passHour_X2 hown hK hP 0 rfl rfl 4 (by decide) (hts (.fieldLink RX2 21 "Gatherhouse$Pot" "age" "I") (by decide +kernel)) (fun _ h9 => h9) rfl dX2_passHour_23 ?_
    refine lv_iconst (v := 1) hx hb dX2_passHour_26 (by decide) ?_
    refine lv_iadd hx hb dX2_passHour_27 ?_
    refine lv_topi (fun y_421 ey_421 => ?_)
    have ey_421 : y_421 = (nI (pa + 1)) := ey_421.trans (nI_add pa 1)
    subst ey_421
    refine va_put (D := D) (cl := vwCl) (ci := 2) (v := .int (nI (pa + 1))) (ty := .int) (C := RX2) (T := TX2) (N := 5) hx hb hts zuX2_passHour_X2 tyX2 tyX2_ok nmX2 hown hK hP hD hS 0 rfl rfl 4 (by decide) (hts (.fieldLink RX2 21 "Gatherhouse$Pot" "age" "I") (by decide +kernel)) (fun _ h9 => h9) rfl (by decide +kernel) rfl rfl (Nat.le_of_ble_eq_true rfl) dX2_passHour_28 (fun H locs hP hD hS => ?_)
    have hP : va_P D vwCl [(pot, .inr (2, [.ref gx, .int (nI pm), .int (nI (pe - 2)), .int (nI ps), .int (nI (pa + 1))]))] H := hP
    have hD : va_D A [(pot, .inr (2, [.ref gx, .int (nI pm), .int (nI (pe - 2)), .int (nI ps), .int (nI (pa + 1))]))] := hD
    refine lv_aload_n hx hb dX2_passHour_31 rfl (lv_at hl 0 rfl) ?_
    refine va_get (D := D) (cl := vwCl) (ci := 2) (v := .int (nI (pa + 1))) (C := RX2) (T := TX2) (N := 5) hx hb hts zuX2_passHour_X2 hown hK hP 0 rfl rfl 4 (by decide) (hts (.fieldLink RX2 21 "Gatherhouse$Pot" "age" "I") (by decide +kernel)) (fun _ h9 => h9) rfl dX2_passHour_32 ?_
    refine lv_bipush (v := 50) hx hb dX2_passHour_35 (by decide) ?_
    refine lv_irem hx hb dX2_passHour_37 (by decide) ?_
    refine lv_topi (fun y_422 ey_422 => ?_)
    have ey_422 : y_422 = (nI ((pa + 1) % 50)) := ey_422.trans (pk_rem (a := (pa + 1)) (d := 50) (by omega) (by omega) (by omega))
    subst ey_422
    refine lv_if_ne (tgt := 51) hx hb dX2_passHour_38 (by decide) (fun c_423 => ?_) (fun c_423 => ?_)
    · have n_424 : ¬ ((pa + 1) % 50 = 0) := fun z => c_423 ((nI_eq (a := (pa + 1) % 50) (b := 0) (by omega) (by omega)).mpr z)
      have hw9 : ([(pot, .inr (2, [.ref gx, .int (nI pm), .int (nI (pe - 2)), .int (nI ps), .int (nI (pa + 1))]))] : va_W) = [(pot, .inr (2, [.ref gx, .int (nI pm), .int (nI (zS pm pe 1)), .int (nI (ps + ((pa + 1) / 50 - pa / 50))), .int (nI (pa + 1))]))] := by
        have z_425 : (nI (pe - 2) : Int32) = nI (zS pm pe 1) := (by first | rfl | exact congrArg nI (by omega) | exact congrArg nI (by simp only [zS]; omega) | exact congrArg nI (by simp only [zS]; split <;> omega) | exact congrArg nI (by simp only [zS]; split <;> split <;> omega) | (simp only [zS]; omega) | (simp only [zS]; split <;> omega))
        have z_426 : (nI ps : Int32) = nI (ps + ((pa + 1) / 50 - pa / 50)) := (by first | rfl | exact congrArg nI (by omega) | exact congrArg nI (by simp only [zS]; omega) | exact congrArg nI (by simp only [zS]; split <;> omega) | exact congrArg nI (by simp only [zS]; split <;> split <;> omega) | (simp only [zS]; omega) | (simp only [zS]; split <;> omega))
        first | rfl | rw [z_425, z_426] | rw [← z_425, ← z_426] | simp only [z_425, z_426]
      have hP : va_P D vwCl [(pot, .inr (2, [.ref gx, .int (nI pm), .int (nI (zS pm pe 1)), .int (nI (ps + ((pa + 1) / 50 - pa / 50))), .int (nI (pa + 1))]))] H := by rw [← hw9]; exact hP
      have hD : va_D A [(pot, .inr (2, [.ref gx, .int (nI pm), .int (nI (zS pm pe 1)), .int (nI (ps + ((pa + 1) / 50 - pa / 50))), .int (nI (pa + 1))]))] := by rw [← hw9]; exact hD
      exact W.vret hx hb hr (fun t ht hW => ⟨⟨(), rfl, trivial, q_RW_mk hP hK hD [0] [] rfl rfl (by decide) rfl ht hW.alike⟩, hS.F ht⟩) hS.2.2 dX2_passHour_51
    · have n_427 : (pa + 1) % 50 = 0 := (nI_eq (a := (pa + 1) % 50) (b := 0) (by omega) (by omega)).mp c_423
      refine lv_aload_n hx hb dX2_passHour_41 rfl (lv_at hl 0 rfl) ?_
      refine lv_dup hx hb dX2_passHour_42 rfl ?_
      refine va_get (D := D) (cl := vwCl) (ci := 2) (v := .int (nI ps)) (C := RX2) (T := TX2) (N := 5) hx hb hts zuX2_passHour_X2 hown hK hP 0 rfl rfl 3 (by decide) (hts (.fieldLink RX2 18 "Gatherhouse$Pot" "stones" "I") (by decide +kernel)) (fun _ h9 => h9) rfl dX2_passHour_43 ?_
      refine lv_iconst (v := 1) hx hb dX2_passHour_46 (by decide) ?_
      refine lv_iadd hx hb dX2_passHour_47 ?_
      refine lv_topi (fun y_428 ey_428 => ?_)
      have ey_428 : y_428 = (nI (ps + 1)) := ey_428.trans (nI_add ps 1)
      subst ey_428
      refine va_put (D := D) (cl := vwCl) (ci := 2) (v := .int (nI (ps + 1))) (ty := .int) (C := RX2) (T := TX2) (N := 5) hx hb hts zuX2_passHour_X2 tyX2 tyX2_ok nmX2 hown hK hP hD hS 0 rfl rfl 3 (by decide) (hts (.fieldLink RX2 18 "Gatherhouse$Pot" "stones" "I") (by decide +kernel)) (fun _ h9 => h9) rfl (by decide +kernel) rfl rfl (Nat.le_of_ble_eq_true rfl) dX2_passHour_48 (fun H locs hP hD hS => ?_)
      have hP : va_P D vwCl [(pot, .inr (2, [.ref gx, .int (nI pm), .int (nI (pe - 2)), .int (nI (ps + 1)), .int (nI (pa + 1))]))] H := hP
      have hD : va_D A [(pot, .inr (2, [.ref gx, .int (nI pm), .int (nI (pe - 2)), .int (nI (ps + 1)), .int (nI (pa + 1))]))] := hD
      have hw9 : ([(pot, .inr (2, [.ref gx, .int (nI pm), .int (nI (pe - 2)), .int (nI (ps + 1)), .int (nI (pa + 1))]))] : va_W) = [(pot, .inr (2, [.ref gx, .int (nI pm), .int (nI (zS pm pe 1)), .int (nI (ps + ((pa + 1) / 50 - pa / 50))), .int (nI (pa + 1))]))] := by
        have z_429 : (nI (pe - 2) : Int32) = nI (zS pm pe 1) := (by first | rfl | exact congrArg nI (by omega) | exact congrArg nI (by simp only [zS]; omega) | exact congrArg nI (by simp only [zS]; split <;> omega) | exact congrArg nI (by simp only [zS]; split <;> split <;> omega) | (simp only [zS]; omega) | (simp only [zS]; split <;> omega))
        have z_430 : (nI (ps + 1) : Int32) = nI (ps + ((pa + 1) / 50 - pa / 50)) := (by first | rfl | exact congrArg nI (by omega) | exact congrArg nI (by simp only [zS]; omega) | exact congrArg nI (by simp only [zS]; split <;> omega) | exact congrArg nI (by simp only [zS]; split <;> split <;> omega) | (simp only [zS]; omega) | (simp only [zS]; split <;> omega))
        first | rfl | rw [z_429, z_430] | rw [← z_429, ← z_430] | simp only [z_429, z_430]
      have hP : va_P D vwCl [(pot, .inr (2, [.ref gx, .int (nI pm), .int (nI (zS pm pe 1)), .int (nI (ps + ((pa + 1) / 50 - pa / 50))), .int (nI (pa + 1))]))] H := by rw [← hw9]; exact hP
      have hD : va_D A [(pot, .inr (2, [.ref gx, .int (nI pm), .int (nI (zS pm pe 1)), .int (nI (ps + ((pa + 1) / 50 - pa / 50))), .int (nI (pa + 1))]))] := by rw [← hw9]; exact hD
      exact W.vret hx hb hr (fun t ht hW => ⟨⟨(), rfl, trivial, q_RW_mk hP hK hD [0] [] rfl rfl (by decide) rfl ht hW.alike⟩, hS.F ht⟩) hS.2.2 dX2_passHour_51
theorem dX6_passHour_0 : decode cX6_passHour 0 = .ok (.aload_n 0, 1) := by decide +kernel
theorem dX6_passHour_1 : decode cX6_passHour 1 = .ok (.getfield 63, 3) := by decide +kernel
theorem dX6_passHour_4 : decode cX6_passHour 4 = .ok (.bipush 24, 2) := by decide +kernel
theorem dX6_passHour_6 : decode cX6_passHour 6 = .ok (.idiv, 1) := by decide +kernel
theorem dX6_passHour_7 : decode cX6_passHour 7 = .ok (.istore_n 1, 1) := by decide +kernel
theorem dX6_passHour_8 : decode cX6_passHour 8 = .ok (.aload_n 0, 1) := by decide +kernel
theorem dX6_passHour_9 : decode cX6_passHour 9 = .ok (.dup, 1) := by decide +kernel
theorem dX6_passHour_10 : decode cX6_passHour 10 = .ok (.getfield 63, 3) := by decide +kernel
theorem dX6_passHour_13 : decode cX6_passHour 13 = .ok (.iconst 1, 1) := by decide +kernel
theorem dX6_passHour_14 : decode cX6_passHour 14 = .ok (.iadd, 1) := by decide +kernel
theorem dX6_passHour_15 : decode cX6_passHour 15 = .ok (.putfield 63, 3) := by decide +kernel
theorem dX6_passHour_18 : decode cX6_passHour 18 = .ok (.aload_n 0, 1) := by decide +kernel
theorem dX6_passHour_19 : decode cX6_passHour 19 = .ok (.getfield 21, 3) := by decide +kernel
theorem dX6_passHour_22 : decode cX6_passHour 22 = .ok (.astore_n 2, 1) := by decide +kernel
theorem dX6_passHour_23 : decode cX6_passHour 23 = .ok (.aload_n 2, 1) := by decide +kernel
theorem dX6_passHour_24 : decode cX6_passHour 24 = .ok (.arraylength, 1) := by decide +kernel
theorem dX6_passHour_25 : decode cX6_passHour 25 = .ok (.istore_n 3, 1) := by decide +kernel
theorem dX6_passHour_26 : decode cX6_passHour 26 = .ok (.iconst 0, 1) := by decide +kernel
theorem dX6_passHour_27 : decode cX6_passHour 27 = .ok (.istore 4, 2) := by decide +kernel
theorem dX6_passHour_29 : decode cX6_passHour 29 = .ok (.iload 4, 2) := by decide +kernel
theorem dX6_passHour_31 : decode cX6_passHour 31 = .ok (.iload_n 3, 1) := by decide +kernel
theorem dX6_passHour_32 : decode cX6_passHour 32 = .ok (.if_icmp .ge 25, 3) := by decide +kernel
theorem dX6_passHour_35 : decode cX6_passHour 35 = .ok (.aload_n 2, 1) := by decide +kernel
theorem dX6_passHour_36 : decode cX6_passHour 36 = .ok (.iload 4, 2) := by decide +kernel
theorem dX6_passHour_38 : decode cX6_passHour 38 = .ok (.aaload, 1) := by decide +kernel
theorem dX6_passHour_39 : decode cX6_passHour 39 = .ok (.astore 5, 2) := by decide +kernel
theorem dX6_passHour_41 : decode cX6_passHour 41 = .ok (.aload 5, 2) := by decide +kernel
theorem dX6_passHour_43 : decode cX6_passHour 43 = .ok (.ifnull 8, 3) := by decide +kernel
theorem dX6_passHour_46 : decode cX6_passHour 46 = .ok (.aload 5, 2) := by decide +kernel
theorem dX6_passHour_48 : decode cX6_passHour 48 = .ok (.invokevirtual 399, 3) := by decide +kernel
theorem dX6_passHour_51 : decode cX6_passHour 51 = .ok (.iinc 4 1, 3) := by decide +kernel
theorem dX6_passHour_54 : decode cX6_passHour 54 = .ok (.goto (-25), 3) := by decide +kernel
theorem dX6_passHour_57 : decode cX6_passHour 57 = .ok (.iconst 0, 1) := by decide +kernel
theorem dX6_passHour_58 : decode cX6_passHour 58 = .ok (.istore_n 2, 1) := by decide +kernel
theorem dX6_passHour_59 : decode cX6_passHour 59 = .ok (.aload_n 0, 1) := by decide +kernel
theorem dX6_passHour_60 : decode cX6_passHour 60 = .ok (.getfield 30, 3) := by decide +kernel
theorem dX6_passHour_63 : decode cX6_passHour 63 = .ok (.astore_n 3, 1) := by decide +kernel
theorem dX6_passHour_64 : decode cX6_passHour 64 = .ok (.aload_n 3, 1) := by decide +kernel
theorem dX6_passHour_65 : decode cX6_passHour 65 = .ok (.arraylength, 1) := by decide +kernel
theorem dX6_passHour_66 : decode cX6_passHour 66 = .ok (.istore 4, 2) := by decide +kernel
theorem dX6_passHour_68 : decode cX6_passHour 68 = .ok (.iconst 0, 1) := by decide +kernel
theorem dX6_passHour_69 : decode cX6_passHour 69 = .ok (.istore 5, 2) := by decide +kernel
theorem dX6_passHour_71 : decode cX6_passHour 71 = .ok (.iload 5, 2) := by decide +kernel
theorem dX6_passHour_73 : decode cX6_passHour 73 = .ok (.iload 4, 2) := by decide +kernel
theorem dX6_passHour_75 : decode cX6_passHour 75 = .ok (.if_icmp .ge 56, 3) := by decide +kernel
theorem dX6_passHour_78 : decode cX6_passHour 78 = .ok (.aload_n 3, 1) := by decide +kernel
theorem dX6_passHour_79 : decode cX6_passHour 79 = .ok (.iload 5, 2) := by decide +kernel
theorem dX6_passHour_81 : decode cX6_passHour 81 = .ok (.aaload, 1) := by decide +kernel
theorem dX6_passHour_82 : decode cX6_passHour 82 = .ok (.astore 6, 2) := by decide +kernel
theorem dX6_passHour_84 : decode cX6_passHour 84 = .ok (.aload 6, 2) := by decide +kernel
theorem dX6_passHour_86 : decode cX6_passHour 86 = .ok (.ifnull 39, 3) := by decide +kernel
theorem dX6_passHour_125 : decode cX6_passHour 125 = .ok (.iinc 5 1, 3) := by decide +kernel
theorem dX6_passHour_128 : decode cX6_passHour 128 = .ok (.goto (-57), 3) := by decide +kernel
theorem dX6_passHour_131 : decode cX6_passHour 131 = .ok (.aload_n 0, 1) := by decide +kernel
theorem dX6_passHour_132 : decode cX6_passHour 132 = .ok (.getfield 63, 3) := by decide +kernel
theorem dX6_passHour_135 : decode cX6_passHour 135 = .ok (.bipush 24, 2) := by decide +kernel
theorem dX6_passHour_137 : decode cX6_passHour 137 = .ok (.irem, 1) := by decide +kernel
theorem dX6_passHour_138 : decode cX6_passHour 138 = .ok (.ifCond .ne 8, 3) := by decide +kernel
theorem dX6_passHour_146 : decode cX6_passHour 146 = .ok (.iload_n 2, 1) := by decide +kernel
theorem dX6_passHour_147 : decode cX6_passHour 147 = .ok (.ireturn, 1) := by decide +kernel
theorem dX6_passHour_141 : decode cX6_passHour 141 = .ok (.aload_n 0, 1) := by decide +kernel
theorem dX6_passHour_142 : decode cX6_passHour 142 = .ok (.iload_n 1, 1) := by decide +kernel
theorem dX6_passHour_143 : decode cX6_passHour 143 = .ok (.invokevirtual 405, 3) := by decide +kernel
def wzEX6_passHour_2 : List Cond := [.code yX6_passHour cX6_passHour 7 (some .int), .fieldLink RX6 63 "Gatherhouse" "hoursGone" "I", .fieldLink RX6 21 "Gatherhouse" "pots" "[LGatherhouse$Pot;", .code yX2_passHour cX2_passHour 1 none, .fieldLink RX2 9 "Gatherhouse$Pot" "mass" "I", .fieldLink RX2 21 "Gatherhouse$Pot" "age" "I", .fieldLink RX2 18 "Gatherhouse$Pot" "stones" "I", .fieldLink RX2 15 "Gatherhouse$Pot" "seeds" "I", .methodLink RX2 28 Lib.Math.max.name, .static Lib.Math.max.name, .initialized "java/lang/Math", .code Lib.Math.max.name Lib.Math.max.code 2 (some .int), .initialized RX2, .instanceMethod yX2_passHour, .selects RX2 yX2_passHour yX2_passHour, .fieldLink RX6 30 "Gatherhouse" "pieces" "[LGatherhouse$Piece;", .methodLink RX6 405 yX6_endDay, .instanceMethod yX6_endDay, .selects RX6 yX6_endDay yX6_endDay, .initialized RX6, .code yX6_endDay cX6_endDay 6 none]
def wzX6_passHour_2 : List Cond := wzEX6_passHour_2 ++ (u_ws RX6 TX6 16 ++ (u_ws RX2 TX2 5))
theorem zgEX6_passHour_2 : wzEX6_passHour_2.all goodWord = true := by decide +kernel
theorem zuX6_passHour_2_X6 : ∀ w ∈ u_ws RX6 TX6 16, w ∈ wzX6_passHour_2 := (fun _ h => (List.mem_append_right _ (List.mem_append_left _ h)))
theorem zuX6_passHour_2_X2 : ∀ w ∈ u_ws RX2 TX2 5, w ∈ wzX6_passHour_2 := (fun _ h => (List.mem_append_right _ (List.mem_append_right _ h)))
theorem gzX6_passHour_2_X2_passHour_399 : GoodIn wzX6_passHour_2 (wzX2_passHour) := (goodIn_app (z_lift (goodIn_r wzEX2_passHour [3, 4, 5, 6, 7, 8, 9, 10, 11] rfl zgEX2_passHour)) (goodIn_sub (fun _ h => (List.mem_append_right _ (List.mem_append_right _ h))) zgU_X2))
theorem gzX6_passHour_2_X6_endDay_405 : GoodIn wzX6_passHour_2 (wsV RX6 405 RX6 yX6_endDay wzX6_endDay) := (goodIn_app (z_lift (goodIn_r _ [16, 17, 18, 19] rfl (by decide +kernel))) (goodIn_app (z_lift (goodIn_r wzEX6_endDay [20, 15] rfl zgEX6_endDay)) (goodIn_sub (fun _ h => (List.mem_append_right _ (List.mem_append_left _ h))) zgU_X6)))
set_option maxHeartbeats 4000000 in
set_option maxRecDepth 100000 in
theorem zc_X6_passHour_2 (l : Launch) (D : va_G) (G : Nat × Nat × (Nat → Int32)) (xo : Nat) (xg : Nat) (gc : Int32) (xp : Nat) (pc : Int32) (xq : Nat) (qc : Int32) (r1 : Nat) (r2 : Nat) (r3 : Nat) (r4 : Nat) (se : Nat) (ts : Int32) (ho : Nat) (dr : Int32) (su : Int32) (br : Int32) (cp : ClassId) (b0 : Nat) (b1 : Nat) (cq : ClassId) (gx0 : Nat) (pm0 : Nat) (pe0 : Nat) (ps0 : Nat) (pa0 : Nat) (gx1 : Nat) (pm1 : Nat) (pe1 : Nat) (ps1 : Nat) (pa1 : Nat) (sz : Nat) (hh_ho : ho ≤ 100000) (hh_pm0 : pm0 ≤ 1000) (hh_pe0 : pe0 ≤ 1000) (hh_ps0 : ps0 ≤ 100000) (hh_pa0 : pa0 ≤ 100000) (hh_pm1 : pm1 ≤ 1000) (hh_pe1 : pe1 ≤ 1000) (hh_ps1 : ps1 ≤ 100000) (hh_pa1 : pa1 ≤ 100000) : Met l yX6_passHour wzX6_passHour_2 ({ frames := 2, cells := 0, slots := 0, locals := 42 }) (va_Pc [.ref xo] (p_RW D G [(cp, .object "Gatherhouse$Pot"), (cq, .object "Gatherhouse$Piece")] [(xo, .inr (6, [.ref xg, .int gc, .ref xp, .int pc, .ref xq, .int qc, .ref r1, .ref r2, .ref r3, .ref r4, .ref se, .int ts, .int (nI ho), .int dr, .int su, .int br])), (xp, .inl (cp, 4, .inr (.inr (.inr (.inr (zq [some b0, some b1, none, none])))))), (xq, .inl (cq, 16, .inr (.inr (.inr (.inr (zq [none, none, none, none, none, none, none, none, none, none, none, none, none, none, none, none])))))), (b0, .inr (2, [.ref gx0, .int (nI pm0), .int (nI pe0), .int (nI ps0), .int (nI pa0)])), (b1, .inr (2, [.ref gx1, .int (nI pm1), .int (nI pe1), .int (nI ps1), .int (nI pa1)]))] sz)) (va_Qi (fun (r : Int32) (u : Unit) => r = 0) (fun (u : Unit) (t : State) => q_RW D [(cp, .object "Gatherhouse$Pot"), (cq, .object "Gatherhouse$Piece")] [(xo, .inr (6, [.ref xg, .int gc, .ref xp, .int pc, .ref xq, .int qc, .ref r1, .ref r2, .ref r3, .ref r4, .ref se, .int ts, .int (nI (ho + 1)), .int dr, .int su, .int br])), (xp, .inl (cp, 4, .inr (.inr (.inr (.inr (zq [some b0, some b1, none, none])))))), (xq, .inl (cq, 16, .inr (.inr (.inr (.inr (zq [none, none, none, none, none, none, none, none, none, none, none, none, none, none, none, none])))))), (b0, .inr (2, [.ref gx0, .int (nI pm0), .int (nI (zS pm0 pe0 1)), .int (nI (ps0 + ((pa0 + 1) / 50 - pa0 / 50))), .int (nI (pa0 + 1))])), (b1, .inr (2, [.ref gx1, .int (nI pm1), .int (nI (zS pm1 pe1 1)), .int (nI (ps1 + ((pa1 + 1) / 50 - pa1 / 50))), .int (nI (pa1 + 1))]))] (va_A [(xo, .inr (6, [.ref xg, .int gc, .ref xp, .int pc, .ref xq, .int qc, .ref r1, .ref r2, .ref r3, .ref r4, .ref se, .int ts, .int (nI ho), .int dr, .int su, .int br])), (xp, .inl (cp, 4, .inr (.inr (.inr (.inr (zq [some b0, some b1, none, none])))))), (xq, .inl (cq, 16, .inr (.inr (.inr (.inr (zq [none, none, none, none, none, none, none, none, none, none, none, none, none, none, none, none])))))), (b0, .inr (2, [.ref gx0, .int (nI pm0), .int (nI pe0), .int (nI ps0), .int (nI pa0)])), (b1, .inr (2, [.ref gx1, .int (nI pm1), .int (nI pe1), .int (nI ps1), .int (nI pa1)]))] sz) t) (va_A [(xo, .inr (6, [.ref xg, .int gc, .ref xp, .int pc, .ref xq, .int qc, .ref r1, .ref r2, .ref r3, .ref r4, .ref se, .int ts, .int (nI ho), .int dr, .int su, .int br])), (xp, .inl (cp, 4, .inr (.inr (.inr (.inr (zq [some b0, some b1, none, none])))))), (xq, .inl (cq, 16, .inr (.inr (.inr (.inr (zq [none, none, none, none, none, none, none, none, none, none, none, none, none, none, none, none])))))), (b0, .inr (2, [.ref gx0, .int (nI pm0), .int (nI pe0), .int (nI ps0), .int (nI pa0)])), (b1, .inr (2, [.ref gx1, .int (nI pm1), .int (nI pe1), .int (nI ps1), .int (nI pa1)]))] sz)) 0 0 (va_A [(xo, .inr (6, [.ref xg, .int gc, .ref xp, .int pc, .ref xq, .int qc, .ref r1, .ref r2, .ref r3, .ref r4, .ref se, .int ts, .int (nI ho), .int dr, .int su, .int br])), (xp, .inl (cp, 4, .inr (.inr (.inr (.inr (zq [some b0, some b1, none, none])))))), (xq, .inl (cq, 16, .inr (.inr (.inr (.inr (zq [none, none, none, none, none, none, none, none, none, none, none, none, none, none, none, none])))))), (b0, .inr (2, [.ref gx0, .int (nI pm0), .int (nI pe0), .int (nI ps0), .int (nI pa0)])), (b1, .inr (2, [.ref gx1, .int (nI pm1), .int (nI pe1), .int (nI ps1), .int (nI pa1)]))] sz) := by
  refine Met.ofW (cc := cX6_passHour) (maxL := 7) (ret := (some .int)) (by decide) rfl ?_
  intro p e s m args below meth c s₁ B hml hv
  obtain ⟨rfl, hsz, hP, hK, hD0, hT, hZ⟩ := hv
  have hx := B.exec
  have hb := B.bytes
  have hr := B.returns
  have hts := atoms_spec (ws := wzX6_passHour_2) B.pre
  have hown : s.vm.findClass RX6 = some m.cls := findClass_of_methodNamed B.named
  have hlocks := B.notSynchronized
  subst hsz
  have hD := hD0.self (sz := s.heap.size)
  generalize hAe : va_A [(xo, .inr (6, [.ref xg, .int gc, .ref xp, .int pc, .ref xq, .int qc, .ref r1, .ref r2, .ref r3, .ref r4, .ref se, .int ts, .int (nI ho), .int dr, .int su, .int br])), (xp, .inl (cp, 4, .inr (.inr (.inr (.inr (zq [some b0, some b1, none, none])))))), (xq, .inl (cq, 16, .inr (.inr (.inr (.inr (zq [none, none, none, none, none, none, none, none, none, none, none, none, none, none, none, none])))))), (b0, .inr (2, [.ref gx0, .int (nI pm0), .int (nI pe0), .int (nI ps0), .int (nI pa0)])), (b1, .inr (2, [.ref gx1, .int (nI pm1), .int (nI pe1), .int (nI ps1), .int (nI pa1)]))] s.heap.size = A at hD hZ ⊢
  have hA : ∀ q : Nat, s.heap.size ≤ q → A q := fun q h => by rw [← hAe]; exact Or.inr h
  have hS : va_S A s.heap s.heap [] := va_S.rf
  have hl := lv_entry ([.ref xo]) (n := 7) (Nat.le_of_ble_eq_true rfl)
  rw [lg_entry_eq]
  generalize (lg_sl ([.ref xo]) ++ List.replicate (7 - (lg_sl ([.ref xo])).length) Slot.unset).toArray = ls at hl ⊢
  have hl : lv_has ls 7 [(0, .ref xo)] := hl
  refine lv_aload_n hx hb dX6_passHour_0 rfl (lv_at hl 0 rfl) ?_
  refine va_get (D := D) (cl := vwCl) (ci := 6) (v := .int (nI ho)) (C := RX6) (T := TX6) (N := 16) hx hb hts zuX6_passHour_2_X6 hown hK hP 0 rfl rfl 12 (by decide) (hts (.fieldLink RX6 63 "Gatherhouse" "hoursGone" "I") (by decide +kernel)) (fun _ h9 => h9) rfl dX6_passHour_1 ?_
  refine lv_bipush (v := 24) hx hb dX6_passHour_4 (by decide) ?_
  refine lv_idiv hx hb dX6_passHour_6 (by decide) ?_
  refine lv_topi (fun y_431 ey_431 => ?_)
  have ey_431 : y_431 = (nI (ho / 24)) := ey_431.trans (pk_div (a := ho) (d := 24) (by omega) (by omega) (by omega))
  subst ey_431
  refine lv_istore_n (lv' := [(1, .int (nI (ho / 24))), (0, .ref xo)]) hx hb dX6_passHour_7 rfl hl (by decide) rfl (fun ls hl => ?_)
  refine lv_aload_n hx hb dX6_passHour_8 rfl (lv_at hl 1 rfl) ?_
  refine lv_dup hx hb dX6_passHour_9 rfl ?_
  refine va_get (D := D) (cl := vwCl) (ci := 6) (v := .int (nI ho)) (C := RX6) (T := TX6) (N := 16) hx hb hts zuX6_passHour_2_X6 hown hK hP 0 rfl rfl 12 (by decide) (hts (.fieldLink RX6 63 "Gatherhouse" "hoursGone" "I") (by decide +kernel)) (fun _ h9 => h9) rfl dX6_passHour_10 ?_
  refine lv_iconst (v := 1) hx hb dX6_passHour_13 (by decide) ?_
  refine lv_iadd hx hb dX6_passHour_14 ?_
  refine lv_topi (fun y_432 ey_432 => ?_)
  have ey_432 : y_432 = (nI (ho + 1)) := ey_432.trans (nI_add ho 1)
  subst ey_432
  refine va_put (D := D) (cl := vwCl) (ci := 6) (v := .int (nI (ho + 1))) (ty := .int) (C := RX6) (T := TX6) (N := 16) hx hb hts zuX6_passHour_2_X6 tyX6 tyX6_ok nmX6 hown hK hP hD hS 0 rfl rfl 12 (by decide) (hts (.fieldLink RX6 63 "Gatherhouse" "hoursGone" "I") (by decide +kernel)) (fun _ h9 => h9) rfl (by decide +kernel) rfl rfl (Nat.le_of_ble_eq_true rfl) dX6_passHour_15 (fun H locs hP hD hS => ?_)
  have hP : va_P D vwCl [(xo, .inr (6, [.ref xg, .int gc, .ref xp, .int pc, .ref xq, .int qc, .ref r1, .ref r2, .ref r3, .ref r4, .ref se, .int ts, .int (nI (ho + 1)), .int dr, .int su, .int br])), (xp, .inl (cp, 4, .inr (.inr (.inr (.inr (zq [some b0, some b1, none, none])))))), (xq, .inl (cq, 16, .inr (.inr (.inr (.inr (zq [none, none, none, none, none, none, none, none, none, none, none, none, none, none, none, none])))))), (b0, .inr (2, [.ref gx0, .int (nI pm0), .int (nI pe0), .int (nI ps0), .int (nI pa0)])), (b1, .inr (2, [.ref gx1, .int (nI pm1), .int (nI pe1), .int (nI ps1), .int (nI pa1)]))] H := hP
  have hD : va_D A [(xo, .inr (6, [.ref xg, .int gc, .ref xp, .int pc, .ref xq, .int qc, .ref r1, .ref r2, .ref r3, .ref r4, .ref se, .int ts, .int (nI (ho + 1)), .int dr, .int su, .int br])), (xp, .inl (cp, 4, .inr (.inr (.inr (.inr (zq [some b0, some b1, none, none])))))), (xq, .inl (cq, 16, .inr (.inr (.inr (.inr (zq [none, none, none, none, none, none, none, none, none, none, none, none, none, none, none, none])))))), (b0, .inr (2, [.ref gx0, .int (nI pm0), .int (nI pe0), .int (nI ps0), .int (nI pa0)])), (b1, .inr (2, [.ref gx1, .int (nI pm1), .int (nI pe1), .int (nI ps1), .int (nI pa1)]))] := hD
  refine lv_aload_n hx hb dX6_passHour_18 rfl (lv_at hl 1 rfl) ?_
  refine va_get (D := D) (cl := vwCl) (ci := 6) (v := .ref xp) (C := RX6) (T := TX6) (N := 16) hx hb hts zuX6_passHour_2_X6 hown hK hP 0 rfl rfl 2 (by decide) (hts (.fieldLink RX6 21 "Gatherhouse" "pots" "[LGatherhouse$Pot;") (by decide +kernel)) (fun _ h9 => h9) rfl dX6_passHour_19 ?_
  refine lv_astore_n (lv' := [(2, .ref xp), (1, .int (nI (ho / 24))), (0, .ref xo)]) hx hb dX6_passHour_22 rfl hl (by decide) rfl (fun ls hl => ?_)
  refine lv_aload_n hx hb dX6_passHour_23 rfl (lv_at hl 0 rfl) ?_
  refine va_alen (D := D) (cl := vwCl) (v := 4) hx hb hK hP 1 0 rfl rfl rfl dX6_passHour_24 ?_
  refine lv_istore_n (lv' := [(3, .int 4), (2, .ref xp), (1, .int (nI (ho / 24))), (0, .ref xo)]) hx hb dX6_passHour_25 rfl hl (by decide) rfl (fun ls hl => ?_)
  refine lv_iconst (v := 0) hx hb dX6_passHour_26 (by decide) ?_
  refine lv_istore (lv' := [(4, .int 0), (3, .int 4), (2, .ref xp), (1, .int (nI (ho / 24))), (0, .ref xo)]) hx hb dX6_passHour_27 hl (by decide) rfl (fun ls hl => ?_)
  refine lv_iload hx hb dX6_passHour_29 (lv_at hl 0 rfl) ?_
  refine lv_iload_n hx hb dX6_passHour_31 rfl (lv_at hl 1 rfl) ?_
  refine lv_icmp_ge (tgt := 57) hx hb dX6_passHour_32 (by decide) (fun cc => absurd cc (by decide)) (fun _ => ?_)
  refine lv_aload_n hx hb dX6_passHour_35 rfl (lv_at hl 2 rfl) ?_
  refine lv_iload hx hb dX6_passHour_36 (lv_at hl 0 rfl) ?_
  refine va_aldq (D := D) (cl := vwCl) hx hb hK hP 1 0 rfl rfl (vp_in_nI (n := 0) (N := 4) (by decide) (by decide)) dX6_passHour_38 ?_
  refine W.eq (g2 := F0 m 39 ls [.ref b0]) rfl ?_
  refine lv_astore (lv' := [(5, .ref b0), (4, .int 0), (3, .int 4), (2, .ref xp), (1, .int (nI (ho / 24))), (0, .ref xo)]) hx hb dX6_passHour_39 hl (by decide) rfl (fun ls hl => ?_)
  refine lv_aload hx hb dX6_passHour_41 (lv_at hl 0 rfl) ?_
  refine lv_ifnull hx hb dX6_passHour_43 ?_
  refine lv_aload hx hb dX6_passHour_46 (lv_at hl 0 rfl) ?_
  have hFc := va_free (wc := [(b0, .inr (2, [.ref gx0, .int (nI pm0), .int (nI pe0), .int (nI ps0), .int (nI pa0)]))]) hD hS hA [3] rfl
  refine va_callv (va_runVN (As := []) (rest := []) ⟨hx, hb, hml, hown, hts⟩ (zc_X2_passHour l D G b0 gx0 pm0 pe0 ps0 pa0 H.size (by first | assumption | rfl | omega | exact Nat.le_trans (zS_le _ _ _) (by omega) | decide) (by first | assumption | rfl | omega | exact Nat.le_trans (zS_le _ _ _) (by omega) | decide) (by first | assumption | rfl | omega | exact Nat.le_trans (zS_le _ _ _) (by omega) | decide) (by first | assumption | rfl | omega | exact Nat.le_trans (zS_le _ _ _) (by omega) | decide)) ⟨va_cnB 0 hts gzX6_passHour_2_X2_passHour_399 rfl rfl rfl (hT.1 ("Gatherhouse", 399, ⟨"Gatherhouse$Pot", "passHour", "()V"⟩, "Gatherhouse") (by decide +kernel)) (hts (.initialized RX2) (by decide +kernel)) (by decide +kernel) ⟨(Nat.le_of_ble_eq_true rfl), (Nat.le_of_ble_eq_true rfl)⟩, (hts (.instanceMethod yX2_passHour) (by decide +kernel)), (hts (.selects RX2 yX2_passHour yX2_passHour) (by decide +kernel))⟩ ⟨p_RW_blind, va_recv hK hP (ci := 2) (q0 := 3) rfl rfl, (p_RW_at (tc := []) (wc := [(b0, .inr (2, [.ref gx0, .int (nI pm0), .int (nI pe0), .int (nI ps0), .int (nI pa0)]))]) hP hK hD hS hA hT hZ [3] [] rfl rfl (by decide) rfl [.ref b0])⟩ rfl rfl hl.1 rfl (lv_room (Nat.le_of_ble_eq_true rfl)) dX6_passHour_48 ⟨(Nat.le_of_ble_eq_true rfl), (Nat.le_of_ble_eq_true rfl)⟩) hS (fun q _ h => hFc q h) hFc (fun u t H locs ht hvm w_434 hB hz1 hk1 hS => ?_)
  obtain ⟨hP, hD, hK⟩ := q_join (D := D) (wc := [(b0, .inr (2, [.ref gx0, .int (nI pm0), .int (nI pe0), .int (nI ps0), .int (nI pa0)]))]) (wr := [(xo, .inr (6, [.ref xg, .int gc, .ref xp, .int pc, .ref xq, .int qc, .ref r1, .ref r2, .ref r3, .ref r4, .ref se, .int ts, .int (nI (ho + 1)), .int dr, .int su, .int br])), (xp, .inl (cp, 4, .inr (.inr (.inr (.inr (zq [some b0, some b1, none, none])))))), (xq, .inl (cq, 16, .inr (.inr (.inr (.inr (zq [none, none, none, none, none, none, none, none, none, none, none, none, none, none, none, none])))))), (b1, .inr (2, [.ref gx1, .int (nI pm1), .int (nI pe1), .int (nI ps1), .int (nI pa1)]))]) (w1 := [(b0, .inr (2, [.ref gx0, .int (nI pm0), .int (nI (zS pm0 pe0 1)), .int (nI (ps0 + ((pa0 + 1) / 50 - pa0 / 50))), .int (nI (pa0 + 1))]))]) (tyr := [(cp, .object "Gatherhouse$Pot"), (cq, .object "Gatherhouse$Piece")]) (ty1 := []) hP hD hK [3] [0, 1, 2, 4] [0, 1] rfl rfl (by decide) (by decide) rfl hFc hk1 ht hvm hB
  have hP : va_P D vwCl [(xo, .inr (6, [.ref xg, .int gc, .ref xp, .int pc, .ref xq, .int qc, .ref r1, .ref r2, .ref r3, .ref r4, .ref se, .int ts, .int (nI (ho + 1)), .int dr, .int su, .int br])), (xp, .inl (cp, 4, .inr (.inr (.inr (.inr (zq [some b0, some b1, none, none])))))), (xq, .inl (cq, 16, .inr (.inr (.inr (.inr (zq [none, none, none, none, none, none, none, none, none, none, none, none, none, none, none, none])))))), (b1, .inr (2, [.ref gx1, .int (nI pm1), .int (nI pe1), .int (nI ps1), .int (nI pa1)])), (b0, .inr (2, [.ref gx0, .int (nI pm0), .int (nI (zS pm0 pe0 1)), .int (nI (ps0 + ((pa0 + 1) / 50 - pa0 / 50))), .int (nI (pa0 + 1))]))] H := hP
  have hD : va_D A [(xo, .inr (6, [.ref xg, .int gc, .ref xp, .int pc, .ref xq, .int qc, .ref r1, .ref r2, .ref r3, .ref r4, .ref se, .int ts, .int (nI (ho + 1)), .int dr, .int su, .int br])), (xp, .inl (cp, 4, .inr (.inr (.inr (.inr (zq [some b0, some b1, none, none])))))), (xq, .inl (cq, 16, .inr (.inr (.inr (.inr (zq [none, none, none, none, none, none, none, none, none, none, none, none, none, none, none, none])))))), (b1, .inr (2, [.ref gx1, .int (nI pm1), .int (nI pe1), .int (nI ps1), .int (nI pa1)])), (b0, .inr (2, [.ref gx0, .int (nI pm0), .int (nI (zS pm0 pe0 1)), .int (nI (ps0 + ((pa0 + 1) / 50 - pa0 / 50))), .int (nI (pa0 + 1))]))] := hD
  have hK : va_K D vwCl [(cp, .object "Gatherhouse$Pot"), (cq, .object "Gatherhouse$Piece")] s := hK
  obtain ⟨x_435, ex_435⟩ : ∃ y : Int32, y = 0 + 1 := ⟨_, rfl⟩
  have ex_435 : x_435 = 1 := ex_435.trans (by decide)
  subst ex_435
  refine lv_iinc (v := 1) (lv' := [(4, .int 1), (5, .ref b0), (3, .int 4), (2, .ref xp), (1, .int (nI (ho / 24))), (0, .ref xo)]) hx hb dX6_passHour_51 hl (k := 1) rfl (by decide) (by decide) rfl (fun ls hl => ?_)
  refine lv_goto (tgt := 29) hx hb dX6_passHour_54 (by decide) ?_
  refine lv_iload hx hb dX6_passHour_29 (lv_at hl 0 rfl) ?_
  refine lv_iload_n hx hb dX6_passHour_31 rfl (lv_at hl 2 rfl) ?_
  refine lv_icmp_ge (tgt := 57) hx hb dX6_passHour_32 (by decide) (fun cc => absurd cc (by decide)) (fun _ => ?_)
  refine lv_aload_n hx hb dX6_passHour_35 rfl (lv_at hl 3 rfl) ?_
  refine lv_iload hx hb dX6_passHour_36 (lv_at hl 0 rfl) ?_
  refine va_aldq (D := D) (cl := vwCl) hx hb hK hP 1 0 rfl rfl (vp_in_nI (n := 1) (N := 4) (by decide) (by decide)) dX6_passHour_38 ?_
  refine W.eq (g2 := F0 m 39 ls [.ref b1]) rfl ?_
  refine lv_astore (lv' := [(5, .ref b1), (4, .int 1), (3, .int 4), (2, .ref xp), (1, .int (nI (ho / 24))), (0, .ref xo)]) hx hb dX6_passHour_39 hl (by decide) rfl (fun ls hl => ?_)
  refine lv_aload hx hb dX6_passHour_41 (lv_at hl 0 rfl) ?_
  refine lv_ifnull hx hb dX6_passHour_43 ?_
  refine lv_aload hx hb dX6_passHour_46 (lv_at hl 0 rfl) ?_
  have hFc := va_free (wc := [(b1, .inr (2, [.ref gx1, .int (nI pm1), .int (nI pe1), .int (nI ps1), .int (nI pa1)]))]) hD hS hA [3] rfl
  refine va_callv (va_runVN (As := []) (rest := []) ⟨hx, hb, hml, hown, hts⟩ (zc_X2_passHour l D G b1 gx1 pm1 pe1 ps1 pa1 H.size (by first | assumption | rfl | omega | exact Nat.le_trans (zS_le _ _ _) (by omega) | decide) (by first | assumption | rfl | omega | exact Nat.le_trans (zS_le _ _ _) (by omega) | decide) (by first | assumption | rfl | omega | exact Nat.le_trans (zS_le _ _ _) (by omega) | decide) (by first | assumption | rfl | omega | exact Nat.le_trans (zS_le _ _ _) (by omega) | decide)) ⟨va_cnB 0 hts gzX6_passHour_2_X2_passHour_399 rfl rfl rfl (hT.1 ("Gatherhouse", 399, ⟨"Gatherhouse$Pot", "passHour", "()V"⟩, "Gatherhouse") (by decide +kernel)) (hts (.initialized RX2) (by decide +kernel)) (by decide +kernel) ⟨(Nat.le_of_ble_eq_true rfl), (Nat.le_of_ble_eq_true rfl)⟩, (hts (.instanceMethod yX2_passHour) (by decide +kernel)), (hts (.selects RX2 yX2_passHour yX2_passHour) (by decide +kernel))⟩ ⟨p_RW_blind, va_recv hK hP (ci := 2) (q0 := 3) rfl rfl, (p_RW_at (tc := []) (wc := [(b1, .inr (2, [.ref gx1, .int (nI pm1), .int (nI pe1), .int (nI ps1), .int (nI pa1)]))]) hP hK hD hS hA hT hZ [3] [] rfl rfl (by decide) rfl [.ref b1])⟩ rfl rfl hl.1 rfl (lv_room (Nat.le_of_ble_eq_true rfl)) dX6_passHour_48 ⟨(Nat.le_of_ble_eq_true rfl), (Nat.le_of_ble_eq_true rfl)⟩) hS (fun q _ h => hFc q h) hFc (fun u t H locs ht hvm w_437 hB hz1 hk1 hS => ?_)
  obtain ⟨hP, hD, hK⟩ := q_join (D := D) (wc := [(b1, .inr (2, [.ref gx1, .int (nI pm1), .int (nI pe1), .int (nI ps1), .int (nI pa1)]))]) (wr := [(xo, .inr (6, [.ref xg, .int gc, .ref xp, .int pc, .ref xq, .int qc, .ref r1, .ref r2, .ref r3, .ref r4, .ref se, .int ts, .int (nI (ho + 1)), .int dr, .int su, .int br])), (xp, .inl (cp, 4, .inr (.inr (.inr (.inr (zq [some b0, some b1, none, none])))))), (xq, .inl (cq, 16, .inr (.inr (.inr (.inr (zq [none, none, none, none, none, none, none, none, none, none, none, none, none, none, none, none])))))), (b0, .inr (2, [.ref gx0, .int (nI pm0), .int (nI (zS pm0 pe0 1)), .int (nI (ps0 + ((pa0 + 1) / 50 - pa0 / 50))), .int (nI (pa0 + 1))]))]) (w1 := [(b1, .inr (2, [.ref gx1, .int (nI pm1), .int (nI (zS pm1 pe1 1)), .int (nI (ps1 + ((pa1 + 1) / 50 - pa1 / 50))), .int (nI (pa1 + 1))]))]) (tyr := [(cp, .object "Gatherhouse$Pot"), (cq, .object "Gatherhouse$Piece")]) (ty1 := []) hP hD hK [3] [0, 1, 2, 4] [0, 1] rfl rfl (by decide) (by decide) rfl hFc hk1 ht hvm hB
  have hP : va_P D vwCl [(xo, .inr (6, [.ref xg, .int gc, .ref xp, .int pc, .ref xq, .int qc, .ref r1, .ref r2, .ref r3, .ref r4, .ref se, .int ts, .int (nI (ho + 1)), .int dr, .int su, .int br])), (xp, .inl (cp, 4, .inr (.inr (.inr (.inr (zq [some b0, some b1, none, none])))))), (xq, .inl (cq, 16, .inr (.inr (.inr (.inr (zq [none, none, none, none, none, none, none, none, none, none, none, none, none, none, none, none])))))), (b0, .inr (2, [.ref gx0, .int (nI pm0), .int (nI (zS pm0 pe0 1)), .int (nI (ps0 + ((pa0 + 1) / 50 - pa0 / 50))), .int (nI (pa0 + 1))])), (b1, .inr (2, [.ref gx1, .int (nI pm1), .int (nI (zS pm1 pe1 1)), .int (nI (ps1 + ((pa1 + 1) / 50 - pa1 / 50))), .int (nI (pa1 + 1))]))] H := hP
  have hD : va_D A [(xo, .inr (6, [.ref xg, .int gc, .ref xp, .int pc, .ref xq, .int qc, .ref r1, .ref r2, .ref r3, .ref r4, .ref se, .int ts, .int (nI (ho + 1)), .int dr, .int su, .int br])), (xp, .inl (cp, 4, .inr (.inr (.inr (.inr (zq [some b0, some b1, none, none])))))), (xq, .inl (cq, 16, .inr (.inr (.inr (.inr (zq [none, none, none, none, none, none, none, none, none, none, none, none, none, none, none, none])))))), (b0, .inr (2, [.ref gx0, .int (nI pm0), .int (nI (zS pm0 pe0 1)), .int (nI (ps0 + ((pa0 + 1) / 50 - pa0 / 50))), .int (nI (pa0 + 1))])), (b1, .inr (2, [.ref gx1, .int (nI pm1), .int (nI (zS pm1 pe1 1)), .int (nI (ps1 + ((pa1 + 1) / 50 - pa1 / 50))), .int (nI (pa1 + 1))]))] := hD
  have hK : va_K D vwCl [(cp, .object "Gatherhouse$Pot"), (cq, .object "Gatherhouse$Piece")] s := hK
  obtain ⟨x_438, ex_438⟩ : ∃ y : Int32, y = 1 + 1 := ⟨_, rfl⟩
  have ex_438 : x_438 = 2 := ex_438.trans (by decide)
  subst ex_438
  refine lv_iinc (v := 2) (lv' := [(4, .int 2), (5, .ref b1), (3, .int 4), (2, .ref xp), (1, .int (nI (ho / 24))), (0, .ref xo)]) hx hb dX6_passHour_51 hl (k := 1) rfl (by decide) (by decide) rfl (fun ls hl => ?_)
  refine lv_goto (tgt := 29) hx hb dX6_passHour_54 (by decide) ?_
  refine lv_iload hx hb dX6_passHour_29 (lv_at hl 0 rfl) ?_
  refine lv_iload_n hx hb dX6_passHour_31 rfl (lv_at hl 2 rfl) ?_
  refine lv_icmp_ge (tgt := 57) hx hb dX6_passHour_32 (by decide) (fun cc => absurd cc (by decide)) (fun _ => ?_)
  refine lv_aload_n hx hb dX6_passHour_35 rfl (lv_at hl 3 rfl) ?_
  refine lv_iload hx hb dX6_passHour_36 (lv_at hl 0 rfl) ?_
  refine va_aldq (D := D) (cl := vwCl) hx hb hK hP 1 0 rfl rfl (vp_in_nI (n := 2) (N := 4) (by decide) (by decide)) dX6_passHour_38 ?_
  refine W.eq (g2 := F0 m 39 ls [.null]) rfl ?_
  refine lv_astoreN (lv' := [(5, .null), (4, .int 2), (3, .int 4), (2, .ref xp), (1, .int (nI (ho / 24))), (0, .ref xo)]) hx hb dX6_passHour_39 hl (by decide) rfl (fun ls hl => ?_)
  refine lv_aloadN hx hb dX6_passHour_41 (lv_at hl 0 rfl) ?_
  refine lv_ifnullN (tgt := 51) hx hb dX6_passHour_43 (by decide) ?_
  obtain ⟨x_439, ex_439⟩ : ∃ y : Int32, y = 2 + 1 := ⟨_, rfl⟩
  have ex_439 : x_439 = 3 := ex_439.trans (by decide)
  subst ex_439
  refine lv_iinc (v := 3) (lv' := [(4, .int 3), (5, .null), (3, .int 4), (2, .ref xp), (1, .int (nI (ho / 24))), (0, .ref xo)]) hx hb dX6_passHour_51 hl (k := 1) rfl (by decide) (by decide) rfl (fun ls hl => ?_)
  refine lv_goto (tgt := 29) hx hb dX6_passHour_54 (by decide) ?_
  refine lv_iload hx hb dX6_passHour_29 (lv_at hl 0 rfl) ?_
  refine lv_iload_n hx hb dX6_passHour_31 rfl (lv_at hl 2 rfl) ?_
  refine lv_icmp_ge (tgt := 57) hx hb dX6_passHour_32 (by decide) (fun cc => absurd cc (by decide)) (fun _ => ?_)
  refine lv_aload_n hx hb dX6_passHour_35 rfl (lv_at hl 3 rfl) ?_
  refine lv_iload hx hb dX6_passHour_36 (lv_at hl 0 rfl) ?_
  refine va_aldq (D := D) (cl := vwCl) hx hb hK hP 1 0 rfl rfl (vp_in_nI (n := 3) (N := 4) (by decide) (by decide)) dX6_passHour_38 ?_
  refine W.eq (g2 := F0 m 39 ls [.null]) rfl ?_
  refine lv_astoreN (lv' := [(5, .null), (4, .int 3), (3, .int 4), (2, .ref xp), (1, .int (nI (ho / 24))), (0, .ref xo)]) hx hb dX6_passHour_39 hl (by decide) rfl (fun ls hl => ?_)
  refine lv_aloadN hx hb dX6_passHour_41 (lv_at hl 0 rfl) ?_
  refine lv_ifnullN (tgt := 51) hx hb dX6_passHour_43 (by decide) ?_
  obtain ⟨x_440, ex_440⟩ : ∃ y : Int32, y = 3 + 1 := ⟨_, rfl⟩
  have ex_440 : x_440 = 4 := ex_440.trans (by decide)
  subst ex_440
  refine lv_iinc (v := 4) (lv' := [(4, .int 4), (5, .null), (3, .int 4), (2, .ref xp), (1, .int (nI (ho / 24))), (0, .ref xo)]) hx hb dX6_passHour_51 hl (k := 1) rfl (by decide) (by decide) rfl (fun ls hl => ?_)
  refine lv_goto (tgt := 29) hx hb dX6_passHour_54 (by decide) ?_
  refine lv_iload hx hb dX6_passHour_29 (lv_at hl 0 rfl) ?_
  refine lv_iload_n hx hb dX6_passHour_31 rfl (lv_at hl 2 rfl) ?_
  refine lv_icmp_ge (tgt := 57) hx hb dX6_passHour_32 (by decide) (fun _ => ?_) (fun cc => absurd (by decide) cc)
  refine lv_iconst (v := 0) hx hb dX6_passHour_57 (by decide) ?_
  refine lv_istore_n (lv' := [(2, .int 0), (4, .int 4), (5, .null), (3, .int 4), (1, .int (nI (ho / 24))), (0, .ref xo)]) hx hb dX6_passHour_58 rfl hl (by decide) rfl (fun ls hl => ?_)
  refine lv_aload_n hx hb dX6_passHour_59 rfl (lv_at hl 5 rfl) ?_
  refine va_get (D := D) (cl := vwCl) (ci := 6) (v := .ref xq) (C := RX6) (T := TX6) (N := 16) hx hb hts zuX6_passHour_2_X6 hown hK hP 0 rfl rfl 4 (by decide) (hts (.fieldLink RX6 30 "Gatherhouse" "pieces" "[LGatherhouse$Piece;") (by decide +kernel)) (fun _ h9 => h9) rfl dX6_passHour_60 ?_
  refine lv_astore_n (lv' := [(3, .ref xq), (2, .int 0), (4, .int 4), (5, .null), (1, .int (nI (ho / 24))), (0, .ref xo)]) hx hb dX6_passHour_63 rfl hl (by decide) rfl (fun ls hl => ?_)
  refine lv_aload_n hx hb dX6_passHour_64 rfl (lv_at hl 0 rfl) ?_
  refine va_alen (D := D) (cl := vwCl) (v := 16) hx hb hK hP 2 1 rfl rfl rfl dX6_passHour_65 ?_
  refine lv_istore (lv' := [(4, .int 16), (3, .ref xq), (2, .int 0), (5, .null), (1, .int (nI (ho / 24))), (0, .ref xo)]) hx hb dX6_passHour_66 hl (by decide) rfl (fun ls hl => ?_)
  refine lv_iconst (v := 0) hx hb dX6_passHour_68 (by decide) ?_
  refine lv_istore (lv' := [(5, .int 0), (4, .int 16), (3, .ref xq), (2, .int 0), (1, .int (nI (ho / 24))), (0, .ref xo)]) hx hb dX6_passHour_69 hl (by decide) rfl (fun ls hl => ?_)
  refine lv_iload hx hb dX6_passHour_71 (lv_at hl 0 rfl) ?_
  refine lv_iload hx hb dX6_passHour_73 (lv_at hl 1 rfl) ?_
  refine lv_icmp_ge (tgt := 131) hx hb dX6_passHour_75 (by decide) (fun cc => absurd cc (by decide)) (fun _ => ?_)
  refine lv_aload_n hx hb dX6_passHour_78 rfl (lv_at hl 2 rfl) ?_
  refine lv_iload hx hb dX6_passHour_79 (lv_at hl 0 rfl) ?_
  refine va_aldq (D := D) (cl := vwCl) hx hb hK hP 2 1 rfl rfl (vp_in_nI (n := 0) (N := 16) (by decide) (by decide)) dX6_passHour_81 ?_
  refine W.eq (g2 := F0 m 82 ls [.null]) rfl ?_
  refine lv_astoreN (lv' := [(6, .null), (5, .int 0), (4, .int 16), (3, .ref xq), (2, .int 0), (1, .int (nI (ho / 24))), (0, .ref xo)]) hx hb dX6_passHour_82 hl (by decide) rfl (fun ls hl => ?_)
  refine lv_aloadN hx hb dX6_passHour_84 (lv_at hl 0 rfl) ?_
  refine lv_ifnullN (tgt := 125) hx hb dX6_passHour_86 (by decide) ?_
  obtain ⟨x_441, ex_441⟩ : ∃ y : Int32, y = 0 + 1 := ⟨_, rfl⟩
  have ex_441 : x_441 = 1 := ex_441.trans (by decide)
  subst ex_441
  refine lv_iinc (v := 1) (lv' := [(5, .int 1), (6, .null), (4, .int 16), (3, .ref xq), (2, .int 0), (1, .int (nI (ho / 24))), (0, .ref xo)]) hx hb dX6_passHour_125 hl (k := 1) rfl (by decide) (by decide) rfl (fun ls hl => ?_)
  refine lv_goto (tgt := 71) hx hb dX6_passHour_128 (by decide) ?_
  refine lv_iload hx hb dX6_passHour_71 (lv_at hl 0 rfl) ?_
  refine lv_iload hx hb dX6_passHour_73 (lv_at hl 2 rfl) ?_
  refine lv_icmp_ge (tgt := 131) hx hb dX6_passHour_75 (by decide) (fun cc => absurd cc (by decide)) (fun _ => ?_)
  refine lv_aload_n hx hb dX6_passHour_78 rfl (lv_at hl 3 rfl) ?_
  refine lv_iload hx hb dX6_passHour_79 (lv_at hl 0 rfl) ?_
  refine va_aldq (D := D) (cl := vwCl) hx hb hK hP 2 1 rfl rfl (vp_in_nI (n := 1) (N := 16) (by decide) (by decide)) dX6_passHour_81 ?_
  refine W.eq (g2 := F0 m 82 ls [.null]) rfl ?_
  refine lv_astoreN (lv' := [(6, .null), (5, .int 1), (4, .int 16), (3, .ref xq), (2, .int 0), (1, .int (nI (ho / 24))), (0, .ref xo)]) hx hb dX6_passHour_82 hl (by decide) rfl (fun ls hl => ?_)
  refine lv_aloadN hx hb dX6_passHour_84 (lv_at hl 0 rfl) ?_
  refine lv_ifnullN (tgt := 125) hx hb dX6_passHour_86 (by decide) ?_
  obtain ⟨x_442, ex_442⟩ : ∃ y : Int32, y = 1 + 1 := ⟨_, rfl⟩
  have ex_442 : x_442 = 2 := ex_442.trans (by decide)
  subst ex_442
  refine lv_iinc (v := 2) (lv' := [(5, .int 2), (6, .null), (4, .int 16), (3, .ref xq), (2, .int 0), (1, .int (nI (ho / 24))), (0, .ref xo)]) hx hb dX6_passHour_125 hl (k := 1) rfl (by decide) (by decide) rfl (fun ls hl => ?_)
  refine lv_goto (tgt := 71) hx hb dX6_passHour_128 (by decide) ?_
  refine lv_iload hx hb dX6_passHour_71 (lv_at hl 0 rfl) ?_
  refine lv_iload hx hb dX6_passHour_73 (lv_at hl 2 rfl) ?_
  refine lv_icmp_ge (tgt := 131) hx hb dX6_passHour_75 (by decide) (fun cc => absurd cc (by decide)) (fun _ => ?_)
  refine lv_aload_n hx hb dX6_passHour_78 rfl (lv_at hl 3 rfl) ?_
  refine lv_iload hx hb dX6_passHour_79 (lv_at hl 0 rfl) ?_
  refine va_aldq (D := D) (cl := vwCl) hx hb hK hP 2 1 rfl rfl (vp_in_nI (n := 2) (N := 16) (by decide) (by decide)) dX6_passHour_81 ?_
  refine W.eq (g2 := F0 m 82 ls [.null]) rfl ?_
  refine lv_astoreN (lv' := [(6, .null), (5, .int 2), (4, .int 16), (3, .ref xq), (2, .int 0), (1, .int (nI (ho / 24))), (0, .ref xo)]) hx hb dX6_passHour_82 hl (by decide) rfl (fun ls hl => ?_)
  refine lv_aloadN hx hb dX6_passHour_84 (lv_at hl 0 rfl) ?_
  refine lv_ifnullN (tgt := 125) hx hb dX6_passHour_86 (by decide) ?_
  obtain ⟨x_443, ex_443⟩ : ∃ y : Int32, y = 2 + 1 := ⟨_, rfl⟩
  have ex_443 : x_443 = 3 := ex_443.trans (by decide)
  subst ex_443
  refine lv_iinc (v := 3) (lv' := [(5, .int 3), (6, .null), (4, .int 16), (3, .ref xq), (2, .int 0), (1, .int (nI (ho / 24))), (0, .ref xo)]) hx hb dX6_passHour_125 hl (k := 1) rfl (by decide) (by decide) rfl (fun ls hl => ?_)
  refine lv_goto (tgt := 71) hx hb dX6_passHour_128 (by decide) ?_
  refine lv_iload hx hb dX6_passHour_71 (lv_at hl 0 rfl) ?_
  refine lv_iload hx hb dX6_passHour_73 (lv_at hl 2 rfl) ?_
  refine lv_icmp_ge (tgt := 131) hx hb dX6_passHour_75 (by decide) (fun cc => absurd cc (by decide)) (fun _ => ?_)
  refine lv_aload_n hx hb dX6_passHour_78 rfl (lv_at hl 3 rfl) ?_
  refine lv_iload hx hb dX6_passHour_79 (lv_at hl 0 rfl) ?_
  refine va_aldq (D := D) (cl := vwCl) hx hb hK hP 2 1 rfl rfl (vp_in_nI (n := 3) (N := 16) (by decide) (by decide)) dX6_passHour_81 ?_
  refine W.eq (g2 := F0 m 82 ls [.null]) rfl ?_
  refine lv_astoreN (lv' := [(6, .null), (5, .int 3), (4, .int 16), (3, .ref xq), (2, .int 0), (1, .int (nI (ho / 24))), (0, .ref xo)]) hx hb dX6_passHour_82 hl (by decide) rfl (fun ls hl => ?_)
  refine lv_aloadN hx hb dX6_passHour_84 (lv_at hl 0 rfl) ?_
  refine lv_ifnullN (tgt := 125) hx hb dX6_passHour_86 (by decide) ?_
  obtain ⟨x_444, ex_444⟩ : ∃ y : Int32, y = 3 + 1 := ⟨_, rfl⟩
  have ex_444 : x_444 = 4 := ex_444.trans (by decide)
  subst ex_444
  refine lv_iinc (v := 4) (lv' := [(5, .int 4), (6, .null), (4, .int 16), (3, .ref xq), (2, .int 0), (1, .int (nI (ho / 24))), (0, .ref xo)]) hx hb dX6_passHour_125 hl (k := 1) rfl (by decide) (by decide) rfl (fun ls hl => ?_)
  refine lv_goto (tgt := 71) hx hb dX6_passHour_128 (by decide) ?_
  refine lv_iload hx hb dX6_passHour_71 (lv_at hl 0 rfl) ?_
  refine lv_iload hx hb dX6_passHour_73 (lv_at hl 2 rfl) ?_
  refine lv_icmp_ge (tgt := 131) hx hb dX6_passHour_75 (by decide) (fun cc => absurd cc (by decide)) (fun _ => ?_)
  refine lv_aload_n hx hb dX6_passHour_78 rfl (lv_at hl 3 rfl) ?_
  refine lv_iload hx hb dX6_passHour_79 (lv_at hl 0 rfl) ?_
  refine va_aldq (D := D) (cl := vwCl) hx hb hK hP 2 1 rfl rfl (vp_in_nI (n := 4) (N := 16) (by decide) (by decide)) dX6_passHour_81 ?_
  refine W.eq (g2 := F0 m 82 ls [.null]) rfl ?_
  refine lv_astoreN (lv' := [(6, .null), (5, .int 4), (4, .int 16), (3, .ref xq), (2, .int 0), (1, .int (nI (ho / 24))), (0, .ref xo)]) hx hb dX6_passHour_82 hl (by decide) rfl (fun ls hl => ?_)
  refine lv_aloadN hx hb dX6_passHour_84 (lv_at hl 0 rfl) ?_
  refine lv_ifnullN (tgt := 125) hx hb dX6_passHour_86 (by decide) ?_
  obtain ⟨x_445, ex_445⟩ : ∃ y : Int32, y = 4 + 1 := ⟨_, rfl⟩
  have ex_445 : x_445 = 5 := ex_445.trans (by decide)
  subst ex_445
  refine lv_iinc (v := 5) (lv' := [(5, .int 5), (6, .null), (4, .int 16), (3, .ref xq), (2, .int 0), (1, .int (nI (ho / 24))), (0, .ref xo)]) hx hb dX6_passHour_125 hl (k := 1) rfl (by decide) (by decide) rfl (fun ls hl => ?_)
  refine lv_goto (tgt := 71) hx hb dX6_passHour_128 (by decide) ?_
  refine lv_iload hx hb dX6_passHour_71 (lv_at hl 0 rfl) ?_
  refine lv_iload hx hb dX6_passHour_73 (lv_at hl 2 rfl) ?_
  refine lv_icmp_ge (tgt := 131) hx hb dX6_passHour_75 (by decide) (fun cc => absurd cc (by decide)) (fun _ => ?_)
  refine lv_aload_n hx hb dX6_passHour_78 rfl (lv_at hl 3 rfl) ?_
  refine lv_iload hx hb dX6_passHour_79 (lv_at hl 0 rfl) ?_
  refine va_aldq (D := D) (cl := vwCl) hx hb hK hP 2 1 rfl rfl (vp_in_nI (n := 5) (N := 16) (by decide) (by decide)) dX6_passHour_81 ?_
  refine W.eq (g2 := F0 m 82 ls [.null]) rfl ?_
  refine lv_astoreN (lv' := [(6, .null), (5, .int 5), (4, .int 16), (3, .ref xq), (2, .int 0), (1, .int (nI (ho / 24))), (0, .ref xo)]) hx hb dX6_passHour_82 hl (by decide) rfl (fun ls hl => ?_)
  refine lv_aloadN hx hb dX6_passHour_84 (lv_at hl 0 rfl) ?_
  refine lv_ifnullN (tgt := 125) hx hb dX6_passHour_86 (by decide) ?_
  obtain ⟨x_446, ex_446⟩ : ∃ y : Int32, y = 5 + 1 := ⟨_, rfl⟩
  have ex_446 : x_446 = 6 := ex_446.trans (by decide)
  subst ex_446
  refine lv_iinc (v := 6) (lv' := [(5, .int 6), (6, .null), (4, .int 16), (3, .ref xq), (2, .int 0), (1, .int (nI (ho / 24))), (0, .ref xo)]) hx hb dX6_passHour_125 hl (k := 1) rfl (by decide) (by decide) rfl (fun ls hl => ?_)
  refine lv_goto (tgt := 71) hx hb dX6_passHour_128 (by decide) ?_
  refine lv_iload hx hb dX6_passHour_71 (lv_at hl 0 rfl) ?_
  refine lv_iload hx hb dX6_passHour_73 (lv_at hl 2 rfl) ?_
  refine lv_icmp_ge (tgt := 131) hx hb dX6_passHour_75 (by decide) (fun cc => absurd cc (by decide)) (fun _ => ?_)
  refine lv_aload_n hx hb dX6_passHour_78 rfl (lv_at hl 3 rfl) ?_
  refine lv_iload hx hb dX6_passHour_79 (lv_at hl 0 rfl) ?_
  refine va_aldq (D := D) (cl := vwCl) hx hb hK hP 2 1 rfl rfl (vp_in_nI (n := 6) (N := 16) (by decide) (by decide)) dX6_passHour_81 ?_
  refine W.eq (g2 := F0 m 82 ls [.null]) rfl ?_
  refine lv_astoreN (lv' := [(6, .null), (5, .int 6), (4, .int 16), (3, .ref xq), (2, .int 0), (1, .int (nI (ho / 24))), (0, .ref xo)]) hx hb dX6_passHour_82 hl (by decide) rfl (fun ls hl => ?_)
  refine lv_aloadN hx hb dX6_passHour_84 (lv_at hl 0 rfl) ?_
  refine lv_ifnullN (tgt := 125) hx hb dX6_passHour_86 (by decide) ?_
  obtain ⟨x_447, ex_447⟩ : ∃ y : Int32, y = 6 + 1 := ⟨_, rfl⟩
  have ex_447 : x_447 = 7 := ex_447.trans (by decide)
  subst ex_447
  refine lv_iinc (v := 7) (lv' := [(5, .int 7), (6, .null), (4, .int 16), (3, .ref xq), (2, .int 0), (1, .int (nI (ho / 24))), (0, .ref xo)]) hx hb dX6_passHour_125 hl (k := 1) rfl (by decide) (by decide) rfl (fun ls hl => ?_)
  refine lv_goto (tgt := 71) hx hb dX6_passHour_128 (by decide) ?_
  refine lv_iload hx hb dX6_passHour_71 (lv_at hl 0 rfl) ?_
  refine lv_iload hx hb dX6_passHour_73 (lv_at hl 2 rfl) ?_
  refine lv_icmp_ge (tgt := 131) hx hb dX6_passHour_75 (by decide) (fun cc => absurd cc (by decide)) (fun _ => ?_)
  refine lv_aload_n hx hb dX6_passHour_78 rfl (lv_at hl 3 rfl) ?_
  refine lv_iload hx hb dX6_passHour_79 (lv_at hl 0 rfl) ?_
  refine va_aldq (D := D) (cl := vwCl) hx hb hK hP 2 1 rfl rfl (vp_in_nI (n := 7) (N := 16) (by decide) (by decide)) dX6_passHour_81 ?_
  refine W.eq (g2 := F0 m 82 ls [.null]) rfl ?_
  refine lv_astoreN (lv' := [(6, .null), (5, .int 7), (4, .int 16), (3, .ref xq), (2, .int 0), (1, .int (nI (ho / 24))), (0, .ref xo)]) hx hb dX6_passHour_82 hl (by decide) rfl (fun ls hl => ?_)
  refine lv_aloadN hx hb dX6_passHour_84 (lv_at hl 0 rfl) ?_
  refine lv_ifnullN (tgt := 125) hx hb dX6_passHour_86 (by decide) ?_
  obtain ⟨x_448, ex_448⟩ : ∃ y : Int32, y = 7 + 1 := ⟨_, rfl⟩
  have ex_448 : x_448 = 8 := ex_448.trans (by decide)
  subst ex_448
  refine lv_iinc (v := 8) (lv' := [(5, .int 8), (6, .null), (4, .int 16), (3, .ref xq), (2, .int 0), (1, .int (nI (ho / 24))), (0, .ref xo)]) hx hb dX6_passHour_125 hl (k := 1) rfl (by decide) (by decide) rfl (fun ls hl => ?_)
  refine lv_goto (tgt := 71) hx hb dX6_passHour_128 (by decide) ?_
  refine lv_iload hx hb dX6_passHour_71 (lv_at hl 0 rfl) ?_
  refine lv_iload hx hb dX6_passHour_73 (lv_at hl 2 rfl) ?_
  refine lv_icmp_ge (tgt := 131) hx hb dX6_passHour_75 (by decide) (fun cc => absurd cc (by decide)) (fun _ => ?_)
  refine lv_aload_n hx hb dX6_passHour_78 rfl (lv_at hl 3 rfl) ?_
  refine lv_iload hx hb dX6_passHour_79 (lv_at hl 0 rfl) ?_
  refine va_aldq (D := D) (cl := vwCl) hx hb hK hP 2 1 rfl rfl (vp_in_nI (n := 8) (N := 16) (by decide) (by decide)) dX6_passHour_81 ?_
  refine W.eq (g2 := F0 m 82 ls [.null]) rfl ?_
  refine lv_astoreN (lv' := [(6, .null), (5, .int 8), (4, .int 16), (3, .ref xq), (2, .int 0), (1, .int (nI (ho / 24))), (0, .ref xo)]) hx hb dX6_passHour_82 hl (by decide) rfl (fun ls hl => ?_)
  refine lv_aloadN hx hb dX6_passHour_84 (lv_at hl 0 rfl) ?_
  refine lv_ifnullN (tgt := 125) hx hb dX6_passHour_86 (by decide) ?_
  obtain ⟨x_449, ex_449⟩ : ∃ y : Int32, y = 8 + 1 := ⟨_, rfl⟩
  have ex_449 : x_449 = 9 := ex_449.trans (by decide)
  subst ex_449
  refine lv_iinc (v := 9) (lv' := [(5, .int 9), (6, .null), (4, .int 16), (3, .ref xq), (2, .int 0), (1, .int (nI (ho / 24))), (0, .ref xo)]) hx hb dX6_passHour_125 hl (k := 1) rfl (by decide) (by decide) rfl (fun ls hl => ?_)
  refine lv_goto (tgt := 71) hx hb dX6_passHour_128 (by decide) ?_
  refine lv_iload hx hb dX6_passHour_71 (lv_at hl 0 rfl) ?_
  refine lv_iload hx hb dX6_passHour_73 (lv_at hl 2 rfl) ?_
  refine lv_icmp_ge (tgt := 131) hx hb dX6_passHour_75 (by decide) (fun cc => absurd cc (by decide)) (fun _ => ?_)
  refine lv_aload_n hx hb dX6_passHour_78 rfl (lv_at hl 3 rfl) ?_
  refine lv_iload hx hb dX6_passHour_79 (lv_at hl 0 rfl) ?_
  refine va_aldq (D := D) (cl := vwCl) hx hb hK hP 2 1 rfl rfl (vp_in_nI (n := 9) (N := 16) (by decide) (by decide)) dX6_passHour_81 ?_
  refine W.eq (g2 := F0 m 82 ls [.null]) rfl ?_
  refine lv_astoreN (lv' := [(6, .null), (5, .int 9), (4, .int 16), (3, .ref xq), (2, .int 0), (1, .int (nI (ho / 24))), (0, .ref xo)]) hx hb dX6_passHour_82 hl (by decide) rfl (fun ls hl => ?_)
  refine lv_aloadN hx hb dX6_passHour_84 (lv_at hl 0 rfl) ?_
  refine lv_ifnullN (tgt := 125) hx hb dX6_passHour_86 (by decide) ?_
  obtain ⟨x_450, ex_450⟩ : ∃ y : Int32, y = 9 + 1 := ⟨_, rfl⟩
  have ex_450 : x_450 = 10 := ex_450.trans (by decide)
  subst ex_450
  refine lv_iinc (v := 10) (lv' := [(5, .int 10), (6, .null), (4, .int 16), (3, .ref xq), (2, .int 0), (1, .int (nI (ho / 24))), (0, .ref xo)]) hx hb dX6_passHour_125 hl (k := 1) rfl (by decide) (by decide) rfl (fun ls hl => ?_)
  refine lv_goto (tgt := 71) hx hb dX6_passHour_128 (by decide) ?_
  refine lv_iload hx hb dX6_passHour_71 (lv_at hl 0 rfl) ?_
  refine lv_iload hx hb dX6_passHour_73 (lv_at hl 2 rfl) ?_
  refine lv_icmp_ge (tgt := 131) hx hb dX6_passHour_75 (by decide) (fun cc => absurd cc (by decide)) (fun _ => ?_)
  refine lv_aload_n hx hb dX6_passHour_78 rfl (lv_at hl 3 rfl) ?_
  refine lv_iload hx hb dX6_passHour_79 (lv_at hl 0 rfl) ?_
  refine va_aldq (D := D) (cl := vwCl) hx hb hK hP 2 1 rfl rfl (vp_in_nI (n := 10) (N := 16) (by decide) (by decide)) dX6_passHour_81 ?_
  refine W.eq (g2 := F0 m 82 ls [.null]) rfl ?_
  refine lv_astoreN (lv' := [(6, .null), (5, .int 10), (4, .int 16), (3, .ref xq), (2, .int 0), (1, .int (nI (ho / 24))), (0, .ref xo)]) hx hb dX6_passHour_82 hl (by decide) rfl (fun ls hl => ?_)
  refine lv_aloadN hx hb dX6_passHour_84 (lv_at hl 0 rfl) ?_
  refine lv_ifnullN (tgt := 125) hx hb dX6_passHour_86 (by decide) ?_
  obtain ⟨x_451, ex_451⟩ : ∃ y : Int32, y = 10 + 1 := ⟨_, rfl⟩
  have ex_451 : x_451 = 11 := ex_451.trans (by decide)
  subst ex_451
  refine lv_iinc (v := 11) (lv' := [(5, .int 11), (6, .null), (4, .int 16), (3, .ref xq), (2, .int 0), (1, .int (nI (ho / 24))), (0, .ref xo)]) hx hb dX6_passHour_125 hl (k := 1) rfl (by decide) (by decide) rfl (fun ls hl => ?_)
  refine lv_goto (tgt := 71) hx hb dX6_passHour_128 (by decide) ?_
  refine lv_iload hx hb dX6_passHour_71 (lv_at hl 0 rfl) ?_
  refine lv_iload hx hb dX6_passHour_73 (lv_at hl 2 rfl) ?_
  refine lv_icmp_ge (tgt := 131) hx hb dX6_passHour_75 (by decide) (fun cc => absurd cc (by decide)) (fun _ => ?_)
  refine lv_aload_n hx hb dX6_passHour_78 rfl (lv_at hl 3 rfl) ?_
  refine lv_iload hx hb dX6_passHour_79 (lv_at hl 0 rfl) ?_
  refine va_aldq (D := D) (cl := vwCl) hx hb hK hP 2 1 rfl rfl (vp_in_nI (n := 11) (N := 16) (by decide) (by decide)) dX6_passHour_81 ?_
  refine W.eq (g2 := F0 m 82 ls [.null]) rfl ?_
  refine lv_astoreN (lv' := [(6, .null), (5, .int 11), (4, .int 16), (3, .ref xq), (2, .int 0), (1, .int (nI (ho / 24))), (0, .ref xo)]) hx hb dX6_passHour_82 hl (by decide) rfl (fun ls hl => ?_)
  refine lv_aloadN hx hb dX6_passHour_84 (lv_at hl 0 rfl) ?_
  refine lv_ifnullN (tgt := 125) hx hb dX6_passHour_86 (by decide) ?_
  obtain ⟨x_452, ex_452⟩ : ∃ y : Int32, y = 11 + 1 := ⟨_, rfl⟩
  have ex_452 : x_452 = 12 := ex_452.trans (by decide)
  subst ex_452
  refine lv_iinc (v := 12) (lv' := [(5, .int 12), (6, .null), (4, .int 16), (3, .ref xq), (2, .int 0), (1, .int (nI (ho / 24))), (0, .ref xo)]) hx hb dX6_passHour_125 hl (k := 1) rfl (by decide) (by decide) rfl (fun ls hl => ?_)
  refine lv_goto (tgt := 71) hx hb dX6_passHour_128 (by decide) ?_
  refine lv_iload hx hb dX6_passHour_71 (lv_at hl 0 rfl) ?_
  refine lv_iload hx hb dX6_passHour_73 (lv_at hl 2 rfl) ?_
  refine lv_icmp_ge (tgt := 131) hx hb dX6_passHour_75 (by decide) (fun cc => absurd cc (by decide)) (fun _ => ?_)
  refine lv_aload_n hx hb dX6_passHour_78 rfl (lv_at hl 3 rfl) ?_
  refine lv_iload hx hb dX6_passHour_79 (lv_at hl 0 rfl) ?_
  refine va_aldq (D := D) (cl := vwCl) hx hb hK hP 2 1 rfl rfl (vp_in_nI (n := 12) (N := 16) (by decide) (by decide)) dX6_passHour_81 ?_
  refine W.eq (g2 := F0 m 82 ls [.null]) rfl ?_
  refine lv_astoreN (lv' := [(6, .null), (5, .int 12), (4, .int 16), (3, .ref xq), (2, .int 0), (1, .int (nI (ho / 24))), (0, .ref xo)]) hx hb dX6_passHour_82 hl (by decide) rfl (fun ls hl => ?_)
  refine lv_aloadN hx hb dX6_passHour_84 (lv_at hl 0 rfl) ?_
  refine lv_ifnullN (tgt := 125) hx hb dX6_passHour_86 (by decide) ?_
  obtain ⟨x_453, ex_453⟩ : ∃ y : Int32, y = 12 + 1 := ⟨_, rfl⟩
  have ex_453 : x_453 = 13 := ex_453.trans (by decide)
  subst ex_453
  refine lv_iinc (v := 13) (lv' := [(5, .int 13), (6, .null), (4, .int 16), (3, .ref xq), (2, .int 0), (1, .int (nI (ho / 24))), (0, .ref xo)]) hx hb dX6_passHour_125 hl (k := 1) rfl (by decide) (by decide) rfl (fun ls hl => ?_)
  refine lv_goto (tgt := 71) hx hb dX6_passHour_128 (by decide) ?_
  refine lv_iload hx hb dX6_passHour_71 (lv_at hl 0 rfl) ?_
  refine lv_iload hx hb dX6_passHour_73 (lv_at hl 2 rfl) ?_
  refine lv_icmp_ge (tgt := 131) hx hb dX6_passHour_75 (by decide) (fun cc => absurd cc (by decide)) (fun _ => ?_)
  refine lv_aload_n hx hb dX6_passHour_78 rfl (lv_at hl 3 rfl) ?_
  refine lv_iload hx hb dX6_passHour_79 (lv_at hl 0 rfl) ?_
  refine va_aldq (D := D) (cl := vwCl) hx hb hK hP 2 1 rfl rfl (vp_in_nI (n := 13) (N := 16) (by decide) (by decide)) dX6_passHour_81 ?_
  refine W.eq (g2 := F0 m 82 ls [.null]) rfl ?_
  refine lv_astoreN (lv' := [(6, .null), (5, .int 13), (4, .int 16), (3, .ref xq), (2, .int 0), (1, .int (nI (ho / 24))), (0, .ref xo)]) hx hb dX6_passHour_82 hl (by decide) rfl (fun ls hl => ?_)
  refine lv_aloadN hx hb dX6_passHour_84 (lv_at hl 0 rfl) ?_
  refine lv_ifnullN (tgt := 125) hx hb dX6_passHour_86 (by decide) ?_
  obtain ⟨x_454, ex_454⟩ : ∃ y : Int32, y = 13 + 1 := ⟨_, rfl⟩
  have ex_454 : x_454 = 14 := ex_454.trans (by decide)
  subst ex_454
  refine lv_iinc (v := 14) (lv' := [(5, .int 14), (6, .null), (4, .int 16), (3, .ref xq), (2, .int 0), (1, .int (nI (ho / 24))), (0, .ref xo)]) hx hb dX6_passHour_125 hl (k := 1) rfl (by decide) (by decide) rfl (fun ls hl => ?_)
  refine lv_goto (tgt := 71) hx hb dX6_passHour_128 (by decide) ?_
  refine lv_iload hx hb dX6_passHour_71 (lv_at hl 0 rfl) ?_
  refine lv_iload hx hb dX6_passHour_73 (lv_at hl 2 rfl) ?_
  refine lv_icmp_ge (tgt := 131) hx hb dX6_passHour_75 (by decide) (fun cc => absurd cc (by decide)) (fun _ => ?_)
  refine lv_aload_n hx hb dX6_passHour_78 rfl (lv_at hl 3 rfl) ?_
  refine lv_iload hx hb dX6_passHour_79 (lv_at hl 0 rfl) ?_
  refine va_aldq (D := D) (cl := vwCl) hx hb hK hP 2 1 rfl rfl (vp_in_nI (n := 14) (N := 16) (by decide) (by decide)) dX6_passHour_81 ?_
  refine W.eq (g2 := F0 m 82 ls [.null]) rfl ?_
  refine lv_astoreN (lv' := [(6, .null), (5, .int 14), (4, .int 16), (3, .ref xq), (2, .int 0), (1, .int (nI (ho / 24))), (0, .ref xo)]) hx hb dX6_passHour_82 hl (by decide) rfl (fun ls hl => ?_)
  refine lv_aloadN hx hb dX6_passHour_84 (lv_at hl 0 rfl) ?_
  refine lv_ifnullN (tgt := 125) hx hb dX6_passHour_86 (by decide) ?_
  obtain ⟨x_455, ex_455⟩ : ∃ y : Int32, y = 14 + 1 := ⟨_, rfl⟩
  have ex_455 : x_455 = 15 := ex_455.trans (by decide)
  subst ex_455
  refine lv_iinc (v := 15) (lv' := [(5, .int 15), (6, .null), (4, .int 16), (3, .ref xq), (2, .int 0), (1, .int (nI (ho / 24))), (0, .ref xo)]) hx hb dX6_passHour_125 hl (k := 1) rfl (by decide) (by decide) rfl (fun ls hl => ?_)
  refine lv_goto (tgt := 71) hx hb dX6_passHour_128 (by decide) ?_
  refine lv_iload hx hb dX6_passHour_71 (lv_at hl 0 rfl) ?_
  refine lv_iload hx hb dX6_passHour_73 (lv_at hl 2 rfl) ?_
  refine lv_icmp_ge (tgt := 131) hx hb dX6_passHour_75 (by decide) (fun cc => absurd cc (by decide)) (fun _ => ?_)
  refine lv_aload_n hx hb dX6_passHour_78 rfl (lv_at hl 3 rfl) ?_
  refine lv_iload hx hb dX6_passHour_79 (lv_at hl 0 rfl) ?_
  refine va_aldq (D := D) (cl := vwCl) hx hb hK hP 2 1 rfl rfl (vp_in_nI (n := 15) (N := 16) (by decide) (by decide)) dX6_passHour_81 ?_
  refine W.eq (g2 := F0 m 82 ls [.null]) rfl ?_
  refine lv_astoreN (lv' := [(6, .null), (5, .int 15), (4, .int 16), (3, .ref xq), (2, .int 0), (1, .int (nI (ho / 24))), (0, .ref xo)]) hx hb dX6_passHour_82 hl (by decide) rfl (fun ls hl => ?_)
  refine lv_aloadN hx hb dX6_passHour_84 (lv_at hl 0 rfl) ?_
  refine lv_ifnullN (tgt := 125) hx hb dX6_passHour_86 (by decide) ?_
  obtain ⟨x_456, ex_456⟩ : ∃ y : Int32, y = 15 + 1 := ⟨_, rfl⟩
  have ex_456 : x_456 = 16 := ex_456.trans (by decide)
  subst ex_456
  refine lv_iinc (v := 16) (lv' := [(5, .int 16), (6, .null), (4, .int 16), (3, .ref xq), (2, .int 0), (1, .int (nI (ho / 24))), (0, .ref xo)]) hx hb dX6_passHour_125 hl (k := 1) rfl (by decide) (by decide) rfl (fun ls hl => ?_)
  refine lv_goto (tgt := 71) hx hb dX6_passHour_128 (by decide) ?_
  refine lv_iload hx hb dX6_passHour_71 (lv_at hl 0 rfl) ?_
  refine lv_iload hx hb dX6_passHour_73 (lv_at hl 2 rfl) ?_
  refine lv_icmp_ge (tgt := 131) hx hb dX6_passHour_75 (by decide) (fun _ => ?_) (fun cc => absurd (by decide) cc)
  refine lv_aload_n hx hb dX6_passHour_131 rfl (lv_at hl 6 rfl) ?_
  refine va_get (D := D) (cl := vwCl) (ci := 6) (v := .int (nI (ho + 1))) (C := RX6) (T := TX6) (N := 16) hx hb hts zuX6_passHour_2_X6 hown hK hP 0 rfl rfl 12 (by decide) (hts (.fieldLink RX6 63 "Gatherhouse" "hoursGone" "I") (by decide +kernel)) (fun _ h9 => h9) rfl dX6_passHour_132 ?_
  refine lv_bipush (v := 24) hx hb dX6_passHour_135 (by decide) ?_
  refine lv_irem hx hb dX6_passHour_137 (by decide) ?_
  refine lv_topi (fun y_457 ey_457 => ?_)
  have ey_457 : y_457 = (nI ((ho + 1) % 24)) := ey_457.trans (pk_rem (a := (ho + 1)) (d := 24) (by omega) (by omega) (by omega))
  subst ey_457
  refine lv_if_ne (tgt := 146) hx hb dX6_passHour_138 (by decide) (fun c_458 => ?_) (fun c_458 => ?_)
  · have n_459 : ¬ ((ho + 1) % 24 = 0) := fun z => c_458 ((nI_eq (a := (ho + 1) % 24) (b := 0) (by omega) (by omega)).mpr z)
    refine lv_iload_n hx hb dX6_passHour_146 rfl (lv_at hl 4 rfl) ?_
    exact W.iret (v := 0) hx hb hr (fun t ht hW => ⟨⟨0, (), rfl, rfl, q_RW_mk hP hK hD [0, 1, 2, 3, 4] [0, 1] rfl rfl (by decide) rfl ht hW.alike⟩, hS.F ht⟩) hS.2.2 dX6_passHour_147
  · have n_460 : (ho + 1) % 24 = 0 := (nI_eq (a := (ho + 1) % 24) (b := 0) (by omega) (by omega)).mp c_458
    refine lv_aload_n hx hb dX6_passHour_141 rfl (lv_at hl 6 rfl) ?_
    refine lv_iload_n hx hb dX6_passHour_142 rfl (lv_at hl 5 rfl) ?_
    refine va_csv (va_runV (As := [.int (nI (ho / 24))]) (rest := []) ⟨hx, hb, hml, hown, hts⟩ (zc_X6_endDay l D G xo (nI (ho / 24)) xg gc xp pc xq qc r1 r2 r3 r4 se ts (nI (ho + 1)) dr su br cq) (cwV 1 hts gzX6_passHour_2_X6_endDay_405 rfl rfl rfl (by decide +kernel) ⟨(Nat.le_of_ble_eq_true rfl), (Nat.le_of_ble_eq_true rfl)⟩) ⟨p_RO_blind, va_recv hK hP (ci := 6) (q0 := 0) rfl rfl, (p_RO_at (tc := [(cq, .object "Gatherhouse$Piece")]) (wc := [(xo, .inr (6, [.ref xg, .int gc, .ref xp, .int pc, .ref xq, .int qc, .ref r1, .ref r2, .ref r3, .ref r4, .ref se, .int ts, .int (nI (ho + 1)), .int dr, .int su, .int br])), (xq, .inl (cq, 16, .inr (.inr (.inr (.inr (zq [none, none, none, none, none, none, none, none, none, none, none, none, none, none, none, none]))))))]) hP hK hT [0, 2] [1] rfl rfl [.ref xo, .int (nI (ho / 24))])⟩ rfl rfl hl.1 rfl (lv_room (Nat.le_of_ble_eq_true rfl)) dX6_passHour_143 ⟨(Nat.le_of_ble_eq_true rfl), (Nat.le_of_ble_eq_true rfl)⟩).run (fun w_462 => ?_)
    refine lv_iload_n hx hb dX6_passHour_146 rfl (lv_at hl 4 rfl) ?_
    exact W.iret (v := 0) hx hb hr (fun t ht hW => ⟨⟨0, (), rfl, rfl, q_RW_mk hP hK hD [0, 1, 2, 3, 4] [0, 1] rfl rfl (by decide) rfl ht hW.alike⟩, hS.F ht⟩) hS.2.2 dX6_passHour_147
def wzEX6_passHour_3 : List Cond := [.code yX6_passHour cX6_passHour 7 (some .int), .fieldLink RX6 63 "Gatherhouse" "hoursGone" "I", .fieldLink RX6 21 "Gatherhouse" "pots" "[LGatherhouse$Pot;", .code yX2_passHour cX2_passHour 1 none, .fieldLink RX2 9 "Gatherhouse$Pot" "mass" "I", .fieldLink RX2 21 "Gatherhouse$Pot" "age" "I", .fieldLink RX2 18 "Gatherhouse$Pot" "stones" "I", .fieldLink RX2 15 "Gatherhouse$Pot" "seeds" "I", .methodLink RX2 28 Lib.Math.max.name, .static Lib.Math.max.name, .initialized "java/lang/Math", .code Lib.Math.max.name Lib.Math.max.code 2 (some .int), .initialized RX2, .instanceMethod yX2_passHour, .selects RX2 yX2_passHour yX2_passHour, .fieldLink RX6 30 "Gatherhouse" "pieces" "[LGatherhouse$Piece;", .methodLink RX6 405 yX6_endDay, .instanceMethod yX6_endDay, .selects RX6 yX6_endDay yX6_endDay, .initialized RX6, .code yX6_endDay cX6_endDay 6 none]
def wzX6_passHour_3 : List Cond := wzEX6_passHour_3 ++ (u_ws RX6 TX6 16 ++ (u_ws RX2 TX2 5))
theorem zgEX6_passHour_3 : wzEX6_passHour_3.all goodWord = true := by decide +kernel
theorem zuX6_passHour_3_X6 : ∀ w ∈ u_ws RX6 TX6 16, w ∈ wzX6_passHour_3 := (fun _ h => (List.mem_append_right _ (List.mem_append_left _ h)))
theorem zuX6_passHour_3_X2 : ∀ w ∈ u_ws RX2 TX2 5, w ∈ wzX6_passHour_3 := (fun _ h => (List.mem_append_right _ (List.mem_append_right _ h)))
theorem gzX6_passHour_3_X2_passHour_399 : GoodIn wzX6_passHour_3 (wzX2_passHour) := (goodIn_app (z_lift (goodIn_r wzEX2_passHour [3, 4, 5, 6, 7, 8, 9, 10, 11] rfl zgEX2_passHour)) (goodIn_sub (fun _ h => (List.mem_append_right _ (List.mem_append_right _ h))) zgU_X2))
theorem gzX6_passHour_3_X6_endDay_405 : GoodIn wzX6_passHour_3 (wsV RX6 405 RX6 yX6_endDay wzX6_endDay) := (goodIn_app (z_lift (goodIn_r _ [16, 17, 18, 19] rfl (by decide +kernel))) (goodIn_app (z_lift (goodIn_r wzEX6_endDay [20, 15] rfl zgEX6_endDay)) (goodIn_sub (fun _ h => (List.mem_append_right _ (List.mem_append_left _ h))) zgU_X6)))
set_option maxHeartbeats 4000000 in
set_option maxRecDepth 100000 in
theorem zc_X6_passHour_3 (l : Launch) (D : va_G) (G : Nat × Nat × (Nat → Int32)) (xo : Nat) (xg : Nat) (gc : Int32) (xp : Nat) (pc : Int32) (xq : Nat) (qc : Int32) (r1 : Nat) (r2 : Nat) (r3 : Nat) (r4 : Nat) (se : Nat) (ts : Int32) (ho : Nat) (dr : Int32) (su : Int32) (br : Int32) (cp : ClassId) (b0 : Nat) (b1 : Nat) (b2 : Nat) (cq : ClassId) (gx0 : Nat) (pm0 : Nat) (pe0 : Nat) (ps0 : Nat) (pa0 : Nat) (gx1 : Nat) (pm1 : Nat) (pe1 : Nat) (ps1 : Nat) (pa1 : Nat) (gx2 : Nat) (pm2 : Nat) (pe2 : Nat) (ps2 : Nat) (pa2 : Nat) (sz : Nat) (hh_ho : ho ≤ 100000) (hh_pm0 : pm0 ≤ 1000) (hh_pe0 : pe0 ≤ 1000) (hh_ps0 : ps0 ≤ 100000) (hh_pa0 : pa0 ≤ 100000) (hh_pm1 : pm1 ≤ 1000) (hh_pe1 : pe1 ≤ 1000) (hh_ps1 : ps1 ≤ 100000) (hh_pa1 : pa1 ≤ 100000) (hh_pm2 : pm2 ≤ 1000) (hh_pe2 : pe2 ≤ 1000) (hh_ps2 : ps2 ≤ 100000) (hh_pa2 : pa2 ≤ 100000) : Met l yX6_passHour wzX6_passHour_3 ({ frames := 2, cells := 0, slots := 0, locals := 42 }) (va_Pc [.ref xo] (p_RW D G [(cp, .object "Gatherhouse$Pot"), (cq, .object "Gatherhouse$Piece")] [(xo, .inr (6, [.ref xg, .int gc, .ref xp, .int pc, .ref xq, .int qc, .ref r1, .ref r2, .ref r3, .ref r4, .ref se, .int ts, .int (nI ho), .int dr, .int su, .int br])), (xp, .inl (cp, 4, .inr (.inr (.inr (.inr (zq [some b0, some b1, some b2, none])))))), (xq, .inl (cq, 16, .inr (.inr (.inr (.inr (zq [none, none, none, none, none, none, none, none, none, none, none, none, none, none, none, none])))))), (b0, .inr (2, [.ref gx0, .int (nI pm0), .int (nI pe0), .int (nI ps0), .int (nI pa0)])), (b1, .inr (2, [.ref gx1, .int (nI pm1), .int (nI pe1), .int (nI ps1), .int (nI pa1)])), (b2, .inr (2, [.ref gx2, .int (nI pm2), .int (nI pe2), .int (nI ps2), .int (nI pa2)]))] sz)) (va_Qi (fun (r : Int32) (u : Unit) => r = 0) (fun (u : Unit) (t : State) => q_RW D [(cp, .object "Gatherhouse$Pot"), (cq, .object "Gatherhouse$Piece")] [(xo, .inr (6, [.ref xg, .int gc, .ref xp, .int pc, .ref xq, .int qc, .ref r1, .ref r2, .ref r3, .ref r4, .ref se, .int ts, .int (nI (ho + 1)), .int dr, .int su, .int br])), (xp, .inl (cp, 4, .inr (.inr (.inr (.inr (zq [some b0, some b1, some b2, none])))))), (xq, .inl (cq, 16, .inr (.inr (.inr (.inr (zq [none, none, none, none, none, none, none, none, none, none, none, none, none, none, none, none])))))), (b0, .inr (2, [.ref gx0, .int (nI pm0), .int (nI (zS pm0 pe0 1)), .int (nI (ps0 + ((pa0 + 1) / 50 - pa0 / 50))), .int (nI (pa0 + 1))])), (b1, .inr (2, [.ref gx1, .int (nI pm1), .int (nI (zS pm1 pe1 1)), .int (nI (ps1 + ((pa1 + 1) / 50 - pa1 / 50))), .int (nI (pa1 + 1))])), (b2, .inr (2, [.ref gx2, .int (nI pm2), .int (nI (zS pm2 pe2 1)), .int (nI (ps2 + ((pa2 + 1) / 50 - pa2 / 50))), .int (nI (pa2 + 1))]))] (va_A [(xo, .inr (6, [.ref xg, .int gc, .ref xp, .int pc, .ref xq, .int qc, .ref r1, .ref r2, .ref r3, .ref r4, .ref se, .int ts, .int (nI ho), .int dr, .int su, .int br])), (xp, .inl (cp, 4, .inr (.inr (.inr (.inr (zq [some b0, some b1, some b2, none])))))), (xq, .inl (cq, 16, .inr (.inr (.inr (.inr (zq [none, none, none, none, none, none, none, none, none, none, none, none, none, none, none, none])))))), (b0, .inr (2, [.ref gx0, .int (nI pm0), .int (nI pe0), .int (nI ps0), .int (nI pa0)])), (b1, .inr (2, [.ref gx1, .int (nI pm1), .int (nI pe1), .int (nI ps1), .int (nI pa1)])), (b2, .inr (2, [.ref gx2, .int (nI pm2), .int (nI pe2), .int (nI ps2), .int (nI pa2)]))] sz) t) (va_A [(xo, .inr (6, [.ref xg, .int gc, .ref xp, .int pc, .ref xq, .int qc, .ref r1, .ref r2, .ref r3, .ref r4, .ref se, .int ts, .int (nI ho), .int dr, .int su, .int br])), (xp, .inl (cp, 4, .inr (.inr (.inr (.inr (zq [some b0, some b1, some b2, none])))))), (xq, .inl (cq, 16, .inr (.inr (.inr (.inr (zq [none, none, none, none, none, none, none, none, none, none, none, none, none, none, none, none])))))), (b0, .inr (2, [.ref gx0, .int (nI pm0), .int (nI pe0), .int (nI ps0), .int (nI pa0)])), (b1, .inr (2, [.ref gx1, .int (nI pm1), .int (nI pe1), .int (nI ps1), .int (nI pa1)])), (b2, .inr (2, [.ref gx2, .int (nI pm2), .int (nI pe2), .int (nI ps2), .int (nI pa2)]))] sz)) 0 0 (va_A [(xo, .inr (6, [.ref xg, .int gc, .ref xp, .int pc, .ref xq, .int qc, .ref r1, .ref r2, .ref r3, .ref r4, .ref se, .int ts, .int (nI ho), .int dr, .int su, .int br])), (xp, .inl (cp, 4, .inr (.inr (.inr (.inr (zq [some b0, some b1, some b2, none])))))), (xq, .inl (cq, 16, .inr (.inr (.inr (.inr (zq [none, none, none, none, none, none, none, none, none, none, none, none, none, none, none, none])))))), (b0, .inr (2, [.ref gx0, .int (nI pm0), .int (nI pe0), .int (nI ps0), .int (nI pa0)])), (b1, .inr (2, [.ref gx1, .int (nI pm1), .int (nI pe1), .int (nI ps1), .int (nI pa1)])), (b2, .inr (2, [.ref gx2, .int (nI pm2), .int (nI pe2), .int (nI ps2), .int (nI pa2)]))] sz) := by
  refine Met.ofW (cc := cX6_passHour) (maxL := 7) (ret := (some .int)) (by decide) rfl ?_
  intro p e s m args below meth c s₁ B hml hv
  obtain ⟨rfl, hsz, hP, hK, hD0, hT, hZ⟩ := hv
  have hx := B.exec
  have hb := B.bytes
  have hr := B.returns
  have hts := atoms_spec (ws := wzX6_passHour_3) B.pre
  have hown : s.vm.findClass RX6 = some m.cls := findClass_of_methodNamed B.named
  have hlocks := B.notSynchronized
  subst hsz
  have hD := hD0.self (sz := s.heap.size)
  generalize hAe : va_A [(xo, .inr (6, [.ref xg, .int gc, .ref xp, .int pc, .ref xq, .int qc, .ref r1, .ref r2, .ref r3, .ref r4, .ref se, .int ts, .int (nI ho), .int dr, .int su, .int br])), (xp, .inl (cp, 4, .inr (.inr (.inr (.inr (zq [some b0, some b1, some b2, none])))))), (xq, .inl (cq, 16, .inr (.inr (.inr (.inr (zq [none, none, none, none, none, none, none, none, none, none, none, none, none, none, none, none])))))), (b0, .inr (2, [.ref gx0, .int (nI pm0), .int (nI pe0), .int (nI ps0), .int (nI pa0)])), (b1, .inr (2, [.ref gx1, .int (nI pm1), .int (nI pe1), .int (nI ps1), .int (nI pa1)])), (b2, .inr (2, [.ref gx2, .int (nI pm2), .int (nI pe2), .int (nI ps2), .int (nI pa2)]))] s.heap.size = A at hD hZ ⊢
  have hA : ∀ q : Nat, s.heap.size ≤ q → A q := fun q h => by rw [← hAe]; exact Or.inr h
  have hS : va_S A s.heap s.heap [] := va_S.rf
  have hl := lv_entry ([.ref xo]) (n := 7) (Nat.le_of_ble_eq_true rfl)
  rw [lg_entry_eq]
  generalize (lg_sl ([.ref xo]) ++ List.replicate (7 - (lg_sl ([.ref xo])).length) Slot.unset).toArray = ls at hl ⊢
  have hl : lv_has ls 7 [(0, .ref xo)] := hl
  refine lv_aload_n hx hb dX6_passHour_0 rfl (lv_at hl 0 rfl) ?_
  refine va_get (D := D) (cl := vwCl) (ci := 6) (v := .int (nI ho)) (C := RX6) (T := TX6) (N := 16) hx hb hts zuX6_passHour_3_X6 hown hK hP 0 rfl rfl 12 (by decide) (hts (.fieldLink RX6 63 "Gatherhouse" "hoursGone" "I") (by decide +kernel)) (fun _ h9 => h9) rfl dX6_passHour_1 ?_
  refine lv_bipush (v := 24) hx hb dX6_passHour_4 (by decide) ?_
  refine lv_idiv hx hb dX6_passHour_6 (by decide) ?_
  refine lv_topi (fun y_463 ey_463 => ?_)
  have ey_463 : y_463 = (nI (ho / 24)) := ey_463.trans (pk_div (a := ho) (d := 24) (by omega) (by omega) (by omega))
  subst ey_463
  refine lv_istore_n (lv' := [(1, .int (nI (ho / 24))), (0, .ref xo)]) hx hb dX6_passHour_7 rfl hl (by decide) rfl (fun ls hl => ?_)
  refine lv_aload_n hx hb dX6_passHour_8 rfl (lv_at hl 1 rfl) ?_
  refine lv_dup hx hb dX6_passHour_9 rfl ?_
  refine va_get (D := D) (cl := vwCl) (ci := 6) (v := .int (nI ho)) (C := RX6) (T := TX6) (N := 16) hx hb hts zuX6_passHour_3_X6 hown hK hP 0 rfl rfl 12 (by decide) (hts (.fieldLink RX6 63 "Gatherhouse" "hoursGone" "I") (by decide +kernel)) (fun _ h9 => h9) rfl dX6_passHour_10 ?_
  refine lv_iconst (v := 1) hx hb dX6_passHour_13 (by decide) ?_
  refine lv_iadd hx hb dX6_passHour_14 ?_
  refine lv_topi (fun y_464 ey_464 => ?_)
  have ey_464 : y_464 = (nI (ho + 1)) := ey_464.trans (nI_add ho 1)
  subst ey_464
  refine va_put (D := D) (cl := vwCl) (ci := 6) (v := .int (nI (ho + 1))) (ty := .int) (C := RX6) (T := TX6) (N := 16) hx hb hts zuX6_passHour_3_X6 tyX6 tyX6_ok nmX6 hown hK hP hD hS 0 rfl rfl 12 (by decide) (hts (.fieldLink RX6 63 "Gatherhouse" "hoursGone" "I") (by decide +kernel)) (fun _ h9 => h9) rfl (by decide +kernel) rfl rfl (Nat.le_of_ble_eq_true rfl) dX6_passHour_15 (fun H locs hP hD hS => ?_)
  have hP : va_P D vwCl [(xo, .inr (6, [.ref xg, .int gc, .ref xp, .int pc, .ref xq, .int qc, .ref r1, .ref r2, .ref r3, .ref r4, .ref se, .int ts, .int (nI (ho + 1)), .int dr, .int su, .int br])), (xp, .inl (cp, 4, .inr (.inr (.inr (.inr (zq [some b0, some b1, some b2, none])))))), (xq, .inl (cq, 16, .inr (.inr (.inr (.inr (zq [none, none, none, none, none, none, none, none, none, none, none, none, none, none, none, none])))))), (b0, .inr (2, [.ref gx0, .int (nI pm0), .int (nI pe0), .int (nI ps0), .int (nI pa0)])), (b1, .inr (2, [.ref gx1, .int (nI pm1), .int (nI pe1), .int (nI ps1), .int (nI pa1)])), (b2, .inr (2, [.ref gx2, .int (nI pm2), .int (nI pe2), .int (nI ps2), .int (nI pa2)]))] H := hP
  have hD : va_D A [(xo, .inr (6, [.ref xg, .int gc, .ref xp, .int pc, .ref xq, .int qc, .ref r1, .ref r2, .ref r3, .ref r4, .ref se, .int ts, .int (nI (ho + 1)), .int dr, .int su, .int br])), (xp, .inl (cp, 4, .inr (.inr (.inr (.inr (zq [some b0, some b1, some b2, none])))))), (xq, .inl (cq, 16, .inr (.inr (.inr (.inr (zq [none, none, none, none, none, none, none, none, none, none, none, none, none, none, none, none])))))), (b0, .inr (2, [.ref gx0, .int (nI pm0), .int (nI pe0), .int (nI ps0), .int (nI pa0)])), (b1, .inr (2, [.ref gx1, .int (nI pm1), .int (nI pe1), .int (nI ps1), .int (nI pa1)])), (b2, .inr (2, [.ref gx2, .int (nI pm2), .int (nI pe2), .int (nI ps2), .int (nI pa2)]))] := hD
  refine lv_aload_n hx hb dX6_passHour_18 rfl (lv_at hl 1 rfl) ?_
  refine va_get (D := D) (cl := vwCl) (ci := 6) (v := .ref xp) (C := RX6) (T := TX6) (N := 16) hx hb hts zuX6_passHour_3_X6 hown hK hP 0 rfl rfl 2 (by decide) (hts (.fieldLink RX6 21 "Gatherhouse" "pots" "[LGatherhouse$Pot;") (by decide +kernel)) (fun _ h9 => h9) rfl dX6_passHour_19 ?_
  refine lv_astore_n (lv' := [(2, .ref xp), (1, .int (nI (ho / 24))), (0, .ref xo)]) hx hb dX6_passHour_22 rfl hl (by decide) rfl (fun ls hl => ?_)
  refine lv_aload_n hx hb dX6_passHour_23 rfl (lv_at hl 0 rfl) ?_
  refine va_alen (D := D) (cl := vwCl) (v := 4) hx hb hK hP 1 0 rfl rfl rfl dX6_passHour_24 ?_
  refine lv_istore_n (lv' := [(3, .int 4), (2, .ref xp), (1, .int (nI (ho / 24))), (0, .ref xo)]) hx hb dX6_passHour_25 rfl hl (by decide) rfl (fun ls hl => ?_)
  refine lv_iconst (v := 0) hx hb dX6_passHour_26 (by decide) ?_
  refine lv_istore (lv' := [(4, .int 0), (3, .int 4), (2, .ref xp), (1, .int (nI (ho / 24))), (0, .ref xo)]) hx hb dX6_passHour_27 hl (by decide) rfl (fun ls hl => ?_)
  refine lv_iload hx hb dX6_passHour_29 (lv_at hl 0 rfl) ?_
  refine lv_iload_n hx hb dX6_passHour_31 rfl (lv_at hl 1 rfl) ?_
  refine lv_icmp_ge (tgt := 57) hx hb dX6_passHour_32 (by decide) (fun cc => absurd cc (by decide)) (fun _ => ?_)
  refine lv_aload_n hx hb dX6_passHour_35 rfl (lv_at hl 2 rfl) ?_
  refine lv_iload hx hb dX6_passHour_36 (lv_at hl 0 rfl) ?_
  refine va_aldq (D := D) (cl := vwCl) hx hb hK hP 1 0 rfl rfl (vp_in_nI (n := 0) (N := 4) (by decide) (by decide)) dX6_passHour_38 ?_
  refine W.eq (g2 := F0 m 39 ls [.ref b0]) rfl ?_
  refine lv_astore (lv' := [(5, .ref b0), (4, .int 0), (3, .int 4), (2, .ref xp), (1, .int (nI (ho / 24))), (0, .ref xo)]) hx hb dX6_passHour_39 hl (by decide) rfl (fun ls hl => ?_)
  refine lv_aload hx hb dX6_passHour_41 (lv_at hl 0 rfl) ?_
  refine lv_ifnull hx hb dX6_passHour_43 ?_
  refine lv_aload hx hb dX6_passHour_46 (lv_at hl 0 rfl) ?_
  have hFc := va_free (wc := [(b0, .inr (2, [.ref gx0, .int (nI pm0), .int (nI pe0), .int (nI ps0), .int (nI pa0)]))]) hD hS hA [3] rfl
  refine va_callv (va_runVN (As := []) (rest := []) ⟨hx, hb, hml, hown, hts⟩ (zc_X2_passHour l D G b0 gx0 pm0 pe0 ps0 pa0 H.size (by first | assumption | rfl | omega | exact Nat.le_trans (zS_le _ _ _) (by omega) | decide) (by first | assumption | rfl | omega | exact Nat.le_trans (zS_le _ _ _) (by omega) | decide) (by first | assumption | rfl | omega | exact Nat.le_trans (zS_le _ _ _) (by omega) | decide) (by first | assumption | rfl | omega | exact Nat.le_trans (zS_le _ _ _) (by omega) | decide)) ⟨va_cnB 0 hts gzX6_passHour_3_X2_passHour_399 rfl rfl rfl (hT.1 ("Gatherhouse", 399, ⟨"Gatherhouse$Pot", "passHour", "()V"⟩, "Gatherhouse") (by decide +kernel)) (hts (.initialized RX2) (by decide +kernel)) (by decide +kernel) ⟨(Nat.le_of_ble_eq_true rfl), (Nat.le_of_ble_eq_true rfl)⟩, (hts (.instanceMethod yX2_passHour) (by decide +kernel)), (hts (.selects RX2 yX2_passHour yX2_passHour) (by decide +kernel))⟩ ⟨p_RW_blind, va_recv hK hP (ci := 2) (q0 := 3) rfl rfl, (p_RW_at (tc := []) (wc := [(b0, .inr (2, [.ref gx0, .int (nI pm0), .int (nI pe0), .int (nI ps0), .int (nI pa0)]))]) hP hK hD hS hA hT hZ [3] [] rfl rfl (by decide) rfl [.ref b0])⟩ rfl rfl hl.1 rfl (lv_room (Nat.le_of_ble_eq_true rfl)) dX6_passHour_48 ⟨(Nat.le_of_ble_eq_true rfl), (Nat.le_of_ble_eq_true rfl)⟩) hS (fun q _ h => hFc q h) hFc (fun u t H locs ht hvm w_466 hB hz1 hk1 hS => ?_)
  obtain ⟨hP, hD, hK⟩ := q_join (D := D) (wc := [(b0, .inr (2, [.ref gx0, .int (nI pm0), .int (nI pe0), .int (nI ps0), .int (nI pa0)]))]) (wr := [(xo, .inr (6, [.ref xg, .int gc, .ref xp, .int pc, .ref xq, .int qc, .ref r1, .ref r2, .ref r3, .ref r4, .ref se, .int ts, .int (nI (ho + 1)), .int dr, .int su, .int br])), (xp, .inl (cp, 4, .inr (.inr (.inr (.inr (zq [some b0, some b1, some b2, none])))))), (xq, .inl (cq, 16, .inr (.inr (.inr (.inr (zq [none, none, none, none, none, none, none, none, none, none, none, none, none, none, none, none])))))), (b1, .inr (2, [.ref gx1, .int (nI pm1), .int (nI pe1), .int (nI ps1), .int (nI pa1)])), (b2, .inr (2, [.ref gx2, .int (nI pm2), .int (nI pe2), .int (nI ps2), .int (nI pa2)]))]) (w1 := [(b0, .inr (2, [.ref gx0, .int (nI pm0), .int (nI (zS pm0 pe0 1)), .int (nI (ps0 + ((pa0 + 1) / 50 - pa0 / 50))), .int (nI (pa0 + 1))]))]) (tyr := [(cp, .object "Gatherhouse$Pot"), (cq, .object "Gatherhouse$Piece")]) (ty1 := []) hP hD hK [3] [0, 1, 2, 4, 5] [0, 1] rfl rfl (by decide) (by decide) rfl hFc hk1 ht hvm hB
  have hP : va_P D vwCl [(xo, .inr (6, [.ref xg, .int gc, .ref xp, .int pc, .ref xq, .int qc, .ref r1, .ref r2, .ref r3, .ref r4, .ref se, .int ts, .int (nI (ho + 1)), .int dr, .int su, .int br])), (xp, .inl (cp, 4, .inr (.inr (.inr (.inr (zq [some b0, some b1, some b2, none])))))), (xq, .inl (cq, 16, .inr (.inr (.inr (.inr (zq [none, none, none, none, none, none, none, none, none, none, none, none, none, none, none, none])))))), (b1, .inr (2, [.ref gx1, .int (nI pm1), .int (nI pe1), .int (nI ps1), .int (nI pa1)])), (b2, .inr (2, [.ref gx2, .int (nI pm2), .int (nI pe2), .int (nI ps2), .int (nI pa2)])), (b0, .inr (2, [.ref gx0, .int (nI pm0), .int (nI (zS pm0 pe0 1)), .int (nI (ps0 + ((pa0 + 1) / 50 - pa0 / 50))), .int (nI (pa0 + 1))]))] H := hP
  have hD : va_D A [(xo, .inr (6, [.ref xg, .int gc, .ref xp, .int pc, .ref xq, .int qc, .ref r1, .ref r2, .ref r3, .ref r4, .ref se, .int ts, .int (nI (ho + 1)), .int dr, .int su, .int br])), (xp, .inl (cp, 4, .inr (.inr (.inr (.inr (zq [some b0, some b1, some b2, none])))))), (xq, .inl (cq, 16, .inr (.inr (.inr (.inr (zq [none, none, none, none, none, none, none, none, none, none, none, none, none, none, none, none])))))), (b1, .inr (2, [.ref gx1, .int (nI pm1), .int (nI pe1), .int (nI ps1), .int (nI pa1)])), (b2, .inr (2, [.ref gx2, .int (nI pm2), .int (nI pe2), .int (nI ps2), .int (nI pa2)])), (b0, .inr (2, [.ref gx0, .int (nI pm0), .int (nI (zS pm0 pe0 1)), .int (nI (ps0 + ((pa0 + 1) / 50 - pa0 / 50))), .int (nI (pa0 + 1))]))] := hD
  have hK : va_K D vwCl [(cp, .object "Gatherhouse$Pot"), (cq, .object "Gatherhouse$Piece")] s := hK
  obtain ⟨x_467, ex_467⟩ : ∃ y : Int32, y = 0 + 1 := ⟨_, rfl⟩
  have ex_467 : x_467 = 1 := ex_467.trans (by decide)
  subst ex_467
  refine lv_iinc (v := 1) (lv' := [(4, .int 1), (5, .ref b0), (3, .int 4), (2, .ref xp), (1, .int (nI (ho / 24))), (0, .ref xo)]) hx hb dX6_passHour_51 hl (k := 1) rfl (by decide) (by decide) rfl (fun ls hl => ?_)
  refine lv_goto (tgt := 29) hx hb dX6_passHour_54 (by decide) ?_
  refine lv_iload hx hb dX6_passHour_29 (lv_at hl 0 rfl) ?_
  refine lv_iload_n hx hb dX6_passHour_31 rfl (lv_at hl 2 rfl) ?_
  refine lv_icmp_ge (tgt := 57) hx hb dX6_passHour_32 (by decide) (fun cc => absurd cc (by decide)) (fun _ => ?_)
  refine lv_aload_n hx hb dX6_passHour_35 rfl (lv_at hl 3 rfl) ?_
  refine lv_iload hx hb dX6_passHour_36 (lv_at hl 0 rfl) ?_
  refine va_aldq (D := D) (cl := vwCl) hx hb hK hP 1 0 rfl rfl (vp_in_nI (n := 1) (N := 4) (by decide) (by decide)) dX6_passHour_38 ?_
  refine W.eq (g2 := F0 m 39 ls [.ref b1]) rfl ?_
  refine lv_astore (lv' := [(5, .ref b1), (4, .int 1), (3, .int 4), (2, .ref xp), (1, .int (nI (ho / 24))), (0, .ref xo)]) hx hb dX6_passHour_39 hl (by decide) rfl (fun ls hl => ?_)
  refine lv_aload hx hb dX6_passHour_41 (lv_at hl 0 rfl) ?_
  refine lv_ifnull hx hb dX6_passHour_43 ?_
  refine lv_aload hx hb dX6_passHour_46 (lv_at hl 0 rfl) ?_
  have hFc := va_free (wc := [(b1, .inr (2, [.ref gx1, .int (nI pm1), .int (nI pe1), .int (nI ps1), .int (nI pa1)]))]) hD hS hA [3] rfl
  refine va_callv (va_runVN (As := []) (rest := []) ⟨hx, hb, hml, hown, hts⟩ (zc_X2_passHour l D G b1 gx1 pm1 pe1 ps1 pa1 H.size (by first | assumption | rfl | omega | exact Nat.le_trans (zS_le _ _ _) (by omega) | decide) (by first | assumption | rfl | omega | exact Nat.le_trans (zS_le _ _ _) (by omega) | decide) (by first | assumption | rfl | omega | exact Nat.le_trans (zS_le _ _ _) (by omega) | decide) (by first | assumption | rfl | omega | exact Nat.le_trans (zS_le _ _ _) (by omega) | decide)) ⟨va_cnB 0 hts gzX6_passHour_3_X2_passHour_399 rfl rfl rfl (hT.1 ("Gatherhouse", 399, ⟨"Gatherhouse$Pot", "passHour", "()V"⟩, "Gatherhouse") (by decide +kernel)) (hts (.initialized RX2) (by decide +kernel)) (by decide +kernel) ⟨(Nat.le_of_ble_eq_true rfl), (Nat.le_of_ble_eq_true rfl)⟩, (hts (.instanceMethod yX2_passHour) (by decide +kernel)), (hts (.selects RX2 yX2_passHour yX2_passHour) (by decide +kernel))⟩ ⟨p_RW_blind, va_recv hK hP (ci := 2) (q0 := 3) rfl rfl, (p_RW_at (tc := []) (wc := [(b1, .inr (2, [.ref gx1, .int (nI pm1), .int (nI pe1), .int (nI ps1), .int (nI pa1)]))]) hP hK hD hS hA hT hZ [3] [] rfl rfl (by decide) rfl [.ref b1])⟩ rfl rfl hl.1 rfl (lv_room (Nat.le_of_ble_eq_true rfl)) dX6_passHour_48 ⟨(Nat.le_of_ble_eq_true rfl), (Nat.le_of_ble_eq_true rfl)⟩) hS (fun q _ h => hFc q h) hFc (fun u t H locs ht hvm w_469 hB hz1 hk1 hS => ?_)
  obtain ⟨hP, hD, hK⟩ := q_join (D := D) (wc := [(b1, .inr (2, [.ref gx1, .int (nI pm1), .int (nI pe1), .int (nI ps1), .int (nI pa1)]))]) (wr := [(xo, .inr (6, [.ref xg, .int gc, .ref xp, .int pc, .ref xq, .int qc, .ref r1, .ref r2, .ref r3, .ref r4, .ref se, .int ts, .int (nI (ho + 1)), .int dr, .int su, .int br])), (xp, .inl (cp, 4, .inr (.inr (.inr (.inr (zq [some b0, some b1, some b2, none])))))), (xq, .inl (cq, 16, .inr (.inr (.inr (.inr (zq [none, none, none, none, none, none, none, none, none, none, none, none, none, none, none, none])))))), (b2, .inr (2, [.ref gx2, .int (nI pm2), .int (nI pe2), .int (nI ps2), .int (nI pa2)])), (b0, .inr (2, [.ref gx0, .int (nI pm0), .int (nI (zS pm0 pe0 1)), .int (nI (ps0 + ((pa0 + 1) / 50 - pa0 / 50))), .int (nI (pa0 + 1))]))]) (w1 := [(b1, .inr (2, [.ref gx1, .int (nI pm1), .int (nI (zS pm1 pe1 1)), .int (nI (ps1 + ((pa1 + 1) / 50 - pa1 / 50))), .int (nI (pa1 + 1))]))]) (tyr := [(cp, .object "Gatherhouse$Pot"), (cq, .object "Gatherhouse$Piece")]) (ty1 := []) hP hD hK [3] [0, 1, 2, 4, 5] [0, 1] rfl rfl (by decide) (by decide) rfl hFc hk1 ht hvm hB
  have hP : va_P D vwCl [(xo, .inr (6, [.ref xg, .int gc, .ref xp, .int pc, .ref xq, .int qc, .ref r1, .ref r2, .ref r3, .ref r4, .ref se, .int ts, .int (nI (ho + 1)), .int dr, .int su, .int br])), (xp, .inl (cp, 4, .inr (.inr (.inr (.inr (zq [some b0, some b1, some b2, none])))))), (xq, .inl (cq, 16, .inr (.inr (.inr (.inr (zq [none, none, none, none, none, none, none, none, none, none, none, none, none, none, none, none])))))), (b2, .inr (2, [.ref gx2, .int (nI pm2), .int (nI pe2), .int (nI ps2), .int (nI pa2)])), (b0, .inr (2, [.ref gx0, .int (nI pm0), .int (nI (zS pm0 pe0 1)), .int (nI (ps0 + ((pa0 + 1) / 50 - pa0 / 50))), .int (nI (pa0 + 1))])), (b1, .inr (2, [.ref gx1, .int (nI pm1), .int (nI (zS pm1 pe1 1)), .int (nI (ps1 + ((pa1 + 1) / 50 - pa1 / 50))), .int (nI (pa1 + 1))]))] H := hP
  have hD : va_D A [(xo, .inr (6, [.ref xg, .int gc, .ref xp, .int pc, .ref xq, .int qc, .ref r1, .ref r2, .ref r3, .ref r4, .ref se, .int ts, .int (nI (ho + 1)), .int dr, .int su, .int br])), (xp, .inl (cp, 4, .inr (.inr (.inr (.inr (zq [some b0, some b1, some b2, none])))))), (xq, .inl (cq, 16, .inr (.inr (.inr (.inr (zq [none, none, none, none, none, none, none, none, none, none, none, none, none, none, none, none])))))), (b2, .inr (2, [.ref gx2, .int (nI pm2), .int (nI pe2), .int (nI ps2), .int (nI pa2)])), (b0, .inr (2, [.ref gx0, .int (nI pm0), .int (nI (zS pm0 pe0 1)), .int (nI (ps0 + ((pa0 + 1) / 50 - pa0 / 50))), .int (nI (pa0 + 1))])), (b1, .inr (2, [.ref gx1, .int (nI pm1), .int (nI (zS pm1 pe1 1)), .int (nI (ps1 + ((pa1 + 1) / 50 - pa1 / 50))), .int (nI (pa1 + 1))]))] := hD
  have hK : va_K D vwCl [(cp, .object "Gatherhouse$Pot"), (cq, .object "Gatherhouse$Piece")] s := hK
  obtain ⟨x_470, ex_470⟩ : ∃ y : Int32, y = 1 + 1 := ⟨_, rfl⟩
  have ex_470 : x_470 = 2 := ex_470.trans (by decide)
  subst ex_470
  refine lv_iinc (v := 2) (lv' := [(4, .int 2), (5, .ref b1), (3, .int 4), (2, .ref xp), (1, .int (nI (ho / 24))), (0, .ref xo)]) hx hb dX6_passHour_51 hl (k := 1) rfl (by decide) (by decide) rfl (fun ls hl => ?_)
  refine lv_goto (tgt := 29) hx hb dX6_passHour_54 (by decide) ?_
  refine lv_iload hx hb dX6_passHour_29 (lv_at hl 0 rfl) ?_
  refine lv_iload_n hx hb dX6_passHour_31 rfl (lv_at hl 2 rfl) ?_
  refine lv_icmp_ge (tgt := 57) hx hb dX6_passHour_32 (by decide) (fun cc => absurd cc (by decide)) (fun _ => ?_)
  refine lv_aload_n hx hb dX6_passHour_35 rfl (lv_at hl 3 rfl) ?_
  refine lv_iload hx hb dX6_passHour_36 (lv_at hl 0 rfl) ?_
  refine va_aldq (D := D) (cl := vwCl) hx hb hK hP 1 0 rfl rfl (vp_in_nI (n := 2) (N := 4) (by decide) (by decide)) dX6_passHour_38 ?_
  refine W.eq (g2 := F0 m 39 ls [.ref b2]) rfl ?_
  refine lv_astore (lv' := [(5, .ref b2), (4, .int 2), (3, .int 4), (2, .ref xp), (1, .int (nI (ho / 24))), (0, .ref xo)]) hx hb dX6_passHour_39 hl (by decide) rfl (fun ls hl => ?_)
  refine lv_aload hx hb dX6_passHour_41 (lv_at hl 0 rfl) ?_
  refine lv_ifnull hx hb dX6_passHour_43 ?_
  refine lv_aload hx hb dX6_passHour_46 (lv_at hl 0 rfl) ?_
  have hFc := va_free (wc := [(b2, .inr (2, [.ref gx2, .int (nI pm2), .int (nI pe2), .int (nI ps2), .int (nI pa2)]))]) hD hS hA [3] rfl
  refine va_callv (va_runVN (As := []) (rest := []) ⟨hx, hb, hml, hown, hts⟩ (zc_X2_passHour l D G b2 gx2 pm2 pe2 ps2 pa2 H.size (by first | assumption | rfl | omega | exact Nat.le_trans (zS_le _ _ _) (by omega) | decide) (by first | assumption | rfl | omega | exact Nat.le_trans (zS_le _ _ _) (by omega) | decide) (by first | assumption | rfl | omega | exact Nat.le_trans (zS_le _ _ _) (by omega) | decide) (by first | assumption | rfl | omega | exact Nat.le_trans (zS_le _ _ _) (by omega) | decide)) ⟨va_cnB 0 hts gzX6_passHour_3_X2_passHour_399 rfl rfl rfl (hT.1 ("Gatherhouse", 399, ⟨"Gatherhouse$Pot", "passHour", "()V"⟩, "Gatherhouse") (by decide +kernel)) (hts (.initialized RX2) (by decide +kernel)) (by decide +kernel) ⟨(Nat.le_of_ble_eq_true rfl), (Nat.le_of_ble_eq_true rfl)⟩, (hts (.instanceMethod yX2_passHour) (by decide +kernel)), (hts (.selects RX2 yX2_passHour yX2_passHour) (by decide +kernel))⟩ ⟨p_RW_blind, va_recv hK hP (ci := 2) (q0 := 3) rfl rfl, (p_RW_at (tc := []) (wc := [(b2, .inr (2, [.ref gx2, .int (nI pm2), .int (nI pe2), .int (nI ps2), .int (nI pa2)]))]) hP hK hD hS hA hT hZ [3] [] rfl rfl (by decide) rfl [.ref b2])⟩ rfl rfl hl.1 rfl (lv_room (Nat.le_of_ble_eq_true rfl)) dX6_passHour_48 ⟨(Nat.le_of_ble_eq_true rfl), (Nat.le_of_ble_eq_true rfl)⟩) hS (fun q _ h => hFc q h) hFc (fun u t H locs ht hvm w_472 hB hz1 hk1 hS => ?_)
  obtain ⟨hP, hD, hK⟩ := q_join (D := D) (wc := [(b2, .inr (2, [.ref gx2, .int (nI pm2), .int (nI pe2), .int (nI ps2), .int (nI pa2)]))]) (wr := [(xo, .inr (6, [.ref xg, .int gc, .ref xp, .int pc, .ref xq, .int qc, .ref r1, .ref r2, .ref r3, .ref r4, .ref se, .int ts, .int (nI (ho + 1)), .int dr, .int su, .int br])), (xp, .inl (cp, 4, .inr (.inr (.inr (.inr (zq [some b0, some b1, some b2, none])))))), (xq, .inl (cq, 16, .inr (.inr (.inr (.inr (zq [none, none, none, none, none, none, none, none, none, none, none, none, none, none, none, none])))))), (b0, .inr (2, [.ref gx0, .int (nI pm0), .int (nI (zS pm0 pe0 1)), .int (nI (ps0 + ((pa0 + 1) / 50 - pa0 / 50))), .int (nI (pa0 + 1))])), (b1, .inr (2, [.ref gx1, .int (nI pm1), .int (nI (zS pm1 pe1 1)), .int (nI (ps1 + ((pa1 + 1) / 50 - pa1 / 50))), .int (nI (pa1 + 1))]))]) (w1 := [(b2, .inr (2, [.ref gx2, .int (nI pm2), .int (nI (zS pm2 pe2 1)), .int (nI (ps2 + ((pa2 + 1) / 50 - pa2 / 50))), .int (nI (pa2 + 1))]))]) (tyr := [(cp, .object "Gatherhouse$Pot"), (cq, .object "Gatherhouse$Piece")]) (ty1 := []) hP hD hK [3] [0, 1, 2, 4, 5] [0, 1] rfl rfl (by decide) (by decide) rfl hFc hk1 ht hvm hB
  have hP : va_P D vwCl [(xo, .inr (6, [.ref xg, .int gc, .ref xp, .int pc, .ref xq, .int qc, .ref r1, .ref r2, .ref r3, .ref r4, .ref se, .int ts, .int (nI (ho + 1)), .int dr, .int su, .int br])), (xp, .inl (cp, 4, .inr (.inr (.inr (.inr (zq [some b0, some b1, some b2, none])))))), (xq, .inl (cq, 16, .inr (.inr (.inr (.inr (zq [none, none, none, none, none, none, none, none, none, none, none, none, none, none, none, none])))))), (b0, .inr (2, [.ref gx0, .int (nI pm0), .int (nI (zS pm0 pe0 1)), .int (nI (ps0 + ((pa0 + 1) / 50 - pa0 / 50))), .int (nI (pa0 + 1))])), (b1, .inr (2, [.ref gx1, .int (nI pm1), .int (nI (zS pm1 pe1 1)), .int (nI (ps1 + ((pa1 + 1) / 50 - pa1 / 50))), .int (nI (pa1 + 1))])), (b2, .inr (2, [.ref gx2, .int (nI pm2), .int (nI (zS pm2 pe2 1)), .int (nI (ps2 + ((pa2 + 1) / 50 - pa2 / 50))), .int (nI (pa2 + 1))]))] H := hP
  have hD : va_D A [(xo, .inr (6, [.ref xg, .int gc, .ref xp, .int pc, .ref xq, .int qc, .ref r1, .ref r2, .ref r3, .ref r4, .ref se, .int ts, .int (nI (ho + 1)), .int dr, .int su, .int br])), (xp, .inl (cp, 4, .inr (.inr (.inr (.inr (zq [some b0, some b1, some b2, none])))))), (xq, .inl (cq, 16, .inr (.inr (.inr (.inr (zq [none, none, none, none, none, none, none, none, none, none, none, none, none, none, none, none])))))), (b0, .inr (2, [.ref gx0, .int (nI pm0), .int (nI (zS pm0 pe0 1)), .int (nI (ps0 + ((pa0 + 1) / 50 - pa0 / 50))), .int (nI (pa0 + 1))])), (b1, .inr (2, [.ref gx1, .int (nI pm1), .int (nI (zS pm1 pe1 1)), .int (nI (ps1 + ((pa1 + 1) / 50 - pa1 / 50))), .int (nI (pa1 + 1))])), (b2, .inr (2, [.ref gx2, .int (nI pm2), .int (nI (zS pm2 pe2 1)), .int (nI (ps2 + ((pa2 + 1) / 50 - pa2 / 50))), .int (nI (pa2 + 1))]))] := hD
  have hK : va_K D vwCl [(cp, .object "Gatherhouse$Pot"), (cq, .object "Gatherhouse$Piece")] s := hK
  obtain ⟨x_473, ex_473⟩ : ∃ y : Int32, y = 2 + 1 := ⟨_, rfl⟩
  have ex_473 : x_473 = 3 := ex_473.trans (by decide)
  subst ex_473
  refine lv_iinc (v := 3) (lv' := [(4, .int 3), (5, .ref b2), (3, .int 4), (2, .ref xp), (1, .int (nI (ho / 24))), (0, .ref xo)]) hx hb dX6_passHour_51 hl (k := 1) rfl (by decide) (by decide) rfl (fun ls hl => ?_)
  refine lv_goto (tgt := 29) hx hb dX6_passHour_54 (by decide) ?_
  refine lv_iload hx hb dX6_passHour_29 (lv_at hl 0 rfl) ?_
  refine lv_iload_n hx hb dX6_passHour_31 rfl (lv_at hl 2 rfl) ?_
  refine lv_icmp_ge (tgt := 57) hx hb dX6_passHour_32 (by decide) (fun cc => absurd cc (by decide)) (fun _ => ?_)
  refine lv_aload_n hx hb dX6_passHour_35 rfl (lv_at hl 3 rfl) ?_
  refine lv_iload hx hb dX6_passHour_36 (lv_at hl 0 rfl) ?_
  refine va_aldq (D := D) (cl := vwCl) hx hb hK hP 1 0 rfl rfl (vp_in_nI (n := 3) (N := 4) (by decide) (by decide)) dX6_passHour_38 ?_
  refine W.eq (g2 := F0 m 39 ls [.null]) rfl ?_
  refine lv_astoreN (lv' := [(5, .null), (4, .int 3), (3, .int 4), (2, .ref xp), (1, .int (nI (ho / 24))), (0, .ref xo)]) hx hb dX6_passHour_39 hl (by decide) rfl (fun ls hl => ?_)
  refine lv_aloadN hx hb dX6_passHour_41 (lv_at hl 0 rfl) ?_
  refine lv_ifnullN (tgt := 51) hx hb dX6_passHour_43 (by decide) ?_
  obtain ⟨x_474, ex_474⟩ : ∃ y : Int32, y = 3 + 1 := ⟨_, rfl⟩
  have ex_474 : x_474 = 4 := ex_474.trans (by decide)
  subst ex_474
  refine lv_iinc (v := 4) (lv' := [(4, .int 4), (5, .null), (3, .int 4), (2, .ref xp), (1, .int (nI (ho / 24))), (0, .ref xo)]) hx hb dX6_passHour_51 hl (k := 1) rfl (by decide) (by decide) rfl (fun ls hl => ?_)
  refine lv_goto (tgt := 29) hx hb dX6_passHour_54 (by decide) ?_
  refine lv_iload hx hb dX6_passHour_29 (lv_at hl 0 rfl) ?_
  refine lv_iload_n hx hb dX6_passHour_31 rfl (lv_at hl 2 rfl) ?_
  refine lv_icmp_ge (tgt := 57) hx hb dX6_passHour_32 (by decide) (fun _ => ?_) (fun cc => absurd (by decide) cc)
  refine lv_iconst (v := 0) hx hb dX6_passHour_57 (by decide) ?_
  refine lv_istore_n (lv' := [(2, .int 0), (4, .int 4), (5, .null), (3, .int 4), (1, .int (nI (ho / 24))), (0, .ref xo)]) hx hb dX6_passHour_58 rfl hl (by decide) rfl (fun ls hl => ?_)
  refine lv_aload_n hx hb dX6_passHour_59 rfl (lv_at hl 5 rfl) ?_
  refine va_get (D := D) (cl := vwCl) (ci := 6) (v := .ref xq) (C := RX6) (T := TX6) (N := 16) hx hb hts zuX6_passHour_3_X6 hown hK hP 0 rfl rfl 4 (by decide) (hts (.fieldLink RX6 30 "Gatherhouse" "pieces" "[LGatherhouse$Piece;") (by decide +kernel)) (fun _ h9 => h9) rfl dX6_passHour_60 ?_
  refine lv_astore_n (lv' := [(3, .ref xq), (2, .int 0), (4, .int 4), (5, .null), (1, .int (nI (ho / 24))), (0, .ref xo)]) hx hb dX6_passHour_63 rfl hl (by decide) rfl (fun ls hl => ?_)
  refine lv_aload_n hx hb dX6_passHour_64 rfl (lv_at hl 0 rfl) ?_
  refine va_alen (D := D) (cl := vwCl) (v := 16) hx hb hK hP 2 1 rfl rfl rfl dX6_passHour_65 ?_
  refine lv_istore (lv' := [(4, .int 16), (3, .ref xq), (2, .int 0), (5, .null), (1, .int (nI (ho / 24))), (0, .ref xo)]) hx hb dX6_passHour_66 hl (by decide) rfl (fun ls hl => ?_)
  refine lv_iconst (v := 0) hx hb dX6_passHour_68 (by decide) ?_
  refine lv_istore (lv' := [(5, .int 0), (4, .int 16), (3, .ref xq), (2, .int 0), (1, .int (nI (ho / 24))), (0, .ref xo)]) hx hb dX6_passHour_69 hl (by decide) rfl (fun ls hl => ?_)
  refine lv_iload hx hb dX6_passHour_71 (lv_at hl 0 rfl) ?_
  refine lv_iload hx hb dX6_passHour_73 (lv_at hl 1 rfl) ?_
  refine lv_icmp_ge (tgt := 131) hx hb dX6_passHour_75 (by decide) (fun cc => absurd cc (by decide)) (fun _ => ?_)
  refine lv_aload_n hx hb dX6_passHour_78 rfl (lv_at hl 2 rfl) ?_
  refine lv_iload hx hb dX6_passHour_79 (lv_at hl 0 rfl) ?_
  refine va_aldq (D := D) (cl := vwCl) hx hb hK hP 2 1 rfl rfl (vp_in_nI (n := 0) (N := 16) (by decide) (by decide)) dX6_passHour_81 ?_
  refine W.eq (g2 := F0 m 82 ls [.null]) rfl ?_
  refine lv_astoreN (lv' := [(6, .null), (5, .int 0), (4, .int 16), (3, .ref xq), (2, .int 0), (1, .int (nI (ho / 24))), (0, .ref xo)]) hx hb dX6_passHour_82 hl (by decide) rfl (fun ls hl => ?_)
  refine lv_aloadN hx hb dX6_passHour_84 (lv_at hl 0 rfl) ?_
  refine lv_ifnullN (tgt := 125) hx hb dX6_passHour_86 (by decide) ?_
  obtain ⟨x_475, ex_475⟩ : ∃ y : Int32, y = 0 + 1 := ⟨_, rfl⟩
  have ex_475 : x_475 = 1 := ex_475.trans (by decide)
  subst ex_475
  refine lv_iinc (v := 1) (lv' := [(5, .int 1), (6, .null), (4, .int 16), (3, .ref xq), (2, .int 0), (1, .int (nI (ho / 24))), (0, .ref xo)]) hx hb dX6_passHour_125 hl (k := 1) rfl (by decide) (by decide) rfl (fun ls hl => ?_)
  refine lv_goto (tgt := 71) hx hb dX6_passHour_128 (by decide) ?_
  refine lv_iload hx hb dX6_passHour_71 (lv_at hl 0 rfl) ?_
  refine lv_iload hx hb dX6_passHour_73 (lv_at hl 2 rfl) ?_
  refine lv_icmp_ge (tgt := 131) hx hb dX6_passHour_75 (by decide) (fun cc => absurd cc (by decide)) (fun _ => ?_)
  refine lv_aload_n hx hb dX6_passHour_78 rfl (lv_at hl 3 rfl) ?_
  refine lv_iload hx hb dX6_passHour_79 (lv_at hl 0 rfl) ?_
  refine va_aldq (D := D) (cl := vwCl) hx hb hK hP 2 1 rfl rfl (vp_in_nI (n := 1) (N := 16) (by decide) (by decide)) dX6_passHour_81 ?_
  refine W.eq (g2 := F0 m 82 ls [.null]) rfl ?_
  refine lv_astoreN (lv' := [(6, .null), (5, .int 1), (4, .int 16), (3, .ref xq), (2, .int 0), (1, .int (nI (ho / 24))), (0, .ref xo)]) hx hb dX6_passHour_82 hl (by decide) rfl (fun ls hl => ?_)
  refine lv_aloadN hx hb dX6_passHour_84 (lv_at hl 0 rfl) ?_
  refine lv_ifnullN (tgt := 125) hx hb dX6_passHour_86 (by decide) ?_
  obtain ⟨x_476, ex_476⟩ : ∃ y : Int32, y = 1 + 1 := ⟨_, rfl⟩
  have ex_476 : x_476 = 2 := ex_476.trans (by decide)
  subst ex_476
  refine lv_iinc (v := 2) (lv' := [(5, .int 2), (6, .null), (4, .int 16), (3, .ref xq), (2, .int 0), (1, .int (nI (ho / 24))), (0, .ref xo)]) hx hb dX6_passHour_125 hl (k := 1) rfl (by decide) (by decide) rfl (fun ls hl => ?_)
  refine lv_goto (tgt := 71) hx hb dX6_passHour_128 (by decide) ?_
  refine lv_iload hx hb dX6_passHour_71 (lv_at hl 0 rfl) ?_
  refine lv_iload hx hb dX6_passHour_73 (lv_at hl 2 rfl) ?_
  refine lv_icmp_ge (tgt := 131) hx hb dX6_passHour_75 (by decide) (fun cc => absurd cc (by decide)) (fun _ => ?_)
  refine lv_aload_n hx hb dX6_passHour_78 rfl (lv_at hl 3 rfl) ?_
  refine lv_iload hx hb dX6_passHour_79 (lv_at hl 0 rfl) ?_
  refine va_aldq (D := D) (cl := vwCl) hx hb hK hP 2 1 rfl rfl (vp_in_nI (n := 2) (N := 16) (by decide) (by decide)) dX6_passHour_81 ?_
  refine W.eq (g2 := F0 m 82 ls [.null]) rfl ?_
  refine lv_astoreN (lv' := [(6, .null), (5, .int 2), (4, .int 16), (3, .ref xq), (2, .int 0), (1, .int (nI (ho / 24))), (0, .ref xo)]) hx hb dX6_passHour_82 hl (by decide) rfl (fun ls hl => ?_)
  refine lv_aloadN hx hb dX6_passHour_84 (lv_at hl 0 rfl) ?_
  refine lv_ifnullN (tgt := 125) hx hb dX6_passHour_86 (by decide) ?_
  obtain ⟨x_477, ex_477⟩ : ∃ y : Int32, y = 2 + 1 := ⟨_, rfl⟩
  have ex_477 : x_477 = 3 := ex_477.trans (by decide)
  subst ex_477
  refine lv_iinc (v := 3) (lv' := [(5, .int 3), (6, .null), (4, .int 16), (3, .ref xq), (2, .int 0), (1, .int (nI (ho / 24))), (0, .ref xo)]) hx hb dX6_passHour_125 hl (k := 1) rfl (by decide) (by decide) rfl (fun ls hl => ?_)
  refine lv_goto (tgt := 71) hx hb dX6_passHour_128 (by decide) ?_
  refine lv_iload hx hb dX6_passHour_71 (lv_at hl 0 rfl) ?_
  refine lv_iload hx hb dX6_passHour_73 (lv_at hl 2 rfl) ?_
  refine lv_icmp_ge (tgt := 131) hx hb dX6_passHour_75 (by decide) (fun cc => absurd cc (by decide)) (fun _ => ?_)
  refine lv_aload_n hx hb dX6_passHour_78 rfl (lv_at hl 3 rfl) ?_
  refine lv_iload hx hb dX6_passHour_79 (lv_at hl 0 rfl) ?_
  refine va_aldq (D := D) (cl := vwCl) hx hb hK hP 2 1 rfl rfl (vp_in_nI (n := 3) (N := 16) (by decide) (by decide)) dX6_passHour_81 ?_
  refine W.eq (g2 := F0 m 82 ls [.null]) rfl ?_
  refine lv_astoreN (lv' := [(6, .null), (5, .int 3), (4, .int 16), (3, .ref xq), (2, .int 0), (1, .int (nI (ho / 24))), (0, .ref xo)]) hx hb dX6_passHour_82 hl (by decide) rfl (fun ls hl => ?_)
  refine lv_aloadN hx hb dX6_passHour_84 (lv_at hl 0 rfl) ?_
  refine lv_ifnullN (tgt := 125) hx hb dX6_passHour_86 (by decide) ?_
  obtain ⟨x_478, ex_478⟩ : ∃ y : Int32, y = 3 + 1 := ⟨_, rfl⟩
  have ex_478 : x_478 = 4 := ex_478.trans (by decide)
  subst ex_478
  refine lv_iinc (v := 4) (lv' := [(5, .int 4), (6, .null), (4, .int 16), (3, .ref xq), (2, .int 0), (1, .int (nI (ho / 24))), (0, .ref xo)]) hx hb dX6_passHour_125 hl (k := 1) rfl (by decide) (by decide) rfl (fun ls hl => ?_)
  refine lv_goto (tgt := 71) hx hb dX6_passHour_128 (by decide) ?_
  refine lv_iload hx hb dX6_passHour_71 (lv_at hl 0 rfl) ?_
  refine lv_iload hx hb dX6_passHour_73 (lv_at hl 2 rfl) ?_
  refine lv_icmp_ge (tgt := 131) hx hb dX6_passHour_75 (by decide) (fun cc => absurd cc (by decide)) (fun _ => ?_)
  refine lv_aload_n hx hb dX6_passHour_78 rfl (lv_at hl 3 rfl) ?_
  refine lv_iload hx hb dX6_passHour_79 (lv_at hl 0 rfl) ?_
  refine va_aldq (D := D) (cl := vwCl) hx hb hK hP 2 1 rfl rfl (vp_in_nI (n := 4) (N := 16) (by decide) (by decide)) dX6_passHour_81 ?_
  refine W.eq (g2 := F0 m 82 ls [.null]) rfl ?_
  refine lv_astoreN (lv' := [(6, .null), (5, .int 4), (4, .int 16), (3, .ref xq), (2, .int 0), (1, .int (nI (ho / 24))), (0, .ref xo)]) hx hb dX6_passHour_82 hl (by decide) rfl (fun ls hl => ?_)
  refine lv_aloadN hx hb dX6_passHour_84 (lv_at hl 0 rfl) ?_
  refine lv_ifnullN (tgt := 125) hx hb dX6_passHour_86 (by decide) ?_
  obtain ⟨x_479, ex_479⟩ : ∃ y : Int32, y = 4 + 1 := ⟨_, rfl⟩
  have ex_479 : x_479 = 5 := ex_479.trans (by decide)
  subst ex_479
  refine lv_iinc (v := 5) (lv' := [(5, .int 5), (6, .null), (4, .int 16), (3, .ref xq), (2, .int 0), (1, .int (nI (ho / 24))), (0, .ref xo)]) hx hb dX6_passHour_125 hl (k := 1) rfl (by decide) (by decide) rfl (fun ls hl => ?_)
  refine lv_goto (tgt := 71) hx hb dX6_passHour_128 (by decide) ?_
  refine lv_iload hx hb dX6_passHour_71 (lv_at hl 0 rfl) ?_
  refine lv_iload hx hb dX6_passHour_73 (lv_at hl 2 rfl) ?_
  refine lv_icmp_ge (tgt := 131) hx hb dX6_passHour_75 (by decide) (fun cc => absurd cc (by decide)) (fun _ => ?_)
  refine lv_aload_n hx hb dX6_passHour_78 rfl (lv_at hl 3 rfl) ?_
  refine lv_iload hx hb dX6_passHour_79 (lv_at hl 0 rfl) ?_
  refine va_aldq (D := D) (cl := vwCl) hx hb hK hP 2 1 rfl rfl (vp_in_nI (n := 5) (N := 16) (by decide) (by decide)) dX6_passHour_81 ?_
  refine W.eq (g2 := F0 m 82 ls [.null]) rfl ?_
  refine lv_astoreN (lv' := [(6, .null), (5, .int 5), (4, .int 16), (3, .ref xq), (2, .int 0), (1, .int (nI (ho / 24))), (0, .ref xo)]) hx hb dX6_passHour_82 hl (by decide) rfl (fun ls hl => ?_)
  refine lv_aloadN hx hb dX6_passHour_84 (lv_at hl 0 rfl) ?_
  refine lv_ifnullN (tgt := 125) hx hb dX6_passHour_86 (by decide) ?_
  obtain ⟨x_480, ex_480⟩ : ∃ y : Int32, y = 5 + 1 := ⟨_, rfl⟩
  have ex_480 : x_480 = 6 := ex_480.trans (by decide)
  subst ex_480
  refine lv_iinc (v := 6) (lv' := [(5, .int 6), (6, .null), (4, .int 16), (3, .ref xq), (2, .int 0), (1, .int (nI (ho / 24))), (0, .ref xo)]) hx hb dX6_passHour_125 hl (k := 1) rfl (by decide) (by decide) rfl (fun ls hl => ?_)
  refine lv_goto (tgt := 71) hx hb dX6_passHour_128 (by decide) ?_
  refine lv_iload hx hb dX6_passHour_71 (lv_at hl 0 rfl) ?_
  refine lv_iload hx hb dX6_passHour_73 (lv_at hl 2 rfl) ?_
  refine lv_icmp_ge (tgt := 131) hx hb dX6_passHour_75 (by decide) (fun cc => absurd cc (by decide)) (fun _ => ?_)
  refine lv_aload_n hx hb dX6_passHour_78 rfl (lv_at hl 3 rfl) ?_
  refine lv_iload hx hb dX6_passHour_79 (lv_at hl 0 rfl) ?_
  refine va_aldq (D := D) (cl := vwCl) hx hb hK hP 2 1 rfl rfl (vp_in_nI (n := 6) (N := 16) (by decide) (by decide)) dX6_passHour_81 ?_
  refine W.eq (g2 := F0 m 82 ls [.null]) rfl ?_
  refine lv_astoreN (lv' := [(6, .null), (5, .int 6), (4, .int 16), (3, .ref xq), (2, .int 0), (1, .int (nI (ho / 24))), (0, .ref xo)]) hx hb dX6_passHour_82 hl (by decide) rfl (fun ls hl => ?_)
  refine lv_aloadN hx hb dX6_passHour_84 (lv_at hl 0 rfl) ?_
  refine lv_ifnullN (tgt := 125) hx hb dX6_passHour_86 (by decide) ?_
  obtain ⟨x_481, ex_481⟩ : ∃ y : Int32, y = 6 + 1 := ⟨_, rfl⟩
  have ex_481 : x_481 = 7 := ex_481.trans (by decide)
  subst ex_481
  refine lv_iinc (v := 7) (lv' := [(5, .int 7), (6, .null), (4, .int 16), (3, .ref xq), (2, .int 0), (1, .int (nI (ho / 24))), (0, .ref xo)]) hx hb dX6_passHour_125 hl (k := 1) rfl (by decide) (by decide) rfl (fun ls hl => ?_)
  refine lv_goto (tgt := 71) hx hb dX6_passHour_128 (by decide) ?_
  refine lv_iload hx hb dX6_passHour_71 (lv_at hl 0 rfl) ?_
  refine lv_iload hx hb dX6_passHour_73 (lv_at hl 2 rfl) ?_
  refine lv_icmp_ge (tgt := 131) hx hb dX6_passHour_75 (by decide) (fun cc => absurd cc (by decide)) (fun _ => ?_)
  refine lv_aload_n hx hb dX6_passHour_78 rfl (lv_at hl 3 rfl) ?_
  refine lv_iload hx hb dX6_passHour_79 (lv_at hl 0 rfl) ?_
  refine va_aldq (D := D) (cl := vwCl) hx hb hK hP 2 1 rfl rfl (vp_in_nI (n := 7) (N := 16) (by decide) (by decide)) dX6_passHour_81 ?_
  refine W.eq (g2 := F0 m 82 ls [.null]) rfl ?_
  refine lv_astoreN (lv' := [(6, .null), (5, .int 7), (4, .int 16), (3, .ref xq), (2, .int 0), (1, .int (nI (ho / 24))), (0, .ref xo)]) hx hb dX6_passHour_82 hl (by decide) rfl (fun ls hl => ?_)
  refine lv_aloadN hx hb dX6_passHour_84 (lv_at hl 0 rfl) ?_
  refine lv_ifnullN (tgt := 125) hx hb dX6_passHour_86 (by decide) ?_
  obtain ⟨x_482, ex_482⟩ : ∃ y : Int32, y = 7 + 1 := ⟨_, rfl⟩
  have ex_482 : x_482 = 8 := ex_482.trans (by decide)
  subst ex_482
  refine lv_iinc (v := 8) (lv' := [(5, .int 8), (6, .null), (4, .int 16), (3, .ref xq), (2, .int 0), (1, .int (nI (ho / 24))), (0, .ref xo)]) hx hb dX6_passHour_125 hl (k := 1) rfl (by decide) (by decide) rfl (fun ls hl => ?_)
  refine lv_goto (tgt := 71) hx hb dX6_passHour_128 (by decide) ?_
  refine lv_iload hx hb dX6_passHour_71 (lv_at hl 0 rfl) ?_
  refine lv_iload hx hb dX6_passHour_73 (lv_at hl 2 rfl) ?_
  refine lv_icmp_ge (tgt := 131) hx hb dX6_passHour_75 (by decide) (fun cc => absurd cc (by decide)) (fun _ => ?_)
  refine lv_aload_n hx hb dX6_passHour_78 rfl (lv_at hl 3 rfl) ?_
  refine lv_iload hx hb dX6_passHour_79 (lv_at hl 0 rfl) ?_
  refine va_aldq (D := D) (cl := vwCl) hx hb hK hP 2 1 rfl rfl (vp_in_nI (n := 8) (N := 16) (by decide) (by decide)) dX6_passHour_81 ?_
  refine W.eq (g2 := F0 m 82 ls [.null]) rfl ?_
  refine lv_astoreN (lv' := [(6, .null), (5, .int 8), (4, .int 16), (3, .ref xq), (2, .int 0), (1, .int (nI (ho / 24))), (0, .ref xo)]) hx hb dX6_passHour_82 hl (by decide) rfl (fun ls hl => ?_)
  refine lv_aloadN hx hb dX6_passHour_84 (lv_at hl 0 rfl) ?_
  refine lv_ifnullN (tgt := 125) hx hb dX6_passHour_86 (by decide) ?_
  obtain ⟨x_483, ex_483⟩ : ∃ y : Int32, y = 8 + 1 := ⟨_, rfl⟩
  have ex_483 : x_483 = 9 := ex_483.trans (by decide)
  subst ex_483
  refine lv_iinc (v := 9) (lv' := [(5, .int 9), (6, .null), (4, .int 16), (3, .ref xq), (2, .int 0), (1, .int (nI (ho / 24))), (0, .ref xo)]) hx hb dX6_passHour_125 hl (k := 1) rfl (by decide) (by decide) rfl (fun ls hl => ?_)
  refine lv_goto (tgt := 71) hx hb dX6_passHour_128 (by decide) ?_
  refine lv_iload hx hb dX6_passHour_71 (lv_at hl 0 rfl) ?_
  refine lv_iload hx hb dX6_passHour_73 (lv_at hl 2 rfl) ?_
  refine lv_icmp_ge (tgt := 131) hx hb dX6_passHour_75 (by decide) (fun cc => absurd cc (by decide)) (fun _ => ?_)
  refine lv_aload_n hx hb dX6_passHour_78 rfl (lv_at hl 3 rfl) ?_
  refine lv_iload hx hb dX6_passHour_79 (lv_at hl 0 rfl) ?_
  refine va_aldq (D := D) (cl := vwCl) hx hb hK hP 2 1 rfl rfl (vp_in_nI (n := 9) (N := 16) (by decide) (by decide)) dX6_passHour_81 ?_
  refine W.eq (g2 := F0 m 82 ls [.null]) rfl ?_
  refine lv_astoreN (lv' := [(6, .null), (5, .int 9), (4, .int 16), (3, .ref xq), (2, .int 0), (1, .int (nI (ho / 24))), (0, .ref xo)]) hx hb dX6_passHour_82 hl (by decide) rfl (fun ls hl => ?_)
  refine lv_aloadN hx hb dX6_passHour_84 (lv_at hl 0 rfl) ?_
  refine lv_ifnullN (tgt := 125) hx hb dX6_passHour_86 (by decide) ?_
  obtain ⟨x_484, ex_484⟩ : ∃ y : Int32, y = 9 + 1 := ⟨_, rfl⟩
  have ex_484 : x_484 = 10 := ex_484.trans (by decide)
  subst ex_484
  refine lv_iinc (v := 10) (lv' := [(5, .int 10), (6, .null), (4, .int 16), (3, .ref xq), (2, .int 0), (1, .int (nI (ho / 24))), (0, .ref xo)]) hx hb dX6_passHour_125 hl (k := 1) rfl (by decide) (by decide) rfl (fun ls hl => ?_)
  refine lv_goto (tgt := 71) hx hb dX6_passHour_128 (by decide) ?_
  refine lv_iload hx hb dX6_passHour_71 (lv_at hl 0 rfl) ?_
  refine lv_iload hx hb dX6_passHour_73 (lv_at hl 2 rfl) ?_
  refine lv_icmp_ge (tgt := 131) hx hb dX6_passHour_75 (by decide) (fun cc => absurd cc (by decide)) (fun _ => ?_)
  refine lv_aload_n hx hb dX6_passHour_78 rfl (lv_at hl 3 rfl) ?_
  refine lv_iload hx hb dX6_passHour_79 (lv_at hl 0 rfl) ?_
  refine va_aldq (D := D) (cl := vwCl) hx hb hK hP 2 1 rfl rfl (vp_in_nI (n := 10) (N := 16) (by decide) (by decide)) dX6_passHour_81 ?_
  refine W.eq (g2 := F0 m 82 ls [.null]) rfl ?_
  refine lv_astoreN (lv' := [(6, .null), (5, .int 10), (4, .int 16), (3, .ref xq), (2, .int 0), (1, .int (nI (ho / 24))), (0, .ref xo)]) hx hb dX6_passHour_82 hl (by decide) rfl (fun ls hl => ?_)
  refine lv_aloadN hx hb dX6_passHour_84 (lv_at hl 0 rfl) ?_
  refine lv_ifnullN (tgt := 125) hx hb dX6_passHour_86 (by decide) ?_
  obtain ⟨x_485, ex_485⟩ : ∃ y : Int32, y = 10 + 1 := ⟨_, rfl⟩
  have ex_485 : x_485 = 11 := ex_485.trans (by decide)
  subst ex_485
  refine lv_iinc (v := 11) (lv' := [(5, .int 11), (6, .null), (4, .int 16), (3, .ref xq), (2, .int 0), (1, .int (nI (ho / 24))), (0, .ref xo)]) hx hb dX6_passHour_125 hl (k := 1) rfl (by decide) (by decide) rfl (fun ls hl => ?_)
  refine lv_goto (tgt := 71) hx hb dX6_passHour_128 (by decide) ?_
  refine lv_iload hx hb dX6_passHour_71 (lv_at hl 0 rfl) ?_
  refine lv_iload hx hb dX6_passHour_73 (lv_at hl 2 rfl) ?_
  refine lv_icmp_ge (tgt := 131) hx hb dX6_passHour_75 (by decide) (fun cc => absurd cc (by decide)) (fun _ => ?_)
  refine lv_aload_n hx hb dX6_passHour_78 rfl (lv_at hl 3 rfl) ?_
  refine lv_iload hx hb dX6_passHour_79 (lv_at hl 0 rfl) ?_
  refine va_aldq (D := D) (cl := vwCl) hx hb hK hP 2 1 rfl rfl (vp_in_nI (n := 11) (N := 16) (by decide) (by decide)) dX6_passHour_81 ?_
  refine W.eq (g2 := F0 m 82 ls [.null]) rfl ?_
  refine lv_astoreN (lv' := [(6, .null), (5, .int 11), (4, .int 16), (3, .ref xq), (2, .int 0), (1, .int (nI (ho / 24))), (0, .ref xo)]) hx hb dX6_passHour_82 hl (by decide) rfl (fun ls hl => ?_)
  refine lv_aloadN hx hb dX6_passHour_84 (lv_at hl 0 rfl) ?_
  refine lv_ifnullN (tgt := 125) hx hb dX6_passHour_86 (by decide) ?_
  obtain ⟨x_486, ex_486⟩ : ∃ y : Int32, y = 11 + 1 := ⟨_, rfl⟩
  have ex_486 : x_486 = 12 := ex_486.trans (by decide)
  subst ex_486
  refine lv_iinc (v := 12) (lv' := [(5, .int 12), (6, .null), (4, .int 16), (3, .ref xq), (2, .int 0), (1, .int (nI (ho / 24))), (0, .ref xo)]) hx hb dX6_passHour_125 hl (k := 1) rfl (by decide) (by decide) rfl (fun ls hl => ?_)
  refine lv_goto (tgt := 71) hx hb dX6_passHour_128 (by decide) ?_
  refine lv_iload hx hb dX6_passHour_71 (lv_at hl 0 rfl) ?_
  refine lv_iload hx hb dX6_passHour_73 (lv_at hl 2 rfl) ?_
  refine lv_icmp_ge (tgt := 131) hx hb dX6_passHour_75 (by decide) (fun cc => absurd cc (by decide)) (fun _ => ?_)
  refine lv_aload_n hx hb dX6_passHour_78 rfl (lv_at hl 3 rfl) ?_
  refine lv_iload hx hb dX6_passHour_79 (lv_at hl 0 rfl) ?_
  refine va_aldq (D := D) (cl := vwCl) hx hb hK hP 2 1 rfl rfl (vp_in_nI (n := 12) (N := 16) (by decide) (by decide)) dX6_passHour_81 ?_
  refine W.eq (g2 := F0 m 82 ls [.null]) rfl ?_
  refine lv_astoreN (lv' := [(6, .null), (5, .int 12), (4, .int 16), (3, .ref xq), (2, .int 0), (1, .int (nI (ho / 24))), (0, .ref xo)]) hx hb dX6_passHour_82 hl (by decide) rfl (fun ls hl => ?_)
  refine lv_aloadN hx hb dX6_passHour_84 (lv_at hl 0 rfl) ?_
  refine lv_ifnullN (tgt := 125) hx hb dX6_passHour_86 (by decide) ?_
  obtain ⟨x_487, ex_487⟩ : ∃ y : Int32, y = 12 + 1 := ⟨_, rfl⟩
  have ex_487 : x_487 = 13 := ex_487.trans (by decide)
  subst ex_487
  refine lv_iinc (v := 13) (lv' := [(5, .int 13), (6, .null), (4, .int 16), (3, .ref xq), (2, .int 0), (1, .int (nI (ho / 24))), (0, .ref xo)]) hx hb dX6_passHour_125 hl (k := 1) rfl (by decide) (by decide) rfl (fun ls hl => ?_)
  refine lv_goto (tgt := 71) hx hb dX6_passHour_128 (by decide) ?_
  refine lv_iload hx hb dX6_passHour_71 (lv_at hl 0 rfl) ?_
  refine lv_iload hx hb dX6_passHour_73 (lv_at hl 2 rfl) ?_
  refine lv_icmp_ge (tgt := 131) hx hb dX6_passHour_75 (by decide) (fun cc => absurd cc (by decide)) (fun _ => ?_)
  refine lv_aload_n hx hb dX6_passHour_78 rfl (lv_at hl 3 rfl) ?_
  refine lv_iload hx hb dX6_passHour_79 (lv_at hl 0 rfl) ?_
  refine va_aldq (D := D) (cl := vwCl) hx hb hK hP 2 1 rfl rfl (vp_in_nI (n := 13) (N := 16) (by decide) (by decide)) dX6_passHour_81 ?_
  refine W.eq (g2 := F0 m 82 ls [.null]) rfl ?_
  refine lv_astoreN (lv' := [(6, .null), (5, .int 13), (4, .int 16), (3, .ref xq), (2, .int 0), (1, .int (nI (ho / 24))), (0, .ref xo)]) hx hb dX6_passHour_82 hl (by decide) rfl (fun ls hl => ?_)
  refine lv_aloadN hx hb dX6_passHour_84 (lv_at hl 0 rfl) ?_
  refine lv_ifnullN (tgt := 125) hx hb dX6_passHour_86 (by decide) ?_
  obtain ⟨x_488, ex_488⟩ : ∃ y : Int32, y = 13 + 1 := ⟨_, rfl⟩
  have ex_488 : x_488 = 14 := ex_488.trans (by decide)
  subst ex_488
  refine lv_iinc (v := 14) (lv' := [(5, .int 14), (6, .null), (4, .int 16), (3, .ref xq), (2, .int 0), (1, .int (nI (ho / 24))), (0, .ref xo)]) hx hb dX6_passHour_125 hl (k := 1) rfl (by decide) (by decide) rfl (fun ls hl => ?_)
  refine lv_goto (tgt := 71) hx hb dX6_passHour_128 (by decide) ?_
  refine lv_iload hx hb dX6_passHour_71 (lv_at hl 0 rfl) ?_
  refine lv_iload hx hb dX6_passHour_73 (lv_at hl 2 rfl) ?_
  refine lv_icmp_ge (tgt := 131) hx hb dX6_passHour_75 (by decide) (fun cc => absurd cc (by decide)) (fun _ => ?_)
  refine lv_aload_n hx hb dX6_passHour_78 rfl (lv_at hl 3 rfl) ?_
  refine lv_iload hx hb dX6_passHour_79 (lv_at hl 0 rfl) ?_
  refine va_aldq (D := D) (cl := vwCl) hx hb hK hP 2 1 rfl rfl (vp_in_nI (n := 14) (N := 16) (by decide) (by decide)) dX6_passHour_81 ?_
  refine W.eq (g2 := F0 m 82 ls [.null]) rfl ?_
  refine lv_astoreN (lv' := [(6, .null), (5, .int 14), (4, .int 16), (3, .ref xq), (2, .int 0), (1, .int (nI (ho / 24))), (0, .ref xo)]) hx hb dX6_passHour_82 hl (by decide) rfl (fun ls hl => ?_)
  refine lv_aloadN hx hb dX6_passHour_84 (lv_at hl 0 rfl) ?_
  refine lv_ifnullN (tgt := 125) hx hb dX6_passHour_86 (by decide) ?_
  obtain ⟨x_489, ex_489⟩ : ∃ y : Int32, y = 14 + 1 := ⟨_, rfl⟩
  have ex_489 : x_489 = 15 := ex_489.trans (by decide)
  subst ex_489
  refine lv_iinc (v := 15) (lv' := [(5, .int 15), (6, .null), (4, .int 16), (3, .ref xq), (2, .int 0), (1, .int (nI (ho / 24))), (0, .ref xo)]) hx hb dX6_passHour_125 hl (k := 1) rfl (by decide) (by decide) rfl (fun ls hl => ?_)
  refine lv_goto (tgt := 71) hx hb dX6_passHour_128 (by decide) ?_
  refine lv_iload hx hb dX6_passHour_71 (lv_at hl 0 rfl) ?_
  refine lv_iload hx hb dX6_passHour_73 (lv_at hl 2 rfl) ?_
  refine lv_icmp_ge (tgt := 131) hx hb dX6_passHour_75 (by decide) (fun cc => absurd cc (by decide)) (fun _ => ?_)
  refine lv_aload_n hx hb dX6_passHour_78 rfl (lv_at hl 3 rfl) ?_
  refine lv_iload hx hb dX6_passHour_79 (lv_at hl 0 rfl) ?_
  refine va_aldq (D := D) (cl := vwCl) hx hb hK hP 2 1 rfl rfl (vp_in_nI (n := 15) (N := 16) (by decide) (by decide)) dX6_passHour_81 ?_
  refine W.eq (g2 := F0 m 82 ls [.null]) rfl ?_
  refine lv_astoreN (lv' := [(6, .null), (5, .int 15), (4, .int 16), (3, .ref xq), (2, .int 0), (1, .int (nI (ho / 24))), (0, .ref xo)]) hx hb dX6_passHour_82 hl (by decide) rfl (fun ls hl => ?_)
  refine lv_aloadN hx hb dX6_passHour_84 (lv_at hl 0 rfl) ?_
  refine lv_ifnullN (tgt := 125) hx hb dX6_passHour_86 (by decide) ?_
  obtain ⟨x_490, ex_490⟩ : ∃ y : Int32, y = 15 + 1 := ⟨_, rfl⟩
  have ex_490 : x_490 = 16 := ex_490.trans (by decide)
  subst ex_490
  refine lv_iinc (v := 16) (lv' := [(5, .int 16), (6, .null), (4, .int 16), (3, .ref xq), (2, .int 0), (1, .int (nI (ho / 24))), (0, .ref xo)]) hx hb dX6_passHour_125 hl (k := 1) rfl (by decide) (by decide) rfl (fun ls hl => ?_)
  refine lv_goto (tgt := 71) hx hb dX6_passHour_128 (by decide) ?_
  refine lv_iload hx hb dX6_passHour_71 (lv_at hl 0 rfl) ?_
  refine lv_iload hx hb dX6_passHour_73 (lv_at hl 2 rfl) ?_
  refine lv_icmp_ge (tgt := 131) hx hb dX6_passHour_75 (by decide) (fun _ => ?_) (fun cc => absurd (by decide) cc)
  refine lv_aload_n hx hb dX6_passHour_131 rfl (lv_at hl 6 rfl) ?_
  refine va_get (D := D) (cl := vwCl) (ci := 6) (v := .int (nI (ho + 1))) (C := RX6) (T := TX6) (N := 16) hx hb hts zuX6_passHour_3_X6 hown hK hP 0 rfl rfl 12 (by decide) (hts (.fieldLink RX6 63 "Gatherhouse" "hoursGone" "I") (by decide +kernel)) (fun _ h9 => h9) rfl dX6_passHour_132 ?_
  refine lv_bipush (v := 24) hx hb dX6_passHour_135 (by decide) ?_
  refine lv_irem hx hb dX6_passHour_137 (by decide) ?_
  refine lv_topi (fun y_491 ey_491 => ?_)
  have ey_491 : y_491 = (nI ((ho + 1) % 24)) := ey_491.trans (pk_rem (a := (ho + 1)) (d := 24) (by omega) (by omega) (by omega))
  subst ey_491
  refine lv_if_ne (tgt := 146) hx hb dX6_passHour_138 (by decide) (fun c_492 => ?_) (fun c_492 => ?_)
  · have n_493 : ¬ ((ho + 1) % 24 = 0) := fun z => c_492 ((nI_eq (a := (ho + 1) % 24) (b := 0) (by omega) (by omega)).mpr z)
    refine lv_iload_n hx hb dX6_passHour_146 rfl (lv_at hl 4 rfl) ?_
    exact W.iret (v := 0) hx hb hr (fun t ht hW => ⟨⟨0, (), rfl, rfl, q_RW_mk hP hK hD [0, 1, 2, 3, 4, 5] [0, 1] rfl rfl (by decide) rfl ht hW.alike⟩, hS.F ht⟩) hS.2.2 dX6_passHour_147
  · have n_494 : (ho + 1) % 24 = 0 := (nI_eq (a := (ho + 1) % 24) (b := 0) (by omega) (by omega)).mp c_492
    refine lv_aload_n hx hb dX6_passHour_141 rfl (lv_at hl 6 rfl) ?_
    refine lv_iload_n hx hb dX6_passHour_142 rfl (lv_at hl 5 rfl) ?_
    refine va_csv (va_runV (As := [.int (nI (ho / 24))]) (rest := []) ⟨hx, hb, hml, hown, hts⟩ (zc_X6_endDay l D G xo (nI (ho / 24)) xg gc xp pc xq qc r1 r2 r3 r4 se ts (nI (ho + 1)) dr su br cq) (cwV 1 hts gzX6_passHour_3_X6_endDay_405 rfl rfl rfl (by decide +kernel) ⟨(Nat.le_of_ble_eq_true rfl), (Nat.le_of_ble_eq_true rfl)⟩) ⟨p_RO_blind, va_recv hK hP (ci := 6) (q0 := 0) rfl rfl, (p_RO_at (tc := [(cq, .object "Gatherhouse$Piece")]) (wc := [(xo, .inr (6, [.ref xg, .int gc, .ref xp, .int pc, .ref xq, .int qc, .ref r1, .ref r2, .ref r3, .ref r4, .ref se, .int ts, .int (nI (ho + 1)), .int dr, .int su, .int br])), (xq, .inl (cq, 16, .inr (.inr (.inr (.inr (zq [none, none, none, none, none, none, none, none, none, none, none, none, none, none, none, none]))))))]) hP hK hT [0, 2] [1] rfl rfl [.ref xo, .int (nI (ho / 24))])⟩ rfl rfl hl.1 rfl (lv_room (Nat.le_of_ble_eq_true rfl)) dX6_passHour_143 ⟨(Nat.le_of_ble_eq_true rfl), (Nat.le_of_ble_eq_true rfl)⟩).run (fun w_496 => ?_)
    refine lv_iload_n hx hb dX6_passHour_146 rfl (lv_at hl 4 rfl) ?_
    exact W.iret (v := 0) hx hb hr (fun t ht hW => ⟨⟨0, (), rfl, rfl, q_RW_mk hP hK hD [0, 1, 2, 3, 4, 5] [0, 1] rfl rfl (by decide) rfl ht hW.alike⟩, hS.F ht⟩) hS.2.2 dX6_passHour_147
theorem dX6_hours_8 : decode cX6_hours 8 = .ok (.aload_n 0, 1) := by decide +kernel
theorem dX6_hours_9 : decode cX6_hours 9 = .ok (.invokevirtual 123, 3) := by decide +kernel
theorem dX6_hours_12 : decode cX6_hours 12 = .ok (.iconst 0, 1) := by decide +kernel
theorem dX6_hours_13 : decode cX6_hours 13 = .ok (.istore_n 2, 1) := by decide +kernel
theorem dX6_hours_14 : decode cX6_hours 14 = .ok (.iconst 0, 1) := by decide +kernel
theorem dX6_hours_15 : decode cX6_hours 15 = .ok (.istore_n 3, 1) := by decide +kernel
theorem dX6_hours_16 : decode cX6_hours 16 = .ok (.iload_n 3, 1) := by decide +kernel
theorem dX6_hours_17 : decode cX6_hours 17 = .ok (.iload_n 1, 1) := by decide +kernel
theorem dX6_hours_18 : decode cX6_hours 18 = .ok (.if_icmp .ge 16, 3) := by decide +kernel
theorem dX6_hours_21 : decode cX6_hours 21 = .ok (.iload_n 2, 1) := by decide +kernel
theorem dX6_hours_22 : decode cX6_hours 22 = .ok (.aload_n 0, 1) := by decide +kernel
theorem dX6_hours_23 : decode cX6_hours 23 = .ok (.invokevirtual 126, 3) := by decide +kernel
theorem dX6_hours_26 : decode cX6_hours 26 = .ok (.iadd, 1) := by decide +kernel
theorem dX6_hours_27 : decode cX6_hours 27 = .ok (.istore_n 2, 1) := by decide +kernel
theorem dX6_hours_28 : decode cX6_hours 28 = .ok (.iinc 3 1, 3) := by decide +kernel
theorem dX6_hours_31 : decode cX6_hours 31 = .ok (.goto (-15), 3) := by decide +kernel
theorem dX6_hours_34 : decode cX6_hours 34 = .ok (.iload_n 2, 1) := by decide +kernel
theorem dX6_hours_35 : decode cX6_hours 35 = .ok (.ireturn, 1) := by decide +kernel
def wzEX6_hours_3 : List Cond := [.code yX6_hours cX6_hours 4 (some .int), .methodLink RX6 75 yX6_checkRange, .static yX6_checkRange, .initialized RX6, .code yX6_checkRange cX6_checkRange 3 none, .methodLink RX6 123 yX6_checkTeamRests, .instanceMethod yX6_checkTeamRests, .selects RX6 yX6_checkTeamRests yX6_checkTeamRests, .code yX6_checkTeamRests cX6_checkTeamRests 1 none, .methodLink RX6 274 yX6_countOf, .instanceMethod yX6_countOf, .selects RX6 yX6_countOf yX6_countOf, .code yX6_countOf cX6_countOf 7 (some .int), .fieldLink RX6 30 "Gatherhouse" "pieces" "[LGatherhouse$Piece;", .fieldLink RX6 40 "Gatherhouse" "gatherer" "LGatherhouse$Role;", .code yX4_isBusy cX4_isBusy 1 (some .boolean), .fieldLink RX4 7 "Gatherhouse$Role" "busy" "I", .initialized RX4, .instanceMethod yX4_isBusy, .selects RX4 yX4_isBusy yX4_isBusy, .fieldLink RX6 44 "Gatherhouse" "servitor" "LGatherhouse$Role;", .fieldLink RX6 47 "Gatherhouse" "gaffer" "LGatherhouse$Role;", .fieldLink RX6 50 "Gatherhouse" "boy" "LGatherhouse$Role;", .methodLink RX6 126 yX6_passHour, .instanceMethod yX6_passHour, .selects RX6 yX6_passHour yX6_passHour, .code yX6_passHour cX6_passHour 7 (some .int), .fieldLink RX6 63 "Gatherhouse" "hoursGone" "I", .fieldLink RX6 21 "Gatherhouse" "pots" "[LGatherhouse$Pot;", .code yX2_passHour cX2_passHour 1 none, .fieldLink RX2 9 "Gatherhouse$Pot" "mass" "I", .fieldLink RX2 21 "Gatherhouse$Pot" "age" "I", .fieldLink RX2 18 "Gatherhouse$Pot" "stones" "I", .fieldLink RX2 15 "Gatherhouse$Pot" "seeds" "I", .methodLink RX2 28 Lib.Math.max.name, .static Lib.Math.max.name, .initialized "java/lang/Math", .code Lib.Math.max.name Lib.Math.max.code 2 (some .int), .initialized RX2, .instanceMethod yX2_passHour, .selects RX2 yX2_passHour yX2_passHour, .methodLink RX6 405 yX6_endDay, .instanceMethod yX6_endDay, .selects RX6 yX6_endDay yX6_endDay, .code yX6_endDay cX6_endDay 6 none]
def wzX6_hours_3 : List Cond := wzEX6_hours_3 ++ (u_ws RX6 TX6 16 ++ (u_ws RX4 TX4 2 ++ (u_ws RX2 TX2 5)))
theorem zgEX6_hours_3 : wzEX6_hours_3.all goodWord = true := by decide +kernel
theorem zuX6_hours_3_X6 : ∀ w ∈ u_ws RX6 TX6 16, w ∈ wzX6_hours_3 := (fun _ h => (List.mem_append_right _ (List.mem_append_left _ h)))
theorem zuX6_hours_3_X4 : ∀ w ∈ u_ws RX4 TX4 2, w ∈ wzX6_hours_3 := (fun _ h => (List.mem_append_right _ (List.mem_append_right _ (List.mem_append_left _ h))))
theorem zuX6_hours_3_X2 : ∀ w ∈ u_ws RX2 TX2 5, w ∈ wzX6_hours_3 := (fun _ h => (List.mem_append_right _ (List.mem_append_right _ (List.mem_append_right _ h))))
theorem gzX6_hours_3_X6_checkRange_ok_75 : GoodIn wzX6_hours_3 (va_wsS RX6 75 yX6_checkRange wzX6_checkRange_ok) := (goodIn_app (z_lift (goodIn_r _ [1, 2, 3] rfl (by decide +kernel))) (goodIn_app (z_lift (goodIn_r wzEX6_checkRange_ok [4] rfl zgEX6_checkRange_ok)) z_gnil))
theorem gzX6_hours_3_X6_checkTeamRests_123 : GoodIn wzX6_hours_3 (wsV RX6 123 RX6 yX6_checkTeamRests wzX6_checkTeamRests) := (goodIn_app (z_lift (goodIn_r _ [5, 6, 7, 3] rfl (by decide +kernel))) (goodIn_app (z_lift (goodIn_r wzEX6_checkTeamRests [8, 9, 10, 11, 3, 12, 13, 14, 15, 16, 17, 18, 19, 20, 21, 22] rfl zgEX6_checkTeamRests)) (goodIn_app (goodIn_sub (fun _ h => (List.mem_append_right _ (List.mem_append_left _ h))) zgU_X6) (goodIn_sub (fun _ h => (List.mem_append_right _ (List.mem_append_right _ (List.mem_append_left _ h)))) zgU_X4))))
theorem gzX6_hours_3_X6_passHour_3_126 : GoodIn wzX6_hours_3 (wsV RX6 126 RX6 yX6_passHour wzX6_passHour_3) := (goodIn_app (z_lift (goodIn_r _ [23, 24, 25, 3] rfl (by decide +kernel))) (goodIn_app (z_lift (goodIn_r wzEX6_passHour_3 [26, 27, 28, 29, 30, 31, 32, 33, 34, 35, 36, 37, 38, 39, 40, 13, 41, 42, 43, 3, 44] rfl zgEX6_passHour_3)) (goodIn_app (goodIn_sub (fun _ h => (List.mem_append_right _ (List.mem_append_left _ h))) zgU_X6) (goodIn_sub (fun _ h => (List.mem_append_right _ (List.mem_append_right _ (List.mem_append_right _ h)))) zgU_X2))))
set_option maxHeartbeats 4000000 in
set_option maxRecDepth 100000 in
theorem zc_X6_hours_3 (l : Launch) (hnt : l.stackTraces = false) (D : va_G) (G : Nat × Nat × (Nat → Int32)) (xo : Nat) (hn : Nat) (xg : Nat) (gc : Int32) (xp : Nat) (pc : Int32) (xq : Nat) (qc : Int32) (r1 : Nat) (r2 : Nat) (r3 : Nat) (r4 : Nat) (se : Nat) (ts : Int32) (ho : Nat) (dr : Int32) (su : Int32) (br : Int32) (cp : ClassId) (b0 : Nat) (b1 : Nat) (b2 : Nat) (cq : ClassId) (gx0 : Nat) (pm0 : Nat) (pe0 : Nat) (ps0 : Nat) (pa0 : Nat) (gx1 : Nat) (pm1 : Nat) (pe1 : Nat) (ps1 : Nat) (pa1 : Nat) (gx2 : Nat) (pm2 : Nat) (pe2 : Nat) (ps2 : Nat) (pa2 : Nat) (p1 : Int32) (p2 : Int32) (p3 : Int32) (p4 : Int32) (sz : Nat) (hh_ho : ho ≤ 10000) (hl_hn : 1 ≤ hn) (hh_hn : hn ≤ 240) (hh_pm0 : pm0 ≤ 1000) (hh_pe0 : pe0 ≤ 500) (hh_ps0 : ps0 ≤ 50000) (hh_pa0 : pa0 ≤ 50000) (hh_pm1 : pm1 ≤ 1000) (hh_pe1 : pe1 ≤ 500) (hh_ps1 : ps1 ≤ 50000) (hh_pa1 : pa1 ≤ 50000) (hh_pm2 : pm2 ≤ 1000) (hh_pe2 : pe2 ≤ 500) (hh_ps2 : ps2 ≤ 50000) (hh_pa2 : pa2 ≤ 50000) : vx_Met l yX6_hours wzX6_hours_3 ({ frames := 3, cells := 0, slots := 0, locals := 68 }) (va_Pc [.ref xo, .int (nI hn)] (p_RW D G [(cp, .object "Gatherhouse$Pot"), (cq, .object "Gatherhouse$Piece")] [(xo, .inr (6, [.ref xg, .int gc, .ref xp, .int pc, .ref xq, .int qc, .ref r1, .ref r2, .ref r3, .ref r4, .ref se, .int ts, .int (nI ho), .int dr, .int su, .int br])), (xp, .inl (cp, 4, .inr (.inr (.inr (.inr (zq [some b0, some b1, some b2, none])))))), (xq, .inl (cq, 16, .inr (.inr (.inr (.inr (zq [none, none, none, none, none, none, none, none, none, none, none, none, none, none, none, none])))))), (b0, .inr (2, [.ref gx0, .int (nI pm0), .int (nI pe0), .int (nI ps0), .int (nI pa0)])), (b1, .inr (2, [.ref gx1, .int (nI pm1), .int (nI pe1), .int (nI ps1), .int (nI pa1)])), (b2, .inr (2, [.ref gx2, .int (nI pm2), .int (nI pe2), .int (nI ps2), .int (nI pa2)])), (r1, .inr (4, [.int 0, .int p1])), (r2, .inr (4, [.int 0, .int p2])), (r3, .inr (4, [.int 0, .int p3])), (r4, .inr (4, [.int 0, .int p4]))] sz)) (va_Qi (fun (r : Int32) (u : Unit) => r = 0) (fun (u : Unit) (t : State) => q_RW D [(cp, .object "Gatherhouse$Pot"), (cq, .object "Gatherhouse$Piece")] [(xo, .inr (6, [.ref xg, .int gc, .ref xp, .int pc, .ref xq, .int qc, .ref r1, .ref r2, .ref r3, .ref r4, .ref se, .int ts, .int (nI (ho + hn)), .int dr, .int su, .int br])), (xp, .inl (cp, 4, .inr (.inr (.inr (.inr (zq [some b0, some b1, some b2, none])))))), (xq, .inl (cq, 16, .inr (.inr (.inr (.inr (zq [none, none, none, none, none, none, none, none, none, none, none, none, none, none, none, none])))))), (b0, .inr (2, [.ref gx0, .int (nI pm0), .int (nI (zS pm0 pe0 hn)), .int (nI (ps0 + ((pa0 + hn) / 50 - pa0 / 50))), .int (nI (pa0 + hn))])), (b1, .inr (2, [.ref gx1, .int (nI pm1), .int (nI (zS pm1 pe1 hn)), .int (nI (ps1 + ((pa1 + hn) / 50 - pa1 / 50))), .int (nI (pa1 + hn))])), (b2, .inr (2, [.ref gx2, .int (nI pm2), .int (nI (zS pm2 pe2 hn)), .int (nI (ps2 + ((pa2 + hn) / 50 - pa2 / 50))), .int (nI (pa2 + hn))])), (r1, .inr (4, [.int 0, .int p1])), (r2, .inr (4, [.int 0, .int p2])), (r3, .inr (4, [.int 0, .int p3])), (r4, .inr (4, [.int 0, .int p4]))] (va_A [(xo, .inr (6, [.ref xg, .int gc, .ref xp, .int pc, .ref xq, .int qc, .ref r1, .ref r2, .ref r3, .ref r4, .ref se, .int ts, .int (nI ho), .int dr, .int su, .int br])), (xp, .inl (cp, 4, .inr (.inr (.inr (.inr (zq [some b0, some b1, some b2, none])))))), (xq, .inl (cq, 16, .inr (.inr (.inr (.inr (zq [none, none, none, none, none, none, none, none, none, none, none, none, none, none, none, none])))))), (b0, .inr (2, [.ref gx0, .int (nI pm0), .int (nI pe0), .int (nI ps0), .int (nI pa0)])), (b1, .inr (2, [.ref gx1, .int (nI pm1), .int (nI pe1), .int (nI ps1), .int (nI pa1)])), (b2, .inr (2, [.ref gx2, .int (nI pm2), .int (nI pe2), .int (nI ps2), .int (nI pa2)])), (r1, .inr (4, [.int 0, .int p1])), (r2, .inr (4, [.int 0, .int p2])), (r3, .inr (4, [.int 0, .int p3])), (r4, .inr (4, [.int 0, .int p4]))] sz) t) (va_A [(xo, .inr (6, [.ref xg, .int gc, .ref xp, .int pc, .ref xq, .int qc, .ref r1, .ref r2, .ref r3, .ref r4, .ref se, .int ts, .int (nI ho), .int dr, .int su, .int br])), (xp, .inl (cp, 4, .inr (.inr (.inr (.inr (zq [some b0, some b1, some b2, none])))))), (xq, .inl (cq, 16, .inr (.inr (.inr (.inr (zq [none, none, none, none, none, none, none, none, none, none, none, none, none, none, none, none])))))), (b0, .inr (2, [.ref gx0, .int (nI pm0), .int (nI pe0), .int (nI ps0), .int (nI pa0)])), (b1, .inr (2, [.ref gx1, .int (nI pm1), .int (nI pe1), .int (nI ps1), .int (nI pa1)])), (b2, .inr (2, [.ref gx2, .int (nI pm2), .int (nI pe2), .int (nI ps2), .int (nI pa2)])), (r1, .inr (4, [.int 0, .int p1])), (r2, .inr (4, [.int 0, .int p2])), (r3, .inr (4, [.int 0, .int p3])), (r4, .inr (4, [.int 0, .int p4]))] sz)) (vx_X (fun (_ : Unit) => True) (fun E (_ : Unit) (_ : State) => False) (va_A [(xo, .inr (6, [.ref xg, .int gc, .ref xp, .int pc, .ref xq, .int qc, .ref r1, .ref r2, .ref r3, .ref r4, .ref se, .int ts, .int (nI ho), .int dr, .int su, .int br])), (xp, .inl (cp, 4, .inr (.inr (.inr (.inr (zq [some b0, some b1, some b2, none])))))), (xq, .inl (cq, 16, .inr (.inr (.inr (.inr (zq [none, none, none, none, none, none, none, none, none, none, none, none, none, none, none, none])))))), (b0, .inr (2, [.ref gx0, .int (nI pm0), .int (nI pe0), .int (nI ps0), .int (nI pa0)])), (b1, .inr (2, [.ref gx1, .int (nI pm1), .int (nI pe1), .int (nI ps1), .int (nI pa1)])), (b2, .inr (2, [.ref gx2, .int (nI pm2), .int (nI pe2), .int (nI ps2), .int (nI pa2)])), (r1, .inr (4, [.int 0, .int p1])), (r2, .inr (4, [.int 0, .int p2])), (r3, .inr (4, [.int 0, .int p3])), (r4, .inr (4, [.int 0, .int p4]))] sz)) 0 0 (va_A [(xo, .inr (6, [.ref xg, .int gc, .ref xp, .int pc, .ref xq, .int qc, .ref r1, .ref r2, .ref r3, .ref r4, .ref se, .int ts, .int (nI ho), .int dr, .int su, .int br])), (xp, .inl (cp, 4, .inr (.inr (.inr (.inr (zq [some b0, some b1, some b2, none])))))), (xq, .inl (cq, 16, .inr (.inr (.inr (.inr (zq [none, none, none, none, none, none, none, none, none, none, none, none, none, none, none, none])))))), (b0, .inr (2, [.ref gx0, .int (nI pm0), .int (nI pe0), .int (nI ps0), .int (nI pa0)])), (b1, .inr (2, [.ref gx1, .int (nI pm1), .int (nI pe1), .int (nI ps1), .int (nI pa1)])), (b2, .inr (2, [.ref gx2, .int (nI pm2), .int (nI pe2), .int (nI ps2), .int (nI pa2)])), (r1, .inr (4, [.int 0, .int p1])), (r2, .inr (4, [.int 0, .int p2])), (r3, .inr (4, [.int 0, .int p3])), (r4, .inr (4, [.int 0, .int p4]))] sz) := by
  refine vx_ofW (cc := cX6_hours) (maxL := 4) (ret := (some .int)) (by decide) rfl ?_
  intro p e s m args below meth c s₁ B hml hxt hv
  obtain ⟨rfl, hsz, hP, hK, hD0, hT, hZ⟩ := hv
  have hx := B.exec
  have hb := B.bytes
  have hr := B.returns
  have hts := atoms_spec (ws := wzX6_hours_3) B.pre
  have hown : s.vm.findClass RX6 = some m.cls := findClass_of_methodNamed B.named
  have hlocks := B.notSynchronized
  subst hsz
  have hD := hD0.self (sz := s.heap.size)
  generalize hAe : va_A [(xo, .inr (6, [.ref xg, .int gc, .ref xp, .int pc, .ref xq, .int qc, .ref r1, .ref r2, .ref r3, .ref r4, .ref se, .int ts, .int (nI ho), .int dr, .int su, .int br])), (xp, .inl (cp, 4, .inr (.inr (.inr (.inr (zq [some b0, some b1, some b2, none])))))), (xq, .inl (cq, 16, .inr (.inr (.inr (.inr (zq [none, none, none, none, none, none, none, none, none, none, none, none, none, none, none, none])))))), (b0, .inr (2, [.ref gx0, .int (nI pm0), .int (nI pe0), .int (nI ps0), .int (nI pa0)])), (b1, .inr (2, [.ref gx1, .int (nI pm1), .int (nI pe1), .int (nI ps1), .int (nI pa1)])), (b2, .inr (2, [.ref gx2, .int (nI pm2), .int (nI pe2), .int (nI ps2), .int (nI pa2)])), (r1, .inr (4, [.int 0, .int p1])), (r2, .inr (4, [.int 0, .int p2])), (r3, .inr (4, [.int 0, .int p3])), (r4, .inr (4, [.int 0, .int p4]))] s.heap.size = A at hD hZ ⊢
  have hA : ∀ q : Nat, s.heap.size ≤ q → A q := fun q h => by rw [← hAe]; exact Or.inr h
  have hS : va_S A s.heap s.heap [] := va_S.rf
  have hl := lv_entry ([.ref xo, .int (nI hn)]) (n := 4) (Nat.le_of_ble_eq_true rfl)
  rw [lg_entry_eq]
  generalize (lg_sl ([.ref xo, .int (nI hn)]) ++ List.replicate (4 - (lg_sl ([.ref xo, .int (nI hn)])).length) Slot.unset).toArray = ls at hl ⊢
  have hl : lv_has ls 4 [(0, .ref xo), (1, .int (nI hn))] := hl
  refine lv_iload_n hx hb dX6_hours_0 rfl (lv_at hl 1 rfl) ?_
  refine lv_iconst (v := 1) hx hb dX6_hours_1 (by decide) ?_
  refine lv_sipush (v := 240) hx hb dX6_hours_2 (by decide) ?_
  have hFc := va_free (wc := []) hD hS hA [] rfl
  refine vx_callv (vx_runS (As := [.int (nI hn), .int 1, .int 240]) (rest := []) ⟨hx, hb, hml, hown, hts⟩ (zc_X6_checkRange_ok l hnt D G hn 1 240 s.heap.size (by first | assumption | rfl | omega | exact Nat.le_trans (zS_le _ _ _) (by omega) | decide) (by first | assumption | rfl | omega | exact Nat.le_trans (zS_le _ _ _) (by omega) | decide) (by first | assumption | rfl | omega | exact Nat.le_trans (zS_le _ _ _) (by omega) | decide) (by first | assumption | rfl | omega | exact Nat.le_trans (zS_le _ _ _) (by omega) | decide) (by first | assumption | rfl | omega | exact Nat.le_trans (zS_le _ _ _) (by omega) | decide)) (cwS 3 hts gzX6_hours_3_X6_checkRange_ok_75 rfl rfl rfl (by decide +kernel) ⟨(Nat.le_of_ble_eq_true rfl), (Nat.le_of_ble_eq_true rfl)⟩) ⟨p_RW_blind, (p_RW_at (tc := []) (wc := []) hP hK hD hS hA hT hZ [] [] rfl rfl (by decide) rfl [.int (nI hn), .int 1, .int 240])⟩ rfl rfl hl.1 rfl (lv_room (Nat.le_of_ble_eq_true rfl)) dX6_hours_5 ⟨(Nat.le_of_ble_eq_true rfl), (Nat.le_of_ble_eq_true rfl)⟩) hS (fun q _ h => hFc q h) hFc (fun q _ h => hFc q h) (fun E ce q9 u t H locs ht hvm hpx hBX hz1 hk1 hS hce hcv hcl => ?_) (fun u t H locs ht hvm w_498 hB hz1 hk1 hS => ?_)
  · exact (show False from hBX).elim
  · obtain ⟨hP, hD, hK⟩ := q_join (D := D) (wc := []) (wr := [(xo, .inr (6, [.ref xg, .int gc, .ref xp, .int pc, .ref xq, .int qc, .ref r1, .ref r2, .ref r3, .ref r4, .ref se, .int ts, .int (nI ho), .int dr, .int su, .int br])), (xp, .inl (cp, 4, .inr (.inr (.inr (.inr (zq [some b0, some b1, some b2, none])))))), (xq, .inl (cq, 16, .inr (.inr (.inr (.inr (zq [none, none, none, none, none, none, none, none, none, none, none, none, none, none, none, none])))))), (b0, .inr (2, [.ref gx0, .int (nI pm0), .int (nI pe0), .int (nI ps0), .int (nI pa0)])), (b1, .inr (2, [.ref gx1, .int (nI pm1), .int (nI pe1), .int (nI ps1), .int (nI pa1)])), (b2, .inr (2, [.ref gx2, .int (nI pm2), .int (nI pe2), .int (nI ps2), .int (nI pa2)])), (r1, .inr (4, [.int 0, .int p1])), (r2, .inr (4, [.int 0, .int p2])), (r3, .inr (4, [.int 0, .int p3])), (r4, .inr (4, [.int 0, .int p4]))]) (w1 := []) (tyr := [(cp, .object "Gatherhouse$Pot"), (cq, .object "Gatherhouse$Piece")]) (ty1 := []) hP hD hK [] [0, 1, 2, 3, 4, 5, 6, 7, 8, 9] [0, 1] rfl rfl (by decide) (by decide) rfl hFc hk1 ht hvm hB
    have hP : va_P D vwCl [(xo, .inr (6, [.ref xg, .int gc, .ref xp, .int pc, .ref xq, .int qc, .ref r1, .ref r2, .ref r3, .ref r4, .ref se, .int ts, .int (nI ho), .int dr, .int su, .int br])), (xp, .inl (cp, 4, .inr (.inr (.inr (.inr (zq [some b0, some b1, some b2, none])))))), (xq, .inl (cq, 16, .inr (.inr (.inr (.inr (zq [none, none, none, none, none, none, none, none, none, none, none, none, none, none, none, none])))))), (b0, .inr (2, [.ref gx0, .int (nI pm0), .int (nI pe0), .int (nI ps0), .int (nI pa0)])), (b1, .inr (2, [.ref gx1, .int (nI pm1), .int (nI pe1), .int (nI ps1), .int (nI pa1)])), (b2, .inr (2, [.ref gx2, .int (nI pm2), .int (nI pe2), .int (nI ps2), .int (nI pa2)])), (r1, .inr (4, [.int 0, .int p1])), (r2, .inr (4, [.int 0, .int p2])), (r3, .inr (4, [.int 0, .int p3])), (r4, .inr (4, [.int 0, .int p4]))] H := hP
    have hD : va_D A [(xo, .inr (6, [.ref xg, .int gc, .ref xp, .int pc, .ref xq, .int qc, .ref r1, .ref r2, .ref r3, .ref r4, .ref se, .int ts, .int (nI ho), .int dr, .int su, .int br])), (xp, .inl (cp, 4, .inr (.inr (.inr (.inr (zq [some b0, some b1, some b2, none])))))), (xq, .inl (cq, 16, .inr (.inr (.inr (.inr (zq [none, none, none, none, none, none, none, none, none, none, none, none, none, none, none, none])))))), (b0, .inr (2, [.ref gx0, .int (nI pm0), .int (nI pe0), .int (nI ps0), .int (nI pa0)])), (b1, .inr (2, [.ref gx1, .int (nI pm1), .int (nI pe1), .int (nI ps1), .int (nI pa1)])), (b2, .inr (2, [.ref gx2, .int (nI pm2), .int (nI pe2), .int (nI ps2), .int (nI pa2)])), (r1, .inr (4, [.int 0, .int p1])), (r2, .inr (4, [.int 0, .int p2])), (r3, .inr (4, [.int 0, .int p3])), (r4, .inr (4, [.int 0, .int p4]))] := hD
    have hK : va_K D vwCl [(cp, .object "Gatherhouse$Pot"), (cq, .object "Gatherhouse$Piece")] s := hK
    refine lv_aload_n hx hb dX6_hours_8 rfl (lv_at hl 0 rfl) ?_
    refine va_csv (va_runV (As := []) (rest := []) ⟨hx, hb, hml, hown, hts⟩ (zc_X6_checkTeamRests l D G xo xg gc xp pc xq qc r1 r2 r3 r4 se ts (nI ho) dr su br cq p1 p2 p3 p4) (cwV 0 hts gzX6_hours_3_X6_checkTeamRests_123 rfl rfl rfl (by decide +kernel) ⟨(Nat.le_of_ble_eq_true rfl), (Nat.le_of_ble_eq_true rfl)⟩) ⟨p_RO_blind, va_recv hK hP (ci := 6) (q0 := 0) rfl rfl, (p_RO_at (tc := [(cq, .object "Gatherhouse$Piece")]) (wc := [(xo, .inr (6, [.ref xg, .int gc, .ref xp, .int pc, .ref xq, .int qc, .ref r1, .ref r2, .ref r3, .ref r4, .ref se, .int ts, .int (nI ho), .int dr, .int su, .int br])), (xq, .inl (cq, 16, .inr (.inr (.inr (.inr (zq [none, none, none, none, none, none, none, none, none, none, none, none, none, none, none, none])))))), (r1, .inr (4, [.int 0, .int p1])), (r2, .inr (4, [.int 0, .int p2])), (r3, .inr (4, [.int 0, .int p3])), (r4, .inr (4, [.int 0, .int p4]))]) hP hK hT [0, 2, 6, 7, 8, 9] [1] rfl rfl [.ref xo])⟩ rfl rfl hl.1 rfl (lv_room (Nat.le_of_ble_eq_true rfl)) dX6_hours_9 ⟨(Nat.le_of_ble_eq_true rfl), (Nat.le_of_ble_eq_true rfl)⟩).run (fun w_500 => ?_)
    refine lv_iconst (v := 0) hx hb dX6_hours_12 (by decide) ?_
    refine lv_istore_n (lv' := [(2, .int 0), (0, .ref xo), (1, .int (nI hn))]) hx hb dX6_hours_13 rfl hl (by decide) rfl (fun ls hl => ?_)
    refine lv_iconst (v := 0) hx hb dX6_hours_14 (by decide) ?_
    refine lv_istore_n (lv' := [(3, .int 0), (2, .int 0), (0, .ref xo), (1, .int (nI hn))]) hx hb dX6_hours_15 rfl hl (by decide) rfl (fun ls hl => ?_)
    have hw9 : ([(xo, .inr (6, [.ref xg, .int gc, .ref xp, .int pc, .ref xq, .int qc, .ref r1, .ref r2, .ref r3, .ref r4, .ref se, .int ts, .int (nI ho), .int dr, .int su, .int br])), (xp, .inl (cp, 4, .inr (.inr (.inr (.inr (zq [some b0, some b1, some b2, none])))))), (xq, .inl (cq, 16, .inr (.inr (.inr (.inr (zq [none, none, none, none, none, none, none, none, none, none, none, none, none, none, none, none])))))), (b0, .inr (2, [.ref gx0, .int (nI pm0), .int (nI pe0), .int (nI ps0), .int (nI pa0)])), (b1, .inr (2, [.ref gx1, .int (nI pm1), .int (nI pe1), .int (nI ps1), .int (nI pa1)])), (b2, .inr (2, [.ref gx2, .int (nI pm2), .int (nI pe2), .int (nI ps2), .int (nI pa2)])), (r1, .inr (4, [.int 0, .int p1])), (r2, .inr (4, [.int 0, .int p2])), (r3, .inr (4, [.int 0, .int p3])), (r4, .inr (4, [.int 0, .int p4]))] : va_W) = [(xo, .inr (6, [.ref xg, .int gc, .ref xp, .int pc, .ref xq, .int qc, .ref r1, .ref r2, .ref r3, .ref r4, .ref se, .int ts, .int (nI (ho + 0)), .int dr, .int su, .int br])), (xp, .inl (cp, 4, .inr (.inr (.inr (.inr (zq [some b0, some b1, some b2, none])))))), (xq, .inl (cq, 16, .inr (.inr (.inr (.inr (zq [none, none, none, none, none, none, none, none, none, none, none, none, none, none, none, none])))))), (b0, .inr (2, [.ref gx0, .int (nI pm0), .int (nI (zS pm0 pe0 0)), .int (nI (ps0 + ((pa0 + 0) / 50 - pa0 / 50))), .int (nI (pa0 + 0))])), (b1, .inr (2, [.ref gx1, .int (nI pm1), .int (nI (zS pm1 pe1 0)), .int (nI (ps1 + ((pa1 + 0) / 50 - pa1 / 50))), .int (nI (pa1 + 0))])), (b2, .inr (2, [.ref gx2, .int (nI pm2), .int (nI (zS pm2 pe2 0)), .int (nI (ps2 + ((pa2 + 0) / 50 - pa2 / 50))), .int (nI (pa2 + 0))])), (r1, .inr (4, [.int 0, .int p1])), (r2, .inr (4, [.int 0, .int p2])), (r3, .inr (4, [.int 0, .int p3])), (r4, .inr (4, [.int 0, .int p4]))] := by
      have z_501 : (nI ho : Int32) = nI (ho + 0) := (by first | rfl | exact congrArg nI (by omega) | exact congrArg nI (by simp only [zS]; omega) | exact congrArg nI (by simp only [zS]; split <;> omega) | exact congrArg nI (by simp only [zS]; split <;> split <;> omega) | (simp only [zS]; omega) | (simp only [zS]; split <;> omega))
      have z_502 : (nI pe0 : Int32) = nI (zS pm0 pe0 0) := (by first | rfl | exact congrArg nI (by omega) | exact congrArg nI (by simp only [zS]; omega) | exact congrArg nI (by simp only [zS]; split <;> omega) | exact congrArg nI (by simp only [zS]; split <;> split <;> omega) | (simp only [zS]; omega) | (simp only [zS]; split <;> omega))
      have z_503 : (nI ps0 : Int32) = nI (ps0 + ((pa0 + 0) / 50 - pa0 / 50)) := (by first | rfl | exact congrArg nI (by omega) | exact congrArg nI (by simp only [zS]; omega) | exact congrArg nI (by simp only [zS]; split <;> omega) | exact congrArg nI (by simp only [zS]; split <;> split <;> omega) | (simp only [zS]; omega) | (simp only [zS]; split <;> omega))
      have z_504 : (nI pa0 : Int32) = nI (pa0 + 0) := (by first | rfl | exact congrArg nI (by omega) | exact congrArg nI (by simp only [zS]; omega) | exact congrArg nI (by simp only [zS]; split <;> omega) | exact congrArg nI (by simp only [zS]; split <;> split <;> omega) | (simp only [zS]; omega) | (simp only [zS]; split <;> omega))
      have z_505 : (nI pe1 : Int32) = nI (zS pm1 pe1 0) := (by first | rfl | exact congrArg nI (by omega) | exact congrArg nI (by simp only [zS]; omega) | exact congrArg nI (by simp only [zS]; split <;> omega) | exact congrArg nI (by simp only [zS]; split <;> split <;> omega) | (simp only [zS]; omega) | (simp only [zS]; split <;> omega))
      have z_506 : (nI ps1 : Int32) = nI (ps1 + ((pa1 + 0) / 50 - pa1 / 50)) := (by first | rfl | exact congrArg nI (by omega) | exact congrArg nI (by simp only [zS]; omega) | exact congrArg nI (by simp only [zS]; split <;> omega) | exact congrArg nI (by simp only [zS]; split <;> split <;> omega) | (simp only [zS]; omega) | (simp only [zS]; split <;> omega))
      have z_507 : (nI pa1 : Int32) = nI (pa1 + 0) := (by first | rfl | exact congrArg nI (by omega) | exact congrArg nI (by simp only [zS]; omega) | exact congrArg nI (by simp only [zS]; split <;> omega) | exact congrArg nI (by simp only [zS]; split <;> split <;> omega) | (simp only [zS]; omega) | (simp only [zS]; split <;> omega))
      have z_508 : (nI pe2 : Int32) = nI (zS pm2 pe2 0) := (by first | rfl | exact congrArg nI (by omega) | exact congrArg nI (by simp only [zS]; omega) | exact congrArg nI (by simp only [zS]; split <;> omega) | exact congrArg nI (by simp only [zS]; split <;> split <;> omega) | (simp only [zS]; omega) | (simp only [zS]; split <;> omega))
      have z_509 : (nI ps2 : Int32) = nI (ps2 + ((pa2 + 0) / 50 - pa2 / 50)) := (by first | rfl | exact congrArg nI (by omega) | exact congrArg nI (by simp only [zS]; omega) | exact congrArg nI (by simp only [zS]; split <;> omega) | exact congrArg nI (by simp only [zS]; split <;> split <;> omega) | (simp only [zS]; omega) | (simp only [zS]; split <;> omega))
      have z_510 : (nI pa2 : Int32) = nI (pa2 + 0) := (by first | rfl | exact congrArg nI (by omega) | exact congrArg nI (by simp only [zS]; omega) | exact congrArg nI (by simp only [zS]; split <;> omega) | exact congrArg nI (by simp only [zS]; split <;> split <;> omega) | (simp only [zS]; omega) | (simp only [zS]; split <;> omega))
      first | rfl | rw [z_501, z_502, z_503, z_504, z_505, z_506, z_507, z_508, z_509, z_510] | rw [← z_501, ← z_502, ← z_503, ← z_504, ← z_505, ← z_506, ← z_507, ← z_508, ← z_509, ← z_510] | simp only [z_501, z_502, z_503, z_504, z_505, z_506, z_507, z_508, z_509, z_510]
    have hP : va_P D vwCl [(xo, .inr (6, [.ref xg, .int gc, .ref xp, .int pc, .ref xq, .int qc, .ref r1, .ref r2, .ref r3, .ref r4, .ref se, .int ts, .int (nI (ho + 0)), .int dr, .int su, .int br])), (xp, .inl (cp, 4, .inr (.inr (.inr (.inr (zq [some b0, some b1, some b2, none])))))), (xq, .inl (cq, 16, .inr (.inr (.inr (.inr (zq [none, none, none, none, none, none, none, none, none, none, none, none, none, none, none, none])))))), (b0, .inr (2, [.ref gx0, .int (nI pm0), .int (nI (zS pm0 pe0 0)), .int (nI (ps0 + ((pa0 + 0) / 50 - pa0 / 50))), .int (nI (pa0 + 0))])), (b1, .inr (2, [.ref gx1, .int (nI pm1), .int (nI (zS pm1 pe1 0)), .int (nI (ps1 + ((pa1 + 0) / 50 - pa1 / 50))), .int (nI (pa1 + 0))])), (b2, .inr (2, [.ref gx2, .int (nI pm2), .int (nI (zS pm2 pe2 0)), .int (nI (ps2 + ((pa2 + 0) / 50 - pa2 / 50))), .int (nI (pa2 + 0))])), (r1, .inr (4, [.int 0, .int p1])), (r2, .inr (4, [.int 0, .int p2])), (r3, .inr (4, [.int 0, .int p3])), (r4, .inr (4, [.int 0, .int p4]))] H := by rw [← hw9]; exact hP
    have hD : va_D A [(xo, .inr (6, [.ref xg, .int gc, .ref xp, .int pc, .ref xq, .int qc, .ref r1, .ref r2, .ref r3, .ref r4, .ref se, .int ts, .int (nI (ho + 0)), .int dr, .int su, .int br])), (xp, .inl (cp, 4, .inr (.inr (.inr (.inr (zq [some b0, some b1, some b2, none])))))), (xq, .inl (cq, 16, .inr (.inr (.inr (.inr (zq [none, none, none, none, none, none, none, none, none, none, none, none, none, none, none, none])))))), (b0, .inr (2, [.ref gx0, .int (nI pm0), .int (nI (zS pm0 pe0 0)), .int (nI (ps0 + ((pa0 + 0) / 50 - pa0 / 50))), .int (nI (pa0 + 0))])), (b1, .inr (2, [.ref gx1, .int (nI pm1), .int (nI (zS pm1 pe1 0)), .int (nI (ps1 + ((pa1 + 0) / 50 - pa1 / 50))), .int (nI (pa1 + 0))])), (b2, .inr (2, [.ref gx2, .int (nI pm2), .int (nI (zS pm2 pe2 0)), .int (nI (ps2 + ((pa2 + 0) / 50 - pa2 / 50))), .int (nI (pa2 + 0))])), (r1, .inr (4, [.int 0, .int p1])), (r2, .inr (4, [.int 0, .int p2])), (r3, .inr (4, [.int 0, .int p3])), (r4, .inr (4, [.int 0, .int p4]))] := by rw [← hw9]; exact hD
    have hl : lv_has ls 4 [(1, .int (nI hn)), (2, .int 0), (3, .int 0), (0, .ref xo)] := lv_sub hl [3, 1, 0, 2] rfl
    have hv9 : ([(1, .int (nI hn)), (2, .int 0), (3, .int 0), (0, .ref xo)] : List (Nat × Value)) = [(1, .int (nI hn)), (2, .int 0), (3, .int (nI 0)), (0, .ref xo)] := by
      have z_511 : (0 : Int32) = nI 0 := (by first | rfl | exact congrArg nI (by omega) | exact congrArg nI (by simp only [zS]; omega) | exact congrArg nI (by simp only [zS]; split <;> omega) | exact congrArg nI (by simp only [zS]; split <;> split <;> omega) | (simp only [zS]; omega) | (simp only [zS]; split <;> omega))
      first | rfl | rw [z_511] | rw [← z_511] | simp only [z_511]
    have hl : lv_has ls 4 [(1, .int (nI hn)), (2, .int 0), (3, .int (nI 0)), (0, .ref xo)] := by rw [← hv9]; exact hl
    refine z_loop (fun (q7 : Nat) (_ : Unit) (H : Heap) (locs : List Loc) (ls : Array Slot) => va_P D vwCl [(xo, .inr (6, [.ref xg, .int gc, .ref xp, .int pc, .ref xq, .int qc, .ref r1, .ref r2, .ref r3, .ref r4, .ref se, .int ts, .int (nI (ho + q7)), .int dr, .int su, .int br])), (xp, .inl (cp, 4, .inr (.inr (.inr (.inr (zq [some b0, some b1, some b2, none])))))), (xq, .inl (cq, 16, .inr (.inr (.inr (.inr (zq [none, none, none, none, none, none, none, none, none, none, none, none, none, none, none, none])))))), (b0, .inr (2, [.ref gx0, .int (nI pm0), .int (nI (zS pm0 pe0 q7)), .int (nI (ps0 + ((pa0 + q7) / 50 - pa0 / 50))), .int (nI (pa0 + q7))])), (b1, .inr (2, [.ref gx1, .int (nI pm1), .int (nI (zS pm1 pe1 q7)), .int (nI (ps1 + ((pa1 + q7) / 50 - pa1 / 50))), .int (nI (pa1 + q7))])), (b2, .inr (2, [.ref gx2, .int (nI pm2), .int (nI (zS pm2 pe2 q7)), .int (nI (ps2 + ((pa2 + q7) / 50 - pa2 / 50))), .int (nI (pa2 + q7))])), (r1, .inr (4, [.int 0, .int p1])), (r2, .inr (4, [.int 0, .int p2])), (r3, .inr (4, [.int 0, .int p3])), (r4, .inr (4, [.int 0, .int p4]))] H ∧ va_D A [(xo, .inr (6, [.ref xg, .int gc, .ref xp, .int pc, .ref xq, .int qc, .ref r1, .ref r2, .ref r3, .ref r4, .ref se, .int ts, .int (nI (ho + q7)), .int dr, .int su, .int br])), (xp, .inl (cp, 4, .inr (.inr (.inr (.inr (zq [some b0, some b1, some b2, none])))))), (xq, .inl (cq, 16, .inr (.inr (.inr (.inr (zq [none, none, none, none, none, none, none, none, none, none, none, none, none, none, none, none])))))), (b0, .inr (2, [.ref gx0, .int (nI pm0), .int (nI (zS pm0 pe0 q7)), .int (nI (ps0 + ((pa0 + q7) / 50 - pa0 / 50))), .int (nI (pa0 + q7))])), (b1, .inr (2, [.ref gx1, .int (nI pm1), .int (nI (zS pm1 pe1 q7)), .int (nI (ps1 + ((pa1 + q7) / 50 - pa1 / 50))), .int (nI (pa1 + q7))])), (b2, .inr (2, [.ref gx2, .int (nI pm2), .int (nI (zS pm2 pe2 q7)), .int (nI (ps2 + ((pa2 + q7) / 50 - pa2 / 50))), .int (nI (pa2 + q7))])), (r1, .inr (4, [.int 0, .int p1])), (r2, .inr (4, [.int 0, .int p2])), (r3, .inr (4, [.int 0, .int p3])), (r4, .inr (4, [.int 0, .int p4]))] ∧ va_S A s.heap H locs ∧ lv_has ls 4 [(1, .int (nI hn)), (2, .int 0), (3, .int (nI q7)), (0, .ref xo)]) (fun (q7 : Nat) (H : Heap) (locs : List Loc) (ls : Array Slot) => W p l e _ s m _ below meth c H locs (0) (0) _ (F0 m 16 ls [])) (hn) ?_ ?_ (hn) 0 (by omega) () H _ ls ⟨hP, hD, hS, hl⟩
    · intro q7 hk ih hv H locs ls hp
      obtain ⟨hP, hD, hS, hl⟩ := hp
      refine lv_iload_n hx hb dX6_hours_16 rfl (lv_at hl 2 rfl) ?_
      refine lv_iload_n hx hb dX6_hours_17 rfl (lv_at hl 0 rfl) ?_
      refine lv_icmp_ge (tgt := 34) hx hb dX6_hours_18 (by decide) (fun cc => absurd cc (nI_ge hk (by omega))) (fun _ => ?_)
      refine lv_iload_n hx hb dX6_hours_21 rfl (lv_at hl 1 rfl) ?_
      refine lv_aload_n hx hb dX6_hours_22 rfl (lv_at hl 3 rfl) ?_
      have hFc := va_free (wc := [(xo, .inr (6, [.ref xg, .int gc, .ref xp, .int pc, .ref xq, .int qc, .ref r1, .ref r2, .ref r3, .ref r4, .ref se, .int ts, .int (nI (ho + q7)), .int dr, .int su, .int br])), (xp, .inl (cp, 4, .inr (.inr (.inr (.inr (zq [some b0, some b1, some b2, none])))))), (xq, .inl (cq, 16, .inr (.inr (.inr (.inr (zq [none, none, none, none, none, none, none, none, none, none, none, none, none, none, none, none])))))), (b0, .inr (2, [.ref gx0, .int (nI pm0), .int (nI (zS pm0 pe0 q7)), .int (nI (ps0 + ((pa0 + q7) / 50 - pa0 / 50))), .int (nI (pa0 + q7))])), (b1, .inr (2, [.ref gx1, .int (nI pm1), .int (nI (zS pm1 pe1 q7)), .int (nI (ps1 + ((pa1 + q7) / 50 - pa1 / 50))), .int (nI (pa1 + q7))])), (b2, .inr (2, [.ref gx2, .int (nI pm2), .int (nI (zS pm2 pe2 q7)), .int (nI (ps2 + ((pa2 + q7) / 50 - pa2 / 50))), .int (nI (pa2 + q7))]))]) hD hS hA [0, 1, 2, 3, 4, 5] rfl
      refine va_calli (va_runV (As := []) (rest := [.int 0]) ⟨hx, hb, hml, hown, hts⟩ (zc_X6_passHour_3 l D G xo xg gc xp pc xq qc r1 r2 r3 r4 se ts (ho + q7) dr su br cp b0 b1 b2 cq gx0 pm0 (zS pm0 pe0 q7) (ps0 + ((pa0 + q7) / 50 - pa0 / 50)) (pa0 + q7) gx1 pm1 (zS pm1 pe1 q7) (ps1 + ((pa1 + q7) / 50 - pa1 / 50)) (pa1 + q7) gx2 pm2 (zS pm2 pe2 q7) (ps2 + ((pa2 + q7) / 50 - pa2 / 50)) (pa2 + q7) H.size (by first | assumption | rfl | omega | exact Nat.le_trans (zS_le _ _ _) (by omega) | decide) (by first | assumption | rfl | omega | exact Nat.le_trans (zS_le _ _ _) (by omega) | decide) (by first | assumption | rfl | omega | exact Nat.le_trans (zS_le _ _ _) (by omega) | decide) (by first | assumption | rfl | omega | exact Nat.le_trans (zS_le _ _ _) (by omega) | decide) (by first | assumption | rfl | omega | exact Nat.le_trans (zS_le _ _ _) (by omega) | decide) (by first | assumption | rfl | omega | exact Nat.le_trans (zS_le _ _ _) (by omega) | decide) (by first | assumption | rfl | omega | exact Nat.le_trans (zS_le _ _ _) (by omega) | decide) (by first | assumption | rfl | omega | exact Nat.le_trans (zS_le _ _ _) (by omega) | decide) (by first | assumption | rfl | omega | exact Nat.le_trans (zS_le _ _ _) (by omega) | decide) (by first | assumption | rfl | omega | exact Nat.le_trans (zS_le _ _ _) (by omega) | decide) (by first | assumption | rfl | omega | exact Nat.le_trans (zS_le _ _ _) (by omega) | decide) (by first | assumption | rfl | omega | exact Nat.le_trans (zS_le _ _ _) (by omega) | decide) (by first | assumption | rfl | omega | exact Nat.le_trans (zS_le _ _ _) (by omega) | decide)) (cwV 0 hts gzX6_hours_3_X6_passHour_3_126 rfl rfl rfl (by decide +kernel) ⟨(Nat.le_of_ble_eq_true rfl), (Nat.le_of_ble_eq_true rfl)⟩) ⟨p_RW_blind, va_recv hK hP (ci := 6) (q0 := 0) rfl rfl, (p_RW_at (tc := [(cp, .object "Gatherhouse$Pot"), (cq, .object "Gatherhouse$Piece")]) (wc := [(xo, .inr (6, [.ref xg, .int gc, .ref xp, .int pc, .ref xq, .int qc, .ref r1, .ref r2, .ref r3, .ref r4, .ref se, .int ts, .int (nI (ho + q7)), .int dr, .int su, .int br])), (xp, .inl (cp, 4, .inr (.inr (.inr (.inr (zq [some b0, some b1, some b2, none])))))), (xq, .inl (cq, 16, .inr (.inr (.inr (.inr (zq [none, none, none, none, none, none, none, none, none, none, none, none, none, none, none, none])))))), (b0, .inr (2, [.ref gx0, .int (nI pm0), .int (nI (zS pm0 pe0 q7)), .int (nI (ps0 + ((pa0 + q7) / 50 - pa0 / 50))), .int (nI (pa0 + q7))])), (b1, .inr (2, [.ref gx1, .int (nI pm1), .int (nI (zS pm1 pe1 q7)), .int (nI (ps1 + ((pa1 + q7) / 50 - pa1 / 50))), .int (nI (pa1 + q7))])), (b2, .inr (2, [.ref gx2, .int (nI pm2), .int (nI (zS pm2 pe2 q7)), .int (nI (ps2 + ((pa2 + q7) / 50 - pa2 / 50))), .int (nI (pa2 + q7))]))]) hP hK hD hS hA hT hZ [0, 1, 2, 3, 4, 5] [0, 1] rfl rfl (by decide) rfl [.ref xo])⟩ rfl rfl hl.1 rfl (lv_room (Nat.le_of_ble_eq_true rfl)) dX6_hours_23 ⟨(Nat.le_of_ble_eq_true rfl), (Nat.le_of_ble_eq_true rfl)⟩) hS (fun q _ h => hFc q h) hFc (fun r_512 u t H locs ht hvm w_513 hB hz1 hk1 hS => ?_)
      obtain ⟨hP, hD, hK⟩ := q_join (D := D) (wc := [(xo, .inr (6, [.ref xg, .int gc, .ref xp, .int pc, .ref xq, .int qc, .ref r1, .ref r2, .ref r3, .ref r4, .ref se, .int ts, .int (nI (ho + q7)), .int dr, .int su, .int br])), (xp, .inl (cp, 4, .inr (.inr (.inr (.inr (zq [some b0, some b1, some b2, none])))))), (xq, .inl (cq, 16, .inr (.inr (.inr (.inr (zq [none, none, none, none, none, none, none, none, none, none, none, none, none, none, none, none])))))), (b0, .inr (2, [.ref gx0, .int (nI pm0), .int (nI (zS pm0 pe0 q7)), .int (nI (ps0 + ((pa0 + q7) / 50 - pa0 / 50))), .int (nI (pa0 + q7))])), (b1, .inr (2, [.ref gx1, .int (nI pm1), .int (nI (zS pm1 pe1 q7)), .int (nI (ps1 + ((pa1 + q7) / 50 - pa1 / 50))), .int (nI (pa1 + q7))])), (b2, .inr (2, [.ref gx2, .int (nI pm2), .int (nI (zS pm2 pe2 q7)), .int (nI (ps2 + ((pa2 + q7) / 50 - pa2 / 50))), .int (nI (pa2 + q7))]))]) (wr := [(r1, .inr (4, [.int 0, .int p1])), (r2, .inr (4, [.int 0, .int p2])), (r3, .inr (4, [.int 0, .int p3])), (r4, .inr (4, [.int 0, .int p4]))]) (w1 := [(xo, .inr (6, [.ref xg, .int gc, .ref xp, .int pc, .ref xq, .int qc, .ref r1, .ref r2, .ref r3, .ref r4, .ref se, .int ts, .int (nI ((ho + q7) + 1)), .int dr, .int su, .int br])), (xp, .inl (cp, 4, .inr (.inr (.inr (.inr (zq [some b0, some b1, some b2, none])))))), (xq, .inl (cq, 16, .inr (.inr (.inr (.inr (zq [none, none, none, none, none, none, none, none, none, none, none, none, none, none, none, none])))))), (b0, .inr (2, [.ref gx0, .int (nI pm0), .int (nI (zS pm0 (zS pm0 pe0 q7) 1)), .int (nI ((ps0 + ((pa0 + q7) / 50 - pa0 / 50)) + (((pa0 + q7) + 1) / 50 - (pa0 + q7) / 50))), .int (nI ((pa0 + q7) + 1))])), (b1, .inr (2, [.ref gx1, .int (nI pm1), .int (nI (zS pm1 (zS pm1 pe1 q7) 1)), .int (nI ((ps1 + ((pa1 + q7) / 50 - pa1 / 50)) + (((pa1 + q7) + 1) / 50 - (pa1 + q7) / 50))), .int (nI ((pa1 + q7) + 1))])), (b2, .inr (2, [.ref gx2, .int (nI pm2), .int (nI (zS pm2 (zS pm2 pe2 q7) 1)), .int (nI ((ps2 + ((pa2 + q7) / 50 - pa2 / 50)) + (((pa2 + q7) + 1) / 50 - (pa2 + q7) / 50))), .int (nI ((pa2 + q7) + 1))]))]) (tyr := []) (ty1 := [(cp, .object "Gatherhouse$Pot"), (cq, .object "Gatherhouse$Piece")]) hP hD hK [0, 1, 2, 3, 4, 5] [6, 7, 8, 9] [] rfl rfl (by decide) (by decide) rfl hFc hk1 ht hvm hB
      have hP : va_P D vwCl [(r1, .inr (4, [.int 0, .int p1])), (r2, .inr (4, [.int 0, .int p2])), (r3, .inr (4, [.int 0, .int p3])), (r4, .inr (4, [.int 0, .int p4])), (xo, .inr (6, [.ref xg, .int gc, .ref xp, .int pc, .ref xq, .int qc, .ref r1, .ref r2, .ref r3, .ref r4, .ref se, .int ts, .int (nI ((ho + q7) + 1)), .int dr, .int su, .int br])), (xp, .inl (cp, 4, .inr (.inr (.inr (.inr (zq [some b0, some b1, some b2, none])))))), (xq, .inl (cq, 16, .inr (.inr (.inr (.inr (zq [none, none, none, none, none, none, none, none, none, none, none, none, none, none, none, none])))))), (b0, .inr (2, [.ref gx0, .int (nI pm0), .int (nI (zS pm0 (zS pm0 pe0 q7) 1)), .int (nI ((ps0 + ((pa0 + q7) / 50 - pa0 / 50)) + (((pa0 + q7) + 1) / 50 - (pa0 + q7) / 50))), .int (nI ((pa0 + q7) + 1))])), (b1, .inr (2, [.ref gx1, .int (nI pm1), .int (nI (zS pm1 (zS pm1 pe1 q7) 1)), .int (nI ((ps1 + ((pa1 + q7) / 50 - pa1 / 50)) + (((pa1 + q7) + 1) / 50 - (pa1 + q7) / 50))), .int (nI ((pa1 + q7) + 1))])), (b2, .inr (2, [.ref gx2, .int (nI pm2), .int (nI (zS pm2 (zS pm2 pe2 q7) 1)), .int (nI ((ps2 + ((pa2 + q7) / 50 - pa2 / 50)) + (((pa2 + q7) + 1) / 50 - (pa2 + q7) / 50))), .int (nI ((pa2 + q7) + 1))]))] H := hP
      have hD : va_D A [(r1, .inr (4, [.int 0, .int p1])), (r2, .inr (4, [.int 0, .int p2])), (r3, .inr (4, [.int 0, .int p3])), (r4, .inr (4, [.int 0, .int p4])), (xo, .inr (6, [.ref xg, .int gc, .ref xp, .int pc, .ref xq, .int qc, .ref r1, .ref r2, .ref r3, .ref r4, .ref se, .int ts, .int (nI ((ho + q7) + 1)), .int dr, .int su, .int br])), (xp, .inl (cp, 4, .inr (.inr (.inr (.inr (zq [some b0, some b1, some b2, none])))))), (xq, .inl (cq, 16, .inr (.inr (.inr (.inr (zq [none, none, none, none, none, none, none, none, none, none, none, none, none, none, none, none])))))), (b0, .inr (2, [.ref gx0, .int (nI pm0), .int (nI (zS pm0 (zS pm0 pe0 q7) 1)), .int (nI ((ps0 + ((pa0 + q7) / 50 - pa0 / 50)) + (((pa0 + q7) + 1) / 50 - (pa0 + q7) / 50))), .int (nI ((pa0 + q7) + 1))])), (b1, .inr (2, [.ref gx1, .int (nI pm1), .int (nI (zS pm1 (zS pm1 pe1 q7) 1)), .int (nI ((ps1 + ((pa1 + q7) / 50 - pa1 / 50)) + (((pa1 + q7) + 1) / 50 - (pa1 + q7) / 50))), .int (nI ((pa1 + q7) + 1))])), (b2, .inr (2, [.ref gx2, .int (nI pm2), .int (nI (zS pm2 (zS pm2 pe2 q7) 1)), .int (nI ((ps2 + ((pa2 + q7) / 50 - pa2 / 50)) + (((pa2 + q7) + 1) / 50 - (pa2 + q7) / 50))), .int (nI ((pa2 + q7) + 1))]))] := hD
      have hK : va_K D vwCl [(cp, .object "Gatherhouse$Pot"), (cq, .object "Gatherhouse$Piece")] s := hK
      obtain rfl := w_513
      refine lv_iadd hx hb dX6_hours_26 ?_
      refine lv_topi (fun y_514 ey_514 => ?_)
      have ey_514 : y_514 = 0 := ey_514.trans (by decide +kernel)
      subst ey_514
      refine lv_istore_n (lv' := [(2, .int 0), (1, .int (nI hn)), (3, .int (nI q7)), (0, .ref xo)]) hx hb dX6_hours_27 rfl hl (by decide) rfl (fun ls hl => ?_)
      refine lv_iinc (v := nI (q7 + 1)) (lv' := [(3, .int (nI (q7 + 1))), (2, .int 0), (1, .int (nI hn)), (0, .ref xo)]) hx hb dX6_hours_28 hl (k := 2) rfl (show nI q7 + Int32.ofInt 1 = nI (q7 + 1) from nI_1 q7) (by decide) rfl (fun ls hl => ?_)
      refine lv_goto (tgt := 16) hx hb dX6_hours_31 (by decide) ?_
      have hP := hP.sub (ws' := [(xo, .inr (6, [.ref xg, .int gc, .ref xp, .int pc, .ref xq, .int qc, .ref r1, .ref r2, .ref r3, .ref r4, .ref se, .int ts, .int (nI ((ho + q7) + 1)), .int dr, .int su, .int br])), (xp, .inl (cp, 4, .inr (.inr (.inr (.inr (zq [some b0, some b1, some b2, none])))))), (xq, .inl (cq, 16, .inr (.inr (.inr (.inr (zq [none, none, none, none, none, none, none, none, none, none, none, none, none, none, none, none])))))), (b0, .inr (2, [.ref gx0, .int (nI pm0), .int (nI (zS pm0 (zS pm0 pe0 q7) 1)), .int (nI ((ps0 + ((pa0 + q7) / 50 - pa0 / 50)) + (((pa0 + q7) + 1) / 50 - (pa0 + q7) / 50))), .int (nI ((pa0 + q7) + 1))])), (b1, .inr (2, [.ref gx1, .int (nI pm1), .int (nI (zS pm1 (zS pm1 pe1 q7) 1)), .int (nI ((ps1 + ((pa1 + q7) / 50 - pa1 / 50)) + (((pa1 + q7) + 1) / 50 - (pa1 + q7) / 50))), .int (nI ((pa1 + q7) + 1))])), (b2, .inr (2, [.ref gx2, .int (nI pm2), .int (nI (zS pm2 (zS pm2 pe2 q7) 1)), .int (nI ((ps2 + ((pa2 + q7) / 50 - pa2 / 50)) + (((pa2 + q7) + 1) / 50 - (pa2 + q7) / 50))), .int (nI ((pa2 + q7) + 1))])), (r1, .inr (4, [.int 0, .int p1])), (r2, .inr (4, [.int 0, .int p2])), (r3, .inr (4, [.int 0, .int p3])), (r4, .inr (4, [.int 0, .int p4]))]) [4, 5, 6, 7, 8, 9, 0, 1, 2, 3] rfl
      have hD := hD.sub (ws' := [(xo, .inr (6, [.ref xg, .int gc, .ref xp, .int pc, .ref xq, .int qc, .ref r1, .ref r2, .ref r3, .ref r4, .ref se, .int ts, .int (nI ((ho + q7) + 1)), .int dr, .int su, .int br])), (xp, .inl (cp, 4, .inr (.inr (.inr (.inr (zq [some b0, some b1, some b2, none])))))), (xq, .inl (cq, 16, .inr (.inr (.inr (.inr (zq [none, none, none, none, none, none, none, none, none, none, none, none, none, none, none, none])))))), (b0, .inr (2, [.ref gx0, .int (nI pm0), .int (nI (zS pm0 (zS pm0 pe0 q7) 1)), .int (nI ((ps0 + ((pa0 + q7) / 50 - pa0 / 50)) + (((pa0 + q7) + 1) / 50 - (pa0 + q7) / 50))), .int (nI ((pa0 + q7) + 1))])), (b1, .inr (2, [.ref gx1, .int (nI pm1), .int (nI (zS pm1 (zS pm1 pe1 q7) 1)), .int (nI ((ps1 + ((pa1 + q7) / 50 - pa1 / 50)) + (((pa1 + q7) + 1) / 50 - (pa1 + q7) / 50))), .int (nI ((pa1 + q7) + 1))])), (b2, .inr (2, [.ref gx2, .int (nI pm2), .int (nI (zS pm2 (zS pm2 pe2 q7) 1)), .int (nI ((ps2 + ((pa2 + q7) / 50 - pa2 / 50)) + (((pa2 + q7) + 1) / 50 - (pa2 + q7) / 50))), .int (nI ((pa2 + q7) + 1))])), (r1, .inr (4, [.int 0, .int p1])), (r2, .inr (4, [.int 0, .int p2])), (r3, .inr (4, [.int 0, .int p3])), (r4, .inr (4, [.int 0, .int p4]))]) [4, 5, 6, 7, 8, 9, 0, 1, 2, 3] (by decide) rfl
      have hw9 : ([(xo, .inr (6, [.ref xg, .int gc, .ref xp, .int pc, .ref xq, .int qc, .ref r1, .ref r2, .ref r3, .ref r4, .ref se, .int ts, .int (nI ((ho + q7) + 1)), .int dr, .int su, .int br])), (xp, .inl (cp, 4, .inr (.inr (.inr (.inr (zq [some b0, some b1, some b2, none])))))), (xq, .inl (cq, 16, .inr (.inr (.inr (.inr (zq [none, none, none, none, none, none, none, none, none, none, none, none, none, none, none, none])))))), (b0, .inr (2, [.ref gx0, .int (nI pm0), .int (nI (zS pm0 (zS pm0 pe0 q7) 1)), .int (nI ((ps0 + ((pa0 + q7) / 50 - pa0 / 50)) + (((pa0 + q7) + 1) / 50 - (pa0 + q7) / 50))), .int (nI ((pa0 + q7) + 1))])), (b1, .inr (2, [.ref gx1, .int (nI pm1), .int (nI (zS pm1 (zS pm1 pe1 q7) 1)), .int (nI ((ps1 + ((pa1 + q7) / 50 - pa1 / 50)) + (((pa1 + q7) + 1) / 50 - (pa1 + q7) / 50))), .int (nI ((pa1 + q7) + 1))])), (b2, .inr (2, [.ref gx2, .int (nI pm2), .int (nI (zS pm2 (zS pm2 pe2 q7) 1)), .int (nI ((ps2 + ((pa2 + q7) / 50 - pa2 / 50)) + (((pa2 + q7) + 1) / 50 - (pa2 + q7) / 50))), .int (nI ((pa2 + q7) + 1))])), (r1, .inr (4, [.int 0, .int p1])), (r2, .inr (4, [.int 0, .int p2])), (r3, .inr (4, [.int 0, .int p3])), (r4, .inr (4, [.int 0, .int p4]))] : va_W) = [(xo, .inr (6, [.ref xg, .int gc, .ref xp, .int pc, .ref xq, .int qc, .ref r1, .ref r2, .ref r3, .ref r4, .ref se, .int ts, .int (nI (ho + (q7 + 1))), .int dr, .int su, .int br])), (xp, .inl (cp, 4, .inr (.inr (.inr (.inr (zq [some b0, some b1, some b2, none])))))), (xq, .inl (cq, 16, .inr (.inr (.inr (.inr (zq [none, none, none, none, none, none, none, none, none, none, none, none, none, none, none, none])))))), (b0, .inr (2, [.ref gx0, .int (nI pm0), .int (nI (zS pm0 pe0 (q7 + 1))), .int (nI (ps0 + ((pa0 + (q7 + 1)) / 50 - pa0 / 50))), .int (nI (pa0 + (q7 + 1)))])), (b1, .inr (2, [.ref gx1, .int (nI pm1), .int (nI (zS pm1 pe1 (q7 + 1))), .int (nI (ps1 + ((pa1 + (q7 + 1)) / 50 - pa1 / 50))), .int (nI (pa1 + (q7 + 1)))])), (b2, .inr (2, [.ref gx2, .int (nI pm2), .int (nI (zS pm2 pe2 (q7 + 1))), .int (nI (ps2 + ((pa2 + (q7 + 1)) / 50 - pa2 / 50))), .int (nI (pa2 + (q7 + 1)))])), (r1, .inr (4, [.int 0, .int p1])), (r2, .inr (4, [.int 0, .int p2])), (r3, .inr (4, [.int 0, .int p3])), (r4, .inr (4, [.int 0, .int p4]))] := by
        have z_515 : (nI ((ho + q7) + 1) : Int32) = nI (ho + (q7 + 1)) := (by first | rfl | exact congrArg nI (by omega) | exact congrArg nI (by simp only [zS]; omega) | exact congrArg nI (by simp only [zS]; split <;> omega) | exact congrArg nI (by simp only [zS]; split <;> split <;> omega) | (simp only [zS]; omega) | (simp only [zS]; split <;> omega))
        have z_516 : (nI (zS pm0 (zS pm0 pe0 q7) 1) : Int32) = nI (zS pm0 pe0 (q7 + 1)) := (by first | rfl | exact congrArg nI (by omega) | exact congrArg nI (by simp only [zS]; omega) | exact congrArg nI (by simp only [zS]; split <;> omega) | exact congrArg nI (by simp only [zS]; split <;> split <;> omega) | (simp only [zS]; omega) | (simp only [zS]; split <;> omega))
        have z_517 : (nI ((ps0 + ((pa0 + q7) / 50 - pa0 / 50)) + (((pa0 + q7) + 1) / 50 - (pa0 + q7) / 50)) : Int32) = nI (ps0 + ((pa0 + (q7 + 1)) / 50 - pa0 / 50)) := (by first | rfl | exact congrArg nI (by omega) | exact congrArg nI (by simp only [zS]; omega) | exact congrArg nI (by simp only [zS]; split <;> omega) | exact congrArg nI (by simp only [zS]; split <;> split <;> omega) | (simp only [zS]; omega) | (simp only [zS]; split <;> omega))
        have z_518 : (nI ((pa0 + q7) + 1) : Int32) = nI (pa0 + (q7 + 1)) := (by first | rfl | exact congrArg nI (by omega) | exact congrArg nI (by simp only [zS]; omega) | exact congrArg nI (by simp only [zS]; split <;> omega) | exact congrArg nI (by simp only [zS]; split <;> split <;> omega) | (simp only [zS]; omega) | (simp only [zS]; split <;> omega))
        have z_519 : (nI (zS pm1 (zS pm1 pe1 q7) 1) : Int32) = nI (zS pm1 pe1 (q7 + 1)) := (by first | rfl | exact congrArg nI (by omega) | exact congrArg nI (by simp only [zS]; omega) | exact congrArg nI (by simp only [zS]; split <;> omega) | exact congrArg nI (by simp only [zS]; split <;> split <;> omega) | (simp only [zS]; omega) | (simp only [zS]; split <;> omega))
        have z_520 : (nI ((ps1 + ((pa1 + q7) / 50 - pa1 / 50)) + (((pa1 + q7) + 1) / 50 - (pa1 + q7) / 50)) : Int32) = nI (ps1 + ((pa1 + (q7 + 1)) / 50 - pa1 / 50)) := (by first | rfl | exact congrArg nI (by omega) | exact congrArg nI (by simp only [zS]; omega) | exact congrArg nI (by simp only [zS]; split <;> omega) | exact congrArg nI (by simp only [zS]; split <;> split <;> omega) | (simp only [zS]; omega) | (simp only [zS]; split <;> omega))
        have z_521 : (nI ((pa1 + q7) + 1) : Int32) = nI (pa1 + (q7 + 1)) := (by first | rfl | exact congrArg nI (by omega) | exact congrArg nI (by simp only [zS]; omega) | exact congrArg nI (by simp only [zS]; split <;> omega) | exact congrArg nI (by simp only [zS]; split <;> split <;> omega) | (simp only [zS]; omega) | (simp only [zS]; split <;> omega))
        have z_522 : (nI (zS pm2 (zS pm2 pe2 q7) 1) : Int32) = nI (zS pm2 pe2 (q7 + 1)) := (by first | rfl | exact congrArg nI (by omega) | exact congrArg nI (by simp only [zS]; omega) | exact congrArg nI (by simp only [zS]; split <;> omega) | exact congrArg nI (by simp only [zS]; split <;> split <;> omega) | (simp only [zS]; omega) | (simp only [zS]; split <;> omega))
        have z_523 : (nI ((ps2 + ((pa2 + q7) / 50 - pa2 / 50)) + (((pa2 + q7) + 1) / 50 - (pa2 + q7) / 50)) : Int32) = nI (ps2 + ((pa2 + (q7 + 1)) / 50 - pa2 / 50)) := (by first | rfl | exact congrArg nI (by omega) | exact congrArg nI (by simp only [zS]; omega) | exact congrArg nI (by simp only [zS]; split <;> omega) | exact congrArg nI (by simp only [zS]; split <;> split <;> omega) | (simp only [zS]; omega) | (simp only [zS]; split <;> omega))
        have z_524 : (nI ((pa2 + q7) + 1) : Int32) = nI (pa2 + (q7 + 1)) := (by first | rfl | exact congrArg nI (by omega) | exact congrArg nI (by simp only [zS]; omega) | exact congrArg nI (by simp only [zS]; split <;> omega) | exact congrArg nI (by simp only [zS]; split <;> split <;> omega) | (simp only [zS]; omega) | (simp only [zS]; split <;> omega))
        first | rfl | rw [z_515, z_516, z_517, z_518, z_519, z_520, z_521, z_522, z_523, z_524] | rw [← z_515, ← z_516, ← z_517, ← z_518, ← z_519, ← z_520, ← z_521, ← z_522, ← z_523, ← z_524] | simp only [z_515, z_516, z_517, z_518, z_519, z_520, z_521, z_522, z_523, z_524]
      have hP : va_P D vwCl [(xo, .inr (6, [.ref xg, .int gc, .ref xp, .int pc, .ref xq, .int qc, .ref r1, .ref r2, .ref r3, .ref r4, .ref se, .int ts, .int (nI (ho + (q7 + 1))), .int dr, .int su, .int br])), (xp, .inl (cp, 4, .inr (.inr (.inr (.inr (zq [some b0, some b1, some b2, none])))))), (xq, .inl (cq, 16, .inr (.inr (.inr (.inr (zq [none, none, none, none, none, none, none, none, none, none, none, none, none, none, none, none])))))), (b0, .inr (2, [.ref gx0, .int (nI pm0), .int (nI (zS pm0 pe0 (q7 + 1))), .int (nI (ps0 + ((pa0 + (q7 + 1)) / 50 - pa0 / 50))), .int (nI (pa0 + (q7 + 1)))])), (b1, .inr (2, [.ref gx1, .int (nI pm1), .int (nI (zS pm1 pe1 (q7 + 1))), .int (nI (ps1 + ((pa1 + (q7 + 1)) / 50 - pa1 / 50))), .int (nI (pa1 + (q7 + 1)))])), (b2, .inr (2, [.ref gx2, .int (nI pm2), .int (nI (zS pm2 pe2 (q7 + 1))), .int (nI (ps2 + ((pa2 + (q7 + 1)) / 50 - pa2 / 50))), .int (nI (pa2 + (q7 + 1)))])), (r1, .inr (4, [.int 0, .int p1])), (r2, .inr (4, [.int 0, .int p2])), (r3, .inr (4, [.int 0, .int p3])), (r4, .inr (4, [.int 0, .int p4]))] H := by rw [← hw9]; exact hP
      have hD : va_D A [(xo, .inr (6, [.ref xg, .int gc, .ref xp, .int pc, .ref xq, .int qc, .ref r1, .ref r2, .ref r3, .ref r4, .ref se, .int ts, .int (nI (ho + (q7 + 1))), .int dr, .int su, .int br])), (xp, .inl (cp, 4, .inr (.inr (.inr (.inr (zq [some b0, some b1, some b2, none])))))), (xq, .inl (cq, 16, .inr (.inr (.inr (.inr (zq [none, none, none, none, none, none, none, none, none, none, none, none, none, none, none, none])))))), (b0, .inr (2, [.ref gx0, .int (nI pm0), .int (nI (zS pm0 pe0 (q7 + 1))), .int (nI (ps0 + ((pa0 + (q7 + 1)) / 50 - pa0 / 50))), .int (nI (pa0 + (q7 + 1)))])), (b1, .inr (2, [.ref gx1, .int (nI pm1), .int (nI (zS pm1 pe1 (q7 + 1))), .int (nI (ps1 + ((pa1 + (q7 + 1)) / 50 - pa1 / 50))), .int (nI (pa1 + (q7 + 1)))])), (b2, .inr (2, [.ref gx2, .int (nI pm2), .int (nI (zS pm2 pe2 (q7 + 1))), .int (nI (ps2 + ((pa2 + (q7 + 1)) / 50 - pa2 / 50))), .int (nI (pa2 + (q7 + 1)))])), (r1, .inr (4, [.int 0, .int p1])), (r2, .inr (4, [.int 0, .int p2])), (r3, .inr (4, [.int 0, .int p3])), (r4, .inr (4, [.int 0, .int p4]))] := by rw [← hw9]; exact hD
      have hl : lv_has ls 4 [(1, .int (nI hn)), (2, .int 0), (3, .int (nI (q7 + 1))), (0, .ref xo)] := lv_sub hl [2, 1, 0, 3] rfl
      exact ih () _ _ _ ⟨hP, hD, hS, hl⟩
    · intro hv H locs ls hp
      obtain ⟨hP, hD, hS, hl⟩ := hp
      refine lv_iload_n hx hb dX6_hours_16 rfl (lv_at hl 2 rfl) ?_
      refine lv_iload_n hx hb dX6_hours_17 rfl (lv_at hl 0 rfl) ?_
      refine lv_icmp_ge (tgt := 34) hx hb dX6_hours_18 (by decide) (fun _ => ?_) (fun cc => absurd (nI_le (Nat.le_refl _) (by omega)) cc)
      refine lv_iload_n hx hb dX6_hours_34 rfl (lv_at hl 1 rfl) ?_
      refine vx_ret ?_
      exact W.iret (v := 0) hx hb hr (fun t ht hW => ⟨⟨0, (), rfl, rfl, q_RW_mk hP hK hD [0, 1, 2, 3, 4, 5, 6, 7, 8, 9] [0, 1] rfl rfl (by decide) rfl ht hW.alike⟩, hS.F ht⟩) hS.2.2 dX6_hours_35
def wzEX6_hours_2 : List Cond := [.code yX6_hours cX6_hours 4 (some .int), .methodLink RX6 75 yX6_checkRange, .static yX6_checkRange, .initialized RX6, .code yX6_checkRange cX6_checkRange 3 none, .methodLink RX6 123 yX6_checkTeamRests, .instanceMethod yX6_checkTeamRests, .selects RX6 yX6_checkTeamRests yX6_checkTeamRests, .code yX6_checkTeamRests cX6_checkTeamRests 1 none, .methodLink RX6 274 yX6_countOf, .instanceMethod yX6_countOf, .selects RX6 yX6_countOf yX6_countOf, .code yX6_countOf cX6_countOf 7 (some .int), .fieldLink RX6 30 "Gatherhouse" "pieces" "[LGatherhouse$Piece;", .fieldLink RX6 40 "Gatherhouse" "gatherer" "LGatherhouse$Role;", .code yX4_isBusy cX4_isBusy 1 (some .boolean), .fieldLink RX4 7 "Gatherhouse$Role" "busy" "I", .initialized RX4, .instanceMethod yX4_isBusy, .selects RX4 yX4_isBusy yX4_isBusy, .fieldLink RX6 44 "Gatherhouse" "servitor" "LGatherhouse$Role;", .fieldLink RX6 47 "Gatherhouse" "gaffer" "LGatherhouse$Role;", .fieldLink RX6 50 "Gatherhouse" "boy" "LGatherhouse$Role;", .methodLink RX6 126 yX6_passHour, .instanceMethod yX6_passHour, .selects RX6 yX6_passHour yX6_passHour, .code yX6_passHour cX6_passHour 7 (some .int), .fieldLink RX6 63 "Gatherhouse" "hoursGone" "I", .fieldLink RX6 21 "Gatherhouse" "pots" "[LGatherhouse$Pot;", .code yX2_passHour cX2_passHour 1 none, .fieldLink RX2 9 "Gatherhouse$Pot" "mass" "I", .fieldLink RX2 21 "Gatherhouse$Pot" "age" "I", .fieldLink RX2 18 "Gatherhouse$Pot" "stones" "I", .fieldLink RX2 15 "Gatherhouse$Pot" "seeds" "I", .methodLink RX2 28 Lib.Math.max.name, .static Lib.Math.max.name, .initialized "java/lang/Math", .code Lib.Math.max.name Lib.Math.max.code 2 (some .int), .initialized RX2, .instanceMethod yX2_passHour, .selects RX2 yX2_passHour yX2_passHour, .methodLink RX6 405 yX6_endDay, .instanceMethod yX6_endDay, .selects RX6 yX6_endDay yX6_endDay, .code yX6_endDay cX6_endDay 6 none]
def wzX6_hours_2 : List Cond := wzEX6_hours_2 ++ (u_ws RX6 TX6 16 ++ (u_ws RX4 TX4 2 ++ (u_ws RX2 TX2 5)))
theorem zgEX6_hours_2 : wzEX6_hours_2.all goodWord = true := by decide +kernel
theorem zuX6_hours_2_X6 : ∀ w ∈ u_ws RX6 TX6 16, w ∈ wzX6_hours_2 := (fun _ h => (List.mem_append_right _ (List.mem_append_left _ h)))
theorem zuX6_hours_2_X4 : ∀ w ∈ u_ws RX4 TX4 2, w ∈ wzX6_hours_2 := (fun _ h => (List.mem_append_right _ (List.mem_append_right _ (List.mem_append_left _ h))))
theorem zuX6_hours_2_X2 : ∀ w ∈ u_ws RX2 TX2 5, w ∈ wzX6_hours_2 := (fun _ h => (List.mem_append_right _ (List.mem_append_right _ (List.mem_append_right _ h))))
theorem gzX6_hours_2_X6_checkRange_ok_75 : GoodIn wzX6_hours_2 (va_wsS RX6 75 yX6_checkRange wzX6_checkRange_ok) := (goodIn_app (z_lift (goodIn_r _ [1, 2, 3] rfl (by decide +kernel))) (goodIn_app (z_lift (goodIn_r wzEX6_checkRange_ok [4] rfl zgEX6_checkRange_ok)) z_gnil))
theorem gzX6_hours_2_X6_checkTeamRests_123 : GoodIn wzX6_hours_2 (wsV RX6 123 RX6 yX6_checkTeamRests wzX6_checkTeamRests) := (goodIn_app (z_lift (goodIn_r _ [5, 6, 7, 3] rfl (by decide +kernel))) (goodIn_app (z_lift (goodIn_r wzEX6_checkTeamRests [8, 9, 10, 11, 3, 12, 13, 14, 15, 16, 17, 18, 19, 20, 21, 22] rfl zgEX6_checkTeamRests)) (goodIn_app (goodIn_sub (fun _ h => (List.mem_append_right _ (List.mem_append_left _ h))) zgU_X6) (goodIn_sub (fun _ h => (List.mem_append_right _ (List.mem_append_right _ (List.mem_append_left _ h)))) zgU_X4))))
theorem gzX6_hours_2_X6_passHour_2_126 : GoodIn wzX6_hours_2 (wsV RX6 126 RX6 yX6_passHour wzX6_passHour_2) := (goodIn_app (z_lift (goodIn_r _ [23, 24, 25, 3] rfl (by decide +kernel))) (goodIn_app (z_lift (goodIn_r wzEX6_passHour_2 [26, 27, 28, 29, 30, 31, 32, 33, 34, 35, 36, 37, 38, 39, 40, 13, 41, 42, 43, 3, 44] rfl zgEX6_passHour_2)) (goodIn_app (goodIn_sub (fun _ h => (List.mem_append_right _ (List.mem_append_left _ h))) zgU_X6) (goodIn_sub (fun _ h => (List.mem_append_right _ (List.mem_append_right _ (List.mem_append_right _ h)))) zgU_X2))))
set_option maxHeartbeats 4000000 in
set_option maxRecDepth 100000 in
theorem zc_X6_hours_2 (l : Launch) (hnt : l.stackTraces = false) (D : va_G) (G : Nat × Nat × (Nat → Int32)) (xo : Nat) (xg : Nat) (gc : Int32) (xp : Nat) (pc : Int32) (xq : Nat) (qc : Int32) (r1 : Nat) (r2 : Nat) (r3 : Nat) (r4 : Nat) (se : Nat) (ts : Int32) (dr : Int32) (su : Int32) (br : Int32) (cp : ClassId) (b0 : Nat) (b1 : Nat) (cq : ClassId) (gx0 : Nat) (gx1 : Nat) (p1 : Int32) (p2 : Int32) (p3 : Int32) (p4 : Int32) (sz : Nat) : vx_Met l yX6_hours wzX6_hours_2 ({ frames := 3, cells := 0, slots := 0, locals := 68 }) (va_Pc [.ref xo, .int 10] (p_RW D G [(cp, .object "Gatherhouse$Pot"), (cq, .object "Gatherhouse$Piece")] [(xo, .inr (6, [.ref xg, .int gc, .ref xp, .int pc, .ref xq, .int qc, .ref r1, .ref r2, .ref r3, .ref r4, .ref se, .int ts, .int 0, .int dr, .int su, .int br])), (xp, .inl (cp, 4, .inr (.inr (.inr (.inr (zq [some b0, some b1, none, none])))))), (xq, .inl (cq, 16, .inr (.inr (.inr (.inr (zq [none, none, none, none, none, none, none, none, none, none, none, none, none, none, none, none])))))), (b0, .inr (2, [.ref gx0, .int 99, .int 30, .int 0, .int 0])), (b1, .inr (2, [.ref gx1, .int 99, .int 30, .int 0, .int 0])), (r1, .inr (4, [.int 0, .int p1])), (r2, .inr (4, [.int 0, .int p2])), (r3, .inr (4, [.int 0, .int p3])), (r4, .inr (4, [.int 0, .int p4]))] sz)) (va_Qi (fun (r : Int32) (u : Unit) => r = 0) (fun (u : Unit) (t : State) => q_RW D [(cp, .object "Gatherhouse$Pot"), (cq, .object "Gatherhouse$Piece")] [(xo, .inr (6, [.ref xg, .int gc, .ref xp, .int pc, .ref xq, .int qc, .ref r1, .ref r2, .ref r3, .ref r4, .ref se, .int ts, .int 10, .int dr, .int su, .int br])), (xp, .inl (cp, 4, .inr (.inr (.inr (.inr (zq [some b0, some b1, none, none])))))), (xq, .inl (cq, 16, .inr (.inr (.inr (.inr (zq [none, none, none, none, none, none, none, none, none, none, none, none, none, none, none, none])))))), (b0, .inr (2, [.ref gx0, .int 99, .int 10, .int 0, .int 10])), (b1, .inr (2, [.ref gx1, .int 99, .int 10, .int 0, .int 10])), (r1, .inr (4, [.int 0, .int p1])), (r2, .inr (4, [.int 0, .int p2])), (r3, .inr (4, [.int 0, .int p3])), (r4, .inr (4, [.int 0, .int p4]))] (va_A [(xo, .inr (6, [.ref xg, .int gc, .ref xp, .int pc, .ref xq, .int qc, .ref r1, .ref r2, .ref r3, .ref r4, .ref se, .int ts, .int 0, .int dr, .int su, .int br])), (xp, .inl (cp, 4, .inr (.inr (.inr (.inr (zq [some b0, some b1, none, none])))))), (xq, .inl (cq, 16, .inr (.inr (.inr (.inr (zq [none, none, none, none, none, none, none, none, none, none, none, none, none, none, none, none])))))), (b0, .inr (2, [.ref gx0, .int 99, .int 30, .int 0, .int 0])), (b1, .inr (2, [.ref gx1, .int 99, .int 30, .int 0, .int 0])), (r1, .inr (4, [.int 0, .int p1])), (r2, .inr (4, [.int 0, .int p2])), (r3, .inr (4, [.int 0, .int p3])), (r4, .inr (4, [.int 0, .int p4]))] sz) t) (va_A [(xo, .inr (6, [.ref xg, .int gc, .ref xp, .int pc, .ref xq, .int qc, .ref r1, .ref r2, .ref r3, .ref r4, .ref se, .int ts, .int 0, .int dr, .int su, .int br])), (xp, .inl (cp, 4, .inr (.inr (.inr (.inr (zq [some b0, some b1, none, none])))))), (xq, .inl (cq, 16, .inr (.inr (.inr (.inr (zq [none, none, none, none, none, none, none, none, none, none, none, none, none, none, none, none])))))), (b0, .inr (2, [.ref gx0, .int 99, .int 30, .int 0, .int 0])), (b1, .inr (2, [.ref gx1, .int 99, .int 30, .int 0, .int 0])), (r1, .inr (4, [.int 0, .int p1])), (r2, .inr (4, [.int 0, .int p2])), (r3, .inr (4, [.int 0, .int p3])), (r4, .inr (4, [.int 0, .int p4]))] sz)) (vx_X (fun (_ : Unit) => True) (fun E (_ : Unit) (_ : State) => False) (va_A [(xo, .inr (6, [.ref xg, .int gc, .ref xp, .int pc, .ref xq, .int qc, .ref r1, .ref r2, .ref r3, .ref r4, .ref se, .int ts, .int 0, .int dr, .int su, .int br])), (xp, .inl (cp, 4, .inr (.inr (.inr (.inr (zq [some b0, some b1, none, none])))))), (xq, .inl (cq, 16, .inr (.inr (.inr (.inr (zq [none, none, none, none, none, none, none, none, none, none, none, none, none, none, none, none])))))), (b0, .inr (2, [.ref gx0, .int 99, .int 30, .int 0, .int 0])), (b1, .inr (2, [.ref gx1, .int 99, .int 30, .int 0, .int 0])), (r1, .inr (4, [.int 0, .int p1])), (r2, .inr (4, [.int 0, .int p2])), (r3, .inr (4, [.int 0, .int p3])), (r4, .inr (4, [.int 0, .int p4]))] sz)) 0 0 (va_A [(xo, .inr (6, [.ref xg, .int gc, .ref xp, .int pc, .ref xq, .int qc, .ref r1, .ref r2, .ref r3, .ref r4, .ref se, .int ts, .int 0, .int dr, .int su, .int br])), (xp, .inl (cp, 4, .inr (.inr (.inr (.inr (zq [some b0, some b1, none, none])))))), (xq, .inl (cq, 16, .inr (.inr (.inr (.inr (zq [none, none, none, none, none, none, none, none, none, none, none, none, none, none, none, none])))))), (b0, .inr (2, [.ref gx0, .int 99, .int 30, .int 0, .int 0])), (b1, .inr (2, [.ref gx1, .int 99, .int 30, .int 0, .int 0])), (r1, .inr (4, [.int 0, .int p1])), (r2, .inr (4, [.int 0, .int p2])), (r3, .inr (4, [.int 0, .int p3])), (r4, .inr (4, [.int 0, .int p4]))] sz) := by
  refine vx_ofW (cc := cX6_hours) (maxL := 4) (ret := (some .int)) (by decide) rfl ?_
  intro p e s m args below meth c s₁ B hml hxt hv
  obtain ⟨rfl, hsz, hP, hK, hD0, hT, hZ⟩ := hv
  have hx := B.exec
  have hb := B.bytes
  have hr := B.returns
  have hts := atoms_spec (ws := wzX6_hours_2) B.pre
  have hown : s.vm.findClass RX6 = some m.cls := findClass_of_methodNamed B.named
  have hlocks := B.notSynchronized
  subst hsz
  have hD := hD0.self (sz := s.heap.size)
  generalize hAe : va_A [(xo, .inr (6, [.ref xg, .int gc, .ref xp, .int pc, .ref xq, .int qc, .ref r1, .ref r2, .ref r3, .ref r4, .ref se, .int ts, .int 0, .int dr, .int su, .int br])), (xp, .inl (cp, 4, .inr (.inr (.inr (.inr (zq [some b0, some b1, none, none])))))), (xq, .inl (cq, 16, .inr (.inr (.inr (.inr (zq [none, none, none, none, none, none, none, none, none, none, none, none, none, none, none, none])))))), (b0, .inr (2, [.ref gx0, .int 99, .int 30, .int 0, .int 0])), (b1, .inr (2, [.ref gx1, .int 99, .int 30, .int 0, .int 0])), (r1, .inr (4, [.int 0, .int p1])), (r2, .inr (4, [.int 0, .int p2])), (r3, .inr (4, [.int 0, .int p3])), (r4, .inr (4, [.int 0, .int p4]))] s.heap.size = A at hD hZ ⊢
  have hA : ∀ q : Nat, s.heap.size ≤ q → A q := fun q h => by rw [← hAe]; exact Or.inr h
  have hS : va_S A s.heap s.heap [] := va_S.rf
  have hl := lv_entry ([.ref xo, .int 10]) (n := 4) (Nat.le_of_ble_eq_true rfl)
  rw [lg_entry_eq]
  generalize (lg_sl ([.ref xo, .int 10]) ++ List.replicate (4 - (lg_sl ([.ref xo, .int 10])).length) Slot.unset).toArray = ls at hl ⊢
  have hl : lv_has ls 4 [(0, .ref xo), (1, .int 10)] := hl
  refine lv_iload_n hx hb dX6_hours_0 rfl (lv_at hl 1 rfl) ?_
  refine lv_iconst (v := 1) hx hb dX6_hours_1 (by decide) ?_
  refine lv_sipush (v := 240) hx hb dX6_hours_2 (by decide) ?_
  have hFc := va_free (wc := []) hD hS hA [] rfl
  refine vx_callv (vx_runS (As := [.int 10, .int 1, .int 240]) (rest := []) ⟨hx, hb, hml, hown, hts⟩ (zc_X6_checkRange_ok l hnt D G 10 1 240 s.heap.size (by first | assumption | rfl | omega | exact Nat.le_trans (zS_le _ _ _) (by omega) | decide) (by first | assumption | rfl | omega | exact Nat.le_trans (zS_le _ _ _) (by omega) | decide) (by first | assumption | rfl | omega | exact Nat.le_trans (zS_le _ _ _) (by omega) | decide) (by first | assumption | rfl | omega | exact Nat.le_trans (zS_le _ _ _) (by omega) | decide) (by first | assumption | rfl | omega | exact Nat.le_trans (zS_le _ _ _) (by omega) | decide)) (cwS 3 hts gzX6_hours_2_X6_checkRange_ok_75 rfl rfl rfl (by decide +kernel) ⟨(Nat.le_of_ble_eq_true rfl), (Nat.le_of_ble_eq_true rfl)⟩) ⟨p_RW_blind, (p_RW_at (tc := []) (wc := []) hP hK hD hS hA hT hZ [] [] rfl rfl (by decide) rfl [.int 10, .int 1, .int 240])⟩ rfl rfl hl.1 rfl (lv_room (Nat.le_of_ble_eq_true rfl)) dX6_hours_5 ⟨(Nat.le_of_ble_eq_true rfl), (Nat.le_of_ble_eq_true rfl)⟩) hS (fun q _ h => hFc q h) hFc (fun q _ h => hFc q h) (fun E ce q9 u t H locs ht hvm hpx hBX hz1 hk1 hS hce hcv hcl => ?_) (fun u t H locs ht hvm w_526 hB hz1 hk1 hS => ?_)
  · exact (show False from hBX).elim
  · obtain ⟨hP, hD, hK⟩ := q_join (D := D) (wc := []) (wr := [(xo, .inr (6, [.ref xg, .int gc, .ref xp, .int pc, .ref xq, .int qc, .ref r1, .ref r2, .ref r3, .ref r4, .ref se, .int ts, .int 0, .int dr, .int su, .int br])), (xp, .inl (cp, 4, .inr (.inr (.inr (.inr (zq [some b0, some b1, none, none])))))), (xq, .inl (cq, 16, .inr (.inr (.inr (.inr (zq [none, none, none, none, none, none, none, none, none, none, none, none, none, none, none, none])))))), (b0, .inr (2, [.ref gx0, .int 99, .int 30, .int 0, .int 0])), (b1, .inr (2, [.ref gx1, .int 99, .int 30, .int 0, .int 0])), (r1, .inr (4, [.int 0, .int p1])), (r2, .inr (4, [.int 0, .int p2])), (r3, .inr (4, [.int 0, .int p3])), (r4, .inr (4, [.int 0, .int p4]))]) (w1 := []) (tyr := [(cp, .object "Gatherhouse$Pot"), (cq, .object "Gatherhouse$Piece")]) (ty1 := []) hP hD hK [] [0, 1, 2, 3, 4, 5, 6, 7, 8] [0, 1] rfl rfl (by decide) (by decide) rfl hFc hk1 ht hvm hB
    have hP : va_P D vwCl [(xo, .inr (6, [.ref xg, .int gc, .ref xp, .int pc, .ref xq, .int qc, .ref r1, .ref r2, .ref r3, .ref r4, .ref se, .int ts, .int 0, .int dr, .int su, .int br])), (xp, .inl (cp, 4, .inr (.inr (.inr (.inr (zq [some b0, some b1, none, none])))))), (xq, .inl (cq, 16, .inr (.inr (.inr (.inr (zq [none, none, none, none, none, none, none, none, none, none, none, none, none, none, none, none])))))), (b0, .inr (2, [.ref gx0, .int 99, .int 30, .int 0, .int 0])), (b1, .inr (2, [.ref gx1, .int 99, .int 30, .int 0, .int 0])), (r1, .inr (4, [.int 0, .int p1])), (r2, .inr (4, [.int 0, .int p2])), (r3, .inr (4, [.int 0, .int p3])), (r4, .inr (4, [.int 0, .int p4]))] H := hP
    have hD : va_D A [(xo, .inr (6, [.ref xg, .int gc, .ref xp, .int pc, .ref xq, .int qc, .ref r1, .ref r2, .ref r3, .ref r4, .ref se, .int ts, .int 0, .int dr, .int su, .int br])), (xp, .inl (cp, 4, .inr (.inr (.inr (.inr (zq [some b0, some b1, none, none])))))), (xq, .inl (cq, 16, .inr (.inr (.inr (.inr (zq [none, none, none, none, none, none, none, none, none, none, none, none, none, none, none, none])))))), (b0, .inr (2, [.ref gx0, .int 99, .int 30, .int 0, .int 0])), (b1, .inr (2, [.ref gx1, .int 99, .int 30, .int 0, .int 0])), (r1, .inr (4, [.int 0, .int p1])), (r2, .inr (4, [.int 0, .int p2])), (r3, .inr (4, [.int 0, .int p3])), (r4, .inr (4, [.int 0, .int p4]))] := hD
    have hK : va_K D vwCl [(cp, .object "Gatherhouse$Pot"), (cq, .object "Gatherhouse$Piece")] s := hK
    refine lv_aload_n hx hb dX6_hours_8 rfl (lv_at hl 0 rfl) ?_
    refine va_csv (va_runV (As := []) (rest := []) ⟨hx, hb, hml, hown, hts⟩ (zc_X6_checkTeamRests l D G xo xg gc xp pc xq qc r1 r2 r3 r4 se ts 0 dr su br cq p1 p2 p3 p4) (cwV 0 hts gzX6_hours_2_X6_checkTeamRests_123 rfl rfl rfl (by decide +kernel) ⟨(Nat.le_of_ble_eq_true rfl), (Nat.le_of_ble_eq_true rfl)⟩) ⟨p_RO_blind, va_recv hK hP (ci := 6) (q0 := 0) rfl rfl, (p_RO_at (tc := [(cq, .object "Gatherhouse$Piece")]) (wc := [(xo, .inr (6, [.ref xg, .int gc, .ref xp, .int pc, .ref xq, .int qc, .ref r1, .ref r2, .ref r3, .ref r4, .ref se, .int ts, .int 0, .int dr, .int su, .int br])), (xq, .inl (cq, 16, .inr (.inr (.inr (.inr (zq [none, none, none, none, none, none, none, none, none, none, none, none, none, none, none, none])))))), (r1, .inr (4, [.int 0, .int p1])), (r2, .inr (4, [.int 0, .int p2])), (r3, .inr (4, [.int 0, .int p3])), (r4, .inr (4, [.int 0, .int p4]))]) hP hK hT [0, 2, 5, 6, 7, 8] [1] rfl rfl [.ref xo])⟩ rfl rfl hl.1 rfl (lv_room (Nat.le_of_ble_eq_true rfl)) dX6_hours_9 ⟨(Nat.le_of_ble_eq_true rfl), (Nat.le_of_ble_eq_true rfl)⟩).run (fun w_528 => ?_)
    refine lv_iconst (v := 0) hx hb dX6_hours_12 (by decide) ?_
    refine lv_istore_n (lv' := [(2, .int 0), (0, .ref xo), (1, .int 10)]) hx hb dX6_hours_13 rfl hl (by decide) rfl (fun ls hl => ?_)
    refine lv_iconst (v := 0) hx hb dX6_hours_14 (by decide) ?_
    refine lv_istore_n (lv' := [(3, .int 0), (2, .int 0), (0, .ref xo), (1, .int 10)]) hx hb dX6_hours_15 rfl hl (by decide) rfl (fun ls hl => ?_)
    have hw9 : ([(xo, .inr (6, [.ref xg, .int gc, .ref xp, .int pc, .ref xq, .int qc, .ref r1, .ref r2, .ref r3, .ref r4, .ref se, .int ts, .int 0, .int dr, .int su, .int br])), (xp, .inl (cp, 4, .inr (.inr (.inr (.inr (zq [some b0, some b1, none, none])))))), (xq, .inl (cq, 16, .inr (.inr (.inr (.inr (zq [none, none, none, none, none, none, none, none, none, none, none, none, none, none, none, none])))))), (b0, .inr (2, [.ref gx0, .int 99, .int 30, .int 0, .int 0])), (b1, .inr (2, [.ref gx1, .int 99, .int 30, .int 0, .int 0])), (r1, .inr (4, [.int 0, .int p1])), (r2, .inr (4, [.int 0, .int p2])), (r3, .inr (4, [.int 0, .int p3])), (r4, .inr (4, [.int 0, .int p4]))] : va_W) = [(xo, .inr (6, [.ref xg, .int gc, .ref xp, .int pc, .ref xq, .int qc, .ref r1, .ref r2, .ref r3, .ref r4, .ref se, .int ts, .int (nI (0 + 0)), .int dr, .int su, .int br])), (xp, .inl (cp, 4, .inr (.inr (.inr (.inr (zq [some b0, some b1, none, none])))))), (xq, .inl (cq, 16, .inr (.inr (.inr (.inr (zq [none, none, none, none, none, none, none, none, none, none, none, none, none, none, none, none])))))), (b0, .inr (2, [.ref gx0, .int 99, .int (nI (zS 99 30 0)), .int (nI (0 + ((0 + 0) / 50 - 0 / 50))), .int (nI (0 + 0))])), (b1, .inr (2, [.ref gx1, .int 99, .int (nI (zS 99 30 0)), .int (nI (0 + ((0 + 0) / 50 - 0 / 50))), .int (nI (0 + 0))])), (r1, .inr (4, [.int 0, .int p1])), (r2, .inr (4, [.int 0, .int p2])), (r3, .inr (4, [.int 0, .int p3])), (r4, .inr (4, [.int 0, .int p4]))] := by
      have z_529 : (0 : Int32) = nI (0 + 0) := (by first | rfl | exact congrArg nI (by omega) | exact congrArg nI (by simp only [zS]; omega) | exact congrArg nI (by simp only [zS]; split <;> omega) | exact congrArg nI (by simp only [zS]; split <;> split <;> omega) | (simp only [zS]; omega) | (simp only [zS]; split <;> omega))
      have z_530 : (30 : Int32) = nI (zS 99 30 0) := (by first | rfl | exact congrArg nI (by omega) | exact congrArg nI (by simp only [zS]; omega) | exact congrArg nI (by simp only [zS]; split <;> omega) | exact congrArg nI (by simp only [zS]; split <;> split <;> omega) | (simp only [zS]; omega) | (simp only [zS]; split <;> omega))
      have z_531 : (0 : Int32) = nI (0 + ((0 + 0) / 50 - 0 / 50)) := (by first | rfl | exact congrArg nI (by omega) | exact congrArg nI (by simp only [zS]; omega) | exact congrArg nI (by simp only [zS]; split <;> omega) | exact congrArg nI (by simp only [zS]; split <;> split <;> omega) | (simp only [zS]; omega) | (simp only [zS]; split <;> omega))
      first | rfl | rw [z_529, z_530, z_531] | rw [← z_529, ← z_530, ← z_531] | simp only [z_529, z_530, z_531]
    have hP : va_P D vwCl [(xo, .inr (6, [.ref xg, .int gc, .ref xp, .int pc, .ref xq, .int qc, .ref r1, .ref r2, .ref r3, .ref r4, .ref se, .int ts, .int (nI (0 + 0)), .int dr, .int su, .int br])), (xp, .inl (cp, 4, .inr (.inr (.inr (.inr (zq [some b0, some b1, none, none])))))), (xq, .inl (cq, 16, .inr (.inr (.inr (.inr (zq [none, none, none, none, none, none, none, none, none, none, none, none, none, none, none, none])))))), (b0, .inr (2, [.ref gx0, .int 99, .int (nI (zS 99 30 0)), .int (nI (0 + ((0 + 0) / 50 - 0 / 50))), .int (nI (0 + 0))])), (b1, .inr (2, [.ref gx1, .int 99, .int (nI (zS 99 30 0)), .int (nI (0 + ((0 + 0) / 50 - 0 / 50))), .int (nI (0 + 0))])), (r1, .inr (4, [.int 0, .int p1])), (r2, .inr (4, [.int 0, .int p2])), (r3, .inr (4, [.int 0, .int p3])), (r4, .inr (4, [.int 0, .int p4]))] H := by rw [← hw9]; exact hP
    have hD : va_D A [(xo, .inr (6, [.ref xg, .int gc, .ref xp, .int pc, .ref xq, .int qc, .ref r1, .ref r2, .ref r3, .ref r4, .ref se, .int ts, .int (nI (0 + 0)), .int dr, .int su, .int br])), (xp, .inl (cp, 4, .inr (.inr (.inr (.inr (zq [some b0, some b1, none, none])))))), (xq, .inl (cq, 16, .inr (.inr (.inr (.inr (zq [none, none, none, none, none, none, none, none, none, none, none, none, none, none, none, none])))))), (b0, .inr (2, [.ref gx0, .int 99, .int (nI (zS 99 30 0)), .int (nI (0 + ((0 + 0) / 50 - 0 / 50))), .int (nI (0 + 0))])), (b1, .inr (2, [.ref gx1, .int 99, .int (nI (zS 99 30 0)), .int (nI (0 + ((0 + 0) / 50 - 0 / 50))), .int (nI (0 + 0))])), (r1, .inr (4, [.int 0, .int p1])), (r2, .inr (4, [.int 0, .int p2])), (r3, .inr (4, [.int 0, .int p3])), (r4, .inr (4, [.int 0, .int p4]))] := by rw [← hw9]; exact hD
    have hl : lv_has ls 4 [(1, .int 10), (2, .int 0), (3, .int 0), (0, .ref xo)] := lv_sub hl [3, 1, 0, 2] rfl
    have hv9 : ([(1, .int 10), (2, .int 0), (3, .int 0), (0, .ref xo)] : List (Nat × Value)) = [(1, .int 10), (2, .int 0), (3, .int (nI 0)), (0, .ref xo)] := by
      have z_532 : (0 : Int32) = nI 0 := (by first | rfl | exact congrArg nI (by omega) | exact congrArg nI (by simp only [zS]; omega) | exact congrArg nI (by simp only [zS]; split <;> omega) | exact congrArg nI (by simp only [zS]; split <;> split <;> omega) | (simp only [zS]; omega) | (simp only [zS]; split <;> omega))
      first | rfl | rw [z_532] | rw [← z_532] | simp only [z_532]
    have hl : lv_has ls 4 [(1, .int 10), (2, .int 0), (3, .int (nI 0)), (0, .ref xo)] := by rw [← hv9]; exact hl
    refine z_loop (fun (q7 : Nat) (_ : Unit) (H : Heap) (locs : List Loc) (ls : Array Slot) => va_P D vwCl [(xo, .inr (6, [.ref xg, .int gc, .ref xp, .int pc, .ref xq, .int qc, .ref r1, .ref r2, .ref r3, .ref r4, .ref se, .int ts, .int (nI (0 + q7)), .int dr, .int su, .int br])), (xp, .inl (cp, 4, .inr (.inr (.inr (.inr (zq [some b0, some b1, none, none])))))), (xq, .inl (cq, 16, .inr (.inr (.inr (.inr (zq [none, none, none, none, none, none, none, none, none, none, none, none, none, none, none, none])))))), (b0, .inr (2, [.ref gx0, .int 99, .int (nI (zS 99 30 q7)), .int (nI (0 + ((0 + q7) / 50 - 0 / 50))), .int (nI (0 + q7))])), (b1, .inr (2, [.ref gx1, .int 99, .int (nI (zS 99 30 q7)), .int (nI (0 + ((0 + q7) / 50 - 0 / 50))), .int (nI (0 + q7))])), (r1, .inr (4, [.int 0, .int p1])), (r2, .inr (4, [.int 0, .int p2])), (r3, .inr (4, [.int 0, .int p3])), (r4, .inr (4, [.int 0, .int p4]))] H ∧ va_D A [(xo, .inr (6, [.ref xg, .int gc, .ref xp, .int pc, .ref xq, .int qc, .ref r1, .ref r2, .ref r3, .ref r4, .ref se, .int ts, .int (nI (0 + q7)), .int dr, .int su, .int br])), (xp, .inl (cp, 4, .inr (.inr (.inr (.inr (zq [some b0, some b1, none, none])))))), (xq, .inl (cq, 16, .inr (.inr (.inr (.inr (zq [none, none, none, none, none, none, none, none, none, none, none, none, none, none, none, none])))))), (b0, .inr (2, [.ref gx0, .int 99, .int (nI (zS 99 30 q7)), .int (nI (0 + ((0 + q7) / 50 - 0 / 50))), .int (nI (0 + q7))])), (b1, .inr (2, [.ref gx1, .int 99, .int (nI (zS 99 30 q7)), .int (nI (0 + ((0 + q7) / 50 - 0 / 50))), .int (nI (0 + q7))])), (r1, .inr (4, [.int 0, .int p1])), (r2, .inr (4, [.int 0, .int p2])), (r3, .inr (4, [.int 0, .int p3])), (r4, .inr (4, [.int 0, .int p4]))] ∧ va_S A s.heap H locs ∧ lv_has ls 4 [(1, .int 10), (2, .int 0), (3, .int (nI q7)), (0, .ref xo)]) (fun (q7 : Nat) (H : Heap) (locs : List Loc) (ls : Array Slot) => W p l e _ s m _ below meth c H locs (0) (0) _ (F0 m 16 ls [])) (10) ?_ ?_ (10) 0 (by omega) () H _ ls ⟨hP, hD, hS, hl⟩
    · intro q7 hk ih hv H locs ls hp
      obtain ⟨hP, hD, hS, hl⟩ := hp
      refine lv_iload_n hx hb dX6_hours_16 rfl (lv_at hl 2 rfl) ?_
      refine lv_iload_n hx hb dX6_hours_17 rfl (lv_at hl 0 rfl) ?_
      refine lv_icmp_ge (tgt := 34) hx hb dX6_hours_18 (by decide) (fun cc => absurd cc (fun z => absurd ((nI_leI (a := 10) (b := q7) (by omega) (by omega)).mp z) (by omega))) (fun _ => ?_)
      refine lv_iload_n hx hb dX6_hours_21 rfl (lv_at hl 1 rfl) ?_
      refine lv_aload_n hx hb dX6_hours_22 rfl (lv_at hl 3 rfl) ?_
      have hFc := va_free (wc := [(xo, .inr (6, [.ref xg, .int gc, .ref xp, .int pc, .ref xq, .int qc, .ref r1, .ref r2, .ref r3, .ref r4, .ref se, .int ts, .int (nI (0 + q7)), .int dr, .int su, .int br])), (xp, .inl (cp, 4, .inr (.inr (.inr (.inr (zq [some b0, some b1, none, none])))))), (xq, .inl (cq, 16, .inr (.inr (.inr (.inr (zq [none, none, none, none, none, none, none, none, none, none, none, none, none, none, none, none])))))), (b0, .inr (2, [.ref gx0, .int 99, .int (nI (zS 99 30 q7)), .int (nI (0 + ((0 + q7) / 50 - 0 / 50))), .int (nI (0 + q7))])), (b1, .inr (2, [.ref gx1, .int 99, .int (nI (zS 99 30 q7)), .int (nI (0 + ((0 + q7) / 50 - 0 / 50))), .int (nI (0 + q7))]))]) hD hS hA [0, 1, 2, 3, 4] rfl
      refine va_calli (va_runV (As := []) (rest := [.int 0]) ⟨hx, hb, hml, hown, hts⟩ (zc_X6_passHour_2 l D G xo xg gc xp pc xq qc r1 r2 r3 r4 se ts (0 + q7) dr su br cp b0 b1 cq gx0 99 (zS 99 30 q7) (0 + ((0 + q7) / 50 - 0 / 50)) (0 + q7) gx1 99 (zS 99 30 q7) (0 + ((0 + q7) / 50 - 0 / 50)) (0 + q7) H.size (by first | assumption | rfl | omega | exact Nat.le_trans (zS_le _ _ _) (by omega) | decide) (by first | assumption | rfl | omega | exact Nat.le_trans (zS_le _ _ _) (by omega) | decide) (by first | assumption | rfl | omega | exact Nat.le_trans (zS_le _ _ _) (by omega) | decide) (by first | assumption | rfl | omega | exact Nat.le_trans (zS_le _ _ _) (by omega) | decide) (by first | assumption | rfl | omega | exact Nat.le_trans (zS_le _ _ _) (by omega) | decide) (by first | assumption | rfl | omega | exact Nat.le_trans (zS_le _ _ _) (by omega) | decide) (by first | assumption | rfl | omega | exact Nat.le_trans (zS_le _ _ _) (by omega) | decide) (by first | assumption | rfl | omega | exact Nat.le_trans (zS_le _ _ _) (by omega) | decide) (by first | assumption | rfl | omega | exact Nat.le_trans (zS_le _ _ _) (by omega) | decide)) (cwV 0 hts gzX6_hours_2_X6_passHour_2_126 rfl rfl rfl (by decide +kernel) ⟨(Nat.le_of_ble_eq_true rfl), (Nat.le_of_ble_eq_true rfl)⟩) ⟨p_RW_blind, va_recv hK hP (ci := 6) (q0 := 0) rfl rfl, (p_RW_at (tc := [(cp, .object "Gatherhouse$Pot"), (cq, .object "Gatherhouse$Piece")]) (wc := [(xo, .inr (6, [.ref xg, .int gc, .ref xp, .int pc, .ref xq, .int qc, .ref r1, .ref r2, .ref r3, .ref r4, .ref se, .int ts, .int (nI (0 + q7)), .int dr, .int su, .int br])), (xp, .inl (cp, 4, .inr (.inr (.inr (.inr (zq [some b0, some b1, none, none])))))), (xq, .inl (cq, 16, .inr (.inr (.inr (.inr (zq [none, none, none, none, none, none, none, none, none, none, none, none, none, none, none, none])))))), (b0, .inr (2, [.ref gx0, .int 99, .int (nI (zS 99 30 q7)), .int (nI (0 + ((0 + q7) / 50 - 0 / 50))), .int (nI (0 + q7))])), (b1, .inr (2, [.ref gx1, .int 99, .int (nI (zS 99 30 q7)), .int (nI (0 + ((0 + q7) / 50 - 0 / 50))), .int (nI (0 + q7))]))]) hP hK hD hS hA hT hZ [0, 1, 2, 3, 4] [0, 1] rfl rfl (by decide) rfl [.ref xo])⟩ rfl rfl hl.1 rfl (lv_room (Nat.le_of_ble_eq_true rfl)) dX6_hours_23 ⟨(Nat.le_of_ble_eq_true rfl), (Nat.le_of_ble_eq_true rfl)⟩) hS (fun q _ h => hFc q h) hFc (fun r_533 u t H locs ht hvm w_534 hB hz1 hk1 hS => ?_)
      obtain ⟨hP, hD, hK⟩ := q_join (D := D) (wc := [(xo, .inr (6, [.ref xg, .int gc, .ref xp, .int pc, .ref xq, .int qc, .ref r1, .ref r2, .ref r3, .ref r4, .ref se, .int ts, .int (nI (0 + q7)), .int dr, .int su, .int br])), (xp, .inl (cp, 4, .inr (.inr (.inr (.inr (zq [some b0, some b1, none, none])))))), (xq, .inl (cq, 16, .inr (.inr (.inr (.inr (zq [none, none, none, none, none, none, none, none, none, none, none, none, none, none, none, none])))))), (b0, .inr (2, [.ref gx0, .int 99, .int (nI (zS 99 30 q7)), .int (nI (0 + ((0 + q7) / 50 - 0 / 50))), .int (nI (0 + q7))])), (b1, .inr (2, [.ref gx1, .int 99, .int (nI (zS 99 30 q7)), .int (nI (0 + ((0 + q7) / 50 - 0 / 50))), .int (nI (0 + q7))]))]) (wr := [(r1, .inr (4, [.int 0, .int p1])), (r2, .inr (4, [.int 0, .int p2])), (r3, .inr (4, [.int 0, .int p3])), (r4, .inr (4, [.int 0, .int p4]))]) (w1 := [(xo, .inr (6, [.ref xg, .int gc, .ref xp, .int pc, .ref xq, .int qc, .ref r1, .ref r2, .ref r3, .ref r4, .ref se, .int ts, .int (nI ((0 + q7) + 1)), .int dr, .int su, .int br])), (xp, .inl (cp, 4, .inr (.inr (.inr (.inr (zq [some b0, some b1, none, none])))))), (xq, .inl (cq, 16, .inr (.inr (.inr (.inr (zq [none, none, none, none, none, none, none, none, none, none, none, none, none, none, none, none])))))), (b0, .inr (2, [.ref gx0, .int 99, .int (nI (zS 99 (zS 99 30 q7) 1)), .int (nI ((0 + ((0 + q7) / 50 - 0 / 50)) + (((0 + q7) + 1) / 50 - (0 + q7) / 50))), .int (nI ((0 + q7) + 1))])), (b1, .inr (2, [.ref gx1, .int 99, .int (nI (zS 99 (zS 99 30 q7) 1)), .int (nI ((0 + ((0 + q7) / 50 - 0 / 50)) + (((0 + q7) + 1) / 50 - (0 + q7) / 50))), .int (nI ((0 + q7) + 1))]))]) (tyr := []) (ty1 := [(cp, .object "Gatherhouse$Pot"), (cq, .object "Gatherhouse$Piece")]) hP hD hK [0, 1, 2, 3, 4] [5, 6, 7, 8] [] rfl rfl (by decide) (by decide) rfl hFc hk1 ht hvm hB
      have hP : va_P D vwCl [(r1, .inr (4, [.int 0, .int p1])), (r2, .inr (4, [.int 0, .int p2])), (r3, .inr (4, [.int 0, .int p3])), (r4, .inr (4, [.int 0, .int p4])), (xo, .inr (6, [.ref xg, .int gc, .ref xp, .int pc, .ref xq, .int qc, .ref r1, .ref r2, .ref r3, .ref r4, .ref se, .int ts, .int (nI ((0 + q7) + 1)), .int dr, .int su, .int br])), (xp, .inl (cp, 4, .inr (.inr (.inr (.inr (zq [some b0, some b1, none, none])))))), (xq, .inl (cq, 16, .inr (.inr (.inr (.inr (zq [none, none, none, none, none, none, none, none, none, none, none, none, none, none, none, none])))))), (b0, .inr (2, [.ref gx0, .int 99, .int (nI (zS 99 (zS 99 30 q7) 1)), .int (nI ((0 + ((0 + q7) / 50 - 0 / 50)) + (((0 + q7) + 1) / 50 - (0 + q7) / 50))), .int (nI ((0 + q7) + 1))])), (b1, .inr (2, [.ref gx1, .int 99, .int (nI (zS 99 (zS 99 30 q7) 1)), .int (nI ((0 + ((0 + q7) / 50 - 0 / 50)) + (((0 + q7) + 1) / 50 - (0 + q7) / 50))), .int (nI ((0 + q7) + 1))]))] H := hP
      have hD : va_D A [(r1, .inr (4, [.int 0, .int p1])), (r2, .inr (4, [.int 0, .int p2])), (r3, .inr (4, [.int 0, .int p3])), (r4, .inr (4, [.int 0, .int p4])), (xo, .inr (6, [.ref xg, .int gc, .ref xp, .int pc, .ref xq, .int qc, .ref r1, .ref r2, .ref r3, .ref r4, .ref se, .int ts, .int (nI ((0 + q7) + 1)), .int dr, .int su, .int br])), (xp, .inl (cp, 4, .inr (.inr (.inr (.inr (zq [some b0, some b1, none, none])))))), (xq, .inl (cq, 16, .inr (.inr (.inr (.inr (zq [none, none, none, none, none, none, none, none, none, none, none, none, none, none, none, none])))))), (b0, .inr (2, [.ref gx0, .int 99, .int (nI (zS 99 (zS 99 30 q7) 1)), .int (nI ((0 + ((0 + q7) / 50 - 0 / 50)) + (((0 + q7) + 1) / 50 - (0 + q7) / 50))), .int (nI ((0 + q7) + 1))])), (b1, .inr (2, [.ref gx1, .int 99, .int (nI (zS 99 (zS 99 30 q7) 1)), .int (nI ((0 + ((0 + q7) / 50 - 0 / 50)) + (((0 + q7) + 1) / 50 - (0 + q7) / 50))), .int (nI ((0 + q7) + 1))]))] := hD
      have hK : va_K D vwCl [(cp, .object "Gatherhouse$Pot"), (cq, .object "Gatherhouse$Piece")] s := hK
      obtain rfl := w_534
      refine lv_iadd hx hb dX6_hours_26 ?_
      refine lv_topi (fun y_535 ey_535 => ?_)
      have ey_535 : y_535 = 0 := ey_535.trans (by decide +kernel)
      subst ey_535
      refine lv_istore_n (lv' := [(2, .int 0), (1, .int 10), (3, .int (nI q7)), (0, .ref xo)]) hx hb dX6_hours_27 rfl hl (by decide) rfl (fun ls hl => ?_)
      refine lv_iinc (v := nI (q7 + 1)) (lv' := [(3, .int (nI (q7 + 1))), (2, .int 0), (1, .int 10), (0, .ref xo)]) hx hb dX6_hours_28 hl (k := 2) rfl (show nI q7 + Int32.ofInt 1 = nI (q7 + 1) from nI_1 q7) (by decide) rfl (fun ls hl => ?_)
      refine lv_goto (tgt := 16) hx hb dX6_hours_31 (by decide) ?_
      have hP := hP.sub (ws' := [(xo, .inr (6, [.ref xg, .int gc, .ref xp, .int pc, .ref xq, .int qc, .ref r1, .ref r2, .ref r3, .ref r4, .ref se, .int ts, .int (nI ((0 + q7) + 1)), .int dr, .int su, .int br])), (xp, .inl (cp, 4, .inr (.inr (.inr (.inr (zq [some b0, some b1, none, none])))))), (xq, .inl (cq, 16, .inr (.inr (.inr (.inr (zq [none, none, none, none, none, none, none, none, none, none, none, none, none, none, none, none])))))), (b0, .inr (2, [.ref gx0, .int 99, .int (nI (zS 99 (zS 99 30 q7) 1)), .int (nI ((0 + ((0 + q7) / 50 - 0 / 50)) + (((0 + q7) + 1) / 50 - (0 + q7) / 50))), .int (nI ((0 + q7) + 1))])), (b1, .inr (2, [.ref gx1, .int 99, .int (nI (zS 99 (zS 99 30 q7) 1)), .int (nI ((0 + ((0 + q7) / 50 - 0 / 50)) + (((0 + q7) + 1) / 50 - (0 + q7) / 50))), .int (nI ((0 + q7) + 1))])), (r1, .inr (4, [.int 0, .int p1])), (r2, .inr (4, [.int 0, .int p2])), (r3, .inr (4, [.int 0, .int p3])), (r4, .inr (4, [.int 0, .int p4]))]) [4, 5, 6, 7, 8, 0, 1, 2, 3] rfl
      have hD := hD.sub (ws' := [(xo, .inr (6, [.ref xg, .int gc, .ref xp, .int pc, .ref xq, .int qc, .ref r1, .ref r2, .ref r3, .ref r4, .ref se, .int ts, .int (nI ((0 + q7) + 1)), .int dr, .int su, .int br])), (xp, .inl (cp, 4, .inr (.inr (.inr (.inr (zq [some b0, some b1, none, none])))))), (xq, .inl (cq, 16, .inr (.inr (.inr (.inr (zq [none, none, none, none, none, none, none, none, none, none, none, none, none, none, none, none])))))), (b0, .inr (2, [.ref gx0, .int 99, .int (nI (zS 99 (zS 99 30 q7) 1)), .int (nI ((0 + ((0 + q7) / 50 - 0 / 50)) + (((0 + q7) + 1) / 50 - (0 + q7) / 50))), .int (nI ((0 + q7) + 1))])), (b1, .inr (2, [.ref gx1, .int 99, .int (nI (zS 99 (zS 99 30 q7) 1)), .int (nI ((0 + ((0 + q7) / 50 - 0 / 50)) + (((0 + q7) + 1) / 50 - (0 + q7) / 50))), .int (nI ((0 + q7) + 1))])), (r1, .inr (4, [.int 0, .int p1])), (r2, .inr (4, [.int 0, .int p2])), (r3, .inr (4, [.int 0, .int p3])), (r4, .inr (4, [.int 0, .int p4]))]) [4, 5, 6, 7, 8, 0, 1, 2, 3] (by decide) rfl
      have hw9 : ([(xo, .inr (6, [.ref xg, .int gc, .ref xp, .int pc, .ref xq, .int qc, .ref r1, .ref r2, .ref r3, .ref r4, .ref se, .int ts, .int (nI ((0 + q7) + 1)), .int dr, .int su, .int br])), (xp, .inl (cp, 4, .inr (.inr (.inr (.inr (zq [some b0, some b1, none, none])))))), (xq, .inl (cq, 16, .inr (.inr (.inr (.inr (zq [none, none, none, none, none, none, none, none, none, none, none, none, none, none, none, none])))))), (b0, .inr (2, [.ref gx0, .int 99, .int (nI (zS 99 (zS 99 30 q7) 1)), .int (nI ((0 + ((0 + q7) / 50 - 0 / 50)) + (((0 + q7) + 1) / 50 - (0 + q7) / 50))), .int (nI ((0 + q7) + 1))])), (b1, .inr (2, [.ref gx1, .int 99, .int (nI (zS 99 (zS 99 30 q7) 1)), .int (nI ((0 + ((0 + q7) / 50 - 0 / 50)) + (((0 + q7) + 1) / 50 - (0 + q7) / 50))), .int (nI ((0 + q7) + 1))])), (r1, .inr (4, [.int 0, .int p1])), (r2, .inr (4, [.int 0, .int p2])), (r3, .inr (4, [.int 0, .int p3])), (r4, .inr (4, [.int 0, .int p4]))] : va_W) = [(xo, .inr (6, [.ref xg, .int gc, .ref xp, .int pc, .ref xq, .int qc, .ref r1, .ref r2, .ref r3, .ref r4, .ref se, .int ts, .int (nI (0 + (q7 + 1))), .int dr, .int su, .int br])), (xp, .inl (cp, 4, .inr (.inr (.inr (.inr (zq [some b0, some b1, none, none])))))), (xq, .inl (cq, 16, .inr (.inr (.inr (.inr (zq [none, none, none, none, none, none, none, none, none, none, none, none, none, none, none, none])))))), (b0, .inr (2, [.ref gx0, .int 99, .int (nI (zS 99 30 (q7 + 1))), .int (nI (0 + ((0 + (q7 + 1)) / 50 - 0 / 50))), .int (nI (0 + (q7 + 1)))])), (b1, .inr (2, [.ref gx1, .int 99, .int (nI (zS 99 30 (q7 + 1))), .int (nI (0 + ((0 + (q7 + 1)) / 50 - 0 / 50))), .int (nI (0 + (q7 + 1)))])), (r1, .inr (4, [.int 0, .int p1])), (r2, .inr (4, [.int 0, .int p2])), (r3, .inr (4, [.int 0, .int p3])), (r4, .inr (4, [.int 0, .int p4]))] := by
        have z_536 : (nI ((0 + q7) + 1) : Int32) = nI (0 + (q7 + 1)) := (by first | rfl | exact congrArg nI (by omega) | exact congrArg nI (by simp only [zS]; omega) | exact congrArg nI (by simp only [zS]; split <;> omega) | exact congrArg nI (by simp only [zS]; split <;> split <;> omega) | (simp only [zS]; omega) | (simp only [zS]; split <;> omega))
        have z_537 : (nI (zS 99 (zS 99 30 q7) 1) : Int32) = nI (zS 99 30 (q7 + 1)) := (by first | rfl | exact congrArg nI (by omega) | exact congrArg nI (by simp only [zS]; omega) | exact congrArg nI (by simp only [zS]; split <;> omega) | exact congrArg nI (by simp only [zS]; split <;> split <;> omega) | (simp only [zS]; omega) | (simp only [zS]; split <;> omega))
        have z_538 : (nI ((0 + ((0 + q7) / 50 - 0 / 50)) + (((0 + q7) + 1) / 50 - (0 + q7) / 50)) : Int32) = nI (0 + ((0 + (q7 + 1)) / 50 - 0 / 50)) := (by first | rfl | exact congrArg nI (by omega) | exact congrArg nI (by simp only [zS]; omega) | exact congrArg nI (by simp only [zS]; split <;> omega) | exact congrArg nI (by simp only [zS]; split <;> split <;> omega) | (simp only [zS]; omega) | (simp only [zS]; split <;> omega))
        first | rfl | rw [z_536, z_537, z_538] | rw [← z_536, ← z_537, ← z_538] | simp only [z_536, z_537, z_538]
      have hP : va_P D vwCl [(xo, .inr (6, [.ref xg, .int gc, .ref xp, .int pc, .ref xq, .int qc, .ref r1, .ref r2, .ref r3, .ref r4, .ref se, .int ts, .int (nI (0 + (q7 + 1))), .int dr, .int su, .int br])), (xp, .inl (cp, 4, .inr (.inr (.inr (.inr (zq [some b0, some b1, none, none])))))), (xq, .inl (cq, 16, .inr (.inr (.inr (.inr (zq [none, none, none, none, none, none, none, none, none, none, none, none, none, none, none, none])))))), (b0, .inr (2, [.ref gx0, .int 99, .int (nI (zS 99 30 (q7 + 1))), .int (nI (0 + ((0 + (q7 + 1)) / 50 - 0 / 50))), .int (nI (0 + (q7 + 1)))])), (b1, .inr (2, [.ref gx1, .int 99, .int (nI (zS 99 30 (q7 + 1))), .int (nI (0 + ((0 + (q7 + 1)) / 50 - 0 / 50))), .int (nI (0 + (q7 + 1)))])), (r1, .inr (4, [.int 0, .int p1])), (r2, .inr (4, [.int 0, .int p2])), (r3, .inr (4, [.int 0, .int p3])), (r4, .inr (4, [.int 0, .int p4]))] H := by rw [← hw9]; exact hP
      have hD : va_D A [(xo, .inr (6, [.ref xg, .int gc, .ref xp, .int pc, .ref xq, .int qc, .ref r1, .ref r2, .ref r3, .ref r4, .ref se, .int ts, .int (nI (0 + (q7 + 1))), .int dr, .int su, .int br])), (xp, .inl (cp, 4, .inr (.inr (.inr (.inr (zq [some b0, some b1, none, none])))))), (xq, .inl (cq, 16, .inr (.inr (.inr (.inr (zq [none, none, none, none, none, none, none, none, none, none, none, none, none, none, none, none])))))), (b0, .inr (2, [.ref gx0, .int 99, .int (nI (zS 99 30 (q7 + 1))), .int (nI (0 + ((0 + (q7 + 1)) / 50 - 0 / 50))), .int (nI (0 + (q7 + 1)))])), (b1, .inr (2, [.ref gx1, .int 99, .int (nI (zS 99 30 (q7 + 1))), .int (nI (0 + ((0 + (q7 + 1)) / 50 - 0 / 50))), .int (nI (0 + (q7 + 1)))])), (r1, .inr (4, [.int 0, .int p1])), (r2, .inr (4, [.int 0, .int p2])), (r3, .inr (4, [.int 0, .int p3])), (r4, .inr (4, [.int 0, .int p4]))] := by rw [← hw9]; exact hD
      have hl : lv_has ls 4 [(1, .int 10), (2, .int 0), (3, .int (nI (q7 + 1))), (0, .ref xo)] := lv_sub hl [2, 1, 0, 3] rfl
      exact ih () _ _ _ ⟨hP, hD, hS, hl⟩
    · intro hv H locs ls hp
      obtain ⟨hP, hD, hS, hl⟩ := hp
      refine lv_iload_n hx hb dX6_hours_16 rfl (lv_at hl 2 rfl) ?_
      refine lv_iload_n hx hb dX6_hours_17 rfl (lv_at hl 0 rfl) ?_
      refine lv_icmp_ge (tgt := 34) hx hb dX6_hours_18 (by decide) (fun _ => ?_) (fun cc => absurd ((nI_leI (a := 10) (b := 10) (by omega) (by omega)).mpr (by omega)) cc)
      refine lv_iload_n hx hb dX6_hours_34 rfl (lv_at hl 1 rfl) ?_
      refine vx_ret ?_
      have hw9 : ([(xo, .inr (6, [.ref xg, .int gc, .ref xp, .int pc, .ref xq, .int qc, .ref r1, .ref r2, .ref r3, .ref r4, .ref se, .int ts, .int (nI (0 + 10)), .int dr, .int su, .int br])), (xp, .inl (cp, 4, .inr (.inr (.inr (.inr (zq [some b0, some b1, none, none])))))), (xq, .inl (cq, 16, .inr (.inr (.inr (.inr (zq [none, none, none, none, none, none, none, none, none, none, none, none, none, none, none, none])))))), (b0, .inr (2, [.ref gx0, .int 99, .int (nI (zS 99 30 10)), .int (nI (0 + ((0 + 10) / 50 - 0 / 50))), .int (nI (0 + 10))])), (b1, .inr (2, [.ref gx1, .int 99, .int (nI (zS 99 30 10)), .int (nI (0 + ((0 + 10) / 50 - 0 / 50))), .int (nI (0 + 10))])), (r1, .inr (4, [.int 0, .int p1])), (r2, .inr (4, [.int 0, .int p2])), (r3, .inr (4, [.int 0, .int p3])), (r4, .inr (4, [.int 0, .int p4]))] : va_W) = [(xo, .inr (6, [.ref xg, .int gc, .ref xp, .int pc, .ref xq, .int qc, .ref r1, .ref r2, .ref r3, .ref r4, .ref se, .int ts, .int 10, .int dr, .int su, .int br])), (xp, .inl (cp, 4, .inr (.inr (.inr (.inr (zq [some b0, some b1, none, none])))))), (xq, .inl (cq, 16, .inr (.inr (.inr (.inr (zq [none, none, none, none, none, none, none, none, none, none, none, none, none, none, none, none])))))), (b0, .inr (2, [.ref gx0, .int 99, .int 10, .int 0, .int 10])), (b1, .inr (2, [.ref gx1, .int 99, .int 10, .int 0, .int 10])), (r1, .inr (4, [.int 0, .int p1])), (r2, .inr (4, [.int 0, .int p2])), (r3, .inr (4, [.int 0, .int p3])), (r4, .inr (4, [.int 0, .int p4]))] := by
        have z_539 : (nI (0 + 10) : Int32) = 10 := (by first | rfl | exact congrArg nI (by omega) | exact congrArg nI (by simp only [zS]; omega) | exact congrArg nI (by simp only [zS]; split <;> omega) | exact congrArg nI (by simp only [zS]; split <;> split <;> omega) | (simp only [zS]; omega) | (simp only [zS]; split <;> omega))
        have z_540 : (nI (zS 99 30 10) : Int32) = 10 := (by first | rfl | exact congrArg nI (by omega) | exact congrArg nI (by simp only [zS]; omega) | exact congrArg nI (by simp only [zS]; split <;> omega) | exact congrArg nI (by simp only [zS]; split <;> split <;> omega) | (simp only [zS]; omega) | (simp only [zS]; split <;> omega))
        have z_541 : (nI (0 + ((0 + 10) / 50 - 0 / 50)) : Int32) = 0 := (by first | rfl | exact congrArg nI (by omega) | exact congrArg nI (by simp only [zS]; omega) | exact congrArg nI (by simp only [zS]; split <;> omega) | exact congrArg nI (by simp only [zS]; split <;> split <;> omega) | (simp only [zS]; omega) | (simp only [zS]; split <;> omega))
        first | rfl | rw [z_539, z_540, z_541] | rw [← z_539, ← z_540, ← z_541] | simp only [z_539, z_540, z_541]
      have hP : va_P D vwCl [(xo, .inr (6, [.ref xg, .int gc, .ref xp, .int pc, .ref xq, .int qc, .ref r1, .ref r2, .ref r3, .ref r4, .ref se, .int ts, .int 10, .int dr, .int su, .int br])), (xp, .inl (cp, 4, .inr (.inr (.inr (.inr (zq [some b0, some b1, none, none])))))), (xq, .inl (cq, 16, .inr (.inr (.inr (.inr (zq [none, none, none, none, none, none, none, none, none, none, none, none, none, none, none, none])))))), (b0, .inr (2, [.ref gx0, .int 99, .int 10, .int 0, .int 10])), (b1, .inr (2, [.ref gx1, .int 99, .int 10, .int 0, .int 10])), (r1, .inr (4, [.int 0, .int p1])), (r2, .inr (4, [.int 0, .int p2])), (r3, .inr (4, [.int 0, .int p3])), (r4, .inr (4, [.int 0, .int p4]))] H := by rw [← hw9]; exact hP
      have hD : va_D A [(xo, .inr (6, [.ref xg, .int gc, .ref xp, .int pc, .ref xq, .int qc, .ref r1, .ref r2, .ref r3, .ref r4, .ref se, .int ts, .int 10, .int dr, .int su, .int br])), (xp, .inl (cp, 4, .inr (.inr (.inr (.inr (zq [some b0, some b1, none, none])))))), (xq, .inl (cq, 16, .inr (.inr (.inr (.inr (zq [none, none, none, none, none, none, none, none, none, none, none, none, none, none, none, none])))))), (b0, .inr (2, [.ref gx0, .int 99, .int 10, .int 0, .int 10])), (b1, .inr (2, [.ref gx1, .int 99, .int 10, .int 0, .int 10])), (r1, .inr (4, [.int 0, .int p1])), (r2, .inr (4, [.int 0, .int p2])), (r3, .inr (4, [.int 0, .int p3])), (r4, .inr (4, [.int 0, .int p4]))] := by rw [← hw9]; exact hD
      exact W.iret (v := 0) hx hb hr (fun t ht hW => ⟨⟨0, (), rfl, rfl, q_RW_mk hP hK hD [0, 1, 2, 3, 4, 5, 6, 7, 8] [0, 1] rfl rfl (by decide) rfl ht hW.alike⟩, hS.F ht⟩) hS.2.2 dX6_hours_35
