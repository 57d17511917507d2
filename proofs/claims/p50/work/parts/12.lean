theorem dL_ask_260 : decode cL_ask 260 = .ok (.ireturn, 1) := by decide +kernel
def wzEL_ask_glass_0 : List Cond := [.codeWith yL_ask cL_ask 4 (some .int) ttL_ask, .methodLink RL 7 yX6_glass, .instanceMethod yX6_glass, .selects RX6 yX6_glass yX6_glass, .initialized RX6, .code yX6_glass cX6_glass 5 (some .int), .methodLink RX6 75 yX6_checkRange, .static yX6_checkRange, .code yX6_checkRange cX6_checkRange 3 none, .fieldLink RX6 15 "Gatherhouse" "glassCount" "I", .fieldLink RX6 11 "Gatherhouse" "glasses" "[LGatherhouse$Glass;", .classLink RX6 9 RX0, .instantiable RX0 4, .initialized RX0, .code yX0_init cX0_init 5 none, .methodLink RX0 3 objectInit, .instanceMethod objectInit, .code objectInit ⟨#[0xb1]⟩ 1 none, .fieldLink RX0 9 "Gatherhouse$Glass" "low" "I", .fieldLink RX0 15 "Gatherhouse$Glass" "high" "I", .fieldLink RX0 18 "Gatherhouse$Glass" "expansion" "I", .fieldLink RX0 21 "Gatherhouse$Glass" "colour" "I", .instanceMethod yX0_init]
def wzL_ask_glass_0 : List Cond := wzEL_ask_glass_0 ++ (u_ws RX6 TX6 16 ++ (u_ws RX0 TX0 4))
theorem zgEL_ask_glass_0 : wzEL_ask_glass_0.all goodWord = true := by decide +kernel
theorem zuL_ask_glass_0_X6 : ∀ w ∈ u_ws RX6 TX6 16, w ∈ wzL_ask_glass_0 := (fun _ h => (List.mem_append_right _ (List.mem_append_left _ h)))
theorem zuL_ask_glass_0_X0 : ∀ w ∈ u_ws RX0 TX0 4, w ∈ wzL_ask_glass_0 := (fun _ h => (List.mem_append_right _ (List.mem_append_right _ h)))
theorem gzL_ask_glass_0_X6_glass_0_7 : GoodIn wzL_ask_glass_0 (wsV RL 7 RX6 yX6_glass wzX6_glass_0) := (goodIn_app (z_lift (goodIn_r _ [1, 2, 3, 4] rfl (by decide +kernel))) (goodIn_app (z_lift (goodIn_r wzEX6_glass_0 [5, 6, 7, 4, 8, 9, 10, 11, 12, 13, 14, 15, 16, 17, 18, 19, 20, 21, 22] rfl zgEX6_glass_0)) (goodIn_app (goodIn_sub (fun _ h => (List.mem_append_right _ (List.mem_append_left _ h))) zgU_X6) (goodIn_sub (fun _ h => (List.mem_append_right _ (List.mem_append_right _ h))) zgU_X0))))
set_option maxHeartbeats 4000000 in
set_option maxRecDepth 100000 in
theorem zc_L_ask_glass_0 (l : Launch) (hnt : l.stackTraces = false) (D : va_G) (G : Nat × Nat × (Nat → Int32)) (xo : Nat) (va : Nat) (xg : Nat) (xp : Nat) (pc : Int32) (xq : Nat) (qc : Int32) (r1 : Nat) (r2 : Nat) (r3 : Nat) (r4 : Nat) (se : Nat) (ts : Int32) (hou : Int32) (dr : Int32) (su : Int32) (br : Int32) (cg : ClassId) (ci : ClassId) (lo : Nat) (hi : Nat) (xe : Nat) (co : Nat) (sz : Nat) (g1 : lo ≤ hi) (hl_lo : 600 ≤ lo) (hh_lo : lo ≤ 1100) (hl_hi : 600 ≤ hi) (hh_hi : hi ≤ 1100) (hl_xe : 50 ≤ xe) (hh_xe : xe ≤ 150) (hh_co : co ≤ 9) : vx_Met l yL_ask wzL_ask_glass_0 ({ frames := 3, cells := 1, slots := 4, locals := 60 }) (va_Pc [.ref xo, .int 71, .ref va] (p_RW D G [(cg, .object "Gatherhouse$Glass"), (ci, .int)] [(xo, .inr (6, [.ref xg, .int 0, .ref xp, .int pc, .ref xq, .int qc, .ref r1, .ref r2, .ref r3, .ref r4, .ref se, .int ts, .int hou, .int dr, .int su, .int br])), (xg, .inl (cg, 6, .inr (.inr (.inr (.inr (zq [none, none, none, none, none, none])))))), (va, .inl (ci, 4, .inl (zi [nI lo, nI hi, nI xe, nI co])))] sz)) (va_Qi (fun (r : Int32) (u : Unit) => r = 0) (fun (u : Unit) (t : State) => ∃ (gn : Nat), q_RW D [(cg, .object "Gatherhouse$Glass")] [(xo, .inr (6, [.ref xg, .int 1, .ref xp, .int pc, .ref xq, .int qc, .ref r1, .ref r2, .ref r3, .ref r4, .ref se, .int ts, .int hou, .int dr, .int su, .int br])), (xg, .inl (cg, 6, .inr (.inr (.inr (.inr (zq [some gn, none, none, none, none, none])))))), (gn, .inr (0, [.int (nI lo), .int (nI hi), .int (nI xe), .int (nI co)]))] (va_A [(xo, .inr (6, [.ref xg, .int 0, .ref xp, .int pc, .ref xq, .int qc, .ref r1, .ref r2, .ref r3, .ref r4, .ref se, .int ts, .int hou, .int dr, .int su, .int br])), (xg, .inl (cg, 6, .inr (.inr (.inr (.inr (zq [none, none, none, none, none, none])))))), (va, .inl (ci, 4, .inl (zi [nI lo, nI hi, nI xe, nI co])))] sz) t) (va_A [(xo, .inr (6, [.ref xg, .int 0, .ref xp, .int pc, .ref xq, .int qc, .ref r1, .ref r2, .ref r3, .ref r4, .ref se, .int ts, .int hou, .int dr, .int su, .int br])), (xg, .inl (cg, 6, .inr (.inr (.inr (.inr (zq [none, none, none, none, none, none])))))), (va, .inl (ci, 4, .inl (zi [nI lo, nI hi, nI xe, nI co])))] sz)) (vx_X (fun (_ : Unit) => True) (fun E (_ : Unit) (_ : State) => False) (va_A [(xo, .inr (6, [.ref xg, .int 0, .ref xp, .int pc, .ref xq, .int qc, .ref r1, .ref r2, .ref r3, .ref r4, .ref se, .int ts, .int hou, .int dr, .int su, .int br])), (xg, .inl (cg, 6, .inr (.inr (.inr (.inr (zq [none, none, none, none, none, none])))))), (va, .inl (ci, 4, .inl (zi [nI lo, nI hi, nI xe, nI co])))] sz)) 1 4 (va_A [(xo, .inr (6, [.ref xg, .int 0, .ref xp, .int pc, .ref xq, .int qc, .ref r1, .ref r2, .ref r3, .ref r4, .ref se, .int ts, .int hou, .int dr, .int su, .int br])), (xg, .inl (cg, 6, .inr (.inr (.inr (.inr (zq [none, none, none, none, none, none])))))), (va, .inl (ci, 4, .inl (zi [nI lo, nI hi, nI xe, nI co])))] sz) := by
  refine vx_ofWH (cc := cL_ask) (maxL := 4) (ret := (some .int)) (by decide) rfl ?_
  intro p e s m args below meth c s₁ B hml hv
  obtain ⟨rfl, hsz, hP, hK, hD0, hT, hZ⟩ := hv
  have hx := B.exec
  have hb := B.bytes
  have hr := B.returns
  have hts := atoms_spec (ws := wzL_ask_glass_0) B.pre
  have hown : s.vm.findClass RL = some m.cls := findClass_of_methodNamed B.named
  have hlocks := B.notSynchronized
  have hxe := vx_table (x := yL_ask) B (hts _ List.mem_cons_self)
  subst hsz
  have hD := hD0.self (sz := s.heap.size)
  generalize hAe : va_A [(xo, .inr (6, [.ref xg, .int 0, .ref xp, .int pc, .ref xq, .int qc, .ref r1, .ref r2, .ref r3, .ref r4, .ref se, .int ts, .int hou, .int dr, .int su, .int br])), (xg, .inl (cg, 6, .inr (.inr (.inr (.inr (zq [none, none, none, none, none, none])))))), (va, .inl (ci, 4, .inl (zi [nI lo, nI hi, nI xe, nI co])))] s.heap.size = A at hD hZ ⊢
  have hA : ∀ q : Nat, s.heap.size ≤ q → A q := fun q h => by rw [← hAe]; exact Or.inr h
  have hS : va_S A s.heap s.heap [] := va_S.rf
  have hl := lv_entry ([.ref xo, .int 71, .ref va]) (n := 4) (Nat.le_of_ble_eq_true rfl)
  rw [lg_entry_eq]
  generalize (lg_sl ([.ref xo, .int 71, .ref va]) ++ List.replicate (4 - (lg_sl ([.ref xo, .int 71, .ref va])).length) Slot.unset).toArray = ls at hl ⊢
  have hl : lv_has ls 4 [(0, .ref xo), (1, .int 71), (2, .ref va)] := hl
  refine lv_iload_n hx hb dL_ask_0 rfl (lv_at hl 1 rfl) ?_
  refine lv_tableIn (off := 243) (tgt := 244) hx hb dL_ask_1 (by decide +kernel) (by decide +kernel) (by decide +kernel) (by decide) ?_
  refine lv_aload_n hx hb dL_ask_244 rfl (lv_at hl 0 rfl) ?_
  refine lv_aload_n hx hb dL_ask_245 rfl (lv_at hl 2 rfl) ?_
  refine lv_iconst (v := 0) hx hb dL_ask_246 (by decide) ?_
  refine va_iald (D := D) (cl := vwCl) hx hb hK hP 2 1 rfl rfl (vp_in_nI (n := 0) (N := 4) (by decide) (by decide)) dL_ask_247 ?_
  refine W.eq (g2 := F0 m 248 ls [.int (nI lo), .ref xo]) rfl ?_
  refine lv_aload_n hx hb dL_ask_248 rfl (lv_at hl 2 rfl) ?_
  refine lv_iconst (v := 1) hx hb dL_ask_249 (by decide) ?_
  refine va_iald (D := D) (cl := vwCl) hx hb hK hP 2 1 rfl rfl (vp_in_nI (n := 1) (N := 4) (by decide) (by decide)) dL_ask_250 ?_
  refine W.eq (g2 := F0 m 251 ls [.int (nI hi), .int (nI lo), .ref xo]) rfl ?_
  refine lv_aload_n hx hb dL_ask_251 rfl (lv_at hl 2 rfl) ?_
  refine lv_iconst (v := 2) hx hb dL_ask_252 (by decide) ?_
  refine va_iald (D := D) (cl := vwCl) hx hb hK hP 2 1 rfl rfl (vp_in_nI (n := 2) (N := 4) (by decide) (by decide)) dL_ask_253 ?_
  refine W.eq (g2 := F0 m 254 ls [.int (nI xe), .int (nI hi), .int (nI lo), .ref xo]) rfl ?_
  refine lv_aload_n hx hb dL_ask_254 rfl (lv_at hl 2 rfl) ?_
  refine lv_iconst (v := 3) hx hb dL_ask_255 (by decide) ?_
  refine va_iald (D := D) (cl := vwCl) hx hb hK hP 2 1 rfl rfl (vp_in_nI (n := 3) (N := 4) (by decide) (by decide)) dL_ask_256 ?_
  refine W.eq (g2 := F0 m 257 ls [.int (nI co), .int (nI xe), .int (nI hi), .int (nI lo), .ref xo]) rfl ?_
  have hFc := va_free (wc := [(xo, .inr (6, [.ref xg, .int 0, .ref xp, .int pc, .ref xq, .int qc, .ref r1, .ref r2, .ref r3, .ref r4, .ref se, .int ts, .int hou, .int dr, .int su, .int br])), (xg, .inl (cg, 6, .inr (.inr (.inr (.inr (zq [none, none, none, none, none, none]))))))]) hD hS hA [0, 1] rfl
  refine vx_calli (vx_runV (As := [.int (nI lo), .int (nI hi), .int (nI xe), .int (nI co)]) (rest := []) ⟨hx, hb, hml, hown, hts⟩ (zc_X6_glass_0 l hnt D G xo lo hi xe co xg xp pc xq qc r1 r2 r3 r4 se ts hou dr su br cg s.heap.size (by first | assumption | rfl | omega | exact Nat.le_trans (zS_le _ _ _) (by omega) | decide) (by first | assumption | rfl | omega | exact Nat.le_trans (zS_le _ _ _) (by omega) | decide) (by first | assumption | rfl | omega | exact Nat.le_trans (zS_le _ _ _) (by omega) | decide) (by first | assumption | rfl | omega | exact Nat.le_trans (zS_le _ _ _) (by omega) | decide) (by first | assumption | rfl | omega | exact Nat.le_trans (zS_le _ _ _) (by omega) | decide) (by first | assumption | rfl | omega | exact Nat.le_trans (zS_le _ _ _) (by omega) | decide) (by first | assumption | rfl | omega | exact Nat.le_trans (zS_le _ _ _) (by omega) | decide) (by first | assumption | rfl | omega | exact Nat.le_trans (zS_le _ _ _) (by omega) | decide)) (cwV 4 hts gzL_ask_glass_0_X6_glass_0_7 rfl rfl rfl (by decide +kernel) ⟨(Nat.le_of_ble_eq_true rfl), (Nat.le_of_ble_eq_true rfl)⟩) ⟨p_RW_blind, va_recv hK hP (ci := 6) (q0 := 0) rfl rfl, (p_RW_at (tc := [(cg, .object "Gatherhouse$Glass")]) (wc := [(xo, .inr (6, [.ref xg, .int 0, .ref xp, .int pc, .ref xq, .int qc, .ref r1, .ref r2, .ref r3, .ref r4, .ref se, .int ts, .int hou, .int dr, .int su, .int br])), (xg, .inl (cg, 6, .inr (.inr (.inr (.inr (zq [none, none, none, none, none, none]))))))]) hP hK hD hS hA hT hZ [0, 1] [0] rfl rfl (by decide) rfl [.ref xo, .int (nI lo), .int (nI hi), .int (nI xe), .int (nI co)])⟩ rfl rfl hl.1 rfl (lv_room (Nat.le_of_ble_eq_true rfl)) dL_ask_257 ⟨(Nat.le_of_ble_eq_true rfl), (Nat.le_of_ble_eq_true rfl)⟩) hS (fun q _ h => hFc q h) hFc (fun q _ h => hFc q h) (fun E ce q9 u t H locs ht hvm hpx hBX hz1 hk1 hS hce hcv hcl => ?_) (fun r_1321 u t H locs ht hvm w_1322 hB hz1 hk1 hS => ?_)
  · exact (show False from hBX).elim
  · obtain ⟨v_1323, hB⟩ := hB
    obtain ⟨hP, hD, hK⟩ := q_join (D := D) (wc := [(xo, .inr (6, [.ref xg, .int 0, .ref xp, .int pc, .ref xq, .int qc, .ref r1, .ref r2, .ref r3, .ref r4, .ref se, .int ts, .int hou, .int dr, .int su, .int br])), (xg, .inl (cg, 6, .inr (.inr (.inr (.inr (zq [none, none, none, none, none, none]))))))]) (wr := [(va, .inl (ci, 4, .inl (zi [nI lo, nI hi, nI xe, nI co])))]) (w1 := [(xo, .inr (6, [.ref xg, .int 1, .ref xp, .int pc, .ref xq, .int qc, .ref r1, .ref r2, .ref r3, .ref r4, .ref se, .int ts, .int hou, .int dr, .int su, .int br])), (xg, .inl (cg, 6, .inr (.inr (.inr (.inr (zq [some v_1323, none, none, none, none, none])))))), (v_1323, .inr (0, [.int (nI lo), .int (nI hi), .int (nI xe), .int (nI co)]))]) (tyr := [(ci, .int)]) (ty1 := [(cg, .object "Gatherhouse$Glass")]) hP hD hK [0, 1] [2] [1] rfl rfl (by decide) (by decide) rfl hFc hk1 ht hvm hB
    have hP : va_P D vwCl [(va, .inl (ci, 4, .inl (zi [nI lo, nI hi, nI xe, nI co]))), (xo, .inr (6, [.ref xg, .int 1, .ref xp, .int pc, .ref xq, .int qc, .ref r1, .ref r2, .ref r3, .ref r4, .ref se, .int ts, .int hou, .int dr, .int su, .int br])), (xg, .inl (cg, 6, .inr (.inr (.inr (.inr (zq [some v_1323, none, none, none, none, none])))))), (v_1323, .inr (0, [.int (nI lo), .int (nI hi), .int (nI xe), .int (nI co)]))] H := hP
    have hD : va_D A [(va, .inl (ci, 4, .inl (zi [nI lo, nI hi, nI xe, nI co]))), (xo, .inr (6, [.ref xg, .int 1, .ref xp, .int pc, .ref xq, .int qc, .ref r1, .ref r2, .ref r3, .ref r4, .ref se, .int ts, .int hou, .int dr, .int su, .int br])), (xg, .inl (cg, 6, .inr (.inr (.inr (.inr (zq [some v_1323, none, none, none, none, none])))))), (v_1323, .inr (0, [.int (nI lo), .int (nI hi), .int (nI xe), .int (nI co)]))] := hD
    have hK : va_K D vwCl [(ci, .int), (cg, .object "Gatherhouse$Glass")] s := hK
    refine W.widen (k := 1) (n := 4) (Nat.le_of_ble_eq_true rfl) (Nat.le_of_ble_eq_true rfl) ?_
    obtain rfl := w_1322
    refine vx_ret ?_
    exact W.iret (v := 0) hx hb hr (fun t ht hW => ⟨⟨0, (), rfl, rfl, ⟨v_1323, q_RW_mk hP hK hD [1, 2, 3] [1] rfl rfl (by decide) rfl ht hW.alike⟩⟩, hS.F ht⟩) hS.2.2 dL_ask_260
def wzEL_ask_glass_1 : List Cond := [.codeWith yL_ask cL_ask 4 (some .int) ttL_ask, .methodLink RL 7 yX6_glass, .instanceMethod yX6_glass, .selects RX6 yX6_glass yX6_glass, .initialized RX6, .code yX6_glass cX6_glass 5 (some .int), .methodLink RX6 75 yX6_checkRange, .static yX6_checkRange, .code yX6_checkRange cX6_checkRange 3 none, .fieldLink RX6 15 "Gatherhouse" "glassCount" "I", .fieldLink RX6 11 "Gatherhouse" "glasses" "[LGatherhouse$Glass;", .classLink RX6 9 RX0, .instantiable RX0 4, .initialized RX0, .code yX0_init cX0_init 5 none, .methodLink RX0 3 objectInit, .instanceMethod objectInit, .code objectInit ⟨#[0xb1]⟩ 1 none, .fieldLink RX0 9 "Gatherhouse$Glass" "low" "I", .fieldLink RX0 15 "Gatherhouse$Glass" "high" "I", .fieldLink RX0 18 "Gatherhouse$Glass" "expansion" "I", .fieldLink RX0 21 "Gatherhouse$Glass" "colour" "I", .instanceMethod yX0_init]
def wzL_ask_glass_1 : List Cond := wzEL_ask_glass_1 ++ (u_ws RX6 TX6 16 ++ (u_ws RX0 TX0 4))
theorem zgEL_ask_glass_1 : wzEL_ask_glass_1.all goodWord = true := by decide +kernel
theorem zuL_ask_glass_1_X6 : ∀ w ∈ u_ws RX6 TX6 16, w ∈ wzL_ask_glass_1 := (fun _ h => (List.mem_append_right _ (List.mem_append_left _ h)))
theorem zuL_ask_glass_1_X0 : ∀ w ∈ u_ws RX0 TX0 4, w ∈ wzL_ask_glass_1 := (fun _ h => (List.mem_append_right _ (List.mem_append_right _ h)))
theorem gzL_ask_glass_1_X6_glass_1_7 : GoodIn wzL_ask_glass_1 (wsV RL 7 RX6 yX6_glass wzX6_glass_1) := (goodIn_app (z_lift (goodIn_r _ [1, 2, 3, 4] rfl (by decide +kernel))) (goodIn_app (z_lift (goodIn_r wzEX6_glass_1 [5, 6, 7, 4, 8, 9, 10, 11, 12, 13, 14, 15, 16, 17, 18, 19, 20, 21, 22] rfl zgEX6_glass_1)) (goodIn_app (goodIn_sub (fun _ h => (List.mem_append_right _ (List.mem_append_left _ h))) zgU_X6) (goodIn_sub (fun _ h => (List.mem_append_right _ (List.mem_append_right _ h))) zgU_X0))))
set_option maxHeartbeats 4000000 in
set_option maxRecDepth 100000 in
theorem zc_L_ask_glass_1 (l : Launch) (hnt : l.stackTraces = false) (D : va_G) (G : Nat × Nat × (Nat → Int32)) (xo : Nat) (va : Nat) (xg : Nat) (xp : Nat) (pc : Int32) (xq : Nat) (qc : Int32) (r1 : Nat) (r2 : Nat) (r3 : Nat) (r4 : Nat) (se : Nat) (ts : Int32) (hou : Int32) (dr : Int32) (su : Int32) (br : Int32) (cg : ClassId) (a0 : Nat) (ci : ClassId) (lo : Nat) (hi : Nat) (xe : Nat) (co : Nat) (sz : Nat) (g1 : lo ≤ hi) (hl_lo : 600 ≤ lo) (hh_lo : lo ≤ 1100) (hl_hi : 600 ≤ hi) (hh_hi : hi ≤ 1100) (hl_xe : 50 ≤ xe) (hh_xe : xe ≤ 150) (hh_co : co ≤ 9) : vx_Met l yL_ask wzL_ask_glass_1 ({ frames := 3, cells := 1, slots := 4, locals := 60 }) (va_Pc [.ref xo, .int 71, .ref va] (p_RW D G [(cg, .object "Gatherhouse$Glass"), (ci, .int)] [(xo, .inr (6, [.ref xg, .int 1, .ref xp, .int pc, .ref xq, .int qc, .ref r1, .ref r2, .ref r3, .ref r4, .ref se, .int ts, .int hou, .int dr, .int su, .int br])), (xg, .inl (cg, 6, .inr (.inr (.inr (.inr (zq [some a0, none, none, none, none, none])))))), (va, .inl (ci, 4, .inl (zi [nI lo, nI hi, nI xe, nI co])))] sz)) (va_Qi (fun (r : Int32) (u : Unit) => r = 1) (fun (u : Unit) (t : State) => ∃ (gn : Nat), q_RW D [(cg, .object "Gatherhouse$Glass")] [(xo, .inr (6, [.ref xg, .int 2, .ref xp, .int pc, .ref xq, .int qc, .ref r1, .ref r2, .ref r3, .ref r4, .ref se, .int ts, .int hou, .int dr, .int su, .int br])), (xg, .inl (cg, 6, .inr (.inr (.inr (.inr (zq [some a0, some gn, none, none, none, none])))))), (gn, .inr (0, [.int (nI lo), .int (nI hi), .int (nI xe), .int (nI co)]))] (va_A [(xo, .inr (6, [.ref xg, .int 1, .ref xp, .int pc, .ref xq, .int qc, .ref r1, .ref r2, .ref r3, .ref r4, .ref se, .int ts, .int hou, .int dr, .int su, .int br])), (xg, .inl (cg, 6, .inr (.inr (.inr (.inr (zq [some a0, none, none, none, none, none])))))), (va, .inl (ci, 4, .inl (zi [nI lo, nI hi, nI xe, nI co])))] sz) t) (va_A [(xo, .inr (6, [.ref xg, .int 1, .ref xp, .int pc, .ref xq, .int qc, .ref r1, .ref r2, .ref r3, .ref r4, .ref se, .int ts, .int hou, .int dr, .int su, .int br])), (xg, .inl (cg, 6, .inr (.inr (.inr (.inr (zq [some a0, none, none, none, none, none])))))), (va, .inl (ci, 4, .inl (zi [nI lo, nI hi, nI xe, nI co])))] sz)) (vx_X (fun (_ : Unit) => True) (fun E (_ : Unit) (_ : State) => False) (va_A [(xo, .inr (6, [.ref xg, .int 1, .ref xp, .int pc, .ref xq, .int qc, .ref r1, .ref r2, .ref r3, .ref r4, .ref se, .int ts, .int hou, .int dr, .int su, .int br])), (xg, .inl (cg, 6, .inr (.inr (.inr (.inr (zq [some a0, none, none, none, none, none])))))), (va, .inl (ci, 4, .inl (zi [nI lo, nI hi, nI xe, nI co])))] sz)) 1 4 (va_A [(xo, .inr (6, [.ref xg, .int 1, .ref xp, .int pc, .ref xq, .int qc, .ref r1, .ref r2, .ref r3, .ref r4, .ref se, .int ts, .int hou, .int dr, .int su, .int br])), (xg, .inl (cg, 6, .inr (.inr (.inr (.inr (zq [some a0, none, none, none, none, none])))))), (va, .inl (ci, 4, .inl (zi [nI lo, nI hi, nI xe, nI co])))] sz) := by
  refine vx_ofWH (cc := cL_ask) (maxL := 4) (ret := (some .int)) (by decide) rfl ?_
  intro p e s m args below meth c s₁ B hml hv
  obtain ⟨rfl, hsz, hP, hK, hD0, hT, hZ⟩ := hv
  have hx := B.exec
  have hb := B.bytes
  have hr := B.returns
  have hts := atoms_spec (ws := wzL_ask_glass_1) B.pre
  have hown : s.vm.findClass RL = some m.cls := findClass_of_methodNamed B.named
  have hlocks := B.notSynchronized
  have hxe := vx_table (x := yL_ask) B (hts _ List.mem_cons_self)
  subst hsz
  have hD := hD0.self (sz := s.heap.size)
  generalize hAe : va_A [(xo, .inr (6, [.ref xg, .int 1, .ref xp, .int pc, .ref xq, .int qc, .ref r1, .ref r2, .ref r3, .ref r4, .ref se, .int ts, .int hou, .int dr, .int su, .int br])), (xg, .inl (cg, 6, .inr (.inr (.inr (.inr (zq [some a0, none, none, none, none, none])))))), (va, .inl (ci, 4, .inl (zi [nI lo, nI hi, nI xe, nI co])))] s.heap.size = A at hD hZ ⊢
  have hA : ∀ q : Nat, s.heap.size ≤ q → A q := fun q h => by rw [← hAe]; exact Or.inr h
  have hS : va_S A s.heap s.heap [] := va_S.rf
  have hl := lv_entry ([.ref xo, .int 71, .ref va]) (n := 4) (Nat.le_of_ble_eq_true rfl)
  rw [lg_entry_eq]
  generalize (lg_sl ([.ref xo, .int 71, .ref va]) ++ List.replicate (4 - (lg_sl ([.ref xo, .int 71, .ref va])).length) Slot.unset).toArray = ls at hl ⊢
  have hl : lv_has ls 4 [(0, .ref xo), (1, .int 71), (2, .ref va)] := hl
  refine lv_iload_n hx hb dL_ask_0 rfl (lv_at hl 1 rfl) ?_
  refine lv_tableIn (off := 243) (tgt := 244) hx hb dL_ask_1 (by decide +kernel) (by decide +kernel) (by decide +kernel) (by decide) ?_
  refine lv_aload_n hx hb dL_ask_244 rfl (lv_at hl 0 rfl) ?_
  refine lv_aload_n hx hb dL_ask_245 rfl (lv_at hl 2 rfl) ?_
  refine lv_iconst (v := 0) hx hb dL_ask_246 (by decide) ?_
  refine va_iald (D := D) (cl := vwCl) hx hb hK hP 2 1 rfl rfl (vp_in_nI (n := 0) (N := 4) (by decide) (by decide)) dL_ask_247 ?_
  refine W.eq (g2 := F0 m 248 ls [.int (nI lo), .ref xo]) rfl ?_
  refine lv_aload_n hx hb dL_ask_248 rfl (lv_at hl 2 rfl) ?_
  refine lv_iconst (v := 1) hx hb dL_ask_249 (by decide) ?_
  refine va_iald (D := D) (cl := vwCl) hx hb hK hP 2 1 rfl rfl (vp_in_nI (n := 1) (N := 4) (by decide) (by decide)) dL_ask_250 ?_
  refine W.eq (g2 := F0 m 251 ls [.int (nI hi), .int (nI lo), .ref xo]) rfl ?_
  refine lv_aload_n hx hb dL_ask_251 rfl (lv_at hl 2 rfl) ?_
  refine lv_iconst (v := 2) hx hb dL_ask_252 (by decide) ?_
  refine va_iald (D := D) (cl := vwCl) hx hb hK hP 2 1 rfl rfl (vp_in_nI (n := 2) (N := 4) (by decide) (by decide)) dL_ask_253 ?_
  refine W.eq (g2 := F0 m 254 ls [.int (nI xe), .int (nI hi), .int (nI lo), .ref xo]) rfl ?_
  refine lv_aload_n hx hb dL_ask_254 rfl (lv_at hl 2 rfl) ?_
  refine lv_iconst (v := 3) hx hb dL_ask_255 (by decide) ?_
  refine va_iald (D := D) (cl := vwCl) hx hb hK hP 2 1 rfl rfl (vp_in_nI (n := 3) (N := 4) (by decide) (by decide)) dL_ask_256 ?_
  refine W.eq (g2 := F0 m 257 ls [.int (nI co), .int (nI xe), .int (nI hi), .int (nI lo), .ref xo]) rfl ?_
  have hFc := va_free (wc := [(xo, .inr (6, [.ref xg, .int 1, .ref xp, .int pc, .ref xq, .int qc, .ref r1, .ref r2, .ref r3, .ref r4, .ref se, .int ts, .int hou, .int dr, .int su, .int br])), (xg, .inl (cg, 6, .inr (.inr (.inr (.inr (zq [some a0, none, none, none, none, none]))))))]) hD hS hA [0, 1] rfl
  refine vx_calli (vx_runV (As := [.int (nI lo), .int (nI hi), .int (nI xe), .int (nI co)]) (rest := []) ⟨hx, hb, hml, hown, hts⟩ (zc_X6_glass_1 l hnt D G xo lo hi xe co xg xp pc xq qc r1 r2 r3 r4 se ts hou dr su br cg a0 s.heap.size (by first | assumption | rfl | omega | exact Nat.le_trans (zS_le _ _ _) (by omega) | decide) (by first | assumption | rfl | omega | exact Nat.le_trans (zS_le _ _ _) (by omega) | decide) (by first | assumption | rfl | omega | exact Nat.le_trans (zS_le _ _ _) (by omega) | decide) (by first | assumption | rfl | omega | exact Nat.le_trans (zS_le _ _ _) (by omega) | decide) (by first | assumption | rfl | omega | exact Nat.le_trans (zS_le _ _ _) (by omega) | decide) (by first | assumption | rfl | omega | exact Nat.le_trans (zS_le _ _ _) (by omega) | decide) (by first | assumption | rfl | omega | exact Nat.le_trans (zS_le _ _ _) (by omega) | decide) (by first | assumption | rfl | omega | exact Nat.le_trans (zS_le _ _ _) (by omega) | decide)) (cwV 4 hts gzL_ask_glass_1_X6_glass_1_7 rfl rfl rfl (by decide +kernel) ⟨(Nat.le_of_ble_eq_true rfl), (Nat.le_of_ble_eq_true rfl)⟩) ⟨p_RW_blind, va_recv hK hP (ci := 6) (q0 := 0) rfl rfl, (p_RW_at (tc := [(cg, .object "Gatherhouse$Glass")]) (wc := [(xo, .inr (6, [.ref xg, .int 1, .ref xp, .int pc, .ref xq, .int qc, .ref r1, .ref r2, .ref r3, .ref r4, .ref se, .int ts, .int hou, .int dr, .int su, .int br])), (xg, .inl (cg, 6, .inr (.inr (.inr (.inr (zq [some a0, none, none, none, none, none]))))))]) hP hK hD hS hA hT hZ [0, 1] [0] rfl rfl (by decide) rfl [.ref xo, .int (nI lo), .int (nI hi), .int (nI xe), .int (nI co)])⟩ rfl rfl hl.1 rfl (lv_room (Nat.le_of_ble_eq_true rfl)) dL_ask_257 ⟨(Nat.le_of_ble_eq_true rfl), (Nat.le_of_ble_eq_true rfl)⟩) hS (fun q _ h => hFc q h) hFc (fun q _ h => hFc q h) (fun E ce q9 u t H locs ht hvm hpx hBX hz1 hk1 hS hce hcv hcl => ?_) (fun r_1324 u t H locs ht hvm w_1325 hB hz1 hk1 hS => ?_)
  · exact (show False from hBX).elim
  · obtain ⟨v_1326, hB⟩ := hB
    obtain ⟨hP, hD, hK⟩ := q_join (D := D) (wc := [(xo, .inr (6, [.ref xg, .int 1, .ref xp, .int pc, .ref xq, .int qc, .ref r1, .ref r2, .ref r3, .ref r4, .ref se, .int ts, .int hou, .int dr, .int su, .int br])), (xg, .inl (cg, 6, .inr (.inr (.inr (.inr (zq [some a0, none, none, none, none, none]))))))]) (wr := [(va, .inl (ci, 4, .inl (zi [nI lo, nI hi, nI xe, nI co])))]) (w1 := [(xo, .inr (6, [.ref xg, .int 2, .ref xp, .int pc, .ref xq, .int qc, .ref r1, .ref r2, .ref r3, .ref r4, .ref se, .int ts, .int hou, .int dr, .int su, .int br])), (xg, .inl (cg, 6, .inr (.inr (.inr (.inr (zq [some a0, some v_1326, none, none, none, none])))))), (v_1326, .inr (0, [.int (nI lo), .int (nI hi), .int (nI xe), .int (nI co)]))]) (tyr := [(ci, .int)]) (ty1 := [(cg, .object "Gatherhouse$Glass")]) hP hD hK [0, 1] [2] [1] rfl rfl (by decide) (by decide) rfl hFc hk1 ht hvm hB
    have hP : va_P D vwCl [(va, .inl (ci, 4, .inl (zi [nI lo, nI hi, nI xe, nI co]))), (xo, .inr (6, [.ref xg, .int 2, .ref xp, .int pc, .ref xq, .int qc, .ref r1, .ref r2, .ref r3, .ref r4, .ref se, .int ts, .int hou, .int dr, .int su, .int br])), (xg, .inl (cg, 6, .inr (.inr (.inr (.inr (zq [some a0, some v_1326, none, none, none, none])))))), (v_1326, .inr (0, [.int (nI lo), .int (nI hi), .int (nI xe), .int (nI co)]))] H := hP
    have hD : va_D A [(va, .inl (ci, 4, .inl (zi [nI lo, nI hi, nI xe, nI co]))), (xo, .inr (6, [.ref xg, .int 2, .ref xp, .int pc, .ref xq, .int qc, .ref r1, .ref r2, .ref r3, .ref r4, .ref se, .int ts, .int hou, .int dr, .int su, .int br])), (xg, .inl (cg, 6, .inr (.inr (.inr (.inr (zq [some a0, some v_1326, none, none, none, none])))))), (v_1326, .inr (0, [.int (nI lo), .int (nI hi), .int (nI xe), .int (nI co)]))] := hD
    have hK : va_K D vwCl [(ci, .int), (cg, .object "Gatherhouse$Glass")] s := hK
    refine W.widen (k := 1) (n := 4) (Nat.le_of_ble_eq_true rfl) (Nat.le_of_ble_eq_true rfl) ?_
    obtain rfl := w_1325
    refine vx_ret ?_
    exact W.iret (v := 1) hx hb hr (fun t ht hW => ⟨⟨1, (), rfl, rfl, ⟨v_1326, q_RW_mk hP hK hD [1, 2, 3] [1] rfl rfl (by decide) rfl ht hW.alike⟩⟩, hS.F ht⟩) hS.2.2 dL_ask_260
def wzEL_ask_glass_2 : List Cond := [.codeWith yL_ask cL_ask 4 (some .int) ttL_ask, .methodLink RL 7 yX6_glass, .instanceMethod yX6_glass, .selects RX6 yX6_glass yX6_glass, .initialized RX6, .code yX6_glass cX6_glass 5 (some .int), .methodLink RX6 75 yX6_checkRange, .static yX6_checkRange, .code yX6_checkRange cX6_checkRange 3 none, .fieldLink RX6 15 "Gatherhouse" "glassCount" "I", .fieldLink RX6 11 "Gatherhouse" "glasses" "[LGatherhouse$Glass;", .classLink RX6 9 RX0, .instantiable RX0 4, .initialized RX0, .code yX0_init cX0_init 5 none, .methodLink RX0 3 objectInit, .instanceMethod objectInit, .code objectInit ⟨#[0xb1]⟩ 1 none, .fieldLink RX0 9 "Gatherhouse$Glass" "low" "I", .fieldLink RX0 15 "Gatherhouse$Glass" "high" "I", .fieldLink RX0 18 "Gatherhouse$Glass" "expansion" "I", .fieldLink RX0 21 "Gatherhouse$Glass" "colour" "I", .instanceMethod yX0_init]
def wzL_ask_glass_2 : List Cond := wzEL_ask_glass_2 ++ (u_ws RX6 TX6 16 ++ (u_ws RX0 TX0 4))
theorem zgEL_ask_glass_2 : wzEL_ask_glass_2.all goodWord = true := by decide +kernel
theorem zuL_ask_glass_2_X6 : ∀ w ∈ u_ws RX6 TX6 16, w ∈ wzL_ask_glass_2 := (fun _ h => (List.mem_append_right _ (List.mem_append_left _ h)))
theorem zuL_ask_glass_2_X0 : ∀ w ∈ u_ws RX0 TX0 4, w ∈ wzL_ask_glass_2 := (fun _ h => (List.mem_append_right _ (List.mem_append_right _ h)))
theorem gzL_ask_glass_2_X6_glass_2_7 : GoodIn wzL_ask_glass_2 (wsV RL 7 RX6 yX6_glass wzX6_glass_2) := (goodIn_app (z_lift (goodIn_r _ [1, 2, 3, 4] rfl (by decide +kernel))) (goodIn_app (z_lift (goodIn_r wzEX6_glass_2 [5, 6, 7, 4, 8, 9, 10, 11, 12, 13, 14, 15, 16, 17, 18, 19, 20, 21, 22] rfl zgEX6_glass_2)) (goodIn_app (goodIn_sub (fun _ h => (List.mem_append_right _ (List.mem_append_left _ h))) zgU_X6) (goodIn_sub (fun _ h => (List.mem_append_right _ (List.mem_append_right _ h))) zgU_X0))))
set_option maxHeartbeats 4000000 in
set_option maxRecDepth 100000 in
theorem zc_L_ask_glass_2 (l : Launch) (hnt : l.stackTraces = false) (D : va_G) (G : Nat × Nat × (Nat → Int32)) (xo : Nat) (va : Nat) (xg : Nat) (xp : Nat) (pc : Int32) (xq : Nat) (qc : Int32) (r1 : Nat) (r2 : Nat) (r3 : Nat) (r4 : Nat) (se : Nat) (ts : Int32) (hou : Int32) (dr : Int32) (su : Int32) (br : Int32) (cg : ClassId) (a0 : Nat) (a1 : Nat) (ci : ClassId) (lo : Nat) (hi : Nat) (xe : Nat) (co : Nat) (sz : Nat) (g1 : lo ≤ hi) (hl_lo : 600 ≤ lo) (hh_lo : lo ≤ 1100) (hl_hi : 600 ≤ hi) (hh_hi : hi ≤ 1100) (hl_xe : 50 ≤ xe) (hh_xe : xe ≤ 150) (hh_co : co ≤ 9) : vx_Met l yL_ask wzL_ask_glass_2 ({ frames := 3, cells := 1, slots := 4, locals := 60 }) (va_Pc [.ref xo, .int 71, .ref va] (p_RW D G [(cg, .object "Gatherhouse$Glass"), (ci, .int)] [(xo, .inr (6, [.ref xg, .int 2, .ref xp, .int pc, .ref xq, .int qc, .ref r1, .ref r2, .ref r3, .ref r4, .ref se, .int ts, .int hou, .int dr, .int su, .int br])), (xg, .inl (cg, 6, .inr (.inr (.inr (.inr (zq [some a0, some a1, none, none, none, none])))))), (va, .inl (ci, 4, .inl (zi [nI lo, nI hi, nI xe, nI co])))] sz)) (va_Qi (fun (r : Int32) (u : Unit) => r = 2) (fun (u : Unit) (t : State) => ∃ (gn : Nat), q_RW D [(cg, .object "Gatherhouse$Glass")] [(xo, .inr (6, [.ref xg, .int 3, .ref xp, .int pc, .ref xq, .int qc, .ref r1, .ref r2, .ref r3, .ref r4, .ref se, .int ts, .int hou, .int dr, .int su, .int br])), (xg, .inl (cg, 6, .inr (.inr (.inr (.inr (zq [some a0, some a1, some gn, none, none, none])))))), (gn, .inr (0, [.int (nI lo), .int (nI hi), .int (nI xe), .int (nI co)]))] (va_A [(xo, .inr (6, [.ref xg, .int 2, .ref xp, .int pc, .ref xq, .int qc, .ref r1, .ref r2, .ref r3, .ref r4, .ref se, .int ts, .int hou, .int dr, .int su, .int br])), (xg, .inl (cg, 6, .inr (.inr (.inr (.inr (zq [some a0, some a1, none, none, none, none])))))), (va, .inl (ci, 4, .inl (zi [nI lo, nI hi, nI xe, nI co])))] sz) t) (va_A [(xo, .inr (6, [.ref xg, .int 2, .ref xp, .int pc, .ref xq, .int qc, .ref r1, .ref r2, .ref r3, .ref r4, .ref se, .int ts, .int hou, .int dr, .int su, .int br])), (xg, .inl (cg, 6, .inr (.inr (.inr (.inr (zq [some a0, some a1, none, none, none, none])))))), (va, .inl (ci, 4, .inl (zi [nI lo, nI hi, nI xe, nI co])))] sz)) (vx_X (fun (_ : Unit) => True) (fun E (_ : Unit) (_ : State) => False) (va_A [(xo, .inr (6, [.ref xg, .int 2, .ref xp, .int pc, .ref xq, .int qc, .ref r1, .ref r2, .ref r3, .ref r4, .ref se, .int ts, .int hou, .int dr, .int su, .int br])), (xg, .inl (cg, 6, .inr (.inr (.inr (.inr (zq [some a0, some a1, none, none, none, none])))))), (va, .inl (ci, 4, .inl (zi [nI lo, nI hi, nI xe, nI co])))] sz)) 1 4 (va_A [(xo, .inr (6, [.ref xg, .int 2, .ref xp, .int pc, .ref xq, .int qc, .ref r1, .ref r2, .ref r3, .ref r4, .ref se, .int ts, .int hou, .int dr, .int su, .int br])), (xg, .inl (cg, 6, .inr (.inr (.inr (.inr (zq [some a0, some a1, none, none, none, none])))))), (va, .inl (ci, 4, .inl (zi [nI lo, nI hi, nI xe, nI co])))] sz) := by
  refine vx_ofWH (cc := cL_ask) (maxL := 4) (ret := (some .int)) (by decide) rfl ?_
  intro p e s m args below meth c s₁ B hml hv
  obtain ⟨rfl, hsz, hP, hK, hD0, hT, hZ⟩ := hv
  have hx := B.exec
  have hb := B.bytes
  have hr := B.returns
  have hts := atoms_spec (ws := wzL_ask_glass_2) B.pre
  have hown : s.vm.findClass RL = some m.cls := findClass_of_methodNamed B.named
  have hlocks := B.notSynchronized
  have hxe := vx_table (x := yL_ask) B (hts _ List.mem_cons_self)
  subst hsz
  have hD := hD0.self (sz := s.heap.size)
  generalize hAe : va_A [(xo, .inr (6, [.ref xg, .int 2, .ref xp, .int pc, .ref xq, .int qc, .ref r1, .ref r2, .ref r3, .ref r4, .ref se, .int ts, .int hou, .int dr, .int su, .int br])), (xg, .inl (cg, 6, .inr (.inr (.inr (.inr (zq [some a0, some a1, none, none, none, none])))))), (va, .inl (ci, 4, .inl (zi [nI lo, nI hi, nI xe, nI co])))] s.heap.size = A at hD hZ ⊢
  have hA : ∀ q : Nat, s.heap.size ≤ q → A q := fun q h => by rw [← hAe]; exact Or.inr h
  have hS : va_S A s.heap s.heap [] := va_S.rf
  have hl := lv_entry ([.ref xo, .int 71, .ref va]) (n := 4) (Nat.le_of_ble_eq_true rfl)
  rw [lg_entry_eq]
  generalize (lg_sl ([.ref xo, .int 71, .ref va]) ++ List.replicate (4 - (lg_sl ([.ref xo, .int 71, .ref va])).length) Slot.unset).toArray = ls at hl ⊢
  have hl : lv_has ls 4 [(0, .ref xo), (1, .int 71), (2, .ref va)] := hl
  refine lv_iload_n hx hb dL_ask_0 rfl (lv_at hl 1 rfl) ?_
  refine lv_tableIn (off := 243) (tgt := 244) hx hb dL_ask_1 (by decide +kernel) (by decide +kernel) (by decide +kernel) (by decide) ?_
  refine lv_aload_n hx hb dL_ask_244 rfl (lv_at hl 0 rfl) ?_
  refine lv_aload_n hx hb dL_ask_245 rfl (lv_at hl 2 rfl) ?_
  refine lv_iconst (v := 0) hx hb dL_ask_246 (by decide) ?_
  refine va_iald (D := D) (cl := vwCl) hx hb hK hP 2 1 rfl rfl (vp_in_nI (n := 0) (N := 4) (by decide) (by decide)) dL_ask_247 ?_
  refine W.eq (g2 := F0 m 248 ls [.int (nI lo), .ref xo]) rfl ?_
  refine lv_aload_n hx hb dL_ask_248 rfl (lv_at hl 2 rfl) ?_
  refine lv_iconst (v := 1) hx hb dL_ask_249 (by decide) ?_
  refine va_iald (D := D) (cl := vwCl) hx hb hK hP 2 1 rfl rfl (vp_in_nI (n := 1) (N := 4) (by decide) (by decide)) dL_ask_250 ?_
  refine W.eq (g2 := F0 m 251 ls [.int (nI hi), .int (nI lo), .ref xo]) rfl ?_
  refine lv_aload_n hx hb dL_ask_251 rfl (lv_at hl 2 rfl) ?_
  refine lv_iconst (v := 2) hx hb dL_ask_252 (by decide) ?_
  refine va_iald (D := D) (cl := vwCl) hx hb hK hP 2 1 rfl rfl (vp_in_nI (n := 2) (N := 4) (by decide) (by decide)) dL_ask_253 ?_
  refine W.eq (g2 := F0 m 254 ls [.int (nI xe), .int (nI hi), .int (nI lo), .ref xo]) rfl ?_
  refine lv_aload_n hx hb dL_ask_254 rfl (lv_at hl 2 rfl) ?_
  refine lv_iconst (v := 3) hx hb dL_ask_255 (by decide) ?_
  refine va_iald (D := D) (cl := vwCl) hx hb hK hP 2 1 rfl rfl (vp_in_nI (n := 3) (N := 4) (by decide) (by decide)) dL_ask_256 ?_
  refine W.eq (g2 := F0 m 257 ls [.int (nI co), .int (nI xe), .int (nI hi), .int (nI lo), .ref xo]) rfl ?_
  have hFc := va_free (wc := [(xo, .inr (6, [.ref xg, .int 2, .ref xp, .int pc, .ref xq, .int qc, .ref r1, .ref r2, .ref r3, .ref r4, .ref se, .int ts, .int hou, .int dr, .int su, .int br])), (xg, .inl (cg, 6, .inr (.inr (.inr (.inr (zq [some a0, some a1, none, none, none, none]))))))]) hD hS hA [0, 1] rfl
  refine vx_calli (vx_runV (As := [.int (nI lo), .int (nI hi), .int (nI xe), .int (nI co)]) (rest := []) ⟨hx, hb, hml, hown, hts⟩ (zc_X6_glass_2 l hnt D G xo lo hi xe co xg xp pc xq qc r1 r2 r3 r4 se ts hou dr su br cg a0 a1 s.heap.size (by first | assumption | rfl | omega | exact Nat.le_trans (zS_le _ _ _) (by omega) | decide) (by first | assumption | rfl | omega | exact Nat.le_trans (zS_le _ _ _) (by omega) | decide) (by first | assumption | rfl | omega | exact Nat.le_trans (zS_le _ _ _) (by omega) | decide) (by first | assumption | rfl | omega | exact Nat.le_trans (zS_le _ _ _) (by omega) | decide) (by first | assumption | rfl | omega | exact Nat.le_trans (zS_le _ _ _) (by omega) | decide) (by first | assumption | rfl | omega | exact Nat.le_trans (zS_le _ _ _) (by omega) | decide) (by first | assumption | rfl | omega | exact Nat.le_trans (zS_le _ _ _) (by omega) | decide) (by first | assumption | rfl | omega | exact Nat.le_trans (zS_le _ _ _) (by omega) | decide)) (cwV 4 hts gzL_ask_glass_2_X6_glass_2_7 rfl rfl rfl (by decide +kernel) ⟨(Nat.le_of_ble_eq_true rfl), (Nat.le_of_ble_eq_true rfl)⟩) ⟨p_RW_blind, va_recv hK hP (ci := 6) (q0 := 0) rfl rfl, (p_RW_at (tc := [(cg, .object "Gatherhouse$Glass")]) (wc := [(xo, .inr (6, [.ref xg, .int 2, .ref xp, .int pc, .ref xq, .int qc, .ref r1, .ref r2, .ref r3, .ref r4, .ref se, .int ts, .int hou, .int dr, .int su, .int br])), (xg, .inl (cg, 6, .inr (.inr (.inr (.inr (zq [some a0, some a1, none, none, none, none]))))))]) hP hK hD hS hA hT hZ [0, 1] [0] rfl rfl (by decide) rfl [.ref xo, .int (nI lo), .int (nI hi), .int (nI xe), .int (nI co)])⟩ rfl rfl hl.1 rfl (lv_room (Nat.le_of_ble_eq_true rfl)) dL_ask_257 ⟨(Nat.le_of_ble_eq_true rfl), (Nat.le_of_ble_eq_true rfl)⟩) hS (fun q _ h => hFc q h) hFc (fun q _ h => hFc q h) (fun E ce q9 u t H locs ht hvm hpx hBX hz1 hk1 hS hce hcv hcl => ?_) (fun r_1327 u t H locs ht hvm w_1328 hB hz1 hk1 hS => ?_)
  · exact (show False from hBX).elim
  · obtain ⟨v_1329, hB⟩ := hB
    obtain ⟨hP, hD, hK⟩ := q_join (D := D) (wc := [(xo, .inr (6, [.ref xg, .int 2, .ref xp, .int pc, .ref xq, .int qc, .ref r1, .ref r2, .ref r3, .ref r4, .ref se, .int ts, .int hou, .int dr, .int su, .int br])), (xg, .inl (cg, 6, .inr (.inr (.inr (.inr (zq [some a0, some a1, none, none, none, none]))))))]) (wr := [(va, .inl (ci, 4, .inl (zi [nI lo, nI hi, nI xe, nI co])))]) (w1 := [(xo, .inr (6, [.ref xg, .int 3, .ref xp, .int pc, .ref xq, .int qc, .ref r1, .ref r2, .ref r3, .ref r4, .ref se, .int ts, .int hou, .int dr, .int su, .int br])), (xg, .inl (cg, 6, .inr (.inr (.inr (.inr (zq [some a0, some a1, some v_1329, none, none, none])))))), (v_1329, .inr (0, [.int (nI lo), .int (nI hi), .int (nI xe), .int (nI co)]))]) (tyr := [(ci, .int)]) (ty1 := [(cg, .object "Gatherhouse$Glass")]) hP hD hK [0, 1] [2] [1] rfl rfl (by decide) (by decide) rfl hFc hk1 ht hvm hB
    have hP : va_P D vwCl [(va, .inl (ci, 4, .inl (zi [nI lo, nI hi, nI xe, nI co]))), (xo, .inr (6, [.ref xg, .int 3, .ref xp, .int pc, .ref xq, .int qc, .ref r1, .ref r2, .ref r3, .ref r4, .ref se, .int ts, .int hou, .int dr, .int su, .int br])), (xg, .inl (cg, 6, .inr (.inr (.inr (.inr (zq [some a0, some a1, some v_1329, none, none, none])))))), (v_1329, .inr (0, [.int (nI lo), .int (nI hi), .int (nI xe), .int (nI co)]))] H := hP
    have hD : va_D A [(va, .inl (ci, 4, .inl (zi [nI lo, nI hi, nI xe, nI co]))), (xo, .inr (6, [.ref xg, .int 3, .ref xp, .int pc, .ref xq, .int qc, .ref r1, .ref r2, .ref r3, .ref r4, .ref se, .int ts, .int hou, .int dr, .int su, .int br])), (xg, .inl (cg, 6, .inr (.inr (.inr (.inr (zq [some a0, some a1, some v_1329, none, none, none])))))), (v_1329, .inr (0, [.int (nI lo), .int (nI hi), .int (nI xe), .int (nI co)]))] := hD
    have hK : va_K D vwCl [(ci, .int), (cg, .object "Gatherhouse$Glass")] s := hK
    refine W.widen (k := 1) (n := 4) (Nat.le_of_ble_eq_true rfl) (Nat.le_of_ble_eq_true rfl) ?_
    obtain rfl := w_1328
    refine vx_ret ?_
    exact W.iret (v := 2) hx hb hr (fun t ht hW => ⟨⟨2, (), rfl, rfl, ⟨v_1329, q_RW_mk hP hK hD [1, 2, 3] [1] rfl rfl (by decide) rfl ht hW.alike⟩⟩, hS.F ht⟩) hS.2.2 dL_ask_260
def wzEL_ask_glass_3 : List Cond := [.codeWith yL_ask cL_ask 4 (some .int) ttL_ask, .methodLink RL 7 yX6_glass, .instanceMethod yX6_glass, .selects RX6 yX6_glass yX6_glass, .initialized RX6, .code yX6_glass cX6_glass 5 (some .int), .methodLink RX6 75 yX6_checkRange, .static yX6_checkRange, .code yX6_checkRange cX6_checkRange 3 none, .fieldLink RX6 15 "Gatherhouse" "glassCount" "I", .fieldLink RX6 11 "Gatherhouse" "glasses" "[LGatherhouse$Glass;", .classLink RX6 9 RX0, .instantiable RX0 4, .initialized RX0, .code yX0_init cX0_init 5 none, .methodLink RX0 3 objectInit, .instanceMethod objectInit, .code objectInit ⟨#[0xb1]⟩ 1 none, .fieldLink RX0 9 "Gatherhouse$Glass" "low" "I", .fieldLink RX0 15 "Gatherhouse$Glass" "high" "I", .fieldLink RX0 18 "Gatherhouse$Glass" "expansion" "I", .fieldLink RX0 21 "Gatherhouse$Glass" "colour" "I", .instanceMethod yX0_init]
def wzL_ask_glass_3 : List Cond := wzEL_ask_glass_3 ++ (u_ws RX6 TX6 16 ++ (u_ws RX0 TX0 4))
theorem zgEL_ask_glass_3 : wzEL_ask_glass_3.all goodWord = true := by decide +kernel
theorem zuL_ask_glass_3_X6 : ∀ w ∈ u_ws RX6 TX6 16, w ∈ wzL_ask_glass_3 := (fun _ h => (List.mem_append_right _ (List.mem_append_left _ h)))
theorem zuL_ask_glass_3_X0 : ∀ w ∈ u_ws RX0 TX0 4, w ∈ wzL_ask_glass_3 := (fun _ h => (List.mem_append_right _ (List.mem_append_right _ h)))
theorem gzL_ask_glass_3_X6_glass_3_7 : GoodIn wzL_ask_glass_3 (wsV RL 7 RX6 yX6_glass wzX6_glass_3) := (goodIn_app (z_lift (goodIn_r _ [1, 2, 3, 4] rfl (by decide +kernel))) (goodIn_app (z_lift (goodIn_r wzEX6_glass_3 [5, 6, 7, 4, 8, 9, 10, 11, 12, 13, 14, 15, 16, 17, 18, 19, 20, 21, 22] rfl zgEX6_glass_3)) (goodIn_app (goodIn_sub (fun _ h => (List.mem_append_right _ (List.mem_append_left _ h))) zgU_X6) (goodIn_sub (fun _ h => (List.mem_append_right _ (List.mem_append_right _ h))) zgU_X0))))
set_option maxHeartbeats 4000000 in
set_option maxRecDepth 100000 in
theorem zc_L_ask_glass_3 (l : Launch) (hnt : l.stackTraces = false) (D : va_G) (G : Nat × Nat × (Nat → Int32)) (xo : Nat) (va : Nat) (xg : Nat) (xp : Nat) (pc : Int32) (xq : Nat) (qc : Int32) (r1 : Nat) (r2 : Nat) (r3 : Nat) (r4 : Nat) (se : Nat) (ts : Int32) (hou : Int32) (dr : Int32) (su : Int32) (br : Int32) (cg : ClassId) (a0 : Nat) (a1 : Nat) (a2 : Nat) (ci : ClassId) (lo : Nat) (hi : Nat) (xe : Nat) (co : Nat) (sz : Nat) (g1 : lo ≤ hi) (hl_lo : 600 ≤ lo) (hh_lo : lo ≤ 1100) (hl_hi : 600 ≤ hi) (hh_hi : hi ≤ 1100) (hl_xe : 50 ≤ xe) (hh_xe : xe ≤ 150) (hh_co : co ≤ 9) : vx_Met l yL_ask wzL_ask_glass_3 ({ frames := 3, cells := 1, slots := 4, locals := 60 }) (va_Pc [.ref xo, .int 71, .ref va] (p_RW D G [(cg, .object "Gatherhouse$Glass"), (ci, .int)] [(xo, .inr (6, [.ref xg, .int 3, .ref xp, .int pc, .ref xq, .int qc, .ref r1, .ref r2, .ref r3, .ref r4, .ref se, .int ts, .int hou, .int dr, .int su, .int br])), (xg, .inl (cg, 6, .inr (.inr (.inr (.inr (zq [some a0, some a1, some a2, none, none, none])))))), (va, .inl (ci, 4, .inl (zi [nI lo, nI hi, nI xe, nI co])))] sz)) (va_Qi (fun (r : Int32) (u : Unit) => r = 3) (fun (u : Unit) (t : State) => ∃ (gn : Nat), q_RW D [(cg, .object "Gatherhouse$Glass")] [(xo, .inr (6, [.ref xg, .int 4, .ref xp, .int pc, .ref xq, .int qc, .ref r1, .ref r2, .ref r3, .ref r4, .ref se, .int ts, .int hou, .int dr, .int su, .int br])), (xg, .inl (cg, 6, .inr (.inr (.inr (.inr (zq [some a0, some a1, some a2, some gn, none, none])))))), (gn, .inr (0, [.int (nI lo), .int (nI hi), .int (nI xe), .int (nI co)]))] (va_A [(xo, .inr (6, [.ref xg, .int 3, .ref xp, .int pc, .ref xq, .int qc, .ref r1, .ref r2, .ref r3, .ref r4, .ref se, .int ts, .int hou, .int dr, .int su, .int br])), (xg, .inl (cg, 6, .inr (.inr (.inr (.inr (zq [some a0, some a1, some a2, none, none, none])))))), (va, .inl (ci, 4, .inl (zi [nI lo, nI hi, nI xe, nI co])))] sz) t) (va_A [(xo, .inr (6, [.ref xg, .int 3, .ref xp, .int pc, .ref xq, .int qc, .ref r1, .ref r2, .ref r3, .ref r4, .ref se, .int ts, .int hou, .int dr, .int su, .int br])), (xg, .inl (cg, 6, .inr (.inr (.inr (.inr (zq [some a0, some a1, some a2, none, none, none])))))), (va, .inl (ci, 4, .inl (zi [nI lo, nI hi, nI xe, nI co])))] sz)) (vx_X (fun (_ : Unit) => True) (fun E (_ : Unit) (_ : State) => False) (va_A [(xo, .inr (6, [.ref xg, .int 3, .ref xp, .int pc, .ref xq, .int qc, .ref r1, .ref r2, .ref r3, .ref r4, .ref se, .int ts, .int hou, .int dr, .int su, .int br])), (xg, .inl (cg, 6, .inr (.inr (.inr (.inr (zq [some a0, some a1, some a2, none, none, none])))))), (va, .inl (ci, 4, .inl (zi [nI lo, nI hi, nI xe, nI co])))] sz)) 1 4 (va_A [(xo, .inr (6, [.ref xg, .int 3, .ref xp, .int pc, .ref xq, .int qc, .ref r1, .ref r2, .ref r3, .ref r4, .ref se, .int ts, .int hou, .int dr, .int su, .int br])), (xg, .inl (cg, 6, .inr (.inr (.inr (.inr (zq [some a0, some a1, some a2, none, none, none])))))), (va, .inl (ci, 4, .inl (zi [nI lo, nI hi, nI xe, nI co])))] sz) := by
  refine vx_ofWH (cc := cL_ask) (maxL := 4) (ret := (some .int)) (by decide) rfl ?_
  intro p e s m args below meth c s₁ B hml hv
  obtain ⟨rfl, hsz, hP, hK, hD0, hT, hZ⟩ := hv
  have hx := B.exec
  have hb := B.bytes
  have hr := B.returns
  have hts := atoms_spec (ws := wzL_ask_glass_3) B.pre
  have hown : s.vm.findClass RL = some m.cls := findClass_of_methodNamed B.named
  have hlocks := B.notSynchronized
  have hxe := vx_table (x := yL_ask) B (hts _ List.mem_cons_self)
  subst hsz
  have hD := hD0.self (sz := s.heap.size)
  generalize hAe : va_A [(xo, .inr (6, [.ref xg, .int 3, .ref xp, .int pc, .ref xq, .int qc, .ref r1, .ref r2, .ref r3, .ref r4, .ref se, .int ts, .int hou, .int dr, .int su, .int br])), (xg, .inl (cg, 6, .inr (.inr (.inr (.inr (zq [some a0, some a1, some a2, none, none, none])))))), (va, .inl (ci, 4, .inl (zi [nI lo, nI hi, nI xe, nI co])))] s.heap.size = A at hD hZ ⊢
  have hA : ∀ q : Nat, s.heap.size ≤ q → A q := fun q h => by rw [← hAe]; exact Or.inr h
  have hS : va_S A s.heap s.heap [] := va_S.rf
  have hl := lv_entry ([.ref xo, .int 71, .ref va]) (n := 4) (Nat.le_of_ble_eq_true rfl)
  rw [lg_entry_eq]
  generalize (lg_sl ([.ref xo, .int 71, .ref va]) ++ List.replicate (4 - (lg_sl ([.ref xo, .int 71, .ref va])).length) Slot.unset).toArray = ls at hl ⊢
  have hl : lv_has ls 4 [(0, .ref xo), (1, .int 71), (2, .ref va)] := hl
  refine lv_iload_n hx hb dL_ask_0 rfl (lv_at hl 1 rfl) ?_
  refine lv_tableIn (off := 243) (tgt := 244) hx hb dL_ask_1 (by decide +kernel) (by decide +kernel) (by decide +kernel) (by decide) ?_
  refine lv_aload_n hx hb dL_ask_244 rfl (lv_at hl 0 rfl) ?_
  refine lv_aload_n hx hb dL_ask_245 rfl (lv_at hl 2 rfl) ?_
  refine lv_iconst (v := 0) hx hb dL_ask_246 (by decide) ?_
  refine va_iald (D := D) (cl := vwCl) hx hb hK hP 2 1 rfl rfl (vp_in_nI (n := 0) (N := 4) (by decide) (by decide)) dL_ask_247 ?_
  refine W.eq (g2 := F0 m 248 ls [.int (nI lo), .ref xo]) rfl ?_
  refine lv_aload_n hx hb dL_ask_248 rfl (lv_at hl 2 rfl) ?_
  refine lv_iconst (v := 1) hx hb dL_ask_249 (by decide) ?_
  refine va_iald (D := D) (cl := vwCl) hx hb hK hP 2 1 rfl rfl (vp_in_nI (n := 1) (N := 4) (by decide) (by decide)) dL_ask_250 ?_
  refine W.eq (g2 := F0 m 251 ls [.int (nI hi), .int (nI lo), .ref xo]) rfl ?_
  refine lv_aload_n hx hb dL_ask_251 rfl (lv_at hl 2 rfl) ?_
  refine lv_iconst (v := 2) hx hb dL_ask_252 (by decide) ?_
  refine va_iald (D := D) (cl := vwCl) hx hb hK hP 2 1 rfl rfl (vp_in_nI (n := 2) (N := 4) (by decide) (by decide)) dL_ask_253 ?_
  refine W.eq (g2 := F0 m 254 ls [.int (nI xe), .int (nI hi), .int (nI lo), .ref xo]) rfl ?_
  refine lv_aload_n hx hb dL_ask_254 rfl (lv_at hl 2 rfl) ?_
  refine lv_iconst (v := 3) hx hb dL_ask_255 (by decide) ?_
  refine va_iald (D := D) (cl := vwCl) hx hb hK hP 2 1 rfl rfl (vp_in_nI (n := 3) (N := 4) (by decide) (by decide)) dL_ask_256 ?_
  refine W.eq (g2 := F0 m 257 ls [.int (nI co), .int (nI xe), .int (nI hi), .int (nI lo), .ref xo]) rfl ?_
  have hFc := va_free (wc := [(xo, .inr (6, [.ref xg, .int 3, .ref xp, .int pc, .ref xq, .int qc, .ref r1, .ref r2, .ref r3, .ref r4, .ref se, .int ts, .int hou, .int dr, .int su, .int br])), (xg, .inl (cg, 6, .inr (.inr (.inr (.inr (zq [some a0, some a1, some a2, none, none, none]))))))]) hD hS hA [0, 1] rfl
  refine vx_calli (vx_runV (As := [.int (nI lo), .int (nI hi), .int (nI xe), .int (nI co)]) (rest := []) ⟨hx, hb, hml, hown, hts⟩ (zc_X6_glass_3 l hnt D G xo lo hi xe co xg xp pc xq qc r1 r2 r3 r4 se ts hou dr su br cg a0 a1 a2 s.heap.size (by first | assumption | rfl | omega | exact Nat.le_trans (zS_le _ _ _) (by omega) | decide) (by first | assumption | rfl | omega | exact Nat.le_trans (zS_le _ _ _) (by omega) | decide) (by first | assumption | rfl | omega | exact Nat.le_trans (zS_le _ _ _) (by omega) | decide) (by first | assumption | rfl | omega | exact Nat.le_trans (zS_le _ _ _) (by omega) | decide) (by first | assumption | rfl | omega | exact Nat.le_trans (zS_le _ _ _) (by omega) | decide) (by first | assumption | rfl | omega | exact Nat.le_trans (zS_le _ _ _) (by omega) | decide) (by first | assumption | rfl | omega | exact Nat.le_trans (zS_le _ _ _) (by omega) | decide) (by first | assumption | rfl | omega | exact Nat.le_trans (zS_le _ _ _) (by omega) | decide)) (cwV 4 hts gzL_ask_glass_3_X6_glass_3_7 rfl rfl rfl (by decide +kernel) ⟨(Nat.le_of_ble_eq_true rfl), (Nat.le_of_ble_eq_true rfl)⟩) ⟨p_RW_blind, va_recv hK hP (ci := 6) (q0 := 0) rfl rfl, (p_RW_at (tc := [(cg, .object "Gatherhouse$Glass")]) (wc := [(xo, .inr (6, [.ref xg, .int 3, .ref xp, .int pc, .ref xq, .int qc, .ref r1, .ref r2, .ref r3, .ref r4, .ref se, .int ts, .int hou, .int dr, .int su, .int br])), (xg, .inl (cg, 6, .inr (.inr (.inr (.inr (zq [some a0, some a1, some a2, none, none, none]))))))]) hP hK hD hS hA hT hZ [0, 1] [0] rfl rfl (by decide) rfl [.ref xo, .int (nI lo), .int (nI hi), .int (nI xe), .int (nI co)])⟩ rfl rfl hl.1 rfl (lv_room (Nat.le_of_ble_eq_true rfl)) dL_ask_257 ⟨(Nat.le_of_ble_eq_true rfl), (Nat.le_of_ble_eq_true rfl)⟩) hS (fun q _ h => hFc q h) hFc (fun q _ h => hFc q h) (fun E ce q9 u t H locs ht hvm hpx hBX hz1 hk1 hS hce hcv hcl => ?_) (fun r_1330 u t H locs ht hvm w_1331 hB hz1 hk1 hS => ?_)
  · exact (show False from hBX).elim
  · obtain ⟨v_1332, hB⟩ := hB
    obtain ⟨hP, hD, hK⟩ := q_join (D := D) (wc := [(xo, .inr (6, [.ref xg, .int 3, .ref xp, .int pc, .ref xq, .int qc, .ref r1, .ref r2, .ref r3, .ref r4, .ref se, .int ts, .int hou, .int dr, .int su, .int br])), (xg, .inl (cg, 6, .inr (.inr (.inr (.inr (zq [some a0, some a1, some a2, none, none, none]))))))]) (wr := [(va, .inl (ci, 4, .inl (zi [nI lo, nI hi, nI xe, nI co])))]) (w1 := [(xo, .inr (6, [.ref xg, .int 4, .ref xp, .int pc, .ref xq, .int qc, .ref r1, .ref r2, .ref r3, .ref r4, .ref se, .int ts, .int hou, .int dr, .int su, .int br])), (xg, .inl (cg, 6, .inr (.inr (.inr (.inr (zq [some a0, some a1, some a2, some v_1332, none, none])))))), (v_1332, .inr (0, [.int (nI lo), .int (nI hi), .int (nI xe), .int (nI co)]))]) (tyr := [(ci, .int)]) (ty1 := [(cg, .object "Gatherhouse$Glass")]) hP hD hK [0, 1] [2] [1] rfl rfl (by decide) (by decide) rfl hFc hk1 ht hvm hB
    have hP : va_P D vwCl [(va, .inl (ci, 4, .inl (zi [nI lo, nI hi, nI xe, nI co]))), (xo, .inr (6, [.ref xg, .int 4, .ref xp, .int pc, .ref xq, .int qc, .ref r1, .ref r2, .ref r3, .ref r4, .ref se, .int ts, .int hou, .int dr, .int su, .int br])), (xg, .inl (cg, 6, .inr (.inr (.inr (.inr (zq [some a0, some a1, some a2, some v_1332, none, none])))))), (v_1332, .inr (0, [.int (nI lo), .int (nI hi), .int (nI xe), .int (nI co)]))] H := hP
    have hD : va_D A [(va, .inl (ci, 4, .inl (zi [nI lo, nI hi, nI xe, nI co]))), (xo, .inr (6, [.ref xg, .int 4, .ref xp, .int pc, .ref xq, .int qc, .ref r1, .ref r2, .ref r3, .ref r4, .ref se, .int ts, .int hou, .int dr, .int su, .int br])), (xg, .inl (cg, 6, .inr (.inr (.inr (.inr (zq [some a0, some a1, some a2, some v_1332, none, none])))))), (v_1332, .inr (0, [.int (nI lo), .int (nI hi), .int (nI xe), .int (nI co)]))] := hD
    have hK : va_K D vwCl [(ci, .int), (cg, .object "Gatherhouse$Glass")] s := hK
    refine W.widen (k := 1) (n := 4) (Nat.le_of_ble_eq_true rfl) (Nat.le_of_ble_eq_true rfl) ?_
    obtain rfl := w_1331
    refine vx_ret ?_
    exact W.iret (v := 3) hx hb hr (fun t ht hW => ⟨⟨3, (), rfl, rfl, ⟨v_1332, q_RW_mk hP hK hD [1, 2, 3] [1] rfl rfl (by decide) rfl ht hW.alike⟩⟩, hS.F ht⟩) hS.2.2 dL_ask_260
def wzEL_ask_glass_4 : List Cond := [.codeWith yL_ask cL_ask 4 (some .int) ttL_ask, .methodLink RL 7 yX6_glass, .instanceMethod yX6_glass, .selects RX6 yX6_glass yX6_glass, .initialized RX6, .code yX6_glass cX6_glass 5 (some .int), .methodLink RX6 75 yX6_checkRange, .static yX6_checkRange, .code yX6_checkRange cX6_checkRange 3 none, .fieldLink RX6 15 "Gatherhouse" "glassCount" "I", .fieldLink RX6 11 "Gatherhouse" "glasses" "[LGatherhouse$Glass;", .classLink RX6 9 RX0, .instantiable RX0 4, .initialized RX0, .code yX0_init cX0_init 5 none, .methodLink RX0 3 objectInit, .instanceMethod objectInit, .code objectInit ⟨#[0xb1]⟩ 1 none, .fieldLink RX0 9 "Gatherhouse$Glass" "low" "I", .fieldLink RX0 15 "Gatherhouse$Glass" "high" "I", .fieldLink RX0 18 "Gatherhouse$Glass" "expansion" "I", .fieldLink RX0 21 "Gatherhouse$Glass" "colour" "I", .instanceMethod yX0_init]
def wzL_ask_glass_4 : List Cond := wzEL_ask_glass_4 ++ (u_ws RX6 TX6 16 ++ (u_ws RX0 TX0 4))
theorem zgEL_ask_glass_4 : wzEL_ask_glass_4.all goodWord = true := by decide +kernel
theorem zuL_ask_glass_4_X6 : ∀ w ∈ u_ws RX6 TX6 16, w ∈ wzL_ask_glass_4 := (fun _ h => (List.mem_append_right _ (List.mem_append_left _ h)))
theorem zuL_ask_glass_4_X0 : ∀ w ∈ u_ws RX0 TX0 4, w ∈ wzL_ask_glass_4 := (fun _ h => (List.mem_append_right _ (List.mem_append_right _ h)))
theorem gzL_ask_glass_4_X6_glass_4_7 : GoodIn wzL_ask_glass_4 (wsV RL 7 RX6 yX6_glass wzX6_glass_4) := (goodIn_app (z_lift (goodIn_r _ [1, 2, 3, 4] rfl (by decide +kernel))) (goodIn_app (z_lift (goodIn_r wzEX6_glass_4 [5, 6, 7, 4, 8, 9, 10, 11, 12, 13, 14, 15, 16, 17, 18, 19, 20, 21, 22] rfl zgEX6_glass_4)) (goodIn_app (goodIn_sub (fun _ h => (List.mem_append_right _ (List.mem_append_left _ h))) zgU_X6) (goodIn_sub (fun _ h => (List.mem_append_right _ (List.mem_append_right _ h))) zgU_X0))))
set_option maxHeartbeats 4000000 in
set_option maxRecDepth 100000 in
theorem zc_L_ask_glass_4 (l : Launch) (hnt : l.stackTraces = false) (D : va_G) (G : Nat × Nat × (Nat → Int32)) (xo : Nat) (va : Nat) (xg : Nat) (xp : Nat) (pc : Int32) (xq : Nat) (qc : Int32) (r1 : Nat) (r2 : Nat) (r3 : Nat) (r4 : Nat) (se : Nat) (ts : Int32) (hou : Int32) (dr : Int32) (su : Int32) (br : Int32) (cg : ClassId) (a0 : Nat) (a1 : Nat) (a2 : Nat) (a3 : Nat) (ci : ClassId) (lo : Nat) (hi : Nat) (xe : Nat) (co : Nat) (sz : Nat) (g1 : lo ≤ hi) (hl_lo : 600 ≤ lo) (hh_lo : lo ≤ 1100) (hl_hi : 600 ≤ hi) (hh_hi : hi ≤ 1100) (hl_xe : 50 ≤ xe) (hh_xe : xe ≤ 150) (hh_co : co ≤ 9) : vx_Met l yL_ask wzL_ask_glass_4 ({ frames := 3, cells := 1, slots := 4, locals := 60 }) (va_Pc [.ref xo, .int 71, .ref va] (p_RW D G [(cg, .object "Gatherhouse$Glass"), (ci, .int)] [(xo, .inr (6, [.ref xg, .int 4, .ref xp, .int pc, .ref xq, .int qc, .ref r1, .ref r2, .ref r3, .ref r4, .ref se, .int ts, .int hou, .int dr, .int su, .int br])), (xg, .inl (cg, 6, .inr (.inr (.inr (.inr (zq [some a0, some a1, some a2, some a3, none, none])))))), (va, .inl (ci, 4, .inl (zi [nI lo, nI hi, nI xe, nI co])))] sz)) (va_Qi (fun (r : Int32) (u : Unit) => r = 4) (fun (u : Unit) (t : State) => ∃ (gn : Nat), q_RW D [(cg, .object "Gatherhouse$Glass")] [(xo, .inr (6, [.ref xg, .int 5, .ref xp, .int pc, .ref xq, .int qc, .ref r1, .ref r2, .ref r3, .ref r4, .ref se, .int ts, .int hou, .int dr, .int su, .int br])), (xg, .inl (cg, 6, .inr (.inr (.inr (.inr (zq [some a0, some a1, some a2, some a3, some gn, none])))))), (gn, .inr (0, [.int (nI lo), .int (nI hi), .int (nI xe), .int (nI co)]))] (va_A [(xo, .inr (6, [.ref xg, .int 4, .ref xp, .int pc, .ref xq, .int qc, .ref r1, .ref r2, .ref r3, .ref r4, .ref se, .int ts, .int hou, .int dr, .int su, .int br])), (xg, .inl (cg, 6, .inr (.inr (.inr (.inr (zq [some a0, some a1, some a2, some a3, none, none])))))), (va, .inl (ci, 4, .inl (zi [nI lo, nI hi, nI xe, nI co])))] sz) t) (va_A [(xo, .inr (6, [.ref xg, .int 4, .ref xp, .int pc, .ref xq, .int qc, .ref r1, .ref r2, .ref r3, .ref r4, .ref se, .int ts, .int hou, .int dr, .int su, .int br])), (xg, .inl (cg, 6, .inr (.inr (.inr (.inr (zq [some a0, some a1, some a2, some a3, none, none])))))), (va, .inl (ci, 4, .inl (zi [nI lo, nI hi, nI xe, nI co])))] sz)) (vx_X (fun (_ : Unit) => True) (fun E (_ : Unit) (_ : State) => False) (va_A [(xo, .inr (6, [.ref xg, .int 4, .ref xp, .int pc, .ref xq, .int qc, .ref r1, .ref r2, .ref r3, .ref r4, .ref se, .int ts, .int hou, .int dr, .int su, .int br])), (xg, .inl (cg, 6, .inr (.inr (.inr (.inr (zq [some a0, some a1, some a2, some a3, none, none])))))), (va, .inl (ci, 4, .inl (zi [nI lo, nI hi, nI xe, nI co])))] sz)) 1 4 (va_A [(xo, .inr (6, [.ref xg, .int 4, .ref xp, .int pc, .ref xq, .int qc, .ref r1, .ref r2, .ref r3, .ref r4, .ref se, .int ts, .int hou, .int dr, .int su, .int br])), (xg, .inl (cg, 6, .inr (.inr (.inr (.inr (zq [some a0, some a1, some a2, some a3, none, none])))))), (va, .inl (ci, 4, .inl (zi [nI lo, nI hi, nI xe, nI co])))] sz) := by
  refine vx_ofWH (cc := cL_ask) (maxL := 4) (ret := (some .int)) (by decide) rfl ?_
  intro p e s m args below meth c s₁ B hml hv
  obtain ⟨rfl, hsz, hP, hK, hD0, hT, hZ⟩ := hv
  have hx := B.exec
  have hb := B.bytes
  have hr := B.returns
  have hts := atoms_spec (ws := wzL_ask_glass_4) B.pre
  have hown : s.vm.findClass RL = some m.cls := findClass_of_methodNamed B.named
  have hlocks := B.notSynchronized
  have hxe := vx_table (x := yL_ask) B (hts _ List.mem_cons_self)
  subst hsz
  have hD := hD0.self (sz := s.heap.size)
  generalize hAe : va_A [(xo, .inr (6, [.ref xg, .int 4, .ref xp, .int pc, .ref xq, .int qc, .ref r1, .ref r2, .ref r3, .ref r4, .ref se, .int ts, .int hou, .int dr, .int su, .int br])), (xg, .inl (cg, 6, .inr (.inr (.inr (.inr (zq [some a0, some a1, some a2, some a3, none, none])))))), (va, .inl (ci, 4, .inl (zi [nI lo, nI hi, nI xe, nI co])))] s.heap.size = A at hD hZ ⊢
  have hA : ∀ q : Nat, s.heap.size ≤ q → A q := fun q h => by rw [← hAe]; exact Or.inr h
  have hS : va_S A s.heap s.heap [] := va_S.rf
  have hl := lv_entry ([.ref xo, .int 71, .ref va]) (n := 4) (Nat.le_of_ble_eq_true rfl)
  rw [lg_entry_eq]
  generalize (lg_sl ([.ref xo, .int 71, .ref va]) ++ List.replicate (4 - (lg_sl ([.ref xo, .int 71, .ref va])).length) Slot.unset).toArray = ls at hl ⊢
  have hl : lv_has ls 4 [(0, .ref xo), (1, .int 71), (2, .ref va)] := hl
  refine lv_iload_n hx hb dL_ask_0 rfl (lv_at hl 1 rfl) ?_
  refine lv_tableIn (off := 243) (tgt := 244) hx hb dL_ask_1 (by decide +kernel) (by decide +kernel) (by decide +kernel) (by decide) ?_
  refine lv_aload_n hx hb dL_ask_244 rfl (lv_at hl 0 rfl) ?_
  refine lv_aload_n hx hb dL_ask_245 rfl (lv_at hl 2 rfl) ?_
  refine lv_iconst (v := 0) hx hb dL_ask_246 (by decide) ?_
  refine va_iald (D := D) (cl := vwCl) hx hb hK hP 2 1 rfl rfl (vp_in_nI (n := 0) (N := 4) (by decide) (by decide)) dL_ask_247 ?_
  refine W.eq (g2 := F0 m 248 ls [.int (nI lo), .ref xo]) rfl ?_
  refine lv_aload_n hx hb dL_ask_248 rfl (lv_at hl 2 rfl) ?_
  refine lv_iconst (v := 1) hx hb dL_ask_249 (by decide) ?_
  refine va_iald (D := D) (cl := vwCl) hx hb hK hP 2 1 rfl rfl (vp_in_nI (n := 1) (N := 4) (by decide) (by decide)) dL_ask_250 ?_
  refine W.eq (g2 := F0 m 251 ls [.int (nI hi), .int (nI lo), .ref xo]) rfl ?_
  refine lv_aload_n hx hb dL_ask_251 rfl (lv_at hl 2 rfl) ?_
  refine lv_iconst (v := 2) hx hb dL_ask_252 (by decide) ?_
  refine va_iald (D := D) (cl := vwCl) hx hb hK hP 2 1 rfl rfl (vp_in_nI (n := 2) (N := 4) (by decide) (by decide)) dL_ask_253 ?_
  refine W.eq (g2 := F0 m 254 ls [.int (nI xe), .int (nI hi), .int (nI lo), .ref xo]) rfl ?_
  refine lv_aload_n hx hb dL_ask_254 rfl (lv_at hl 2 rfl) ?_
  refine lv_iconst (v := 3) hx hb dL_ask_255 (by decide) ?_
  refine va_iald (D := D) (cl := vwCl) hx hb hK hP 2 1 rfl rfl (vp_in_nI (n := 3) (N := 4) (by decide) (by decide)) dL_ask_256 ?_
  refine W.eq (g2 := F0 m 257 ls [.int (nI co), .int (nI xe), .int (nI hi), .int (nI lo), .ref xo]) rfl ?_
  have hFc := va_free (wc := [(xo, .inr (6, [.ref xg, .int 4, .ref xp, .int pc, .ref xq, .int qc, .ref r1, .ref r2, .ref r3, .ref r4, .ref se, .int ts, .int hou, .int dr, .int su, .int br])), (xg, .inl (cg, 6, .inr (.inr (.inr (.inr (zq [some a0, some a1, some a2, some a3, none, none]))))))]) hD hS hA [0, 1] rfl
  refine vx_calli (vx_runV (As := [.int (nI lo), .int (nI hi), .int (nI xe), .int (nI co)]) (rest := []) ⟨hx, hb, hml, hown, hts⟩ (zc_X6_glass_4 l hnt D G xo lo hi xe co xg xp pc xq qc r1 r2 r3 r4 se ts hou dr su br cg a0 a1 a2 a3 s.heap.size (by first | assumption | rfl | omega | exact Nat.le_trans (zS_le _ _ _) (by omega) | decide) (by first | assumption | rfl | omega | exact Nat.le_trans (zS_le _ _ _) (by omega) | decide) (by first | assumption | rfl | omega | exact Nat.le_trans (zS_le _ _ _) (by omega) | decide) (by first | assumption | rfl | omega | exact Nat.le_trans (zS_le _ _ _) (by omega) | decide) (by first | assumption | rfl | omega | exact Nat.le_trans (zS_le _ _ _) (by omega) | decide) (by first | assumption | rfl | omega | exact Nat.le_trans (zS_le _ _ _) (by omega) | decide) (by first | assumption | rfl | omega | exact Nat.le_trans (zS_le _ _ _) (by omega) | decide) (by first | assumption | rfl | omega | exact Nat.le_trans (zS_le _ _ _) (by omega) | decide)) (cwV 4 hts gzL_ask_glass_4_X6_glass_4_7 rfl rfl rfl (by decide +kernel) ⟨(Nat.le_of_ble_eq_true rfl), (Nat.le_of_ble_eq_true rfl)⟩) ⟨p_RW_blind, va_recv hK hP (ci := 6) (q0 := 0) rfl rfl, (p_RW_at (tc := [(cg, .object "Gatherhouse$Glass")]) (wc := [(xo, .inr (6, [.ref xg, .int 4, .ref xp, .int pc, .ref xq, .int qc, .ref r1, .ref r2, .ref r3, .ref r4, .ref se, .int ts, .int hou, .int dr, .int su, .int br])), (xg, .inl (cg, 6, .inr (.inr (.inr (.inr (zq [some a0, some a1, some a2, some a3, none, none]))))))]) hP hK hD hS hA hT hZ [0, 1] [0] rfl rfl (by decide) rfl [.ref xo, .int (nI lo), .int (nI hi), .int (nI xe), .int (nI co)])⟩ rfl rfl hl.1 rfl (lv_room (Nat.le_of_ble_eq_true rfl)) dL_ask_257 ⟨(Nat.le_of_ble_eq_true rfl), (Nat.le_of_ble_eq_true rfl)⟩) hS (fun q _ h => hFc q h) hFc (fun q _ h => hFc q h) (fun E ce q9 u t H locs ht hvm hpx hBX hz1 hk1 hS hce hcv hcl => ?_) (fun r_1333 u t H locs ht hvm w_1334 hB hz1 hk1 hS => ?_)
  · exact (show False from hBX).elim
  · obtain ⟨v_1335, hB⟩ := hB
    obtain ⟨hP, hD, hK⟩ := q_join (D := D) (wc := [(xo, .inr (6, [.ref xg, .int 4, .ref xp, .int pc, .ref xq, .int qc, .ref r1, .ref r2, .ref r3, .ref r4, .ref se, .int ts, .int hou, .int dr, .int su, .int br])), (xg, .inl (cg, 6, .inr (.inr (.inr (.inr (zq [some a0, some a1, some a2, some a3, none, none]))))))]) (wr := [(va, .inl (ci, 4, .inl (zi [nI lo, nI hi, nI xe, nI co])))]) (w1 := [(xo, .inr (6, [.ref xg, .int 5, .ref xp, .int pc, .ref xq, .int qc, .ref r1, .ref r2, .ref r3, .ref r4, .ref se, .int ts, .int hou, .int dr, .int su, .int br])), (xg, .inl (cg, 6, .inr (.inr (.inr (.inr (zq [some a0, some a1, some a2, some a3, some v_1335, none])))))), (v_1335, .inr (0, [.int (nI lo), .int (nI hi), .int (nI xe), .int (nI co)]))]) (tyr := [(ci, .int)]) (ty1 := [(cg, .object "Gatherhouse$Glass")]) hP hD hK [0, 1] [2] [1] rfl rfl (by decide) (by decide) rfl hFc hk1 ht hvm hB
    have hP : va_P D vwCl [(va, .inl (ci, 4, .inl (zi [nI lo, nI hi, nI xe, nI co]))), (xo, .inr (6, [.ref xg, .int 5, .ref xp, .int pc, .ref xq, .int qc, .ref r1, .ref r2, .ref r3, .ref r4, .ref se, .int ts, .int hou, .int dr, .int su, .int br])), (xg, .inl (cg, 6, .inr (.inr (.inr (.inr (zq [some a0, some a1, some a2, some a3, some v_1335, none])))))), (v_1335, .inr (0, [.int (nI lo), .int (nI hi), .int (nI xe), .int (nI co)]))] H := hP
    have hD : va_D A [(va, .inl (ci, 4, .inl (zi [nI lo, nI hi, nI xe, nI co]))), (xo, .inr (6, [.ref xg, .int 5, .ref xp, .int pc, .ref xq, .int qc, .ref r1, .ref r2, .ref r3, .ref r4, .ref se, .int ts, .int hou, .int dr, .int su, .int br])), (xg, .inl (cg, 6, .inr (.inr (.inr (.inr (zq [some a0, some a1, some a2, some a3, some v_1335, none])))))), (v_1335, .inr (0, [.int (nI lo), .int (nI hi), .int (nI xe), .int (nI co)]))] := hD
    have hK : va_K D vwCl [(ci, .int), (cg, .object "Gatherhouse$Glass")] s := hK
    refine W.widen (k := 1) (n := 4) (Nat.le_of_ble_eq_true rfl) (Nat.le_of_ble_eq_true rfl) ?_
    obtain rfl := w_1334
    refine vx_ret ?_
    exact W.iret (v := 4) hx hb hr (fun t ht hW => ⟨⟨4, (), rfl, rfl, ⟨v_1335, q_RW_mk hP hK hD [1, 2, 3] [1] rfl rfl (by decide) rfl ht hW.alike⟩⟩, hS.F ht⟩) hS.2.2 dL_ask_260
def wzEL_ask_glass_5 : List Cond := [.codeWith yL_ask cL_ask 4 (some .int) ttL_ask, .methodLink RL 7 yX6_glass, .instanceMethod yX6_glass, .selects RX6 yX6_glass yX6_glass, .initialized RX6, .code yX6_glass cX6_glass 5 (some .int), .methodLink RX6 75 yX6_checkRange, .static yX6_checkRange, .code yX6_checkRange cX6_checkRange 3 none, .fieldLink RX6 15 "Gatherhouse" "glassCount" "I", .fieldLink RX6 11 "Gatherhouse" "glasses" "[LGatherhouse$Glass;", .classLink RX6 9 RX0, .instantiable RX0 4, .initialized RX0, .code yX0_init cX0_init 5 none, .methodLink RX0 3 objectInit, .instanceMethod objectInit, .code objectInit ⟨#[0xb1]⟩ 1 none, .fieldLink RX0 9 "Gatherhouse$Glass" "low" "I", .fieldLink RX0 15 "Gatherhouse$Glass" "high" "I", .fieldLink RX0 18 "Gatherhouse$Glass" "expansion" "I", .fieldLink RX0 21 "Gatherhouse$Glass" "colour" "I", .instanceMethod yX0_init]
def wzL_ask_glass_5 : List Cond := wzEL_ask_glass_5 ++ (u_ws RX6 TX6 16 ++ (u_ws RX0 TX0 4))
theorem zgEL_ask_glass_5 : wzEL_ask_glass_5.all goodWord = true := by decide +kernel
theorem zuL_ask_glass_5_X6 : ∀ w ∈ u_ws RX6 TX6 16, w ∈ wzL_ask_glass_5 := (fun _ h => (List.mem_append_right _ (List.mem_append_left _ h)))
theorem zuL_ask_glass_5_X0 : ∀ w ∈ u_ws RX0 TX0 4, w ∈ wzL_ask_glass_5 := (fun _ h => (List.mem_append_right _ (List.mem_append_right _ h)))
theorem gzL_ask_glass_5_X6_glass_5_7 : GoodIn wzL_ask_glass_5 (wsV RL 7 RX6 yX6_glass wzX6_glass_5) := (goodIn_app (z_lift (goodIn_r _ [1, 2, 3, 4] rfl (by decide +kernel))) (goodIn_app (z_lift (goodIn_r wzEX6_glass_5 [5, 6, 7, 4, 8, 9, 10, 11, 12, 13, 14, 15, 16, 17, 18, 19, 20, 21, 22] rfl zgEX6_glass_5)) (goodIn_app (goodIn_sub (fun _ h => (List.mem_append_right _ (List.mem_append_left _ h))) zgU_X6) (goodIn_sub (fun _ h => (List.mem_append_right _ (List.mem_append_right _ h))) zgU_X0))))
set_option maxHeartbeats 4000000 in
set_option maxRecDepth 100000 in
theorem zc_L_ask_glass_5 (l : Launch) (hnt : l.stackTraces = false) (D : va_G) (G : Nat × Nat × (Nat → Int32)) (xo : Nat) (va : Nat) (xg : Nat) (xp : Nat) (pc : Int32) (xq : Nat) (qc : Int32) (r1 : Nat) (r2 : Nat) (r3 : Nat) (r4 : Nat) (se : Nat) (ts : Int32) (hou : Int32) (dr : Int32) (su : Int32) (br : Int32) (cg : ClassId) (a0 : Nat) (a1 : Nat) (a2 : Nat) (a3 : Nat) (a4 : Nat) (ci : ClassId) (lo : Nat) (hi : Nat) (xe : Nat) (co : Nat) (sz : Nat) (g1 : lo ≤ hi) (hl_lo : 600 ≤ lo) (hh_lo : lo ≤ 1100) (hl_hi : 600 ≤ hi) (hh_hi : hi ≤ 1100) (hl_xe : 50 ≤ xe) (hh_xe : xe ≤ 150) (hh_co : co ≤ 9) : vx_Met l yL_ask wzL_ask_glass_5 ({ frames := 3, cells := 1, slots := 4, locals := 60 }) (va_Pc [.ref xo, .int 71, .ref va] (p_RW D G [(cg, .object "Gatherhouse$Glass"), (ci, .int)] [(xo, .inr (6, [.ref xg, .int 5, .ref xp, .int pc, .ref xq, .int qc, .ref r1, .ref r2, .ref r3, .ref r4, .ref se, .int ts, .int hou, .int dr, .int su, .int br])), (xg, .inl (cg, 6, .inr (.inr (.inr (.inr (zq [some a0, some a1, some a2, some a3, some a4, none])))))), (va, .inl (ci, 4, .inl (zi [nI lo, nI hi, nI xe, nI co])))] sz)) (va_Qi (fun (r : Int32) (u : Unit) => r = 5) (fun (u : Unit) (t : State) => ∃ (gn : Nat), q_RW D [(cg, .object "Gatherhouse$Glass")] [(xo, .inr (6, [.ref xg, .int 6, .ref xp, .int pc, .ref xq, .int qc, .ref r1, .ref r2, .ref r3, .ref r4, .ref se, .int ts, .int hou, .int dr, .int su, .int br])), (xg, .inl (cg, 6, .inr (.inr (.inr (.inr (zq [some a0, some a1, some a2, some a3, some a4, some gn])))))), (gn, .inr (0, [.int (nI lo), .int (nI hi), .int (nI xe), .int (nI co)]))] (va_A [(xo, .inr (6, [.ref xg, .int 5, .ref xp, .int pc, .ref xq, .int qc, .ref r1, .ref r2, .ref r3, .ref r4, .ref se, .int ts, .int hou, .int dr, .int su, .int br])), (xg, .inl (cg, 6, .inr (.inr (.inr (.inr (zq [some a0, some a1, some a2, some a3, some a4, none])))))), (va, .inl (ci, 4, .inl (zi [nI lo, nI hi, nI xe, nI co])))] sz) t) (va_A [(xo, .inr (6, [.ref xg, .int 5, .ref xp, .int pc, .ref xq, .int qc, .ref r1, .ref r2, .ref r3, .ref r4, .ref se, .int ts, .int hou, .int dr, .int su, .int br])), (xg, .inl (cg, 6, .inr (.inr (.inr (.inr (zq [some a0, some a1, some a2, some a3, some a4, none])))))), (va, .inl (ci, 4, .inl (zi [nI lo, nI hi, nI xe, nI co])))] sz)) (vx_X (fun (_ : Unit) => True) (fun E (_ : Unit) (_ : State) => False) (va_A [(xo, .inr (6, [.ref xg, .int 5, .ref xp, .int pc, .ref xq, .int qc, .ref r1, .ref r2, .ref r3, .ref r4, .ref se, .int ts, .int hou, .int dr, .int su, .int br])), (xg, .inl (cg, 6, .inr (.inr (.inr (.inr (zq [some a0, some a1, some a2, some a3, some a4, none])))))), (va, .inl (ci, 4, .inl (zi [nI lo, nI hi, nI xe, nI co])))] sz)) 1 4 (va_A [(xo, .inr (6, [.ref xg, .int 5, .ref xp, .int pc, .ref xq, .int qc, .ref r1, .ref r2, .ref r3, .ref r4, .ref se, .int ts, .int hou, .int dr, .int su, .int br])), (xg, .inl (cg, 6, .inr (.inr (.inr (.inr (zq [some a0, some a1, some a2, some a3, some a4, none])))))), (va, .inl (ci, 4, .inl (zi [nI lo, nI hi, nI xe, nI co])))] sz) := by
  refine vx_ofWH (cc := cL_ask) (maxL := 4) (ret := (some .int)) (by decide) rfl ?_
  intro p e s m args below meth c s₁ B hml hv
  obtain ⟨rfl, hsz, hP, hK, hD0, hT, hZ⟩ := hv
  have hx := B.exec
  have hb := B.bytes
  have hr := B.returns
  have hts := atoms_spec (ws := wzL_ask_glass_5) B.pre
  have hown : s.vm.findClass RL = some m.cls := findClass_of_methodNamed B.named
  have hlocks := B.notSynchronized
  have hxe := vx_table (x := yL_ask) B (hts _ List.mem_cons_self)
  subst hsz
  have hD := hD0.self (sz := s.heap.size)
  generalize hAe : va_A [(xo, .inr (6, [.ref xg, .int 5, .ref xp, .int pc, .ref xq, .int qc, .ref r1, .ref r2, .ref r3, .ref r4, .ref se, .int ts, .int hou, .int dr, .int su, .int br])), (xg, .inl (cg, 6, .inr (.inr (.inr (.inr (zq [some a0, some a1, some a2, some a3, some a4, none])))))), (va, .inl (ci, 4, .inl (zi [nI lo, nI hi, nI xe, nI co])))] s.heap.size = A at hD hZ ⊢
  have hA : ∀ q : Nat, s.heap.size ≤ q → A q := fun q h => by rw [← hAe]; exact Or.inr h
  have hS : va_S A s.heap s.heap [] := va_S.rf
  have hl := lv_entry ([.ref xo, .int 71, .ref va]) (n := 4) (Nat.le_of_ble_eq_true rfl)
  rw [lg_entry_eq]
  generalize (lg_sl ([.ref xo, .int 71, .ref va]) ++ List.replicate (4 - (lg_sl ([.ref xo, .int 71, .ref va])).length) Slot.unset).toArray = ls at hl ⊢
  have hl : lv_has ls 4 [(0, .ref xo), (1, .int 71), (2, .ref va)] := hl
  refine lv_iload_n hx hb dL_ask_0 rfl (lv_at hl 1 rfl) ?_
  refine lv_tableIn (off := 243) (tgt := 244) hx hb dL_ask_1 (by decide +kernel) (by decide +kernel) (by decide +kernel) (by decide) ?_
  refine lv_aload_n hx hb dL_ask_244 rfl (lv_at hl 0 rfl) ?_
  refine lv_aload_n hx hb dL_ask_245 rfl (lv_at hl 2 rfl) ?_
  refine lv_iconst (v := 0) hx hb dL_ask_246 (by decide) ?_
  refine va_iald (D := D) (cl := vwCl) hx hb hK hP 2 1 rfl rfl (vp_in_nI (n := 0) (N := 4) (by decide) (by decide)) dL_ask_247 ?_
  refine W.eq (g2 := F0 m 248 ls [.int (nI lo), .ref xo]) rfl ?_
  refine lv_aload_n hx hb dL_ask_248 rfl (lv_at hl 2 rfl) ?_
  refine lv_iconst (v := 1) hx hb dL_ask_249 (by decide) ?_
  refine va_iald (D := D) (cl := vwCl) hx hb hK hP 2 1 rfl rfl (vp_in_nI (n := 1) (N := 4) (by decide) (by decide)) dL_ask_250 ?_
  refine W.eq (g2 := F0 m 251 ls [.int (nI hi), .int (nI lo), .ref xo]) rfl ?_
  refine lv_aload_n hx hb dL_ask_251 rfl (lv_at hl 2 rfl) ?_
  refine lv_iconst (v := 2) hx hb dL_ask_252 (by decide) ?_
  refine va_iald (D := D) (cl := vwCl) hx hb hK hP 2 1 rfl rfl (vp_in_nI (n := 2) (N := 4) (by decide) (by decide)) dL_ask_253 ?_
  refine W.eq (g2 := F0 m 254 ls [.int (nI xe), .int (nI hi), .int (nI lo), .ref xo]) rfl ?_
  refine lv_aload_n hx hb dL_ask_254 rfl (lv_at hl 2 rfl) ?_
  refine lv_iconst (v := 3) hx hb dL_ask_255 (by decide) ?_
  refine va_iald (D := D) (cl := vwCl) hx hb hK hP 2 1 rfl rfl (vp_in_nI (n := 3) (N := 4) (by decide) (by decide)) dL_ask_256 ?_
  refine W.eq (g2 := F0 m 257 ls [.int (nI co), .int (nI xe), .int (nI hi), .int (nI lo), .ref xo]) rfl ?_
  have hFc := va_free (wc := [(xo, .inr (6, [.ref xg, .int 5, .ref xp, .int pc, .ref xq, .int qc, .ref r1, .ref r2, .ref r3, .ref r4, .ref se, .int ts, .int hou, .int dr, .int su, .int br])), (xg, .inl (cg, 6, .inr (.inr (.inr (.inr (zq [some a0, some a1, some a2, some a3, some a4, none]))))))]) hD hS hA [0, 1] rfl
  refine vx_calli (vx_runV (As := [.int (nI lo), .int (nI hi), .int (nI xe), .int (nI co)]) (rest := []) ⟨hx, hb, hml, hown, hts⟩ (zc_X6_glass_5 l hnt D G xo lo hi xe co xg xp pc xq qc r1 r2 r3 r4 se ts hou dr su br cg a0 a1 a2 a3 a4 s.heap.size (by first | assumption | rfl | omega | exact Nat.le_trans (zS_le _ _ _) (by omega) | decide) (by first | assumption | rfl | omega | exact Nat.le_trans (zS_le _ _ _) (by omega) | decide) (by first | assumption | rfl | omega | exact Nat.le_trans (zS_le _ _ _) (by omega) | decide) (by first | assumption | rfl | omega | exact Nat.le_trans (zS_le _ _ _) (by omega) | decide) (by first | assumption | rfl | omega | exact Nat.le_trans (zS_le _ _ _) (by omega) | decide) (by first | assumption | rfl | omega | exact Nat.le_trans (zS_le _ _ _) (by omega) | decide) (by first | assumption | rfl | omega | exact Nat.le_trans (zS_le _ _ _) (by omega) | decide) (by first | assumption | rfl | omega | exact Nat.le_trans (zS_le _ _ _) (by omega) | decide)) (cwV 4 hts gzL_ask_glass_5_X6_glass_5_7 rfl rfl rfl (by decide +kernel) ⟨(Nat.le_of_ble_eq_true rfl), (Nat.le_of_ble_eq_true rfl)⟩) ⟨p_RW_blind, va_recv hK hP (ci := 6) (q0 := 0) rfl rfl, (p_RW_at (tc := [(cg, .object "Gatherhouse$Glass")]) (wc := [(xo, .inr (6, [.ref xg, .int 5, .ref xp, .int pc, .ref xq, .int qc, .ref r1, .ref r2, .ref r3, .ref r4, .ref se, .int ts, .int hou, .int dr, .int su, .int br])), (xg, .inl (cg, 6, .inr (.inr (.inr (.inr (zq [some a0, some a1, some a2, some a3, some a4, none]))))))]) hP hK hD hS hA hT hZ [0, 1] [0] rfl rfl (by decide) rfl [.ref xo, .int (nI lo), .int (nI hi), .int (nI xe), .int (nI co)])⟩ rfl rfl hl.1 rfl (lv_room (Nat.le_of_ble_eq_true rfl)) dL_ask_257 ⟨(Nat.le_of_ble_eq_true rfl), (Nat.le_of_ble_eq_true rfl)⟩) hS (fun q _ h => hFc q h) hFc (fun q _ h => hFc q h) (fun E ce q9 u t H locs ht hvm hpx hBX hz1 hk1 hS hce hcv hcl => ?_) (fun r_1336 u t H locs ht hvm w_1337 hB hz1 hk1 hS => ?_)
  · exact (show False from hBX).elim
  · obtain ⟨v_1338, hB⟩ := hB
    obtain ⟨hP, hD, hK⟩ := q_join (D := D) (wc := [(xo, .inr (6, [.ref xg, .int 5, .ref xp, .int pc, .ref xq, .int qc, .ref r1, .ref r2, .ref r3, .ref r4, .ref se, .int ts, .int hou, .int dr, .int su, .int br])), (xg, .inl (cg, 6, .inr (.inr (.inr (.inr (zq [some a0, some a1, some a2, some a3, some a4, none]))))))]) (wr := [(va, .inl (ci, 4, .inl (zi [nI lo, nI hi, nI xe, nI co])))]) (w1 := [(xo, .inr (6, [.ref xg, .int 6, .ref xp, .int pc, .ref xq, .int qc, .ref r1, .ref r2, .ref r3, .ref r4, .ref se, .int ts, .int hou, .int dr, .int su, .int br])), (xg, .inl (cg, 6, .inr (.inr (.inr (.inr (zq [some a0, some a1, some a2, some a3, some a4, some v_1338])))))), (v_1338, .inr (0, [.int (nI lo), .int (nI hi), .int (nI xe), .int (nI co)]))]) (tyr := [(ci, .int)]) (ty1 := [(cg, .object "Gatherhouse$Glass")]) hP hD hK [0, 1] [2] [1] rfl rfl (by decide) (by decide) rfl hFc hk1 ht hvm hB
    have hP : va_P D vwCl [(va, .inl (ci, 4, .inl (zi [nI lo, nI hi, nI xe, nI co]))), (xo, .inr (6, [.ref xg, .int 6, .ref xp, .int pc, .ref xq, .int qc, .ref r1, .ref r2, .ref r3, .ref r4, .ref se, .int ts, .int hou, .int dr, .int su, .int br])), (xg, .inl (cg, 6, .inr (.inr (.inr (.inr (zq [some a0, some a1, some a2, some a3, some a4, some v_1338])))))), (v_1338, .inr (0, [.int (nI lo), .int (nI hi), .int (nI xe), .int (nI co)]))] H := hP
    have hD : va_D A [(va, .inl (ci, 4, .inl (zi [nI lo, nI hi, nI xe, nI co]))), (xo, .inr (6, [.ref xg, .int 6, .ref xp, .int pc, .ref xq, .int qc, .ref r1, .ref r2, .ref r3, .ref r4, .ref se, .int ts, .int hou, .int dr, .int su, .int br])), (xg, .inl (cg, 6, .inr (.inr (.inr (.inr (zq [some a0, some a1, some a2, some a3, some a4, some v_1338])))))), (v_1338, .inr (0, [.int (nI lo), .int (nI hi), .int (nI xe), .int (nI co)]))] := hD
    have hK : va_K D vwCl [(ci, .int), (cg, .object "Gatherhouse$Glass")] s := hK
    refine W.widen (k := 1) (n := 4) (Nat.le_of_ble_eq_true rfl) (Nat.le_of_ble_eq_true rfl) ?_
    obtain rfl := w_1337
    refine vx_ret ?_
    exact W.iret (v := 5) hx hb hr (fun t ht hW => ⟨⟨5, (), rfl, rfl, ⟨v_1338, q_RW_mk hP hK hD [1, 2, 3] [1] rfl rfl (by decide) rfl ht hW.alike⟩⟩, hS.F ht⟩) hS.2.2 dL_ask_260
theorem zgV_X6_83 : ((vx_atS RX6 83 "java/lang/IllegalStateException" ["java/lang/RuntimeException", "java/lang/Exception"]).filter goodWord).all goodWord = true := by decide +kernel
theorem dL_ask_476 : decode cL_ask 476 = .ok (.astore_n 3, 1) := by decide +kernel
theorem dL_ask_477 : decode cL_ask 477 = .ok (.ldc 87, 2) := by decide +kernel
theorem dL_ask_479 : decode cL_ask 479 = .ok (.ireturn, 1) := by decide +kernel
def wzEL_ask_glass_full : List Cond := [.codeWith yL_ask cL_ask 4 (some .int) ttL_ask, .methodLink RL 7 yX6_glass, .instanceMethod yX6_glass, .selects RX6 yX6_glass yX6_glass, .initialized RX6, .code yX6_glass cX6_glass 5 (some .int), .methodLink RX6 75 yX6_checkRange, .static yX6_checkRange, .code yX6_checkRange cX6_checkRange 3 none, .fieldLink RX6 15 "Gatherhouse" "glassCount" "I", .fieldLink RX6 11 "Gatherhouse" "glasses" "[LGatherhouse$Glass;", .classLink RX6 79 "java/lang/IllegalStateException", .initialized "java/lang/IllegalStateException", .classLink RL 82 "java/lang/IllegalArgumentException", .classLink RL 79 "java/lang/IndexOutOfBoundsException", .classLink RL 85 "java/lang/IllegalStateException", .constant RL 87 (-2000000003)]
def wzL_ask_glass_full : List Cond := wzEL_ask_glass_full ++ (u_ws RX6 TX6 16 ++ ((vx_atS RX6 83 "java/lang/IllegalStateException" ["java/lang/RuntimeException", "java/lang/Exception"]).filter goodWord))
theorem zgEL_ask_glass_full : wzEL_ask_glass_full.all goodWord = true := by decide +kernel
theorem zuL_ask_glass_full_X6 : ∀ w ∈ u_ws RX6 TX6 16, w ∈ wzL_ask_glass_full := (fun _ h => (List.mem_append_right _ (List.mem_append_left _ h)))
theorem ztL_ask_glass_full_X6_83 : ∀ w ∈ (vx_atS RX6 83 "java/lang/IllegalStateException" ["java/lang/RuntimeException", "java/lang/Exception"]).filter goodWord, w ∈ wzL_ask_glass_full := (fun _ h => (List.mem_append_right _ (List.mem_append_right _ h)))
theorem gzL_ask_glass_full_X6_glass_full_7 : GoodIn wzL_ask_glass_full (wsV RL 7 RX6 yX6_glass wzX6_glass_full) := (goodIn_app (z_lift (goodIn_r _ [1, 2, 3, 4] rfl (by decide +kernel))) (goodIn_app (z_lift (goodIn_r wzEX6_glass_full [5, 6, 7, 4, 8, 9, 10, 11, 12] rfl zgEX6_glass_full)) (goodIn_app (goodIn_sub (fun _ h => (List.mem_append_right _ (List.mem_append_left _ h))) zgU_X6) (goodIn_sub (fun _ h => (List.mem_append_right _ (List.mem_append_right _ h))) zgV_X6_83))))
set_option maxHeartbeats 4000000 in
set_option maxRecDepth 100000 in
theorem zc_L_ask_glass_full (l : Launch) (hnt : l.stackTraces = false) (D : va_G) (G : Nat × Nat × (Nat → Int32)) (xo : Nat) (va : Nat) (xg : Nat) (xp : Nat) (pc : Int32) (xq : Nat) (qc : Int32) (r1 : Nat) (r2 : Nat) (r3 : Nat) (r4 : Nat) (se : Nat) (ts : Int32) (hou : Int32) (dr : Int32) (su : Int32) (br : Int32) (cg : ClassId) (a0 : Nat) (a1 : Nat) (a2 : Nat) (a3 : Nat) (a4 : Nat) (a5 : Nat) (ci : ClassId) (sz : Nat) : vx_Met l yL_ask wzL_ask_glass_full ({ frames := 7, cells := 1, slots := 6, locals := 106 }) (va_Pc [.ref xo, .int 71, .ref va] (p_RW D G [(cg, .object "Gatherhouse$Glass"), (ci, .int)] [(xo, .inr (6, [.ref xg, .int 6, .ref xp, .int pc, .ref xq, .int qc, .ref r1, .ref r2, .ref r3, .ref r4, .ref se, .int ts, .int hou, .int dr, .int su, .int br])), (xg, .inl (cg, 6, .inr (.inr (.inr (.inr (zq [some a0, some a1, some a2, some a3, some a4, some a5])))))), (va, .inl (ci, 4, .inl (zi [600, 700, 50, 0])))] sz)) (va_Qi (fun (r : Int32) (u : Unit) => r = (-2000000003)) (fun (u : Unit) (t : State) => q_RW D [(cg, .object "Gatherhouse$Glass")] [(xo, .inr (6, [.ref xg, .int 6, .ref xp, .int pc, .ref xq, .int qc, .ref r1, .ref r2, .ref r3, .ref r4, .ref se, .int ts, .int hou, .int dr, .int su, .int br])), (xg, .inl (cg, 6, .inr (.inr (.inr (.inr (zq [some a0, some a1, some a2, some a3, some a4, some a5]))))))] (va_A [(xo, .inr (6, [.ref xg, .int 6, .ref xp, .int pc, .ref xq, .int qc, .ref r1, .ref r2, .ref r3, .ref r4, .ref se, .int ts, .int hou, .int dr, .int su, .int br])), (xg, .inl (cg, 6, .inr (.inr (.inr (.inr (zq [some a0, some a1, some a2, some a3, some a4, some a5])))))), (va, .inl (ci, 4, .inl (zi [600, 700, 50, 0])))] sz) t) (va_A [(xo, .inr (6, [.ref xg, .int 6, .ref xp, .int pc, .ref xq, .int qc, .ref r1, .ref r2, .ref r3, .ref r4, .ref se, .int ts, .int hou, .int dr, .int su, .int br])), (xg, .inl (cg, 6, .inr (.inr (.inr (.inr (zq [some a0, some a1, some a2, some a3, some a4, some a5])))))), (va, .inl (ci, 4, .inl (zi [600, 700, 50, 0])))] sz)) (vx_X (fun (_ : Unit) => True) (fun E (_ : Unit) (_ : State) => False) (va_A [(xo, .inr (6, [.ref xg, .int 6, .ref xp, .int pc, .ref xq, .int qc, .ref r1, .ref r2, .ref r3, .ref r4, .ref se, .int ts, .int hou, .int dr, .int su, .int br])), (xg, .inl (cg, 6, .inr (.inr (.inr (.inr (zq [some a0, some a1, some a2, some a3, some a4, some a5])))))), (va, .inl (ci, 4, .inl (zi [600, 700, 50, 0])))] sz)) 1 6 (va_A [(xo, .inr (6, [.ref xg, .int 6, .ref xp, .int pc, .ref xq, .int qc, .ref r1, .ref r2, .ref r3, .ref r4, .ref se, .int ts, .int hou, .int dr, .int su, .int br])), (xg, .inl (cg, 6, .inr (.inr (.inr (.inr (zq [some a0, some a1, some a2, some a3, some a4, some a5])))))), (va, .inl (ci, 4, .inl (zi [600, 700, 50, 0])))] sz) := by
  refine vx_ofWH (cc := cL_ask) (maxL := 4) (ret := (some .int)) (by decide) rfl ?_
  intro p e s m args below meth c s₁ B hml hv
  obtain ⟨rfl, hsz, hP, hK, hD0, hT, hZ⟩ := hv
  have hx := B.exec
  have hb := B.bytes
  have hr := B.returns
  have hts := atoms_spec (ws := wzL_ask_glass_full) B.pre
  have hown : s.vm.findClass RL = some m.cls := findClass_of_methodNamed B.named
  have hlocks := B.notSynchronized
  have hxe := vx_table (x := yL_ask) B (hts _ List.mem_cons_self)
  subst hsz
  have hD := hD0.self (sz := s.heap.size)
  generalize hAe : va_A [(xo, .inr (6, [.ref xg, .int 6, .ref xp, .int pc, .ref xq, .int qc, .ref r1, .ref r2, .ref r3, .ref r4, .ref se, .int ts, .int hou, .int dr, .int su, .int br])), (xg, .inl (cg, 6, .inr (.inr (.inr (.inr (zq [some a0, some a1, some a2, some a3, some a4, some a5])))))), (va, .inl (ci, 4, .inl (zi [600, 700, 50, 0])))] s.heap.size = A at hD hZ ⊢
  have hA : ∀ q : Nat, s.heap.size ≤ q → A q := fun q h => by rw [← hAe]; exact Or.inr h
  have hS : va_S A s.heap s.heap [] := va_S.rf
  have hl := lv_entry ([.ref xo, .int 71, .ref va]) (n := 4) (Nat.le_of_ble_eq_true rfl)
  rw [lg_entry_eq]
  generalize (lg_sl ([.ref xo, .int 71, .ref va]) ++ List.replicate (4 - (lg_sl ([.ref xo, .int 71, .ref va])).length) Slot.unset).toArray = ls at hl ⊢
  have hl : lv_has ls 4 [(0, .ref xo), (1, .int 71), (2, .ref va)] := hl
  refine lv_iload_n hx hb dL_ask_0 rfl (lv_at hl 1 rfl) ?_
  refine lv_tableIn (off := 243) (tgt := 244) hx hb dL_ask_1 (by decide +kernel) (by decide +kernel) (by decide +kernel) (by decide) ?_
  refine lv_aload_n hx hb dL_ask_244 rfl (lv_at hl 0 rfl) ?_
  refine lv_aload_n hx hb dL_ask_245 rfl (lv_at hl 2 rfl) ?_
  refine lv_iconst (v := 0) hx hb dL_ask_246 (by decide) ?_
  refine va_iald (D := D) (cl := vwCl) hx hb hK hP 2 1 rfl rfl (vp_in_nI (n := 0) (N := 4) (by decide) (by decide)) dL_ask_247 ?_
  refine W.eq (g2 := F0 m 248 ls [.int 600, .ref xo]) rfl ?_
  refine lv_aload_n hx hb dL_ask_248 rfl (lv_at hl 2 rfl) ?_
  refine lv_iconst (v := 1) hx hb dL_ask_249 (by decide) ?_
  refine va_iald (D := D) (cl := vwCl) hx hb hK hP 2 1 rfl rfl (vp_in_nI (n := 1) (N := 4) (by decide) (by decide)) dL_ask_250 ?_
  refine W.eq (g2 := F0 m 251 ls [.int 700, .int 600, .ref xo]) rfl ?_
  refine lv_aload_n hx hb dL_ask_251 rfl (lv_at hl 2 rfl) ?_
  refine lv_iconst (v := 2) hx hb dL_ask_252 (by decide) ?_
  refine va_iald (D := D) (cl := vwCl) hx hb hK hP 2 1 rfl rfl (vp_in_nI (n := 2) (N := 4) (by decide) (by decide)) dL_ask_253 ?_
  refine W.eq (g2 := F0 m 254 ls [.int 50, .int 700, .int 600, .ref xo]) rfl ?_
  refine lv_aload_n hx hb dL_ask_254 rfl (lv_at hl 2 rfl) ?_
  refine lv_iconst (v := 3) hx hb dL_ask_255 (by decide) ?_
  refine va_iald (D := D) (cl := vwCl) hx hb hK hP 2 1 rfl rfl (vp_in_nI (n := 3) (N := 4) (by decide) (by decide)) dL_ask_256 ?_
  refine W.eq (g2 := F0 m 257 ls [.int 0, .int 50, .int 700, .int 600, .ref xo]) rfl ?_
  have hFc := va_free (wc := [(xo, .inr (6, [.ref xg, .int 6, .ref xp, .int pc, .ref xq, .int qc, .ref r1, .ref r2, .ref r3, .ref r4, .ref se, .int ts, .int hou, .int dr, .int su, .int br])), (xg, .inl (cg, 6, .inr (.inr (.inr (.inr (zq [some a0, some a1, some a2, some a3, some a4, some a5]))))))]) hD hS hA [0, 1] rfl
  refine vx_calli (vx_runV (As := [.int 600, .int 700, .int 50, .int 0]) (rest := []) ⟨hx, hb, hml, hown, hts⟩ (zc_X6_glass_full l hnt D G xo xg xp pc xq qc r1 r2 r3 r4 se ts hou dr su br cg a0 a1 a2 a3 a4 a5 s.heap.size) (cwV 4 hts gzL_ask_glass_full_X6_glass_full_7 rfl rfl rfl (by decide +kernel) ⟨(Nat.le_of_ble_eq_true rfl), (Nat.le_of_ble_eq_true rfl)⟩) ⟨p_RW_blind, va_recv hK hP (ci := 6) (q0 := 0) rfl rfl, (p_RW_at (tc := [(cg, .object "Gatherhouse$Glass")]) (wc := [(xo, .inr (6, [.ref xg, .int 6, .ref xp, .int pc, .ref xq, .int qc, .ref r1, .ref r2, .ref r3, .ref r4, .ref se, .int ts, .int hou, .int dr, .int su, .int br])), (xg, .inl (cg, 6, .inr (.inr (.inr (.inr (zq [some a0, some a1, some a2, some a3, some a4, some a5]))))))]) hP hK hD hS hA hT hZ [0, 1] [0] rfl rfl (by decide) rfl [.ref xo, .int 600, .int 700, .int 50, .int 0])⟩ rfl rfl hl.1 rfl (lv_room (Nat.le_of_ble_eq_true rfl)) dL_ask_257 ⟨(Nat.le_of_ble_eq_true rfl), (Nat.le_of_ble_eq_true rfl)⟩) hS (fun q _ h => hFc q h) hFc (fun q _ h => hFc q h) (fun E ce q9 u t H locs ht hvm hpx hBX hz1 hk1 hS hce hcv hcl => ?_) (fun r_1339 u t H locs ht hvm w_1340 hB hz1 hk1 hS => ?_)
  · obtain ⟨hBX, hB⟩ := hBX
    obtain ⟨hP, hD, hK⟩ := q_join (D := D) (wc := [(xo, .inr (6, [.ref xg, .int 6, .ref xp, .int pc, .ref xq, .int qc, .ref r1, .ref r2, .ref r3, .ref r4, .ref se, .int ts, .int hou, .int dr, .int su, .int br])), (xg, .inl (cg, 6, .inr (.inr (.inr (.inr (zq [some a0, some a1, some a2, some a3, some a4, some a5]))))))]) (wr := [(va, .inl (ci, 4, .inl (zi [600, 700, 50, 0])))]) (w1 := [(xo, .inr (6, [.ref xg, .int 6, .ref xp, .int pc, .ref xq, .int qc, .ref r1, .ref r2, .ref r3, .ref r4, .ref se, .int ts, .int hou, .int dr, .int su, .int br])), (xg, .inl (cg, 6, .inr (.inr (.inr (.inr (zq [some a0, some a1, some a2, some a3, some a4, some a5]))))))]) (tyr := [(ci, .int)]) (ty1 := [(cg, .object "Gatherhouse$Glass")]) hP hD hK [0, 1] [2] [1] rfl rfl (by decide) (by decide) rfl hFc hk1 ht hvm hB
    have hP : va_P D vwCl [(va, .inl (ci, 4, .inl (zi [600, 700, 50, 0]))), (xo, .inr (6, [.ref xg, .int 6, .ref xp, .int pc, .ref xq, .int qc, .ref r1, .ref r2, .ref r3, .ref r4, .ref se, .int ts, .int hou, .int dr, .int su, .int br])), (xg, .inl (cg, 6, .inr (.inr (.inr (.inr (zq [some a0, some a1, some a2, some a3, some a4, some a5]))))))] H := hP
    have hD : va_D A [(va, .inl (ci, 4, .inl (zi [600, 700, 50, 0]))), (xo, .inr (6, [.ref xg, .int 6, .ref xp, .int pc, .ref xq, .int qc, .ref r1, .ref r2, .ref r3, .ref r4, .ref se, .int ts, .int hou, .int dr, .int su, .int br])), (xg, .inl (cg, 6, .inr (.inr (.inr (.inr (zq [some a0, some a1, some a2, some a3, some a4, some a5]))))))] := hD
    have hK : va_K D vwCl [(ci, .int), (cg, .object "Gatherhouse$Glass")] s := hK
    have hBX : (E = "java/lang/IllegalStateException") := hBX
    rcases hBX with rfl
    refine z_catch (own := RL) (name := "java/lang/IllegalStateException") (hh := ttL_ask) (x := ⟨0, 260, 476, 85⟩) hown hxe 40 rfl [(79, "java/lang/IndexOutOfBoundsException"), (82, "java/lang/IllegalArgumentException")] (by decide +kernel) (List.forall_mem_cons.mpr ⟨⟨by decide, (hts (.classLink RL 79 "java/lang/IndexOutOfBoundsException") (by decide +kernel)), hT.2.2.2.1 ("java/lang/IllegalStateException", "java/lang/IndexOutOfBoundsException") (by decide +kernel)⟩, (List.forall_mem_cons.mpr ⟨⟨by decide, (hts (.classLink RL 82 "java/lang/IllegalArgumentException") (by decide +kernel)), hT.2.2.2.1 ("java/lang/IllegalStateException", "java/lang/IllegalArgumentException") (by decide +kernel)⟩, (fun _ h => absurd h List.not_mem_nil)⟩)⟩) (by decide) (by decide) (hts (.classLink RL 85 "java/lang/IllegalStateException") (by decide +kernel)) (va_Nw.use rfl (hT.2.2.1 ("java/lang/IllegalStateException", "java/lang/IllegalStateException") (by decide +kernel))) hce hcv hcl ?_
    refine W.eq (g2 := F0 m 476 ls [.ref q9]) rfl ?_
    refine lv_astore_n (lv' := [(3, .ref q9), (0, .ref xo), (1, .int 71), (2, .ref va)]) hx hb dL_ask_476 rfl hl (by decide) rfl (fun ls hl => ?_)
    refine lv_ldc (v := (-2000000003)) hx hb hown (hts (.constant RL 87 (-2000000003)) (by decide +kernel)) dL_ask_477 ?_
    refine vx_ret ?_
    exact W.iret (v := (-2000000003)) hx hb hr (fun t ht hW => ⟨⟨(-2000000003), (), rfl, rfl, q_RW_mk hP hK hD [1, 2] [1] rfl rfl (by decide) rfl ht hW.alike⟩, hS.F ht⟩) hS.2.2 dL_ask_479
  · exact w_1340.elim
theorem dL_ask_271 : decode cL_ask 271 = .ok (.ifCond .eq 7, 3) := by decide +kernel
theorem dL_ask_274 : decode cL_ask 274 = .ok (.iconst 1, 1) := by decide +kernel
theorem dL_ask_275 : decode cL_ask 275 = .ok (.goto 4, 3) := by decide +kernel
theorem dL_ask_279 : decode cL_ask 279 = .ok (.ireturn, 1) := by decide +kernel
theorem dL_ask_278 : decode cL_ask 278 = .ok (.iconst 0, 1) := by decide +kernel
def wzEL_ask_agree_2 : List Cond := [.codeWith yL_ask cL_ask 4 (some .int) ttL_ask, .methodLink RL 13 yX6_agree, .instanceMethod yX6_agree, .selects RX6 yX6_agree yX6_agree, .initialized RX6, .code yX6_agree cX6_agree 5 (some .boolean), .methodLink RX6 89 yX6_findGlass, .instanceMethod yX6_findGlass, .selects RX6 yX6_findGlass yX6_findGlass, .code yX6_findGlass cX6_findGlass 3 (some (.object "Gatherhouse$Glass")), .fieldLink RX6 11 "Gatherhouse" "glasses" "[LGatherhouse$Glass;", .code yX0_agreesWith cX0_agreesWith 4 (some .boolean), .fieldLink RX0 15 "Gatherhouse$Glass" "high" "I", .methodLink RX0 24 Lib.Math.min.name, .static Lib.Math.min.name, .initialized "java/lang/Math", .code Lib.Math.min.name Lib.Math.min.code 2 (some .int), .fieldLink RX0 9 "Gatherhouse$Glass" "low" "I", .methodLink RX0 30 Lib.Math.max.name, .static Lib.Math.max.name, .code Lib.Math.max.name Lib.Math.max.code 2 (some .int), .fieldLink RX0 18 "Gatherhouse$Glass" "expansion" "I", .methodLink RX0 33 Lib.Math.abs.name, .static Lib.Math.abs.name, .code Lib.Math.abs.name Lib.Math.abs.code 1 (some .int), .initialized RX0, .instanceMethod yX0_agreesWith, .selects RX0 yX0_agreesWith yX0_agreesWith]
def wzL_ask_agree_2 : List Cond := wzEL_ask_agree_2 ++ (u_ws RX6 TX6 16 ++ (u_ws RX0 TX0 4))
theorem zgEL_ask_agree_2 : wzEL_ask_agree_2.all goodWord = true := by decide +kernel
theorem zuL_ask_agree_2_X6 : ∀ w ∈ u_ws RX6 TX6 16, w ∈ wzL_ask_agree_2 := (fun _ h => (List.mem_append_right _ (List.mem_append_left _ h)))
theorem zuL_ask_agree_2_X0 : ∀ w ∈ u_ws RX0 TX0 4, w ∈ wzL_ask_agree_2 := (fun _ h => (List.mem_append_right _ (List.mem_append_right _ h)))
theorem gzL_ask_agree_2_X6_agree_2_13 : GoodIn wzL_ask_agree_2 (wsV RL 13 RX6 yX6_agree wzX6_agree_2) := (goodIn_app (z_lift (goodIn_r _ [1, 2, 3, 4] rfl (by decide +kernel))) (goodIn_app (z_lift (goodIn_r wzEX6_agree_2 [5, 6, 7, 8, 4, 9, 10, 11, 12, 13, 14, 15, 16, 17, 18, 19, 20, 21, 22, 23, 24, 25, 26, 27] rfl zgEX6_agree_2)) (goodIn_app (goodIn_sub (fun _ h => (List.mem_append_right _ (List.mem_append_left _ h))) zgU_X6) (goodIn_sub (fun _ h => (List.mem_append_right _ (List.mem_append_right _ h))) zgU_X0))))
set_option maxHeartbeats 4000000 in
set_option maxRecDepth 100000 in
theorem zc_L_ask_agree_2 (l : Launch) (hnt : l.stackTraces = false) (D : va_G) (G : Nat × Nat × (Nat → Int32)) (xo : Nat) (va : Nat) (xg : Nat) (gc : Int32) (xp : Nat) (pc : Int32) (xq : Nat) (qc : Int32) (r1 : Nat) (r2 : Nat) (r3 : Nat) (r4 : Nat) (se : Nat) (ts : Int32) (hou : Int32) (dr : Int32) (su : Int32) (br : Int32) (cg : ClassId) (f : Nat → Option Nat) (ga : Nat) (l1 : Nat) (h1 : Nat) (e1 : Nat) (co1 : Int32) (gb : Nat) (l2 : Nat) (h2 : Nat) (e2 : Nat) (co2 : Int32) (ci : ClassId) (k : Nat) (kj : Nat) (sz : Nat) (h9f : f k = some ga) (h9g : f kj = some gb) (hh_l1 : l1 ≤ 2000) (hh_h1 : h1 ≤ 2000) (hh_e1 : e1 ≤ 2000) (hh_l2 : l2 ≤ 2000) (hh_h2 : h2 ≤ 2000) (hh_e2 : e2 ≤ 2000) (hh_k : k ≤ 5) (hh_kj : kj ≤ 5) : vx_Met l yL_ask wzL_ask_agree_2 ({ frames := 3, cells := 0, slots := 0, locals := 69 }) (va_Pc [.ref xo, .int 65, .ref va] (p_RW D G [(cg, .object "Gatherhouse$Glass"), (ci, .int)] [(xo, .inr (6, [.ref xg, .int gc, .ref xp, .int pc, .ref xq, .int qc, .ref r1, .ref r2, .ref r3, .ref r4, .ref se, .int ts, .int hou, .int dr, .int su, .int br])), (xg, .inl (cg, 6, .inr (.inr (.inr (.inr f))))), (ga, .inr (0, [.int (nI l1), .int (nI h1), .int (nI e1), .int co1])), (gb, .inr (0, [.int (nI l2), .int (nI h2), .int (nI e2), .int co2])), (va, .inl (ci, 2, .inl (zi [nI k, nI kj])))] sz)) (va_Qi (fun (r : Int32) (u : Unit) => (gAg l1 h1 e1 l2 h2 e2 ∧ r = 1) ∨ (¬ gAg l1 h1 e1 l2 h2 e2 ∧ r = 0)) (fun (u : Unit) (t : State) => q_RW D [(cg, .object "Gatherhouse$Glass")] [(xo, .inr (6, [.ref xg, .int gc, .ref xp, .int pc, .ref xq, .int qc, .ref r1, .ref r2, .ref r3, .ref r4, .ref se, .int ts, .int hou, .int dr, .int su, .int br])), (xg, .inl (cg, 6, .inr (.inr (.inr (.inr f))))), (ga, .inr (0, [.int (nI l1), .int (nI h1), .int (nI e1), .int co1])), (gb, .inr (0, [.int (nI l2), .int (nI h2), .int (nI e2), .int co2]))] (va_A [(xo, .inr (6, [.ref xg, .int gc, .ref xp, .int pc, .ref xq, .int qc, .ref r1, .ref r2, .ref r3, .ref r4, .ref se, .int ts, .int hou, .int dr, .int su, .int br])), (xg, .inl (cg, 6, .inr (.inr (.inr (.inr f))))), (ga, .inr (0, [.int (nI l1), .int (nI h1), .int (nI e1), .int co1])), (gb, .inr (0, [.int (nI l2), .int (nI h2), .int (nI e2), .int co2])), (va, .inl (ci, 2, .inl (zi [nI k, nI kj])))] sz) t) (va_A [(xo, .inr (6, [.ref xg, .int gc, .ref xp, .int pc, .ref xq, .int qc, .ref r1, .ref r2, .ref r3, .ref r4, .ref se, .int ts, .int hou, .int dr, .int su, .int br])), (xg, .inl (cg, 6, .inr (.inr (.inr (.inr f))))), (ga, .inr (0, [.int (nI l1), .int (nI h1), .int (nI e1), .int co1])), (gb, .inr (0, [.int (nI l2), .int (nI h2), .int (nI e2), .int co2])), (va, .inl (ci, 2, .inl (zi [nI k, nI kj])))] sz)) (vx_X (fun (_ : Unit) => True) (fun E (_ : Unit) (_ : State) => False) (va_A [(xo, .inr (6, [.ref xg, .int gc, .ref xp, .int pc, .ref xq, .int qc, .ref r1, .ref r2, .ref r3, .ref r4, .ref se, .int ts, .int hou, .int dr, .int su, .int br])), (xg, .inl (cg, 6, .inr (.inr (.inr (.inr f))))), (ga, .inr (0, [.int (nI l1), .int (nI h1), .int (nI e1), .int co1])), (gb, .inr (0, [.int (nI l2), .int (nI h2), .int (nI e2), .int co2])), (va, .inl (ci, 2, .inl (zi [nI k, nI kj])))] sz)) 0 0 (va_A [(xo, .inr (6, [.ref xg, .int gc, .ref xp, .int pc, .ref xq, .int qc, .ref r1, .ref r2, .ref r3, .ref r4, .ref se, .int ts, .int hou, .int dr, .int su, .int br])), (xg, .inl (cg, 6, .inr (.inr (.inr (.inr f))))), (ga, .inr (0, [.int (nI l1), .int (nI h1), .int (nI e1), .int co1])), (gb, .inr (0, [.int (nI l2), .int (nI h2), .int (nI e2), .int co2])), (va, .inl (ci, 2, .inl (zi [nI k, nI kj])))] sz) := by
  refine vx_ofWH (cc := cL_ask) (maxL := 4) (ret := (some .int)) (by decide) rfl ?_
  intro p e s m args below meth c s₁ B hml hv
  obtain ⟨rfl, hsz, hP, hK, hD0, hT, hZ⟩ := hv
  have hx := B.exec
  have hb := B.bytes
  have hr := B.returns
  have hts := atoms_spec (ws := wzL_ask_agree_2) B.pre
  have hown : s.vm.findClass RL = some m.cls := findClass_of_methodNamed B.named
  have hlocks := B.notSynchronized
  have hxe := vx_table (x := yL_ask) B (hts _ List.mem_cons_self)
  subst hsz
  have hD := hD0.self (sz := s.heap.size)
  generalize hAe : va_A [(xo, .inr (6, [.ref xg, .int gc, .ref xp, .int pc, .ref xq, .int qc, .ref r1, .ref r2, .ref r3, .ref r4, .ref se, .int ts, .int hou, .int dr, .int su, .int br])), (xg, .inl (cg, 6, .inr (.inr (.inr (.inr f))))), (ga, .inr (0, [.int (nI l1), .int (nI h1), .int (nI e1), .int co1])), (gb, .inr (0, [.int (nI l2), .int (nI h2), .int (nI e2), .int co2])), (va, .inl (ci, 2, .inl (zi [nI k, nI kj])))] s.heap.size = A at hD hZ ⊢
  have hA : ∀ q : Nat, s.heap.size ≤ q → A q := fun q h => by rw [← hAe]; exact Or.inr h
  have hS : va_S A s.heap s.heap [] := va_S.rf
  have hl := lv_entry ([.ref xo, .int 65, .ref va]) (n := 4) (Nat.le_of_ble_eq_true rfl)
  rw [lg_entry_eq]
  generalize (lg_sl ([.ref xo, .int 65, .ref va]) ++ List.replicate (4 - (lg_sl ([.ref xo, .int 65, .ref va])).length) Slot.unset).toArray = ls at hl ⊢
  have hl : lv_has ls 4 [(0, .ref xo), (1, .int 65), (2, .ref va)] := hl
  refine lv_iload_n hx hb dL_ask_0 rfl (lv_at hl 1 rfl) ?_
  refine lv_tableIn (off := 260) (tgt := 261) hx hb dL_ask_1 (by decide +kernel) (by decide +kernel) (by decide +kernel) (by decide) ?_
  refine lv_aload_n hx hb dL_ask_261 rfl (lv_at hl 0 rfl) ?_
  refine lv_aload_n hx hb dL_ask_262 rfl (lv_at hl 2 rfl) ?_
  refine lv_iconst (v := 0) hx hb dL_ask_263 (by decide) ?_
  refine va_iald (D := D) (cl := vwCl) hx hb hK hP 4 1 rfl rfl (vp_in_nI (n := 0) (N := 2) (by decide) (by decide)) dL_ask_264 ?_
  refine W.eq (g2 := F0 m 265 ls [.int (nI k), .ref xo]) rfl ?_
  refine lv_aload_n hx hb dL_ask_265 rfl (lv_at hl 2 rfl) ?_
  refine lv_iconst (v := 1) hx hb dL_ask_266 (by decide) ?_
  refine va_iald (D := D) (cl := vwCl) hx hb hK hP 4 1 rfl rfl (vp_in_nI (n := 1) (N := 2) (by decide) (by decide)) dL_ask_267 ?_
  refine W.eq (g2 := F0 m 268 ls [.int (nI kj), .int (nI k), .ref xo]) rfl ?_
  have hFc := va_free (wc := [(xo, .inr (6, [.ref xg, .int gc, .ref xp, .int pc, .ref xq, .int qc, .ref r1, .ref r2, .ref r3, .ref r4, .ref se, .int ts, .int hou, .int dr, .int su, .int br])), (xg, .inl (cg, 6, .inr (.inr (.inr (.inr f))))), (ga, .inr (0, [.int (nI l1), .int (nI h1), .int (nI e1), .int co1])), (gb, .inr (0, [.int (nI l2), .int (nI h2), .int (nI e2), .int co2]))]) hD hS hA [0, 1, 2, 3] rfl
  refine vx_calli (vx_runV (As := [.int (nI k), .int (nI kj)]) (rest := []) ⟨hx, hb, hml, hown, hts⟩ (zc_X6_agree_2 l hnt D G xo k kj xg gc xp pc xq qc r1 r2 r3 r4 se ts hou dr su br cg f ga l1 h1 e1 co1 gb l2 h2 e2 co2 s.heap.size (by first | assumption | rfl | omega | exact Nat.le_trans (zS_le _ _ _) (by omega) | decide) (by first | assumption | rfl | omega | exact Nat.le_trans (zS_le _ _ _) (by omega) | decide) (by first | assumption | rfl | omega | exact Nat.le_trans (zS_le _ _ _) (by omega) | decide) (by first | assumption | rfl | omega | exact Nat.le_trans (zS_le _ _ _) (by omega) | decide) (by first | assumption | rfl | omega | exact Nat.le_trans (zS_le _ _ _) (by omega) | decide) (by first | assumption | rfl | omega | exact Nat.le_trans (zS_le _ _ _) (by omega) | decide) (by first | assumption | rfl | omega | exact Nat.le_trans (zS_le _ _ _) (by omega) | decide) (by first | assumption | rfl | omega | exact Nat.le_trans (zS_le _ _ _) (by omega) | decide) (by first | assumption | rfl | omega | exact Nat.le_trans (zS_le _ _ _) (by omega) | decide) (by first | assumption | rfl | omega | exact Nat.le_trans (zS_le _ _ _) (by omega) | decide)) (cwV 2 hts gzL_ask_agree_2_X6_agree_2_13 rfl rfl rfl (by decide +kernel) ⟨(Nat.le_of_ble_eq_true rfl), (Nat.le_of_ble_eq_true rfl)⟩) ⟨p_RW_blind, va_recv hK hP (ci := 6) (q0 := 0) rfl rfl, (p_RW_at (tc := [(cg, .object "Gatherhouse$Glass")]) (wc := [(xo, .inr (6, [.ref xg, .int gc, .ref xp, .int pc, .ref xq, .int qc, .ref r1, .ref r2, .ref r3, .ref r4, .ref se, .int ts, .int hou, .int dr, .int su, .int br])), (xg, .inl (cg, 6, .inr (.inr (.inr (.inr f))))), (ga, .inr (0, [.int (nI l1), .int (nI h1), .int (nI e1), .int co1])), (gb, .inr (0, [.int (nI l2), .int (nI h2), .int (nI e2), .int co2]))]) hP hK hD hS hA hT hZ [0, 1, 2, 3] [0] rfl rfl (by decide) rfl [.ref xo, .int (nI k), .int (nI kj)])⟩ rfl rfl hl.1 rfl (lv_room (Nat.le_of_ble_eq_true rfl)) dL_ask_268 ⟨(Nat.le_of_ble_eq_true rfl), (Nat.le_of_ble_eq_true rfl)⟩) hS (fun q _ h => hFc q h) hFc (fun q _ h => hFc q h) (fun E ce q9 u t H locs ht hvm hpx hBX hz1 hk1 hS hce hcv hcl => ?_) (fun r_1341 u t H locs ht hvm w_1342 hB hz1 hk1 hS => ?_)
  · exact (show False from hBX).elim
  · obtain ⟨hP, hD, hK⟩ := q_join (D := D) (wc := [(xo, .inr (6, [.ref xg, .int gc, .ref xp, .int pc, .ref xq, .int qc, .ref r1, .ref r2, .ref r3, .ref r4, .ref se, .int ts, .int hou, .int dr, .int su, .int br])), (xg, .inl (cg, 6, .inr (.inr (.inr (.inr f))))), (ga, .inr (0, [.int (nI l1), .int (nI h1), .int (nI e1), .int co1])), (gb, .inr (0, [.int (nI l2), .int (nI h2), .int (nI e2), .int co2]))]) (wr := [(va, .inl (ci, 2, .inl (zi [nI k, nI kj])))]) (w1 := [(xo, .inr (6, [.ref xg, .int gc, .ref xp, .int pc, .ref xq, .int qc, .ref r1, .ref r2, .ref r3, .ref r4, .ref se, .int ts, .int hou, .int dr, .int su, .int br])), (xg, .inl (cg, 6, .inr (.inr (.inr (.inr f))))), (ga, .inr (0, [.int (nI l1), .int (nI h1), .int (nI e1), .int co1])), (gb, .inr (0, [.int (nI l2), .int (nI h2), .int (nI e2), .int co2]))]) (tyr := [(ci, .int)]) (ty1 := [(cg, .object "Gatherhouse$Glass")]) hP hD hK [0, 1, 2, 3] [4] [1] rfl rfl (by decide) (by decide) rfl hFc hk1 ht hvm hB
    have hP : va_P D vwCl [(va, .inl (ci, 2, .inl (zi [nI k, nI kj]))), (xo, .inr (6, [.ref xg, .int gc, .ref xp, .int pc, .ref xq, .int qc, .ref r1, .ref r2, .ref r3, .ref r4, .ref se, .int ts, .int hou, .int dr, .int su, .int br])), (xg, .inl (cg, 6, .inr (.inr (.inr (.inr f))))), (ga, .inr (0, [.int (nI l1), .int (nI h1), .int (nI e1), .int co1])), (gb, .inr (0, [.int (nI l2), .int (nI h2), .int (nI e2), .int co2]))] H := hP
    have hD : va_D A [(va, .inl (ci, 2, .inl (zi [nI k, nI kj]))), (xo, .inr (6, [.ref xg, .int gc, .ref xp, .int pc, .ref xq, .int qc, .ref r1, .ref r2, .ref r3, .ref r4, .ref se, .int ts, .int hou, .int dr, .int su, .int br])), (xg, .inl (cg, 6, .inr (.inr (.inr (.inr f))))), (ga, .inr (0, [.int (nI l1), .int (nI h1), .int (nI e1), .int co1])), (gb, .inr (0, [.int (nI l2), .int (nI h2), .int (nI e2), .int co2]))] := hD
    have hK : va_K D vwCl [(ci, .int), (cg, .object "Gatherhouse$Glass")] s := hK
    rcases w_1342 with ⟨c_1343, rfl⟩ | ⟨c_1344, rfl⟩
    · refine lv_if_eq (tgt := 278) hx hb dL_ask_271 (by decide) (fun cc => absurd cc (by decide)) (fun _ => ?_)
      refine lv_iconst (v := 1) hx hb dL_ask_274 (by decide) ?_
      refine lv_goto (tgt := 279) hx hb dL_ask_275 (by decide) ?_
      refine vx_ret ?_
      exact W.iret (v := 1) hx hb hr (fun t ht hW => ⟨⟨1, (), rfl, (Or.inl (⟨(by first | assumption | exact inR_1 (by assumption) (by assumption) | exact inR_2 (by assumption) (by assumption) | exact inR_3 (by assumption) | exact inR_4 (by assumption) | exact inR_5 (by assumption) | exact ⟨by assumption, by assumption, by assumption, by assumption⟩ | exact ⟨by assumption, by assumption, by assumption⟩ | exact (fun q => absurd q.1 (by assumption)) | exact (fun q => absurd q.2.1 (by assumption)) | exact (fun q => absurd q.2.2 (by assumption)) | exact (fun q => absurd q.2.2.1 (by assumption)) | exact (fun q => absurd q.2.2.2 (by assumption)) | exact isRole_no (by assumption) (by assumption) (by assumption) (by assumption) | exact isRole_nb (by assumption) (by assumption) (by assumption) (by assumption) | exact isRole_out (by assumption) | exact enc_use (by assumption) (by assumption) (by assumption) | exact enc_103 (by assumption) | exact enc_103 (Eq.symm (by assumption)) | exact enc_115 (Eq.symm (by assumption)) | exact enc_102 (Eq.symm (by assumption)) | exact enc_98 (Eq.symm (by assumption)) | exact isRole_nc (by assumption) (by assumption) (by assumption) (by assumption) | exact enc_115 (by assumption) | exact enc_102 (by assumption) | exact enc_98 (by assumption) | exact Or.inr (by assumption) | rfl | exact Or.inl (by assumption) | exact Or.inr (Or.inl (by assumption)) | exact Or.inr (Or.inr (Or.inl (by assumption))) | exact Or.inr (Or.inr (Or.inr (by assumption))) | decide), rfl⟩)), q_RW_mk hP hK hD [1, 2, 3, 4] [1] rfl rfl (by decide) rfl ht hW.alike⟩, hS.F ht⟩) hS.2.2 dL_ask_279
    · refine lv_if_eq (tgt := 278) hx hb dL_ask_271 (by decide) (fun _ => ?_) (fun cc => absurd (by decide) cc)
      refine lv_iconst (v := 0) hx hb dL_ask_278 (by decide) ?_
      refine vx_ret ?_
      exact W.iret (v := 0) hx hb hr (fun t ht hW => ⟨⟨0, (), rfl, (Or.inr (⟨(by first | assumption | exact inR_1 (by assumption) (by assumption) | exact inR_2 (by assumption) (by assumption) | exact inR_3 (by assumption) | exact inR_4 (by assumption) | exact inR_5 (by assumption) | exact ⟨by assumption, by assumption, by assumption, by assumption⟩ | exact ⟨by assumption, by assumption, by assumption⟩ | exact (fun q => absurd q.1 (by assumption)) | exact (fun q => absurd q.2.1 (by assumption)) | exact (fun q => absurd q.2.2 (by assumption)) | exact (fun q => absurd q.2.2.1 (by assumption)) | exact (fun q => absurd q.2.2.2 (by assumption)) | exact isRole_no (by assumption) (by assumption) (by assumption) (by assumption) | exact isRole_nb (by assumption) (by assumption) (by assumption) (by assumption) | exact isRole_out (by assumption) | exact enc_use (by assumption) (by assumption) (by assumption) | exact enc_103 (by assumption) | exact enc_103 (Eq.symm (by assumption)) | exact enc_115 (Eq.symm (by assumption)) | exact enc_102 (Eq.symm (by assumption)) | exact enc_98 (Eq.symm (by assumption)) | exact isRole_nc (by assumption) (by assumption) (by assumption) (by assumption) | exact enc_115 (by assumption) | exact enc_102 (by assumption) | exact enc_98 (by assumption) | exact Or.inr (by assumption) | rfl | exact Or.inl (by assumption) | exact Or.inr (Or.inl (by assumption)) | exact Or.inr (Or.inr (Or.inl (by assumption))) | exact Or.inr (Or.inr (Or.inr (by assumption))) | decide), rfl⟩)), q_RW_mk hP hK hD [1, 2, 3, 4] [1] rfl rfl (by decide) rfl ht hW.alike⟩, hS.F ht⟩) hS.2.2 dL_ask_279
def wzEL_ask_agree_1 : List Cond := [.codeWith yL_ask cL_ask 4 (some .int) ttL_ask, .methodLink RL 13 yX6_agree, .instanceMethod yX6_agree, .selects RX6 yX6_agree yX6_agree, .initialized RX6, .code yX6_agree cX6_agree 5 (some .boolean), .methodLink RX6 89 yX6_findGlass, .instanceMethod yX6_findGlass, .selects RX6 yX6_findGlass yX6_findGlass, .code yX6_findGlass cX6_findGlass 3 (some (.object "Gatherhouse$Glass")), .fieldLink RX6 11 "Gatherhouse" "glasses" "[LGatherhouse$Glass;", .code yX0_agreesWith cX0_agreesWith 4 (some .boolean), .fieldLink RX0 15 "Gatherhouse$Glass" "high" "I", .methodLink RX0 24 Lib.Math.min.name, .static Lib.Math.min.name, .initialized "java/lang/Math", .code Lib.Math.min.name Lib.Math.min.code 2 (some .int), .fieldLink RX0 9 "Gatherhouse$Glass" "low" "I", .methodLink RX0 30 Lib.Math.max.name, .static Lib.Math.max.name, .code Lib.Math.max.name Lib.Math.max.code 2 (some .int), .fieldLink RX0 18 "Gatherhouse$Glass" "expansion" "I", .methodLink RX0 33 Lib.Math.abs.name, .static Lib.Math.abs.name, .code Lib.Math.abs.name Lib.Math.abs.code 1 (some .int), .initialized RX0, .instanceMethod yX0_agreesWith, .selects RX0 yX0_agreesWith yX0_agreesWith]
def wzL_ask_agree_1 : List Cond := wzEL_ask_agree_1 ++ (u_ws RX6 TX6 16 ++ (u_ws RX0 TX0 4))
theorem zgEL_ask_agree_1 : wzEL_ask_agree_1.all goodWord = true := by decide +kernel
theorem zuL_ask_agree_1_X6 : ∀ w ∈ u_ws RX6 TX6 16, w ∈ wzL_ask_agree_1 := (fun _ h => (List.mem_append_right _ (List.mem_append_left _ h)))
theorem zuL_ask_agree_1_X0 : ∀ w ∈ u_ws RX0 TX0 4, w ∈ wzL_ask_agree_1 := (fun _ h => (List.mem_append_right _ (List.mem_append_right _ h)))
theorem gzL_ask_agree_1_X6_agree_1_13 : GoodIn wzL_ask_agree_1 (wsV RL 13 RX6 yX6_agree wzX6_agree_1) := (goodIn_app (z_lift (goodIn_r _ [1, 2, 3, 4] rfl (by decide +kernel))) (goodIn_app (z_lift (goodIn_r wzEX6_agree_1 [5, 6, 7, 8, 4, 9, 10, 11, 12, 13, 14, 15, 16, 17, 18, 19, 20, 21, 22, 23, 24, 25, 26, 27] rfl zgEX6_agree_1)) (goodIn_app (goodIn_sub (fun _ h => (List.mem_append_right _ (List.mem_append_left _ h))) zgU_X6) (goodIn_sub (fun _ h => (List.mem_append_right _ (List.mem_append_right _ h))) zgU_X0))))
set_option maxHeartbeats 4000000 in
set_option maxRecDepth 100000 in
theorem zc_L_ask_agree_1 (l : Launch) (hnt : l.stackTraces = false) (D : va_G) (G : Nat × Nat × (Nat → Int32)) (xo : Nat) (va : Nat) (xg : Nat) (gc : Int32) (xp : Nat) (pc : Int32) (xq : Nat) (qc : Int32) (r1 : Nat) (r2 : Nat) (r3 : Nat) (r4 : Nat) (se : Nat) (ts : Int32) (hou : Int32) (dr : Int32) (su : Int32) (br : Int32) (cg : ClassId) (f : Nat → Option Nat) (ga : Nat) (l1 : Nat) (h1 : Nat) (e1 : Nat) (co1 : Int32) (ci : ClassId) (k : Nat) (sz : Nat) (h9f : f k = some ga) (hh_l1 : l1 ≤ 2000) (hh_h1 : h1 ≤ 2000) (hh_e1 : e1 ≤ 2000) (hh_k : k ≤ 5) : vx_Met l yL_ask wzL_ask_agree_1 ({ frames := 3, cells := 0, slots := 0, locals := 69 }) (va_Pc [.ref xo, .int 65, .ref va] (p_RW D G [(cg, .object "Gatherhouse$Glass"), (ci, .int)] [(xo, .inr (6, [.ref xg, .int gc, .ref xp, .int pc, .ref xq, .int qc, .ref r1, .ref r2, .ref r3, .ref r4, .ref se, .int ts, .int hou, .int dr, .int su, .int br])), (xg, .inl (cg, 6, .inr (.inr (.inr (.inr f))))), (ga, .inr (0, [.int (nI l1), .int (nI h1), .int (nI e1), .int co1])), (va, .inl (ci, 2, .inl (zi [nI k, nI k])))] sz)) (va_Qi (fun (r : Int32) (u : Unit) => (gAg l1 h1 e1 l1 h1 e1 ∧ r = 1) ∨ (¬ gAg l1 h1 e1 l1 h1 e1 ∧ r = 0)) (fun (u : Unit) (t : State) => q_RW D [(cg, .object "Gatherhouse$Glass")] [(xo, .inr (6, [.ref xg, .int gc, .ref xp, .int pc, .ref xq, .int qc, .ref r1, .ref r2, .ref r3, .ref r4, .ref se, .int ts, .int hou, .int dr, .int su, .int br])), (xg, .inl (cg, 6, .inr (.inr (.inr (.inr f))))), (ga, .inr (0, [.int (nI l1), .int (nI h1), .int (nI e1), .int co1]))] (va_A [(xo, .inr (6, [.ref xg, .int gc, .ref xp, .int pc, .ref xq, .int qc, .ref r1, .ref r2, .ref r3, .ref r4, .ref se, .int ts, .int hou, .int dr, .int su, .int br])), (xg, .inl (cg, 6, .inr (.inr (.inr (.inr f))))), (ga, .inr (0, [.int (nI l1), .int (nI h1), .int (nI e1), .int co1])), (va, .inl (ci, 2, .inl (zi [nI k, nI k])))] sz) t) (va_A [(xo, .inr (6, [.ref xg, .int gc, .ref xp, .int pc, .ref xq, .int qc, .ref r1, .ref r2, .ref r3, .ref r4, .ref se, .int ts, .int hou, .int dr, .int su, .int br])), (xg, .inl (cg, 6, .inr (.inr (.inr (.inr f))))), (ga, .inr (0, [.int (nI l1), .int (nI h1), .int (nI e1), .int co1])), (va, .inl (ci, 2, .inl (zi [nI k, nI k])))] sz)) (vx_X (fun (_ : Unit) => True) (fun E (_ : Unit) (_ : State) => False) (va_A [(xo, .inr (6, [.ref xg, .int gc, .ref xp, .int pc, .ref xq, .int qc, .ref r1, .ref r2, .ref r3, .ref r4, .ref se, .int ts, .int hou, .int dr, .int su, .int br])), (xg, .inl (cg, 6, .inr (.inr (.inr (.inr f))))), (ga, .inr (0, [.int (nI l1), .int (nI h1), .int (nI e1), .int co1])), (va, .inl (ci, 2, .inl (zi [nI k, nI k])))] sz)) 0 0 (va_A [(xo, .inr (6, [.ref xg, .int gc, .ref xp, .int pc, .ref xq, .int qc, .ref r1, .ref r2, .ref r3, .ref r4, .ref se, .int ts, .int hou, .int dr, .int su, .int br])), (xg, .inl (cg, 6, .inr (.inr (.inr (.inr f))))), (ga, .inr (0, [.int (nI l1), .int (nI h1), .int (nI e1), .int co1])), (va, .inl (ci, 2, .inl (zi [nI k, nI k])))] sz) := by
  refine vx_ofWH (cc := cL_ask) (maxL := 4) (ret := (some .int)) (by decide) rfl ?_
  intro p e s m args below meth c s₁ B hml hv
  obtain ⟨rfl, hsz, hP, hK, hD0, hT, hZ⟩ := hv
  have hx := B.exec
  have hb := B.bytes
  have hr := B.returns
  have hts := atoms_spec (ws := wzL_ask_agree_1) B.pre
  have hown : s.vm.findClass RL = some m.cls := findClass_of_methodNamed B.named
  have hlocks := B.notSynchronized
  have hxe := vx_table (x := yL_ask) B (hts _ List.mem_cons_self)
  subst hsz
  have hD := hD0.self (sz := s.heap.size)
  generalize hAe : va_A [(xo, .inr (6, [.ref xg, .int gc, .ref xp, .int pc, .ref xq, .int qc, .ref r1, .ref r2, .ref r3, .ref r4, .ref se, .int ts, .int hou, .int dr, .int su, .int br])), (xg, .inl (cg, 6, .inr (.inr (.inr (.inr f))))), (ga, .inr (0, [.int (nI l1), .int (nI h1), .int (nI e1), .int co1])), (va, .inl (ci, 2, .inl (zi [nI k, nI k])))] s.heap.size = A at hD hZ ⊢
  have hA : ∀ q : Nat, s.heap.size ≤ q → A q := fun q h => by rw [← hAe]; exact Or.inr h
  have hS : va_S A s.heap s.heap [] := va_S.rf
  have hl := lv_entry ([.ref xo, .int 65, .ref va]) (n := 4) (Nat.le_of_ble_eq_true rfl)
  rw [lg_entry_eq]
  generalize (lg_sl ([.ref xo, .int 65, .ref va]) ++ List.replicate (4 - (lg_sl ([.ref xo, .int 65, .ref va])).length) Slot.unset).toArray = ls at hl ⊢
  have hl : lv_has ls 4 [(0, .ref xo), (1, .int 65), (2, .ref va)] := hl
  refine lv_iload_n hx hb dL_ask_0 rfl (lv_at hl 1 rfl) ?_
  refine lv_tableIn (off := 260) (tgt := 261) hx hb dL_ask_1 (by decide +kernel) (by decide +kernel) (by decide +kernel) (by decide) ?_
  refine lv_aload_n hx hb dL_ask_261 rfl (lv_at hl 0 rfl) ?_
  refine lv_aload_n hx hb dL_ask_262 rfl (lv_at hl 2 rfl) ?_
  refine lv_iconst (v := 0) hx hb dL_ask_263 (by decide) ?_
  refine va_iald (D := D) (cl := vwCl) hx hb hK hP 3 1 rfl rfl (vp_in_nI (n := 0) (N := 2) (by decide) (by decide)) dL_ask_264 ?_
  refine W.eq (g2 := F0 m 265 ls [.int (nI k), .ref xo]) rfl ?_
  refine lv_aload_n hx hb dL_ask_265 rfl (lv_at hl 2 rfl) ?_
  refine lv_iconst (v := 1) hx hb dL_ask_266 (by decide) ?_
  refine va_iald (D := D) (cl := vwCl) hx hb hK hP 3 1 rfl rfl (vp_in_nI (n := 1) (N := 2) (by decide) (by decide)) dL_ask_267 ?_
  refine W.eq (g2 := F0 m 268 ls [.int (nI k), .int (nI k), .ref xo]) rfl ?_
  have hFc := va_free (wc := [(xo, .inr (6, [.ref xg, .int gc, .ref xp, .int pc, .ref xq, .int qc, .ref r1, .ref r2, .ref r3, .ref r4, .ref se, .int ts, .int hou, .int dr, .int su, .int br])), (xg, .inl (cg, 6, .inr (.inr (.inr (.inr f))))), (ga, .inr (0, [.int (nI l1), .int (nI h1), .int (nI e1), .int co1]))]) hD hS hA [0, 1, 2] rfl
  refine vx_calli (vx_runV (As := [.int (nI k), .int (nI k)]) (rest := []) ⟨hx, hb, hml, hown, hts⟩ (zc_X6_agree_1 l hnt D G xo k xg gc xp pc xq qc r1 r2 r3 r4 se ts hou dr su br cg f ga l1 h1 e1 co1 s.heap.size (by first | assumption | rfl | omega | exact Nat.le_trans (zS_le _ _ _) (by omega) | decide) (by first | assumption | rfl | omega | exact Nat.le_trans (zS_le _ _ _) (by omega) | decide) (by first | assumption | rfl | omega | exact Nat.le_trans (zS_le _ _ _) (by omega) | decide) (by first | assumption | rfl | omega | exact Nat.le_trans (zS_le _ _ _) (by omega) | decide) (by first | assumption | rfl | omega | exact Nat.le_trans (zS_le _ _ _) (by omega) | decide)) (cwV 2 hts gzL_ask_agree_1_X6_agree_1_13 rfl rfl rfl (by decide +kernel) ⟨(Nat.le_of_ble_eq_true rfl), (Nat.le_of_ble_eq_true rfl)⟩) ⟨p_RW_blind, va_recv hK hP (ci := 6) (q0 := 0) rfl rfl, (p_RW_at (tc := [(cg, .object "Gatherhouse$Glass")]) (wc := [(xo, .inr (6, [.ref xg, .int gc, .ref xp, .int pc, .ref xq, .int qc, .ref r1, .ref r2, .ref r3, .ref r4, .ref se, .int ts, .int hou, .int dr, .int su, .int br])), (xg, .inl (cg, 6, .inr (.inr (.inr (.inr f))))), (ga, .inr (0, [.int (nI l1), .int (nI h1), .int (nI e1), .int co1]))]) hP hK hD hS hA hT hZ [0, 1, 2] [0] rfl rfl (by decide) rfl [.ref xo, .int (nI k), .int (nI k)])⟩ rfl rfl hl.1 rfl (lv_room (Nat.le_of_ble_eq_true rfl)) dL_ask_268 ⟨(Nat.le_of_ble_eq_true rfl), (Nat.le_of_ble_eq_true rfl)⟩) hS (fun q _ h => hFc q h) hFc (fun q _ h => hFc q h) (fun E ce q9 u t H locs ht hvm hpx hBX hz1 hk1 hS hce hcv hcl => ?_) (fun r_1345 u t H locs ht hvm w_1346 hB hz1 hk1 hS => ?_)
  · exact (show False from hBX).elim
  · obtain ⟨hP, hD, hK⟩ := q_join (D := D) (wc := [(xo, .inr (6, [.ref xg, .int gc, .ref xp, .int pc, .ref xq, .int qc, .ref r1, .ref r2, .ref r3, .ref r4, .ref se, .int ts, .int hou, .int dr, .int su, .int br])), (xg, .inl (cg, 6, .inr (.inr (.inr (.inr f))))), (ga, .inr (0, [.int (nI l1), .int (nI h1), .int (nI e1), .int co1]))]) (wr := [(va, .inl (ci, 2, .inl (zi [nI k, nI k])))]) (w1 := [(xo, .inr (6, [.ref xg, .int gc, .ref xp, .int pc, .ref xq, .int qc, .ref r1, .ref r2, .ref r3, .ref r4, .ref se, .int ts, .int hou, .int dr, .int su, .int br])), (xg, .inl (cg, 6, .inr (.inr (.inr (.inr f))))), (ga, .inr (0, [.int (nI l1), .int (nI h1), .int (nI e1), .int co1]))]) (tyr := [(ci, .int)]) (ty1 := [(cg, .object "Gatherhouse$Glass")]) hP hD hK [0, 1, 2] [3] [1] rfl rfl (by decide) (by decide) rfl hFc hk1 ht hvm hB
    have hP : va_P D vwCl [(va, .inl (ci, 2, .inl (zi [nI k, nI k]))), (xo, .inr (6, [.ref xg, .int gc, .ref xp, .int pc, .ref xq, .int qc, .ref r1, .ref r2, .ref r3, .ref r4, .ref se, .int ts, .int hou, .int dr, .int su, .int br])), (xg, .inl (cg, 6, .inr (.inr (.inr (.inr f))))), (ga, .inr (0, [.int (nI l1), .int (nI h1), .int (nI e1), .int co1]))] H := hP
    have hD : va_D A [(va, .inl (ci, 2, .inl (zi [nI k, nI k]))), (xo, .inr (6, [.ref xg, .int gc, .ref xp, .int pc, .ref xq, .int qc, .ref r1, .ref r2, .ref r3, .ref r4, .ref se, .int ts, .int hou, .int dr, .int su, .int br])), (xg, .inl (cg, 6, .inr (.inr (.inr (.inr f))))), (ga, .inr (0, [.int (nI l1), .int (nI h1), .int (nI e1), .int co1]))] := hD
    have hK : va_K D vwCl [(ci, .int), (cg, .object "Gatherhouse$Glass")] s := hK
    rcases w_1346 with ⟨c_1347, rfl⟩ | ⟨c_1348, rfl⟩
    · refine lv_if_eq (tgt := 278) hx hb dL_ask_271 (by decide) (fun cc => absurd cc (by decide)) (fun _ => ?_)
      refine lv_iconst (v := 1) hx hb dL_ask_274 (by decide) ?_
      refine lv_goto (tgt := 279) hx hb dL_ask_275 (by decide) ?_
      refine vx_ret ?_
      exact W.iret (v := 1) hx hb hr (fun t ht hW => ⟨⟨1, (), rfl, (Or.inl (⟨(by first | assumption | exact inR_1 (by assumption) (by assumption) | exact inR_2 (by assumption) (by assumption) | exact inR_3 (by assumption) | exact inR_4 (by assumption) | exact inR_5 (by assumption) | exact ⟨by assumption, by assumption, by assumption, by assumption⟩ | exact ⟨by assumption, by assumption, by assumption⟩ | exact (fun q => absurd q.1 (by assumption)) | exact (fun q => absurd q.2.1 (by assumption)) | exact (fun q => absurd q.2.2 (by assumption)) | exact (fun q => absurd q.2.2.1 (by assumption)) | exact (fun q => absurd q.2.2.2 (by assumption)) | exact isRole_no (by assumption) (by assumption) (by assumption) (by assumption) | exact isRole_nb (by assumption) (by assumption) (by assumption) (by assumption) | exact isRole_out (by assumption) | exact enc_use (by assumption) (by assumption) (by assumption) | exact enc_103 (by assumption) | exact enc_103 (Eq.symm (by assumption)) | exact enc_115 (Eq.symm (by assumption)) | exact enc_102 (Eq.symm (by assumption)) | exact enc_98 (Eq.symm (by assumption)) | exact isRole_nc (by assumption) (by assumption) (by assumption) (by assumption) | exact enc_115 (by assumption) | exact enc_102 (by assumption) | exact enc_98 (by assumption) | exact Or.inr (by assumption) | rfl | exact Or.inl (by assumption) | exact Or.inr (Or.inl (by assumption)) | exact Or.inr (Or.inr (Or.inl (by assumption))) | exact Or.inr (Or.inr (Or.inr (by assumption))) | decide), rfl⟩)), q_RW_mk hP hK hD [1, 2, 3] [1] rfl rfl (by decide) rfl ht hW.alike⟩, hS.F ht⟩) hS.2.2 dL_ask_279
    · refine lv_if_eq (tgt := 278) hx hb dL_ask_271 (by decide) (fun _ => ?_) (fun cc => absurd (by decide) cc)
      refine lv_iconst (v := 0) hx hb dL_ask_278 (by decide) ?_
      refine vx_ret ?_
      exact W.iret (v := 0) hx hb hr (fun t ht hW => ⟨⟨0, (), rfl, (Or.inr (⟨(by first | assumption | exact inR_1 (by assumption) (by assumption) | exact inR_2 (by assumption) (by assumption) | exact inR_3 (by assumption) | exact inR_4 (by assumption) | exact inR_5 (by assumption) | exact ⟨by assumption, by assumption, by assumption, by assumption⟩ | exact ⟨by assumption, by assumption, by assumption⟩ | exact (fun q => absurd q.1 (by assumption)) | exact (fun q => absurd q.2.1 (by assumption)) | exact (fun q => absurd q.2.2 (by assumption)) | exact (fun q => absurd q.2.2.1 (by assumption)) | exact (fun q => absurd q.2.2.2 (by assumption)) | exact isRole_no (by assumption) (by assumption) (by assumption) (by assumption) | exact isRole_nb (by assumption) (by assumption) (by assumption) (by assumption) | exact isRole_out (by assumption) | exact enc_use (by assumption) (by assumption) (by assumption) | exact enc_103 (by assumption) | exact enc_103 (Eq.symm (by assumption)) | exact enc_115 (Eq.symm (by assumption)) | exact enc_102 (Eq.symm (by assumption)) | exact enc_98 (Eq.symm (by assumption)) | exact isRole_nc (by assumption) (by assumption) (by assumption) (by assumption) | exact enc_115 (by assumption) | exact enc_102 (by assumption) | exact enc_98 (by assumption) | exact Or.inr (by assumption) | rfl | exact Or.inl (by assumption) | exact Or.inr (Or.inl (by assumption)) | exact Or.inr (Or.inr (Or.inl (by assumption))) | exact Or.inr (Or.inr (Or.inr (by assumption))) | decide), rfl⟩)), q_RW_mk hP hK hD [1, 2, 3] [1] rfl rfl (by decide) rfl ht hW.alike⟩, hS.F ht⟩) hS.2.2 dL_ask_279
def wzEL_ask_agree_out : List Cond := [.codeWith yL_ask cL_ask 4 (some .int) ttL_ask, .methodLink RL 13 yX6_agree, .instanceMethod yX6_agree, .selects RX6 yX6_agree yX6_agree, .initialized RX6, .code yX6_agree cX6_agree 5 (some .boolean), .methodLink RX6 89 yX6_findGlass, .instanceMethod yX6_findGlass, .selects RX6 yX6_findGlass yX6_findGlass, .code yX6_findGlass cX6_findGlass 3 (some (.object "Gatherhouse$Glass")), .fieldLink RX6 11 "Gatherhouse" "glasses" "[LGatherhouse$Glass;", .classLink RX6 365 "java/lang/IndexOutOfBoundsException", .initialized "java/lang/IndexOutOfBoundsException", .classLink RL 79 "java/lang/IndexOutOfBoundsException", .constant RL 81 (-2000000001)]
def wzL_ask_agree_out : List Cond := wzEL_ask_agree_out ++ (u_ws RX6 TX6 16 ++ ((vx_atS RX6 369 "java/lang/IndexOutOfBoundsException" ["java/lang/RuntimeException", "java/lang/Exception"]).filter goodWord))
theorem zgEL_ask_agree_out : wzEL_ask_agree_out.all goodWord = true := by decide +kernel
theorem zuL_ask_agree_out_X6 : ∀ w ∈ u_ws RX6 TX6 16, w ∈ wzL_ask_agree_out := (fun _ h => (List.mem_append_right _ (List.mem_append_left _ h)))
theorem ztL_ask_agree_out_X6_369 : ∀ w ∈ (vx_atS RX6 369 "java/lang/IndexOutOfBoundsException" ["java/lang/RuntimeException", "java/lang/Exception"]).filter goodWord, w ∈ wzL_ask_agree_out := (fun _ h => (List.mem_append_right _ (List.mem_append_right _ h)))
theorem gzL_ask_agree_out_X6_agree_out_13 : GoodIn wzL_ask_agree_out (wsV RL 13 RX6 yX6_agree wzX6_agree_out) := (goodIn_app (z_lift (goodIn_r _ [1, 2, 3, 4] rfl (by decide +kernel))) (goodIn_app (z_lift (goodIn_r wzEX6_agree_out [5, 6, 7, 8, 4, 9, 10, 11, 12] rfl zgEX6_agree_out)) (goodIn_app (goodIn_sub (fun _ h => (List.mem_append_right _ (List.mem_append_left _ h))) zgU_X6) (goodIn_sub (fun _ h => (List.mem_append_right _ (List.mem_append_right _ h))) zgV_X6_369))))
set_option maxHeartbeats 4000000 in
set_option maxRecDepth 100000 in
theorem zc_L_ask_agree_out (l : Launch) (hnt : l.stackTraces = false) (D : va_G) (G : Nat × Nat × (Nat → Int32)) (xo : Nat) (va : Nat) (xg : Nat) (gc : Int32) (xp : Nat) (pc : Int32) (xq : Nat) (qc : Int32) (r1 : Nat) (r2 : Nat) (r3 : Nat) (r4 : Nat) (se : Nat) (ts : Int32) (hou : Int32) (dr : Int32) (su : Int32) (br : Int32) (cg : ClassId) (f : Nat → Option Nat) (ga : Nat) (l1 : Nat) (h1 : Nat) (e1 : Nat) (co1 : Int32) (ci : ClassId) (sz : Nat) (h9f : f 0 = some ga) (hh_l1 : l1 ≤ 2000) (hh_h1 : h1 ≤ 2000) (hh_e1 : e1 ≤ 2000) : vx_Met l yL_ask wzL_ask_agree_out ({ frames := 8, cells := 1, slots := 6, locals := 128 }) (va_Pc [.ref xo, .int 65, .ref va] (p_RW D G [(cg, .object "Gatherhouse$Glass"), (ci, .int)] [(xo, .inr (6, [.ref xg, .int gc, .ref xp, .int pc, .ref xq, .int qc, .ref r1, .ref r2, .ref r3, .ref r4, .ref se, .int ts, .int hou, .int dr, .int su, .int br])), (xg, .inl (cg, 6, .inr (.inr (.inr (.inr f))))), (ga, .inr (0, [.int (nI l1), .int (nI h1), .int (nI e1), .int co1])), (va, .inl (ci, 2, .inl (zi [0, 6])))] sz)) (va_Qi (fun (r : Int32) (u : Unit) => r = (-2000000001)) (fun (u : Unit) (t : State) => q_RW D [(cg, .object "Gatherhouse$Glass")] [(xo, .inr (6, [.ref xg, .int gc, .ref xp, .int pc, .ref xq, .int qc, .ref r1, .ref r2, .ref r3, .ref r4, .ref se, .int ts, .int hou, .int dr, .int su, .int br])), (xg, .inl (cg, 6, .inr (.inr (.inr (.inr f))))), (ga, .inr (0, [.int (nI l1), .int (nI h1), .int (nI e1), .int co1]))] (va_A [(xo, .inr (6, [.ref xg, .int gc, .ref xp, .int pc, .ref xq, .int qc, .ref r1, .ref r2, .ref r3, .ref r4, .ref se, .int ts, .int hou, .int dr, .int su, .int br])), (xg, .inl (cg, 6, .inr (.inr (.inr (.inr f))))), (ga, .inr (0, [.int (nI l1), .int (nI h1), .int (nI e1), .int co1])), (va, .inl (ci, 2, .inl (zi [0, 6])))] sz) t) (va_A [(xo, .inr (6, [.ref xg, .int gc, .ref xp, .int pc, .ref xq, .int qc, .ref r1, .ref r2, .ref r3, .ref r4, .ref se, .int ts, .int hou, .int dr, .int su, .int br])), (xg, .inl (cg, 6, .inr (.inr (.inr (.inr f))))), (ga, .inr (0, [.int (nI l1), .int (nI h1), .int (nI e1), .int co1])), (va, .inl (ci, 2, .inl (zi [0, 6])))] sz)) (vx_X (fun (_ : Unit) => True) (fun E (_ : Unit) (_ : State) => False) (va_A [(xo, .inr (6, [.ref xg, .int gc, .ref xp, .int pc, .ref xq, .int qc, .ref r1, .ref r2, .ref r3, .ref r4, .ref se, .int ts, .int hou, .int dr, .int su, .int br])), (xg, .inl (cg, 6, .inr (.inr (.inr (.inr f))))), (ga, .inr (0, [.int (nI l1), .int (nI h1), .int (nI e1), .int co1])), (va, .inl (ci, 2, .inl (zi [0, 6])))] sz)) 1 6 (va_A [(xo, .inr (6, [.ref xg, .int gc, .ref xp, .int pc, .ref xq, .int qc, .ref r1, .ref r2, .ref r3, .ref r4, .ref se, .int ts, .int hou, .int dr, .int su, .int br])), (xg, .inl (cg, 6, .inr (.inr (.inr (.inr f))))), (ga, .inr (0, [.int (nI l1), .int (nI h1), .int (nI e1), .int co1])), (va, .inl (ci, 2, .inl (zi [0, 6])))] sz) := by
  refine vx_ofWH (cc := cL_ask) (maxL := 4) (ret := (some .int)) (by decide) rfl ?_
  intro p e s m args below meth c s₁ B hml hv
  obtain ⟨rfl, hsz, hP, hK, hD0, hT, hZ⟩ := hv
  have hx := B.exec
  have hb := B.bytes
  have hr := B.returns
  have hts := atoms_spec (ws := wzL_ask_agree_out) B.pre
  have hown : s.vm.findClass RL = some m.cls := findClass_of_methodNamed B.named
  have hlocks := B.notSynchronized
  have hxe := vx_table (x := yL_ask) B (hts _ List.mem_cons_self)
  subst hsz
  have hD := hD0.self (sz := s.heap.size)
  generalize hAe : va_A [(xo, .inr (6, [.ref xg, .int gc, .ref xp, .int pc, .ref xq, .int qc, .ref r1, .ref r2, .ref r3, .ref r4, .ref se, .int ts, .int hou, .int dr, .int su, .int br])), (xg, .inl (cg, 6, .inr (.inr (.inr (.inr f))))), (ga, .inr (0, [.int (nI l1), .int (nI h1), .int (nI e1), .int co1])), (va, .inl (ci, 2, .inl (zi [0, 6])))] s.heap.size = A at hD hZ ⊢
  have hA : ∀ q : Nat, s.heap.size ≤ q → A q := fun q h => by rw [← hAe]; exact Or.inr h
  have hS : va_S A s.heap s.heap [] := va_S.rf
  have hl := lv_entry ([.ref xo, .int 65, .ref va]) (n := 4) (Nat.le_of_ble_eq_true rfl)
  rw [lg_entry_eq]
  generalize (lg_sl ([.ref xo, .int 65, .ref va]) ++ List.replicate (4 - (lg_sl ([.ref xo, .int 65, .ref va])).length) Slot.unset).toArray = ls at hl ⊢
  have hl : lv_has ls 4 [(0, .ref xo), (1, .int 65), (2, .ref va)] := hl
  refine lv_iload_n hx hb dL_ask_0 rfl (lv_at hl 1 rfl) ?_
  refine lv_tableIn (off := 260) (tgt := 261) hx hb dL_ask_1 (by decide +kernel) (by decide +kernel) (by decide +kernel) (by decide) ?_
  refine lv_aload_n hx hb dL_ask_261 rfl (lv_at hl 0 rfl) ?_
  refine lv_aload_n hx hb dL_ask_262 rfl (lv_at hl 2 rfl) ?_
  refine lv_iconst (v := 0) hx hb dL_ask_263 (by decide) ?_
  refine va_iald (D := D) (cl := vwCl) hx hb hK hP 3 1 rfl rfl (vp_in_nI (n := 0) (N := 2) (by decide) (by decide)) dL_ask_264 ?_
  refine W.eq (g2 := F0 m 265 ls [.int 0, .ref xo]) rfl ?_
  refine lv_aload_n hx hb dL_ask_265 rfl (lv_at hl 2 rfl) ?_
  refine lv_iconst (v := 1) hx hb dL_ask_266 (by decide) ?_
  refine va_iald (D := D) (cl := vwCl) hx hb hK hP 3 1 rfl rfl (vp_in_nI (n := 1) (N := 2) (by decide) (by decide)) dL_ask_267 ?_
  refine W.eq (g2 := F0 m 268 ls [.int 6, .int 0, .ref xo]) rfl ?_
  have hFc := va_free (wc := [(xo, .inr (6, [.ref xg, .int gc, .ref xp, .int pc, .ref xq, .int qc, .ref r1, .ref r2, .ref r3, .ref r4, .ref se, .int ts, .int hou, .int dr, .int su, .int br])), (xg, .inl (cg, 6, .inr (.inr (.inr (.inr f))))), (ga, .inr (0, [.int (nI l1), .int (nI h1), .int (nI e1), .int co1]))]) hD hS hA [0, 1, 2] rfl
  refine vx_calli (vx_runV (As := [.int 0, .int 6]) (rest := []) ⟨hx, hb, hml, hown, hts⟩ (zc_X6_agree_out l hnt D G xo xg gc xp pc xq qc r1 r2 r3 r4 se ts hou dr su br cg f ga l1 h1 e1 co1 s.heap.size (by first | assumption | rfl | omega | exact Nat.le_trans (zS_le _ _ _) (by omega) | decide) (by first | assumption | rfl | omega | exact Nat.le_trans (zS_le _ _ _) (by omega) | decide) (by first | assumption | rfl | omega | exact Nat.le_trans (zS_le _ _ _) (by omega) | decide) (by first | assumption | rfl | omega | exact Nat.le_trans (zS_le _ _ _) (by omega) | decide)) (cwV 2 hts gzL_ask_agree_out_X6_agree_out_13 rfl rfl rfl (by decide +kernel) ⟨(Nat.le_of_ble_eq_true rfl), (Nat.le_of_ble_eq_true rfl)⟩) ⟨p_RW_blind, va_recv hK hP (ci := 6) (q0 := 0) rfl rfl, (p_RW_at (tc := [(cg, .object "Gatherhouse$Glass")]) (wc := [(xo, .inr (6, [.ref xg, .int gc, .ref xp, .int pc, .ref xq, .int qc, .ref r1, .ref r2, .ref r3, .ref r4, .ref se, .int ts, .int hou, .int dr, .int su, .int br])), (xg, .inl (cg, 6, .inr (.inr (.inr (.inr f))))), (ga, .inr (0, [.int (nI l1), .int (nI h1), .int (nI e1), .int co1]))]) hP hK hD hS hA hT hZ [0, 1, 2] [0] rfl rfl (by decide) rfl [.ref xo, .int 0, .int 6])⟩ rfl rfl hl.1 rfl (lv_room (Nat.le_of_ble_eq_true rfl)) dL_ask_268 ⟨(Nat.le_of_ble_eq_true rfl), (Nat.le_of_ble_eq_true rfl)⟩) hS (fun q _ h => hFc q h) hFc (fun q _ h => hFc q h) (fun E ce q9 u t H locs ht hvm hpx hBX hz1 hk1 hS hce hcv hcl => ?_) (fun r_1349 u t H locs ht hvm w_1350 hB hz1 hk1 hS => ?_)
  · obtain ⟨hBX, hB⟩ := hBX
    obtain ⟨hP, hD, hK⟩ := q_join (D := D) (wc := [(xo, .inr (6, [.ref xg, .int gc, .ref xp, .int pc, .ref xq, .int qc, .ref r1, .ref r2, .ref r3, .ref r4, .ref se, .int ts, .int hou, .int dr, .int su, .int br])), (xg, .inl (cg, 6, .inr (.inr (.inr (.inr f))))), (ga, .inr (0, [.int (nI l1), .int (nI h1), .int (nI e1), .int co1]))]) (wr := [(va, .inl (ci, 2, .inl (zi [0, 6])))]) (w1 := [(xo, .inr (6, [.ref xg, .int gc, .ref xp, .int pc, .ref xq, .int qc, .ref r1, .ref r2, .ref r3, .ref r4, .ref se, .int ts, .int hou, .int dr, .int su, .int br])), (xg, .inl (cg, 6, .inr (.inr (.inr (.inr f))))), (ga, .inr (0, [.int (nI l1), .int (nI h1), .int (nI e1), .int co1]))]) (tyr := [(ci, .int)]) (ty1 := [(cg, .object "Gatherhouse$Glass")]) hP hD hK [0, 1, 2] [3] [1] rfl rfl (by decide) (by decide) rfl hFc hk1 ht hvm hB
    have hP : va_P D vwCl [(va, .inl (ci, 2, .inl (zi [0, 6]))), (xo, .inr (6, [.ref xg, .int gc, .ref xp, .int pc, .ref xq, .int qc, .ref r1, .ref r2, .ref r3, .ref r4, .ref se, .int ts, .int hou, .int dr, .int su, .int br])), (xg, .inl (cg, 6, .inr (.inr (.inr (.inr f))))), (ga, .inr (0, [.int (nI l1), .int (nI h1), .int (nI e1), .int co1]))] H := hP
    have hD : va_D A [(va, .inl (ci, 2, .inl (zi [0, 6]))), (xo, .inr (6, [.ref xg, .int gc, .ref xp, .int pc, .ref xq, .int qc, .ref r1, .ref r2, .ref r3, .ref r4, .ref se, .int ts, .int hou, .int dr, .int su, .int br])), (xg, .inl (cg, 6, .inr (.inr (.inr (.inr f))))), (ga, .inr (0, [.int (nI l1), .int (nI h1), .int (nI e1), .int co1]))] := hD
    have hK : va_K D vwCl [(ci, .int), (cg, .object "Gatherhouse$Glass")] s := hK
    have hBX : (E = "java/lang/IndexOutOfBoundsException") := hBX
    rcases hBX with rfl
    refine z_catch (own := RL) (name := "java/lang/IndexOutOfBoundsException") (hh := ttL_ask) (x := ⟨261, 279, 468, 79⟩) hown hxe 1 rfl [] (by decide +kernel) (fun _ h => absurd h List.not_mem_nil) (by decide) (by decide) (hts (.classLink RL 79 "java/lang/IndexOutOfBoundsException") (by decide +kernel)) (va_Nw.use rfl (hT.2.2.1 ("java/lang/IndexOutOfBoundsException", "java/lang/IndexOutOfBoundsException") (by decide +kernel))) hce hcv hcl ?_
    refine W.eq (g2 := F0 m 468 ls [.ref q9]) rfl ?_
    refine lv_astore_n (lv' := [(3, .ref q9), (0, .ref xo), (1, .int 65), (2, .ref va)]) hx hb dL_ask_468 rfl hl (by decide) rfl (fun ls hl => ?_)
    refine lv_ldc (v := (-2000000001)) hx hb hown (hts (.constant RL 81 (-2000000001)) (by decide +kernel)) dL_ask_469 ?_
    refine vx_ret ?_
    exact W.iret (v := (-2000000001)) hx hb hr (fun t ht hW => ⟨⟨(-2000000001), (), rfl, rfl, q_RW_mk hP hK hD [1, 2, 3] [1] rfl rfl (by decide) rfl ht hW.alike⟩, hS.F ht⟩) hS.2.2 dL_ask_471
  · exact w_1350.elim
theorem dL_glasses_163 : decode cL_glasses 163 = .ok (.iconst 0, 1) := by decide +kernel
theorem dL_glasses_164 : decode cL_glasses 164 = .ok (.istore 5, 2) := by decide +kernel
theorem dL_glasses_166 : decode cL_glasses 166 = .ok (.sipush 600, 3) := by decide +kernel
theorem dL_glasses_169 : decode cL_glasses 169 = .ok (.istore 6, 2) := by decide +kernel
theorem dL_glasses_171 : decode cL_glasses 171 = .ok (.iload 6, 2) := by decide +kernel
theorem dL_glasses_173 : decode cL_glasses 173 = .ok (.sipush 1100, 3) := by decide +kernel
theorem dL_glasses_176 : decode cL_glasses 176 = .ok (.if_icmp .gt 61, 3) := by decide +kernel
theorem dL_glasses_179 : decode cL_glasses 179 = .ok (.iload 5, 2) := by decide +kernel
theorem dL_glasses_181 : decode cL_glasses 181 = .ok (.iload 6, 2) := by decide +kernel
theorem dL_glasses_183 : decode cL_glasses 183 = .ok (.aload_n 2, 1) := by decide +kernel
theorem dL_glasses_184 : decode cL_glasses 184 = .ok (.iload_n 3, 1) := by decide +kernel
theorem dL_glasses_185 : decode cL_glasses 185 = .ok (.aaload, 1) := by decide +kernel
theorem dL_glasses_186 : decode cL_glasses 186 = .ok (.iconst 0, 1) := by decide +kernel
theorem dL_glasses_187 : decode cL_glasses 187 = .ok (.iaload, 1) := by decide +kernel
theorem dL_glasses_188 : decode cL_glasses 188 = .ok (.if_icmp .lt 39, 3) := by decide +kernel
theorem dL_glasses_227 : decode cL_glasses 227 = .ok (.iconst 0, 1) := by decide +kernel
theorem dL_glasses_228 : decode cL_glasses 228 = .ok (.iadd, 1) := by decide +kernel
theorem dL_glasses_229 : decode cL_glasses 229 = .ok (.istore 5, 2) := by decide +kernel
theorem dL_glasses_231 : decode cL_glasses 231 = .ok (.iinc 6 1, 3) := by decide +kernel
theorem dL_glasses_234 : decode cL_glasses 234 = .ok (.goto (-63), 3) := by decide +kernel
theorem dL_glasses_191 : decode cL_glasses 191 = .ok (.iload 6, 2) := by decide +kernel
theorem dL_glasses_193 : decode cL_glasses 193 = .ok (.aload_n 2, 1) := by decide +kernel
theorem dL_glasses_194 : decode cL_glasses 194 = .ok (.iload 4, 2) := by decide +kernel
theorem dL_glasses_196 : decode cL_glasses 196 = .ok (.aaload, 1) := by decide +kernel
theorem dL_glasses_197 : decode cL_glasses 197 = .ok (.iconst 0, 1) := by decide +kernel
theorem dL_glasses_198 : decode cL_glasses 198 = .ok (.iaload, 1) := by decide +kernel
theorem dL_glasses_199 : decode cL_glasses 199 = .ok (.if_icmp .lt 28, 3) := by decide +kernel
theorem dL_glasses_202 : decode cL_glasses 202 = .ok (.iload 6, 2) := by decide +kernel
theorem dL_glasses_204 : decode cL_glasses 204 = .ok (.aload_n 2, 1) := by decide +kernel
theorem dL_glasses_205 : decode cL_glasses 205 = .ok (.iload_n 3, 1) := by decide +kernel
theorem dL_glasses_206 : decode cL_glasses 206 = .ok (.aaload, 1) := by decide +kernel
theorem dL_glasses_207 : decode cL_glasses 207 = .ok (.iconst 1, 1) := by decide +kernel
theorem dL_glasses_208 : decode cL_glasses 208 = .ok (.iaload, 1) := by decide +kernel
theorem dL_glasses_209 : decode cL_glasses 209 = .ok (.if_icmp .gt 18, 3) := by decide +kernel
theorem dL_glasses_212 : decode cL_glasses 212 = .ok (.iload 6, 2) := by decide +kernel
theorem dL_glasses_214 : decode cL_glasses 214 = .ok (.aload_n 2, 1) := by decide +kernel
theorem dL_glasses_215 : decode cL_glasses 215 = .ok (.iload 4, 2) := by decide +kernel
theorem dL_glasses_217 : decode cL_glasses 217 = .ok (.aaload, 1) := by decide +kernel
theorem dL_glasses_218 : decode cL_glasses 218 = .ok (.iconst 1, 1) := by decide +kernel
theorem dL_glasses_219 : decode cL_glasses 219 = .ok (.iaload, 1) := by decide +kernel
theorem dL_glasses_220 : decode cL_glasses 220 = .ok (.if_icmp .gt 7, 3) := by decide +kernel
theorem dL_glasses_223 : decode cL_glasses 223 = .ok (.iconst 1, 1) := by decide +kernel
theorem dL_glasses_224 : decode cL_glasses 224 = .ok (.goto 4, 3) := by decide +kernel
theorem dL_glasses_237 : decode cL_glasses 237 = .ok (.iload 5, 2) := by decide +kernel
theorem dL_glasses_239 : decode cL_glasses 239 = .ok (.bipush 100, 2) := by decide +kernel
theorem dL_glasses_241 : decode cL_glasses 241 = .ok (.if_icmp .le 39, 3) := by decide +kernel
theorem dL_glasses_280 : decode cL_glasses 280 = .ok (.iconst 0, 1) := by decide +kernel
theorem dL_glasses_281 : decode cL_glasses 281 = .ok (.istore 6, 2) := by decide +kernel
theorem dL_glasses_244 : decode cL_glasses 244 = .ok (.aload_n 2, 1) := by decide +kernel
theorem dL_glasses_245 : decode cL_glasses 245 = .ok (.iload_n 3, 1) := by decide +kernel
theorem dL_glasses_246 : decode cL_glasses 246 = .ok (.aaload, 1) := by decide +kernel
theorem dL_glasses_247 : decode cL_glasses 247 = .ok (.iconst 2, 1) := by decide +kernel
theorem dL_glasses_248 : decode cL_glasses 248 = .ok (.iaload, 1) := by decide +kernel
theorem dL_glasses_249 : decode cL_glasses 249 = .ok (.aload_n 2, 1) := by decide +kernel
theorem dL_glasses_250 : decode cL_glasses 250 = .ok (.iload 4, 2) := by decide +kernel
theorem dL_glasses_252 : decode cL_glasses 252 = .ok (.aaload, 1) := by decide +kernel
theorem dL_glasses_253 : decode cL_glasses 253 = .ok (.iconst 2, 1) := by decide +kernel
theorem dL_glasses_254 : decode cL_glasses 254 = .ok (.iaload, 1) := by decide +kernel
theorem dL_glasses_255 : decode cL_glasses 255 = .ok (.isub, 1) := by decide +kernel
theorem dL_glasses_256 : decode cL_glasses 256 = .ok (.iconst 5, 1) := by decide +kernel
theorem dL_glasses_257 : decode cL_glasses 257 = .ok (.if_icmp .gt 23, 3) := by decide +kernel
theorem dL_glasses_260 : decode cL_glasses 260 = .ok (.aload_n 2, 1) := by decide +kernel
theorem dL_glasses_261 : decode cL_glasses 261 = .ok (.iload 4, 2) := by decide +kernel
theorem dL_glasses_263 : decode cL_glasses 263 = .ok (.aaload, 1) := by decide +kernel
theorem dL_glasses_264 : decode cL_glasses 264 = .ok (.iconst 2, 1) := by decide +kernel
theorem dL_glasses_265 : decode cL_glasses 265 = .ok (.iaload, 1) := by decide +kernel
theorem dL_glasses_266 : decode cL_glasses 266 = .ok (.aload_n 2, 1) := by decide +kernel
theorem dL_glasses_267 : decode cL_glasses 267 = .ok (.iload_n 3, 1) := by decide +kernel
theorem dL_glasses_268 : decode cL_glasses 268 = .ok (.aaload, 1) := by decide +kernel
theorem dL_glasses_269 : decode cL_glasses 269 = .ok (.iconst 2, 1) := by decide +kernel
theorem dL_glasses_270 : decode cL_glasses 270 = .ok (.iaload, 1) := by decide +kernel
theorem dL_glasses_271 : decode cL_glasses 271 = .ok (.isub, 1) := by decide +kernel
theorem dL_glasses_272 : decode cL_glasses 272 = .ok (.iconst 5, 1) := by decide +kernel
theorem dL_glasses_273 : decode cL_glasses 273 = .ok (.if_icmp .gt 7, 3) := by decide +kernel
theorem dL_glasses_276 : decode cL_glasses 276 = .ok (.iconst 1, 1) := by decide +kernel
theorem dL_glasses_277 : decode cL_glasses 277 = .ok (.goto 4, 3) := by decide +kernel
set_option maxHeartbeats 4000000 in
set_option maxRecDepth 100000 in
theorem zcl_2 {p : Program} {l : Launch} {e : Env} {R : Room} {s : State} {m : MethodId} {args : Array Value} {below : List Frame} {meth : Method} {c : Code} {H : Heap} {locs : List Loc} {c9 s9 : Nat} {Q : State → Prop} {D : va_G} {ls : Array Slot} (k : Nat) (kj : Nat) (l1 : Nat) (h1 : Nat) (e1 : Nat) (l2 : Nat) (h2 : Nat) (e2 : Nat) (f : Nat → Option Nat) (its : Nat) (a1 : Nat) (a2 : Nat) (xo : Nat) (g1 : Nat) (cA1 : ClassId) (ci : ClassId) (h9f : f k = some a1) (h9g : f kj = some a2) (hh_k : k ≤ 5) (hh_kj : kj ≤ 5) (hl_l1 : 600 ≤ l1) (hh_l1 : l1 ≤ 1100) (hl_h1 : 600 ≤ h1) (hh_h1 : h1 ≤ 1100) (hh_e1 : e1 ≤ 200) (hl_l2 : 600 ≤ l2) (hh_l2 : l2 ≤ 1100) (hl_h2 : 600 ≤ h2) (hh_h2 : h2 ≤ 1100) (hh_e2 : e2 ≤ 200) (hx : p.tables.exec = Jvm.exec) (hb : c.code = cL_glasses) (hK : va_K D vwCl [(cA1, .array .int), (ci, .int)] s) (hP : va_P D vwCl [(its, .inl (cA1, 6, .inr (.inr (.inr (.inr f))))), (a1, .inl (ci, 3, .inl (zi [nI l1, nI h1, nI e1]))), (a2, .inl (ci, 3, .inl (zi [nI l2, nI h2, nI e2])))] H) (hl : lv_has ls 7 [(4, .int (nI kj)), (3, .int (nI k)), (2, .ref its), (1, .ref xo), (0, .ref g1)]) (hE1 : ∀ ls : Array Slot, lv_has ls 7 [(6, .int 1), (4, .int (nI kj)), (3, .int (nI k)), (2, .ref its), (1, .ref xo), (0, .ref g1)] → (gAg l1 h1 e1 l2 h2 e2) → W p l e R s m args below meth c H locs c9 s9 Q (F0 m 283 ls [])) (hE0 : ∀ ls : Array Slot, lv_has ls 7 [(6, .int 0), (4, .int (nI kj)), (3, .int (nI k)), (2, .ref its), (1, .ref xo), (0, .ref g1)] → (¬ gAg l1 h1 e1 l2 h2 e2) → W p l e R s m args below meth c H locs c9 s9 Q (F0 m 283 ls [])) : W p l e R s m args below meth c H locs c9 s9 Q (F0 m 163 ls []) := by
  refine lv_iconst (v := 0) hx hb dL_glasses_163 (by decide) ?_
  refine lv_istore (lv' := [(5, .int 0), (4, .int (nI kj)), (3, .int (nI k)), (2, .ref its), (1, .ref xo), (0, .ref g1)]) hx hb dL_glasses_164 hl (by decide) rfl (fun ls hl => ?_)
  refine lv_sipush (v := 600) hx hb dL_glasses_166 (by decide) ?_
  refine lv_istore (lv' := [(6, .int 600), (5, .int 0), (4, .int (nI kj)), (3, .int (nI k)), (2, .ref its), (1, .ref xo), (0, .ref g1)]) hx hb dL_glasses_169 hl (by decide) rfl (fun ls hl => ?_)
  have hl : lv_has ls 7 [(6, .int 600), (5, .int 0), (4, .int (nI kj)), (3, .int (nI k)), (2, .ref its), (1, .ref xo), (0, .ref g1)] := lv_sub hl [0, 1, 2, 3, 4, 5, 6] rfl
  have hv9 : ([(6, .int 600), (5, .int 0), (4, .int (nI kj)), (3, .int (nI k)), (2, .ref its), (1, .ref xo), (0, .ref g1)] : List (Nat × Value)) = [(6, .int (nI (600 + 0))), (5, .int (nI (zcnt l1 h1 l2 h2 0))), (4, .int (nI kj)), (3, .int (nI k)), (2, .ref its), (1, .ref xo), (0, .ref g1)] := by
    have z_1351 : (600 : Int32) = nI (600 + 0) := (by first | rfl | exact congrArg nI (by omega) | exact congrArg nI (by simp only [zcnt]; omega) | exact congrArg nI (by simp only [zcnt]; split <;> omega) | exact congrArg nI (by simp only [zcnt]; split <;> split <;> omega) | (simp only [zcnt]; omega) | (simp only [zcnt]; split <;> omega))
    have z_1352 : (0 : Int32) = nI (zcnt l1 h1 l2 h2 0) := (by first | rfl | exact congrArg nI (by omega) | exact congrArg nI (by simp only [zcnt]; omega) | exact congrArg nI (by simp only [zcnt]; split <;> omega) | exact congrArg nI (by simp only [zcnt]; split <;> split <;> omega) | (simp only [zcnt]; omega) | (simp only [zcnt]; split <;> omega))
    first | rfl | rw [z_1351, z_1352] | rw [← z_1351, ← z_1352] | simp only [z_1351, z_1352]
  have hl : lv_has ls 7 [(6, .int (nI (600 + 0))), (5, .int (nI (zcnt l1 h1 l2 h2 0))), (4, .int (nI kj)), (3, .int (nI k)), (2, .ref its), (1, .ref xo), (0, .ref g1)] := by rw [← hv9]; exact hl
  refine z_loopR (fun (q7 : Nat) (ls : Array Slot) => lv_has ls 7 [(6, .int (nI (600 + q7))), (5, .int (nI (zcnt l1 h1 l2 h2 q7))), (4, .int (nI kj)), (3, .int (nI k)), (2, .ref its), (1, .ref xo), (0, .ref g1)]) (fun (q7 : Nat) (ls : Array Slot) => W p l e _ s m _ below meth c H locs c9 s9 _ (F0 m 171 ls [])) (501) ?_ ?_ (501) 0 (by omega) ls hl
  · intro q7 hk ih ls hl
    refine lv_iload hx hb dL_glasses_171 (lv_at hl 0 rfl) ?_
    refine lv_sipush (v := 1100) hx hb dL_glasses_173 (by decide) ?_
    refine lv_icmp_gt (tgt := 237) hx hb dL_glasses_176 (by decide) (fun cc => absurd cc (fun z => absurd ((nI_ltI (a := 1100) (b := 600 + q7) (by omega) (by omega)).mp z) (by omega))) (fun _ => ?_)
    refine lv_iload hx hb dL_glasses_179 (lv_at hl 1 rfl) ?_
    refine lv_iload hx hb dL_glasses_181 (lv_at hl 0 rfl) ?_
    refine lv_aload_n hx hb dL_glasses_183 rfl (lv_at hl 4 rfl) ?_
    refine lv_iload_n hx hb dL_glasses_184 rfl (lv_at hl 3 rfl) ?_
    refine va_aldqA (D := D) (cl := vwCl) hx hb hK hP 0 0 rfl rfl (vp_in_nI (n := k) (N := 6) (by omega) (by omega)) dL_glasses_185 ?_
    refine W.eq (g2 := F0 m 186 ls [.ref a1, .int (nI (600 + q7)), .int (nI (zcnt l1 h1 l2 h2 q7))]) (by rw [z_rf (k := k) (by omega) h9f]) ?_
    refine lv_iconst (v := 0) hx hb dL_glasses_186 (by decide) ?_
    refine va_iald (D := D) (cl := vwCl) hx hb hK hP 1 1 rfl rfl (vp_in_nI (n := 0) (N := 3) (by decide) (by decide)) dL_glasses_187 ?_
    refine W.eq (g2 := F0 m 188 ls [.int (nI l1), .int (nI (600 + q7)), .int (nI (zcnt l1 h1 l2 h2 q7))]) rfl ?_
    refine lv_icmp_lt (tgt := 227) hx hb dL_glasses_188 (by decide) (fun c_1353 => ?_) (fun c_1353 => ?_)
    · have n_1354 : 600 + q7 < l1 := (nI_ltI (a := 600 + q7) (b := l1) (by omega) (by omega)).mp c_1353
      refine lv_iconst (v := 0) hx hb dL_glasses_227 (by decide) ?_
      refine lv_iadd hx hb dL_glasses_228 ?_
      refine lv_topi (fun y_1355 ey_1355 => ?_)
      have ey_1355 : y_1355 = (nI ((zcnt l1 h1 l2 h2 q7) + 0)) := ey_1355.trans (nI_add (zcnt l1 h1 l2 h2 q7) 0)
      subst ey_1355
      refine lv_istore (lv' := [(5, .int (nI ((zcnt l1 h1 l2 h2 q7) + 0))), (6, .int (nI (600 + q7))), (4, .int (nI kj)), (3, .int (nI k)), (2, .ref its), (1, .ref xo), (0, .ref g1)]) hx hb dL_glasses_229 hl (by decide) rfl (fun ls hl => ?_)
      refine lv_iinc (v := nI ((600 + q7) + 1)) (lv' := [(6, .int (nI ((600 + q7) + 1))), (5, .int (nI ((zcnt l1 h1 l2 h2 q7) + 0))), (4, .int (nI kj)), (3, .int (nI k)), (2, .ref its), (1, .ref xo), (0, .ref g1)]) hx hb dL_glasses_231 hl (k := 1) rfl (show nI (600 + q7) + Int32.ofInt 1 = nI ((600 + q7) + 1) from nI_1 (600 + q7)) (by decide) rfl (fun ls hl => ?_)
      refine lv_goto (tgt := 171) hx hb dL_glasses_234 (by decide) ?_
      have hl : lv_has ls 7 [(6, .int (nI ((600 + q7) + 1))), (5, .int (nI ((zcnt l1 h1 l2 h2 q7) + 0))), (4, .int (nI kj)), (3, .int (nI k)), (2, .ref its), (1, .ref xo), (0, .ref g1)] := lv_sub hl [0, 1, 2, 3, 4, 5, 6] rfl
      have hv9 : ([(6, .int (nI ((600 + q7) + 1))), (5, .int (nI ((zcnt l1 h1 l2 h2 q7) + 0))), (4, .int (nI kj)), (3, .int (nI k)), (2, .ref its), (1, .ref xo), (0, .ref g1)] : List (Nat × Value)) = [(6, .int (nI (600 + (q7 + 1)))), (5, .int (nI (zcnt l1 h1 l2 h2 (q7 + 1)))), (4, .int (nI kj)), (3, .int (nI k)), (2, .ref its), (1, .ref xo), (0, .ref g1)] := by
        have z_1356 : (nI ((600 + q7) + 1) : Int32) = nI (600 + (q7 + 1)) := (by first | rfl | exact congrArg nI (by omega) | exact congrArg nI (by simp only [zcnt]; omega) | exact congrArg nI (by simp only [zcnt]; split <;> omega) | exact congrArg nI (by simp only [zcnt]; split <;> split <;> omega) | (simp only [zcnt]; omega) | (simp only [zcnt]; split <;> omega))
        have z_1357 : (nI ((zcnt l1 h1 l2 h2 q7) + 0) : Int32) = nI (zcnt l1 h1 l2 h2 (q7 + 1)) := (by first | rfl | exact congrArg nI (by omega) | exact congrArg nI (by simp only [zcnt]; omega) | exact congrArg nI (by simp only [zcnt]; split <;> omega) | exact congrArg nI (by simp only [zcnt]; split <;> split <;> omega) | (simp only [zcnt]; omega) | (simp only [zcnt]; split <;> omega))
        first | rfl | rw [z_1356, z_1357] | rw [← z_1356, ← z_1357] | simp only [z_1356, z_1357]
      have hl : lv_has ls 7 [(6, .int (nI (600 + (q7 + 1)))), (5, .int (nI (zcnt l1 h1 l2 h2 (q7 + 1)))), (4, .int (nI kj)), (3, .int (nI k)), (2, .ref its), (1, .ref xo), (0, .ref g1)] := by rw [← hv9]; exact hl
      exact ih _ hl
    · have n_1358 : ¬ (600 + q7 < l1) := fun z => c_1353 ((nI_ltI (a := 600 + q7) (b := l1) (by omega) (by omega)).mpr z)
      refine lv_iload hx hb dL_glasses_191 (lv_at hl 0 rfl) ?_
      refine lv_aload_n hx hb dL_glasses_193 rfl (lv_at hl 4 rfl) ?_
      refine lv_iload hx hb dL_glasses_194 (lv_at hl 2 rfl) ?_
      refine va_aldqA (D := D) (cl := vwCl) hx hb hK hP 0 0 rfl rfl (vp_in_nI (n := kj) (N := 6) (by omega) (by omega)) dL_glasses_196 ?_
      refine W.eq (g2 := F0 m 197 ls [.ref a2, .int (nI (600 + q7)), .int (nI (zcnt l1 h1 l2 h2 q7))]) (by rw [z_rf (k := kj) (by omega) h9g]) ?_
      refine lv_iconst (v := 0) hx hb dL_glasses_197 (by decide) ?_
      refine va_iald (D := D) (cl := vwCl) hx hb hK hP 2 1 rfl rfl (vp_in_nI (n := 0) (N := 3) (by decide) (by decide)) dL_glasses_198 ?_
      refine W.eq (g2 := F0 m 199 ls [.int (nI l2), .int (nI (600 + q7)), .int (nI (zcnt l1 h1 l2 h2 q7))]) rfl ?_
      refine lv_icmp_lt (tgt := 227) hx hb dL_glasses_199 (by decide) (fun c_1359 => ?_) (fun c_1359 => ?_)
      · have n_1360 : 600 + q7 < l2 := (nI_ltI (a := 600 + q7) (b := l2) (by omega) (by omega)).mp c_1359
        refine lv_iconst (v := 0) hx hb dL_glasses_227 (by decide) ?_
        refine lv_iadd hx hb dL_glasses_228 ?_
        refine lv_topi (fun y_1361 ey_1361 => ?_)
        have ey_1361 : y_1361 = (nI ((zcnt l1 h1 l2 h2 q7) + 0)) := ey_1361.trans (nI_add (zcnt l1 h1 l2 h2 q7) 0)
        subst ey_1361
        refine lv_istore (lv' := [(5, .int (nI ((zcnt l1 h1 l2 h2 q7) + 0))), (6, .int (nI (600 + q7))), (4, .int (nI kj)), (3, .int (nI k)), (2, .ref its), (1, .ref xo), (0, .ref g1)]) hx hb dL_glasses_229 hl (by decide) rfl (fun ls hl => ?_)
        refine lv_iinc (v := nI ((600 + q7) + 1)) (lv' := [(6, .int (nI ((600 + q7) + 1))), (5, .int (nI ((zcnt l1 h1 l2 h2 q7) + 0))), (4, .int (nI kj)), (3, .int (nI k)), (2, .ref its), (1, .ref xo), (0, .ref g1)]) hx hb dL_glasses_231 hl (k := 1) rfl (show nI (600 + q7) + Int32.ofInt 1 = nI ((600 + q7) + 1) from nI_1 (600 + q7)) (by decide) rfl (fun ls hl => ?_)
        refine lv_goto (tgt := 171) hx hb dL_glasses_234 (by decide) ?_
        have hl : lv_has ls 7 [(6, .int (nI ((600 + q7) + 1))), (5, .int (nI ((zcnt l1 h1 l2 h2 q7) + 0))), (4, .int (nI kj)), (3, .int (nI k)), (2, .ref its), (1, .ref xo), (0, .ref g1)] := lv_sub hl [0, 1, 2, 3, 4, 5, 6] rfl
        have hv9 : ([(6, .int (nI ((600 + q7) + 1))), (5, .int (nI ((zcnt l1 h1 l2 h2 q7) + 0))), (4, .int (nI kj)), (3, .int (nI k)), (2, .ref its), (1, .ref xo), (0, .ref g1)] : List (Nat × Value)) = [(6, .int (nI (600 + (q7 + 1)))), (5, .int (nI (zcnt l1 h1 l2 h2 (q7 + 1)))), (4, .int (nI kj)), (3, .int (nI k)), (2, .ref its), (1, .ref xo), (0, .ref g1)] := by
          have z_1362 : (nI ((600 + q7) + 1) : Int32) = nI (600 + (q7 + 1)) := (by first | rfl | exact congrArg nI (by omega) | exact congrArg nI (by simp only [zcnt]; omega) | exact congrArg nI (by simp only [zcnt]; split <;> omega) | exact congrArg nI (by simp only [zcnt]; split <;> split <;> omega) | (simp only [zcnt]; omega) | (simp only [zcnt]; split <;> omega))
          have z_1363 : (nI ((zcnt l1 h1 l2 h2 q7) + 0) : Int32) = nI (zcnt l1 h1 l2 h2 (q7 + 1)) := (by first | rfl | exact congrArg nI (by omega) | exact congrArg nI (by simp only [zcnt]; omega) | exact congrArg nI (by simp only [zcnt]; split <;> omega) | exact congrArg nI (by simp only [zcnt]; split <;> split <;> omega) | (simp only [zcnt]; omega) | (simp only [zcnt]; split <;> omega))
          first | rfl | rw [z_1362, z_1363] | rw [← z_1362, ← z_1363] | simp only [z_1362, z_1363]
        have hl : lv_has ls 7 [(6, .int (nI (600 + (q7 + 1)))), (5, .int (nI (zcnt l1 h1 l2 h2 (q7 + 1)))), (4, .int (nI kj)), (3, .int (nI k)), (2, .ref its), (1, .ref xo), (0, .ref g1)] := by rw [← hv9]; exact hl
        exact ih _ hl
      · have n_1364 : ¬ (600 + q7 < l2) := fun z => c_1359 ((nI_ltI (a := 600 + q7) (b := l2) (by omega) (by omega)).mpr z)
        refine lv_iload hx hb dL_glasses_202 (lv_at hl 0 rfl) ?_
        refine lv_aload_n hx hb dL_glasses_204 rfl (lv_at hl 4 rfl) ?_
        refine lv_iload_n hx hb dL_glasses_205 rfl (lv_at hl 3 rfl) ?_
        refine va_aldqA (D := D) (cl := vwCl) hx hb hK hP 0 0 rfl rfl (vp_in_nI (n := k) (N := 6) (by omega) (by omega)) dL_glasses_206 ?_
        refine W.eq (g2 := F0 m 207 ls [.ref a1, .int (nI (600 + q7)), .int (nI (zcnt l1 h1 l2 h2 q7))]) (by rw [z_rf (k := k) (by omega) h9f]) ?_
        refine lv_iconst (v := 1) hx hb dL_glasses_207 (by decide) ?_
        refine va_iald (D := D) (cl := vwCl) hx hb hK hP 1 1 rfl rfl (vp_in_nI (n := 1) (N := 3) (by decide) (by decide)) dL_glasses_208 ?_
        refine W.eq (g2 := F0 m 209 ls [.int (nI h1), .int (nI (600 + q7)), .int (nI (zcnt l1 h1 l2 h2 q7))]) rfl ?_
        refine lv_icmp_gt (tgt := 227) hx hb dL_glasses_209 (by decide) (fun c_1365 => ?_) (fun c_1365 => ?_)
        · have n_1366 : h1 < 600 + q7 := (nI_ltI (a := h1) (b := 600 + q7) (by omega) (by omega)).mp c_1365
          refine lv_iconst (v := 0) hx hb dL_glasses_227 (by decide) ?_
          refine lv_iadd hx hb dL_glasses_228 ?_
          refine lv_topi (fun y_1367 ey_1367 => ?_)
          have ey_1367 : y_1367 = (nI ((zcnt l1 h1 l2 h2 q7) + 0)) := ey_1367.trans (nI_add (zcnt l1 h1 l2 h2 q7) 0)
          subst ey_1367
          refine lv_istore (lv' := [(5, .int (nI ((zcnt l1 h1 l2 h2 q7) + 0))), (6, .int (nI (600 + q7))), (4, .int (nI kj)), (3, .int (nI k)), (2, .ref its), (1, .ref xo), (0, .ref g1)]) hx hb dL_glasses_229 hl (by decide) rfl (fun ls hl => ?_)
          refine lv_iinc (v := nI ((600 + q7) + 1)) (lv' := [(6, .int (nI ((600 + q7) + 1))), (5, .int (nI ((zcnt l1 h1 l2 h2 q7) + 0))), (4, .int (nI kj)), (3, .int (nI k)), (2, .ref its), (1, .ref xo), (0, .ref g1)]) hx hb dL_glasses_231 hl (k := 1) rfl (show nI (600 + q7) + Int32.ofInt 1 = nI ((600 + q7) + 1) from nI_1 (600 + q7)) (by decide) rfl (fun ls hl => ?_)
          refine lv_goto (tgt := 171) hx hb dL_glasses_234 (by decide) ?_
          have hl : lv_has ls 7 [(6, .int (nI ((600 + q7) + 1))), (5, .int (nI ((zcnt l1 h1 l2 h2 q7) + 0))), (4, .int (nI kj)), (3, .int (nI k)), (2, .ref its), (1, .ref xo), (0, .ref g1)] := lv_sub hl [0, 1, 2, 3, 4, 5, 6] rfl
          have hv9 : ([(6, .int (nI ((600 + q7) + 1))), (5, .int (nI ((zcnt l1 h1 l2 h2 q7) + 0))), (4, .int (nI kj)), (3, .int (nI k)), (2, .ref its), (1, .ref xo), (0, .ref g1)] : List (Nat × Value)) = [(6, .int (nI (600 + (q7 + 1)))), (5, .int (nI (zcnt l1 h1 l2 h2 (q7 + 1)))), (4, .int (nI kj)), (3, .int (nI k)), (2, .ref its), (1, .ref xo), (0, .ref g1)] := by
            have z_1368 : (nI ((600 + q7) + 1) : Int32) = nI (600 + (q7 + 1)) := (by first | rfl | exact congrArg nI (by omega) | exact congrArg nI (by simp only [zcnt]; omega) | exact congrArg nI (by simp only [zcnt]; split <;> omega) | exact congrArg nI (by simp only [zcnt]; split <;> split <;> omega) | (simp only [zcnt]; omega) | (simp only [zcnt]; split <;> omega))
            have z_1369 : (nI ((zcnt l1 h1 l2 h2 q7) + 0) : Int32) = nI (zcnt l1 h1 l2 h2 (q7 + 1)) := (by first | rfl | exact congrArg nI (by omega) | exact congrArg nI (by simp only [zcnt]; omega) | exact congrArg nI (by simp only [zcnt]; split <;> omega) | exact congrArg nI (by simp only [zcnt]; split <;> split <;> omega) | (simp only [zcnt]; omega) | (simp only [zcnt]; split <;> omega))
            first | rfl | rw [z_1368, z_1369] | rw [← z_1368, ← z_1369] | simp only [z_1368, z_1369]
          have hl : lv_has ls 7 [(6, .int (nI (600 + (q7 + 1)))), (5, .int (nI (zcnt l1 h1 l2 h2 (q7 + 1)))), (4, .int (nI kj)), (3, .int (nI k)), (2, .ref its), (1, .ref xo), (0, .ref g1)] := by rw [← hv9]; exact hl
          exact ih _ hl
        · have n_1370 : ¬ (h1 < 600 + q7) := fun z => c_1365 ((nI_ltI (a := h1) (b := 600 + q7) (by omega) (by omega)).mpr z)
          refine lv_iload hx hb dL_glasses_212 (lv_at hl 0 rfl) ?_
          refine lv_aload_n hx hb dL_glasses_214 rfl (lv_at hl 4 rfl) ?_
          refine lv_iload hx hb dL_glasses_215 (lv_at hl 2 rfl) ?_
          refine va_aldqA (D := D) (cl := vwCl) hx hb hK hP 0 0 rfl rfl (vp_in_nI (n := kj) (N := 6) (by omega) (by omega)) dL_glasses_217 ?_
          refine W.eq (g2 := F0 m 218 ls [.ref a2, .int (nI (600 + q7)), .int (nI (zcnt l1 h1 l2 h2 q7))]) (by rw [z_rf (k := kj) (by omega) h9g]) ?_
          refine lv_iconst (v := 1) hx hb dL_glasses_218 (by decide) ?_
          refine va_iald (D := D) (cl := vwCl) hx hb hK hP 2 1 rfl rfl (vp_in_nI (n := 1) (N := 3) (by decide) (by decide)) dL_glasses_219 ?_
          refine W.eq (g2 := F0 m 220 ls [.int (nI h2), .int (nI (600 + q7)), .int (nI (zcnt l1 h1 l2 h2 q7))]) rfl ?_
          refine lv_icmp_gt (tgt := 227) hx hb dL_glasses_220 (by decide) (fun c_1371 => ?_) (fun c_1371 => ?_)
          · have n_1372 : h2 < 600 + q7 := (nI_ltI (a := h2) (b := 600 + q7) (by omega) (by omega)).mp c_1371
            refine lv_iconst (v := 0) hx hb dL_glasses_227 (by decide) ?_
            refine lv_iadd hx hb dL_glasses_228 ?_
            refine lv_topi (fun y_1373 ey_1373 => ?_)
            have ey_1373 : y_1373 = (nI ((zcnt l1 h1 l2 h2 q7) + 0)) := ey_1373.trans (nI_add (zcnt l1 h1 l2 h2 q7) 0)
            subst ey_1373
            refine lv_istore (lv' := [(5, .int (nI ((zcnt l1 h1 l2 h2 q7) + 0))), (6, .int (nI (600 + q7))), (4, .int (nI kj)), (3, .int (nI k)), (2, .ref its), (1, .ref xo), (0, .ref g1)]) hx hb dL_glasses_229 hl (by decide) rfl (fun ls hl => ?_)
            refine lv_iinc (v := nI ((600 + q7) + 1)) (lv' := [(6, .int (nI ((600 + q7) + 1))), (5, .int (nI ((zcnt l1 h1 l2 h2 q7) + 0))), (4, .int (nI kj)), (3, .int (nI k)), (2, .ref its), (1, .ref xo), (0, .ref g1)]) hx hb dL_glasses_231 hl (k := 1) rfl (show nI (600 + q7) + Int32.ofInt 1 = nI ((600 + q7) + 1) from nI_1 (600 + q7)) (by decide) rfl (fun ls hl => ?_)
            refine lv_goto (tgt := 171) hx hb dL_glasses_234 (by decide) ?_
            have hl : lv_has ls 7 [(6, .int (nI ((600 + q7) + 1))), (5, .int (nI ((zcnt l1 h1 l2 h2 q7) + 0))), (4, .int (nI kj)), (3, .int (nI k)), (2, .ref its), (1, .ref xo), (0, .ref g1)] := lv_sub hl [0, 1, 2, 3, 4, 5, 6] rfl
            have hv9 : ([(6, .int (nI ((600 + q7) + 1))), (5, .int (nI ((zcnt l1 h1 l2 h2 q7) + 0))), (4, .int (nI kj)), (3, .int (nI k)), (2, .ref its), (1, .ref xo), (0, .ref g1)] : List (Nat × Value)) = [(6, .int (nI (600 + (q7 + 1)))), (5, .int (nI (zcnt l1 h1 l2 h2 (q7 + 1)))), (4, .int (nI kj)), (3, .int (nI k)), (2, .ref its), (1, .ref xo), (0, .ref g1)] := by
              have z_1374 : (nI ((600 + q7) + 1) : Int32) = nI (600 + (q7 + 1)) := (by first | rfl | exact congrArg nI (by omega) | exact congrArg nI (by simp only [zcnt]; omega) | exact congrArg nI (by simp only [zcnt]; split <;> omega) | exact congrArg nI (by simp only [zcnt]; split <;> split <;> omega) | (simp only [zcnt]; omega) | (simp only [zcnt]; split <;> omega))
              have z_1375 : (nI ((zcnt l1 h1 l2 h2 q7) + 0) : Int32) = nI (zcnt l1 h1 l2 h2 (q7 + 1)) := (by first | rfl | exact congrArg nI (by omega) | exact congrArg nI (by simp only [zcnt]; omega) | exact congrArg nI (by simp only [zcnt]; split <;> omega) | exact congrArg nI (by simp only [zcnt]; split <;> split <;> omega) | (simp only [zcnt]; omega) | (simp only [zcnt]; split <;> omega))
              first | rfl | rw [z_1374, z_1375] | rw [← z_1374, ← z_1375] | simp only [z_1374, z_1375]
            have hl : lv_has ls 7 [(6, .int (nI (600 + (q7 + 1)))), (5, .int (nI (zcnt l1 h1 l2 h2 (q7 + 1)))), (4, .int (nI kj)), (3, .int (nI k)), (2, .ref its), (1, .ref xo), (0, .ref g1)] := by rw [← hv9]; exact hl
            exact ih _ hl
          · have n_1376 : ¬ (h2 < 600 + q7) := fun z => c_1371 ((nI_ltI (a := h2) (b := 600 + q7) (by omega) (by omega)).mpr z)
            refine lv_iconst (v := 1) hx hb dL_glasses_223 (by decide) ?_
            refine lv_goto (tgt := 228) hx hb dL_glasses_224 (by decide) ?_
            refine lv_iadd hx hb dL_glasses_228 ?_
            refine lv_topi (fun y_1377 ey_1377 => ?_)
            have ey_1377 : y_1377 = (nI ((zcnt l1 h1 l2 h2 q7) + 1)) := ey_1377.trans (nI_add (zcnt l1 h1 l2 h2 q7) 1)
            subst ey_1377
            refine lv_istore (lv' := [(5, .int (nI ((zcnt l1 h1 l2 h2 q7) + 1))), (6, .int (nI (600 + q7))), (4, .int (nI kj)), (3, .int (nI k)), (2, .ref its), (1, .ref xo), (0, .ref g1)]) hx hb dL_glasses_229 hl (by decide) rfl (fun ls hl => ?_)
            refine lv_iinc (v := nI ((600 + q7) + 1)) (lv' := [(6, .int (nI ((600 + q7) + 1))), (5, .int (nI ((zcnt l1 h1 l2 h2 q7) + 1))), (4, .int (nI kj)), (3, .int (nI k)), (2, .ref its), (1, .ref xo), (0, .ref g1)]) hx hb dL_glasses_231 hl (k := 1) rfl (show nI (600 + q7) + Int32.ofInt 1 = nI ((600 + q7) + 1) from nI_1 (600 + q7)) (by decide) rfl (fun ls hl => ?_)
            refine lv_goto (tgt := 171) hx hb dL_glasses_234 (by decide) ?_
            have hl : lv_has ls 7 [(6, .int (nI ((600 + q7) + 1))), (5, .int (nI ((zcnt l1 h1 l2 h2 q7) + 1))), (4, .int (nI kj)), (3, .int (nI k)), (2, .ref its), (1, .ref xo), (0, .ref g1)] := lv_sub hl [0, 1, 2, 3, 4, 5, 6] rfl
            have hv9 : ([(6, .int (nI ((600 + q7) + 1))), (5, .int (nI ((zcnt l1 h1 l2 h2 q7) + 1))), (4, .int (nI kj)), (3, .int (nI k)), (2, .ref its), (1, .ref xo), (0, .ref g1)] : List (Nat × Value)) = [(6, .int (nI (600 + (q7 + 1)))), (5, .int (nI (zcnt l1 h1 l2 h2 (q7 + 1)))), (4, .int (nI kj)), (3, .int (nI k)), (2, .ref its), (1, .ref xo), (0, .ref g1)] := by
              have z_1378 : (nI ((600 + q7) + 1) : Int32) = nI (600 + (q7 + 1)) := (by first | rfl | exact congrArg nI (by omega) | exact congrArg nI (by simp only [zcnt]; omega) | exact congrArg nI (by simp only [zcnt]; split <;> omega) | exact congrArg nI (by simp only [zcnt]; split <;> split <;> omega) | (simp only [zcnt]; omega) | (simp only [zcnt]; split <;> omega))
              have z_1379 : (nI ((zcnt l1 h1 l2 h2 q7) + 1) : Int32) = nI (zcnt l1 h1 l2 h2 (q7 + 1)) := (by first | rfl | exact congrArg nI (by omega) | exact congrArg nI (by simp only [zcnt]; omega) | exact congrArg nI (by simp only [zcnt]; split <;> omega) | exact congrArg nI (by simp only [zcnt]; split <;> split <;> omega) | (simp only [zcnt]; omega) | (simp only [zcnt]; split <;> omega))
              first | rfl | rw [z_1378, z_1379] | rw [← z_1378, ← z_1379] | simp only [z_1378, z_1379]
            have hl : lv_has ls 7 [(6, .int (nI (600 + (q7 + 1)))), (5, .int (nI (zcnt l1 h1 l2 h2 (q7 + 1)))), (4, .int (nI kj)), (3, .int (nI k)), (2, .ref its), (1, .ref xo), (0, .ref g1)] := by rw [← hv9]; exact hl
            exact ih _ hl
  · intro ls hl
    refine lv_iload hx hb dL_glasses_171 (lv_at hl 0 rfl) ?_
    refine lv_sipush (v := 1100) hx hb dL_glasses_173 (by decide) ?_
    refine lv_icmp_gt (tgt := 237) hx hb dL_glasses_176 (by decide) (fun _ => ?_) (fun cc => absurd ((nI_ltI (a := 1100) (b := 600 + 501) (by omega) (by omega)).mpr (by omega)) cc)
    have hz9 : zcnt l1 h1 l2 h2 501 = min (600 + 501) (min h1 h2 + 1) - max l1 l2 := zcnt_is (by omega) (by omega) 501
    refine lv_iload hx hb dL_glasses_237 (lv_at hl 1 rfl) ?_
    refine lv_bipush (v := 100) hx hb dL_glasses_239 (by decide) ?_
    refine lv_icmp_le (tgt := 280) hx hb dL_glasses_241 (by decide) (fun c_1380 => ?_) (fun c_1380 => ?_)
    · have n_1381 : zcnt l1 h1 l2 h2 501 ≤ 100 := (nI_leI (a := zcnt l1 h1 l2 h2 501) (b := 100) (by omega) (by omega)).mp c_1380
      refine lv_iconst (v := 0) hx hb dL_glasses_280 (by decide) ?_
      refine lv_istore (lv' := [(6, .int 0), (5, .int (nI (zcnt l1 h1 l2 h2 501))), (4, .int (nI kj)), (3, .int (nI k)), (2, .ref its), (1, .ref xo), (0, .ref g1)]) hx hb dL_glasses_281 hl (by decide) rfl (fun ls hl => ?_)
      have hl : lv_has ls 7 [(6, .int 0), (4, .int (nI kj)), (3, .int (nI k)), (2, .ref its), (1, .ref xo), (0, .ref g1)] := lv_sub hl [0, 2, 3, 4, 5, 6] rfl
      exact hE0 _ hl (by unfold gAg; omega)
    · have n_1382 : ¬ (zcnt l1 h1 l2 h2 501 ≤ 100) := fun z => c_1380 ((nI_leI (a := zcnt l1 h1 l2 h2 501) (b := 100) (by omega) (by omega)).mpr z)
      refine lv_aload_n hx hb dL_glasses_244 rfl (lv_at hl 4 rfl) ?_
      refine lv_iload_n hx hb dL_glasses_245 rfl (lv_at hl 3 rfl) ?_
      refine va_aldqA (D := D) (cl := vwCl) hx hb hK hP 0 0 rfl rfl (vp_in_nI (n := k) (N := 6) (by omega) (by omega)) dL_glasses_246 ?_
      refine W.eq (g2 := F0 m 247 ls [.ref a1]) (by rw [z_rf (k := k) (by omega) h9f]) ?_
      refine lv_iconst (v := 2) hx hb dL_glasses_247 (by decide) ?_
      refine va_iald (D := D) (cl := vwCl) hx hb hK hP 1 1 rfl rfl (vp_in_nI (n := 2) (N := 3) (by decide) (by decide)) dL_glasses_248 ?_
      refine W.eq (g2 := F0 m 249 ls [.int (nI e1)]) rfl ?_
      refine lv_aload_n hx hb dL_glasses_249 rfl (lv_at hl 4 rfl) ?_
      refine lv_iload hx hb dL_glasses_250 (lv_at hl 2 rfl) ?_
      refine va_aldqA (D := D) (cl := vwCl) hx hb hK hP 0 0 rfl rfl (vp_in_nI (n := kj) (N := 6) (by omega) (by omega)) dL_glasses_252 ?_
      refine W.eq (g2 := F0 m 253 ls [.ref a2, .int (nI e1)]) (by rw [z_rf (k := kj) (by omega) h9g]) ?_
      refine lv_iconst (v := 2) hx hb dL_glasses_253 (by decide) ?_
      refine va_iald (D := D) (cl := vwCl) hx hb hK hP 2 1 rfl rfl (vp_in_nI (n := 2) (N := 3) (by decide) (by decide)) dL_glasses_254 ?_
      refine W.eq (g2 := F0 m 255 ls [.int (nI e2), .int (nI e1)]) rfl ?_
      refine lv_isub hx hb dL_glasses_255 ?_
      refine lv_iconst (v := 5) hx hb dL_glasses_256 (by decide) ?_
      refine lv_icmp_gt (tgt := 280) hx hb dL_glasses_257 (by decide) (fun c_1383 => ?_) (fun c_1383 => ?_)
      · have n_1384 : e2 + 5 < e1 := (z_ltd (a := e1) (b := e2) (c := 5) (by omega) (by omega) (by omega)).mp c_1383
        refine lv_iconst (v := 0) hx hb dL_glasses_280 (by decide) ?_
        refine lv_istore (lv' := [(6, .int 0), (5, .int (nI (zcnt l1 h1 l2 h2 501))), (4, .int (nI kj)), (3, .int (nI k)), (2, .ref its), (1, .ref xo), (0, .ref g1)]) hx hb dL_glasses_281 hl (by decide) rfl (fun ls hl => ?_)
        have hl : lv_has ls 7 [(6, .int 0), (4, .int (nI kj)), (3, .int (nI k)), (2, .ref its), (1, .ref xo), (0, .ref g1)] := lv_sub hl [0, 2, 3, 4, 5, 6] rfl
        exact hE0 _ hl (by unfold gAg; omega)
      · have n_1385 : ¬ (e2 + 5 < e1) := fun z => c_1383 ((z_ltd (a := e1) (b := e2) (c := 5) (by omega) (by omega) (by omega)).mpr z)
        refine lv_aload_n hx hb dL_glasses_260 rfl (lv_at hl 4 rfl) ?_
        refine lv_iload hx hb dL_glasses_261 (lv_at hl 2 rfl) ?_
        refine va_aldqA (D := D) (cl := vwCl) hx hb hK hP 0 0 rfl rfl (vp_in_nI (n := kj) (N := 6) (by omega) (by omega)) dL_glasses_263 ?_
        refine W.eq (g2 := F0 m 264 ls [.ref a2]) (by rw [z_rf (k := kj) (by omega) h9g]) ?_
        refine lv_iconst (v := 2) hx hb dL_glasses_264 (by decide) ?_
        refine va_iald (D := D) (cl := vwCl) hx hb hK hP 2 1 rfl rfl (vp_in_nI (n := 2) (N := 3) (by decide) (by decide)) dL_glasses_265 ?_
        refine W.eq (g2 := F0 m 266 ls [.int (nI e2)]) rfl ?_
        refine lv_aload_n hx hb dL_glasses_266 rfl (lv_at hl 4 rfl) ?_
        refine lv_iload_n hx hb dL_glasses_267 rfl (lv_at hl 3 rfl) ?_
        refine va_aldqA (D := D) (cl := vwCl) hx hb hK hP 0 0 rfl rfl (vp_in_nI (n := k) (N := 6) (by omega) (by omega)) dL_glasses_268 ?_
        refine W.eq (g2 := F0 m 269 ls [.ref a1, .int (nI e2)]) (by rw [z_rf (k := k) (by omega) h9f]) ?_
        refine lv_iconst (v := 2) hx hb dL_glasses_269 (by decide) ?_
        refine va_iald (D := D) (cl := vwCl) hx hb hK hP 1 1 rfl rfl (vp_in_nI (n := 2) (N := 3) (by decide) (by decide)) dL_glasses_270 ?_
        refine W.eq (g2 := F0 m 271 ls [.int (nI e1), .int (nI e2)]) rfl ?_
        refine lv_isub hx hb dL_glasses_271 ?_
        refine lv_iconst (v := 5) hx hb dL_glasses_272 (by decide) ?_
        refine lv_icmp_gt (tgt := 280) hx hb dL_glasses_273 (by decide) (fun c_1386 => ?_) (fun c_1386 => ?_)
        · have n_1387 : e1 + 5 < e2 := (z_ltd (a := e2) (b := e1) (c := 5) (by omega) (by omega) (by omega)).mp c_1386
          refine lv_iconst (v := 0) hx hb dL_glasses_280 (by decide) ?_
          refine lv_istore (lv' := [(6, .int 0), (5, .int (nI (zcnt l1 h1 l2 h2 501))), (4, .int (nI kj)), (3, .int (nI k)), (2, .ref its), (1, .ref xo), (0, .ref g1)]) hx hb dL_glasses_281 hl (by decide) rfl (fun ls hl => ?_)
          have hl : lv_has ls 7 [(6, .int 0), (4, .int (nI kj)), (3, .int (nI k)), (2, .ref its), (1, .ref xo), (0, .ref g1)] := lv_sub hl [0, 2, 3, 4, 5, 6] rfl
          exact hE0 _ hl (by unfold gAg; omega)
        · have n_1388 : ¬ (e1 + 5 < e2) := fun z => c_1386 ((z_ltd (a := e2) (b := e1) (c := 5) (by omega) (by omega) (by omega)).mpr z)
          refine lv_iconst (v := 1) hx hb dL_glasses_276 (by decide) ?_
          refine lv_goto (tgt := 281) hx hb dL_glasses_277 (by decide) ?_
          refine lv_istore (lv' := [(6, .int 1), (5, .int (nI (zcnt l1 h1 l2 h2 501))), (4, .int (nI kj)), (3, .int (nI k)), (2, .ref its), (1, .ref xo), (0, .ref g1)]) hx hb dL_glasses_281 hl (by decide) rfl (fun ls hl => ?_)
          have hl : lv_has ls 7 [(6, .int 1), (4, .int (nI kj)), (3, .int (nI k)), (2, .ref its), (1, .ref xo), (0, .ref g1)] := lv_sub hl [0, 2, 3, 4, 5, 6] rfl
          exact hE1 _ hl (by unfold gAg; omega)
set_option maxHeartbeats 4000000 in
set_option maxRecDepth 100000 in
theorem zcl_1 {p : Program} {l : Launch} {e : Env} {R : Room} {s : State} {m : MethodId} {args : Array Value} {below : List Frame} {meth : Method} {c : Code} {H : Heap} {locs : List Loc} {c9 s9 : Nat} {Q : State → Prop} {D : va_G} {ls : Array Slot} (k : Nat) (kj : Nat) (l1 : Nat) (h1 : Nat) (e1 : Nat) (f : Nat → Option Nat) (its : Nat) (a1 : Nat) (xo : Nat) (g1 : Nat) (cA1 : ClassId) (ci : ClassId) (h9f : f k = some a1) (h9g : f kj = some a1) (hh_k : k ≤ 5) (hh_kj : kj ≤ 5) (hl_l1 : 600 ≤ l1) (hh_l1 : l1 ≤ 1100) (hl_h1 : 600 ≤ h1) (hh_h1 : h1 ≤ 1100) (hh_e1 : e1 ≤ 200) (hx : p.tables.exec = Jvm.exec) (hb : c.code = cL_glasses) (hK : va_K D vwCl [(cA1, .array .int), (ci, .int)] s) (hP : va_P D vwCl [(its, .inl (cA1, 6, .inr (.inr (.inr (.inr f))))), (a1, .inl (ci, 3, .inl (zi [nI l1, nI h1, nI e1])))] H) (hl : lv_has ls 7 [(4, .int (nI kj)), (3, .int (nI k)), (2, .ref its), (1, .ref xo), (0, .ref g1)]) (hE1 : ∀ ls : Array Slot, lv_has ls 7 [(6, .int 1), (4, .int (nI kj)), (3, .int (nI k)), (2, .ref its), (1, .ref xo), (0, .ref g1)] → (gAg l1 h1 e1 l1 h1 e1) → W p l e R s m args below meth c H locs c9 s9 Q (F0 m 283 ls [])) (hE0 : ∀ ls : Array Slot, lv_has ls 7 [(6, .int 0), (4, .int (nI kj)), (3, .int (nI k)), (2, .ref its), (1, .ref xo), (0, .ref g1)] → (¬ gAg l1 h1 e1 l1 h1 e1) → W p l e R s m args below meth c H locs c9 s9 Q (F0 m 283 ls [])) : W p l e R s m args below meth c H locs c9 s9 Q (F0 m 163 ls []) := by
  refine lv_iconst (v := 0) hx hb dL_glasses_163 (by decide) ?_
  refine lv_istore (lv' := [(5, .int 0), (4, .int (nI kj)), (3, .int (nI k)), (2, .ref its), (1, .ref xo), (0, .ref g1)]) hx hb dL_glasses_164 hl (by decide) rfl (fun ls hl => ?_)
  refine lv_sipush (v := 600) hx hb dL_glasses_166 (by decide) ?_
  refine lv_istore (lv' := [(6, .int 600), (5, .int 0), (4, .int (nI kj)), (3, .int (nI k)), (2, .ref its), (1, .ref xo), (0, .ref g1)]) hx hb dL_glasses_169 hl (by decide) rfl (fun ls hl => ?_)
  have hl : lv_has ls 7 [(6, .int 600), (5, .int 0), (4, .int (nI kj)), (3, .int (nI k)), (2, .ref its), (1, .ref xo), (0, .ref g1)] := lv_sub hl [0, 1, 2, 3, 4, 5, 6] rfl
  have hv9 : ([(6, .int 600), (5, .int 0), (4, .int (nI kj)), (3, .int (nI k)), (2, .ref its), (1, .ref xo), (0, .ref g1)] : List (Nat × Value)) = [(6, .int (nI (600 + 0))), (5, .int (nI (zcnt l1 h1 l1 h1 0))), (4, .int (nI kj)), (3, .int (nI k)), (2, .ref its), (1, .ref xo), (0, .ref g1)] := by
    have z_1389 : (600 : Int32) = nI (600 + 0) := (by first | rfl | exact congrArg nI (by omega) | exact congrArg nI (by simp only [zcnt]; omega) | exact congrArg nI (by simp only [zcnt]; split <;> omega) | exact congrArg nI (by simp only [zcnt]; split <;> split <;> omega) | (simp only [zcnt]; omega) | (simp only [zcnt]; split <;> omega))
    have z_1390 : (0 : Int32) = nI (zcnt l1 h1 l1 h1 0) := (by first | rfl | exact congrArg nI (by omega) | exact congrArg nI (by simp only [zcnt]; omega) | exact congrArg nI (by simp only [zcnt]; split <;> omega) | exact congrArg nI (by simp only [zcnt]; split <;> split <;> omega) | (simp only [zcnt]; omega) | (simp only [zcnt]; split <;> omega))
    first | rfl | rw [z_1389, z_1390] | rw [← z_1389, ← z_1390] | simp only [z_1389, z_1390]
  have hl : lv_has ls 7 [(6, .int (nI (600 + 0))), (5, .int (nI (zcnt l1 h1 l1 h1 0))), (4, .int (nI kj)), (3, .int (nI k)), (2, .ref its), (1, .ref xo), (0, .ref g1)] := by rw [← hv9]; exact hl
  refine z_loopR (fun (q7 : Nat) (ls : Array Slot) => lv_has ls 7 [(6, .int (nI (600 + q7))), (5, .int (nI (zcnt l1 h1 l1 h1 q7))), (4, .int (nI kj)), (3, .int (nI k)), (2, .ref its), (1, .ref xo), (0, .ref g1)]) (fun (q7 : Nat) (ls : Array Slot) => W p l e _ s m _ below meth c H locs c9 s9 _ (F0 m 171 ls [])) (501) ?_ ?_ (501) 0 (by omega) ls hl
  · intro q7 hk ih ls hl
    refine lv_iload hx hb dL_glasses_171 (lv_at hl 0 rfl) ?_
    refine lv_sipush (v := 1100) hx hb dL_glasses_173 (by decide) ?_
    refine lv_icmp_gt (tgt := 237) hx hb dL_glasses_176 (by decide) (fun cc => absurd cc (fun z => absurd ((nI_ltI (a := 1100) (b := 600 + q7) (by omega) (by omega)).mp z) (by omega))) (fun _ => ?_)
    refine lv_iload hx hb dL_glasses_179 (lv_at hl 1 rfl) ?_
    refine lv_iload hx hb dL_glasses_181 (lv_at hl 0 rfl) ?_
    refine lv_aload_n hx hb dL_glasses_183 rfl (lv_at hl 4 rfl) ?_
    refine lv_iload_n hx hb dL_glasses_184 rfl (lv_at hl 3 rfl) ?_
    refine va_aldqA (D := D) (cl := vwCl) hx hb hK hP 0 0 rfl rfl (vp_in_nI (n := k) (N := 6) (by omega) (by omega)) dL_glasses_185 ?_
    refine W.eq (g2 := F0 m 186 ls [.ref a1, .int (nI (600 + q7)), .int (nI (zcnt l1 h1 l1 h1 q7))]) (by rw [z_rf (k := k) (by omega) h9f]) ?_
    refine lv_iconst (v := 0) hx hb dL_glasses_186 (by decide) ?_
    refine va_iald (D := D) (cl := vwCl) hx hb hK hP 1 1 rfl rfl (vp_in_nI (n := 0) (N := 3) (by decide) (by decide)) dL_glasses_187 ?_
    refine W.eq (g2 := F0 m 188 ls [.int (nI l1), .int (nI (600 + q7)), .int (nI (zcnt l1 h1 l1 h1 q7))]) rfl ?_
    refine lv_icmp_lt (tgt := 227) hx hb dL_glasses_188 (by decide) (fun c_1391 => ?_) (fun c_1391 => ?_)
    · have n_1392 : 600 + q7 < l1 := (nI_ltI (a := 600 + q7) (b := l1) (by omega) (by omega)).mp c_1391
      refine lv_iconst (v := 0) hx hb dL_glasses_227 (by decide) ?_
      refine lv_iadd hx hb dL_glasses_228 ?_
      refine lv_topi (fun y_1393 ey_1393 => ?_)
      have ey_1393 : y_1393 = (nI ((zcnt l1 h1 l1 h1 q7) + 0)) := ey_1393.trans (nI_add (zcnt l1 h1 l1 h1 q7) 0)
      subst ey_1393
      refine lv_istore (lv' := [(5, .int (nI ((zcnt l1 h1 l1 h1 q7) + 0))), (6, .int (nI (600 + q7))), (4, .int (nI kj)), (3, .int (nI k)), (2, .ref its), (1, .ref xo), (0, .ref g1)]) hx hb dL_glasses_229 hl (by decide) rfl (fun ls hl => ?_)
      refine lv_iinc (v := nI ((600 + q7) + 1)) (lv' := [(6, .int (nI ((600 + q7) + 1))), (5, .int (nI ((zcnt l1 h1 l1 h1 q7) + 0))), (4, .int (nI kj)), (3, .int (nI k)), (2, .ref its), (1, .ref xo), (0, .ref g1)]) hx hb dL_glasses_231 hl (k := 1) rfl (show nI (600 + q7) + Int32.ofInt 1 = nI ((600 + q7) + 1) from nI_1 (600 + q7)) (by decide) rfl (fun ls hl => ?_)
      refine lv_goto (tgt := 171) hx hb dL_glasses_234 (by decide) ?_
      have hl : lv_has ls 7 [(6, .int (nI ((600 + q7) + 1))), (5, .int (nI ((zcnt l1 h1 l1 h1 q7) + 0))), (4, .int (nI kj)), (3, .int (nI k)), (2, .ref its), (1, .ref xo), (0, .ref g1)] := lv_sub hl [0, 1, 2, 3, 4, 5, 6] rfl
      have hv9 : ([(6, .int (nI ((600 + q7) + 1))), (5, .int (nI ((zcnt l1 h1 l1 h1 q7) + 0))), (4, .int (nI kj)), (3, .int (nI k)), (2, .ref its), (1, .ref xo), (0, .ref g1)] : List (Nat × Value)) = [(6, .int (nI (600 + (q7 + 1)))), (5, .int (nI (zcnt l1 h1 l1 h1 (q7 + 1)))), (4, .int (nI kj)), (3, .int (nI k)), (2, .ref its), (1, .ref xo), (0, .ref g1)] := by
        have z_1394 : (nI ((600 + q7) + 1) : Int32) = nI (600 + (q7 + 1)) := (by first | rfl | exact congrArg nI (by omega) | exact congrArg nI (by simp only [zcnt]; omega) | exact congrArg nI (by simp only [zcnt]; split <;> omega) | exact congrArg nI (by simp only [zcnt]; split <;> split <;> omega) | (simp only [zcnt]; omega) | (simp only [zcnt]; split <;> omega))
        have z_1395 : (nI ((zcnt l1 h1 l1 h1 q7) + 0) : Int32) = nI (zcnt l1 h1 l1 h1 (q7 + 1)) := (by first | rfl | exact congrArg nI (by omega) | exact congrArg nI (by simp only [zcnt]; omega) | exact congrArg nI (by simp only [zcnt]; split <;> omega) | exact congrArg nI (by simp only [zcnt]; split <;> split <;> omega) | (simp only [zcnt]; omega) | (simp only [zcnt]; split <;> omega))
        first | rfl | rw [z_1394, z_1395] | rw [← z_1394, ← z_1395] | simp only [z_1394, z_1395]
      have hl : lv_has ls 7 [(6, .int (nI (600 + (q7 + 1)))), (5, .int (nI (zcnt l1 h1 l1 h1 (q7 + 1)))), (4, .int (nI kj)), (3, .int (nI k)), (2, .ref its), (1, .ref xo), (0, .ref g1)] := by rw [← hv9]; exact hl
      exact ih _ hl
    · have n_1396 : ¬ (600 + q7 < l1) := fun z => c_1391 ((nI_ltI (a := 600 + q7) (b := l1) (by omega) (by omega)).mpr z)
      refine lv_iload hx hb dL_glasses_191 (lv_at hl 0 rfl) ?_
      refine lv_aload_n hx hb dL_glasses_193 rfl (lv_at hl 4 rfl) ?_
      refine lv_iload hx hb dL_glasses_194 (lv_at hl 2 rfl) ?_
      refine va_aldqA (D := D) (cl := vwCl) hx hb hK hP 0 0 rfl rfl (vp_in_nI (n := kj) (N := 6) (by omega) (by omega)) dL_glasses_196 ?_
      refine W.eq (g2 := F0 m 197 ls [.ref a1, .int (nI (600 + q7)), .int (nI (zcnt l1 h1 l1 h1 q7))]) (by rw [z_rf (k := kj) (by omega) h9g]) ?_
      refine lv_iconst (v := 0) hx hb dL_glasses_197 (by decide) ?_
      refine va_iald (D := D) (cl := vwCl) hx hb hK hP 1 1 rfl rfl (vp_in_nI (n := 0) (N := 3) (by decide) (by decide)) dL_glasses_198 ?_
      refine W.eq (g2 := F0 m 199 ls [.int (nI l1), .int (nI (600 + q7)), .int (nI (zcnt l1 h1 l1 h1 q7))]) rfl ?_
      refine lv_icmp_lt (tgt := 227) hx hb dL_glasses_199 (by decide) (fun cc => absurd cc c_1391) (fun _ => ?_)
      refine lv_iload hx hb dL_glasses_202 (lv_at hl 0 rfl) ?_
      refine lv_aload_n hx hb dL_glasses_204 rfl (lv_at hl 4 rfl) ?_
      refine lv_iload_n hx hb dL_glasses_205 rfl (lv_at hl 3 rfl) ?_
      refine va_aldqA (D := D) (cl := vwCl) hx hb hK hP 0 0 rfl rfl (vp_in_nI (n := k) (N := 6) (by omega) (by omega)) dL_glasses_206 ?_
      refine W.eq (g2 := F0 m 207 ls [.ref a1, .int (nI (600 + q7)), .int (nI (zcnt l1 h1 l1 h1 q7))]) (by rw [z_rf (k := k) (by omega) h9f]) ?_
      refine lv_iconst (v := 1) hx hb dL_glasses_207 (by decide) ?_
      refine va_iald (D := D) (cl := vwCl) hx hb hK hP 1 1 rfl rfl (vp_in_nI (n := 1) (N := 3) (by decide) (by decide)) dL_glasses_208 ?_
      refine W.eq (g2 := F0 m 209 ls [.int (nI h1), .int (nI (600 + q7)), .int (nI (zcnt l1 h1 l1 h1 q7))]) rfl ?_
      refine lv_icmp_gt (tgt := 227) hx hb dL_glasses_209 (by decide) (fun c_1397 => ?_) (fun c_1397 => ?_)
      · have n_1398 : h1 < 600 + q7 := (nI_ltI (a := h1) (b := 600 + q7) (by omega) (by omega)).mp c_1397
        refine lv_iconst (v := 0) hx hb dL_glasses_227 (by decide) ?_
        refine lv_iadd hx hb dL_glasses_228 ?_
        refine lv_topi (fun y_1399 ey_1399 => ?_)
        have ey_1399 : y_1399 = (nI ((zcnt l1 h1 l1 h1 q7) + 0)) := ey_1399.trans (nI_add (zcnt l1 h1 l1 h1 q7) 0)
        subst ey_1399
        refine lv_istore (lv' := [(5, .int (nI ((zcnt l1 h1 l1 h1 q7) + 0))), (6, .int (nI (600 + q7))), (4, .int (nI kj)), (3, .int (nI k)), (2, .ref its), (1, .ref xo), (0, .ref g1)]) hx hb dL_glasses_229 hl (by decide) rfl (fun ls hl => ?_)
        refine lv_iinc (v := nI ((600 + q7) + 1)) (lv' := [(6, .int (nI ((600 + q7) + 1))), (5, .int (nI ((zcnt l1 h1 l1 h1 q7) + 0))), (4, .int (nI kj)), (3, .int (nI k)), (2, .ref its), (1, .ref xo), (0, .ref g1)]) hx hb dL_glasses_231 hl (k := 1) rfl (show nI (600 + q7) + Int32.ofInt 1 = nI ((600 + q7) + 1) from nI_1 (600 + q7)) (by decide) rfl (fun ls hl => ?_)
        refine lv_goto (tgt := 171) hx hb dL_glasses_234 (by decide) ?_
        have hl : lv_has ls 7 [(6, .int (nI ((600 + q7) + 1))), (5, .int (nI ((zcnt l1 h1 l1 h1 q7) + 0))), (4, .int (nI kj)), (3, .int (nI k)), (2, .ref its), (1, .ref xo), (0, .ref g1)] := lv_sub hl [0, 1, 2, 3, 4, 5, 6] rfl
        have hv9 : ([(6, .int (nI ((600 + q7) + 1))), (5, .int (nI ((zcnt l1 h1 l1 h1 q7) + 0))), (4, .int (nI kj)), (3, .int (nI k)), (2, .ref its), (1, .ref xo), (0, .ref g1)] : List (Nat × Value)) = [(6, .int (nI (600 + (q7 + 1)))), (5, .int (nI (zcnt l1 h1 l1 h1 (q7 + 1)))), (4, .int (nI kj)), (3, .int (nI k)), (2, .ref its), (1, .ref xo), (0, .ref g1)] := by
          have z_1400 : (nI ((600 + q7) + 1) : Int32) = nI (600 + (q7 + 1)) := (by first | rfl | exact congrArg nI (by omega) | exact congrArg nI (by simp only [zcnt]; omega) | exact congrArg nI (by simp only [zcnt]; split <;> omega) | exact congrArg nI (by simp only [zcnt]; split <;> split <;> omega) | (simp only [zcnt]; omega) | (simp only [zcnt]; split <;> omega))
          have z_1401 : (nI ((zcnt l1 h1 l1 h1 q7) + 0) : Int32) = nI (zcnt l1 h1 l1 h1 (q7 + 1)) := (by first | rfl | exact congrArg nI (by omega) | exact congrArg nI (by simp only [zcnt]; omega) | exact congrArg nI (by simp only [zcnt]; split <;> omega) | exact congrArg nI (by simp only [zcnt]; split <;> split <;> omega) | (simp only [zcnt]; omega) | (simp only [zcnt]; split <;> omega))
          first | rfl | rw [z_1400, z_1401] | rw [← z_1400, ← z_1401] | simp only [z_1400, z_1401]
        have hl : lv_has ls 7 [(6, .int (nI (600 + (q7 + 1)))), (5, .int (nI (zcnt l1 h1 l1 h1 (q7 + 1)))), (4, .int (nI kj)), (3, .int (nI k)), (2, .ref its), (1, .ref xo), (0, .ref g1)] := by rw [← hv9]; exact hl
        exact ih _ hl
      · have n_1402 : ¬ (h1 < 600 + q7) := fun z => c_1397 ((nI_ltI (a := h1) (b := 600 + q7) (by omega) (by omega)).mpr z)
        refine lv_iload hx hb dL_glasses_212 (lv_at hl 0 rfl) ?_
        refine lv_aload_n hx hb dL_glasses_214 rfl (lv_at hl 4 rfl) ?_
        refine lv_iload hx hb dL_glasses_215 (lv_at hl 2 rfl) ?_
        refine va_aldqA (D := D) (cl := vwCl) hx hb hK hP 0 0 rfl rfl (vp_in_nI (n := kj) (N := 6) (by omega) (by omega)) dL_glasses_217 ?_
        refine W.eq (g2 := F0 m 218 ls [.ref a1, .int (nI (600 + q7)), .int (nI (zcnt l1 h1 l1 h1 q7))]) (by rw [z_rf (k := kj) (by omega) h9g]) ?_
        refine lv_iconst (v := 1) hx hb dL_glasses_218 (by decide) ?_
        refine va_iald (D := D) (cl := vwCl) hx hb hK hP 1 1 rfl rfl (vp_in_nI (n := 1) (N := 3) (by decide) (by decide)) dL_glasses_219 ?_
        refine W.eq (g2 := F0 m 220 ls [.int (nI h1), .int (nI (600 + q7)), .int (nI (zcnt l1 h1 l1 h1 q7))]) rfl ?_
        refine lv_icmp_gt (tgt := 227) hx hb dL_glasses_220 (by decide) (fun cc => absurd cc c_1397) (fun _ => ?_)
        refine lv_iconst (v := 1) hx hb dL_glasses_223 (by decide) ?_
        refine lv_goto (tgt := 228) hx hb dL_glasses_224 (by decide) ?_
        refine lv_iadd hx hb dL_glasses_228 ?_
        refine lv_topi (fun y_1403 ey_1403 => ?_)
        have ey_1403 : y_1403 = (nI ((zcnt l1 h1 l1 h1 q7) + 1)) := ey_1403.trans (nI_add (zcnt l1 h1 l1 h1 q7) 1)
        subst ey_1403
        refine lv_istore (lv' := [(5, .int (nI ((zcnt l1 h1 l1 h1 q7) + 1))), (6, .int (nI (600 + q7))), (4, .int (nI kj)), (3, .int (nI k)), (2, .ref its), (1, .ref xo), (0, .ref g1)]) hx hb dL_glasses_229 hl (by decide) rfl (fun ls hl => ?_)
        refine lv_iinc (v := nI ((600 + q7) + 1)) (lv' := [(6, .int (nI ((600 + q7) + 1))), (5, .int (nI ((zcnt l1 h1 l1 h1 q7) + 1))), (4, .int (nI kj)), (3, .int (nI k)), (2, .ref its), (1, .ref xo), (0, .ref g1)]) hx hb dL_glasses_231 hl (k := 1) rfl (show nI (600 + q7) + Int32.ofInt 1 = nI ((600 + q7) + 1) from nI_1 (600 + q7)) (by decide) rfl (fun ls hl => ?_)
        refine lv_goto (tgt := 171) hx hb dL_glasses_234 (by decide) ?_
        have hl : lv_has ls 7 [(6, .int (nI ((600 + q7) + 1))), (5, .int (nI ((zcnt l1 h1 l1 h1 q7) + 1))), (4, .int (nI kj)), (3, .int (nI k)), (2, .ref its), (1, .ref xo), (0, .ref g1)] := lv_sub hl [0, 1, 2, 3, 4, 5, 6] rfl
        have hv9 : ([(6, .int (nI ((600 + q7) + 1))), (5, .int (nI ((zcnt l1 h1 l1 h1 q7) + 1))), (4, .int (nI kj)), (3, .int (nI k)), (2, .ref its), (1, .ref xo), (0, .ref g1)] : List (Nat × Value)) = [(6, .int (nI (600 + (q7 + 1)))), (5, .int (nI (zcnt l1 h1 l1 h1 (q7 + 1)))), (4, .int (nI kj)), (3, .int (nI k)), (2, .ref its), (1, .ref xo), (0, .ref g1)] := by
          have z_1404 : (nI ((600 + q7) + 1) : Int32) = nI (600 + (q7 + 1)) := (by first | rfl | exact congrArg nI (by omega) | exact congrArg nI (by simp only [zcnt]; omega) | exact congrArg nI (by simp only [zcnt]; split <;> omega) | exact congrArg nI (by simp only [zcnt]; split <;> split <;> omega) | (simp only [zcnt]; omega) | (simp only [zcnt]; split <;> omega))
          have z_1405 : (nI ((zcnt l1 h1 l1 h1 q7) + 1) : Int32) = nI (zcnt l1 h1 l1 h1 (q7 + 1)) := (by first | rfl | exact congrArg nI (by omega) | exact congrArg nI (by simp only [zcnt]; omega) | exact congrArg nI (by simp only [zcnt]; split <;> omega) | exact congrArg nI (by simp only [zcnt]; split <;> split <;> omega) | (simp only [zcnt]; omega) | (simp only [zcnt]; split <;> omega))
          first | rfl | rw [z_1404, z_1405] | rw [← z_1404, ← z_1405] | simp only [z_1404, z_1405]
        have hl : lv_has ls 7 [(6, .int (nI (600 + (q7 + 1)))), (5, .int (nI (zcnt l1 h1 l1 h1 (q7 + 1)))), (4, .int (nI kj)), (3, .int (nI k)), (2, .ref its), (1, .ref xo), (0, .ref g1)] := by rw [← hv9]; exact hl
        exact ih _ hl
  · intro ls hl
    refine lv_iload hx hb dL_glasses_171 (lv_at hl 0 rfl) ?_
    refine lv_sipush (v := 1100) hx hb dL_glasses_173 (by decide) ?_
    refine lv_icmp_gt (tgt := 237) hx hb dL_glasses_176 (by decide) (fun _ => ?_) (fun cc => absurd ((nI_ltI (a := 1100) (b := 600 + 501) (by omega) (by omega)).mpr (by omega)) cc)
    have hz9 : zcnt l1 h1 l1 h1 501 = min (600 + 501) (min h1 h1 + 1) - max l1 l1 := zcnt_is (by omega) (by omega) 501
    refine lv_iload hx hb dL_glasses_237 (lv_at hl 1 rfl) ?_
    refine lv_bipush (v := 100) hx hb dL_glasses_239 (by decide) ?_
    refine lv_icmp_le (tgt := 280) hx hb dL_glasses_241 (by decide) (fun c_1406 => ?_) (fun c_1406 => ?_)
    · have n_1407 : zcnt l1 h1 l1 h1 501 ≤ 100 := (nI_leI (a := zcnt l1 h1 l1 h1 501) (b := 100) (by omega) (by omega)).mp c_1406
      refine lv_iconst (v := 0) hx hb dL_glasses_280 (by decide) ?_
      refine lv_istore (lv' := [(6, .int 0), (5, .int (nI (zcnt l1 h1 l1 h1 501))), (4, .int (nI kj)), (3, .int (nI k)), (2, .ref its), (1, .ref xo), (0, .ref g1)]) hx hb dL_glasses_281 hl (by decide) rfl (fun ls hl => ?_)
      have hl : lv_has ls 7 [(6, .int 0), (4, .int (nI kj)), (3, .int (nI k)), (2, .ref its), (1, .ref xo), (0, .ref g1)] := lv_sub hl [0, 2, 3, 4, 5, 6] rfl
      exact hE0 _ hl (by unfold gAg; omega)
    · have n_1408 : ¬ (zcnt l1 h1 l1 h1 501 ≤ 100) := fun z => c_1406 ((nI_leI (a := zcnt l1 h1 l1 h1 501) (b := 100) (by omega) (by omega)).mpr z)
      refine lv_aload_n hx hb dL_glasses_244 rfl (lv_at hl 4 rfl) ?_
      refine lv_iload_n hx hb dL_glasses_245 rfl (lv_at hl 3 rfl) ?_
      refine va_aldqA (D := D) (cl := vwCl) hx hb hK hP 0 0 rfl rfl (vp_in_nI (n := k) (N := 6) (by omega) (by omega)) dL_glasses_246 ?_
      refine W.eq (g2 := F0 m 247 ls [.ref a1]) (by rw [z_rf (k := k) (by omega) h9f]) ?_
      refine lv_iconst (v := 2) hx hb dL_glasses_247 (by decide) ?_
      refine va_iald (D := D) (cl := vwCl) hx hb hK hP 1 1 rfl rfl (vp_in_nI (n := 2) (N := 3) (by decide) (by decide)) dL_glasses_248 ?_
      refine W.eq (g2 := F0 m 249 ls [.int (nI e1)]) rfl ?_
      refine lv_aload_n hx hb dL_glasses_249 rfl (lv_at hl 4 rfl) ?_
      refine lv_iload hx hb dL_glasses_250 (lv_at hl 2 rfl) ?_
      refine va_aldqA (D := D) (cl := vwCl) hx hb hK hP 0 0 rfl rfl (vp_in_nI (n := kj) (N := 6) (by omega) (by omega)) dL_glasses_252 ?_
      refine W.eq (g2 := F0 m 253 ls [.ref a1, .int (nI e1)]) (by rw [z_rf (k := kj) (by omega) h9g]) ?_
      refine lv_iconst (v := 2) hx hb dL_glasses_253 (by decide) ?_
      refine va_iald (D := D) (cl := vwCl) hx hb hK hP 1 1 rfl rfl (vp_in_nI (n := 2) (N := 3) (by decide) (by decide)) dL_glasses_254 ?_
      refine W.eq (g2 := F0 m 255 ls [.int (nI e1), .int (nI e1)]) rfl ?_
      refine lv_isub hx hb dL_glasses_255 ?_
      refine lv_iconst (v := 5) hx hb dL_glasses_256 (by decide) ?_
      refine lv_icmp_gt (tgt := 280) hx hb dL_glasses_257 (by decide) (fun c_1409 => ?_) (fun c_1409 => ?_)
      · have n_1410 : e1 + 5 < e1 := (z_ltd (a := e1) (b := e1) (c := 5) (by omega) (by omega) (by omega)).mp c_1409
        refine lv_iconst (v := 0) hx hb dL_glasses_280 (by decide) ?_
        refine lv_istore (lv' := [(6, .int 0), (5, .int (nI (zcnt l1 h1 l1 h1 501))), (4, .int (nI kj)), (3, .int (nI k)), (2, .ref its), (1, .ref xo), (0, .ref g1)]) hx hb dL_glasses_281 hl (by decide) rfl (fun ls hl => ?_)
        have hl : lv_has ls 7 [(6, .int 0), (4, .int (nI kj)), (3, .int (nI k)), (2, .ref its), (1, .ref xo), (0, .ref g1)] := lv_sub hl [0, 2, 3, 4, 5, 6] rfl
        exact hE0 _ hl (by unfold gAg; omega)
      · have n_1411 : ¬ (e1 + 5 < e1) := fun z => c_1409 ((z_ltd (a := e1) (b := e1) (c := 5) (by omega) (by omega) (by omega)).mpr z)
        refine lv_aload_n hx hb dL_glasses_260 rfl (lv_at hl 4 rfl) ?_
        refine lv_iload hx hb dL_glasses_261 (lv_at hl 2 rfl) ?_
        refine va_aldqA (D := D) (cl := vwCl) hx hb hK hP 0 0 rfl rfl (vp_in_nI (n := kj) (N := 6) (by omega) (by omega)) dL_glasses_263 ?_
        refine W.eq (g2 := F0 m 264 ls [.ref a1]) (by rw [z_rf (k := kj) (by omega) h9g]) ?_
        refine lv_iconst (v := 2) hx hb dL_glasses_264 (by decide) ?_
        refine va_iald (D := D) (cl := vwCl) hx hb hK hP 1 1 rfl rfl (vp_in_nI (n := 2) (N := 3) (by decide) (by decide)) dL_glasses_265 ?_
        refine W.eq (g2 := F0 m 266 ls [.int (nI e1)]) rfl ?_
        refine lv_aload_n hx hb dL_glasses_266 rfl (lv_at hl 4 rfl) ?_
        refine lv_iload_n hx hb dL_glasses_267 rfl (lv_at hl 3 rfl) ?_
        refine va_aldqA (D := D) (cl := vwCl) hx hb hK hP 0 0 rfl rfl (vp_in_nI (n := k) (N := 6) (by omega) (by omega)) dL_glasses_268 ?_
        refine W.eq (g2 := F0 m 269 ls [.ref a1, .int (nI e1)]) (by rw [z_rf (k := k) (by omega) h9f]) ?_
        refine lv_iconst (v := 2) hx hb dL_glasses_269 (by decide) ?_
        refine va_iald (D := D) (cl := vwCl) hx hb hK hP 1 1 rfl rfl (vp_in_nI (n := 2) (N := 3) (by decide) (by decide)) dL_glasses_270 ?_
        refine W.eq (g2 := F0 m 271 ls [.int (nI e1), .int (nI e1)]) rfl ?_
        refine lv_isub hx hb dL_glasses_271 ?_
        refine lv_iconst (v := 5) hx hb dL_glasses_272 (by decide) ?_
        refine lv_icmp_gt (tgt := 280) hx hb dL_glasses_273 (by decide) (fun cc => absurd cc c_1409) (fun _ => ?_)
        refine lv_iconst (v := 1) hx hb dL_glasses_276 (by decide) ?_
        refine lv_goto (tgt := 281) hx hb dL_glasses_277 (by decide) ?_
        refine lv_istore (lv' := [(6, .int 1), (5, .int (nI (zcnt l1 h1 l1 h1 501))), (4, .int (nI kj)), (3, .int (nI k)), (2, .ref its), (1, .ref xo), (0, .ref g1)]) hx hb dL_glasses_281 hl (by decide) rfl (fun ls hl => ?_)
        have hl : lv_has ls 7 [(6, .int 1), (4, .int (nI kj)), (3, .int (nI k)), (2, .ref its), (1, .ref xo), (0, .ref g1)] := lv_sub hl [0, 2, 3, 4, 5, 6] rfl
        exact hE1 _ hl (by unfold gAg; omega)
