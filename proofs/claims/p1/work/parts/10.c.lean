theorem dL_heat_0 : decode cL_heat 0 = .ok (.aload_n 3, 1) := by decide +kernel
theorem dL_heat_1 : decode cL_heat 1 = .ok (.iconst 0, 1) := by decide +kernel
theorem dL_heat_2 : decode cL_heat 2 = .ok (.aload_n 0, 1) := by decide +kernel
theorem dL_heat_3 : decode cL_heat 3 = .ok (.iload_n 1, 1) := by decide +kernel
theorem dL_heat_4 : decode cL_heat 4 = .ok (.iload_n 2, 1) := by decide +kernel
theorem dL_heat_5 : decode cL_heat 5 = .ok (.invokevirtual 56, 3) := by decide +kernel
theorem dL_heat_13 : decode cL_heat 13 = .ok (.astore 4, 2) := by decide +kernel
theorem dL_heat_15 : decode cL_heat 15 = .ok (.iconst 1, 1) := by decide +kernel
theorem dL_heat_16 : decode cL_heat 16 = .ok (.ireturn, 1) := by decide +kernel
def wzEL_heat : List Cond := [.codeWith yL_heat cL_heat 5 (some .int) [(0, 10, 13, 21), (0, 10, 17, 13), (0, 10, 21, 41)], .methodLink RL 56 yX6_heat, .instanceMethod yX6_heat, .selects RX6 yX6_heat yX6_heat, .initialized RX6, .code yX6_heat cX6_heat 4 (some .int), .methodLink RX6 169 yX6_findPiece, .instanceMethod yX6_findPiece, .selects RX6 yX6_findPiece yX6_findPiece, .code yX6_findPiece cX6_findPiece 3 (some (.object "Gatherhouse$Piece")), .classLink RX6 365 "java/lang/IndexOutOfBoundsException", .initialized "java/lang/IndexOutOfBoundsException", .fieldLink RX6 30 "Gatherhouse" "pieces" "[LGatherhouse$Piece;", .classLink RL 21 "java/lang/IndexOutOfBoundsException"]
def wzL_heat : List Cond := wzEL_heat ++ (u_ws RX6 TX6 16 ++ ((vx_atS RX6 369 "java/lang/IndexOutOfBoundsException" ["java/lang/RuntimeException", "java/lang/Exception"]).filter goodWord))
theorem zgEL_heat : wzEL_heat.all goodWord = true := by decide +kernel
theorem zuL_heat_X6 : ∀ w ∈ u_ws RX6 TX6 16, w ∈ wzL_heat := (fun _ h => (List.mem_append_right _ (List.mem_append_left _ h)))
theorem ztL_heat_X6_369 : ∀ w ∈ (vx_atS RX6 369 "java/lang/IndexOutOfBoundsException" ["java/lang/RuntimeException", "java/lang/Exception"]).filter goodWord, w ∈ wzL_heat := (fun _ h => (List.mem_append_right _ (List.mem_append_right _ h)))
theorem gzL_heat_X6_heat_56 : GoodIn wzL_heat (wsV RL 56 RX6 yX6_heat wzX6_heat) := (goodIn_app (z_lift (goodIn_r _ [1, 2, 3, 4] rfl (by decide +kernel))) (goodIn_app (z_lift (goodIn_r wzEX6_heat [5, 6, 7, 8, 4, 9, 10, 11, 12] rfl zgEX6_heat)) (goodIn_app (goodIn_sub (fun _ h => (List.mem_append_right _ (List.mem_append_left _ h))) zgU_X6) (goodIn_sub (fun _ h => (List.mem_append_right _ (List.mem_append_right _ h))) zgV_X6_369))))
set_option maxHeartbeats 4000000 in
set_option maxRecDepth 100000 in
theorem zc_L_heat (l : Launch) (hnt : l.stackTraces = false) (D : va_G) (G : Nat × Nat × Nat) (xo : Nat) (xg : Nat) (xp : Nat) (xq : Nat) (r1 : Nat) (r2 : Nat) (r3 : Nat) (r4 : Nat) (se : Nat) (ts : Int32) (hq : Int32) (cq : ClassId) (ou : Nat) (cJ : ClassId) (ii : Int32) (jj : Int32) (sz : Nat) : vx_Met l yL_heat wzL_heat ({ frames := 8, cells := 1, slots := 6, locals := 127 }) (va_Pc [.ref xo, .int ii, .int jj, .ref ou] (p_RW D G [(cq, .object "Gatherhouse$Piece"), (cJ, .long)] [(xo, .inr (11, [.ref xg, .int 0, .ref xp, .int 0, .ref xq, .int 0, .ref r1, .ref r2, .ref r3, .ref r4, .ref se, .int ts, .int hq, .int 40, .int 0, .int 0])), (xq, .inl (cq, 16, .inr (.inr (.inr (.inr (fun _ => none)))))), (ou, .inl (cJ, 1, .inr (.inl (fun _ => 0))))] sz)) (va_Qi (fun (r : Int32) (u : Unit) => r = 1) (fun (u : Unit) (t : State) => True) (va_A [(xo, .inr (11, [.ref xg, .int 0, .ref xp, .int 0, .ref xq, .int 0, .ref r1, .ref r2, .ref r3, .ref r4, .ref se, .int ts, .int hq, .int 40, .int 0, .int 0])), (xq, .inl (cq, 16, .inr (.inr (.inr (.inr (fun _ => none)))))), (ou, .inl (cJ, 1, .inr (.inl (fun _ => 0))))] sz)) (vx_X (fun (_ : Unit) => True) (fun E (_ : Unit) (_ : State) => False) (va_A [(xo, .inr (11, [.ref xg, .int 0, .ref xp, .int 0, .ref xq, .int 0, .ref r1, .ref r2, .ref r3, .ref r4, .ref se, .int ts, .int hq, .int 40, .int 0, .int 0])), (xq, .inl (cq, 16, .inr (.inr (.inr (.inr (fun _ => none)))))), (ou, .inl (cJ, 1, .inr (.inl (fun _ => 0))))] sz)) 1 6 (va_A [(xo, .inr (11, [.ref xg, .int 0, .ref xp, .int 0, .ref xq, .int 0, .ref r1, .ref r2, .ref r3, .ref r4, .ref se, .int ts, .int hq, .int 40, .int 0, .int 0])), (xq, .inl (cq, 16, .inr (.inr (.inr (.inr (fun _ => none)))))), (ou, .inl (cJ, 1, .inr (.inl (fun _ => 0))))] sz) := by
  refine vx_ofWH (cc := cL_heat) (maxL := 5) (ret := (some .int)) (by decide) rfl ?_
  intro p e s m args below meth c s₁ B hml hv
  obtain ⟨rfl, hsz, hP, hK, hD0, hT, hZ⟩ := hv
  have hx := B.exec
  have hb := B.bytes
  have hr := B.returns
  have hts := atoms_spec (ws := wzL_heat) B.pre
  have hown : s.vm.findClass RL = some m.cls := findClass_of_methodNamed B.named
  have hlocks := B.notSynchronized
  have hxe := vx_table (x := yL_heat) B (hts _ List.mem_cons_self)
  subst hsz
  have hD := hD0.self (sz := s.heap.size)
  generalize hAe : va_A [(xo, .inr (11, [.ref xg, .int 0, .ref xp, .int 0, .ref xq, .int 0, .ref r1, .ref r2, .ref r3, .ref r4, .ref se, .int ts, .int hq, .int 40, .int 0, .int 0])), (xq, .inl (cq, 16, .inr (.inr (.inr (.inr (fun _ => none)))))), (ou, .inl (cJ, 1, .inr (.inl (fun _ => 0))))] s.heap.size = A at hD hZ ⊢
  have hA : ∀ q : Nat, s.heap.size ≤ q → A q := fun q h => by rw [← hAe]; exact Or.inr h
  have hS : va_S A s.heap s.heap [] := va_S.rf
  have hl := lv_entry ([.ref xo, .int ii, .int jj, .ref ou]) (n := 5) (Nat.le_of_ble_eq_true rfl)
  rw [lg_entry_eq]
  generalize (lg_sl ([.ref xo, .int ii, .int jj, .ref ou]) ++ List.replicate (5 - (lg_sl ([.ref xo, .int ii, .int jj, .ref ou])).length) Slot.unset).toArray = ls at hl ⊢
  have hl : lv_has ls 5 [(0, .ref xo), (1, .int ii), (2, .int jj), (3, .ref ou)] := hl
  refine lv_aload_n hx hb dL_heat_0 rfl (lv_at hl 3 rfl) ?_
  refine lv_iconst (v := 0) hx hb dL_heat_1 (by decide) ?_
  refine lv_aload_n hx hb dL_heat_2 rfl (lv_at hl 0 rfl) ?_
  refine lv_iload_n hx hb dL_heat_3 rfl (lv_at hl 1 rfl) ?_
  refine lv_iload_n hx hb dL_heat_4 rfl (lv_at hl 2 rfl) ?_
  have hFc := va_free (wc := [(xo, .inr (11, [.ref xg, .int 0, .ref xp, .int 0, .ref xq, .int 0, .ref r1, .ref r2, .ref r3, .ref r4, .ref se, .int ts, .int hq, .int 40, .int 0, .int 0])), (xq, .inl (cq, 16, .inr (.inr (.inr (.inr (fun _ => none))))))]) hD hS hA [0, 1] rfl
  refine vx_calli (vx_runV (As := [.int ii, .int jj]) (rest := [.int 0, .ref ou]) ⟨hx, hb, hml, hown, hts⟩ (zc_X6_heat l hnt D G xo xg xp xq r1 r2 r3 r4 se ts hq cq ii jj s.heap.size) (cwV 2 hts gzL_heat_X6_heat_56 rfl rfl rfl (by decide +kernel) ⟨(Nat.le_of_ble_eq_true rfl), (Nat.le_of_ble_eq_true rfl)⟩) ⟨p_RW_blind, va_recv hK hP (ci := 11) (q0 := 0) rfl rfl, (p_RW_at (tc := [(cq, .object "Gatherhouse$Piece")]) (wc := [(xo, .inr (11, [.ref xg, .int 0, .ref xp, .int 0, .ref xq, .int 0, .ref r1, .ref r2, .ref r3, .ref r4, .ref se, .int ts, .int hq, .int 40, .int 0, .int 0])), (xq, .inl (cq, 16, .inr (.inr (.inr (.inr (fun _ => none))))))]) hP hK hD hS hA hT hZ [0, 1] [0] rfl rfl (by decide) rfl [.ref xo, .int ii, .int jj])⟩ rfl rfl hl.1 rfl (lv_room (Nat.le_of_ble_eq_true rfl)) dL_heat_5 ⟨(Nat.le_of_ble_eq_true rfl), (Nat.le_of_ble_eq_true rfl)⟩) hS (fun q _ h => hFc q h) hFc (fun q _ h => hFc q h) (fun E ce q9 u t H locs ht hvm hpx hBX hz1 hk1 hS hce hcv hcl => ?_) (fun r_709 u t H locs ht hvm w_710 hB hz1 hk1 hS => ?_)
  · have hBX : (E = "java/lang/IndexOutOfBoundsException") := hBX
    rcases hBX with rfl
    refine vx_catch (own := RL) (name := "java/lang/IndexOutOfBoundsException") hown ([] : List ExceptionTableEntry) ⟨0, 10, 13, 21⟩ ([⟨0, 10, 17, 13⟩, ⟨0, 10, 21, 41⟩] : List ExceptionTableEntry) (by rw [hxe]; rfl) (fun _ h => absurd h List.not_mem_nil) (by decide) (by decide) (hts (.classLink RL 21 "java/lang/IndexOutOfBoundsException") (by decide +kernel)) (va_Nw.use rfl (hT.2.2.1 ("java/lang/IndexOutOfBoundsException", "java/lang/IndexOutOfBoundsException") (by decide +kernel))) hce hcv hcl ?_
    refine W.eq (g2 := F0 m 13 ls [.ref q9]) rfl ?_
    refine lv_astore (lv' := [(4, .ref q9), (0, .ref xo), (1, .int ii), (2, .int jj), (3, .ref ou)]) hx hb dL_heat_13 hl (by decide) rfl (fun ls hl => ?_)
    refine lv_iconst (v := 1) hx hb dL_heat_15 (by decide) ?_
    refine vx_ret ?_
    exact W.iret (v := 1) hx hb hr (fun t ht hW => ⟨⟨1, (), rfl, rfl, trivial⟩, hS.F ht⟩) hS.2.2 dL_heat_16
  · exact w_710.elim
theorem dL_blow_0 : decode cL_blow 0 = .ok (.aload 4, 2) := by decide +kernel
theorem dL_blow_2 : decode cL_blow 2 = .ok (.iconst 0, 1) := by decide +kernel
theorem dL_blow_3 : decode cL_blow 3 = .ok (.aload_n 0, 1) := by decide +kernel
theorem dL_blow_4 : decode cL_blow 4 = .ok (.iload_n 1, 1) := by decide +kernel
theorem dL_blow_5 : decode cL_blow 5 = .ok (.iload_n 2, 1) := by decide +kernel
theorem dL_blow_6 : decode cL_blow 6 = .ok (.iload_n 3, 1) := by decide +kernel
theorem dL_blow_7 : decode cL_blow 7 = .ok (.invokevirtual 59, 3) := by decide +kernel
theorem dL_blow_15 : decode cL_blow 15 = .ok (.astore 5, 2) := by decide +kernel
theorem dL_blow_17 : decode cL_blow 17 = .ok (.iconst 1, 1) := by decide +kernel
theorem dL_blow_18 : decode cL_blow 18 = .ok (.ireturn, 1) := by decide +kernel
def wzEL_blow : List Cond := [.codeWith yL_blow cL_blow 6 (some .int) [(0, 12, 15, 21), (0, 12, 19, 13), (0, 12, 23, 41)], .methodLink RL 59 yX6_blow, .instanceMethod yX6_blow, .selects RX6 yX6_blow yX6_blow, .initialized RX6, .code yX6_blow cX6_blow 7 (some .int), .methodLink RX6 169 yX6_findPiece, .instanceMethod yX6_findPiece, .selects RX6 yX6_findPiece yX6_findPiece, .code yX6_findPiece cX6_findPiece 3 (some (.object "Gatherhouse$Piece")), .classLink RX6 365 "java/lang/IndexOutOfBoundsException", .initialized "java/lang/IndexOutOfBoundsException", .fieldLink RX6 30 "Gatherhouse" "pieces" "[LGatherhouse$Piece;", .classLink RL 21 "java/lang/IndexOutOfBoundsException"]
def wzL_blow : List Cond := wzEL_blow ++ (u_ws RX6 TX6 16 ++ ((vx_atS RX6 369 "java/lang/IndexOutOfBoundsException" ["java/lang/RuntimeException", "java/lang/Exception"]).filter goodWord))
theorem zgEL_blow : wzEL_blow.all goodWord = true := by decide +kernel
theorem zuL_blow_X6 : ∀ w ∈ u_ws RX6 TX6 16, w ∈ wzL_blow := (fun _ h => (List.mem_append_right _ (List.mem_append_left _ h)))
theorem ztL_blow_X6_369 : ∀ w ∈ (vx_atS RX6 369 "java/lang/IndexOutOfBoundsException" ["java/lang/RuntimeException", "java/lang/Exception"]).filter goodWord, w ∈ wzL_blow := (fun _ h => (List.mem_append_right _ (List.mem_append_right _ h)))
theorem gzL_blow_X6_blow_59 : GoodIn wzL_blow (wsV RL 59 RX6 yX6_blow wzX6_blow) := (goodIn_app (z_lift (goodIn_r _ [1, 2, 3, 4] rfl (by decide +kernel))) (goodIn_app (z_lift (goodIn_r wzEX6_blow [5, 6, 7, 8, 4, 9, 10, 11, 12] rfl zgEX6_blow)) (goodIn_app (goodIn_sub (fun _ h => (List.mem_append_right _ (List.mem_append_left _ h))) zgU_X6) (goodIn_sub (fun _ h => (List.mem_append_right _ (List.mem_append_right _ h))) zgV_X6_369))))
set_option maxHeartbeats 4000000 in
set_option maxRecDepth 100000 in
theorem zc_L_blow (l : Launch) (hnt : l.stackTraces = false) (D : va_G) (G : Nat × Nat × Nat) (xo : Nat) (xg : Nat) (xp : Nat) (xq : Nat) (r1 : Nat) (r2 : Nat) (r3 : Nat) (r4 : Nat) (se : Nat) (ts : Int32) (hq : Int32) (cq : ClassId) (ou : Nat) (cJ : ClassId) (ii : Int32) (jj : Int32) (kk : Int32) (sz : Nat) : vx_Met l yL_blow wzL_blow ({ frames := 8, cells := 1, slots := 6, locals := 130 }) (va_Pc [.ref xo, .int ii, .int jj, .int kk, .ref ou] (p_RW D G [(cq, .object "Gatherhouse$Piece"), (cJ, .long)] [(xo, .inr (11, [.ref xg, .int 0, .ref xp, .int 0, .ref xq, .int 0, .ref r1, .ref r2, .ref r3, .ref r4, .ref se, .int ts, .int hq, .int 40, .int 0, .int 0])), (xq, .inl (cq, 16, .inr (.inr (.inr (.inr (fun _ => none)))))), (ou, .inl (cJ, 1, .inr (.inl (fun _ => 0))))] sz)) (va_Qi (fun (r : Int32) (u : Unit) => r = 1) (fun (u : Unit) (t : State) => True) (va_A [(xo, .inr (11, [.ref xg, .int 0, .ref xp, .int 0, .ref xq, .int 0, .ref r1, .ref r2, .ref r3, .ref r4, .ref se, .int ts, .int hq, .int 40, .int 0, .int 0])), (xq, .inl (cq, 16, .inr (.inr (.inr (.inr (fun _ => none)))))), (ou, .inl (cJ, 1, .inr (.inl (fun _ => 0))))] sz)) (vx_X (fun (_ : Unit) => True) (fun E (_ : Unit) (_ : State) => False) (va_A [(xo, .inr (11, [.ref xg, .int 0, .ref xp, .int 0, .ref xq, .int 0, .ref r1, .ref r2, .ref r3, .ref r4, .ref se, .int ts, .int hq, .int 40, .int 0, .int 0])), (xq, .inl (cq, 16, .inr (.inr (.inr (.inr (fun _ => none)))))), (ou, .inl (cJ, 1, .inr (.inl (fun _ => 0))))] sz)) 1 6 (va_A [(xo, .inr (11, [.ref xg, .int 0, .ref xp, .int 0, .ref xq, .int 0, .ref r1, .ref r2, .ref r3, .ref r4, .ref se, .int ts, .int hq, .int 40, .int 0, .int 0])), (xq, .inl (cq, 16, .inr (.inr (.inr (.inr (fun _ => none)))))), (ou, .inl (cJ, 1, .inr (.inl (fun _ => 0))))] sz) := by
  refine vx_ofWH (cc := cL_blow) (maxL := 6) (ret := (some .int)) (by decide) rfl ?_
  intro p e s m args below meth c s₁ B hml hv
  obtain ⟨rfl, hsz, hP, hK, hD0, hT, hZ⟩ := hv
  have hx := B.exec
  have hb := B.bytes
  have hr := B.returns
  have hts := atoms_spec (ws := wzL_blow) B.pre
  have hown : s.vm.findClass RL = some m.cls := findClass_of_methodNamed B.named
  have hlocks := B.notSynchronized
  have hxe := vx_table (x := yL_blow) B (hts _ List.mem_cons_self)
  subst hsz
  have hD := hD0.self (sz := s.heap.size)
  generalize hAe : va_A [(xo, .inr (11, [.ref xg, .int 0, .ref xp, .int 0, .ref xq, .int 0, .ref r1, .ref r2, .ref r3, .ref r4, .ref se, .int ts, .int hq, .int 40, .int 0, .int 0])), (xq, .inl (cq, 16, .inr (.inr (.inr (.inr (fun _ => none)))))), (ou, .inl (cJ, 1, .inr (.inl (fun _ => 0))))] s.heap.size = A at hD hZ ⊢
  have hA : ∀ q : Nat, s.heap.size ≤ q → A q := fun q h => by rw [← hAe]; exact Or.inr h
  have hS : va_S A s.heap s.heap [] := va_S.rf
  have hl := lv_entry ([.ref xo, .int ii, .int jj, .int kk, .ref ou]) (n := 6) (Nat.le_of_ble_eq_true rfl)
  rw [lg_entry_eq]
  generalize (lg_sl ([.ref xo, .int ii, .int jj, .int kk, .ref ou]) ++ List.replicate (6 - (lg_sl ([.ref xo, .int ii, .int jj, .int kk, .ref ou])).length) Slot.unset).toArray = ls at hl ⊢
  have hl : lv_has ls 6 [(0, .ref xo), (1, .int ii), (2, .int jj), (3, .int kk), (4, .ref ou)] := hl
  refine lv_aload hx hb dL_blow_0 (lv_at hl 4 rfl) ?_
  refine lv_iconst (v := 0) hx hb dL_blow_2 (by decide) ?_
  refine lv_aload_n hx hb dL_blow_3 rfl (lv_at hl 0 rfl) ?_
  refine lv_iload_n hx hb dL_blow_4 rfl (lv_at hl 1 rfl) ?_
  refine lv_iload_n hx hb dL_blow_5 rfl (lv_at hl 2 rfl) ?_
  refine lv_iload_n hx hb dL_blow_6 rfl (lv_at hl 3 rfl) ?_
  have hFc := va_free (wc := [(xo, .inr (11, [.ref xg, .int 0, .ref xp, .int 0, .ref xq, .int 0, .ref r1, .ref r2, .ref r3, .ref r4, .ref se, .int ts, .int hq, .int 40, .int 0, .int 0])), (xq, .inl (cq, 16, .inr (.inr (.inr (.inr (fun _ => none))))))]) hD hS hA [0, 1] rfl
  refine vx_calli (vx_runV (As := [.int ii, .int jj, .int kk]) (rest := [.int 0, .ref ou]) ⟨hx, hb, hml, hown, hts⟩ (zc_X6_blow l hnt D G xo xg xp xq r1 r2 r3 r4 se ts hq cq ii jj kk s.heap.size) (cwV 3 hts gzL_blow_X6_blow_59 rfl rfl rfl (by decide +kernel) ⟨(Nat.le_of_ble_eq_true rfl), (Nat.le_of_ble_eq_true rfl)⟩) ⟨p_RW_blind, va_recv hK hP (ci := 11) (q0 := 0) rfl rfl, (p_RW_at (tc := [(cq, .object "Gatherhouse$Piece")]) (wc := [(xo, .inr (11, [.ref xg, .int 0, .ref xp, .int 0, .ref xq, .int 0, .ref r1, .ref r2, .ref r3, .ref r4, .ref se, .int ts, .int hq, .int 40, .int 0, .int 0])), (xq, .inl (cq, 16, .inr (.inr (.inr (.inr (fun _ => none))))))]) hP hK hD hS hA hT hZ [0, 1] [0] rfl rfl (by decide) rfl [.ref xo, .int ii, .int jj, .int kk])⟩ rfl rfl hl.1 rfl (lv_room (Nat.le_of_ble_eq_true rfl)) dL_blow_7 ⟨(Nat.le_of_ble_eq_true rfl), (Nat.le_of_ble_eq_true rfl)⟩) hS (fun q _ h => hFc q h) hFc (fun q _ h => hFc q h) (fun E ce q9 u t H locs ht hvm hpx hBX hz1 hk1 hS hce hcv hcl => ?_) (fun r_711 u t H locs ht hvm w_712 hB hz1 hk1 hS => ?_)
  · have hBX : (E = "java/lang/IndexOutOfBoundsException") := hBX
    rcases hBX with rfl
    refine vx_catch (own := RL) (name := "java/lang/IndexOutOfBoundsException") hown ([] : List ExceptionTableEntry) ⟨0, 12, 15, 21⟩ ([⟨0, 12, 19, 13⟩, ⟨0, 12, 23, 41⟩] : List ExceptionTableEntry) (by rw [hxe]; rfl) (fun _ h => absurd h List.not_mem_nil) (by decide) (by decide) (hts (.classLink RL 21 "java/lang/IndexOutOfBoundsException") (by decide +kernel)) (va_Nw.use rfl (hT.2.2.1 ("java/lang/IndexOutOfBoundsException", "java/lang/IndexOutOfBoundsException") (by decide +kernel))) hce hcv hcl ?_
    refine W.eq (g2 := F0 m 15 ls [.ref q9]) rfl ?_
    refine lv_astore (lv' := [(5, .ref q9), (0, .ref xo), (1, .int ii), (2, .int jj), (3, .int kk), (4, .ref ou)]) hx hb dL_blow_15 hl (by decide) rfl (fun ls hl => ?_)
    refine lv_iconst (v := 1) hx hb dL_blow_17 (by decide) ?_
    refine vx_ret ?_
    exact W.iret (v := 1) hx hb hr (fun t ht hW => ⟨⟨1, (), rfl, rfl, trivial⟩, hS.F ht⟩) hS.2.2 dL_blow_18
  · exact w_712.elim
theorem dL_swing_0 : decode cL_swing 0 = .ok (.aload 4, 2) := by decide +kernel
theorem dL_swing_2 : decode cL_swing 2 = .ok (.iconst 0, 1) := by decide +kernel
theorem dL_swing_3 : decode cL_swing 3 = .ok (.aload_n 0, 1) := by decide +kernel
theorem dL_swing_4 : decode cL_swing 4 = .ok (.iload_n 1, 1) := by decide +kernel
theorem dL_swing_5 : decode cL_swing 5 = .ok (.iload_n 2, 1) := by decide +kernel
theorem dL_swing_6 : decode cL_swing 6 = .ok (.iload_n 3, 1) := by decide +kernel
theorem dL_swing_7 : decode cL_swing 7 = .ok (.invokevirtual 63, 3) := by decide +kernel
theorem dL_swing_15 : decode cL_swing 15 = .ok (.astore 5, 2) := by decide +kernel
theorem dL_swing_17 : decode cL_swing 17 = .ok (.iconst 1, 1) := by decide +kernel
theorem dL_swing_18 : decode cL_swing 18 = .ok (.ireturn, 1) := by decide +kernel
def wzEL_swing : List Cond := [.codeWith yL_swing cL_swing 6 (some .int) [(0, 12, 15, 21), (0, 12, 19, 13), (0, 12, 23, 41)], .methodLink RL 63 yX6_swing, .instanceMethod yX6_swing, .selects RX6 yX6_swing yX6_swing, .initialized RX6, .code yX6_swing cX6_swing 7 (some .int), .methodLink RX6 169 yX6_findPiece, .instanceMethod yX6_findPiece, .selects RX6 yX6_findPiece yX6_findPiece, .code yX6_findPiece cX6_findPiece 3 (some (.object "Gatherhouse$Piece")), .classLink RX6 365 "java/lang/IndexOutOfBoundsException", .initialized "java/lang/IndexOutOfBoundsException", .fieldLink RX6 30 "Gatherhouse" "pieces" "[LGatherhouse$Piece;", .classLink RL 21 "java/lang/IndexOutOfBoundsException"]
def wzL_swing : List Cond := wzEL_swing ++ (u_ws RX6 TX6 16 ++ ((vx_atS RX6 369 "java/lang/IndexOutOfBoundsException" ["java/lang/RuntimeException", "java/lang/Exception"]).filter goodWord))
theorem zgEL_swing : wzEL_swing.all goodWord = true := by decide +kernel
theorem zuL_swing_X6 : ∀ w ∈ u_ws RX6 TX6 16, w ∈ wzL_swing := (fun _ h => (List.mem_append_right _ (List.mem_append_left _ h)))
theorem ztL_swing_X6_369 : ∀ w ∈ (vx_atS RX6 369 "java/lang/IndexOutOfBoundsException" ["java/lang/RuntimeException", "java/lang/Exception"]).filter goodWord, w ∈ wzL_swing := (fun _ h => (List.mem_append_right _ (List.mem_append_right _ h)))
theorem gzL_swing_X6_swing_63 : GoodIn wzL_swing (wsV RL 63 RX6 yX6_swing wzX6_swing) := (goodIn_app (z_lift (goodIn_r _ [1, 2, 3, 4] rfl (by decide +kernel))) (goodIn_app (z_lift (goodIn_r wzEX6_swing [5, 6, 7, 8, 4, 9, 10, 11, 12] rfl zgEX6_swing)) (goodIn_app (goodIn_sub (fun _ h => (List.mem_append_right _ (List.mem_append_left _ h))) zgU_X6) (goodIn_sub (fun _ h => (List.mem_append_right _ (List.mem_append_right _ h))) zgV_X6_369))))
set_option maxHeartbeats 4000000 in
set_option maxRecDepth 100000 in
theorem zc_L_swing (l : Launch) (hnt : l.stackTraces = false) (D : va_G) (G : Nat × Nat × Nat) (xo : Nat) (xg : Nat) (xp : Nat) (xq : Nat) (r1 : Nat) (r2 : Nat) (r3 : Nat) (r4 : Nat) (se : Nat) (ts : Int32) (hq : Int32) (cq : ClassId) (ou : Nat) (cJ : ClassId) (ii : Int32) (jj : Int32) (kk : Int32) (sz : Nat) : vx_Met l yL_swing wzL_swing ({ frames := 8, cells := 1, slots := 6, locals := 130 }) (va_Pc [.ref xo, .int ii, .int jj, .int kk, .ref ou] (p_RW D G [(cq, .object "Gatherhouse$Piece"), (cJ, .long)] [(xo, .inr (11, [.ref xg, .int 0, .ref xp, .int 0, .ref xq, .int 0, .ref r1, .ref r2, .ref r3, .ref r4, .ref se, .int ts, .int hq, .int 40, .int 0, .int 0])), (xq, .inl (cq, 16, .inr (.inr (.inr (.inr (fun _ => none)))))), (ou, .inl (cJ, 1, .inr (.inl (fun _ => 0))))] sz)) (va_Qi (fun (r : Int32) (u : Unit) => r = 1) (fun (u : Unit) (t : State) => True) (va_A [(xo, .inr (11, [.ref xg, .int 0, .ref xp, .int 0, .ref xq, .int 0, .ref r1, .ref r2, .ref r3, .ref r4, .ref se, .int ts, .int hq, .int 40, .int 0, .int 0])), (xq, .inl (cq, 16, .inr (.inr (.inr (.inr (fun _ => none)))))), (ou, .inl (cJ, 1, .inr (.inl (fun _ => 0))))] sz)) (vx_X (fun (_ : Unit) => True) (fun E (_ : Unit) (_ : State) => False) (va_A [(xo, .inr (11, [.ref xg, .int 0, .ref xp, .int 0, .ref xq, .int 0, .ref r1, .ref r2, .ref r3, .ref r4, .ref se, .int ts, .int hq, .int 40, .int 0, .int 0])), (xq, .inl (cq, 16, .inr (.inr (.inr (.inr (fun _ => none)))))), (ou, .inl (cJ, 1, .inr (.inl (fun _ => 0))))] sz)) 1 6 (va_A [(xo, .inr (11, [.ref xg, .int 0, .ref xp, .int 0, .ref xq, .int 0, .ref r1, .ref r2, .ref r3, .ref r4, .ref se, .int ts, .int hq, .int 40, .int 0, .int 0])), (xq, .inl (cq, 16, .inr (.inr (.inr (.inr (fun _ => none)))))), (ou, .inl (cJ, 1, .inr (.inl (fun _ => 0))))] sz) := by
  refine vx_ofWH (cc := cL_swing) (maxL := 6) (ret := (some .int)) (by decide) rfl ?_
  intro p e s m args below meth c s₁ B hml hv
  obtain ⟨rfl, hsz, hP, hK, hD0, hT, hZ⟩ := hv
  have hx := B.exec
  have hb := B.bytes
  have hr := B.returns
  have hts := atoms_spec (ws := wzL_swing) B.pre
  have hown : s.vm.findClass RL = some m.cls := findClass_of_methodNamed B.named
  have hlocks := B.notSynchronized
  have hxe := vx_table (x := yL_swing) B (hts _ List.mem_cons_self)
  subst hsz
  have hD := hD0.self (sz := s.heap.size)
  generalize hAe : va_A [(xo, .inr (11, [.ref xg, .int 0, .ref xp, .int 0, .ref xq, .int 0, .ref r1, .ref r2, .ref r3, .ref r4, .ref se, .int ts, .int hq, .int 40, .int 0, .int 0])), (xq, .inl (cq, 16, .inr (.inr (.inr (.inr (fun _ => none)))))), (ou, .inl (cJ, 1, .inr (.inl (fun _ => 0))))] s.heap.size = A at hD hZ ⊢
  have hA : ∀ q : Nat, s.heap.size ≤ q → A q := fun q h => by rw [← hAe]; exact Or.inr h
  have hS : va_S A s.heap s.heap [] := va_S.rf
  have hl := lv_entry ([.ref xo, .int ii, .int jj, .int kk, .ref ou]) (n := 6) (Nat.le_of_ble_eq_true rfl)
  rw [lg_entry_eq]
  generalize (lg_sl ([.ref xo, .int ii, .int jj, .int kk, .ref ou]) ++ List.replicate (6 - (lg_sl ([.ref xo, .int ii, .int jj, .int kk, .ref ou])).length) Slot.unset).toArray = ls at hl ⊢
  have hl : lv_has ls 6 [(0, .ref xo), (1, .int ii), (2, .int jj), (3, .int kk), (4, .ref ou)] := hl
  refine lv_aload hx hb dL_swing_0 (lv_at hl 4 rfl) ?_
  refine lv_iconst (v := 0) hx hb dL_swing_2 (by decide) ?_
  refine lv_aload_n hx hb dL_swing_3 rfl (lv_at hl 0 rfl) ?_
  refine lv_iload_n hx hb dL_swing_4 rfl (lv_at hl 1 rfl) ?_
  refine lv_iload_n hx hb dL_swing_5 rfl (lv_at hl 2 rfl) ?_
  refine lv_iload_n hx hb dL_swing_6 rfl (lv_at hl 3 rfl) ?_
  have hFc := va_free (wc := [(xo, .inr (11, [.ref xg, .int 0, .ref xp, .int 0, .ref xq, .int 0, .ref r1, .ref r2, .ref r3, .ref r4, .ref se, .int ts, .int hq, .int 40, .int 0, .int 0])), (xq, .inl (cq, 16, .inr (.inr (.inr (.inr (fun _ => none))))))]) hD hS hA [0, 1] rfl
  refine vx_calli (vx_runV (As := [.int ii, .int jj, .int kk]) (rest := [.int 0, .ref ou]) ⟨hx, hb, hml, hown, hts⟩ (zc_X6_swing l hnt D G xo xg xp xq r1 r2 r3 r4 se ts hq cq ii jj kk s.heap.size) (cwV 3 hts gzL_swing_X6_swing_63 rfl rfl rfl (by decide +kernel) ⟨(Nat.le_of_ble_eq_true rfl), (Nat.le_of_ble_eq_true rfl)⟩) ⟨p_RW_blind, va_recv hK hP (ci := 11) (q0 := 0) rfl rfl, (p_RW_at (tc := [(cq, .object "Gatherhouse$Piece")]) (wc := [(xo, .inr (11, [.ref xg, .int 0, .ref xp, .int 0, .ref xq, .int 0, .ref r1, .ref r2, .ref r3, .ref r4, .ref se, .int ts, .int hq, .int 40, .int 0, .int 0])), (xq, .inl (cq, 16, .inr (.inr (.inr (.inr (fun _ => none))))))]) hP hK hD hS hA hT hZ [0, 1] [0] rfl rfl (by decide) rfl [.ref xo, .int ii, .int jj, .int kk])⟩ rfl rfl hl.1 rfl (lv_room (Nat.le_of_ble_eq_true rfl)) dL_swing_7 ⟨(Nat.le_of_ble_eq_true rfl), (Nat.le_of_ble_eq_true rfl)⟩) hS (fun q _ h => hFc q h) hFc (fun q _ h => hFc q h) (fun E ce q9 u t H locs ht hvm hpx hBX hz1 hk1 hS hce hcv hcl => ?_) (fun r_713 u t H locs ht hvm w_714 hB hz1 hk1 hS => ?_)
  · have hBX : (E = "java/lang/IndexOutOfBoundsException") := hBX
    rcases hBX with rfl
    refine vx_catch (own := RL) (name := "java/lang/IndexOutOfBoundsException") hown ([] : List ExceptionTableEntry) ⟨0, 12, 15, 21⟩ ([⟨0, 12, 19, 13⟩, ⟨0, 12, 23, 41⟩] : List ExceptionTableEntry) (by rw [hxe]; rfl) (fun _ h => absurd h List.not_mem_nil) (by decide) (by decide) (hts (.classLink RL 21 "java/lang/IndexOutOfBoundsException") (by decide +kernel)) (va_Nw.use rfl (hT.2.2.1 ("java/lang/IndexOutOfBoundsException", "java/lang/IndexOutOfBoundsException") (by decide +kernel))) hce hcv hcl ?_
    refine W.eq (g2 := F0 m 15 ls [.ref q9]) rfl ?_
    refine lv_astore (lv' := [(5, .ref q9), (0, .ref xo), (1, .int ii), (2, .int jj), (3, .int kk), (4, .ref ou)]) hx hb dL_swing_15 hl (by decide) rfl (fun ls hl => ?_)
    refine lv_iconst (v := 1) hx hb dL_swing_17 (by decide) ?_
    refine vx_ret ?_
    exact W.iret (v := 1) hx hb hr (fun t ht hW => ⟨⟨1, (), rfl, rfl, trivial⟩, hS.F ht⟩) hS.2.2 dL_swing_18
  · exact w_714.elim
theorem dL_neck_0 : decode cL_neck 0 = .ok (.aload 4, 2) := by decide +kernel
theorem dL_neck_2 : decode cL_neck 2 = .ok (.iconst 0, 1) := by decide +kernel
theorem dL_neck_3 : decode cL_neck 3 = .ok (.aload_n 0, 1) := by decide +kernel
theorem dL_neck_4 : decode cL_neck 4 = .ok (.iload_n 1, 1) := by decide +kernel
theorem dL_neck_5 : decode cL_neck 5 = .ok (.iload_n 2, 1) := by decide +kernel
theorem dL_neck_6 : decode cL_neck 6 = .ok (.iload_n 3, 1) := by decide +kernel
theorem dL_neck_7 : decode cL_neck 7 = .ok (.invokevirtual 66, 3) := by decide +kernel
theorem dL_neck_15 : decode cL_neck 15 = .ok (.astore 5, 2) := by decide +kernel
theorem dL_neck_17 : decode cL_neck 17 = .ok (.iconst 1, 1) := by decide +kernel
theorem dL_neck_18 : decode cL_neck 18 = .ok (.ireturn, 1) := by decide +kernel
def wzEL_neck : List Cond := [.codeWith yL_neck cL_neck 6 (some .int) [(0, 12, 15, 21), (0, 12, 19, 13), (0, 12, 23, 41)], .methodLink RL 66 yX6_neck, .instanceMethod yX6_neck, .selects RX6 yX6_neck yX6_neck, .initialized RX6, .code yX6_neck cX6_neck 7 (some .int), .methodLink RX6 169 yX6_findPiece, .instanceMethod yX6_findPiece, .selects RX6 yX6_findPiece yX6_findPiece, .code yX6_findPiece cX6_findPiece 3 (some (.object "Gatherhouse$Piece")), .classLink RX6 365 "java/lang/IndexOutOfBoundsException", .initialized "java/lang/IndexOutOfBoundsException", .fieldLink RX6 30 "Gatherhouse" "pieces" "[LGatherhouse$Piece;", .classLink RL 21 "java/lang/IndexOutOfBoundsException"]
def wzL_neck : List Cond := wzEL_neck ++ (u_ws RX6 TX6 16 ++ ((vx_atS RX6 369 "java/lang/IndexOutOfBoundsException" ["java/lang/RuntimeException", "java/lang/Exception"]).filter goodWord))
theorem zgEL_neck : wzEL_neck.all goodWord = true := by decide +kernel
theorem zuL_neck_X6 : ∀ w ∈ u_ws RX6 TX6 16, w ∈ wzL_neck := (fun _ h => (List.mem_append_right _ (List.mem_append_left _ h)))
theorem ztL_neck_X6_369 : ∀ w ∈ (vx_atS RX6 369 "java/lang/IndexOutOfBoundsException" ["java/lang/RuntimeException", "java/lang/Exception"]).filter goodWord, w ∈ wzL_neck := (fun _ h => (List.mem_append_right _ (List.mem_append_right _ h)))
theorem gzL_neck_X6_neck_66 : GoodIn wzL_neck (wsV RL 66 RX6 yX6_neck wzX6_neck) := (goodIn_app (z_lift (goodIn_r _ [1, 2, 3, 4] rfl (by decide +kernel))) (goodIn_app (z_lift (goodIn_r wzEX6_neck [5, 6, 7, 8, 4, 9, 10, 11, 12] rfl zgEX6_neck)) (goodIn_app (goodIn_sub (fun _ h => (List.mem_append_right _ (List.mem_append_left _ h))) zgU_X6) (goodIn_sub (fun _ h => (List.mem_append_right _ (List.mem_append_right _ h))) zgV_X6_369))))
set_option maxHeartbeats 4000000 in
set_option maxRecDepth 100000 in
theorem zc_L_neck (l : Launch) (hnt : l.stackTraces = false) (D : va_G) (G : Nat × Nat × Nat) (xo : Nat) (xg : Nat) (xp : Nat) (xq : Nat) (r1 : Nat) (r2 : Nat) (r3 : Nat) (r4 : Nat) (se : Nat) (ts : Int32) (hq : Int32) (cq : ClassId) (ou : Nat) (cJ : ClassId) (ii : Int32) (jj : Int32) (kk : Int32) (sz : Nat) : vx_Met l yL_neck wzL_neck ({ frames := 8, cells := 1, slots := 6, locals := 130 }) (va_Pc [.ref xo, .int ii, .int jj, .int kk, .ref ou] (p_RW D G [(cq, .object "Gatherhouse$Piece"), (cJ, .long)] [(xo, .inr (11, [.ref xg, .int 0, .ref xp, .int 0, .ref xq, .int 0, .ref r1, .ref r2, .ref r3, .ref r4, .ref se, .int ts, .int hq, .int 40, .int 0, .int 0])), (xq, .inl (cq, 16, .inr (.inr (.inr (.inr (fun _ => none)))))), (ou, .inl (cJ, 1, .inr (.inl (fun _ => 0))))] sz)) (va_Qi (fun (r : Int32) (u : Unit) => r = 1) (fun (u : Unit) (t : State) => True) (va_A [(xo, .inr (11, [.ref xg, .int 0, .ref xp, .int 0, .ref xq, .int 0, .ref r1, .ref r2, .ref r3, .ref r4, .ref se, .int ts, .int hq, .int 40, .int 0, .int 0])), (xq, .inl (cq, 16, .inr (.inr (.inr (.inr (fun _ => none)))))), (ou, .inl (cJ, 1, .inr (.inl (fun _ => 0))))] sz)) (vx_X (fun (_ : Unit) => True) (fun E (_ : Unit) (_ : State) => False) (va_A [(xo, .inr (11, [.ref xg, .int 0, .ref xp, .int 0, .ref xq, .int 0, .ref r1, .ref r2, .ref r3, .ref r4, .ref se, .int ts, .int hq, .int 40, .int 0, .int 0])), (xq, .inl (cq, 16, .inr (.inr (.inr (.inr (fun _ => none)))))), (ou, .inl (cJ, 1, .inr (.inl (fun _ => 0))))] sz)) 1 6 (va_A [(xo, .inr (11, [.ref xg, .int 0, .ref xp, .int 0, .ref xq, .int 0, .ref r1, .ref r2, .ref r3, .ref r4, .ref se, .int ts, .int hq, .int 40, .int 0, .int 0])), (xq, .inl (cq, 16, .inr (.inr (.inr (.inr (fun _ => none)))))), (ou, .inl (cJ, 1, .inr (.inl (fun _ => 0))))] sz) := by
  refine vx_ofWH (cc := cL_neck) (maxL := 6) (ret := (some .int)) (by decide) rfl ?_
  intro p e s m args below meth c s₁ B hml hv
  obtain ⟨rfl, hsz, hP, hK, hD0, hT, hZ⟩ := hv
  have hx := B.exec
  have hb := B.bytes
  have hr := B.returns
  have hts := atoms_spec (ws := wzL_neck) B.pre
  have hown : s.vm.findClass RL = some m.cls := findClass_of_methodNamed B.named
  have hlocks := B.notSynchronized
  have hxe := vx_table (x := yL_neck) B (hts _ List.mem_cons_self)
  subst hsz
  have hD := hD0.self (sz := s.heap.size)
  generalize hAe : va_A [(xo, .inr (11, [.ref xg, .int 0, .ref xp, .int 0, .ref xq, .int 0, .ref r1, .ref r2, .ref r3, .ref r4, .ref se, .int ts, .int hq, .int 40, .int 0, .int 0])), (xq, .inl (cq, 16, .inr (.inr (.inr (.inr (fun _ => none)))))), (ou, .inl (cJ, 1, .inr (.inl (fun _ => 0))))] s.heap.size = A at hD hZ ⊢
  have hA : ∀ q : Nat, s.heap.size ≤ q → A q := fun q h => by rw [← hAe]; exact Or.inr h
  have hS : va_S A s.heap s.heap [] := va_S.rf
  have hl := lv_entry ([.ref xo, .int ii, .int jj, .int kk, .ref ou]) (n := 6) (Nat.le_of_ble_eq_true rfl)
  rw [lg_entry_eq]
  generalize (lg_sl ([.ref xo, .int ii, .int jj, .int kk, .ref ou]) ++ List.replicate (6 - (lg_sl ([.ref xo, .int ii, .int jj, .int kk, .ref ou])).length) Slot.unset).toArray = ls at hl ⊢
  have hl : lv_has ls 6 [(0, .ref xo), (1, .int ii), (2, .int jj), (3, .int kk), (4, .ref ou)] := hl
  refine lv_aload hx hb dL_neck_0 (lv_at hl 4 rfl) ?_
  refine lv_iconst (v := 0) hx hb dL_neck_2 (by decide) ?_
  refine lv_aload_n hx hb dL_neck_3 rfl (lv_at hl 0 rfl) ?_
  refine lv_iload_n hx hb dL_neck_4 rfl (lv_at hl 1 rfl) ?_
  refine lv_iload_n hx hb dL_neck_5 rfl (lv_at hl 2 rfl) ?_
  refine lv_iload_n hx hb dL_neck_6 rfl (lv_at hl 3 rfl) ?_
  have hFc := va_free (wc := [(xo, .inr (11, [.ref xg, .int 0, .ref xp, .int 0, .ref xq, .int 0, .ref r1, .ref r2, .ref r3, .ref r4, .ref se, .int ts, .int hq, .int 40, .int 0, .int 0])), (xq, .inl (cq, 16, .inr (.inr (.inr (.inr (fun _ => none))))))]) hD hS hA [0, 1] rfl
  refine vx_calli (vx_runV (As := [.int ii, .int jj, .int kk]) (rest := [.int 0, .ref ou]) ⟨hx, hb, hml, hown, hts⟩ (zc_X6_neck l hnt D G xo xg xp xq r1 r2 r3 r4 se ts hq cq ii jj kk s.heap.size) (cwV 3 hts gzL_neck_X6_neck_66 rfl rfl rfl (by decide +kernel) ⟨(Nat.le_of_ble_eq_true rfl), (Nat.le_of_ble_eq_true rfl)⟩) ⟨p_RW_blind, va_recv hK hP (ci := 11) (q0 := 0) rfl rfl, (p_RW_at (tc := [(cq, .object "Gatherhouse$Piece")]) (wc := [(xo, .inr (11, [.ref xg, .int 0, .ref xp, .int 0, .ref xq, .int 0, .ref r1, .ref r2, .ref r3, .ref r4, .ref se, .int ts, .int hq, .int 40, .int 0, .int 0])), (xq, .inl (cq, 16, .inr (.inr (.inr (.inr (fun _ => none))))))]) hP hK hD hS hA hT hZ [0, 1] [0] rfl rfl (by decide) rfl [.ref xo, .int ii, .int jj, .int kk])⟩ rfl rfl hl.1 rfl (lv_room (Nat.le_of_ble_eq_true rfl)) dL_neck_7 ⟨(Nat.le_of_ble_eq_true rfl), (Nat.le_of_ble_eq_true rfl)⟩) hS (fun q _ h => hFc q h) hFc (fun q _ h => hFc q h) (fun E ce q9 u t H locs ht hvm hpx hBX hz1 hk1 hS hce hcv hcl => ?_) (fun r_715 u t H locs ht hvm w_716 hB hz1 hk1 hS => ?_)
  · have hBX : (E = "java/lang/IndexOutOfBoundsException") := hBX
    rcases hBX with rfl
    refine vx_catch (own := RL) (name := "java/lang/IndexOutOfBoundsException") hown ([] : List ExceptionTableEntry) ⟨0, 12, 15, 21⟩ ([⟨0, 12, 19, 13⟩, ⟨0, 12, 23, 41⟩] : List ExceptionTableEntry) (by rw [hxe]; rfl) (fun _ h => absurd h List.not_mem_nil) (by decide) (by decide) (hts (.classLink RL 21 "java/lang/IndexOutOfBoundsException") (by decide +kernel)) (va_Nw.use rfl (hT.2.2.1 ("java/lang/IndexOutOfBoundsException", "java/lang/IndexOutOfBoundsException") (by decide +kernel))) hce hcv hcl ?_
    refine W.eq (g2 := F0 m 15 ls [.ref q9]) rfl ?_
    refine lv_astore (lv' := [(5, .ref q9), (0, .ref xo), (1, .int ii), (2, .int jj), (3, .int kk), (4, .ref ou)]) hx hb dL_neck_15 hl (by decide) rfl (fun ls hl => ?_)
    refine lv_iconst (v := 1) hx hb dL_neck_17 (by decide) ?_
    refine vx_ret ?_
    exact W.iret (v := 1) hx hb hr (fun t ht hW => ⟨⟨1, (), rfl, rfl, trivial⟩, hS.F ht⟩) hS.2.2 dL_neck_18
  · exact w_716.elim
theorem dL_split_0 : decode cL_split 0 = .ok (.aload_n 3, 1) := by decide +kernel
theorem dL_split_1 : decode cL_split 1 = .ok (.iconst 0, 1) := by decide +kernel
theorem dL_split_2 : decode cL_split 2 = .ok (.aload_n 0, 1) := by decide +kernel
theorem dL_split_3 : decode cL_split 3 = .ok (.iload_n 1, 1) := by decide +kernel
theorem dL_split_4 : decode cL_split 4 = .ok (.iload_n 2, 1) := by decide +kernel
theorem dL_split_5 : decode cL_split 5 = .ok (.invokevirtual 69, 3) := by decide +kernel
theorem dL_split_13 : decode cL_split 13 = .ok (.astore 4, 2) := by decide +kernel
theorem dL_split_15 : decode cL_split 15 = .ok (.iconst 1, 1) := by decide +kernel
theorem dL_split_16 : decode cL_split 16 = .ok (.ireturn, 1) := by decide +kernel
def wzEL_split : List Cond := [.codeWith yL_split cL_split 5 (some .int) [(0, 10, 13, 21), (0, 10, 17, 41)], .methodLink RL 69 yX6_split, .instanceMethod yX6_split, .selects RX6 yX6_split yX6_split, .initialized RX6, .code yX6_split cX6_split 6 (some .int), .methodLink RX6 169 yX6_findPiece, .instanceMethod yX6_findPiece, .selects RX6 yX6_findPiece yX6_findPiece, .code yX6_findPiece cX6_findPiece 3 (some (.object "Gatherhouse$Piece")), .classLink RX6 365 "java/lang/IndexOutOfBoundsException", .initialized "java/lang/IndexOutOfBoundsException", .fieldLink RX6 30 "Gatherhouse" "pieces" "[LGatherhouse$Piece;", .classLink RL 21 "java/lang/IndexOutOfBoundsException"]
def wzL_split : List Cond := wzEL_split ++ (u_ws RX6 TX6 16 ++ ((vx_atS RX6 369 "java/lang/IndexOutOfBoundsException" ["java/lang/RuntimeException", "java/lang/Exception"]).filter goodWord))
theorem zgEL_split : wzEL_split.all goodWord = true := by decide +kernel
theorem zuL_split_X6 : ∀ w ∈ u_ws RX6 TX6 16, w ∈ wzL_split := (fun _ h => (List.mem_append_right _ (List.mem_append_left _ h)))
theorem ztL_split_X6_369 : ∀ w ∈ (vx_atS RX6 369 "java/lang/IndexOutOfBoundsException" ["java/lang/RuntimeException", "java/lang/Exception"]).filter goodWord, w ∈ wzL_split := (fun _ h => (List.mem_append_right _ (List.mem_append_right _ h)))
theorem gzL_split_X6_split_69 : GoodIn wzL_split (wsV RL 69 RX6 yX6_split wzX6_split) := (goodIn_app (z_lift (goodIn_r _ [1, 2, 3, 4] rfl (by decide +kernel))) (goodIn_app (z_lift (goodIn_r wzEX6_split [5, 6, 7, 8, 4, 9, 10, 11, 12] rfl zgEX6_split)) (goodIn_app (goodIn_sub (fun _ h => (List.mem_append_right _ (List.mem_append_left _ h))) zgU_X6) (goodIn_sub (fun _ h => (List.mem_append_right _ (List.mem_append_right _ h))) zgV_X6_369))))
set_option maxHeartbeats 4000000 in
set_option maxRecDepth 100000 in
theorem zc_L_split (l : Launch) (hnt : l.stackTraces = false) (D : va_G) (G : Nat × Nat × Nat) (xo : Nat) (xg : Nat) (xp : Nat) (xq : Nat) (r1 : Nat) (r2 : Nat) (r3 : Nat) (r4 : Nat) (se : Nat) (ts : Int32) (hq : Int32) (cq : ClassId) (ou : Nat) (cJ : ClassId) (ii : Int32) (jj : Int32) (sz : Nat) : vx_Met l yL_split wzL_split ({ frames := 8, cells := 1, slots := 6, locals := 129 }) (va_Pc [.ref xo, .int ii, .int jj, .ref ou] (p_RW D G [(cq, .object "Gatherhouse$Piece"), (cJ, .long)] [(xo, .inr (11, [.ref xg, .int 0, .ref xp, .int 0, .ref xq, .int 0, .ref r1, .ref r2, .ref r3, .ref r4, .ref se, .int ts, .int hq, .int 40, .int 0, .int 0])), (xq, .inl (cq, 16, .inr (.inr (.inr (.inr (fun _ => none)))))), (ou, .inl (cJ, 1, .inr (.inl (fun _ => 0))))] sz)) (va_Qi (fun (r : Int32) (u : Unit) => r = 1) (fun (u : Unit) (t : State) => True) (va_A [(xo, .inr (11, [.ref xg, .int 0, .ref xp, .int 0, .ref xq, .int 0, .ref r1, .ref r2, .ref r3, .ref r4, .ref se, .int ts, .int hq, .int 40, .int 0, .int 0])), (xq, .inl (cq, 16, .inr (.inr (.inr (.inr (fun _ => none)))))), (ou, .inl (cJ, 1, .inr (.inl (fun _ => 0))))] sz)) (vx_X (fun (_ : Unit) => True) (fun E (_ : Unit) (_ : State) => False) (va_A [(xo, .inr (11, [.ref xg, .int 0, .ref xp, .int 0, .ref xq, .int 0, .ref r1, .ref r2, .ref r3, .ref r4, .ref se, .int ts, .int hq, .int 40, .int 0, .int 0])), (xq, .inl (cq, 16, .inr (.inr (.inr (.inr (fun _ => none)))))), (ou, .inl (cJ, 1, .inr (.inl (fun _ => 0))))] sz)) 1 6 (va_A [(xo, .inr (11, [.ref xg, .int 0, .ref xp, .int 0, .ref xq, .int 0, .ref r1, .ref r2, .ref r3, .ref r4, .ref se, .int ts, .int hq, .int 40, .int 0, .int 0])), (xq, .inl (cq, 16, .inr (.inr (.inr (.inr (fun _ => none)))))), (ou, .inl (cJ, 1, .inr (.inl (fun _ => 0))))] sz) := by
  refine vx_ofWH (cc := cL_split) (maxL := 5) (ret := (some .int)) (by decide) rfl ?_
  intro p e s m args below meth c s₁ B hml hv
  obtain ⟨rfl, hsz, hP, hK, hD0, hT, hZ⟩ := hv
  have hx := B.exec
  have hb := B.bytes
  have hr := B.returns
  have hts := atoms_spec (ws := wzL_split) B.pre
  have hown : s.vm.findClass RL = some m.cls := findClass_of_methodNamed B.named
  have hlocks := B.notSynchronized
  have hxe := vx_table (x := yL_split) B (hts _ List.mem_cons_self)
  subst hsz
  have hD := hD0.self (sz := s.heap.size)
  generalize hAe : va_A [(xo, .inr (11, [.ref xg, .int 0, .ref xp, .int 0, .ref xq, .int 0, .ref r1, .ref r2, .ref r3, .ref r4, .ref se, .int ts, .int hq, .int 40, .int 0, .int 0])), (xq, .inl (cq, 16, .inr (.inr (.inr (.inr (fun _ => none)))))), (ou, .inl (cJ, 1, .inr (.inl (fun _ => 0))))] s.heap.size = A at hD hZ ⊢
  have hA : ∀ q : Nat, s.heap.size ≤ q → A q := fun q h => by rw [← hAe]; exact Or.inr h
  have hS : va_S A s.heap s.heap [] := va_S.rf
  have hl := lv_entry ([.ref xo, .int ii, .int jj, .ref ou]) (n := 5) (Nat.le_of_ble_eq_true rfl)
  rw [lg_entry_eq]
  generalize (lg_sl ([.ref xo, .int ii, .int jj, .ref ou]) ++ List.replicate (5 - (lg_sl ([.ref xo, .int ii, .int jj, .ref ou])).length) Slot.unset).toArray = ls at hl ⊢
  have hl : lv_has ls 5 [(0, .ref xo), (1, .int ii), (2, .int jj), (3, .ref ou)] := hl
  refine lv_aload_n hx hb dL_split_0 rfl (lv_at hl 3 rfl) ?_
  refine lv_iconst (v := 0) hx hb dL_split_1 (by decide) ?_
  refine lv_aload_n hx hb dL_split_2 rfl (lv_at hl 0 rfl) ?_
  refine lv_iload_n hx hb dL_split_3 rfl (lv_at hl 1 rfl) ?_
  refine lv_iload_n hx hb dL_split_4 rfl (lv_at hl 2 rfl) ?_
  have hFc := va_free (wc := [(xo, .inr (11, [.ref xg, .int 0, .ref xp, .int 0, .ref xq, .int 0, .ref r1, .ref r2, .ref r3, .ref r4, .ref se, .int ts, .int hq, .int 40, .int 0, .int 0])), (xq, .inl (cq, 16, .inr (.inr (.inr (.inr (fun _ => none))))))]) hD hS hA [0, 1] rfl
  refine vx_calli (vx_runV (As := [.int ii, .int jj]) (rest := [.int 0, .ref ou]) ⟨hx, hb, hml, hown, hts⟩ (zc_X6_split l hnt D G xo xg xp xq r1 r2 r3 r4 se ts hq cq ii jj s.heap.size) (cwV 2 hts gzL_split_X6_split_69 rfl rfl rfl (by decide +kernel) ⟨(Nat.le_of_ble_eq_true rfl), (Nat.le_of_ble_eq_true rfl)⟩) ⟨p_RW_blind, va_recv hK hP (ci := 11) (q0 := 0) rfl rfl, (p_RW_at (tc := [(cq, .object "Gatherhouse$Piece")]) (wc := [(xo, .inr (11, [.ref xg, .int 0, .ref xp, .int 0, .ref xq, .int 0, .ref r1, .ref r2, .ref r3, .ref r4, .ref se, .int ts, .int hq, .int 40, .int 0, .int 0])), (xq, .inl (cq, 16, .inr (.inr (.inr (.inr (fun _ => none))))))]) hP hK hD hS hA hT hZ [0, 1] [0] rfl rfl (by decide) rfl [.ref xo, .int ii, .int jj])⟩ rfl rfl hl.1 rfl (lv_room (Nat.le_of_ble_eq_true rfl)) dL_split_5 ⟨(Nat.le_of_ble_eq_true rfl), (Nat.le_of_ble_eq_true rfl)⟩) hS (fun q _ h => hFc q h) hFc (fun q _ h => hFc q h) (fun E ce q9 u t H locs ht hvm hpx hBX hz1 hk1 hS hce hcv hcl => ?_) (fun r_717 u t H locs ht hvm w_718 hB hz1 hk1 hS => ?_)
  · have hBX : (E = "java/lang/IndexOutOfBoundsException") := hBX
    rcases hBX with rfl
    refine vx_catch (own := RL) (name := "java/lang/IndexOutOfBoundsException") hown ([] : List ExceptionTableEntry) ⟨0, 10, 13, 21⟩ ([⟨0, 10, 17, 41⟩] : List ExceptionTableEntry) (by rw [hxe]; rfl) (fun _ h => absurd h List.not_mem_nil) (by decide) (by decide) (hts (.classLink RL 21 "java/lang/IndexOutOfBoundsException") (by decide +kernel)) (va_Nw.use rfl (hT.2.2.1 ("java/lang/IndexOutOfBoundsException", "java/lang/IndexOutOfBoundsException") (by decide +kernel))) hce hcv hcl ?_
    refine W.eq (g2 := F0 m 13 ls [.ref q9]) rfl ?_
    refine lv_astore (lv' := [(4, .ref q9), (0, .ref xo), (1, .int ii), (2, .int jj), (3, .ref ou)]) hx hb dL_split_13 hl (by decide) rfl (fun ls hl => ?_)
    refine lv_iconst (v := 1) hx hb dL_split_15 (by decide) ?_
    refine vx_ret ?_
    exact W.iret (v := 1) hx hb hr (fun t ht hW => ⟨⟨1, (), rfl, rfl, trivial⟩, hS.F ht⟩) hS.2.2 dL_split_16
  · exact w_718.elim
theorem dL_shear_0 : decode cL_shear 0 = .ok (.aload_n 2, 1) := by decide +kernel
theorem dL_shear_1 : decode cL_shear 1 = .ok (.iconst 0, 1) := by decide +kernel
theorem dL_shear_2 : decode cL_shear 2 = .ok (.aload_n 0, 1) := by decide +kernel
theorem dL_shear_3 : decode cL_shear 3 = .ok (.iload_n 1, 1) := by decide +kernel
theorem dL_shear_4 : decode cL_shear 4 = .ok (.invokevirtual 72, 3) := by decide +kernel
theorem dL_shear_12 : decode cL_shear 12 = .ok (.astore_n 3, 1) := by decide +kernel
theorem dL_shear_13 : decode cL_shear 13 = .ok (.iconst 1, 1) := by decide +kernel
theorem dL_shear_14 : decode cL_shear 14 = .ok (.ireturn, 1) := by decide +kernel
def wzEL_shear : List Cond := [.codeWith yL_shear cL_shear 4 (some .int) [(0, 9, 12, 21), (0, 9, 15, 41)], .methodLink RL 72 yX6_shear, .instanceMethod yX6_shear, .selects RX6 yX6_shear yX6_shear, .initialized RX6, .code yX6_shear cX6_shear 4 (some .int), .methodLink RX6 169 yX6_findPiece, .instanceMethod yX6_findPiece, .selects RX6 yX6_findPiece yX6_findPiece, .code yX6_findPiece cX6_findPiece 3 (some (.object "Gatherhouse$Piece")), .classLink RX6 365 "java/lang/IndexOutOfBoundsException", .initialized "java/lang/IndexOutOfBoundsException", .fieldLink RX6 30 "Gatherhouse" "pieces" "[LGatherhouse$Piece;", .classLink RL 21 "java/lang/IndexOutOfBoundsException"]
def wzL_shear : List Cond := wzEL_shear ++ (u_ws RX6 TX6 16 ++ ((vx_atS RX6 369 "java/lang/IndexOutOfBoundsException" ["java/lang/RuntimeException", "java/lang/Exception"]).filter goodWord))
theorem zgEL_shear : wzEL_shear.all goodWord = true := by decide +kernel
theorem zuL_shear_X6 : ∀ w ∈ u_ws RX6 TX6 16, w ∈ wzL_shear := (fun _ h => (List.mem_append_right _ (List.mem_append_left _ h)))
theorem ztL_shear_X6_369 : ∀ w ∈ (vx_atS RX6 369 "java/lang/IndexOutOfBoundsException" ["java/lang/RuntimeException", "java/lang/Exception"]).filter goodWord, w ∈ wzL_shear := (fun _ h => (List.mem_append_right _ (List.mem_append_right _ h)))
theorem gzL_shear_X6_shear_72 : GoodIn wzL_shear (wsV RL 72 RX6 yX6_shear wzX6_shear) := (goodIn_app (z_lift (goodIn_r _ [1, 2, 3, 4] rfl (by decide +kernel))) (goodIn_app (z_lift (goodIn_r wzEX6_shear [5, 6, 7, 8, 4, 9, 10, 11, 12] rfl zgEX6_shear)) (goodIn_app (goodIn_sub (fun _ h => (List.mem_append_right _ (List.mem_append_left _ h))) zgU_X6) (goodIn_sub (fun _ h => (List.mem_append_right _ (List.mem_append_right _ h))) zgV_X6_369))))
set_option maxHeartbeats 4000000 in
set_option maxRecDepth 100000 in
theorem zc_L_shear (l : Launch) (hnt : l.stackTraces = false) (D : va_G) (G : Nat × Nat × Nat) (xo : Nat) (xg : Nat) (xp : Nat) (xq : Nat) (r1 : Nat) (r2 : Nat) (r3 : Nat) (r4 : Nat) (se : Nat) (ts : Int32) (hq : Int32) (cq : ClassId) (ou : Nat) (cJ : ClassId) (ii : Int32) (sz : Nat) : vx_Met l yL_shear wzL_shear ({ frames := 8, cells := 1, slots := 6, locals := 127 }) (va_Pc [.ref xo, .int ii, .ref ou] (p_RW D G [(cq, .object "Gatherhouse$Piece"), (cJ, .long)] [(xo, .inr (11, [.ref xg, .int 0, .ref xp, .int 0, .ref xq, .int 0, .ref r1, .ref r2, .ref r3, .ref r4, .ref se, .int ts, .int hq, .int 40, .int 0, .int 0])), (xq, .inl (cq, 16, .inr (.inr (.inr (.inr (fun _ => none)))))), (ou, .inl (cJ, 1, .inr (.inl (fun _ => 0))))] sz)) (va_Qi (fun (r : Int32) (u : Unit) => r = 1) (fun (u : Unit) (t : State) => True) (va_A [(xo, .inr (11, [.ref xg, .int 0, .ref xp, .int 0, .ref xq, .int 0, .ref r1, .ref r2, .ref r3, .ref r4, .ref se, .int ts, .int hq, .int 40, .int 0, .int 0])), (xq, .inl (cq, 16, .inr (.inr (.inr (.inr (fun _ => none)))))), (ou, .inl (cJ, 1, .inr (.inl (fun _ => 0))))] sz)) (vx_X (fun (_ : Unit) => True) (fun E (_ : Unit) (_ : State) => False) (va_A [(xo, .inr (11, [.ref xg, .int 0, .ref xp, .int 0, .ref xq, .int 0, .ref r1, .ref r2, .ref r3, .ref r4, .ref se, .int ts, .int hq, .int 40, .int 0, .int 0])), (xq, .inl (cq, 16, .inr (.inr (.inr (.inr (fun _ => none)))))), (ou, .inl (cJ, 1, .inr (.inl (fun _ => 0))))] sz)) 1 6 (va_A [(xo, .inr (11, [.ref xg, .int 0, .ref xp, .int 0, .ref xq, .int 0, .ref r1, .ref r2, .ref r3, .ref r4, .ref se, .int ts, .int hq, .int 40, .int 0, .int 0])), (xq, .inl (cq, 16, .inr (.inr (.inr (.inr (fun _ => none)))))), (ou, .inl (cJ, 1, .inr (.inl (fun _ => 0))))] sz) := by
  refine vx_ofWH (cc := cL_shear) (maxL := 4) (ret := (some .int)) (by decide) rfl ?_
  intro p e s m args below meth c s₁ B hml hv
  obtain ⟨rfl, hsz, hP, hK, hD0, hT, hZ⟩ := hv
  have hx := B.exec
  have hb := B.bytes
  have hr := B.returns
  have hts := atoms_spec (ws := wzL_shear) B.pre
  have hown : s.vm.findClass RL = some m.cls := findClass_of_methodNamed B.named
  have hlocks := B.notSynchronized
  have hxe := vx_table (x := yL_shear) B (hts _ List.mem_cons_self)
  subst hsz
  have hD := hD0.self (sz := s.heap.size)
  generalize hAe : va_A [(xo, .inr (11, [.ref xg, .int 0, .ref xp, .int 0, .ref xq, .int 0, .ref r1, .ref r2, .ref r3, .ref r4, .ref se, .int ts, .int hq, .int 40, .int 0, .int 0])), (xq, .inl (cq, 16, .inr (.inr (.inr (.inr (fun _ => none)))))), (ou, .inl (cJ, 1, .inr (.inl (fun _ => 0))))] s.heap.size = A at hD hZ ⊢
  have hA : ∀ q : Nat, s.heap.size ≤ q → A q := fun q h => by rw [← hAe]; exact Or.inr h
  have hS : va_S A s.heap s.heap [] := va_S.rf
  have hl := lv_entry ([.ref xo, .int ii, .ref ou]) (n := 4) (Nat.le_of_ble_eq_true rfl)
  rw [lg_entry_eq]
  generalize (lg_sl ([.ref xo, .int ii, .ref ou]) ++ List.replicate (4 - (lg_sl ([.ref xo, .int ii, .ref ou])).length) Slot.unset).toArray = ls at hl ⊢
  have hl : lv_has ls 4 [(0, .ref xo), (1, .int ii), (2, .ref ou)] := hl
  refine lv_aload_n hx hb dL_shear_0 rfl (lv_at hl 2 rfl) ?_
  refine lv_iconst (v := 0) hx hb dL_shear_1 (by decide) ?_
  refine lv_aload_n hx hb dL_shear_2 rfl (lv_at hl 0 rfl) ?_
  refine lv_iload_n hx hb dL_shear_3 rfl (lv_at hl 1 rfl) ?_
  have hFc := va_free (wc := [(xo, .inr (11, [.ref xg, .int 0, .ref xp, .int 0, .ref xq, .int 0, .ref r1, .ref r2, .ref r3, .ref r4, .ref se, .int ts, .int hq, .int 40, .int 0, .int 0])), (xq, .inl (cq, 16, .inr (.inr (.inr (.inr (fun _ => none))))))]) hD hS hA [0, 1] rfl
  refine vx_calli (vx_runV (As := [.int ii]) (rest := [.int 0, .ref ou]) ⟨hx, hb, hml, hown, hts⟩ (zc_X6_shear l hnt D G xo xg xp xq r1 r2 r3 r4 se ts hq cq ii s.heap.size) (cwV 1 hts gzL_shear_X6_shear_72 rfl rfl rfl (by decide +kernel) ⟨(Nat.le_of_ble_eq_true rfl), (Nat.le_of_ble_eq_true rfl)⟩) ⟨p_RW_blind, va_recv hK hP (ci := 11) (q0 := 0) rfl rfl, (p_RW_at (tc := [(cq, .object "Gatherhouse$Piece")]) (wc := [(xo, .inr (11, [.ref xg, .int 0, .ref xp, .int 0, .ref xq, .int 0, .ref r1, .ref r2, .ref r3, .ref r4, .ref se, .int ts, .int hq, .int 40, .int 0, .int 0])), (xq, .inl (cq, 16, .inr (.inr (.inr (.inr (fun _ => none))))))]) hP hK hD hS hA hT hZ [0, 1] [0] rfl rfl (by decide) rfl [.ref xo, .int ii])⟩ rfl rfl hl.1 rfl (lv_room (Nat.le_of_ble_eq_true rfl)) dL_shear_4 ⟨(Nat.le_of_ble_eq_true rfl), (Nat.le_of_ble_eq_true rfl)⟩) hS (fun q _ h => hFc q h) hFc (fun q _ h => hFc q h) (fun E ce q9 u t H locs ht hvm hpx hBX hz1 hk1 hS hce hcv hcl => ?_) (fun r_719 u t H locs ht hvm w_720 hB hz1 hk1 hS => ?_)
  · have hBX : (E = "java/lang/IndexOutOfBoundsException") := hBX
    rcases hBX with rfl
    refine vx_catch (own := RL) (name := "java/lang/IndexOutOfBoundsException") hown ([] : List ExceptionTableEntry) ⟨0, 9, 12, 21⟩ ([⟨0, 9, 15, 41⟩] : List ExceptionTableEntry) (by rw [hxe]; rfl) (fun _ h => absurd h List.not_mem_nil) (by decide) (by decide) (hts (.classLink RL 21 "java/lang/IndexOutOfBoundsException") (by decide +kernel)) (va_Nw.use rfl (hT.2.2.1 ("java/lang/IndexOutOfBoundsException", "java/lang/IndexOutOfBoundsException") (by decide +kernel))) hce hcv hcl ?_
    refine W.eq (g2 := F0 m 12 ls [.ref q9]) rfl ?_
    refine lv_astore_n (lv' := [(3, .ref q9), (0, .ref xo), (1, .int ii), (2, .ref ou)]) hx hb dL_shear_12 rfl hl (by decide) rfl (fun ls hl => ?_)
    refine lv_iconst (v := 1) hx hb dL_shear_13 (by decide) ?_
    refine vx_ret ?_
    exact W.iret (v := 1) hx hb hr (fun t ht hW => ⟨⟨1, (), rfl, rfl, trivial⟩, hS.F ht⟩) hS.2.2 dL_shear_14
  · exact w_720.elim
theorem dL_crack_0 : decode cL_crack 0 = .ok (.aload_n 2, 1) := by decide +kernel
theorem dL_crack_1 : decode cL_crack 1 = .ok (.iconst 0, 1) := by decide +kernel
theorem dL_crack_2 : decode cL_crack 2 = .ok (.aload_n 0, 1) := by decide +kernel
theorem dL_crack_3 : decode cL_crack 3 = .ok (.iload_n 1, 1) := by decide +kernel
theorem dL_crack_4 : decode cL_crack 4 = .ok (.invokevirtual 81, 3) := by decide +kernel
theorem dL_crack_12 : decode cL_crack 12 = .ok (.astore_n 3, 1) := by decide +kernel
theorem dL_crack_13 : decode cL_crack 13 = .ok (.iconst 1, 1) := by decide +kernel
theorem dL_crack_14 : decode cL_crack 14 = .ok (.ireturn, 1) := by decide +kernel
def wzEL_crack : List Cond := [.codeWith yL_crack cL_crack 4 (some .int) [(0, 9, 12, 21), (0, 9, 15, 41)], .methodLink RL 81 yX6_crack, .instanceMethod yX6_crack, .selects RX6 yX6_crack yX6_crack, .initialized RX6, .code yX6_crack cX6_crack 3 (some .int), .methodLink RX6 169 yX6_findPiece, .instanceMethod yX6_findPiece, .selects RX6 yX6_findPiece yX6_findPiece, .code yX6_findPiece cX6_findPiece 3 (some (.object "Gatherhouse$Piece")), .classLink RX6 365 "java/lang/IndexOutOfBoundsException", .initialized "java/lang/IndexOutOfBoundsException", .fieldLink RX6 30 "Gatherhouse" "pieces" "[LGatherhouse$Piece;", .classLink RL 21 "java/lang/IndexOutOfBoundsException"]
def wzL_crack : List Cond := wzEL_crack ++ (u_ws RX6 TX6 16 ++ ((vx_atS RX6 369 "java/lang/IndexOutOfBoundsException" ["java/lang/RuntimeException", "java/lang/Exception"]).filter goodWord))
theorem zgEL_crack : wzEL_crack.all goodWord = true := by decide +kernel
theorem zuL_crack_X6 : ∀ w ∈ u_ws RX6 TX6 16, w ∈ wzL_crack := (fun _ h => (List.mem_append_right _ (List.mem_append_left _ h)))
theorem ztL_crack_X6_369 : ∀ w ∈ (vx_atS RX6 369 "java/lang/IndexOutOfBoundsException" ["java/lang/RuntimeException", "java/lang/Exception"]).filter goodWord, w ∈ wzL_crack := (fun _ h => (List.mem_append_right _ (List.mem_append_right _ h)))
theorem gzL_crack_X6_crack_81 : GoodIn wzL_crack (wsV RL 81 RX6 yX6_crack wzX6_crack) := (goodIn_app (z_lift (goodIn_r _ [1, 2, 3, 4] rfl (by decide +kernel))) (goodIn_app (z_lift (goodIn_r wzEX6_crack [5, 6, 7, 8, 4, 9, 10, 11, 12] rfl zgEX6_crack)) (goodIn_app (goodIn_sub (fun _ h => (List.mem_append_right _ (List.mem_append_left _ h))) zgU_X6) (goodIn_sub (fun _ h => (List.mem_append_right _ (List.mem_append_right _ h))) zgV_X6_369))))
set_option maxHeartbeats 4000000 in
set_option maxRecDepth 100000 in
theorem zc_L_crack (l : Launch) (hnt : l.stackTraces = false) (D : va_G) (G : Nat × Nat × Nat) (xo : Nat) (xg : Nat) (xp : Nat) (xq : Nat) (r1 : Nat) (r2 : Nat) (r3 : Nat) (r4 : Nat) (se : Nat) (ts : Int32) (hq : Int32) (cq : ClassId) (ou : Nat) (cJ : ClassId) (ii : Int32) (sz : Nat) : vx_Met l yL_crack wzL_crack ({ frames := 8, cells := 1, slots := 6, locals := 126 }) (va_Pc [.ref xo, .int ii, .ref ou] (p_RW D G [(cq, .object "Gatherhouse$Piece"), (cJ, .long)] [(xo, .inr (11, [.ref xg, .int 0, .ref xp, .int 0, .ref xq, .int 0, .ref r1, .ref r2, .ref r3, .ref r4, .ref se, .int ts, .int hq, .int 40, .int 0, .int 0])), (xq, .inl (cq, 16, .inr (.inr (.inr (.inr (fun _ => none)))))), (ou, .inl (cJ, 1, .inr (.inl (fun _ => 0))))] sz)) (va_Qi (fun (r : Int32) (u : Unit) => r = 1) (fun (u : Unit) (t : State) => True) (va_A [(xo, .inr (11, [.ref xg, .int 0, .ref xp, .int 0, .ref xq, .int 0, .ref r1, .ref r2, .ref r3, .ref r4, .ref se, .int ts, .int hq, .int 40, .int 0, .int 0])), (xq, .inl (cq, 16, .inr (.inr (.inr (.inr (fun _ => none)))))), (ou, .inl (cJ, 1, .inr (.inl (fun _ => 0))))] sz)) (vx_X (fun (_ : Unit) => True) (fun E (_ : Unit) (_ : State) => False) (va_A [(xo, .inr (11, [.ref xg, .int 0, .ref xp, .int 0, .ref xq, .int 0, .ref r1, .ref r2, .ref r3, .ref r4, .ref se, .int ts, .int hq, .int 40, .int 0, .int 0])), (xq, .inl (cq, 16, .inr (.inr (.inr (.inr (fun _ => none)))))), (ou, .inl (cJ, 1, .inr (.inl (fun _ => 0))))] sz)) 1 6 (va_A [(xo, .inr (11, [.ref xg, .int 0, .ref xp, .int 0, .ref xq, .int 0, .ref r1, .ref r2, .ref r3, .ref r4, .ref se, .int ts, .int hq, .int 40, .int 0, .int 0])), (xq, .inl (cq, 16, .inr (.inr (.inr (.inr (fun _ => none)))))), (ou, .inl (cJ, 1, .inr (.inl (fun _ => 0))))] sz) := by
  refine vx_ofWH (cc := cL_crack) (maxL := 4) (ret := (some .int)) (by decide) rfl ?_
  intro p e s m args below meth c s₁ B hml hv
  obtain ⟨rfl, hsz, hP, hK, hD0, hT, hZ⟩ := hv
  have hx := B.exec
  have hb := B.bytes
  have hr := B.returns
  have hts := atoms_spec (ws := wzL_crack) B.pre
  have hown : s.vm.findClass RL = some m.cls := findClass_of_methodNamed B.named
  have hlocks := B.notSynchronized
  have hxe := vx_table (x := yL_crack) B (hts _ List.mem_cons_self)
  subst hsz
  have hD := hD0.self (sz := s.heap.size)
  generalize hAe : va_A [(xo, .inr (11, [.ref xg, .int 0, .ref xp, .int 0, .ref xq, .int 0, .ref r1, .ref r2, .ref r3, .ref r4, .ref se, .int ts, .int hq, .int 40, .int 0, .int 0])), (xq, .inl (cq, 16, .inr (.inr (.inr (.inr (fun _ => none)))))), (ou, .inl (cJ, 1, .inr (.inl (fun _ => 0))))] s.heap.size = A at hD hZ ⊢
  have hA : ∀ q : Nat, s.heap.size ≤ q → A q := fun q h => by rw [← hAe]; exact Or.inr h
  have hS : va_S A s.heap s.heap [] := va_S.rf
  have hl := lv_entry ([.ref xo, .int ii, .ref ou]) (n := 4) (Nat.le_of_ble_eq_true rfl)
  rw [lg_entry_eq]
  generalize (lg_sl ([.ref xo, .int ii, .ref ou]) ++ List.replicate (4 - (lg_sl ([.ref xo, .int ii, .ref ou])).length) Slot.unset).toArray = ls at hl ⊢
  have hl : lv_has ls 4 [(0, .ref xo), (1, .int ii), (2, .ref ou)] := hl
  refine lv_aload_n hx hb dL_crack_0 rfl (lv_at hl 2 rfl) ?_
  refine lv_iconst (v := 0) hx hb dL_crack_1 (by decide) ?_
  refine lv_aload_n hx hb dL_crack_2 rfl (lv_at hl 0 rfl) ?_
  refine lv_iload_n hx hb dL_crack_3 rfl (lv_at hl 1 rfl) ?_
  have hFc := va_free (wc := [(xo, .inr (11, [.ref xg, .int 0, .ref xp, .int 0, .ref xq, .int 0, .ref r1, .ref r2, .ref r3, .ref r4, .ref se, .int ts, .int hq, .int 40, .int 0, .int 0])), (xq, .inl (cq, 16, .inr (.inr (.inr (.inr (fun _ => none))))))]) hD hS hA [0, 1] rfl
  refine vx_calli (vx_runV (As := [.int ii]) (rest := [.int 0, .ref ou]) ⟨hx, hb, hml, hown, hts⟩ (zc_X6_crack l hnt D G xo xg xp xq r1 r2 r3 r4 se ts hq cq ii s.heap.size) (cwV 1 hts gzL_crack_X6_crack_81 rfl rfl rfl (by decide +kernel) ⟨(Nat.le_of_ble_eq_true rfl), (Nat.le_of_ble_eq_true rfl)⟩) ⟨p_RW_blind, va_recv hK hP (ci := 11) (q0 := 0) rfl rfl, (p_RW_at (tc := [(cq, .object "Gatherhouse$Piece")]) (wc := [(xo, .inr (11, [.ref xg, .int 0, .ref xp, .int 0, .ref xq, .int 0, .ref r1, .ref r2, .ref r3, .ref r4, .ref se, .int ts, .int hq, .int 40, .int 0, .int 0])), (xq, .inl (cq, 16, .inr (.inr (.inr (.inr (fun _ => none))))))]) hP hK hD hS hA hT hZ [0, 1] [0] rfl rfl (by decide) rfl [.ref xo, .int ii])⟩ rfl rfl hl.1 rfl (lv_room (Nat.le_of_ble_eq_true rfl)) dL_crack_4 ⟨(Nat.le_of_ble_eq_true rfl), (Nat.le_of_ble_eq_true rfl)⟩) hS (fun q _ h => hFc q h) hFc (fun q _ h => hFc q h) (fun E ce q9 u t H locs ht hvm hpx hBX hz1 hk1 hS hce hcv hcl => ?_) (fun r_721 u t H locs ht hvm w_722 hB hz1 hk1 hS => ?_)
  · have hBX : (E = "java/lang/IndexOutOfBoundsException") := hBX
    rcases hBX with rfl
    refine vx_catch (own := RL) (name := "java/lang/IndexOutOfBoundsException") hown ([] : List ExceptionTableEntry) ⟨0, 9, 12, 21⟩ ([⟨0, 9, 15, 41⟩] : List ExceptionTableEntry) (by rw [hxe]; rfl) (fun _ h => absurd h List.not_mem_nil) (by decide) (by decide) (hts (.classLink RL 21 "java/lang/IndexOutOfBoundsException") (by decide +kernel)) (va_Nw.use rfl (hT.2.2.1 ("java/lang/IndexOutOfBoundsException", "java/lang/IndexOutOfBoundsException") (by decide +kernel))) hce hcv hcl ?_
    refine W.eq (g2 := F0 m 12 ls [.ref q9]) rfl ?_
    refine lv_astore_n (lv' := [(3, .ref q9), (0, .ref xo), (1, .int ii), (2, .ref ou)]) hx hb dL_crack_12 rfl hl (by decide) rfl (fun ls hl => ?_)
    refine lv_iconst (v := 1) hx hb dL_crack_13 (by decide) ?_
    refine vx_ret ?_
    exact W.iret (v := 1) hx hb hr (fun t ht hW => ⟨⟨1, (), rfl, rfl, trivial⟩, hS.F ht⟩) hS.2.2 dL_crack_14
  · exact w_722.elim
theorem dL_state_0 : decode cL_state 0 = .ok (.aload_n 2, 1) := by decide +kernel
theorem dL_state_1 : decode cL_state 1 = .ok (.iconst 0, 1) := by decide +kernel
theorem dL_state_2 : decode cL_state 2 = .ok (.aload_n 0, 1) := by decide +kernel
theorem dL_state_3 : decode cL_state 3 = .ok (.iload_n 1, 1) := by decide +kernel
theorem dL_state_4 : decode cL_state 4 = .ok (.invokevirtual 84, 3) := by decide +kernel
theorem dL_state_12 : decode cL_state 12 = .ok (.astore_n 3, 1) := by decide +kernel
theorem dL_state_13 : decode cL_state 13 = .ok (.iconst 1, 1) := by decide +kernel
theorem dL_state_14 : decode cL_state 14 = .ok (.ireturn, 1) := by decide +kernel
def wzEL_state : List Cond := [.codeWith yL_state cL_state 4 (some .int) [(0, 9, 12, 21)], .methodLink RL 84 yX6_state, .instanceMethod yX6_state, .selects RX6 yX6_state yX6_state, .initialized RX6, .code yX6_state cX6_state 2 (some .char), .methodLink RX6 169 yX6_findPiece, .instanceMethod yX6_findPiece, .selects RX6 yX6_findPiece yX6_findPiece, .code yX6_findPiece cX6_findPiece 3 (some (.object "Gatherhouse$Piece")), .classLink RX6 365 "java/lang/IndexOutOfBoundsException", .initialized "java/lang/IndexOutOfBoundsException", .fieldLink RX6 30 "Gatherhouse" "pieces" "[LGatherhouse$Piece;", .classLink RL 21 "java/lang/IndexOutOfBoundsException"]
def wzL_state : List Cond := wzEL_state ++ (u_ws RX6 TX6 16 ++ ((vx_atS RX6 369 "java/lang/IndexOutOfBoundsException" ["java/lang/RuntimeException", "java/lang/Exception"]).filter goodWord))
theorem zgEL_state : wzEL_state.all goodWord = true := by decide +kernel
theorem zuL_state_X6 : ∀ w ∈ u_ws RX6 TX6 16, w ∈ wzL_state := (fun _ h => (List.mem_append_right _ (List.mem_append_left _ h)))
theorem ztL_state_X6_369 : ∀ w ∈ (vx_atS RX6 369 "java/lang/IndexOutOfBoundsException" ["java/lang/RuntimeException", "java/lang/Exception"]).filter goodWord, w ∈ wzL_state := (fun _ h => (List.mem_append_right _ (List.mem_append_right _ h)))
theorem gzL_state_X6_state_84 : GoodIn wzL_state (wsV RL 84 RX6 yX6_state wzX6_state) := (goodIn_app (z_lift (goodIn_r _ [1, 2, 3, 4] rfl (by decide +kernel))) (goodIn_app (z_lift (goodIn_r wzEX6_state [5, 6, 7, 8, 4, 9, 10, 11, 12] rfl zgEX6_state)) (goodIn_app (goodIn_sub (fun _ h => (List.mem_append_right _ (List.mem_append_left _ h))) zgU_X6) (goodIn_sub (fun _ h => (List.mem_append_right _ (List.mem_append_right _ h))) zgV_X6_369))))
set_option maxHeartbeats 4000000 in
set_option maxRecDepth 100000 in
theorem zc_L_state (l : Launch) (hnt : l.stackTraces = false) (D : va_G) (G : Nat × Nat × Nat) (xo : Nat) (xg : Nat) (xp : Nat) (xq : Nat) (r1 : Nat) (r2 : Nat) (r3 : Nat) (r4 : Nat) (se : Nat) (ts : Int32) (hq : Int32) (cq : ClassId) (ou : Nat) (cJ : ClassId) (ii : Int32) (sz : Nat) : vx_Met l yL_state wzL_state ({ frames := 8, cells := 1, slots := 6, locals := 125 }) (va_Pc [.ref xo, .int ii, .ref ou] (p_RW D G [(cq, .object "Gatherhouse$Piece"), (cJ, .long)] [(xo, .inr (11, [.ref xg, .int 0, .ref xp, .int 0, .ref xq, .int 0, .ref r1, .ref r2, .ref r3, .ref r4, .ref se, .int ts, .int hq, .int 40, .int 0, .int 0])), (xq, .inl (cq, 16, .inr (.inr (.inr (.inr (fun _ => none)))))), (ou, .inl (cJ, 1, .inr (.inl (fun _ => 0))))] sz)) (va_Qi (fun (r : Int32) (u : Unit) => r = 1) (fun (u : Unit) (t : State) => True) (va_A [(xo, .inr (11, [.ref xg, .int 0, .ref xp, .int 0, .ref xq, .int 0, .ref r1, .ref r2, .ref r3, .ref r4, .ref se, .int ts, .int hq, .int 40, .int 0, .int 0])), (xq, .inl (cq, 16, .inr (.inr (.inr (.inr (fun _ => none)))))), (ou, .inl (cJ, 1, .inr (.inl (fun _ => 0))))] sz)) (vx_X (fun (_ : Unit) => True) (fun E (_ : Unit) (_ : State) => False) (va_A [(xo, .inr (11, [.ref xg, .int 0, .ref xp, .int 0, .ref xq, .int 0, .ref r1, .ref r2, .ref r3, .ref r4, .ref se, .int ts, .int hq, .int 40, .int 0, .int 0])), (xq, .inl (cq, 16, .inr (.inr (.inr (.inr (fun _ => none)))))), (ou, .inl (cJ, 1, .inr (.inl (fun _ => 0))))] sz)) 1 6 (va_A [(xo, .inr (11, [.ref xg, .int 0, .ref xp, .int 0, .ref xq, .int 0, .ref r1, .ref r2, .ref r3, .ref r4, .ref se, .int ts, .int hq, .int 40, .int 0, .int 0])), (xq, .inl (cq, 16, .inr (.inr (.inr (.inr (fun _ => none)))))), (ou, .inl (cJ, 1, .inr (.inl (fun _ => 0))))] sz) := by
  refine vx_ofWH (cc := cL_state) (maxL := 4) (ret := (some .int)) (by decide) rfl ?_
  intro p e s m args below meth c s₁ B hml hv
  obtain ⟨rfl, hsz, hP, hK, hD0, hT, hZ⟩ := hv
  have hx := B.exec
  have hb := B.bytes
  have hr := B.returns
  have hts := atoms_spec (ws := wzL_state) B.pre
  have hown : s.vm.findClass RL = some m.cls := findClass_of_methodNamed B.named
  have hlocks := B.notSynchronized
  have hxe := vx_table (x := yL_state) B (hts _ List.mem_cons_self)
  subst hsz
  have hD := hD0.self (sz := s.heap.size)
  generalize hAe : va_A [(xo, .inr (11, [.ref xg, .int 0, .ref xp, .int 0, .ref xq, .int 0, .ref r1, .ref r2, .ref r3, .ref r4, .ref se, .int ts, .int hq, .int 40, .int 0, .int 0])), (xq, .inl (cq, 16, .inr (.inr (.inr (.inr (fun _ => none)))))), (ou, .inl (cJ, 1, .inr (.inl (fun _ => 0))))] s.heap.size = A at hD hZ ⊢
  have hA : ∀ q : Nat, s.heap.size ≤ q → A q := fun q h => by rw [← hAe]; exact Or.inr h
  have hS : va_S A s.heap s.heap [] := va_S.rf
  have hl := lv_entry ([.ref xo, .int ii, .ref ou]) (n := 4) (Nat.le_of_ble_eq_true rfl)
  rw [lg_entry_eq]
  generalize (lg_sl ([.ref xo, .int ii, .ref ou]) ++ List.replicate (4 - (lg_sl ([.ref xo, .int ii, .ref ou])).length) Slot.unset).toArray = ls at hl ⊢
  have hl : lv_has ls 4 [(0, .ref xo), (1, .int ii), (2, .ref ou)] := hl
  refine lv_aload_n hx hb dL_state_0 rfl (lv_at hl 2 rfl) ?_
  refine lv_iconst (v := 0) hx hb dL_state_1 (by decide) ?_
  refine lv_aload_n hx hb dL_state_2 rfl (lv_at hl 0 rfl) ?_
  refine lv_iload_n hx hb dL_state_3 rfl (lv_at hl 1 rfl) ?_
  have hFc := va_free (wc := [(xo, .inr (11, [.ref xg, .int 0, .ref xp, .int 0, .ref xq, .int 0, .ref r1, .ref r2, .ref r3, .ref r4, .ref se, .int ts, .int hq, .int 40, .int 0, .int 0])), (xq, .inl (cq, 16, .inr (.inr (.inr (.inr (fun _ => none))))))]) hD hS hA [0, 1] rfl
  refine vx_calli (vx_runV (As := [.int ii]) (rest := [.int 0, .ref ou]) ⟨hx, hb, hml, hown, hts⟩ (zc_X6_state l hnt D G xo xg xp xq r1 r2 r3 r4 se ts hq cq ii s.heap.size) (cwV 1 hts gzL_state_X6_state_84 rfl rfl rfl (by decide +kernel) ⟨(Nat.le_of_ble_eq_true rfl), (Nat.le_of_ble_eq_true rfl)⟩) ⟨p_RW_blind, va_recv hK hP (ci := 11) (q0 := 0) rfl rfl, (p_RW_at (tc := [(cq, .object "Gatherhouse$Piece")]) (wc := [(xo, .inr (11, [.ref xg, .int 0, .ref xp, .int 0, .ref xq, .int 0, .ref r1, .ref r2, .ref r3, .ref r4, .ref se, .int ts, .int hq, .int 40, .int 0, .int 0])), (xq, .inl (cq, 16, .inr (.inr (.inr (.inr (fun _ => none))))))]) hP hK hD hS hA hT hZ [0, 1] [0] rfl rfl (by decide) rfl [.ref xo, .int ii])⟩ rfl rfl hl.1 rfl (lv_room (Nat.le_of_ble_eq_true rfl)) dL_state_4 ⟨(Nat.le_of_ble_eq_true rfl), (Nat.le_of_ble_eq_true rfl)⟩) hS (fun q _ h => hFc q h) hFc (fun q _ h => hFc q h) (fun E ce q9 u t H locs ht hvm hpx hBX hz1 hk1 hS hce hcv hcl => ?_) (fun r_723 u t H locs ht hvm w_724 hB hz1 hk1 hS => ?_)
  · have hBX : (E = "java/lang/IndexOutOfBoundsException") := hBX
    rcases hBX with rfl
    refine vx_catch (own := RL) (name := "java/lang/IndexOutOfBoundsException") hown ([] : List ExceptionTableEntry) ⟨0, 9, 12, 21⟩ ([] : List ExceptionTableEntry) (by rw [hxe]; rfl) (fun _ h => absurd h List.not_mem_nil) (by decide) (by decide) (hts (.classLink RL 21 "java/lang/IndexOutOfBoundsException") (by decide +kernel)) (va_Nw.use rfl (hT.2.2.1 ("java/lang/IndexOutOfBoundsException", "java/lang/IndexOutOfBoundsException") (by decide +kernel))) hce hcv hcl ?_
    refine W.eq (g2 := F0 m 12 ls [.ref q9]) rfl ?_
    refine lv_astore_n (lv' := [(3, .ref q9), (0, .ref xo), (1, .int ii), (2, .ref ou)]) hx hb dL_state_12 rfl hl (by decide) rfl (fun ls hl => ?_)
    refine lv_iconst (v := 1) hx hb dL_state_13 (by decide) ?_
    refine vx_ret ?_
    exact W.iret (v := 1) hx hb hr (fun t ht hW => ⟨⟨1, (), rfl, rfl, trivial⟩, hS.F ht⟩) hS.2.2 dL_state_14
  · exact w_724.elim
theorem dL_heatOf_0 : decode cL_heatOf 0 = .ok (.aload_n 2, 1) := by decide +kernel
theorem dL_heatOf_1 : decode cL_heatOf 1 = .ok (.iconst 0, 1) := by decide +kernel
theorem dL_heatOf_2 : decode cL_heatOf 2 = .ok (.aload_n 0, 1) := by decide +kernel
theorem dL_heatOf_3 : decode cL_heatOf 3 = .ok (.iload_n 1, 1) := by decide +kernel
theorem dL_heatOf_4 : decode cL_heatOf 4 = .ok (.invokevirtual 88, 3) := by decide +kernel
theorem dL_heatOf_12 : decode cL_heatOf 12 = .ok (.astore_n 3, 1) := by decide +kernel
theorem dL_heatOf_13 : decode cL_heatOf 13 = .ok (.iconst 1, 1) := by decide +kernel
theorem dL_heatOf_14 : decode cL_heatOf 14 = .ok (.ireturn, 1) := by decide +kernel
def wzEL_heatOf : List Cond := [.codeWith yL_heatOf cL_heatOf 4 (some .int) [(0, 9, 12, 21), (0, 9, 15, 91)], .methodLink RL 88 yX6_heatOf, .instanceMethod yX6_heatOf, .selects RX6 yX6_heatOf yX6_heatOf, .initialized RX6, .code yX6_heatOf cX6_heatOf 3 (some .int), .methodLink RX6 169 yX6_findPiece, .instanceMethod yX6_findPiece, .selects RX6 yX6_findPiece yX6_findPiece, .code yX6_findPiece cX6_findPiece 3 (some (.object "Gatherhouse$Piece")), .classLink RX6 365 "java/lang/IndexOutOfBoundsException", .initialized "java/lang/IndexOutOfBoundsException", .fieldLink RX6 30 "Gatherhouse" "pieces" "[LGatherhouse$Piece;", .classLink RL 21 "java/lang/IndexOutOfBoundsException"]
def wzL_heatOf : List Cond := wzEL_heatOf ++ (u_ws RX6 TX6 16 ++ ((vx_atS RX6 369 "java/lang/IndexOutOfBoundsException" ["java/lang/RuntimeException", "java/lang/Exception"]).filter goodWord))
theorem zgEL_heatOf : wzEL_heatOf.all goodWord = true := by decide +kernel
theorem zuL_heatOf_X6 : ∀ w ∈ u_ws RX6 TX6 16, w ∈ wzL_heatOf := (fun _ h => (List.mem_append_right _ (List.mem_append_left _ h)))
theorem ztL_heatOf_X6_369 : ∀ w ∈ (vx_atS RX6 369 "java/lang/IndexOutOfBoundsException" ["java/lang/RuntimeException", "java/lang/Exception"]).filter goodWord, w ∈ wzL_heatOf := (fun _ h => (List.mem_append_right _ (List.mem_append_right _ h)))
theorem gzL_heatOf_X6_heatOf_88 : GoodIn wzL_heatOf (wsV RL 88 RX6 yX6_heatOf wzX6_heatOf) := (goodIn_app (z_lift (goodIn_r _ [1, 2, 3, 4] rfl (by decide +kernel))) (goodIn_app (z_lift (goodIn_r wzEX6_heatOf [5, 6, 7, 8, 4, 9, 10, 11, 12] rfl zgEX6_heatOf)) (goodIn_app (goodIn_sub (fun _ h => (List.mem_append_right _ (List.mem_append_left _ h))) zgU_X6) (goodIn_sub (fun _ h => (List.mem_append_right _ (List.mem_append_right _ h))) zgV_X6_369))))
set_option maxHeartbeats 4000000 in
set_option maxRecDepth 100000 in
theorem zc_L_heatOf (l : Launch) (hnt : l.stackTraces = false) (D : va_G) (G : Nat × Nat × Nat) (xo : Nat) (xg : Nat) (xp : Nat) (xq : Nat) (r1 : Nat) (r2 : Nat) (r3 : Nat) (r4 : Nat) (se : Nat) (ts : Int32) (hq : Int32) (cq : ClassId) (ou : Nat) (cJ : ClassId) (ii : Int32) (sz : Nat) : vx_Met l yL_heatOf wzL_heatOf ({ frames := 8, cells := 1, slots := 6, locals := 126 }) (va_Pc [.ref xo, .int ii, .ref ou] (p_RW D G [(cq, .object "Gatherhouse$Piece"), (cJ, .long)] [(xo, .inr (11, [.ref xg, .int 0, .ref xp, .int 0, .ref xq, .int 0, .ref r1, .ref r2, .ref r3, .ref r4, .ref se, .int ts, .int hq, .int 40, .int 0, .int 0])), (xq, .inl (cq, 16, .inr (.inr (.inr (.inr (fun _ => none)))))), (ou, .inl (cJ, 1, .inr (.inl (fun _ => 0))))] sz)) (va_Qi (fun (r : Int32) (u : Unit) => r = 1) (fun (u : Unit) (t : State) => True) (va_A [(xo, .inr (11, [.ref xg, .int 0, .ref xp, .int 0, .ref xq, .int 0, .ref r1, .ref r2, .ref r3, .ref r4, .ref se, .int ts, .int hq, .int 40, .int 0, .int 0])), (xq, .inl (cq, 16, .inr (.inr (.inr (.inr (fun _ => none)))))), (ou, .inl (cJ, 1, .inr (.inl (fun _ => 0))))] sz)) (vx_X (fun (_ : Unit) => True) (fun E (_ : Unit) (_ : State) => False) (va_A [(xo, .inr (11, [.ref xg, .int 0, .ref xp, .int 0, .ref xq, .int 0, .ref r1, .ref r2, .ref r3, .ref r4, .ref se, .int ts, .int hq, .int 40, .int 0, .int 0])), (xq, .inl (cq, 16, .inr (.inr (.inr (.inr (fun _ => none)))))), (ou, .inl (cJ, 1, .inr (.inl (fun _ => 0))))] sz)) 1 6 (va_A [(xo, .inr (11, [.ref xg, .int 0, .ref xp, .int 0, .ref xq, .int 0, .ref r1, .ref r2, .ref r3, .ref r4, .ref se, .int ts, .int hq, .int 40, .int 0, .int 0])), (xq, .inl (cq, 16, .inr (.inr (.inr (.inr (fun _ => none)))))), (ou, .inl (cJ, 1, .inr (.inl (fun _ => 0))))] sz) := by
  refine vx_ofWH (cc := cL_heatOf) (maxL := 4) (ret := (some .int)) (by decide) rfl ?_
  intro p e s m args below meth c s₁ B hml hv
  obtain ⟨rfl, hsz, hP, hK, hD0, hT, hZ⟩ := hv
  have hx := B.exec
  have hb := B.bytes
  have hr := B.returns
  have hts := atoms_spec (ws := wzL_heatOf) B.pre
  have hown : s.vm.findClass RL = some m.cls := findClass_of_methodNamed B.named
  have hlocks := B.notSynchronized
  have hxe := vx_table (x := yL_heatOf) B (hts _ List.mem_cons_self)
  subst hsz
  have hD := hD0.self (sz := s.heap.size)
  generalize hAe : va_A [(xo, .inr (11, [.ref xg, .int 0, .ref xp, .int 0, .ref xq, .int 0, .ref r1, .ref r2, .ref r3, .ref r4, .ref se, .int ts, .int hq, .int 40, .int 0, .int 0])), (xq, .inl (cq, 16, .inr (.inr (.inr (.inr (fun _ => none)))))), (ou, .inl (cJ, 1, .inr (.inl (fun _ => 0))))] s.heap.size = A at hD hZ ⊢
  have hA : ∀ q : Nat, s.heap.size ≤ q → A q := fun q h => by rw [← hAe]; exact Or.inr h
  have hS : va_S A s.heap s.heap [] := va_S.rf
  have hl := lv_entry ([.ref xo, .int ii, .ref ou]) (n := 4) (Nat.le_of_ble_eq_true rfl)
  rw [lg_entry_eq]
  generalize (lg_sl ([.ref xo, .int ii, .ref ou]) ++ List.replicate (4 - (lg_sl ([.ref xo, .int ii, .ref ou])).length) Slot.unset).toArray = ls at hl ⊢
  have hl : lv_has ls 4 [(0, .ref xo), (1, .int ii), (2, .ref ou)] := hl
  refine lv_aload_n hx hb dL_heatOf_0 rfl (lv_at hl 2 rfl) ?_
  refine lv_iconst (v := 0) hx hb dL_heatOf_1 (by decide) ?_
  refine lv_aload_n hx hb dL_heatOf_2 rfl (lv_at hl 0 rfl) ?_
  refine lv_iload_n hx hb dL_heatOf_3 rfl (lv_at hl 1 rfl) ?_
  have hFc := va_free (wc := [(xo, .inr (11, [.ref xg, .int 0, .ref xp, .int 0, .ref xq, .int 0, .ref r1, .ref r2, .ref r3, .ref r4, .ref se, .int ts, .int hq, .int 40, .int 0, .int 0])), (xq, .inl (cq, 16, .inr (.inr (.inr (.inr (fun _ => none))))))]) hD hS hA [0, 1] rfl
  refine vx_calli (vx_runV (As := [.int ii]) (rest := [.int 0, .ref ou]) ⟨hx, hb, hml, hown, hts⟩ (zc_X6_heatOf l hnt D G xo xg xp xq r1 r2 r3 r4 se ts hq cq ii s.heap.size) (cwV 1 hts gzL_heatOf_X6_heatOf_88 rfl rfl rfl (by decide +kernel) ⟨(Nat.le_of_ble_eq_true rfl), (Nat.le_of_ble_eq_true rfl)⟩) ⟨p_RW_blind, va_recv hK hP (ci := 11) (q0 := 0) rfl rfl, (p_RW_at (tc := [(cq, .object "Gatherhouse$Piece")]) (wc := [(xo, .inr (11, [.ref xg, .int 0, .ref xp, .int 0, .ref xq, .int 0, .ref r1, .ref r2, .ref r3, .ref r4, .ref se, .int ts, .int hq, .int 40, .int 0, .int 0])), (xq, .inl (cq, 16, .inr (.inr (.inr (.inr (fun _ => none))))))]) hP hK hD hS hA hT hZ [0, 1] [0] rfl rfl (by decide) rfl [.ref xo, .int ii])⟩ rfl rfl hl.1 rfl (lv_room (Nat.le_of_ble_eq_true rfl)) dL_heatOf_4 ⟨(Nat.le_of_ble_eq_true rfl), (Nat.le_of_ble_eq_true rfl)⟩) hS (fun q _ h => hFc q h) hFc (fun q _ h => hFc q h) (fun E ce q9 u t H locs ht hvm hpx hBX hz1 hk1 hS hce hcv hcl => ?_) (fun r_725 u t H locs ht hvm w_726 hB hz1 hk1 hS => ?_)
  · have hBX : (E = "java/lang/IndexOutOfBoundsException") := hBX
    rcases hBX with rfl
    refine vx_catch (own := RL) (name := "java/lang/IndexOutOfBoundsException") hown ([] : List ExceptionTableEntry) ⟨0, 9, 12, 21⟩ ([⟨0, 9, 15, 91⟩] : List ExceptionTableEntry) (by rw [hxe]; rfl) (fun _ h => absurd h List.not_mem_nil) (by decide) (by decide) (hts (.classLink RL 21 "java/lang/IndexOutOfBoundsException") (by decide +kernel)) (va_Nw.use rfl (hT.2.2.1 ("java/lang/IndexOutOfBoundsException", "java/lang/IndexOutOfBoundsException") (by decide +kernel))) hce hcv hcl ?_
    refine W.eq (g2 := F0 m 12 ls [.ref q9]) rfl ?_
    refine lv_astore_n (lv' := [(3, .ref q9), (0, .ref xo), (1, .int ii), (2, .ref ou)]) hx hb dL_heatOf_12 rfl hl (by decide) rfl (fun ls hl => ?_)
    refine lv_iconst (v := 1) hx hb dL_heatOf_13 (by decide) ?_
    refine vx_ret ?_
    exact W.iret (v := 1) hx hb hr (fun t ht hW => ⟨⟨1, (), rfl, rfl, trivial⟩, hS.F ht⟩) hS.2.2 dL_heatOf_14
  · exact w_726.elim
theorem dL_rings_0 : decode cL_rings 0 = .ok (.aload_n 2, 1) := by decide +kernel
theorem dL_rings_1 : decode cL_rings 1 = .ok (.iconst 0, 1) := by decide +kernel
theorem dL_rings_2 : decode cL_rings 2 = .ok (.aload_n 0, 1) := by decide +kernel
theorem dL_rings_3 : decode cL_rings 3 = .ok (.iload_n 1, 1) := by decide +kernel
theorem dL_rings_4 : decode cL_rings 4 = .ok (.invokevirtual 93, 3) := by decide +kernel
theorem dL_rings_12 : decode cL_rings 12 = .ok (.astore_n 3, 1) := by decide +kernel
theorem dL_rings_13 : decode cL_rings 13 = .ok (.iconst 1, 1) := by decide +kernel
theorem dL_rings_14 : decode cL_rings 14 = .ok (.ireturn, 1) := by decide +kernel
def wzEL_rings : List Cond := [.codeWith yL_rings cL_rings 4 (some .int) [(0, 9, 12, 21)], .methodLink RL 93 yX6_rings, .instanceMethod yX6_rings, .selects RX6 yX6_rings yX6_rings, .initialized RX6, .code yX6_rings cX6_rings 2 (some .int), .methodLink RX6 169 yX6_findPiece, .instanceMethod yX6_findPiece, .selects RX6 yX6_findPiece yX6_findPiece, .code yX6_findPiece cX6_findPiece 3 (some (.object "Gatherhouse$Piece")), .classLink RX6 365 "java/lang/IndexOutOfBoundsException", .initialized "java/lang/IndexOutOfBoundsException", .fieldLink RX6 30 "Gatherhouse" "pieces" "[LGatherhouse$Piece;", .classLink RL 21 "java/lang/IndexOutOfBoundsException"]
def wzL_rings : List Cond := wzEL_rings ++ (u_ws RX6 TX6 16 ++ ((vx_atS RX6 369 "java/lang/IndexOutOfBoundsException" ["java/lang/RuntimeException", "java/lang/Exception"]).filter goodWord))
theorem zgEL_rings : wzEL_rings.all goodWord = true := by decide +kernel
theorem zuL_rings_X6 : ∀ w ∈ u_ws RX6 TX6 16, w ∈ wzL_rings := (fun _ h => (List.mem_append_right _ (List.mem_append_left _ h)))
theorem ztL_rings_X6_369 : ∀ w ∈ (vx_atS RX6 369 "java/lang/IndexOutOfBoundsException" ["java/lang/RuntimeException", "java/lang/Exception"]).filter goodWord, w ∈ wzL_rings := (fun _ h => (List.mem_append_right _ (List.mem_append_right _ h)))
theorem gzL_rings_X6_rings_93 : GoodIn wzL_rings (wsV RL 93 RX6 yX6_rings wzX6_rings) := (goodIn_app (z_lift (goodIn_r _ [1, 2, 3, 4] rfl (by decide +kernel))) (goodIn_app (z_lift (goodIn_r wzEX6_rings [5, 6, 7, 8, 4, 9, 10, 11, 12] rfl zgEX6_rings)) (goodIn_app (goodIn_sub (fun _ h => (List.mem_append_right _ (List.mem_append_left _ h))) zgU_X6) (goodIn_sub (fun _ h => (List.mem_append_right _ (List.mem_append_right _ h))) zgV_X6_369))))
set_option maxHeartbeats 4000000 in
set_option maxRecDepth 100000 in
theorem zc_L_rings (l : Launch) (hnt : l.stackTraces = false) (D : va_G) (G : Nat × Nat × Nat) (xo : Nat) (xg : Nat) (xp : Nat) (xq : Nat) (r1 : Nat) (r2 : Nat) (r3 : Nat) (r4 : Nat) (se : Nat) (ts : Int32) (hq : Int32) (cq : ClassId) (ou : Nat) (cJ : ClassId) (ii : Int32) (sz : Nat) : vx_Met l yL_rings wzL_rings ({ frames := 8, cells := 1, slots := 6, locals := 125 }) (va_Pc [.ref xo, .int ii, .ref ou] (p_RW D G [(cq, .object "Gatherhouse$Piece"), (cJ, .long)] [(xo, .inr (11, [.ref xg, .int 0, .ref xp, .int 0, .ref xq, .int 0, .ref r1, .ref r2, .ref r3, .ref r4, .ref se, .int ts, .int hq, .int 40, .int 0, .int 0])), (xq, .inl (cq, 16, .inr (.inr (.inr (.inr (fun _ => none)))))), (ou, .inl (cJ, 1, .inr (.inl (fun _ => 0))))] sz)) (va_Qi (fun (r : Int32) (u : Unit) => r = 1) (fun (u : Unit) (t : State) => True) (va_A [(xo, .inr (11, [.ref xg, .int 0, .ref xp, .int 0, .ref xq, .int 0, .ref r1, .ref r2, .ref r3, .ref r4, .ref se, .int ts, .int hq, .int 40, .int 0, .int 0])), (xq, .inl (cq, 16, .inr (.inr (.inr (.inr (fun _ => none)))))), (ou, .inl (cJ, 1, .inr (.inl (fun _ => 0))))] sz)) (vx_X (fun (_ : Unit) => True) (fun E (_ : Unit) (_ : State) => False) (va_A [(xo, .inr (11, [.ref xg, .int 0, .ref xp, .int 0, .ref xq, .int 0, .ref r1, .ref r2, .ref r3, .ref r4, .ref se, .int ts, .int hq, .int 40, .int 0, .int 0])), (xq, .inl (cq, 16, .inr (.inr (.inr (.inr (fun _ => none)))))), (ou, .inl (cJ, 1, .inr (.inl (fun _ => 0))))] sz)) 1 6 (va_A [(xo, .inr (11, [.ref xg, .int 0, .ref xp, .int 0, .ref xq, .int 0, .ref r1, .ref r2, .ref r3, .ref r4, .ref se, .int ts, .int hq, .int 40, .int 0, .int 0])), (xq, .inl (cq, 16, .inr (.inr (.inr (.inr (fun _ => none)))))), (ou, .inl (cJ, 1, .inr (.inl (fun _ => 0))))] sz) := by
  refine vx_ofWH (cc := cL_rings) (maxL := 4) (ret := (some .int)) (by decide) rfl ?_
  intro p e s m args below meth c s₁ B hml hv
  obtain ⟨rfl, hsz, hP, hK, hD0, hT, hZ⟩ := hv
  have hx := B.exec
  have hb := B.bytes
  have hr := B.returns
  have hts := atoms_spec (ws := wzL_rings) B.pre
  have hown : s.vm.findClass RL = some m.cls := findClass_of_methodNamed B.named
  have hlocks := B.notSynchronized
  have hxe := vx_table (x := yL_rings) B (hts _ List.mem_cons_self)
  subst hsz
  have hD := hD0.self (sz := s.heap.size)
  generalize hAe : va_A [(xo, .inr (11, [.ref xg, .int 0, .ref xp, .int 0, .ref xq, .int 0, .ref r1, .ref r2, .ref r3, .ref r4, .ref se, .int ts, .int hq, .int 40, .int 0, .int 0])), (xq, .inl (cq, 16, .inr (.inr (.inr (.inr (fun _ => none)))))), (ou, .inl (cJ, 1, .inr (.inl (fun _ => 0))))] s.heap.size = A at hD hZ ⊢
  have hA : ∀ q : Nat, s.heap.size ≤ q → A q := fun q h => by rw [← hAe]; exact Or.inr h
  have hS : va_S A s.heap s.heap [] := va_S.rf
  have hl := lv_entry ([.ref xo, .int ii, .ref ou]) (n := 4) (Nat.le_of_ble_eq_true rfl)
  rw [lg_entry_eq]
  generalize (lg_sl ([.ref xo, .int ii, .ref ou]) ++ List.replicate (4 - (lg_sl ([.ref xo, .int ii, .ref ou])).length) Slot.unset).toArray = ls at hl ⊢
  have hl : lv_has ls 4 [(0, .ref xo), (1, .int ii), (2, .ref ou)] := hl
  refine lv_aload_n hx hb dL_rings_0 rfl (lv_at hl 2 rfl) ?_
  refine lv_iconst (v := 0) hx hb dL_rings_1 (by decide) ?_
  refine lv_aload_n hx hb dL_rings_2 rfl (lv_at hl 0 rfl) ?_
  refine lv_iload_n hx hb dL_rings_3 rfl (lv_at hl 1 rfl) ?_
  have hFc := va_free (wc := [(xo, .inr (11, [.ref xg, .int 0, .ref xp, .int 0, .ref xq, .int 0, .ref r1, .ref r2, .ref r3, .ref r4, .ref se, .int ts, .int hq, .int 40, .int 0, .int 0])), (xq, .inl (cq, 16, .inr (.inr (.inr (.inr (fun _ => none))))))]) hD hS hA [0, 1] rfl
  refine vx_calli (vx_runV (As := [.int ii]) (rest := [.int 0, .ref ou]) ⟨hx, hb, hml, hown, hts⟩ (zc_X6_rings l hnt D G xo xg xp xq r1 r2 r3 r4 se ts hq cq ii s.heap.size) (cwV 1 hts gzL_rings_X6_rings_93 rfl rfl rfl (by decide +kernel) ⟨(Nat.le_of_ble_eq_true rfl), (Nat.le_of_ble_eq_true rfl)⟩) ⟨p_RW_blind, va_recv hK hP (ci := 11) (q0 := 0) rfl rfl, (p_RW_at (tc := [(cq, .object "Gatherhouse$Piece")]) (wc := [(xo, .inr (11, [.ref xg, .int 0, .ref xp, .int 0, .ref xq, .int 0, .ref r1, .ref r2, .ref r3, .ref r4, .ref se, .int ts, .int hq, .int 40, .int 0, .int 0])), (xq, .inl (cq, 16, .inr (.inr (.inr (.inr (fun _ => none))))))]) hP hK hD hS hA hT hZ [0, 1] [0] rfl rfl (by decide) rfl [.ref xo, .int ii])⟩ rfl rfl hl.1 rfl (lv_room (Nat.le_of_ble_eq_true rfl)) dL_rings_4 ⟨(Nat.le_of_ble_eq_true rfl), (Nat.le_of_ble_eq_true rfl)⟩) hS (fun q _ h => hFc q h) hFc (fun q _ h => hFc q h) (fun E ce q9 u t H locs ht hvm hpx hBX hz1 hk1 hS hce hcv hcl => ?_) (fun r_727 u t H locs ht hvm w_728 hB hz1 hk1 hS => ?_)
  · have hBX : (E = "java/lang/IndexOutOfBoundsException") := hBX
    rcases hBX with rfl
    refine vx_catch (own := RL) (name := "java/lang/IndexOutOfBoundsException") hown ([] : List ExceptionTableEntry) ⟨0, 9, 12, 21⟩ ([] : List ExceptionTableEntry) (by rw [hxe]; rfl) (fun _ h => absurd h List.not_mem_nil) (by decide) (by decide) (hts (.classLink RL 21 "java/lang/IndexOutOfBoundsException") (by decide +kernel)) (va_Nw.use rfl (hT.2.2.1 ("java/lang/IndexOutOfBoundsException", "java/lang/IndexOutOfBoundsException") (by decide +kernel))) hce hcv hcl ?_
    refine W.eq (g2 := F0 m 12 ls [.ref q9]) rfl ?_
    refine lv_astore_n (lv' := [(3, .ref q9), (0, .ref xo), (1, .int ii), (2, .ref ou)]) hx hb dL_rings_12 rfl hl (by decide) rfl (fun ls hl => ?_)
    refine lv_iconst (v := 1) hx hb dL_rings_13 (by decide) ?_
    refine vx_ret ?_
    exact W.iret (v := 1) hx hb hr (fun t ht hW => ⟨⟨1, (), rfl, rfl, trivial⟩, hS.F ht⟩) hS.2.2 dL_rings_14
  · exact w_728.elim
theorem dL_ring_0 : decode cL_ring 0 = .ok (.aload 4, 2) := by decide +kernel
theorem dL_ring_2 : decode cL_ring 2 = .ok (.iconst 0, 1) := by decide +kernel
theorem dL_ring_3 : decode cL_ring 3 = .ok (.aload_n 0, 1) := by decide +kernel
theorem dL_ring_4 : decode cL_ring 4 = .ok (.iload_n 1, 1) := by decide +kernel
theorem dL_ring_5 : decode cL_ring 5 = .ok (.iload_n 2, 1) := by decide +kernel
theorem dL_ring_6 : decode cL_ring 6 = .ok (.iload_n 3, 1) := by decide +kernel
theorem dL_ring_7 : decode cL_ring 7 = .ok (.invokevirtual 96, 3) := by decide +kernel
theorem dL_ring_15 : decode cL_ring 15 = .ok (.astore 5, 2) := by decide +kernel
theorem dL_ring_17 : decode cL_ring 17 = .ok (.iconst 1, 1) := by decide +kernel
theorem dL_ring_18 : decode cL_ring 18 = .ok (.ireturn, 1) := by decide +kernel
def wzEL_ring : List Cond := [.codeWith yL_ring cL_ring 6 (some .int) [(0, 12, 15, 21), (0, 12, 19, 13)], .methodLink RL 96 yX6_ring, .instanceMethod yX6_ring, .selects RX6 yX6_ring yX6_ring, .initialized RX6, .code yX6_ring cX6_ring 5 (some .int), .methodLink RX6 169 yX6_findPiece, .instanceMethod yX6_findPiece, .selects RX6 yX6_findPiece yX6_findPiece, .code yX6_findPiece cX6_findPiece 3 (some (.object "Gatherhouse$Piece")), .classLink RX6 365 "java/lang/IndexOutOfBoundsException", .initialized "java/lang/IndexOutOfBoundsException", .fieldLink RX6 30 "Gatherhouse" "pieces" "[LGatherhouse$Piece;", .classLink RL 21 "java/lang/IndexOutOfBoundsException"]
def wzL_ring : List Cond := wzEL_ring ++ (u_ws RX6 TX6 16 ++ ((vx_atS RX6 369 "java/lang/IndexOutOfBoundsException" ["java/lang/RuntimeException", "java/lang/Exception"]).filter goodWord))
theorem zgEL_ring : wzEL_ring.all goodWord = true := by decide +kernel
theorem zuL_ring_X6 : ∀ w ∈ u_ws RX6 TX6 16, w ∈ wzL_ring := (fun _ h => (List.mem_append_right _ (List.mem_append_left _ h)))
theorem ztL_ring_X6_369 : ∀ w ∈ (vx_atS RX6 369 "java/lang/IndexOutOfBoundsException" ["java/lang/RuntimeException", "java/lang/Exception"]).filter goodWord, w ∈ wzL_ring := (fun _ h => (List.mem_append_right _ (List.mem_append_right _ h)))
theorem gzL_ring_X6_ring_96 : GoodIn wzL_ring (wsV RL 96 RX6 yX6_ring wzX6_ring) := (goodIn_app (z_lift (goodIn_r _ [1, 2, 3, 4] rfl (by decide +kernel))) (goodIn_app (z_lift (goodIn_r wzEX6_ring [5, 6, 7, 8, 4, 9, 10, 11, 12] rfl zgEX6_ring)) (goodIn_app (goodIn_sub (fun _ h => (List.mem_append_right _ (List.mem_append_left _ h))) zgU_X6) (goodIn_sub (fun _ h => (List.mem_append_right _ (List.mem_append_right _ h))) zgV_X6_369))))
set_option maxHeartbeats 4000000 in
set_option maxRecDepth 100000 in
theorem zc_L_ring (l : Launch) (hnt : l.stackTraces = false) (D : va_G) (G : Nat × Nat × Nat) (xo : Nat) (xg : Nat) (xp : Nat) (xq : Nat) (r1 : Nat) (r2 : Nat) (r3 : Nat) (r4 : Nat) (se : Nat) (ts : Int32) (hq : Int32) (cq : ClassId) (ou : Nat) (cJ : ClassId) (ii : Int32) (jj : Int32) (kk : Int32) (sz : Nat) : vx_Met l yL_ring wzL_ring ({ frames := 8, cells := 1, slots := 6, locals := 128 }) (va_Pc [.ref xo, .int ii, .int jj, .int kk, .ref ou] (p_RW D G [(cq, .object "Gatherhouse$Piece"), (cJ, .long)] [(xo, .inr (11, [.ref xg, .int 0, .ref xp, .int 0, .ref xq, .int 0, .ref r1, .ref r2, .ref r3, .ref r4, .ref se, .int ts, .int hq, .int 40, .int 0, .int 0])), (xq, .inl (cq, 16, .inr (.inr (.inr (.inr (fun _ => none)))))), (ou, .inl (cJ, 1, .inr (.inl (fun _ => 0))))] sz)) (va_Qi (fun (r : Int32) (u : Unit) => r = 1) (fun (u : Unit) (t : State) => True) (va_A [(xo, .inr (11, [.ref xg, .int 0, .ref xp, .int 0, .ref xq, .int 0, .ref r1, .ref r2, .ref r3, .ref r4, .ref se, .int ts, .int hq, .int 40, .int 0, .int 0])), (xq, .inl (cq, 16, .inr (.inr (.inr (.inr (fun _ => none)))))), (ou, .inl (cJ, 1, .inr (.inl (fun _ => 0))))] sz)) (vx_X (fun (_ : Unit) => True) (fun E (_ : Unit) (_ : State) => False) (va_A [(xo, .inr (11, [.ref xg, .int 0, .ref xp, .int 0, .ref xq, .int 0, .ref r1, .ref r2, .ref r3, .ref r4, .ref se, .int ts, .int hq, .int 40, .int 0, .int 0])), (xq, .inl (cq, 16, .inr (.inr (.inr (.inr (fun _ => none)))))), (ou, .inl (cJ, 1, .inr (.inl (fun _ => 0))))] sz)) 1 6 (va_A [(xo, .inr (11, [.ref xg, .int 0, .ref xp, .int 0, .ref xq, .int 0, .ref r1, .ref r2, .ref r3, .ref r4, .ref se, .int ts, .int hq, .int 40, .int 0, .int 0])), (xq, .inl (cq, 16, .inr (.inr (.inr (.inr (fun _ => none)))))), (ou, .inl (cJ, 1, .inr (.inl (fun _ => 0))))] sz) := by
  refine vx_ofWH (cc := cL_ring) (maxL := 6) (ret := (some .int)) (by decide) rfl ?_
  intro p e s m args below meth c s₁ B hml hv
  obtain ⟨rfl, hsz, hP, hK, hD0, hT, hZ⟩ := hv
  have hx := B.exec
  have hb := B.bytes
  have hr := B.returns
  have hts := atoms_spec (ws := wzL_ring) B.pre
  have hown : s.vm.findClass RL = some m.cls := findClass_of_methodNamed B.named
  have hlocks := B.notSynchronized
  have hxe := vx_table (x := yL_ring) B (hts _ List.mem_cons_self)
  subst hsz
  have hD := hD0.self (sz := s.heap.size)
  generalize hAe : va_A [(xo, .inr (11, [.ref xg, .int 0, .ref xp, .int 0, .ref xq, .int 0, .ref r1, .ref r2, .ref r3, .ref r4, .ref se, .int ts, .int hq, .int 40, .int 0, .int 0])), (xq, .inl (cq, 16, .inr (.inr (.inr (.inr (fun _ => none)))))), (ou, .inl (cJ, 1, .inr (.inl (fun _ => 0))))] s.heap.size = A at hD hZ ⊢
  have hA : ∀ q : Nat, s.heap.size ≤ q → A q := fun q h => by rw [← hAe]; exact Or.inr h
  have hS : va_S A s.heap s.heap [] := va_S.rf
  have hl := lv_entry ([.ref xo, .int ii, .int jj, .int kk, .ref ou]) (n := 6) (Nat.le_of_ble_eq_true rfl)
  rw [lg_entry_eq]
  generalize (lg_sl ([.ref xo, .int ii, .int jj, .int kk, .ref ou]) ++ List.replicate (6 - (lg_sl ([.ref xo, .int ii, .int jj, .int kk, .ref ou])).length) Slot.unset).toArray = ls at hl ⊢
  have hl : lv_has ls 6 [(0, .ref xo), (1, .int ii), (2, .int jj), (3, .int kk), (4, .ref ou)] := hl
  refine lv_aload hx hb dL_ring_0 (lv_at hl 4 rfl) ?_
  refine lv_iconst (v := 0) hx hb dL_ring_2 (by decide) ?_
  refine lv_aload_n hx hb dL_ring_3 rfl (lv_at hl 0 rfl) ?_
  refine lv_iload_n hx hb dL_ring_4 rfl (lv_at hl 1 rfl) ?_
  refine lv_iload_n hx hb dL_ring_5 rfl (lv_at hl 2 rfl) ?_
  refine lv_iload_n hx hb dL_ring_6 rfl (lv_at hl 3 rfl) ?_
  have hFc := va_free (wc := [(xo, .inr (11, [.ref xg, .int 0, .ref xp, .int 0, .ref xq, .int 0, .ref r1, .ref r2, .ref r3, .ref r4, .ref se, .int ts, .int hq, .int 40, .int 0, .int 0])), (xq, .inl (cq, 16, .inr (.inr (.inr (.inr (fun _ => none))))))]) hD hS hA [0, 1] rfl
  refine vx_calli (vx_runV (As := [.int ii, .int jj, .int kk]) (rest := [.int 0, .ref ou]) ⟨hx, hb, hml, hown, hts⟩ (zc_X6_ring l hnt D G xo xg xp xq r1 r2 r3 r4 se ts hq cq ii jj kk s.heap.size) (cwV 3 hts gzL_ring_X6_ring_96 rfl rfl rfl (by decide +kernel) ⟨(Nat.le_of_ble_eq_true rfl), (Nat.le_of_ble_eq_true rfl)⟩) ⟨p_RW_blind, va_recv hK hP (ci := 11) (q0 := 0) rfl rfl, (p_RW_at (tc := [(cq, .object "Gatherhouse$Piece")]) (wc := [(xo, .inr (11, [.ref xg, .int 0, .ref xp, .int 0, .ref xq, .int 0, .ref r1, .ref r2, .ref r3, .ref r4, .ref se, .int ts, .int hq, .int 40, .int 0, .int 0])), (xq, .inl (cq, 16, .inr (.inr (.inr (.inr (fun _ => none))))))]) hP hK hD hS hA hT hZ [0, 1] [0] rfl rfl (by decide) rfl [.ref xo, .int ii, .int jj, .int kk])⟩ rfl rfl hl.1 rfl (lv_room (Nat.le_of_ble_eq_true rfl)) dL_ring_7 ⟨(Nat.le_of_ble_eq_true rfl), (Nat.le_of_ble_eq_true rfl)⟩) hS (fun q _ h => hFc q h) hFc (fun q _ h => hFc q h) (fun E ce q9 u t H locs ht hvm hpx hBX hz1 hk1 hS hce hcv hcl => ?_) (fun r_729 u t H locs ht hvm w_730 hB hz1 hk1 hS => ?_)
  · have hBX : (E = "java/lang/IndexOutOfBoundsException") := hBX
    rcases hBX with rfl
    refine vx_catch (own := RL) (name := "java/lang/IndexOutOfBoundsException") hown ([] : List ExceptionTableEntry) ⟨0, 12, 15, 21⟩ ([⟨0, 12, 19, 13⟩] : List ExceptionTableEntry) (by rw [hxe]; rfl) (fun _ h => absurd h List.not_mem_nil) (by decide) (by decide) (hts (.classLink RL 21 "java/lang/IndexOutOfBoundsException") (by decide +kernel)) (va_Nw.use rfl (hT.2.2.1 ("java/lang/IndexOutOfBoundsException", "java/lang/IndexOutOfBoundsException") (by decide +kernel))) hce hcv hcl ?_
    refine W.eq (g2 := F0 m 15 ls [.ref q9]) rfl ?_
    refine lv_astore (lv' := [(5, .ref q9), (0, .ref xo), (1, .int ii), (2, .int jj), (3, .int kk), (4, .ref ou)]) hx hb dL_ring_15 hl (by decide) rfl (fun ls hl => ?_)
    refine lv_iconst (v := 1) hx hb dL_ring_17 (by decide) ?_
    refine vx_ret ?_
    exact W.iret (v := 1) hx hb hr (fun t ht hW => ⟨⟨1, (), rfl, rfl, trivial⟩, hS.F ht⟩) hS.2.2 dL_ring_18
  · exact w_730.elim
theorem dL_mass_0 : decode cL_mass 0 = .ok (.aload_n 2, 1) := by decide +kernel
theorem dL_mass_1 : decode cL_mass 1 = .ok (.iconst 0, 1) := by decide +kernel
theorem dL_mass_2 : decode cL_mass 2 = .ok (.aload_n 0, 1) := by decide +kernel
theorem dL_mass_3 : decode cL_mass 3 = .ok (.iload_n 1, 1) := by decide +kernel
theorem dL_mass_4 : decode cL_mass 4 = .ok (.invokevirtual 100, 3) := by decide +kernel
theorem dL_mass_12 : decode cL_mass 12 = .ok (.astore_n 3, 1) := by decide +kernel
theorem dL_mass_13 : decode cL_mass 13 = .ok (.iconst 1, 1) := by decide +kernel
theorem dL_mass_14 : decode cL_mass 14 = .ok (.ireturn, 1) := by decide +kernel
def wzEL_mass : List Cond := [.codeWith yL_mass cL_mass 4 (some .int) [(0, 9, 12, 21)], .methodLink RL 100 yX6_mass, .instanceMethod yX6_mass, .selects RX6 yX6_mass yX6_mass, .initialized RX6, .code yX6_mass cX6_mass 2 (some .int), .methodLink RX6 169 yX6_findPiece, .instanceMethod yX6_findPiece, .selects RX6 yX6_findPiece yX6_findPiece, .code yX6_findPiece cX6_findPiece 3 (some (.object "Gatherhouse$Piece")), .classLink RX6 365 "java/lang/IndexOutOfBoundsException", .initialized "java/lang/IndexOutOfBoundsException", .fieldLink RX6 30 "Gatherhouse" "pieces" "[LGatherhouse$Piece;", .classLink RL 21 "java/lang/IndexOutOfBoundsException"]
def wzL_mass : List Cond := wzEL_mass ++ (u_ws RX6 TX6 16 ++ ((vx_atS RX6 369 "java/lang/IndexOutOfBoundsException" ["java/lang/RuntimeException", "java/lang/Exception"]).filter goodWord))
theorem zgEL_mass : wzEL_mass.all goodWord = true := by decide +kernel
theorem zuL_mass_X6 : ∀ w ∈ u_ws RX6 TX6 16, w ∈ wzL_mass := (fun _ h => (List.mem_append_right _ (List.mem_append_left _ h)))
theorem ztL_mass_X6_369 : ∀ w ∈ (vx_atS RX6 369 "java/lang/IndexOutOfBoundsException" ["java/lang/RuntimeException", "java/lang/Exception"]).filter goodWord, w ∈ wzL_mass := (fun _ h => (List.mem_append_right _ (List.mem_append_right _ h)))
theorem gzL_mass_X6_mass_100 : GoodIn wzL_mass (wsV RL 100 RX6 yX6_mass wzX6_mass) := (goodIn_app (z_lift (goodIn_r _ [1, 2, 3, 4] rfl (by decide +kernel))) (goodIn_app (z_lift (goodIn_r wzEX6_mass [5, 6, 7, 8, 4, 9, 10, 11, 12] rfl zgEX6_mass)) (goodIn_app (goodIn_sub (fun _ h => (List.mem_append_right _ (List.mem_append_left _ h))) zgU_X6) (goodIn_sub (fun _ h => (List.mem_append_right _ (List.mem_append_right _ h))) zgV_X6_369))))
set_option maxHeartbeats 4000000 in
set_option maxRecDepth 100000 in
theorem zc_L_mass (l : Launch) (hnt : l.stackTraces = false) (D : va_G) (G : Nat × Nat × Nat) (xo : Nat) (xg : Nat) (xp : Nat) (xq : Nat) (r1 : Nat) (r2 : Nat) (r3 : Nat) (r4 : Nat) (se : Nat) (ts : Int32) (hq : Int32) (cq : ClassId) (ou : Nat) (cJ : ClassId) (ii : Int32) (sz : Nat) : vx_Met l yL_mass wzL_mass ({ frames := 8, cells := 1, slots := 6, locals := 125 }) (va_Pc [.ref xo, .int ii, .ref ou] (p_RW D G [(cq, .object "Gatherhouse$Piece"), (cJ, .long)] [(xo, .inr (11, [.ref xg, .int 0, .ref xp, .int 0, .ref xq, .int 0, .ref r1, .ref r2, .ref r3, .ref r4, .ref se, .int ts, .int hq, .int 40, .int 0, .int 0])), (xq, .inl (cq, 16, .inr (.inr (.inr (.inr (fun _ => none)))))), (ou, .inl (cJ, 1, .inr (.inl (fun _ => 0))))] sz)) (va_Qi (fun (r : Int32) (u : Unit) => r = 1) (fun (u : Unit) (t : State) => True) (va_A [(xo, .inr (11, [.ref xg, .int 0, .ref xp, .int 0, .ref xq, .int 0, .ref r1, .ref r2, .ref r3, .ref r4, .ref se, .int ts, .int hq, .int 40, .int 0, .int 0])), (xq, .inl (cq, 16, .inr (.inr (.inr (.inr (fun _ => none)))))), (ou, .inl (cJ, 1, .inr (.inl (fun _ => 0))))] sz)) (vx_X (fun (_ : Unit) => True) (fun E (_ : Unit) (_ : State) => False) (va_A [(xo, .inr (11, [.ref xg, .int 0, .ref xp, .int 0, .ref xq, .int 0, .ref r1, .ref r2, .ref r3, .ref r4, .ref se, .int ts, .int hq, .int 40, .int 0, .int 0])), (xq, .inl (cq, 16, .inr (.inr (.inr (.inr (fun _ => none)))))), (ou, .inl (cJ, 1, .inr (.inl (fun _ => 0))))] sz)) 1 6 (va_A [(xo, .inr (11, [.ref xg, .int 0, .ref xp, .int 0, .ref xq, .int 0, .ref r1, .ref r2, .ref r3, .ref r4, .ref se, .int ts, .int hq, .int 40, .int 0, .int 0])), (xq, .inl (cq, 16, .inr (.inr (.inr (.inr (fun _ => none)))))), (ou, .inl (cJ, 1, .inr (.inl (fun _ => 0))))] sz) := by
  refine vx_ofWH (cc := cL_mass) (maxL := 4) (ret := (some .int)) (by decide) rfl ?_
  intro p e s m args below meth c s₁ B hml hv
  obtain ⟨rfl, hsz, hP, hK, hD0, hT, hZ⟩ := hv
  have hx := B.exec
  have hb := B.bytes
  have hr := B.returns
  have hts := atoms_spec (ws := wzL_mass) B.pre
  have hown : s.vm.findClass RL = some m.cls := findClass_of_methodNamed B.named
  have hlocks := B.notSynchronized
  have hxe := vx_table (x := yL_mass) B (hts _ List.mem_cons_self)
  subst hsz
  have hD := hD0.self (sz := s.heap.size)
  generalize hAe : va_A [(xo, .inr (11, [.ref xg, .int 0, .ref xp, .int 0, .ref xq, .int 0, .ref r1, .ref r2, .ref r3, .ref r4, .ref se, .int ts, .int hq, .int 40, .int 0, .int 0])), (xq, .inl (cq, 16, .inr (.inr (.inr (.inr (fun _ => none)))))), (ou, .inl (cJ, 1, .inr (.inl (fun _ => 0))))] s.heap.size = A at hD hZ ⊢
  have hA : ∀ q : Nat, s.heap.size ≤ q → A q := fun q h => by rw [← hAe]; exact Or.inr h
  have hS : va_S A s.heap s.heap [] := va_S.rf
  have hl := lv_entry ([.ref xo, .int ii, .ref ou]) (n := 4) (Nat.le_of_ble_eq_true rfl)
  rw [lg_entry_eq]
  generalize (lg_sl ([.ref xo, .int ii, .ref ou]) ++ List.replicate (4 - (lg_sl ([.ref xo, .int ii, .ref ou])).length) Slot.unset).toArray = ls at hl ⊢
  have hl : lv_has ls 4 [(0, .ref xo), (1, .int ii), (2, .ref ou)] := hl
  refine lv_aload_n hx hb dL_mass_0 rfl (lv_at hl 2 rfl) ?_
  refine lv_iconst (v := 0) hx hb dL_mass_1 (by decide) ?_
  refine lv_aload_n hx hb dL_mass_2 rfl (lv_at hl 0 rfl) ?_
  refine lv_iload_n hx hb dL_mass_3 rfl (lv_at hl 1 rfl) ?_
  have hFc := va_free (wc := [(xo, .inr (11, [.ref xg, .int 0, .ref xp, .int 0, .ref xq, .int 0, .ref r1, .ref r2, .ref r3, .ref r4, .ref se, .int ts, .int hq, .int 40, .int 0, .int 0])), (xq, .inl (cq, 16, .inr (.inr (.inr (.inr (fun _ => none))))))]) hD hS hA [0, 1] rfl
  refine vx_calli (vx_runV (As := [.int ii]) (rest := [.int 0, .ref ou]) ⟨hx, hb, hml, hown, hts⟩ (zc_X6_mass l hnt D G xo xg xp xq r1 r2 r3 r4 se ts hq cq ii s.heap.size) (cwV 1 hts gzL_mass_X6_mass_100 rfl rfl rfl (by decide +kernel) ⟨(Nat.le_of_ble_eq_true rfl), (Nat.le_of_ble_eq_true rfl)⟩) ⟨p_RW_blind, va_recv hK hP (ci := 11) (q0 := 0) rfl rfl, (p_RW_at (tc := [(cq, .object "Gatherhouse$Piece")]) (wc := [(xo, .inr (11, [.ref xg, .int 0, .ref xp, .int 0, .ref xq, .int 0, .ref r1, .ref r2, .ref r3, .ref r4, .ref se, .int ts, .int hq, .int 40, .int 0, .int 0])), (xq, .inl (cq, 16, .inr (.inr (.inr (.inr (fun _ => none))))))]) hP hK hD hS hA hT hZ [0, 1] [0] rfl rfl (by decide) rfl [.ref xo, .int ii])⟩ rfl rfl hl.1 rfl (lv_room (Nat.le_of_ble_eq_true rfl)) dL_mass_4 ⟨(Nat.le_of_ble_eq_true rfl), (Nat.le_of_ble_eq_true rfl)⟩) hS (fun q _ h => hFc q h) hFc (fun q _ h => hFc q h) (fun E ce q9 u t H locs ht hvm hpx hBX hz1 hk1 hS hce hcv hcl => ?_) (fun r_731 u t H locs ht hvm w_732 hB hz1 hk1 hS => ?_)
  · have hBX : (E = "java/lang/IndexOutOfBoundsException") := hBX
    rcases hBX with rfl
    refine vx_catch (own := RL) (name := "java/lang/IndexOutOfBoundsException") hown ([] : List ExceptionTableEntry) ⟨0, 9, 12, 21⟩ ([] : List ExceptionTableEntry) (by rw [hxe]; rfl) (fun _ h => absurd h List.not_mem_nil) (by decide) (by decide) (hts (.classLink RL 21 "java/lang/IndexOutOfBoundsException") (by decide +kernel)) (va_Nw.use rfl (hT.2.2.1 ("java/lang/IndexOutOfBoundsException", "java/lang/IndexOutOfBoundsException") (by decide +kernel))) hce hcv hcl ?_
    refine W.eq (g2 := F0 m 12 ls [.ref q9]) rfl ?_
    refine lv_astore_n (lv' := [(3, .ref q9), (0, .ref xo), (1, .int ii), (2, .ref ou)]) hx hb dL_mass_12 rfl hl (by decide) rfl (fun ls hl => ?_)
    refine lv_iconst (v := 1) hx hb dL_mass_13 (by decide) ?_
    refine vx_ret ?_
    exact W.iret (v := 1) hx hb hr (fun t ht hW => ⟨⟨1, (), rfl, rfl, trivial⟩, hS.F ht⟩) hS.2.2 dL_mass_14
  · exact w_732.elim
theorem dL_height_0 : decode cL_height 0 = .ok (.aload_n 2, 1) := by decide +kernel
theorem dL_height_1 : decode cL_height 1 = .ok (.iconst 0, 1) := by decide +kernel
theorem dL_height_2 : decode cL_height 2 = .ok (.aload_n 0, 1) := by decide +kernel
theorem dL_height_3 : decode cL_height 3 = .ok (.iload_n 1, 1) := by decide +kernel
theorem dL_height_4 : decode cL_height 4 = .ok (.invokevirtual 103, 3) := by decide +kernel
theorem dL_height_12 : decode cL_height 12 = .ok (.astore_n 3, 1) := by decide +kernel
theorem dL_height_13 : decode cL_height 13 = .ok (.iconst 1, 1) := by decide +kernel
theorem dL_height_14 : decode cL_height 14 = .ok (.ireturn, 1) := by decide +kernel
def wzEL_height : List Cond := [.codeWith yL_height cL_height 4 (some .int) [(0, 9, 12, 21)], .methodLink RL 103 yX6_height, .instanceMethod yX6_height, .selects RX6 yX6_height yX6_height, .initialized RX6, .code yX6_height cX6_height 2 (some .int), .methodLink RX6 169 yX6_findPiece, .instanceMethod yX6_findPiece, .selects RX6 yX6_findPiece yX6_findPiece, .code yX6_findPiece cX6_findPiece 3 (some (.object "Gatherhouse$Piece")), .classLink RX6 365 "java/lang/IndexOutOfBoundsException", .initialized "java/lang/IndexOutOfBoundsException", .fieldLink RX6 30 "Gatherhouse" "pieces" "[LGatherhouse$Piece;", .classLink RL 21 "java/lang/IndexOutOfBoundsException"]
def wzL_height : List Cond := wzEL_height ++ (u_ws RX6 TX6 16 ++ ((vx_atS RX6 369 "java/lang/IndexOutOfBoundsException" ["java/lang/RuntimeException", "java/lang/Exception"]).filter goodWord))
theorem zgEL_height : wzEL_height.all goodWord = true := by decide +kernel
theorem zuL_height_X6 : ∀ w ∈ u_ws RX6 TX6 16, w ∈ wzL_height := (fun _ h => (List.mem_append_right _ (List.mem_append_left _ h)))
theorem ztL_height_X6_369 : ∀ w ∈ (vx_atS RX6 369 "java/lang/IndexOutOfBoundsException" ["java/lang/RuntimeException", "java/lang/Exception"]).filter goodWord, w ∈ wzL_height := (fun _ h => (List.mem_append_right _ (List.mem_append_right _ h)))
theorem gzL_height_X6_height_103 : GoodIn wzL_height (wsV RL 103 RX6 yX6_height wzX6_height) := (goodIn_app (z_lift (goodIn_r _ [1, 2, 3, 4] rfl (by decide +kernel))) (goodIn_app (z_lift (goodIn_r wzEX6_height [5, 6, 7, 8, 4, 9, 10, 11, 12] rfl zgEX6_height)) (goodIn_app (goodIn_sub (fun _ h => (List.mem_append_right _ (List.mem_append_left _ h))) zgU_X6) (goodIn_sub (fun _ h => (List.mem_append_right _ (List.mem_append_right _ h))) zgV_X6_369))))
set_option maxHeartbeats 4000000 in
set_option maxRecDepth 100000 in
theorem zc_L_height (l : Launch) (hnt : l.stackTraces = false) (D : va_G) (G : Nat × Nat × Nat) (xo : Nat) (xg : Nat) (xp : Nat) (xq : Nat) (r1 : Nat) (r2 : Nat) (r3 : Nat) (r4 : Nat) (se : Nat) (ts : Int32) (hq : Int32) (cq : ClassId) (ou : Nat) (cJ : ClassId) (ii : Int32) (sz : Nat) : vx_Met l yL_height wzL_height ({ frames := 8, cells := 1, slots := 6, locals := 125 }) (va_Pc [.ref xo, .int ii, .ref ou] (p_RW D G [(cq, .object "Gatherhouse$Piece"), (cJ, .long)] [(xo, .inr (11, [.ref xg, .int 0, .ref xp, .int 0, .ref xq, .int 0, .ref r1, .ref r2, .ref r3, .ref r4, .ref se, .int ts, .int hq, .int 40, .int 0, .int 0])), (xq, .inl (cq, 16, .inr (.inr (.inr (.inr (fun _ => none)))))), (ou, .inl (cJ, 1, .inr (.inl (fun _ => 0))))] sz)) (va_Qi (fun (r : Int32) (u : Unit) => r = 1) (fun (u : Unit) (t : State) => True) (va_A [(xo, .inr (11, [.ref xg, .int 0, .ref xp, .int 0, .ref xq, .int 0, .ref r1, .ref r2, .ref r3, .ref r4, .ref se, .int ts, .int hq, .int 40, .int 0, .int 0])), (xq, .inl (cq, 16, .inr (.inr (.inr (.inr (fun _ => none)))))), (ou, .inl (cJ, 1, .inr (.inl (fun _ => 0))))] sz)) (vx_X (fun (_ : Unit) => True) (fun E (_ : Unit) (_ : State) => False) (va_A [(xo, .inr (11, [.ref xg, .int 0, .ref xp, .int 0, .ref xq, .int 0, .ref r1, .ref r2, .ref r3, .ref r4, .ref se, .int ts, .int hq, .int 40, .int 0, .int 0])), (xq, .inl (cq, 16, .inr (.inr (.inr (.inr (fun _ => none)))))), (ou, .inl (cJ, 1, .inr (.inl (fun _ => 0))))] sz)) 1 6 (va_A [(xo, .inr (11, [.ref xg, .int 0, .ref xp, .int 0, .ref xq, .int 0, .ref r1, .ref r2, .ref r3, .ref r4, .ref se, .int ts, .int hq, .int 40, .int 0, .int 0])), (xq, .inl (cq, 16, .inr (.inr (.inr (.inr (fun _ => none)))))), (ou, .inl (cJ, 1, .inr (.inl (fun _ => 0))))] sz) := by
  refine vx_ofWH (cc := cL_height) (maxL := 4) (ret := (some .int)) (by decide) rfl ?_
  intro p e s m args below meth c s₁ B hml hv
  obtain ⟨rfl, hsz, hP, hK, hD0, hT, hZ⟩ := hv
  have hx := B.exec
  have hb := B.bytes
  have hr := B.returns
  have hts := atoms_spec (ws := wzL_height) B.pre
  have hown : s.vm.findClass RL = some m.cls := findClass_of_methodNamed B.named
  have hlocks := B.notSynchronized
  have hxe := vx_table (x := yL_height) B (hts _ List.mem_cons_self)
  subst hsz
  have hD := hD0.self (sz := s.heap.size)
  generalize hAe : va_A [(xo, .inr (11, [.ref xg, .int 0, .ref xp, .int 0, .ref xq, .int 0, .ref r1, .ref r2, .ref r3, .ref r4, .ref se, .int ts, .int hq, .int 40, .int 0, .int 0])), (xq, .inl (cq, 16, .inr (.inr (.inr (.inr (fun _ => none)))))), (ou, .inl (cJ, 1, .inr (.inl (fun _ => 0))))] s.heap.size = A at hD hZ ⊢
  have hA : ∀ q : Nat, s.heap.size ≤ q → A q := fun q h => by rw [← hAe]; exact Or.inr h
  have hS : va_S A s.heap s.heap [] := va_S.rf
  have hl := lv_entry ([.ref xo, .int ii, .ref ou]) (n := 4) (Nat.le_of_ble_eq_true rfl)
  rw [lg_entry_eq]
  generalize (lg_sl ([.ref xo, .int ii, .ref ou]) ++ List.replicate (4 - (lg_sl ([.ref xo, .int ii, .ref ou])).length) Slot.unset).toArray = ls at hl ⊢
  have hl : lv_has ls 4 [(0, .ref xo), (1, .int ii), (2, .ref ou)] := hl
  refine lv_aload_n hx hb dL_height_0 rfl (lv_at hl 2 rfl) ?_
  refine lv_iconst (v := 0) hx hb dL_height_1 (by decide) ?_
  refine lv_aload_n hx hb dL_height_2 rfl (lv_at hl 0 rfl) ?_
  refine lv_iload_n hx hb dL_height_3 rfl (lv_at hl 1 rfl) ?_
  have hFc := va_free (wc := [(xo, .inr (11, [.ref xg, .int 0, .ref xp, .int 0, .ref xq, .int 0, .ref r1, .ref r2, .ref r3, .ref r4, .ref se, .int ts, .int hq, .int 40, .int 0, .int 0])), (xq, .inl (cq, 16, .inr (.inr (.inr (.inr (fun _ => none))))))]) hD hS hA [0, 1] rfl
  refine vx_calli (vx_runV (As := [.int ii]) (rest := [.int 0, .ref ou]) ⟨hx, hb, hml, hown, hts⟩ (zc_X6_height l hnt D G xo xg xp xq r1 r2 r3 r4 se ts hq cq ii s.heap.size) (cwV 1 hts gzL_height_X6_height_103 rfl rfl rfl (by decide +kernel) ⟨(Nat.le_of_ble_eq_true rfl), (Nat.le_of_ble_eq_true rfl)⟩) ⟨p_RW_blind, va_recv hK hP (ci := 11) (q0 := 0) rfl rfl, (p_RW_at (tc := [(cq, .object "Gatherhouse$Piece")]) (wc := [(xo, .inr (11, [.ref xg, .int 0, .ref xp, .int 0, .ref xq, .int 0, .ref r1, .ref r2, .ref r3, .ref r4, .ref se, .int ts, .int hq, .int 40, .int 0, .int 0])), (xq, .inl (cq, 16, .inr (.inr (.inr (.inr (fun _ => none))))))]) hP hK hD hS hA hT hZ [0, 1] [0] rfl rfl (by decide) rfl [.ref xo, .int ii])⟩ rfl rfl hl.1 rfl (lv_room (Nat.le_of_ble_eq_true rfl)) dL_height_4 ⟨(Nat.le_of_ble_eq_true rfl), (Nat.le_of_ble_eq_true rfl)⟩) hS (fun q _ h => hFc q h) hFc (fun q _ h => hFc q h) (fun E ce q9 u t H locs ht hvm hpx hBX hz1 hk1 hS hce hcv hcl => ?_) (fun r_733 u t H locs ht hvm w_734 hB hz1 hk1 hS => ?_)
  · have hBX : (E = "java/lang/IndexOutOfBoundsException") := hBX
    rcases hBX with rfl
    refine vx_catch (own := RL) (name := "java/lang/IndexOutOfBoundsException") hown ([] : List ExceptionTableEntry) ⟨0, 9, 12, 21⟩ ([] : List ExceptionTableEntry) (by rw [hxe]; rfl) (fun _ h => absurd h List.not_mem_nil) (by decide) (by decide) (hts (.classLink RL 21 "java/lang/IndexOutOfBoundsException") (by decide +kernel)) (va_Nw.use rfl (hT.2.2.1 ("java/lang/IndexOutOfBoundsException", "java/lang/IndexOutOfBoundsException") (by decide +kernel))) hce hcv hcl ?_
    refine W.eq (g2 := F0 m 12 ls [.ref q9]) rfl ?_
    refine lv_astore_n (lv' := [(3, .ref q9), (0, .ref xo), (1, .int ii), (2, .ref ou)]) hx hb dL_height_12 rfl hl (by decide) rfl (fun ls hl => ?_)
    refine lv_iconst (v := 1) hx hb dL_height_13 (by decide) ?_
    refine vx_ret ?_
    exact W.iret (v := 1) hx hb hr (fun t ht hW => ⟨⟨1, (), rfl, rfl, trivial⟩, hS.F ht⟩) hS.2.2 dL_height_14
  · exact w_734.elim
theorem dL_layers_0 : decode cL_layers 0 = .ok (.aload_n 2, 1) := by decide +kernel
theorem dL_layers_1 : decode cL_layers 1 = .ok (.iconst 0, 1) := by decide +kernel
theorem dL_layers_2 : decode cL_layers 2 = .ok (.aload_n 0, 1) := by decide +kernel
theorem dL_layers_3 : decode cL_layers 3 = .ok (.iload_n 1, 1) := by decide +kernel
theorem dL_layers_4 : decode cL_layers 4 = .ok (.invokevirtual 106, 3) := by decide +kernel
theorem dL_layers_12 : decode cL_layers 12 = .ok (.astore_n 3, 1) := by decide +kernel
theorem dL_layers_13 : decode cL_layers 13 = .ok (.iconst 1, 1) := by decide +kernel
theorem dL_layers_14 : decode cL_layers 14 = .ok (.ireturn, 1) := by decide +kernel
def wzEL_layers : List Cond := [.codeWith yL_layers cL_layers 4 (some .int) [(0, 9, 12, 21)], .methodLink RL 106 yX6_layers, .instanceMethod yX6_layers, .selects RX6 yX6_layers yX6_layers, .initialized RX6, .code yX6_layers cX6_layers 2 (some .int), .methodLink RX6 169 yX6_findPiece, .instanceMethod yX6_findPiece, .selects RX6 yX6_findPiece yX6_findPiece, .code yX6_findPiece cX6_findPiece 3 (some (.object "Gatherhouse$Piece")), .classLink RX6 365 "java/lang/IndexOutOfBoundsException", .initialized "java/lang/IndexOutOfBoundsException", .fieldLink RX6 30 "Gatherhouse" "pieces" "[LGatherhouse$Piece;", .classLink RL 21 "java/lang/IndexOutOfBoundsException"]
def wzL_layers : List Cond := wzEL_layers ++ (u_ws RX6 TX6 16 ++ ((vx_atS RX6 369 "java/lang/IndexOutOfBoundsException" ["java/lang/RuntimeException", "java/lang/Exception"]).filter goodWord))
theorem zgEL_layers : wzEL_layers.all goodWord = true := by decide +kernel
theorem zuL_layers_X6 : ∀ w ∈ u_ws RX6 TX6 16, w ∈ wzL_layers := (fun _ h => (List.mem_append_right _ (List.mem_append_left _ h)))
theorem ztL_layers_X6_369 : ∀ w ∈ (vx_atS RX6 369 "java/lang/IndexOutOfBoundsException" ["java/lang/RuntimeException", "java/lang/Exception"]).filter goodWord, w ∈ wzL_layers := (fun _ h => (List.mem_append_right _ (List.mem_append_right _ h)))
theorem gzL_layers_X6_layers_106 : GoodIn wzL_layers (wsV RL 106 RX6 yX6_layers wzX6_layers) := (goodIn_app (z_lift (goodIn_r _ [1, 2, 3, 4] rfl (by decide +kernel))) (goodIn_app (z_lift (goodIn_r wzEX6_layers [5, 6, 7, 8, 4, 9, 10, 11, 12] rfl zgEX6_layers)) (goodIn_app (goodIn_sub (fun _ h => (List.mem_append_right _ (List.mem_append_left _ h))) zgU_X6) (goodIn_sub (fun _ h => (List.mem_append_right _ (List.mem_append_right _ h))) zgV_X6_369))))
set_option maxHeartbeats 4000000 in
set_option maxRecDepth 100000 in
theorem zc_L_layers (l : Launch) (hnt : l.stackTraces = false) (D : va_G) (G : Nat × Nat × Nat) (xo : Nat) (xg : Nat) (xp : Nat) (xq : Nat) (r1 : Nat) (r2 : Nat) (r3 : Nat) (r4 : Nat) (se : Nat) (ts : Int32) (hq : Int32) (cq : ClassId) (ou : Nat) (cJ : ClassId) (ii : Int32) (sz : Nat) : vx_Met l yL_layers wzL_layers ({ frames := 8, cells := 1, slots := 6, locals := 125 }) (va_Pc [.ref xo, .int ii, .ref ou] (p_RW D G [(cq, .object "Gatherhouse$Piece"), (cJ, .long)] [(xo, .inr (11, [.ref xg, .int 0, .ref xp, .int 0, .ref xq, .int 0, .ref r1, .ref r2, .ref r3, .ref r4, .ref se, .int ts, .int hq, .int 40, .int 0, .int 0])), (xq, .inl (cq, 16, .inr (.inr (.inr (.inr (fun _ => none)))))), (ou, .inl (cJ, 1, .inr (.inl (fun _ => 0))))] sz)) (va_Qi (fun (r : Int32) (u : Unit) => r = 1) (fun (u : Unit) (t : State) => True) (va_A [(xo, .inr (11, [.ref xg, .int 0, .ref xp, .int 0, .ref xq, .int 0, .ref r1, .ref r2, .ref r3, .ref r4, .ref se, .int ts, .int hq, .int 40, .int 0, .int 0])), (xq, .inl (cq, 16, .inr (.inr (.inr (.inr (fun _ => none)))))), (ou, .inl (cJ, 1, .inr (.inl (fun _ => 0))))] sz)) (vx_X (fun (_ : Unit) => True) (fun E (_ : Unit) (_ : State) => False) (va_A [(xo, .inr (11, [.ref xg, .int 0, .ref xp, .int 0, .ref xq, .int 0, .ref r1, .ref r2, .ref r3, .ref r4, .ref se, .int ts, .int hq, .int 40, .int 0, .int 0])), (xq, .inl (cq, 16, .inr (.inr (.inr (.inr (fun _ => none)))))), (ou, .inl (cJ, 1, .inr (.inl (fun _ => 0))))] sz)) 1 6 (va_A [(xo, .inr (11, [.ref xg, .int 0, .ref xp, .int 0, .ref xq, .int 0, .ref r1, .ref r2, .ref r3, .ref r4, .ref se, .int ts, .int hq, .int 40, .int 0, .int 0])), (xq, .inl (cq, 16, .inr (.inr (.inr (.inr (fun _ => none)))))), (ou, .inl (cJ, 1, .inr (.inl (fun _ => 0))))] sz) := by
  refine vx_ofWH (cc := cL_layers) (maxL := 4) (ret := (some .int)) (by decide) rfl ?_
  intro p e s m args below meth c s₁ B hml hv
  obtain ⟨rfl, hsz, hP, hK, hD0, hT, hZ⟩ := hv
  have hx := B.exec
  have hb := B.bytes
  have hr := B.returns
  have hts := atoms_spec (ws := wzL_layers) B.pre
  have hown : s.vm.findClass RL = some m.cls := findClass_of_methodNamed B.named
  have hlocks := B.notSynchronized
  have hxe := vx_table (x := yL_layers) B (hts _ List.mem_cons_self)
  subst hsz
  have hD := hD0.self (sz := s.heap.size)
  generalize hAe : va_A [(xo, .inr (11, [.ref xg, .int 0, .ref xp, .int 0, .ref xq, .int 0, .ref r1, .ref r2, .ref r3, .ref r4, .ref se, .int ts, .int hq, .int 40, .int 0, .int 0])), (xq, .inl (cq, 16, .inr (.inr (.inr (.inr (fun _ => none)))))), (ou, .inl (cJ, 1, .inr (.inl (fun _ => 0))))] s.heap.size = A at hD hZ ⊢
  have hA : ∀ q : Nat, s.heap.size ≤ q → A q := fun q h => by rw [← hAe]; exact Or.inr h
  have hS : va_S A s.heap s.heap [] := va_S.rf
  have hl := lv_entry ([.ref xo, .int ii, .ref ou]) (n := 4) (Nat.le_of_ble_eq_true rfl)
  rw [lg_entry_eq]
  generalize (lg_sl ([.ref xo, .int ii, .ref ou]) ++ List.replicate (4 - (lg_sl ([.ref xo, .int ii, .ref ou])).length) Slot.unset).toArray = ls at hl ⊢
  have hl : lv_has ls 4 [(0, .ref xo), (1, .int ii), (2, .ref ou)] := hl
  refine lv_aload_n hx hb dL_layers_0 rfl (lv_at hl 2 rfl) ?_
  refine lv_iconst (v := 0) hx hb dL_layers_1 (by decide) ?_
  refine lv_aload_n hx hb dL_layers_2 rfl (lv_at hl 0 rfl) ?_
  refine lv_iload_n hx hb dL_layers_3 rfl (lv_at hl 1 rfl) ?_
  have hFc := va_free (wc := [(xo, .inr (11, [.ref xg, .int 0, .ref xp, .int 0, .ref xq, .int 0, .ref r1, .ref r2, .ref r3, .ref r4, .ref se, .int ts, .int hq, .int 40, .int 0, .int 0])), (xq, .inl (cq, 16, .inr (.inr (.inr (.inr (fun _ => none))))))]) hD hS hA [0, 1] rfl
  refine vx_calli (vx_runV (As := [.int ii]) (rest := [.int 0, .ref ou]) ⟨hx, hb, hml, hown, hts⟩ (zc_X6_layers l hnt D G xo xg xp xq r1 r2 r3 r4 se ts hq cq ii s.heap.size) (cwV 1 hts gzL_layers_X6_layers_106 rfl rfl rfl (by decide +kernel) ⟨(Nat.le_of_ble_eq_true rfl), (Nat.le_of_ble_eq_true rfl)⟩) ⟨p_RW_blind, va_recv hK hP (ci := 11) (q0 := 0) rfl rfl, (p_RW_at (tc := [(cq, .object "Gatherhouse$Piece")]) (wc := [(xo, .inr (11, [.ref xg, .int 0, .ref xp, .int 0, .ref xq, .int 0, .ref r1, .ref r2, .ref r3, .ref r4, .ref se, .int ts, .int hq, .int 40, .int 0, .int 0])), (xq, .inl (cq, 16, .inr (.inr (.inr (.inr (fun _ => none))))))]) hP hK hD hS hA hT hZ [0, 1] [0] rfl rfl (by decide) rfl [.ref xo, .int ii])⟩ rfl rfl hl.1 rfl (lv_room (Nat.le_of_ble_eq_true rfl)) dL_layers_4 ⟨(Nat.le_of_ble_eq_true rfl), (Nat.le_of_ble_eq_true rfl)⟩) hS (fun q _ h => hFc q h) hFc (fun q _ h => hFc q h) (fun E ce q9 u t H locs ht hvm hpx hBX hz1 hk1 hS hce hcv hcl => ?_) (fun r_735 u t H locs ht hvm w_736 hB hz1 hk1 hS => ?_)
  · have hBX : (E = "java/lang/IndexOutOfBoundsException") := hBX
    rcases hBX with rfl
    refine vx_catch (own := RL) (name := "java/lang/IndexOutOfBoundsException") hown ([] : List ExceptionTableEntry) ⟨0, 9, 12, 21⟩ ([] : List ExceptionTableEntry) (by rw [hxe]; rfl) (fun _ h => absurd h List.not_mem_nil) (by decide) (by decide) (hts (.classLink RL 21 "java/lang/IndexOutOfBoundsException") (by decide +kernel)) (va_Nw.use rfl (hT.2.2.1 ("java/lang/IndexOutOfBoundsException", "java/lang/IndexOutOfBoundsException") (by decide +kernel))) hce hcv hcl ?_
    refine W.eq (g2 := F0 m 12 ls [.ref q9]) rfl ?_
    refine lv_astore_n (lv' := [(3, .ref q9), (0, .ref xo), (1, .int ii), (2, .ref ou)]) hx hb dL_layers_12 rfl hl (by decide) rfl (fun ls hl => ?_)
    refine lv_iconst (v := 1) hx hb dL_layers_13 (by decide) ?_
    refine vx_ret ?_
    exact W.iret (v := 1) hx hb hr (fun t ht hW => ⟨⟨1, (), rfl, rfl, trivial⟩, hS.F ht⟩) hS.2.2 dL_layers_14
  · exact w_736.elim
theorem dL_flaws_0 : decode cL_flaws 0 = .ok (.aload_n 2, 1) := by decide +kernel
theorem dL_flaws_1 : decode cL_flaws 1 = .ok (.iconst 0, 1) := by decide +kernel
theorem dL_flaws_2 : decode cL_flaws 2 = .ok (.aload_n 0, 1) := by decide +kernel
theorem dL_flaws_3 : decode cL_flaws 3 = .ok (.iload_n 1, 1) := by decide +kernel
theorem dL_flaws_4 : decode cL_flaws 4 = .ok (.invokevirtual 109, 3) := by decide +kernel
theorem dL_flaws_12 : decode cL_flaws 12 = .ok (.astore_n 3, 1) := by decide +kernel
theorem dL_flaws_13 : decode cL_flaws 13 = .ok (.iconst 1, 1) := by decide +kernel
theorem dL_flaws_14 : decode cL_flaws 14 = .ok (.ireturn, 1) := by decide +kernel
def wzEL_flaws : List Cond := [.codeWith yL_flaws cL_flaws 4 (some .int) [(0, 9, 12, 21)], .methodLink RL 109 yX6_flaws, .instanceMethod yX6_flaws, .selects RX6 yX6_flaws yX6_flaws, .initialized RX6, .code yX6_flaws cX6_flaws 2 (some .int), .methodLink RX6 169 yX6_findPiece, .instanceMethod yX6_findPiece, .selects RX6 yX6_findPiece yX6_findPiece, .code yX6_findPiece cX6_findPiece 3 (some (.object "Gatherhouse$Piece")), .classLink RX6 365 "java/lang/IndexOutOfBoundsException", .initialized "java/lang/IndexOutOfBoundsException", .fieldLink RX6 30 "Gatherhouse" "pieces" "[LGatherhouse$Piece;", .classLink RL 21 "java/lang/IndexOutOfBoundsException"]
def wzL_flaws : List Cond := wzEL_flaws ++ (u_ws RX6 TX6 16 ++ ((vx_atS RX6 369 "java/lang/IndexOutOfBoundsException" ["java/lang/RuntimeException", "java/lang/Exception"]).filter goodWord))
theorem zgEL_flaws : wzEL_flaws.all goodWord = true := by decide +kernel
theorem zuL_flaws_X6 : ∀ w ∈ u_ws RX6 TX6 16, w ∈ wzL_flaws := (fun _ h => (List.mem_append_right _ (List.mem_append_left _ h)))
theorem ztL_flaws_X6_369 : ∀ w ∈ (vx_atS RX6 369 "java/lang/IndexOutOfBoundsException" ["java/lang/RuntimeException", "java/lang/Exception"]).filter goodWord, w ∈ wzL_flaws := (fun _ h => (List.mem_append_right _ (List.mem_append_right _ h)))
theorem gzL_flaws_X6_flaws_109 : GoodIn wzL_flaws (wsV RL 109 RX6 yX6_flaws wzX6_flaws) := (goodIn_app (z_lift (goodIn_r _ [1, 2, 3, 4] rfl (by decide +kernel))) (goodIn_app (z_lift (goodIn_r wzEX6_flaws [5, 6, 7, 8, 4, 9, 10, 11, 12] rfl zgEX6_flaws)) (goodIn_app (goodIn_sub (fun _ h => (List.mem_append_right _ (List.mem_append_left _ h))) zgU_X6) (goodIn_sub (fun _ h => (List.mem_append_right _ (List.mem_append_right _ h))) zgV_X6_369))))
set_option maxHeartbeats 4000000 in
set_option maxRecDepth 100000 in
theorem zc_L_flaws (l : Launch) (hnt : l.stackTraces = false) (D : va_G) (G : Nat × Nat × Nat) (xo : Nat) (xg : Nat) (xp : Nat) (xq : Nat) (r1 : Nat) (r2 : Nat) (r3 : Nat) (r4 : Nat) (se : Nat) (ts : Int32) (hq : Int32) (cq : ClassId) (ou : Nat) (cJ : ClassId) (ii : Int32) (sz : Nat) : vx_Met l yL_flaws wzL_flaws ({ frames := 8, cells := 1, slots := 6, locals := 125 }) (va_Pc [.ref xo, .int ii, .ref ou] (p_RW D G [(cq, .object "Gatherhouse$Piece"), (cJ, .long)] [(xo, .inr (11, [.ref xg, .int 0, .ref xp, .int 0, .ref xq, .int 0, .ref r1, .ref r2, .ref r3, .ref r4, .ref se, .int ts, .int hq, .int 40, .int 0, .int 0])), (xq, .inl (cq, 16, .inr (.inr (.inr (.inr (fun _ => none)))))), (ou, .inl (cJ, 1, .inr (.inl (fun _ => 0))))] sz)) (va_Qi (fun (r : Int32) (u : Unit) => r = 1) (fun (u : Unit) (t : State) => True) (va_A [(xo, .inr (11, [.ref xg, .int 0, .ref xp, .int 0, .ref xq, .int 0, .ref r1, .ref r2, .ref r3, .ref r4, .ref se, .int ts, .int hq, .int 40, .int 0, .int 0])), (xq, .inl (cq, 16, .inr (.inr (.inr (.inr (fun _ => none)))))), (ou, .inl (cJ, 1, .inr (.inl (fun _ => 0))))] sz)) (vx_X (fun (_ : Unit) => True) (fun E (_ : Unit) (_ : State) => False) (va_A [(xo, .inr (11, [.ref xg, .int 0, .ref xp, .int 0, .ref xq, .int 0, .ref r1, .ref r2, .ref r3, .ref r4, .ref se, .int ts, .int hq, .int 40, .int 0, .int 0])), (xq, .inl (cq, 16, .inr (.inr (.inr (.inr (fun _ => none)))))), (ou, .inl (cJ, 1, .inr (.inl (fun _ => 0))))] sz)) 1 6 (va_A [(xo, .inr (11, [.ref xg, .int 0, .ref xp, .int 0, .ref xq, .int 0, .ref r1, .ref r2, .ref r3, .ref r4, .ref se, .int ts, .int hq, .int 40, .int 0, .int 0])), (xq, .inl (cq, 16, .inr (.inr (.inr (.inr (fun _ => none)))))), (ou, .inl (cJ, 1, .inr (.inl (fun _ => 0))))] sz) := by
  refine vx_ofWH (cc := cL_flaws) (maxL := 4) (ret := (some .int)) (by decide) rfl ?_
  intro p e s m args below meth c s₁ B hml hv
  obtain ⟨rfl, hsz, hP, hK, hD0, hT, hZ⟩ := hv
  have hx := B.exec
  have hb := B.bytes
  have hr := B.returns
  have hts := atoms_spec (ws := wzL_flaws) B.pre
  have hown : s.vm.findClass RL = some m.cls := findClass_of_methodNamed B.named
  have hlocks := B.notSynchronized
  have hxe := vx_table (x := yL_flaws) B (hts _ List.mem_cons_self)
  subst hsz
  have hD := hD0.self (sz := s.heap.size)
  generalize hAe : va_A [(xo, .inr (11, [.ref xg, .int 0, .ref xp, .int 0, .ref xq, .int 0, .ref r1, .ref r2, .ref r3, .ref r4, .ref se, .int ts, .int hq, .int 40, .int 0, .int 0])), (xq, .inl (cq, 16, .inr (.inr (.inr (.inr (fun _ => none)))))), (ou, .inl (cJ, 1, .inr (.inl (fun _ => 0))))] s.heap.size = A at hD hZ ⊢
  have hA : ∀ q : Nat, s.heap.size ≤ q → A q := fun q h => by rw [← hAe]; exact Or.inr h
  have hS : va_S A s.heap s.heap [] := va_S.rf
  have hl := lv_entry ([.ref xo, .int ii, .ref ou]) (n := 4) (Nat.le_of_ble_eq_true rfl)
  rw [lg_entry_eq]
  generalize (lg_sl ([.ref xo, .int ii, .ref ou]) ++ List.replicate (4 - (lg_sl ([.ref xo, .int ii, .ref ou])).length) Slot.unset).toArray = ls at hl ⊢
  have hl : lv_has ls 4 [(0, .ref xo), (1, .int ii), (2, .ref ou)] := hl
  refine lv_aload_n hx hb dL_flaws_0 rfl (lv_at hl 2 rfl) ?_
  refine lv_iconst (v := 0) hx hb dL_flaws_1 (by decide) ?_
  refine lv_aload_n hx hb dL_flaws_2 rfl (lv_at hl 0 rfl) ?_
  refine lv_iload_n hx hb dL_flaws_3 rfl (lv_at hl 1 rfl) ?_
  have hFc := va_free (wc := [(xo, .inr (11, [.ref xg, .int 0, .ref xp, .int 0, .ref xq, .int 0, .ref r1, .ref r2, .ref r3, .ref r4, .ref se, .int ts, .int hq, .int 40, .int 0, .int 0])), (xq, .inl (cq, 16, .inr (.inr (.inr (.inr (fun _ => none))))))]) hD hS hA [0, 1] rfl
  refine vx_calli (vx_runV (As := [.int ii]) (rest := [.int 0, .ref ou]) ⟨hx, hb, hml, hown, hts⟩ (zc_X6_flaws l hnt D G xo xg xp xq r1 r2 r3 r4 se ts hq cq ii s.heap.size) (cwV 1 hts gzL_flaws_X6_flaws_109 rfl rfl rfl (by decide +kernel) ⟨(Nat.le_of_ble_eq_true rfl), (Nat.le_of_ble_eq_true rfl)⟩) ⟨p_RW_blind, va_recv hK hP (ci := 11) (q0 := 0) rfl rfl, (p_RW_at (tc := [(cq, .object "Gatherhouse$Piece")]) (wc := [(xo, .inr (11, [.ref xg, .int 0, .ref xp, .int 0, .ref xq, .int 0, .ref r1, .ref r2, .ref r3, .ref r4, .ref se, .int ts, .int hq, .int 40, .int 0, .int 0])), (xq, .inl (cq, 16, .inr (.inr (.inr (.inr (fun _ => none))))))]) hP hK hD hS hA hT hZ [0, 1] [0] rfl rfl (by decide) rfl [.ref xo, .int ii])⟩ rfl rfl hl.1 rfl (lv_room (Nat.le_of_ble_eq_true rfl)) dL_flaws_4 ⟨(Nat.le_of_ble_eq_true rfl), (Nat.le_of_ble_eq_true rfl)⟩) hS (fun q _ h => hFc q h) hFc (fun q _ h => hFc q h) (fun E ce q9 u t H locs ht hvm hpx hBX hz1 hk1 hS hce hcv hcl => ?_) (fun r_737 u t H locs ht hvm w_738 hB hz1 hk1 hS => ?_)
  · have hBX : (E = "java/lang/IndexOutOfBoundsException") := hBX
    rcases hBX with rfl
    refine vx_catch (own := RL) (name := "java/lang/IndexOutOfBoundsException") hown ([] : List ExceptionTableEntry) ⟨0, 9, 12, 21⟩ ([] : List ExceptionTableEntry) (by rw [hxe]; rfl) (fun _ h => absurd h List.not_mem_nil) (by decide) (by decide) (hts (.classLink RL 21 "java/lang/IndexOutOfBoundsException") (by decide +kernel)) (va_Nw.use rfl (hT.2.2.1 ("java/lang/IndexOutOfBoundsException", "java/lang/IndexOutOfBoundsException") (by decide +kernel))) hce hcv hcl ?_
    refine W.eq (g2 := F0 m 12 ls [.ref q9]) rfl ?_
    refine lv_astore_n (lv' := [(3, .ref q9), (0, .ref xo), (1, .int ii), (2, .ref ou)]) hx hb dL_flaws_12 rfl hl (by decide) rfl (fun ls hl => ?_)
    refine lv_iconst (v := 1) hx hb dL_flaws_13 (by decide) ?_
    refine vx_ret ?_
    exact W.iret (v := 1) hx hb hr (fun t ht hW => ⟨⟨1, (), rfl, rfl, trivial⟩, hS.F ht⟩) hS.2.2 dL_flaws_14
  · exact w_738.elim
theorem dL_low_0 : decode cL_low 0 = .ok (.aload_n 3, 1) := by decide +kernel
theorem dL_low_1 : decode cL_low 1 = .ok (.iconst 0, 1) := by decide +kernel
theorem dL_low_2 : decode cL_low 2 = .ok (.aload_n 0, 1) := by decide +kernel
theorem dL_low_3 : decode cL_low 3 = .ok (.iload_n 1, 1) := by decide +kernel
theorem dL_low_4 : decode cL_low 4 = .ok (.iload_n 2, 1) := by decide +kernel
theorem dL_low_5 : decode cL_low 5 = .ok (.invokevirtual 112, 3) := by decide +kernel
theorem dL_low_13 : decode cL_low 13 = .ok (.astore 4, 2) := by decide +kernel
theorem dL_low_15 : decode cL_low 15 = .ok (.iconst 1, 1) := by decide +kernel
theorem dL_low_16 : decode cL_low 16 = .ok (.ireturn, 1) := by decide +kernel
def wzEL_low : List Cond := [.codeWith yL_low cL_low 5 (some .int) [(0, 10, 13, 21)], .methodLink RL 112 yX6_low, .instanceMethod yX6_low, .selects RX6 yX6_low yX6_low, .initialized RX6, .code yX6_low cX6_low 4 (some .int), .methodLink RX6 169 yX6_findPiece, .instanceMethod yX6_findPiece, .selects RX6 yX6_findPiece yX6_findPiece, .code yX6_findPiece cX6_findPiece 3 (some (.object "Gatherhouse$Piece")), .classLink RX6 365 "java/lang/IndexOutOfBoundsException", .initialized "java/lang/IndexOutOfBoundsException", .fieldLink RX6 30 "Gatherhouse" "pieces" "[LGatherhouse$Piece;", .classLink RL 21 "java/lang/IndexOutOfBoundsException"]
def wzL_low : List Cond := wzEL_low ++ (u_ws RX6 TX6 16 ++ ((vx_atS RX6 369 "java/lang/IndexOutOfBoundsException" ["java/lang/RuntimeException", "java/lang/Exception"]).filter goodWord))
theorem zgEL_low : wzEL_low.all goodWord = true := by decide +kernel
theorem zuL_low_X6 : ∀ w ∈ u_ws RX6 TX6 16, w ∈ wzL_low := (fun _ h => (List.mem_append_right _ (List.mem_append_left _ h)))
theorem ztL_low_X6_369 : ∀ w ∈ (vx_atS RX6 369 "java/lang/IndexOutOfBoundsException" ["java/lang/RuntimeException", "java/lang/Exception"]).filter goodWord, w ∈ wzL_low := (fun _ h => (List.mem_append_right _ (List.mem_append_right _ h)))
theorem gzL_low_X6_low_112 : GoodIn wzL_low (wsV RL 112 RX6 yX6_low wzX6_low) := (goodIn_app (z_lift (goodIn_r _ [1, 2, 3, 4] rfl (by decide +kernel))) (goodIn_app (z_lift (goodIn_r wzEX6_low [5, 6, 7, 8, 4, 9, 10, 11, 12] rfl zgEX6_low)) (goodIn_app (goodIn_sub (fun _ h => (List.mem_append_right _ (List.mem_append_left _ h))) zgU_X6) (goodIn_sub (fun _ h => (List.mem_append_right _ (List.mem_append_right _ h))) zgV_X6_369))))
set_option maxHeartbeats 4000000 in
set_option maxRecDepth 100000 in
theorem zc_L_low (l : Launch) (hnt : l.stackTraces = false) (D : va_G) (G : Nat × Nat × Nat) (xo : Nat) (xg : Nat) (xp : Nat) (xq : Nat) (r1 : Nat) (r2 : Nat) (r3 : Nat) (r4 : Nat) (se : Nat) (ts : Int32) (hq : Int32) (cq : ClassId) (ou : Nat) (cJ : ClassId) (ii : Int32) (jj : Int32) (sz : Nat) : vx_Met l yL_low wzL_low ({ frames := 8, cells := 1, slots := 6, locals := 127 }) (va_Pc [.ref xo, .int ii, .int jj, .ref ou] (p_RW D G [(cq, .object "Gatherhouse$Piece"), (cJ, .long)] [(xo, .inr (11, [.ref xg, .int 0, .ref xp, .int 0, .ref xq, .int 0, .ref r1, .ref r2, .ref r3, .ref r4, .ref se, .int ts, .int hq, .int 40, .int 0, .int 0])), (xq, .inl (cq, 16, .inr (.inr (.inr (.inr (fun _ => none)))))), (ou, .inl (cJ, 1, .inr (.inl (fun _ => 0))))] sz)) (va_Qi (fun (r : Int32) (u : Unit) => r = 1) (fun (u : Unit) (t : State) => True) (va_A [(xo, .inr (11, [.ref xg, .int 0, .ref xp, .int 0, .ref xq, .int 0, .ref r1, .ref r2, .ref r3, .ref r4, .ref se, .int ts, .int hq, .int 40, .int 0, .int 0])), (xq, .inl (cq, 16, .inr (.inr (.inr (.inr (fun _ => none)))))), (ou, .inl (cJ, 1, .inr (.inl (fun _ => 0))))] sz)) (vx_X (fun (_ : Unit) => True) (fun E (_ : Unit) (_ : State) => False) (va_A [(xo, .inr (11, [.ref xg, .int 0, .ref xp, .int 0, .ref xq, .int 0, .ref r1, .ref r2, .ref r3, .ref r4, .ref se, .int ts, .int hq, .int 40, .int 0, .int 0])), (xq, .inl (cq, 16, .inr (.inr (.inr (.inr (fun _ => none)))))), (ou, .inl (cJ, 1, .inr (.inl (fun _ => 0))))] sz)) 1 6 (va_A [(xo, .inr (11, [.ref xg, .int 0, .ref xp, .int 0, .ref xq, .int 0, .ref r1, .ref r2, .ref r3, .ref r4, .ref se, .int ts, .int hq, .int 40, .int 0, .int 0])), (xq, .inl (cq, 16, .inr (.inr (.inr (.inr (fun _ => none)))))), (ou, .inl (cJ, 1, .inr (.inl (fun _ => 0))))] sz) := by
  refine vx_ofWH (cc := cL_low) (maxL := 5) (ret := (some .int)) (by decide) rfl ?_
  intro p e s m args below meth c s₁ B hml hv
  obtain ⟨rfl, hsz, hP, hK, hD0, hT, hZ⟩ := hv
  have hx := B.exec
  have hb := B.bytes
  have hr := B.returns
  have hts := atoms_spec (ws := wzL_low) B.pre
  have hown : s.vm.findClass RL = some m.cls := findClass_of_methodNamed B.named
  have hlocks := B.notSynchronized
  have hxe := vx_table (x := yL_low) B (hts _ List.mem_cons_self)
  subst hsz
  have hD := hD0.self (sz := s.heap.size)
  generalize hAe : va_A [(xo, .inr (11, [.ref xg, .int 0, .ref xp, .int 0, .ref xq, .int 0, .ref r1, .ref r2, .ref r3, .ref r4, .ref se, .int ts, .int hq, .int 40, .int 0, .int 0])), (xq, .inl (cq, 16, .inr (.inr (.inr (.inr (fun _ => none)))))), (ou, .inl (cJ, 1, .inr (.inl (fun _ => 0))))] s.heap.size = A at hD hZ ⊢
  have hA : ∀ q : Nat, s.heap.size ≤ q → A q := fun q h => by rw [← hAe]; exact Or.inr h
  have hS : va_S A s.heap s.heap [] := va_S.rf
  have hl := lv_entry ([.ref xo, .int ii, .int jj, .ref ou]) (n := 5) (Nat.le_of_ble_eq_true rfl)
  rw [lg_entry_eq]
  generalize (lg_sl ([.ref xo, .int ii, .int jj, .ref ou]) ++ List.replicate (5 - (lg_sl ([.ref xo, .int ii, .int jj, .ref ou])).length) Slot.unset).toArray = ls at hl ⊢
  have hl : lv_has ls 5 [(0, .ref xo), (1, .int ii), (2, .int jj), (3, .ref ou)] := hl
  refine lv_aload_n hx hb dL_low_0 rfl (lv_at hl 3 rfl) ?_
  refine lv_iconst (v := 0) hx hb dL_low_1 (by decide) ?_
  refine lv_aload_n hx hb dL_low_2 rfl (lv_at hl 0 rfl) ?_
  refine lv_iload_n hx hb dL_low_3 rfl (lv_at hl 1 rfl) ?_
  refine lv_iload_n hx hb dL_low_4 rfl (lv_at hl 2 rfl) ?_
  have hFc := va_free (wc := [(xo, .inr (11, [.ref xg, .int 0, .ref xp, .int 0, .ref xq, .int 0, .ref r1, .ref r2, .ref r3, .ref r4, .ref se, .int ts, .int hq, .int 40, .int 0, .int 0])), (xq, .inl (cq, 16, .inr (.inr (.inr (.inr (fun _ => none))))))]) hD hS hA [0, 1] rfl
  refine vx_calli (vx_runV (As := [.int ii, .int jj]) (rest := [.int 0, .ref ou]) ⟨hx, hb, hml, hown, hts⟩ (zc_X6_low l hnt D G xo xg xp xq r1 r2 r3 r4 se ts hq cq ii jj s.heap.size) (cwV 2 hts gzL_low_X6_low_112 rfl rfl rfl (by decide +kernel) ⟨(Nat.le_of_ble_eq_true rfl), (Nat.le_of_ble_eq_true rfl)⟩) ⟨p_RW_blind, va_recv hK hP (ci := 11) (q0 := 0) rfl rfl, (p_RW_at (tc := [(cq, .object "Gatherhouse$Piece")]) (wc := [(xo, .inr (11, [.ref xg, .int 0, .ref xp, .int 0, .ref xq, .int 0, .ref r1, .ref r2, .ref r3, .ref r4, .ref se, .int ts, .int hq, .int 40, .int 0, .int 0])), (xq, .inl (cq, 16, .inr (.inr (.inr (.inr (fun _ => none))))))]) hP hK hD hS hA hT hZ [0, 1] [0] rfl rfl (by decide) rfl [.ref xo, .int ii, .int jj])⟩ rfl rfl hl.1 rfl (lv_room (Nat.le_of_ble_eq_true rfl)) dL_low_5 ⟨(Nat.le_of_ble_eq_true rfl), (Nat.le_of_ble_eq_true rfl)⟩) hS (fun q _ h => hFc q h) hFc (fun q _ h => hFc q h) (fun E ce q9 u t H locs ht hvm hpx hBX hz1 hk1 hS hce hcv hcl => ?_) (fun r_739 u t H locs ht hvm w_740 hB hz1 hk1 hS => ?_)
  · have hBX : (E = "java/lang/IndexOutOfBoundsException") := hBX
    rcases hBX with rfl
    refine vx_catch (own := RL) (name := "java/lang/IndexOutOfBoundsException") hown ([] : List ExceptionTableEntry) ⟨0, 10, 13, 21⟩ ([] : List ExceptionTableEntry) (by rw [hxe]; rfl) (fun _ h => absurd h List.not_mem_nil) (by decide) (by decide) (hts (.classLink RL 21 "java/lang/IndexOutOfBoundsException") (by decide +kernel)) (va_Nw.use rfl (hT.2.2.1 ("java/lang/IndexOutOfBoundsException", "java/lang/IndexOutOfBoundsException") (by decide +kernel))) hce hcv hcl ?_
    refine W.eq (g2 := F0 m 13 ls [.ref q9]) rfl ?_
    refine lv_astore (lv' := [(4, .ref q9), (0, .ref xo), (1, .int ii), (2, .int jj), (3, .ref ou)]) hx hb dL_low_13 hl (by decide) rfl (fun ls hl => ?_)
    refine lv_iconst (v := 1) hx hb dL_low_15 (by decide) ?_
    refine vx_ret ?_
    exact W.iret (v := 1) hx hb hr (fun t ht hW => ⟨⟨1, (), rfl, rfl, trivial⟩, hS.F ht⟩) hS.2.2 dL_low_16
  · exact w_740.elim
theorem dL_strain_0 : decode cL_strain 0 = .ok (.aload_n 2, 1) := by decide +kernel
theorem dL_strain_1 : decode cL_strain 1 = .ok (.iconst 0, 1) := by decide +kernel
theorem dL_strain_2 : decode cL_strain 2 = .ok (.aload_n 0, 1) := by decide +kernel
theorem dL_strain_3 : decode cL_strain 3 = .ok (.iload_n 1, 1) := by decide +kernel
theorem dL_strain_4 : decode cL_strain 4 = .ok (.invokevirtual 116, 3) := by decide +kernel
theorem dL_strain_12 : decode cL_strain 12 = .ok (.astore_n 3, 1) := by decide +kernel
theorem dL_strain_13 : decode cL_strain 13 = .ok (.iconst 1, 1) := by decide +kernel
theorem dL_strain_14 : decode cL_strain 14 = .ok (.ireturn, 1) := by decide +kernel
def wzEL_strain : List Cond := [.codeWith yL_strain cL_strain 4 (some .int) [(0, 9, 12, 21)], .methodLink RL 116 yX6_strain, .instanceMethod yX6_strain, .selects RX6 yX6_strain yX6_strain, .initialized RX6, .code yX6_strain cX6_strain 2 (some .int), .methodLink RX6 169 yX6_findPiece, .instanceMethod yX6_findPiece, .selects RX6 yX6_findPiece yX6_findPiece, .code yX6_findPiece cX6_findPiece 3 (some (.object "Gatherhouse$Piece")), .classLink RX6 365 "java/lang/IndexOutOfBoundsException", .initialized "java/lang/IndexOutOfBoundsException", .fieldLink RX6 30 "Gatherhouse" "pieces" "[LGatherhouse$Piece;", .classLink RL 21 "java/lang/IndexOutOfBoundsException"]
def wzL_strain : List Cond := wzEL_strain ++ (u_ws RX6 TX6 16 ++ ((vx_atS RX6 369 "java/lang/IndexOutOfBoundsException" ["java/lang/RuntimeException", "java/lang/Exception"]).filter goodWord))
theorem zgEL_strain : wzEL_strain.all goodWord = true := by decide +kernel
theorem zuL_strain_X6 : ∀ w ∈ u_ws RX6 TX6 16, w ∈ wzL_strain := (fun _ h => (List.mem_append_right _ (List.mem_append_left _ h)))
theorem ztL_strain_X6_369 : ∀ w ∈ (vx_atS RX6 369 "java/lang/IndexOutOfBoundsException" ["java/lang/RuntimeException", "java/lang/Exception"]).filter goodWord, w ∈ wzL_strain := (fun _ h => (List.mem_append_right _ (List.mem_append_right _ h)))
theorem gzL_strain_X6_strain_116 : GoodIn wzL_strain (wsV RL 116 RX6 yX6_strain wzX6_strain) := (goodIn_app (z_lift (goodIn_r _ [1, 2, 3, 4] rfl (by decide +kernel))) (goodIn_app (z_lift (goodIn_r wzEX6_strain [5, 6, 7, 8, 4, 9, 10, 11, 12] rfl zgEX6_strain)) (goodIn_app (goodIn_sub (fun _ h => (List.mem_append_right _ (List.mem_append_left _ h))) zgU_X6) (goodIn_sub (fun _ h => (List.mem_append_right _ (List.mem_append_right _ h))) zgV_X6_369))))
set_option maxHeartbeats 4000000 in
set_option maxRecDepth 100000 in
theorem zc_L_strain (l : Launch) (hnt : l.stackTraces = false) (D : va_G) (G : Nat × Nat × Nat) (xo : Nat) (xg : Nat) (xp : Nat) (xq : Nat) (r1 : Nat) (r2 : Nat) (r3 : Nat) (r4 : Nat) (se : Nat) (ts : Int32) (hq : Int32) (cq : ClassId) (ou : Nat) (cJ : ClassId) (ii : Int32) (sz : Nat) : vx_Met l yL_strain wzL_strain ({ frames := 8, cells := 1, slots := 6, locals := 125 }) (va_Pc [.ref xo, .int ii, .ref ou] (p_RW D G [(cq, .object "Gatherhouse$Piece"), (cJ, .long)] [(xo, .inr (11, [.ref xg, .int 0, .ref xp, .int 0, .ref xq, .int 0, .ref r1, .ref r2, .ref r3, .ref r4, .ref se, .int ts, .int hq, .int 40, .int 0, .int 0])), (xq, .inl (cq, 16, .inr (.inr (.inr (.inr (fun _ => none)))))), (ou, .inl (cJ, 1, .inr (.inl (fun _ => 0))))] sz)) (va_Qi (fun (r : Int32) (u : Unit) => r = 1) (fun (u : Unit) (t : State) => True) (va_A [(xo, .inr (11, [.ref xg, .int 0, .ref xp, .int 0, .ref xq, .int 0, .ref r1, .ref r2, .ref r3, .ref r4, .ref se, .int ts, .int hq, .int 40, .int 0, .int 0])), (xq, .inl (cq, 16, .inr (.inr (.inr (.inr (fun _ => none)))))), (ou, .inl (cJ, 1, .inr (.inl (fun _ => 0))))] sz)) (vx_X (fun (_ : Unit) => True) (fun E (_ : Unit) (_ : State) => False) (va_A [(xo, .inr (11, [.ref xg, .int 0, .ref xp, .int 0, .ref xq, .int 0, .ref r1, .ref r2, .ref r3, .ref r4, .ref se, .int ts, .int hq, .int 40, .int 0, .int 0])), (xq, .inl (cq, 16, .inr (.inr (.inr (.inr (fun _ => none)))))), (ou, .inl (cJ, 1, .inr (.inl (fun _ => 0))))] sz)) 1 6 (va_A [(xo, .inr (11, [.ref xg, .int 0, .ref xp, .int 0, .ref xq, .int 0, .ref r1, .ref r2, .ref r3, .ref r4, .ref se, .int ts, .int hq, .int 40, .int 0, .int 0])), (xq, .inl (cq, 16, .inr (.inr (.inr (.inr (fun _ => none)))))), (ou, .inl (cJ, 1, .inr (.inl (fun _ => 0))))] sz) := by
  refine vx_ofWH (cc := cL_strain) (maxL := 4) (ret := (some .int)) (by decide) rfl ?_
  intro p e s m args below meth c s₁ B hml hv
  obtain ⟨rfl, hsz, hP, hK, hD0, hT, hZ⟩ := hv
  have hx := B.exec
  have hb := B.bytes
  have hr := B.returns
  have hts := atoms_spec (ws := wzL_strain) B.pre
  have hown : s.vm.findClass RL = some m.cls := findClass_of_methodNamed B.named
  have hlocks := B.notSynchronized
  have hxe := vx_table (x := yL_strain) B (hts _ List.mem_cons_self)
  subst hsz
  have hD := hD0.self (sz := s.heap.size)
  generalize hAe : va_A [(xo, .inr (11, [.ref xg, .int 0, .ref xp, .int 0, .ref xq, .int 0, .ref r1, .ref r2, .ref r3, .ref r4, .ref se, .int ts, .int hq, .int 40, .int 0, .int 0])), (xq, .inl (cq, 16, .inr (.inr (.inr (.inr (fun _ => none)))))), (ou, .inl (cJ, 1, .inr (.inl (fun _ => 0))))] s.heap.size = A at hD hZ ⊢
  have hA : ∀ q : Nat, s.heap.size ≤ q → A q := fun q h => by rw [← hAe]; exact Or.inr h
  have hS : va_S A s.heap s.heap [] := va_S.rf
  have hl := lv_entry ([.ref xo, .int ii, .ref ou]) (n := 4) (Nat.le_of_ble_eq_true rfl)
  rw [lg_entry_eq]
  generalize (lg_sl ([.ref xo, .int ii, .ref ou]) ++ List.replicate (4 - (lg_sl ([.ref xo, .int ii, .ref ou])).length) Slot.unset).toArray = ls at hl ⊢
  have hl : lv_has ls 4 [(0, .ref xo), (1, .int ii), (2, .ref ou)] := hl
  refine lv_aload_n hx hb dL_strain_0 rfl (lv_at hl 2 rfl) ?_
  refine lv_iconst (v := 0) hx hb dL_strain_1 (by decide) ?_
  refine lv_aload_n hx hb dL_strain_2 rfl (lv_at hl 0 rfl) ?_
  refine lv_iload_n hx hb dL_strain_3 rfl (lv_at hl 1 rfl) ?_
  have hFc := va_free (wc := [(xo, .inr (11, [.ref xg, .int 0, .ref xp, .int 0, .ref xq, .int 0, .ref r1, .ref r2, .ref r3, .ref r4, .ref se, .int ts, .int hq, .int 40, .int 0, .int 0])), (xq, .inl (cq, 16, .inr (.inr (.inr (.inr (fun _ => none))))))]) hD hS hA [0, 1] rfl
  refine vx_calli (vx_runV (As := [.int ii]) (rest := [.int 0, .ref ou]) ⟨hx, hb, hml, hown, hts⟩ (zc_X6_strain l hnt D G xo xg xp xq r1 r2 r3 r4 se ts hq cq ii s.heap.size) (cwV 1 hts gzL_strain_X6_strain_116 rfl rfl rfl (by decide +kernel) ⟨(Nat.le_of_ble_eq_true rfl), (Nat.le_of_ble_eq_true rfl)⟩) ⟨p_RW_blind, va_recv hK hP (ci := 11) (q0 := 0) rfl rfl, (p_RW_at (tc := [(cq, .object "Gatherhouse$Piece")]) (wc := [(xo, .inr (11, [.ref xg, .int 0, .ref xp, .int 0, .ref xq, .int 0, .ref r1, .ref r2, .ref r3, .ref r4, .ref se, .int ts, .int hq, .int 40, .int 0, .int 0])), (xq, .inl (cq, 16, .inr (.inr (.inr (.inr (fun _ => none))))))]) hP hK hD hS hA hT hZ [0, 1] [0] rfl rfl (by decide) rfl [.ref xo, .int ii])⟩ rfl rfl hl.1 rfl (lv_room (Nat.le_of_ble_eq_true rfl)) dL_strain_4 ⟨(Nat.le_of_ble_eq_true rfl), (Nat.le_of_ble_eq_true rfl)⟩) hS (fun q _ h => hFc q h) hFc (fun q _ h => hFc q h) (fun E ce q9 u t H locs ht hvm hpx hBX hz1 hk1 hS hce hcv hcl => ?_) (fun r_741 u t H locs ht hvm w_742 hB hz1 hk1 hS => ?_)
  · have hBX : (E = "java/lang/IndexOutOfBoundsException") := hBX
    rcases hBX with rfl
    refine vx_catch (own := RL) (name := "java/lang/IndexOutOfBoundsException") hown ([] : List ExceptionTableEntry) ⟨0, 9, 12, 21⟩ ([] : List ExceptionTableEntry) (by rw [hxe]; rfl) (fun _ h => absurd h List.not_mem_nil) (by decide) (by decide) (hts (.classLink RL 21 "java/lang/IndexOutOfBoundsException") (by decide +kernel)) (va_Nw.use rfl (hT.2.2.1 ("java/lang/IndexOutOfBoundsException", "java/lang/IndexOutOfBoundsException") (by decide +kernel))) hce hcv hcl ?_
    refine W.eq (g2 := F0 m 12 ls [.ref q9]) rfl ?_
    refine lv_astore_n (lv' := [(3, .ref q9), (0, .ref xo), (1, .int ii), (2, .ref ou)]) hx hb dL_strain_12 rfl hl (by decide) rfl (fun ls hl => ?_)
    refine lv_iconst (v := 1) hx hb dL_strain_13 (by decide) ?_
    refine vx_ret ?_
    exact W.iret (v := 1) hx hb hr (fun t ht hW => ⟨⟨1, (), rfl, rfl, trivial⟩, hS.F ht⟩) hS.2.2 dL_strain_14
  · exact w_742.elim
theorem dL_isFirst_0 : decode cL_isFirst 0 = .ok (.aload_n 2, 1) := by decide +kernel
theorem dL_isFirst_1 : decode cL_isFirst 1 = .ok (.iconst 0, 1) := by decide +kernel
theorem dL_isFirst_2 : decode cL_isFirst 2 = .ok (.aload_n 0, 1) := by decide +kernel
theorem dL_isFirst_3 : decode cL_isFirst 3 = .ok (.iload_n 1, 1) := by decide +kernel
theorem dL_isFirst_4 : decode cL_isFirst 4 = .ok (.invokevirtual 119, 3) := by decide +kernel
theorem dL_isFirst_19 : decode cL_isFirst 19 = .ok (.astore_n 3, 1) := by decide +kernel
theorem dL_isFirst_20 : decode cL_isFirst 20 = .ok (.iconst 1, 1) := by decide +kernel
theorem dL_isFirst_21 : decode cL_isFirst 21 = .ok (.ireturn, 1) := by decide +kernel
def wzEL_isFirst : List Cond := [.codeWith yL_isFirst cL_isFirst 4 (some .int) [(0, 16, 19, 21), (0, 16, 22, 91)], .methodLink RL 119 yX6_isFirst, .instanceMethod yX6_isFirst, .selects RX6 yX6_isFirst yX6_isFirst, .initialized RX6, .code yX6_isFirst cX6_isFirst 3 (some .boolean), .methodLink RX6 169 yX6_findPiece, .instanceMethod yX6_findPiece, .selects RX6 yX6_findPiece yX6_findPiece, .code yX6_findPiece cX6_findPiece 3 (some (.object "Gatherhouse$Piece")), .classLink RX6 365 "java/lang/IndexOutOfBoundsException", .initialized "java/lang/IndexOutOfBoundsException", .fieldLink RX6 30 "Gatherhouse" "pieces" "[LGatherhouse$Piece;", .classLink RL 21 "java/lang/IndexOutOfBoundsException"]
def wzL_isFirst : List Cond := wzEL_isFirst ++ (u_ws RX6 TX6 16 ++ ((vx_atS RX6 369 "java/lang/IndexOutOfBoundsException" ["java/lang/RuntimeException", "java/lang/Exception"]).filter goodWord))
theorem zgEL_isFirst : wzEL_isFirst.all goodWord = true := by decide +kernel
theorem zuL_isFirst_X6 : ∀ w ∈ u_ws RX6 TX6 16, w ∈ wzL_isFirst := (fun _ h => (List.mem_append_right _ (List.mem_append_left _ h)))
theorem ztL_isFirst_X6_369 : ∀ w ∈ (vx_atS RX6 369 "java/lang/IndexOutOfBoundsException" ["java/lang/RuntimeException", "java/lang/Exception"]).filter goodWord, w ∈ wzL_isFirst := (fun _ h => (List.mem_append_right _ (List.mem_append_right _ h)))
theorem gzL_isFirst_X6_isFirst_119 : GoodIn wzL_isFirst (wsV RL 119 RX6 yX6_isFirst wzX6_isFirst) := (goodIn_app (z_lift (goodIn_r _ [1, 2, 3, 4] rfl (by decide +kernel))) (goodIn_app (z_lift (goodIn_r wzEX6_isFirst [5, 6, 7, 8, 4, 9, 10, 11, 12] rfl zgEX6_isFirst)) (goodIn_app (goodIn_sub (fun _ h => (List.mem_append_right _ (List.mem_append_left _ h))) zgU_X6) (goodIn_sub (fun _ h => (List.mem_append_right _ (List.mem_append_right _ h))) zgV_X6_369))))
set_option maxHeartbeats 4000000 in
set_option maxRecDepth 100000 in
theorem zc_L_isFirst (l : Launch) (hnt : l.stackTraces = false) (D : va_G) (G : Nat × Nat × Nat) (xo : Nat) (xg : Nat) (xp : Nat) (xq : Nat) (r1 : Nat) (r2 : Nat) (r3 : Nat) (r4 : Nat) (se : Nat) (ts : Int32) (hq : Int32) (cq : ClassId) (ou : Nat) (cJ : ClassId) (ii : Int32) (sz : Nat) : vx_Met l yL_isFirst wzL_isFirst ({ frames := 8, cells := 1, slots := 6, locals := 126 }) (va_Pc [.ref xo, .int ii, .ref ou] (p_RW D G [(cq, .object "Gatherhouse$Piece"), (cJ, .long)] [(xo, .inr (11, [.ref xg, .int 0, .ref xp, .int 0, .ref xq, .int 0, .ref r1, .ref r2, .ref r3, .ref r4, .ref se, .int ts, .int hq, .int 40, .int 0, .int 0])), (xq, .inl (cq, 16, .inr (.inr (.inr (.inr (fun _ => none)))))), (ou, .inl (cJ, 1, .inr (.inl (fun _ => 0))))] sz)) (va_Qi (fun (r : Int32) (u : Unit) => r = 1) (fun (u : Unit) (t : State) => True) (va_A [(xo, .inr (11, [.ref xg, .int 0, .ref xp, .int 0, .ref xq, .int 0, .ref r1, .ref r2, .ref r3, .ref r4, .ref se, .int ts, .int hq, .int 40, .int 0, .int 0])), (xq, .inl (cq, 16, .inr (.inr (.inr (.inr (fun _ => none)))))), (ou, .inl (cJ, 1, .inr (.inl (fun _ => 0))))] sz)) (vx_X (fun (_ : Unit) => True) (fun E (_ : Unit) (_ : State) => False) (va_A [(xo, .inr (11, [.ref xg, .int 0, .ref xp, .int 0, .ref xq, .int 0, .ref r1, .ref r2, .ref r3, .ref r4, .ref se, .int ts, .int hq, .int 40, .int 0, .int 0])), (xq, .inl (cq, 16, .inr (.inr (.inr (.inr (fun _ => none)))))), (ou, .inl (cJ, 1, .inr (.inl (fun _ => 0))))] sz)) 1 6 (va_A [(xo, .inr (11, [.ref xg, .int 0, .ref xp, .int 0, .ref xq, .int 0, .ref r1, .ref r2, .ref r3, .ref r4, .ref se, .int ts, .int hq, .int 40, .int 0, .int 0])), (xq, .inl (cq, 16, .inr (.inr (.inr (.inr (fun _ => none)))))), (ou, .inl (cJ, 1, .inr (.inl (fun _ => 0))))] sz) := by
  refine vx_ofWH (cc := cL_isFirst) (maxL := 4) (ret := (some .int)) (by decide) rfl ?_
  intro p e s m args below meth c s₁ B hml hv
  obtain ⟨rfl, hsz, hP, hK, hD0, hT, hZ⟩ := hv
  have hx := B.exec
  have hb := B.bytes
  have hr := B.returns
  have hts := atoms_spec (ws := wzL_isFirst) B.pre
  have hown : s.vm.findClass RL = some m.cls := findClass_of_methodNamed B.named
  have hlocks := B.notSynchronized
  have hxe := vx_table (x := yL_isFirst) B (hts _ List.mem_cons_self)
  subst hsz
  have hD := hD0.self (sz := s.heap.size)
  generalize hAe : va_A [(xo, .inr (11, [.ref xg, .int 0, .ref xp, .int 0, .ref xq, .int 0, .ref r1, .ref r2, .ref r3, .ref r4, .ref se, .int ts, .int hq, .int 40, .int 0, .int 0])), (xq, .inl (cq, 16, .inr (.inr (.inr (.inr (fun _ => none)))))), (ou, .inl (cJ, 1, .inr (.inl (fun _ => 0))))] s.heap.size = A at hD hZ ⊢
  have hA : ∀ q : Nat, s.heap.size ≤ q → A q := fun q h => by rw [← hAe]; exact Or.inr h
  have hS : va_S A s.heap s.heap [] := va_S.rf
  have hl := lv_entry ([.ref xo, .int ii, .ref ou]) (n := 4) (Nat.le_of_ble_eq_true rfl)
  rw [lg_entry_eq]
  generalize (lg_sl ([.ref xo, .int ii, .ref ou]) ++ List.replicate (4 - (lg_sl ([.ref xo, .int ii, .ref ou])).length) Slot.unset).toArray = ls at hl ⊢
  have hl : lv_has ls 4 [(0, .ref xo), (1, .int ii), (2, .ref ou)] := hl
  refine lv_aload_n hx hb dL_isFirst_0 rfl (lv_at hl 2 rfl) ?_
  refine lv_iconst (v := 0) hx hb dL_isFirst_1 (by decide) ?_
  refine lv_aload_n hx hb dL_isFirst_2 rfl (lv_at hl 0 rfl) ?_
  refine lv_iload_n hx hb dL_isFirst_3 rfl (lv_at hl 1 rfl) ?_
  have hFc := va_free (wc := [(xo, .inr (11, [.ref xg, .int 0, .ref xp, .int 0, .ref xq, .int 0, .ref r1, .ref r2, .ref r3, .ref r4, .ref se, .int ts, .int hq, .int 40, .int 0, .int 0])), (xq, .inl (cq, 16, .inr (.inr (.inr (.inr (fun _ => none))))))]) hD hS hA [0, 1] rfl
  refine vx_calli (vx_runV (As := [.int ii]) (rest := [.int 0, .ref ou]) ⟨hx, hb, hml, hown, hts⟩ (zc_X6_isFirst l hnt D G xo xg xp xq r1 r2 r3 r4 se ts hq cq ii s.heap.size) (cwV 1 hts gzL_isFirst_X6_isFirst_119 rfl rfl rfl (by decide +kernel) ⟨(Nat.le_of_ble_eq_true rfl), (Nat.le_of_ble_eq_true rfl)⟩) ⟨p_RW_blind, va_recv hK hP (ci := 11) (q0 := 0) rfl rfl, (p_RW_at (tc := [(cq, .object "Gatherhouse$Piece")]) (wc := [(xo, .inr (11, [.ref xg, .int 0, .ref xp, .int 0, .ref xq, .int 0, .ref r1, .ref r2, .ref r3, .ref r4, .ref se, .int ts, .int hq, .int 40, .int 0, .int 0])), (xq, .inl (cq, 16, .inr (.inr (.inr (.inr (fun _ => none))))))]) hP hK hD hS hA hT hZ [0, 1] [0] rfl rfl (by decide) rfl [.ref xo, .int ii])⟩ rfl rfl hl.1 rfl (lv_room (Nat.le_of_ble_eq_true rfl)) dL_isFirst_4 ⟨(Nat.le_of_ble_eq_true rfl), (Nat.le_of_ble_eq_true rfl)⟩) hS (fun q _ h => hFc q h) hFc (fun q _ h => hFc q h) (fun E ce q9 u t H locs ht hvm hpx hBX hz1 hk1 hS hce hcv hcl => ?_) (fun r_743 u t H locs ht hvm w_744 hB hz1 hk1 hS => ?_)
  · have hBX : (E = "java/lang/IndexOutOfBoundsException") := hBX
    rcases hBX with rfl
    refine vx_catch (own := RL) (name := "java/lang/IndexOutOfBoundsException") hown ([] : List ExceptionTableEntry) ⟨0, 16, 19, 21⟩ ([⟨0, 16, 22, 91⟩] : List ExceptionTableEntry) (by rw [hxe]; rfl) (fun _ h => absurd h List.not_mem_nil) (by decide) (by decide) (hts (.classLink RL 21 "java/lang/IndexOutOfBoundsException") (by decide +kernel)) (va_Nw.use rfl (hT.2.2.1 ("java/lang/IndexOutOfBoundsException", "java/lang/IndexOutOfBoundsException") (by decide +kernel))) hce hcv hcl ?_
    refine W.eq (g2 := F0 m 19 ls [.ref q9]) rfl ?_
    refine lv_astore_n (lv' := [(3, .ref q9), (0, .ref xo), (1, .int ii), (2, .ref ou)]) hx hb dL_isFirst_19 rfl hl (by decide) rfl (fun ls hl => ?_)
    refine lv_iconst (v := 1) hx hb dL_isFirst_20 (by decide) ?_
    refine vx_ret ?_
    exact W.iret (v := 1) hx hb hr (fun t ht hW => ⟨⟨1, (), rfl, rfl, trivial⟩, hS.F ht⟩) hS.2.2 dL_isFirst_21
  · exact w_744.elim
theorem dL_cut_0 : decode cL_cut 0 = .ok (.aload 4, 2) := by decide +kernel
theorem dL_cut_2 : decode cL_cut 2 = .ok (.iconst 0, 1) := by decide +kernel
theorem dL_cut_3 : decode cL_cut 3 = .ok (.aload_n 0, 1) := by decide +kernel
theorem dL_cut_4 : decode cL_cut 4 = .ok (.iload_n 1, 1) := by decide +kernel
theorem dL_cut_5 : decode cL_cut 5 = .ok (.iload_n 2, 1) := by decide +kernel
theorem dL_cut_6 : decode cL_cut 6 = .ok (.iload_n 3, 1) := by decide +kernel
theorem dL_cut_7 : decode cL_cut 7 = .ok (.invokevirtual 129, 3) := by decide +kernel
theorem dL_cut_15 : decode cL_cut 15 = .ok (.astore 5, 2) := by decide +kernel
theorem dL_cut_17 : decode cL_cut 17 = .ok (.iconst 1, 1) := by decide +kernel
theorem dL_cut_18 : decode cL_cut 18 = .ok (.ireturn, 1) := by decide +kernel
def wzEL_cut : List Cond := [.codeWith yL_cut cL_cut 6 (some .int) [(0, 12, 15, 21), (0, 12, 19, 13), (0, 12, 23, 41)], .methodLink RL 129 yX6_cut, .instanceMethod yX6_cut, .selects RX6 yX6_cut yX6_cut, .initialized RX6, .code yX6_cut cX6_cut 6 (some .int), .methodLink RX6 169 yX6_findPiece, .instanceMethod yX6_findPiece, .selects RX6 yX6_findPiece yX6_findPiece, .code yX6_findPiece cX6_findPiece 3 (some (.object "Gatherhouse$Piece")), .classLink RX6 365 "java/lang/IndexOutOfBoundsException", .initialized "java/lang/IndexOutOfBoundsException", .fieldLink RX6 30 "Gatherhouse" "pieces" "[LGatherhouse$Piece;", .classLink RL 21 "java/lang/IndexOutOfBoundsException"]
def wzL_cut : List Cond := wzEL_cut ++ (u_ws RX6 TX6 16 ++ ((vx_atS RX6 369 "java/lang/IndexOutOfBoundsException" ["java/lang/RuntimeException", "java/lang/Exception"]).filter goodWord))
theorem zgEL_cut : wzEL_cut.all goodWord = true := by decide +kernel
theorem zuL_cut_X6 : ∀ w ∈ u_ws RX6 TX6 16, w ∈ wzL_cut := (fun _ h => (List.mem_append_right _ (List.mem_append_left _ h)))
theorem ztL_cut_X6_369 : ∀ w ∈ (vx_atS RX6 369 "java/lang/IndexOutOfBoundsException" ["java/lang/RuntimeException", "java/lang/Exception"]).filter goodWord, w ∈ wzL_cut := (fun _ h => (List.mem_append_right _ (List.mem_append_right _ h)))
theorem gzL_cut_X6_cut_129 : GoodIn wzL_cut (wsV RL 129 RX6 yX6_cut wzX6_cut) := (goodIn_app (z_lift (goodIn_r _ [1, 2, 3, 4] rfl (by decide +kernel))) (goodIn_app (z_lift (goodIn_r wzEX6_cut [5, 6, 7, 8, 4, 9, 10, 11, 12] rfl zgEX6_cut)) (goodIn_app (goodIn_sub (fun _ h => (List.mem_append_right _ (List.mem_append_left _ h))) zgU_X6) (goodIn_sub (fun _ h => (List.mem_append_right _ (List.mem_append_right _ h))) zgV_X6_369))))
set_option maxHeartbeats 4000000 in
set_option maxRecDepth 100000 in
theorem zc_L_cut (l : Launch) (hnt : l.stackTraces = false) (D : va_G) (G : Nat × Nat × Nat) (xo : Nat) (xg : Nat) (xp : Nat) (xq : Nat) (r1 : Nat) (r2 : Nat) (r3 : Nat) (r4 : Nat) (se : Nat) (ts : Int32) (hq : Int32) (cq : ClassId) (ou : Nat) (cJ : ClassId) (ii : Int32) (jj : Int32) (kk : Int32) (sz : Nat) : vx_Met l yL_cut wzL_cut ({ frames := 8, cells := 1, slots := 6, locals := 129 }) (va_Pc [.ref xo, .int ii, .int jj, .int kk, .ref ou] (p_RW D G [(cq, .object "Gatherhouse$Piece"), (cJ, .long)] [(xo, .inr (11, [.ref xg, .int 0, .ref xp, .int 0, .ref xq, .int 0, .ref r1, .ref r2, .ref r3, .ref r4, .ref se, .int ts, .int hq, .int 40, .int 0, .int 0])), (xq, .inl (cq, 16, .inr (.inr (.inr (.inr (fun _ => none)))))), (ou, .inl (cJ, 1, .inr (.inl (fun _ => 0))))] sz)) (va_Qi (fun (r : Int32) (u : Unit) => r = 1) (fun (u : Unit) (t : State) => True) (va_A [(xo, .inr (11, [.ref xg, .int 0, .ref xp, .int 0, .ref xq, .int 0, .ref r1, .ref r2, .ref r3, .ref r4, .ref se, .int ts, .int hq, .int 40, .int 0, .int 0])), (xq, .inl (cq, 16, .inr (.inr (.inr (.inr (fun _ => none)))))), (ou, .inl (cJ, 1, .inr (.inl (fun _ => 0))))] sz)) (vx_X (fun (_ : Unit) => True) (fun E (_ : Unit) (_ : State) => False) (va_A [(xo, .inr (11, [.ref xg, .int 0, .ref xp, .int 0, .ref xq, .int 0, .ref r1, .ref r2, .ref r3, .ref r4, .ref se, .int ts, .int hq, .int 40, .int 0, .int 0])), (xq, .inl (cq, 16, .inr (.inr (.inr (.inr (fun _ => none)))))), (ou, .inl (cJ, 1, .inr (.inl (fun _ => 0))))] sz)) 1 6 (va_A [(xo, .inr (11, [.ref xg, .int 0, .ref xp, .int 0, .ref xq, .int 0, .ref r1, .ref r2, .ref r3, .ref r4, .ref se, .int ts, .int hq, .int 40, .int 0, .int 0])), (xq, .inl (cq, 16, .inr (.inr (.inr (.inr (fun _ => none)))))), (ou, .inl (cJ, 1, .inr (.inl (fun _ => 0))))] sz) := by
  refine vx_ofWH (cc := cL_cut) (maxL := 6) (ret := (some .int)) (by decide) rfl ?_
  intro p e s m args below meth c s₁ B hml hv
  obtain ⟨rfl, hsz, hP, hK, hD0, hT, hZ⟩ := hv
  have hx := B.exec
  have hb := B.bytes
  have hr := B.returns
  have hts := atoms_spec (ws := wzL_cut) B.pre
  have hown : s.vm.findClass RL = some m.cls := findClass_of_methodNamed B.named
  have hlocks := B.notSynchronized
  have hxe := vx_table (x := yL_cut) B (hts _ List.mem_cons_self)
  subst hsz
  have hD := hD0.self (sz := s.heap.size)
  generalize hAe : va_A [(xo, .inr (11, [.ref xg, .int 0, .ref xp, .int 0, .ref xq, .int 0, .ref r1, .ref r2, .ref r3, .ref r4, .ref se, .int ts, .int hq, .int 40, .int 0, .int 0])), (xq, .inl (cq, 16, .inr (.inr (.inr (.inr (fun _ => none)))))), (ou, .inl (cJ, 1, .inr (.inl (fun _ => 0))))] s.heap.size = A at hD hZ ⊢
  have hA : ∀ q : Nat, s.heap.size ≤ q → A q := fun q h => by rw [← hAe]; exact Or.inr h
  have hS : va_S A s.heap s.heap [] := va_S.rf
  have hl := lv_entry ([.ref xo, .int ii, .int jj, .int kk, .ref ou]) (n := 6) (Nat.le_of_ble_eq_true rfl)
  rw [lg_entry_eq]
  generalize (lg_sl ([.ref xo, .int ii, .int jj, .int kk, .ref ou]) ++ List.replicate (6 - (lg_sl ([.ref xo, .int ii, .int jj, .int kk, .ref ou])).length) Slot.unset).toArray = ls at hl ⊢
  have hl : lv_has ls 6 [(0, .ref xo), (1, .int ii), (2, .int jj), (3, .int kk), (4, .ref ou)] := hl
  refine lv_aload hx hb dL_cut_0 (lv_at hl 4 rfl) ?_
  refine lv_iconst (v := 0) hx hb dL_cut_2 (by decide) ?_
  refine lv_aload_n hx hb dL_cut_3 rfl (lv_at hl 0 rfl) ?_
  refine lv_iload_n hx hb dL_cut_4 rfl (lv_at hl 1 rfl) ?_
  refine lv_iload_n hx hb dL_cut_5 rfl (lv_at hl 2 rfl) ?_
  refine lv_iload_n hx hb dL_cut_6 rfl (lv_at hl 3 rfl) ?_
  have hFc := va_free (wc := [(xo, .inr (11, [.ref xg, .int 0, .ref xp, .int 0, .ref xq, .int 0, .ref r1, .ref r2, .ref r3, .ref r4, .ref se, .int ts, .int hq, .int 40, .int 0, .int 0])), (xq, .inl (cq, 16, .inr (.inr (.inr (.inr (fun _ => none))))))]) hD hS hA [0, 1] rfl
  refine vx_calli (vx_runV (As := [.int ii, .int jj, .int kk]) (rest := [.int 0, .ref ou]) ⟨hx, hb, hml, hown, hts⟩ (zc_X6_cut l hnt D G xo xg xp xq r1 r2 r3 r4 se ts hq cq ii jj kk s.heap.size) (cwV 3 hts gzL_cut_X6_cut_129 rfl rfl rfl (by decide +kernel) ⟨(Nat.le_of_ble_eq_true rfl), (Nat.le_of_ble_eq_true rfl)⟩) ⟨p_RW_blind, va_recv hK hP (ci := 11) (q0 := 0) rfl rfl, (p_RW_at (tc := [(cq, .object "Gatherhouse$Piece")]) (wc := [(xo, .inr (11, [.ref xg, .int 0, .ref xp, .int 0, .ref xq, .int 0, .ref r1, .ref r2, .ref r3, .ref r4, .ref se, .int ts, .int hq, .int 40, .int 0, .int 0])), (xq, .inl (cq, 16, .inr (.inr (.inr (.inr (fun _ => none))))))]) hP hK hD hS hA hT hZ [0, 1] [0] rfl rfl (by decide) rfl [.ref xo, .int ii, .int jj, .int kk])⟩ rfl rfl hl.1 rfl (lv_room (Nat.le_of_ble_eq_true rfl)) dL_cut_7 ⟨(Nat.le_of_ble_eq_true rfl), (Nat.le_of_ble_eq_true rfl)⟩) hS (fun q _ h => hFc q h) hFc (fun q _ h => hFc q h) (fun E ce q9 u t H locs ht hvm hpx hBX hz1 hk1 hS hce hcv hcl => ?_) (fun r_745 u t H locs ht hvm w_746 hB hz1 hk1 hS => ?_)
  · have hBX : (E = "java/lang/IndexOutOfBoundsException") := hBX
    rcases hBX with rfl
    refine vx_catch (own := RL) (name := "java/lang/IndexOutOfBoundsException") hown ([] : List ExceptionTableEntry) ⟨0, 12, 15, 21⟩ ([⟨0, 12, 19, 13⟩, ⟨0, 12, 23, 41⟩] : List ExceptionTableEntry) (by rw [hxe]; rfl) (fun _ h => absurd h List.not_mem_nil) (by decide) (by decide) (hts (.classLink RL 21 "java/lang/IndexOutOfBoundsException") (by decide +kernel)) (va_Nw.use rfl (hT.2.2.1 ("java/lang/IndexOutOfBoundsException", "java/lang/IndexOutOfBoundsException") (by decide +kernel))) hce hcv hcl ?_
    refine W.eq (g2 := F0 m 15 ls [.ref q9]) rfl ?_
    refine lv_astore (lv' := [(5, .ref q9), (0, .ref xo), (1, .int ii), (2, .int jj), (3, .int kk), (4, .ref ou)]) hx hb dL_cut_15 hl (by decide) rfl (fun ls hl => ?_)
    refine lv_iconst (v := 1) hx hb dL_cut_17 (by decide) ?_
    refine vx_ret ?_
    exact W.iret (v := 1) hx hb hr (fun t ht hW => ⟨⟨1, (), rfl, rfl, trivial⟩, hS.F ht⟩) hS.2.2 dL_cut_18
  · exact w_746.elim
theorem dL_colour_0 : decode cL_colour 0 = .ok (.aload_n 3, 1) := by decide +kernel
theorem dL_colour_1 : decode cL_colour 1 = .ok (.iconst 0, 1) := by decide +kernel
theorem dL_colour_2 : decode cL_colour 2 = .ok (.aload_n 0, 1) := by decide +kernel
theorem dL_colour_3 : decode cL_colour 3 = .ok (.iload_n 1, 1) := by decide +kernel
theorem dL_colour_4 : decode cL_colour 4 = .ok (.iload_n 2, 1) := by decide +kernel
theorem dL_colour_5 : decode cL_colour 5 = .ok (.invokevirtual 132, 3) := by decide +kernel
theorem dL_colour_13 : decode cL_colour 13 = .ok (.astore 4, 2) := by decide +kernel
theorem dL_colour_15 : decode cL_colour 15 = .ok (.iconst 1, 1) := by decide +kernel
theorem dL_colour_16 : decode cL_colour 16 = .ok (.ireturn, 1) := by decide +kernel
def wzEL_colour : List Cond := [.codeWith yL_colour cL_colour 5 (some .int) [(0, 10, 13, 21)], .methodLink RL 132 yX6_colour, .instanceMethod yX6_colour, .selects RX6 yX6_colour yX6_colour, .initialized RX6, .code yX6_colour cX6_colour 3 (some .int), .methodLink RX6 169 yX6_findPiece, .instanceMethod yX6_findPiece, .selects RX6 yX6_findPiece yX6_findPiece, .code yX6_findPiece cX6_findPiece 3 (some (.object "Gatherhouse$Piece")), .classLink RX6 365 "java/lang/IndexOutOfBoundsException", .initialized "java/lang/IndexOutOfBoundsException", .fieldLink RX6 30 "Gatherhouse" "pieces" "[LGatherhouse$Piece;", .classLink RL 21 "java/lang/IndexOutOfBoundsException"]
def wzL_colour : List Cond := wzEL_colour ++ (u_ws RX6 TX6 16 ++ ((vx_atS RX6 369 "java/lang/IndexOutOfBoundsException" ["java/lang/RuntimeException", "java/lang/Exception"]).filter goodWord))
theorem zgEL_colour : wzEL_colour.all goodWord = true := by decide +kernel
theorem zuL_colour_X6 : ∀ w ∈ u_ws RX6 TX6 16, w ∈ wzL_colour := (fun _ h => (List.mem_append_right _ (List.mem_append_left _ h)))
theorem ztL_colour_X6_369 : ∀ w ∈ (vx_atS RX6 369 "java/lang/IndexOutOfBoundsException" ["java/lang/RuntimeException", "java/lang/Exception"]).filter goodWord, w ∈ wzL_colour := (fun _ h => (List.mem_append_right _ (List.mem_append_right _ h)))
theorem gzL_colour_X6_colour_132 : GoodIn wzL_colour (wsV RL 132 RX6 yX6_colour wzX6_colour) := (goodIn_app (z_lift (goodIn_r _ [1, 2, 3, 4] rfl (by decide +kernel))) (goodIn_app (z_lift (goodIn_r wzEX6_colour [5, 6, 7, 8, 4, 9, 10, 11, 12] rfl zgEX6_colour)) (goodIn_app (goodIn_sub (fun _ h => (List.mem_append_right _ (List.mem_append_left _ h))) zgU_X6) (goodIn_sub (fun _ h => (List.mem_append_right _ (List.mem_append_right _ h))) zgV_X6_369))))
set_option maxHeartbeats 4000000 in
set_option maxRecDepth 100000 in
theorem zc_L_colour (l : Launch) (hnt : l.stackTraces = false) (D : va_G) (G : Nat × Nat × Nat) (xo : Nat) (xg : Nat) (xp : Nat) (xq : Nat) (r1 : Nat) (r2 : Nat) (r3 : Nat) (r4 : Nat) (se : Nat) (ts : Int32) (hq : Int32) (cq : ClassId) (ou : Nat) (cJ : ClassId) (ii : Int32) (jj : Int32) (sz : Nat) : vx_Met l yL_colour wzL_colour ({ frames := 8, cells := 1, slots := 6, locals := 126 }) (va_Pc [.ref xo, .int ii, .int jj, .ref ou] (p_RW D G [(cq, .object "Gatherhouse$Piece"), (cJ, .long)] [(xo, .inr (11, [.ref xg, .int 0, .ref xp, .int 0, .ref xq, .int 0, .ref r1, .ref r2, .ref r3, .ref r4, .ref se, .int ts, .int hq, .int 40, .int 0, .int 0])), (xq, .inl (cq, 16, .inr (.inr (.inr (.inr (fun _ => none)))))), (ou, .inl (cJ, 1, .inr (.inl (fun _ => 0))))] sz)) (va_Qi (fun (r : Int32) (u : Unit) => r = 1) (fun (u : Unit) (t : State) => True) (va_A [(xo, .inr (11, [.ref xg, .int 0, .ref xp, .int 0, .ref xq, .int 0, .ref r1, .ref r2, .ref r3, .ref r4, .ref se, .int ts, .int hq, .int 40, .int 0, .int 0])), (xq, .inl (cq, 16, .inr (.inr (.inr (.inr (fun _ => none)))))), (ou, .inl (cJ, 1, .inr (.inl (fun _ => 0))))] sz)) (vx_X (fun (_ : Unit) => True) (fun E (_ : Unit) (_ : State) => False) (va_A [(xo, .inr (11, [.ref xg, .int 0, .ref xp, .int 0, .ref xq, .int 0, .ref r1, .ref r2, .ref r3, .ref r4, .ref se, .int ts, .int hq, .int 40, .int 0, .int 0])), (xq, .inl (cq, 16, .inr (.inr (.inr (.inr (fun _ => none)))))), (ou, .inl (cJ, 1, .inr (.inl (fun _ => 0))))] sz)) 1 6 (va_A [(xo, .inr (11, [.ref xg, .int 0, .ref xp, .int 0, .ref xq, .int 0, .ref r1, .ref r2, .ref r3, .ref r4, .ref se, .int ts, .int hq, .int 40, .int 0, .int 0])), (xq, .inl (cq, 16, .inr (.inr (.inr (.inr (fun _ => none)))))), (ou, .inl (cJ, 1, .inr (.inl (fun _ => 0))))] sz) := by
  refine vx_ofWH (cc := cL_colour) (maxL := 5) (ret := (some .int)) (by decide) rfl ?_
  intro p e s m args below meth c s₁ B hml hv
  obtain ⟨rfl, hsz, hP, hK, hD0, hT, hZ⟩ := hv
  have hx := B.exec
  have hb := B.bytes
  have hr := B.returns
  have hts := atoms_spec (ws := wzL_colour) B.pre
  have hown : s.vm.findClass RL = some m.cls := findClass_of_methodNamed B.named
  have hlocks := B.notSynchronized
  have hxe := vx_table (x := yL_colour) B (hts _ List.mem_cons_self)
  subst hsz
  have hD := hD0.self (sz := s.heap.size)
  generalize hAe : va_A [(xo, .inr (11, [.ref xg, .int 0, .ref xp, .int 0, .ref xq, .int 0, .ref r1, .ref r2, .ref r3, .ref r4, .ref se, .int ts, .int hq, .int 40, .int 0, .int 0])), (xq, .inl (cq, 16, .inr (.inr (.inr (.inr (fun _ => none)))))), (ou, .inl (cJ, 1, .inr (.inl (fun _ => 0))))] s.heap.size = A at hD hZ ⊢
  have hA : ∀ q : Nat, s.heap.size ≤ q → A q := fun q h => by rw [← hAe]; exact Or.inr h
  have hS : va_S A s.heap s.heap [] := va_S.rf
  have hl := lv_entry ([.ref xo, .int ii, .int jj, .ref ou]) (n := 5) (Nat.le_of_ble_eq_true rfl)
  rw [lg_entry_eq]
  generalize (lg_sl ([.ref xo, .int ii, .int jj, .ref ou]) ++ List.replicate (5 - (lg_sl ([.ref xo, .int ii, .int jj, .ref ou])).length) Slot.unset).toArray = ls at hl ⊢
  have hl : lv_has ls 5 [(0, .ref xo), (1, .int ii), (2, .int jj), (3, .ref ou)] := hl
  refine lv_aload_n hx hb dL_colour_0 rfl (lv_at hl 3 rfl) ?_
  refine lv_iconst (v := 0) hx hb dL_colour_1 (by decide) ?_
  refine lv_aload_n hx hb dL_colour_2 rfl (lv_at hl 0 rfl) ?_
  refine lv_iload_n hx hb dL_colour_3 rfl (lv_at hl 1 rfl) ?_
  refine lv_iload_n hx hb dL_colour_4 rfl (lv_at hl 2 rfl) ?_
  have hFc := va_free (wc := [(xo, .inr (11, [.ref xg, .int 0, .ref xp, .int 0, .ref xq, .int 0, .ref r1, .ref r2, .ref r3, .ref r4, .ref se, .int ts, .int hq, .int 40, .int 0, .int 0])), (xq, .inl (cq, 16, .inr (.inr (.inr (.inr (fun _ => none))))))]) hD hS hA [0, 1] rfl
  refine vx_calli (vx_runV (As := [.int ii, .int jj]) (rest := [.int 0, .ref ou]) ⟨hx, hb, hml, hown, hts⟩ (zc_X6_colour l hnt D G xo xg xp xq r1 r2 r3 r4 se ts hq cq ii jj s.heap.size) (cwV 2 hts gzL_colour_X6_colour_132 rfl rfl rfl (by decide +kernel) ⟨(Nat.le_of_ble_eq_true rfl), (Nat.le_of_ble_eq_true rfl)⟩) ⟨p_RW_blind, va_recv hK hP (ci := 11) (q0 := 0) rfl rfl, (p_RW_at (tc := [(cq, .object "Gatherhouse$Piece")]) (wc := [(xo, .inr (11, [.ref xg, .int 0, .ref xp, .int 0, .ref xq, .int 0, .ref r1, .ref r2, .ref r3, .ref r4, .ref se, .int ts, .int hq, .int 40, .int 0, .int 0])), (xq, .inl (cq, 16, .inr (.inr (.inr (.inr (fun _ => none))))))]) hP hK hD hS hA hT hZ [0, 1] [0] rfl rfl (by decide) rfl [.ref xo, .int ii, .int jj])⟩ rfl rfl hl.1 rfl (lv_room (Nat.le_of_ble_eq_true rfl)) dL_colour_5 ⟨(Nat.le_of_ble_eq_true rfl), (Nat.le_of_ble_eq_true rfl)⟩) hS (fun q _ h => hFc q h) hFc (fun q _ h => hFc q h) (fun E ce q9 u t H locs ht hvm hpx hBX hz1 hk1 hS hce hcv hcl => ?_) (fun r_747 u t H locs ht hvm w_748 hB hz1 hk1 hS => ?_)
  · have hBX : (E = "java/lang/IndexOutOfBoundsException") := hBX
    rcases hBX with rfl
    refine vx_catch (own := RL) (name := "java/lang/IndexOutOfBoundsException") hown ([] : List ExceptionTableEntry) ⟨0, 10, 13, 21⟩ ([] : List ExceptionTableEntry) (by rw [hxe]; rfl) (fun _ h => absurd h List.not_mem_nil) (by decide) (by decide) (hts (.classLink RL 21 "java/lang/IndexOutOfBoundsException") (by decide +kernel)) (va_Nw.use rfl (hT.2.2.1 ("java/lang/IndexOutOfBoundsException", "java/lang/IndexOutOfBoundsException") (by decide +kernel))) hce hcv hcl ?_
    refine W.eq (g2 := F0 m 13 ls [.ref q9]) rfl ?_
    refine lv_astore (lv' := [(4, .ref q9), (0, .ref xo), (1, .int ii), (2, .int jj), (3, .ref ou)]) hx hb dL_colour_13 hl (by decide) rfl (fun ls hl => ?_)
    refine lv_iconst (v := 1) hx hb dL_colour_15 (by decide) ?_
    refine vx_ret ?_
    exact W.iret (v := 1) hx hb hr (fun t ht hW => ⟨⟨1, (), rfl, rfl, trivial⟩, hS.F ht⟩) hS.2.2 dL_colour_16
  · exact w_748.elim
theorem dL_isInSet_0 : decode cL_isInSet 0 = .ok (.aload_n 2, 1) := by decide +kernel
theorem dL_isInSet_1 : decode cL_isInSet 1 = .ok (.iconst 0, 1) := by decide +kernel
theorem dL_isInSet_2 : decode cL_isInSet 2 = .ok (.aload_n 0, 1) := by decide +kernel
theorem dL_isInSet_3 : decode cL_isInSet 3 = .ok (.iload_n 1, 1) := by decide +kernel
theorem dL_isInSet_4 : decode cL_isInSet 4 = .ok (.invokevirtual 138, 3) := by decide +kernel
theorem dL_isInSet_19 : decode cL_isInSet 19 = .ok (.astore_n 3, 1) := by decide +kernel
theorem dL_isInSet_20 : decode cL_isInSet 20 = .ok (.iconst 1, 1) := by decide +kernel
theorem dL_isInSet_21 : decode cL_isInSet 21 = .ok (.ireturn, 1) := by decide +kernel
def wzEL_isInSet : List Cond := [.codeWith yL_isInSet cL_isInSet 4 (some .int) [(0, 16, 19, 21)], .methodLink RL 138 yX6_isInSet, .instanceMethod yX6_isInSet, .selects RX6 yX6_isInSet yX6_isInSet, .initialized RX6, .code yX6_isInSet cX6_isInSet 2 (some .boolean), .methodLink RX6 169 yX6_findPiece, .instanceMethod yX6_findPiece, .selects RX6 yX6_findPiece yX6_findPiece, .code yX6_findPiece cX6_findPiece 3 (some (.object "Gatherhouse$Piece")), .classLink RX6 365 "java/lang/IndexOutOfBoundsException", .initialized "java/lang/IndexOutOfBoundsException", .fieldLink RX6 30 "Gatherhouse" "pieces" "[LGatherhouse$Piece;", .classLink RL 21 "java/lang/IndexOutOfBoundsException"]
def wzL_isInSet : List Cond := wzEL_isInSet ++ (u_ws RX6 TX6 16 ++ ((vx_atS RX6 369 "java/lang/IndexOutOfBoundsException" ["java/lang/RuntimeException", "java/lang/Exception"]).filter goodWord))
theorem zgEL_isInSet : wzEL_isInSet.all goodWord = true := by decide +kernel
theorem zuL_isInSet_X6 : ∀ w ∈ u_ws RX6 TX6 16, w ∈ wzL_isInSet := (fun _ h => (List.mem_append_right _ (List.mem_append_left _ h)))
theorem ztL_isInSet_X6_369 : ∀ w ∈ (vx_atS RX6 369 "java/lang/IndexOutOfBoundsException" ["java/lang/RuntimeException", "java/lang/Exception"]).filter goodWord, w ∈ wzL_isInSet := (fun _ h => (List.mem_append_right _ (List.mem_append_right _ h)))
theorem gzL_isInSet_X6_isInSet_138 : GoodIn wzL_isInSet (wsV RL 138 RX6 yX6_isInSet wzX6_isInSet) := (goodIn_app (z_lift (goodIn_r _ [1, 2, 3, 4] rfl (by decide +kernel))) (goodIn_app (z_lift (goodIn_r wzEX6_isInSet [5, 6, 7, 8, 4, 9, 10, 11, 12] rfl zgEX6_isInSet)) (goodIn_app (goodIn_sub (fun _ h => (List.mem_append_right _ (List.mem_append_left _ h))) zgU_X6) (goodIn_sub (fun _ h => (List.mem_append_right _ (List.mem_append_right _ h))) zgV_X6_369))))
set_option maxHeartbeats 4000000 in
set_option maxRecDepth 100000 in
theorem zc_L_isInSet (l : Launch) (hnt : l.stackTraces = false) (D : va_G) (G : Nat × Nat × Nat) (xo : Nat) (xg : Nat) (xp : Nat) (xq : Nat) (r1 : Nat) (r2 : Nat) (r3 : Nat) (r4 : Nat) (se : Nat) (ts : Int32) (hq : Int32) (cq : ClassId) (ou : Nat) (cJ : ClassId) (ii : Int32) (sz : Nat) : vx_Met l yL_isInSet wzL_isInSet ({ frames := 8, cells := 1, slots := 6, locals := 125 }) (va_Pc [.ref xo, .int ii, .ref ou] (p_RW D G [(cq, .object "Gatherhouse$Piece"), (cJ, .long)] [(xo, .inr (11, [.ref xg, .int 0, .ref xp, .int 0, .ref xq, .int 0, .ref r1, .ref r2, .ref r3, .ref r4, .ref se, .int ts, .int hq, .int 40, .int 0, .int 0])), (xq, .inl (cq, 16, .inr (.inr (.inr (.inr (fun _ => none)))))), (ou, .inl (cJ, 1, .inr (.inl (fun _ => 0))))] sz)) (va_Qi (fun (r : Int32) (u : Unit) => r = 1) (fun (u : Unit) (t : State) => True) (va_A [(xo, .inr (11, [.ref xg, .int 0, .ref xp, .int 0, .ref xq, .int 0, .ref r1, .ref r2, .ref r3, .ref r4, .ref se, .int ts, .int hq, .int 40, .int 0, .int 0])), (xq, .inl (cq, 16, .inr (.inr (.inr (.inr (fun _ => none)))))), (ou, .inl (cJ, 1, .inr (.inl (fun _ => 0))))] sz)) (vx_X (fun (_ : Unit) => True) (fun E (_ : Unit) (_ : State) => False) (va_A [(xo, .inr (11, [.ref xg, .int 0, .ref xp, .int 0, .ref xq, .int 0, .ref r1, .ref r2, .ref r3, .ref r4, .ref se, .int ts, .int hq, .int 40, .int 0, .int 0])), (xq, .inl (cq, 16, .inr (.inr (.inr (.inr (fun _ => none)))))), (ou, .inl (cJ, 1, .inr (.inl (fun _ => 0))))] sz)) 1 6 (va_A [(xo, .inr (11, [.ref xg, .int 0, .ref xp, .int 0, .ref xq, .int 0, .ref r1, .ref r2, .ref r3, .ref r4, .ref se, .int ts, .int hq, .int 40, .int 0, .int 0])), (xq, .inl (cq, 16, .inr (.inr (.inr (.inr (fun _ => none)))))), (ou, .inl (cJ, 1, .inr (.inl (fun _ => 0))))] sz) := by
  refine vx_ofWH (cc := cL_isInSet) (maxL := 4) (ret := (some .int)) (by decide) rfl ?_
  intro p e s m args below meth c s₁ B hml hv
  obtain ⟨rfl, hsz, hP, hK, hD0, hT, hZ⟩ := hv
  have hx := B.exec
  have hb := B.bytes
  have hr := B.returns
  have hts := atoms_spec (ws := wzL_isInSet) B.pre
  have hown : s.vm.findClass RL = some m.cls := findClass_of_methodNamed B.named
  have hlocks := B.notSynchronized
  have hxe := vx_table (x := yL_isInSet) B (hts _ List.mem_cons_self)
  subst hsz
  have hD := hD0.self (sz := s.heap.size)
  generalize hAe : va_A [(xo, .inr (11, [.ref xg, .int 0, .ref xp, .int 0, .ref xq, .int 0, .ref r1, .ref r2, .ref r3, .ref r4, .ref se, .int ts, .int hq, .int 40, .int 0, .int 0])), (xq, .inl (cq, 16, .inr (.inr (.inr (.inr (fun _ => none)))))), (ou, .inl (cJ, 1, .inr (.inl (fun _ => 0))))] s.heap.size = A at hD hZ ⊢
  have hA : ∀ q : Nat, s.heap.size ≤ q → A q := fun q h => by rw [← hAe]; exact Or.inr h
  have hS : va_S A s.heap s.heap [] := va_S.rf
  have hl := lv_entry ([.ref xo, .int ii, .ref ou]) (n := 4) (Nat.le_of_ble_eq_true rfl)
  rw [lg_entry_eq]
  generalize (lg_sl ([.ref xo, .int ii, .ref ou]) ++ List.replicate (4 - (lg_sl ([.ref xo, .int ii, .ref ou])).length) Slot.unset).toArray = ls at hl ⊢
  have hl : lv_has ls 4 [(0, .ref xo), (1, .int ii), (2, .ref ou)] := hl
  refine lv_aload_n hx hb dL_isInSet_0 rfl (lv_at hl 2 rfl) ?_
  refine lv_iconst (v := 0) hx hb dL_isInSet_1 (by decide) ?_
  refine lv_aload_n hx hb dL_isInSet_2 rfl (lv_at hl 0 rfl) ?_
  refine lv_iload_n hx hb dL_isInSet_3 rfl (lv_at hl 1 rfl) ?_
  have hFc := va_free (wc := [(xo, .inr (11, [.ref xg, .int 0, .ref xp, .int 0, .ref xq, .int 0, .ref r1, .ref r2, .ref r3, .ref r4, .ref se, .int ts, .int hq, .int 40, .int 0, .int 0])), (xq, .inl (cq, 16, .inr (.inr (.inr (.inr (fun _ => none))))))]) hD hS hA [0, 1] rfl
  refine vx_calli (vx_runV (As := [.int ii]) (rest := [.int 0, .ref ou]) ⟨hx, hb, hml, hown, hts⟩ (zc_X6_isInSet l hnt D G xo xg xp xq r1 r2 r3 r4 se ts hq cq ii s.heap.size) (cwV 1 hts gzL_isInSet_X6_isInSet_138 rfl rfl rfl (by decide +kernel) ⟨(Nat.le_of_ble_eq_true rfl), (Nat.le_of_ble_eq_true rfl)⟩) ⟨p_RW_blind, va_recv hK hP (ci := 11) (q0 := 0) rfl rfl, (p_RW_at (tc := [(cq, .object "Gatherhouse$Piece")]) (wc := [(xo, .inr (11, [.ref xg, .int 0, .ref xp, .int 0, .ref xq, .int 0, .ref r1, .ref r2, .ref r3, .ref r4, .ref se, .int ts, .int hq, .int 40, .int 0, .int 0])), (xq, .inl (cq, 16, .inr (.inr (.inr (.inr (fun _ => none))))))]) hP hK hD hS hA hT hZ [0, 1] [0] rfl rfl (by decide) rfl [.ref xo, .int ii])⟩ rfl rfl hl.1 rfl (lv_room (Nat.le_of_ble_eq_true rfl)) dL_isInSet_4 ⟨(Nat.le_of_ble_eq_true rfl), (Nat.le_of_ble_eq_true rfl)⟩) hS (fun q _ h => hFc q h) hFc (fun q _ h => hFc q h) (fun E ce q9 u t H locs ht hvm hpx hBX hz1 hk1 hS hce hcv hcl => ?_) (fun r_749 u t H locs ht hvm w_750 hB hz1 hk1 hS => ?_)
  · have hBX : (E = "java/lang/IndexOutOfBoundsException") := hBX
    rcases hBX with rfl
    refine vx_catch (own := RL) (name := "java/lang/IndexOutOfBoundsException") hown ([] : List ExceptionTableEntry) ⟨0, 16, 19, 21⟩ ([] : List ExceptionTableEntry) (by rw [hxe]; rfl) (fun _ h => absurd h List.not_mem_nil) (by decide) (by decide) (hts (.classLink RL 21 "java/lang/IndexOutOfBoundsException") (by decide +kernel)) (va_Nw.use rfl (hT.2.2.1 ("java/lang/IndexOutOfBoundsException", "java/lang/IndexOutOfBoundsException") (by decide +kernel))) hce hcv hcl ?_
    refine W.eq (g2 := F0 m 19 ls [.ref q9]) rfl ?_
    refine lv_astore_n (lv' := [(3, .ref q9), (0, .ref xo), (1, .int ii), (2, .ref ou)]) hx hb dL_isInSet_19 rfl hl (by decide) rfl (fun ls hl => ?_)
    refine lv_iconst (v := 1) hx hb dL_isInSet_20 (by decide) ?_
    refine vx_ret ?_
    exact W.iret (v := 1) hx hb hr (fun t ht hW => ⟨⟨1, (), rfl, rfl, trivial⟩, hS.F ht⟩) hS.2.2 dL_isInSet_21
  · exact w_750.elim
theorem dL_price_0 : decode cL_price 0 = .ok (.aload_n 2, 1) := by decide +kernel
theorem dL_price_1 : decode cL_price 1 = .ok (.iconst 0, 1) := by decide +kernel
theorem dL_price_2 : decode cL_price 2 = .ok (.aload_n 0, 1) := by decide +kernel
theorem dL_price_3 : decode cL_price 3 = .ok (.iload_n 1, 1) := by decide +kernel
theorem dL_price_4 : decode cL_price 4 = .ok (.invokevirtual 141, 3) := by decide +kernel
theorem dL_price_12 : decode cL_price 12 = .ok (.astore_n 3, 1) := by decide +kernel
theorem dL_price_13 : decode cL_price 13 = .ok (.iconst 1, 1) := by decide +kernel
theorem dL_price_14 : decode cL_price 14 = .ok (.ireturn, 1) := by decide +kernel
def wzEL_price : List Cond := [.codeWith yL_price cL_price 4 (some .int) [(0, 9, 12, 21)], .methodLink RL 141 yX6_price, .instanceMethod yX6_price, .selects RX6 yX6_price yX6_price, .initialized RX6, .code yX6_price cX6_price 2 (some .int), .methodLink RX6 169 yX6_findPiece, .instanceMethod yX6_findPiece, .selects RX6 yX6_findPiece yX6_findPiece, .code yX6_findPiece cX6_findPiece 3 (some (.object "Gatherhouse$Piece")), .classLink RX6 365 "java/lang/IndexOutOfBoundsException", .initialized "java/lang/IndexOutOfBoundsException", .fieldLink RX6 30 "Gatherhouse" "pieces" "[LGatherhouse$Piece;", .classLink RL 21 "java/lang/IndexOutOfBoundsException"]
def wzL_price : List Cond := wzEL_price ++ (u_ws RX6 TX6 16 ++ ((vx_atS RX6 369 "java/lang/IndexOutOfBoundsException" ["java/lang/RuntimeException", "java/lang/Exception"]).filter goodWord))
theorem zgEL_price : wzEL_price.all goodWord = true := by decide +kernel
theorem zuL_price_X6 : ∀ w ∈ u_ws RX6 TX6 16, w ∈ wzL_price := (fun _ h => (List.mem_append_right _ (List.mem_append_left _ h)))
theorem ztL_price_X6_369 : ∀ w ∈ (vx_atS RX6 369 "java/lang/IndexOutOfBoundsException" ["java/lang/RuntimeException", "java/lang/Exception"]).filter goodWord, w ∈ wzL_price := (fun _ h => (List.mem_append_right _ (List.mem_append_right _ h)))
theorem gzL_price_X6_price_141 : GoodIn wzL_price (wsV RL 141 RX6 yX6_price wzX6_price) := (goodIn_app (z_lift (goodIn_r _ [1, 2, 3, 4] rfl (by decide +kernel))) (goodIn_app (z_lift (goodIn_r wzEX6_price [5, 6, 7, 8, 4, 9, 10, 11, 12] rfl zgEX6_price)) (goodIn_app (goodIn_sub (fun _ h => (List.mem_append_right _ (List.mem_append_left _ h))) zgU_X6) (goodIn_sub (fun _ h => (List.mem_append_right _ (List.mem_append_right _ h))) zgV_X6_369))))
set_option maxHeartbeats 4000000 in
set_option maxRecDepth 100000 in
theorem zc_L_price (l : Launch) (hnt : l.stackTraces = false) (D : va_G) (G : Nat × Nat × Nat) (xo : Nat) (xg : Nat) (xp : Nat) (xq : Nat) (r1 : Nat) (r2 : Nat) (r3 : Nat) (r4 : Nat) (se : Nat) (ts : Int32) (hq : Int32) (cq : ClassId) (ou : Nat) (cJ : ClassId) (ii : Int32) (sz : Nat) : vx_Met l yL_price wzL_price ({ frames := 8, cells := 1, slots := 6, locals := 125 }) (va_Pc [.ref xo, .int ii, .ref ou] (p_RW D G [(cq, .object "Gatherhouse$Piece"), (cJ, .long)] [(xo, .inr (11, [.ref xg, .int 0, .ref xp, .int 0, .ref xq, .int 0, .ref r1, .ref r2, .ref r3, .ref r4, .ref se, .int ts, .int hq, .int 40, .int 0, .int 0])), (xq, .inl (cq, 16, .inr (.inr (.inr (.inr (fun _ => none)))))), (ou, .inl (cJ, 1, .inr (.inl (fun _ => 0))))] sz)) (va_Qi (fun (r : Int32) (u : Unit) => r = 1) (fun (u : Unit) (t : State) => True) (va_A [(xo, .inr (11, [.ref xg, .int 0, .ref xp, .int 0, .ref xq, .int 0, .ref r1, .ref r2, .ref r3, .ref r4, .ref se, .int ts, .int hq, .int 40, .int 0, .int 0])), (xq, .inl (cq, 16, .inr (.inr (.inr (.inr (fun _ => none)))))), (ou, .inl (cJ, 1, .inr (.inl (fun _ => 0))))] sz)) (vx_X (fun (_ : Unit) => True) (fun E (_ : Unit) (_ : State) => False) (va_A [(xo, .inr (11, [.ref xg, .int 0, .ref xp, .int 0, .ref xq, .int 0, .ref r1, .ref r2, .ref r3, .ref r4, .ref se, .int ts, .int hq, .int 40, .int 0, .int 0])), (xq, .inl (cq, 16, .inr (.inr (.inr (.inr (fun _ => none)))))), (ou, .inl (cJ, 1, .inr (.inl (fun _ => 0))))] sz)) 1 6 (va_A [(xo, .inr (11, [.ref xg, .int 0, .ref xp, .int 0, .ref xq, .int 0, .ref r1, .ref r2, .ref r3, .ref r4, .ref se, .int ts, .int hq, .int 40, .int 0, .int 0])), (xq, .inl (cq, 16, .inr (.inr (.inr (.inr (fun _ => none)))))), (ou, .inl (cJ, 1, .inr (.inl (fun _ => 0))))] sz) := by
  refine vx_ofWH (cc := cL_price) (maxL := 4) (ret := (some .int)) (by decide) rfl ?_
  intro p e s m args below meth c s₁ B hml hv
  obtain ⟨rfl, hsz, hP, hK, hD0, hT, hZ⟩ := hv
  have hx := B.exec
  have hb := B.bytes
  have hr := B.returns
  have hts := atoms_spec (ws := wzL_price) B.pre
  have hown : s.vm.findClass RL = some m.cls := findClass_of_methodNamed B.named
  have hlocks := B.notSynchronized
  have hxe := vx_table (x := yL_price) B (hts _ List.mem_cons_self)
  subst hsz
  have hD := hD0.self (sz := s.heap.size)
  generalize hAe : va_A [(xo, .inr (11, [.ref xg, .int 0, .ref xp, .int 0, .ref xq, .int 0, .ref r1, .ref r2, .ref r3, .ref r4, .ref se, .int ts, .int hq, .int 40, .int 0, .int 0])), (xq, .inl (cq, 16, .inr (.inr (.inr (.inr (fun _ => none)))))), (ou, .inl (cJ, 1, .inr (.inl (fun _ => 0))))] s.heap.size = A at hD hZ ⊢
  have hA : ∀ q : Nat, s.heap.size ≤ q → A q := fun q h => by rw [← hAe]; exact Or.inr h
  have hS : va_S A s.heap s.heap [] := va_S.rf
  have hl := lv_entry ([.ref xo, .int ii, .ref ou]) (n := 4) (Nat.le_of_ble_eq_true rfl)
  rw [lg_entry_eq]
  generalize (lg_sl ([.ref xo, .int ii, .ref ou]) ++ List.replicate (4 - (lg_sl ([.ref xo, .int ii, .ref ou])).length) Slot.unset).toArray = ls at hl ⊢
  have hl : lv_has ls 4 [(0, .ref xo), (1, .int ii), (2, .ref ou)] := hl
  refine lv_aload_n hx hb dL_price_0 rfl (lv_at hl 2 rfl) ?_
  refine lv_iconst (v := 0) hx hb dL_price_1 (by decide) ?_
  refine lv_aload_n hx hb dL_price_2 rfl (lv_at hl 0 rfl) ?_
  refine lv_iload_n hx hb dL_price_3 rfl (lv_at hl 1 rfl) ?_
  have hFc := va_free (wc := [(xo, .inr (11, [.ref xg, .int 0, .ref xp, .int 0, .ref xq, .int 0, .ref r1, .ref r2, .ref r3, .ref r4, .ref se, .int ts, .int hq, .int 40, .int 0, .int 0])), (xq, .inl (cq, 16, .inr (.inr (.inr (.inr (fun _ => none))))))]) hD hS hA [0, 1] rfl
  refine vx_calli (vx_runV (As := [.int ii]) (rest := [.int 0, .ref ou]) ⟨hx, hb, hml, hown, hts⟩ (zc_X6_price l hnt D G xo xg xp xq r1 r2 r3 r4 se ts hq cq ii s.heap.size) (cwV 1 hts gzL_price_X6_price_141 rfl rfl rfl (by decide +kernel) ⟨(Nat.le_of_ble_eq_true rfl), (Nat.le_of_ble_eq_true rfl)⟩) ⟨p_RW_blind, va_recv hK hP (ci := 11) (q0 := 0) rfl rfl, (p_RW_at (tc := [(cq, .object "Gatherhouse$Piece")]) (wc := [(xo, .inr (11, [.ref xg, .int 0, .ref xp, .int 0, .ref xq, .int 0, .ref r1, .ref r2, .ref r3, .ref r4, .ref se, .int ts, .int hq, .int 40, .int 0, .int 0])), (xq, .inl (cq, 16, .inr (.inr (.inr (.inr (fun _ => none))))))]) hP hK hD hS hA hT hZ [0, 1] [0] rfl rfl (by decide) rfl [.ref xo, .int ii])⟩ rfl rfl hl.1 rfl (lv_room (Nat.le_of_ble_eq_true rfl)) dL_price_4 ⟨(Nat.le_of_ble_eq_true rfl), (Nat.le_of_ble_eq_true rfl)⟩) hS (fun q _ h => hFc q h) hFc (fun q _ h => hFc q h) (fun E ce q9 u t H locs ht hvm hpx hBX hz1 hk1 hS hce hcv hcl => ?_) (fun r_751 u t H locs ht hvm w_752 hB hz1 hk1 hS => ?_)
  · have hBX : (E = "java/lang/IndexOutOfBoundsException") := hBX
    rcases hBX with rfl
    refine vx_catch (own := RL) (name := "java/lang/IndexOutOfBoundsException") hown ([] : List ExceptionTableEntry) ⟨0, 9, 12, 21⟩ ([] : List ExceptionTableEntry) (by rw [hxe]; rfl) (fun _ h => absurd h List.not_mem_nil) (by decide) (by decide) (hts (.classLink RL 21 "java/lang/IndexOutOfBoundsException") (by decide +kernel)) (va_Nw.use rfl (hT.2.2.1 ("java/lang/IndexOutOfBoundsException", "java/lang/IndexOutOfBoundsException") (by decide +kernel))) hce hcv hcl ?_
    refine W.eq (g2 := F0 m 12 ls [.ref q9]) rfl ?_
    refine lv_astore_n (lv' := [(3, .ref q9), (0, .ref xo), (1, .int ii), (2, .ref ou)]) hx hb dL_price_12 rfl hl (by decide) rfl (fun ls hl => ?_)
    refine lv_iconst (v := 1) hx hb dL_price_13 (by decide) ?_
    refine vx_ret ?_
    exact W.iret (v := 1) hx hb hr (fun t ht hW => ⟨⟨1, (), rfl, rfl, trivial⟩, hS.F ht⟩) hS.2.2 dL_price_14
  · exact w_752.elim
theorem dL_sell_0 : decode cL_sell 0 = .ok (.aload_n 2, 1) := by decide +kernel
theorem dL_sell_1 : decode cL_sell 1 = .ok (.iconst 0, 1) := by decide +kernel
theorem dL_sell_2 : decode cL_sell 2 = .ok (.aload_n 0, 1) := by decide +kernel
theorem dL_sell_3 : decode cL_sell 3 = .ok (.iload_n 1, 1) := by decide +kernel
theorem dL_sell_4 : decode cL_sell 4 = .ok (.invokevirtual 144, 3) := by decide +kernel
theorem dL_sell_12 : decode cL_sell 12 = .ok (.astore_n 3, 1) := by decide +kernel
theorem dL_sell_13 : decode cL_sell 13 = .ok (.iconst 1, 1) := by decide +kernel
theorem dL_sell_14 : decode cL_sell 14 = .ok (.ireturn, 1) := by decide +kernel
def wzEL_sell : List Cond := [.codeWith yL_sell cL_sell 4 (some .int) [(0, 9, 12, 21), (0, 9, 15, 41)], .methodLink RL 144 yX6_sell, .instanceMethod yX6_sell, .selects RX6 yX6_sell yX6_sell, .initialized RX6, .code yX6_sell cX6_sell 4 (some .int), .methodLink RX6 169 yX6_findPiece, .instanceMethod yX6_findPiece, .selects RX6 yX6_findPiece yX6_findPiece, .code yX6_findPiece cX6_findPiece 3 (some (.object "Gatherhouse$Piece")), .classLink RX6 365 "java/lang/IndexOutOfBoundsException", .initialized "java/lang/IndexOutOfBoundsException", .fieldLink RX6 30 "Gatherhouse" "pieces" "[LGatherhouse$Piece;", .classLink RL 21 "java/lang/IndexOutOfBoundsException"]
def wzL_sell : List Cond := wzEL_sell ++ (u_ws RX6 TX6 16 ++ ((vx_atS RX6 369 "java/lang/IndexOutOfBoundsException" ["java/lang/RuntimeException", "java/lang/Exception"]).filter goodWord))
theorem zgEL_sell : wzEL_sell.all goodWord = true := by decide +kernel
theorem zuL_sell_X6 : ∀ w ∈ u_ws RX6 TX6 16, w ∈ wzL_sell := (fun _ h => (List.mem_append_right _ (List.mem_append_left _ h)))
theorem ztL_sell_X6_369 : ∀ w ∈ (vx_atS RX6 369 "java/lang/IndexOutOfBoundsException" ["java/lang/RuntimeException", "java/lang/Exception"]).filter goodWord, w ∈ wzL_sell := (fun _ h => (List.mem_append_right _ (List.mem_append_right _ h)))
theorem gzL_sell_X6_sell_144 : GoodIn wzL_sell (wsV RL 144 RX6 yX6_sell wzX6_sell) := (goodIn_app (z_lift (goodIn_r _ [1, 2, 3, 4] rfl (by decide +kernel))) (goodIn_app (z_lift (goodIn_r wzEX6_sell [5, 6, 7, 8, 4, 9, 10, 11, 12] rfl zgEX6_sell)) (goodIn_app (goodIn_sub (fun _ h => (List.mem_append_right _ (List.mem_append_left _ h))) zgU_X6) (goodIn_sub (fun _ h => (List.mem_append_right _ (List.mem_append_right _ h))) zgV_X6_369))))
set_option maxHeartbeats 4000000 in
set_option maxRecDepth 100000 in
theorem zc_L_sell (l : Launch) (hnt : l.stackTraces = false) (D : va_G) (G : Nat × Nat × Nat) (xo : Nat) (xg : Nat) (xp : Nat) (xq : Nat) (r1 : Nat) (r2 : Nat) (r3 : Nat) (r4 : Nat) (se : Nat) (ts : Int32) (hq : Int32) (cq : ClassId) (ou : Nat) (cJ : ClassId) (ii : Int32) (sz : Nat) : vx_Met l yL_sell wzL_sell ({ frames := 8, cells := 1, slots := 6, locals := 127 }) (va_Pc [.ref xo, .int ii, .ref ou] (p_RW D G [(cq, .object "Gatherhouse$Piece"), (cJ, .long)] [(xo, .inr (11, [.ref xg, .int 0, .ref xp, .int 0, .ref xq, .int 0, .ref r1, .ref r2, .ref r3, .ref r4, .ref se, .int ts, .int hq, .int 40, .int 0, .int 0])), (xq, .inl (cq, 16, .inr (.inr (.inr (.inr (fun _ => none)))))), (ou, .inl (cJ, 1, .inr (.inl (fun _ => 0))))] sz)) (va_Qi (fun (r : Int32) (u : Unit) => r = 1) (fun (u : Unit) (t : State) => True) (va_A [(xo, .inr (11, [.ref xg, .int 0, .ref xp, .int 0, .ref xq, .int 0, .ref r1, .ref r2, .ref r3, .ref r4, .ref se, .int ts, .int hq, .int 40, .int 0, .int 0])), (xq, .inl (cq, 16, .inr (.inr (.inr (.inr (fun _ => none)))))), (ou, .inl (cJ, 1, .inr (.inl (fun _ => 0))))] sz)) (vx_X (fun (_ : Unit) => True) (fun E (_ : Unit) (_ : State) => False) (va_A [(xo, .inr (11, [.ref xg, .int 0, .ref xp, .int 0, .ref xq, .int 0, .ref r1, .ref r2, .ref r3, .ref r4, .ref se, .int ts, .int hq, .int 40, .int 0, .int 0])), (xq, .inl (cq, 16, .inr (.inr (.inr (.inr (fun _ => none)))))), (ou, .inl (cJ, 1, .inr (.inl (fun _ => 0))))] sz)) 1 6 (va_A [(xo, .inr (11, [.ref xg, .int 0, .ref xp, .int 0, .ref xq, .int 0, .ref r1, .ref r2, .ref r3, .ref r4, .ref se, .int ts, .int hq, .int 40, .int 0, .int 0])), (xq, .inl (cq, 16, .inr (.inr (.inr (.inr (fun _ => none)))))), (ou, .inl (cJ, 1, .inr (.inl (fun _ => 0))))] sz) := by
  refine vx_ofWH (cc := cL_sell) (maxL := 4) (ret := (some .int)) (by decide) rfl ?_
  intro p e s m args below meth c s₁ B hml hv
  obtain ⟨rfl, hsz, hP, hK, hD0, hT, hZ⟩ := hv
  have hx := B.exec
  have hb := B.bytes
  have hr := B.returns
  have hts := atoms_spec (ws := wzL_sell) B.pre
  have hown : s.vm.findClass RL = some m.cls := findClass_of_methodNamed B.named
  have hlocks := B.notSynchronized
  have hxe := vx_table (x := yL_sell) B (hts _ List.mem_cons_self)
  subst hsz
  have hD := hD0.self (sz := s.heap.size)
  generalize hAe : va_A [(xo, .inr (11, [.ref xg, .int 0, .ref xp, .int 0, .ref xq, .int 0, .ref r1, .ref r2, .ref r3, .ref r4, .ref se, .int ts, .int hq, .int 40, .int 0, .int 0])), (xq, .inl (cq, 16, .inr (.inr (.inr (.inr (fun _ => none)))))), (ou, .inl (cJ, 1, .inr (.inl (fun _ => 0))))] s.heap.size = A at hD hZ ⊢
  have hA : ∀ q : Nat, s.heap.size ≤ q → A q := fun q h => by rw [← hAe]; exact Or.inr h
  have hS : va_S A s.heap s.heap [] := va_S.rf
  have hl := lv_entry ([.ref xo, .int ii, .ref ou]) (n := 4) (Nat.le_of_ble_eq_true rfl)
  rw [lg_entry_eq]
  generalize (lg_sl ([.ref xo, .int ii, .ref ou]) ++ List.replicate (4 - (lg_sl ([.ref xo, .int ii, .ref ou])).length) Slot.unset).toArray = ls at hl ⊢
  have hl : lv_has ls 4 [(0, .ref xo), (1, .int ii), (2, .ref ou)] := hl
  refine lv_aload_n hx hb dL_sell_0 rfl (lv_at hl 2 rfl) ?_
  refine lv_iconst (v := 0) hx hb dL_sell_1 (by decide) ?_
  refine lv_aload_n hx hb dL_sell_2 rfl (lv_at hl 0 rfl) ?_
  refine lv_iload_n hx hb dL_sell_3 rfl (lv_at hl 1 rfl) ?_
  have hFc := va_free (wc := [(xo, .inr (11, [.ref xg, .int 0, .ref xp, .int 0, .ref xq, .int 0, .ref r1, .ref r2, .ref r3, .ref r4, .ref se, .int ts, .int hq, .int 40, .int 0, .int 0])), (xq, .inl (cq, 16, .inr (.inr (.inr (.inr (fun _ => none))))))]) hD hS hA [0, 1] rfl
  refine vx_calli (vx_runV (As := [.int ii]) (rest := [.int 0, .ref ou]) ⟨hx, hb, hml, hown, hts⟩ (zc_X6_sell l hnt D G xo xg xp xq r1 r2 r3 r4 se ts hq cq ii s.heap.size) (cwV 1 hts gzL_sell_X6_sell_144 rfl rfl rfl (by decide +kernel) ⟨(Nat.le_of_ble_eq_true rfl), (Nat.le_of_ble_eq_true rfl)⟩) ⟨p_RW_blind, va_recv hK hP (ci := 11) (q0 := 0) rfl rfl, (p_RW_at (tc := [(cq, .object "Gatherhouse$Piece")]) (wc := [(xo, .inr (11, [.ref xg, .int 0, .ref xp, .int 0, .ref xq, .int 0, .ref r1, .ref r2, .ref r3, .ref r4, .ref se, .int ts, .int hq, .int 40, .int 0, .int 0])), (xq, .inl (cq, 16, .inr (.inr (.inr (.inr (fun _ => none))))))]) hP hK hD hS hA hT hZ [0, 1] [0] rfl rfl (by decide) rfl [.ref xo, .int ii])⟩ rfl rfl hl.1 rfl (lv_room (Nat.le_of_ble_eq_true rfl)) dL_sell_4 ⟨(Nat.le_of_ble_eq_true rfl), (Nat.le_of_ble_eq_true rfl)⟩) hS (fun q _ h => hFc q h) hFc (fun q _ h => hFc q h) (fun E ce q9 u t H locs ht hvm hpx hBX hz1 hk1 hS hce hcv hcl => ?_) (fun r_753 u t H locs ht hvm w_754 hB hz1 hk1 hS => ?_)
  · have hBX : (E = "java/lang/IndexOutOfBoundsException") := hBX
    rcases hBX with rfl
    refine vx_catch (own := RL) (name := "java/lang/IndexOutOfBoundsException") hown ([] : List ExceptionTableEntry) ⟨0, 9, 12, 21⟩ ([⟨0, 9, 15, 41⟩] : List ExceptionTableEntry) (by rw [hxe]; rfl) (fun _ h => absurd h List.not_mem_nil) (by decide) (by decide) (hts (.classLink RL 21 "java/lang/IndexOutOfBoundsException") (by decide +kernel)) (va_Nw.use rfl (hT.2.2.1 ("java/lang/IndexOutOfBoundsException", "java/lang/IndexOutOfBoundsException") (by decide +kernel))) hce hcv hcl ?_
    refine W.eq (g2 := F0 m 12 ls [.ref q9]) rfl ?_
    refine lv_astore_n (lv' := [(3, .ref q9), (0, .ref xo), (1, .int ii), (2, .ref ou)]) hx hb dL_sell_12 rfl hl (by decide) rfl (fun ls hl => ?_)
    refine lv_iconst (v := 1) hx hb dL_sell_13 (by decide) ?_
    refine vx_ret ?_
    exact W.iret (v := 1) hx hb hr (fun t ht hW => ⟨⟨1, (), rfl, rfl, trivial⟩, hS.F ht⟩) hS.2.2 dL_sell_14
  · exact w_754.elim
theorem dL_lay_0 : decode cL_lay 0 = .ok (.aload 4, 2) := by decide +kernel
theorem dL_lay_2 : decode cL_lay 2 = .ok (.iconst 0, 1) := by decide +kernel
theorem dL_lay_3 : decode cL_lay 3 = .ok (.aload_n 0, 1) := by decide +kernel
theorem dL_lay_4 : decode cL_lay 4 = .ok (.iload_n 1, 1) := by decide +kernel
theorem dL_lay_5 : decode cL_lay 5 = .ok (.iload_n 2, 1) := by decide +kernel
theorem dL_lay_6 : decode cL_lay 6 = .ok (.iload_n 3, 1) := by decide +kernel
theorem dL_lay_7 : decode cL_lay 7 = .ok (.invokevirtual 75, 3) := by decide +kernel
theorem dL_lay_15 : decode cL_lay 15 = .ok (.astore 5, 2) := by decide +kernel
theorem dL_lay_17 : decode cL_lay 17 = .ok (.iconst 1, 1) := by decide +kernel
theorem dL_lay_18 : decode cL_lay 18 = .ok (.ireturn, 1) := by decide +kernel
def wzEL_lay : List Cond := [.codeWith yL_lay cL_lay 6 (some .int) [(0, 12, 15, 21), (0, 12, 19, 13), (0, 12, 23, 41)], .methodLink RL 75 yX6_lay, .instanceMethod yX6_lay, .selects RX6 yX6_lay yX6_lay, .initialized RX6, .code yX6_lay cX6_lay 7 (some .int), .methodLink RX6 169 yX6_findPiece, .instanceMethod yX6_findPiece, .selects RX6 yX6_findPiece yX6_findPiece, .code yX6_findPiece cX6_findPiece 3 (some (.object "Gatherhouse$Piece")), .classLink RX6 365 "java/lang/IndexOutOfBoundsException", .initialized "java/lang/IndexOutOfBoundsException", .fieldLink RX6 30 "Gatherhouse" "pieces" "[LGatherhouse$Piece;", .classLink RL 21 "java/lang/IndexOutOfBoundsException"]
def wzL_lay : List Cond := wzEL_lay ++ (u_ws RX6 TX6 16 ++ ((vx_atS RX6 369 "java/lang/IndexOutOfBoundsException" ["java/lang/RuntimeException", "java/lang/Exception"]).filter goodWord))
theorem zgEL_lay : wzEL_lay.all goodWord = true := by decide +kernel
theorem zuL_lay_X6 : ∀ w ∈ u_ws RX6 TX6 16, w ∈ wzL_lay := (fun _ h => (List.mem_append_right _ (List.mem_append_left _ h)))
theorem ztL_lay_X6_369 : ∀ w ∈ (vx_atS RX6 369 "java/lang/IndexOutOfBoundsException" ["java/lang/RuntimeException", "java/lang/Exception"]).filter goodWord, w ∈ wzL_lay := (fun _ h => (List.mem_append_right _ (List.mem_append_right _ h)))
theorem gzL_lay_X6_lay_75 : GoodIn wzL_lay (wsV RL 75 RX6 yX6_lay wzX6_lay) := (goodIn_app (z_lift (goodIn_r _ [1, 2, 3, 4] rfl (by decide +kernel))) (goodIn_app (z_lift (goodIn_r wzEX6_lay [5, 6, 7, 8, 4, 9, 10, 11, 12] rfl zgEX6_lay)) (goodIn_app (goodIn_sub (fun _ h => (List.mem_append_right _ (List.mem_append_left _ h))) zgU_X6) (goodIn_sub (fun _ h => (List.mem_append_right _ (List.mem_append_right _ h))) zgV_X6_369))))
set_option maxHeartbeats 4000000 in
set_option maxRecDepth 100000 in
theorem zc_L_lay (l : Launch) (hnt : l.stackTraces = false) (D : va_G) (G : Nat × Nat × Nat) (xo : Nat) (xg : Nat) (xp : Nat) (xq : Nat) (r1 : Nat) (r2 : Nat) (r3 : Nat) (r4 : Nat) (se : Nat) (ts : Int32) (hq : Int32) (cq : ClassId) (ou : Nat) (cJ : ClassId) (ii : Int32) (jj : Int32) (kk : Int32) (sz : Nat) : vx_Met l yL_lay wzL_lay ({ frames := 8, cells := 1, slots := 6, locals := 130 }) (va_Pc [.ref xo, .int ii, .int jj, .int kk, .ref ou] (p_RW D G [(cq, .object "Gatherhouse$Piece"), (cJ, .long)] [(xo, .inr (11, [.ref xg, .int 0, .ref xp, .int 0, .ref xq, .int 0, .ref r1, .ref r2, .ref r3, .ref r4, .ref se, .int ts, .int hq, .int 40, .int 0, .int 0])), (xq, .inl (cq, 16, .inr (.inr (.inr (.inr (fun _ => none)))))), (ou, .inl (cJ, 1, .inr (.inl (fun _ => 0))))] sz)) (va_Qi (fun (r : Int32) (u : Unit) => r = 1) (fun (u : Unit) (t : State) => True) (va_A [(xo, .inr (11, [.ref xg, .int 0, .ref xp, .int 0, .ref xq, .int 0, .ref r1, .ref r2, .ref r3, .ref r4, .ref se, .int ts, .int hq, .int 40, .int 0, .int 0])), (xq, .inl (cq, 16, .inr (.inr (.inr (.inr (fun _ => none)))))), (ou, .inl (cJ, 1, .inr (.inl (fun _ => 0))))] sz)) (vx_X (fun (_ : Unit) => True) (fun E (_ : Unit) (_ : State) => False) (va_A [(xo, .inr (11, [.ref xg, .int 0, .ref xp, .int 0, .ref xq, .int 0, .ref r1, .ref r2, .ref r3, .ref r4, .ref se, .int ts, .int hq, .int 40, .int 0, .int 0])), (xq, .inl (cq, 16, .inr (.inr (.inr (.inr (fun _ => none)))))), (ou, .inl (cJ, 1, .inr (.inl (fun _ => 0))))] sz)) 1 6 (va_A [(xo, .inr (11, [.ref xg, .int 0, .ref xp, .int 0, .ref xq, .int 0, .ref r1, .ref r2, .ref r3, .ref r4, .ref se, .int ts, .int hq, .int 40, .int 0, .int 0])), (xq, .inl (cq, 16, .inr (.inr (.inr (.inr (fun _ => none)))))), (ou, .inl (cJ, 1, .inr (.inl (fun _ => 0))))] sz) := by
  refine vx_ofWH (cc := cL_lay) (maxL := 6) (ret := (some .int)) (by decide) rfl ?_
  intro p e s m args below meth c s₁ B hml hv
  obtain ⟨rfl, hsz, hP, hK, hD0, hT, hZ⟩ := hv
  have hx := B.exec
  have hb := B.bytes
  have hr := B.returns
  have hts := atoms_spec (ws := wzL_lay) B.pre
  have hown : s.vm.findClass RL = some m.cls := findClass_of_methodNamed B.named
  have hlocks := B.notSynchronized
  have hxe := vx_table (x := yL_lay) B (hts _ List.mem_cons_self)
  subst hsz
  have hD := hD0.self (sz := s.heap.size)
  generalize hAe : va_A [(xo, .inr (11, [.ref xg, .int 0, .ref xp, .int 0, .ref xq, .int 0, .ref r1, .ref r2, .ref r3, .ref r4, .ref se, .int ts, .int hq, .int 40, .int 0, .int 0])), (xq, .inl (cq, 16, .inr (.inr (.inr (.inr (fun _ => none)))))), (ou, .inl (cJ, 1, .inr (.inl (fun _ => 0))))] s.heap.size = A at hD hZ ⊢
  have hA : ∀ q : Nat, s.heap.size ≤ q → A q := fun q h => by rw [← hAe]; exact Or.inr h
  have hS : va_S A s.heap s.heap [] := va_S.rf
  have hl := lv_entry ([.ref xo, .int ii, .int jj, .int kk, .ref ou]) (n := 6) (Nat.le_of_ble_eq_true rfl)
  rw [lg_entry_eq]
  generalize (lg_sl ([.ref xo, .int ii, .int jj, .int kk, .ref ou]) ++ List.replicate (6 - (lg_sl ([.ref xo, .int ii, .int jj, .int kk, .ref ou])).length) Slot.unset).toArray = ls at hl ⊢
  have hl : lv_has ls 6 [(0, .ref xo), (1, .int ii), (2, .int jj), (3, .int kk), (4, .ref ou)] := hl
  refine lv_aload hx hb dL_lay_0 (lv_at hl 4 rfl) ?_
  refine lv_iconst (v := 0) hx hb dL_lay_2 (by decide) ?_
  refine lv_aload_n hx hb dL_lay_3 rfl (lv_at hl 0 rfl) ?_
  refine lv_iload_n hx hb dL_lay_4 rfl (lv_at hl 1 rfl) ?_
  refine lv_iload_n hx hb dL_lay_5 rfl (lv_at hl 2 rfl) ?_
  refine lv_iload_n hx hb dL_lay_6 rfl (lv_at hl 3 rfl) ?_
  have hFc := va_free (wc := [(xo, .inr (11, [.ref xg, .int 0, .ref xp, .int 0, .ref xq, .int 0, .ref r1, .ref r2, .ref r3, .ref r4, .ref se, .int ts, .int hq, .int 40, .int 0, .int 0])), (xq, .inl (cq, 16, .inr (.inr (.inr (.inr (fun _ => none))))))]) hD hS hA [0, 1] rfl
  refine vx_calli (vx_runV (As := [.int ii, .int jj, .int kk]) (rest := [.int 0, .ref ou]) ⟨hx, hb, hml, hown, hts⟩ (zc_X6_lay l hnt D G xo xg xp xq r1 r2 r3 r4 se ts hq cq ii jj kk s.heap.size) (cwV 3 hts gzL_lay_X6_lay_75 rfl rfl rfl (by decide +kernel) ⟨(Nat.le_of_ble_eq_true rfl), (Nat.le_of_ble_eq_true rfl)⟩) ⟨p_RW_blind, va_recv hK hP (ci := 11) (q0 := 0) rfl rfl, (p_RW_at (tc := [(cq, .object "Gatherhouse$Piece")]) (wc := [(xo, .inr (11, [.ref xg, .int 0, .ref xp, .int 0, .ref xq, .int 0, .ref r1, .ref r2, .ref r3, .ref r4, .ref se, .int ts, .int hq, .int 40, .int 0, .int 0])), (xq, .inl (cq, 16, .inr (.inr (.inr (.inr (fun _ => none))))))]) hP hK hD hS hA hT hZ [0, 1] [0] rfl rfl (by decide) rfl [.ref xo, .int ii, .int jj, .int kk])⟩ rfl rfl hl.1 rfl (lv_room (Nat.le_of_ble_eq_true rfl)) dL_lay_7 ⟨(Nat.le_of_ble_eq_true rfl), (Nat.le_of_ble_eq_true rfl)⟩) hS (fun q _ h => hFc q h) hFc (fun q _ h => hFc q h) (fun E ce q9 u t H locs ht hvm hpx hBX hz1 hk1 hS hce hcv hcl => ?_) (fun r_755 u t H locs ht hvm w_756 hB hz1 hk1 hS => ?_)
  · have hBX : (E = "java/lang/IndexOutOfBoundsException") := hBX
    rcases hBX with rfl
    refine vx_catch (own := RL) (name := "java/lang/IndexOutOfBoundsException") hown ([] : List ExceptionTableEntry) ⟨0, 12, 15, 21⟩ ([⟨0, 12, 19, 13⟩, ⟨0, 12, 23, 41⟩] : List ExceptionTableEntry) (by rw [hxe]; rfl) (fun _ h => absurd h List.not_mem_nil) (by decide) (by decide) (hts (.classLink RL 21 "java/lang/IndexOutOfBoundsException") (by decide +kernel)) (va_Nw.use rfl (hT.2.2.1 ("java/lang/IndexOutOfBoundsException", "java/lang/IndexOutOfBoundsException") (by decide +kernel))) hce hcv hcl ?_
    refine W.eq (g2 := F0 m 15 ls [.ref q9]) rfl ?_
    refine lv_astore (lv' := [(5, .ref q9), (0, .ref xo), (1, .int ii), (2, .int jj), (3, .int kk), (4, .ref ou)]) hx hb dL_lay_15 hl (by decide) rfl (fun ls hl => ?_)
    refine lv_iconst (v := 1) hx hb dL_lay_17 (by decide) ?_
    refine vx_ret ?_
    exact W.iret (v := 1) hx hb hr (fun t ht hW => ⟨⟨1, (), rfl, rfl, trivial⟩, hS.F ht⟩) hS.2.2 dL_lay_18
  · exact w_756.elim
theorem dL_join_0 : decode cL_join 0 = .ok (.aload_n 3, 1) := by decide +kernel
theorem dL_join_1 : decode cL_join 1 = .ok (.iconst 0, 1) := by decide +kernel
theorem dL_join_2 : decode cL_join 2 = .ok (.aload_n 0, 1) := by decide +kernel
theorem dL_join_3 : decode cL_join 3 = .ok (.iload_n 1, 1) := by decide +kernel
theorem dL_join_4 : decode cL_join 4 = .ok (.iload_n 2, 1) := by decide +kernel
theorem dL_join_5 : decode cL_join 5 = .ok (.invokevirtual 78, 3) := by decide +kernel
theorem dL_join_13 : decode cL_join 13 = .ok (.astore 4, 2) := by decide +kernel
theorem dL_join_15 : decode cL_join 15 = .ok (.iconst 1, 1) := by decide +kernel
theorem dL_join_16 : decode cL_join 16 = .ok (.ireturn, 1) := by decide +kernel
def wzEL_join : List Cond := [.codeWith yL_join cL_join 5 (some .int) [(0, 10, 13, 21), (0, 10, 17, 13), (0, 10, 21, 41)], .methodLink RL 78 yX6_join, .instanceMethod yX6_join, .selects RX6 yX6_join yX6_join, .initialized RX6, .code yX6_join cX6_join 5 (some .int), .methodLink RX6 169 yX6_findPiece, .instanceMethod yX6_findPiece, .selects RX6 yX6_findPiece yX6_findPiece, .code yX6_findPiece cX6_findPiece 3 (some (.object "Gatherhouse$Piece")), .classLink RX6 365 "java/lang/IndexOutOfBoundsException", .initialized "java/lang/IndexOutOfBoundsException", .fieldLink RX6 30 "Gatherhouse" "pieces" "[LGatherhouse$Piece;", .classLink RL 21 "java/lang/IndexOutOfBoundsException"]
def wzL_join : List Cond := wzEL_join ++ (u_ws RX6 TX6 16 ++ ((vx_atS RX6 369 "java/lang/IndexOutOfBoundsException" ["java/lang/RuntimeException", "java/lang/Exception"]).filter goodWord))
theorem zgEL_join : wzEL_join.all goodWord = true := by decide +kernel
theorem zuL_join_X6 : ∀ w ∈ u_ws RX6 TX6 16, w ∈ wzL_join := (fun _ h => (List.mem_append_right _ (List.mem_append_left _ h)))
theorem ztL_join_X6_369 : ∀ w ∈ (vx_atS RX6 369 "java/lang/IndexOutOfBoundsException" ["java/lang/RuntimeException", "java/lang/Exception"]).filter goodWord, w ∈ wzL_join := (fun _ h => (List.mem_append_right _ (List.mem_append_right _ h)))
theorem gzL_join_X6_join_78 : GoodIn wzL_join (wsV RL 78 RX6 yX6_join wzX6_join) := (goodIn_app (z_lift (goodIn_r _ [1, 2, 3, 4] rfl (by decide +kernel))) (goodIn_app (z_lift (goodIn_r wzEX6_join [5, 6, 7, 8, 4, 9, 10, 11, 12] rfl zgEX6_join)) (goodIn_app (goodIn_sub (fun _ h => (List.mem_append_right _ (List.mem_append_left _ h))) zgU_X6) (goodIn_sub (fun _ h => (List.mem_append_right _ (List.mem_append_right _ h))) zgV_X6_369))))
set_option maxHeartbeats 4000000 in
set_option maxRecDepth 100000 in
theorem zc_L_join (l : Launch) (hnt : l.stackTraces = false) (D : va_G) (G : Nat × Nat × Nat) (xo : Nat) (xg : Nat) (xp : Nat) (xq : Nat) (r1 : Nat) (r2 : Nat) (r3 : Nat) (r4 : Nat) (se : Nat) (ts : Int32) (hq : Int32) (cq : ClassId) (ou : Nat) (cJ : ClassId) (ii : Int32) (jj : Int32) (sz : Nat) : vx_Met l yL_join wzL_join ({ frames := 8, cells := 1, slots := 6, locals := 128 }) (va_Pc [.ref xo, .int ii, .int jj, .ref ou] (p_RW D G [(cq, .object "Gatherhouse$Piece"), (cJ, .long)] [(xo, .inr (11, [.ref xg, .int 0, .ref xp, .int 0, .ref xq, .int 0, .ref r1, .ref r2, .ref r3, .ref r4, .ref se, .int ts, .int hq, .int 40, .int 0, .int 0])), (xq, .inl (cq, 16, .inr (.inr (.inr (.inr (fun _ => none)))))), (ou, .inl (cJ, 1, .inr (.inl (fun _ => 0))))] sz)) (va_Qi (fun (r : Int32) (u : Unit) => r = 1) (fun (u : Unit) (t : State) => True) (va_A [(xo, .inr (11, [.ref xg, .int 0, .ref xp, .int 0, .ref xq, .int 0, .ref r1, .ref r2, .ref r3, .ref r4, .ref se, .int ts, .int hq, .int 40, .int 0, .int 0])), (xq, .inl (cq, 16, .inr (.inr (.inr (.inr (fun _ => none)))))), (ou, .inl (cJ, 1, .inr (.inl (fun _ => 0))))] sz)) (vx_X (fun (_ : Unit) => True) (fun E (_ : Unit) (_ : State) => False) (va_A [(xo, .inr (11, [.ref xg, .int 0, .ref xp, .int 0, .ref xq, .int 0, .ref r1, .ref r2, .ref r3, .ref r4, .ref se, .int ts, .int hq, .int 40, .int 0, .int 0])), (xq, .inl (cq, 16, .inr (.inr (.inr (.inr (fun _ => none)))))), (ou, .inl (cJ, 1, .inr (.inl (fun _ => 0))))] sz)) 1 6 (va_A [(xo, .inr (11, [.ref xg, .int 0, .ref xp, .int 0, .ref xq, .int 0, .ref r1, .ref r2, .ref r3, .ref r4, .ref se, .int ts, .int hq, .int 40, .int 0, .int 0])), (xq, .inl (cq, 16, .inr (.inr (.inr (.inr (fun _ => none)))))), (ou, .inl (cJ, 1, .inr (.inl (fun _ => 0))))] sz) := by
  refine vx_ofWH (cc := cL_join) (maxL := 5) (ret := (some .int)) (by decide) rfl ?_
  intro p e s m args below meth c s₁ B hml hv
  obtain ⟨rfl, hsz, hP, hK, hD0, hT, hZ⟩ := hv
  have hx := B.exec
  have hb := B.bytes
  have hr := B.returns
  have hts := atoms_spec (ws := wzL_join) B.pre
  have hown : s.vm.findClass RL = some m.cls := findClass_of_methodNamed B.named
  have hlocks := B.notSynchronized
  have hxe := vx_table (x := yL_join) B (hts _ List.mem_cons_self)
  subst hsz
  have hD := hD0.self (sz := s.heap.size)
  generalize hAe : va_A [(xo, .inr (11, [.ref xg, .int 0, .ref xp, .int 0, .ref xq, .int 0, .ref r1, .ref r2, .ref r3, .ref r4, .ref se, .int ts, .int hq, .int 40, .int 0, .int 0])), (xq, .inl (cq, 16, .inr (.inr (.inr (.inr (fun _ => none)))))), (ou, .inl (cJ, 1, .inr (.inl (fun _ => 0))))] s.heap.size = A at hD hZ ⊢
  have hA : ∀ q : Nat, s.heap.size ≤ q → A q := fun q h => by rw [← hAe]; exact Or.inr h
  have hS : va_S A s.heap s.heap [] := va_S.rf
  have hl := lv_entry ([.ref xo, .int ii, .int jj, .ref ou]) (n := 5) (Nat.le_of_ble_eq_true rfl)
  rw [lg_entry_eq]
  generalize (lg_sl ([.ref xo, .int ii, .int jj, .ref ou]) ++ List.replicate (5 - (lg_sl ([.ref xo, .int ii, .int jj, .ref ou])).length) Slot.unset).toArray = ls at hl ⊢
  have hl : lv_has ls 5 [(0, .ref xo), (1, .int ii), (2, .int jj), (3, .ref ou)] := hl
  refine lv_aload_n hx hb dL_join_0 rfl (lv_at hl 3 rfl) ?_
  refine lv_iconst (v := 0) hx hb dL_join_1 (by decide) ?_
  refine lv_aload_n hx hb dL_join_2 rfl (lv_at hl 0 rfl) ?_
  refine lv_iload_n hx hb dL_join_3 rfl (lv_at hl 1 rfl) ?_
  refine lv_iload_n hx hb dL_join_4 rfl (lv_at hl 2 rfl) ?_
  have hFc := va_free (wc := [(xo, .inr (11, [.ref xg, .int 0, .ref xp, .int 0, .ref xq, .int 0, .ref r1, .ref r2, .ref r3, .ref r4, .ref se, .int ts, .int hq, .int 40, .int 0, .int 0])), (xq, .inl (cq, 16, .inr (.inr (.inr (.inr (fun _ => none))))))]) hD hS hA [0, 1] rfl
  refine vx_calli (vx_runV (As := [.int ii, .int jj]) (rest := [.int 0, .ref ou]) ⟨hx, hb, hml, hown, hts⟩ (zc_X6_join l hnt D G xo xg xp xq r1 r2 r3 r4 se ts hq cq ii jj s.heap.size) (cwV 2 hts gzL_join_X6_join_78 rfl rfl rfl (by decide +kernel) ⟨(Nat.le_of_ble_eq_true rfl), (Nat.le_of_ble_eq_true rfl)⟩) ⟨p_RW_blind, va_recv hK hP (ci := 11) (q0 := 0) rfl rfl, (p_RW_at (tc := [(cq, .object "Gatherhouse$Piece")]) (wc := [(xo, .inr (11, [.ref xg, .int 0, .ref xp, .int 0, .ref xq, .int 0, .ref r1, .ref r2, .ref r3, .ref r4, .ref se, .int ts, .int hq, .int 40, .int 0, .int 0])), (xq, .inl (cq, 16, .inr (.inr (.inr (.inr (fun _ => none))))))]) hP hK hD hS hA hT hZ [0, 1] [0] rfl rfl (by decide) rfl [.ref xo, .int ii, .int jj])⟩ rfl rfl hl.1 rfl (lv_room (Nat.le_of_ble_eq_true rfl)) dL_join_5 ⟨(Nat.le_of_ble_eq_true rfl), (Nat.le_of_ble_eq_true rfl)⟩) hS (fun q _ h => hFc q h) hFc (fun q _ h => hFc q h) (fun E ce q9 u t H locs ht hvm hpx hBX hz1 hk1 hS hce hcv hcl => ?_) (fun r_757 u t H locs ht hvm w_758 hB hz1 hk1 hS => ?_)
  · have hBX : (E = "java/lang/IndexOutOfBoundsException") := hBX
    rcases hBX with rfl
    refine vx_catch (own := RL) (name := "java/lang/IndexOutOfBoundsException") hown ([] : List ExceptionTableEntry) ⟨0, 10, 13, 21⟩ ([⟨0, 10, 17, 13⟩, ⟨0, 10, 21, 41⟩] : List ExceptionTableEntry) (by rw [hxe]; rfl) (fun _ h => absurd h List.not_mem_nil) (by decide) (by decide) (hts (.classLink RL 21 "java/lang/IndexOutOfBoundsException") (by decide +kernel)) (va_Nw.use rfl (hT.2.2.1 ("java/lang/IndexOutOfBoundsException", "java/lang/IndexOutOfBoundsException") (by decide +kernel))) hce hcv hcl ?_
    refine W.eq (g2 := F0 m 13 ls [.ref q9]) rfl ?_
    refine lv_astore (lv' := [(4, .ref q9), (0, .ref xo), (1, .int ii), (2, .int jj), (3, .ref ou)]) hx hb dL_join_13 hl (by decide) rfl (fun ls hl => ?_)
    refine lv_iconst (v := 1) hx hb dL_join_15 (by decide) ?_
    refine vx_ret ?_
    exact W.iret (v := 1) hx hb hr (fun t ht hW => ⟨⟨1, (), rfl, rfl, trivial⟩, hS.F ht⟩) hS.2.2 dL_join_16
  · exact w_758.elim
theorem dL_charge_0 : decode cL_charge 0 = .ok (.aload_n 3, 1) := by decide +kernel
theorem dL_charge_1 : decode cL_charge 1 = .ok (.iconst 0, 1) := by decide +kernel
theorem dL_charge_2 : decode cL_charge 2 = .ok (.aload_n 0, 1) := by decide +kernel
theorem dL_charge_3 : decode cL_charge 3 = .ok (.iload_n 1, 1) := by decide +kernel
theorem dL_charge_4 : decode cL_charge 4 = .ok (.iload_n 2, 1) := by decide +kernel
theorem dL_charge_5 : decode cL_charge 5 = .ok (.invokevirtual 27, 3) := by decide +kernel
theorem dL_charge_13 : decode cL_charge 13 = .ok (.astore 4, 2) := by decide +kernel
theorem dL_charge_15 : decode cL_charge 15 = .ok (.iconst 1, 1) := by decide +kernel
theorem dL_charge_16 : decode cL_charge 16 = .ok (.ireturn, 1) := by decide +kernel
def wzEL_charge : List Cond := [.codeWith yL_charge cL_charge 5 (some .int) [(0, 10, 13, 21), (0, 10, 17, 13)], .methodLink RL 27 yX6_charge, .instanceMethod yX6_charge, .selects RX6 yX6_charge yX6_charge, .initialized RX6, .code yX6_charge cX6_charge 4 (some .int), .methodLink RX6 102 yX6_findPot, .instanceMethod yX6_findPot, .selects RX6 yX6_findPot yX6_findPot, .code yX6_findPot cX6_findPot 3 (some (.object "Gatherhouse$Pot")), .classLink RX6 365 "java/lang/IndexOutOfBoundsException", .initialized "java/lang/IndexOutOfBoundsException", .fieldLink RX6 21 "Gatherhouse" "pots" "[LGatherhouse$Pot;", .classLink RL 21 "java/lang/IndexOutOfBoundsException"]
def wzL_charge : List Cond := wzEL_charge ++ (u_ws RX6 TX6 16 ++ ((vx_atS RX6 369 "java/lang/IndexOutOfBoundsException" ["java/lang/RuntimeException", "java/lang/Exception"]).filter goodWord))
theorem zgEL_charge : wzEL_charge.all goodWord = true := by decide +kernel
theorem zuL_charge_X6 : ∀ w ∈ u_ws RX6 TX6 16, w ∈ wzL_charge := (fun _ h => (List.mem_append_right _ (List.mem_append_left _ h)))
theorem ztL_charge_X6_369 : ∀ w ∈ (vx_atS RX6 369 "java/lang/IndexOutOfBoundsException" ["java/lang/RuntimeException", "java/lang/Exception"]).filter goodWord, w ∈ wzL_charge := (fun _ h => (List.mem_append_right _ (List.mem_append_right _ h)))
theorem gzL_charge_X6_charge_27 : GoodIn wzL_charge (wsV RL 27 RX6 yX6_charge wzX6_charge) := (goodIn_app (z_lift (goodIn_r _ [1, 2, 3, 4] rfl (by decide +kernel))) (goodIn_app (z_lift (goodIn_r wzEX6_charge [5, 6, 7, 8, 4, 9, 10, 11, 12] rfl zgEX6_charge)) (goodIn_app (goodIn_sub (fun _ h => (List.mem_append_right _ (List.mem_append_left _ h))) zgU_X6) (goodIn_sub (fun _ h => (List.mem_append_right _ (List.mem_append_right _ h))) zgV_X6_369))))
set_option maxHeartbeats 4000000 in
set_option maxRecDepth 100000 in
theorem zc_L_charge (l : Launch) (hnt : l.stackTraces = false) (D : va_G) (G : Nat × Nat × Nat) (xo : Nat) (xg : Nat) (xp : Nat) (xq : Nat) (r1 : Nat) (r2 : Nat) (r3 : Nat) (r4 : Nat) (se : Nat) (ts : Int32) (hq : Int32) (cp : ClassId) (ou : Nat) (cJ : ClassId) (ii : Int32) (jj : Int32) (sz : Nat) : vx_Met l yL_charge wzL_charge ({ frames := 8, cells := 1, slots := 6, locals := 127 }) (va_Pc [.ref xo, .int ii, .int jj, .ref ou] (p_RW D G [(cp, .object "Gatherhouse$Pot"), (cJ, .long)] [(xo, .inr (11, [.ref xg, .int 0, .ref xp, .int 0, .ref xq, .int 0, .ref r1, .ref r2, .ref r3, .ref r4, .ref se, .int ts, .int hq, .int 40, .int 0, .int 0])), (xp, .inl (cp, 4, .inr (.inr (.inr (.inr (fun _ => none)))))), (ou, .inl (cJ, 1, .inr (.inl (fun _ => 0))))] sz)) (va_Qi (fun (r : Int32) (u : Unit) => r = 1) (fun (u : Unit) (t : State) => True) (va_A [(xo, .inr (11, [.ref xg, .int 0, .ref xp, .int 0, .ref xq, .int 0, .ref r1, .ref r2, .ref r3, .ref r4, .ref se, .int ts, .int hq, .int 40, .int 0, .int 0])), (xp, .inl (cp, 4, .inr (.inr (.inr (.inr (fun _ => none)))))), (ou, .inl (cJ, 1, .inr (.inl (fun _ => 0))))] sz)) (vx_X (fun (_ : Unit) => True) (fun E (_ : Unit) (_ : State) => False) (va_A [(xo, .inr (11, [.ref xg, .int 0, .ref xp, .int 0, .ref xq, .int 0, .ref r1, .ref r2, .ref r3, .ref r4, .ref se, .int ts, .int hq, .int 40, .int 0, .int 0])), (xp, .inl (cp, 4, .inr (.inr (.inr (.inr (fun _ => none)))))), (ou, .inl (cJ, 1, .inr (.inl (fun _ => 0))))] sz)) 1 6 (va_A [(xo, .inr (11, [.ref xg, .int 0, .ref xp, .int 0, .ref xq, .int 0, .ref r1, .ref r2, .ref r3, .ref r4, .ref se, .int ts, .int hq, .int 40, .int 0, .int 0])), (xp, .inl (cp, 4, .inr (.inr (.inr (.inr (fun _ => none)))))), (ou, .inl (cJ, 1, .inr (.inl (fun _ => 0))))] sz) := by
  refine vx_ofWH (cc := cL_charge) (maxL := 5) (ret := (some .int)) (by decide) rfl ?_
  intro p e s m args below meth c s₁ B hml hv
  obtain ⟨rfl, hsz, hP, hK, hD0, hT, hZ⟩ := hv
  have hx := B.exec
  have hb := B.bytes
  have hr := B.returns
  have hts := atoms_spec (ws := wzL_charge) B.pre
  have hown : s.vm.findClass RL = some m.cls := findClass_of_methodNamed B.named
  have hlocks := B.notSynchronized
  have hxe := vx_table (x := yL_charge) B (hts _ List.mem_cons_self)
  subst hsz
  have hD := hD0.self (sz := s.heap.size)
  generalize hAe : va_A [(xo, .inr (11, [.ref xg, .int 0, .ref xp, .int 0, .ref xq, .int 0, .ref r1, .ref r2, .ref r3, .ref r4, .ref se, .int ts, .int hq, .int 40, .int 0, .int 0])), (xp, .inl (cp, 4, .inr (.inr (.inr (.inr (fun _ => none)))))), (ou, .inl (cJ, 1, .inr (.inl (fun _ => 0))))] s.heap.size = A at hD hZ ⊢
  have hA : ∀ q : Nat, s.heap.size ≤ q → A q := fun q h => by rw [← hAe]; exact Or.inr h
  have hS : va_S A s.heap s.heap [] := va_S.rf
  have hl := lv_entry ([.ref xo, .int ii, .int jj, .ref ou]) (n := 5) (Nat.le_of_ble_eq_true rfl)
  rw [lg_entry_eq]
  generalize (lg_sl ([.ref xo, .int ii, .int jj, .ref ou]) ++ List.replicate (5 - (lg_sl ([.ref xo, .int ii, .int jj, .ref ou])).length) Slot.unset).toArray = ls at hl ⊢
  have hl : lv_has ls 5 [(0, .ref xo), (1, .int ii), (2, .int jj), (3, .ref ou)] := hl
  refine lv_aload_n hx hb dL_charge_0 rfl (lv_at hl 3 rfl) ?_
  refine lv_iconst (v := 0) hx hb dL_charge_1 (by decide) ?_
  refine lv_aload_n hx hb dL_charge_2 rfl (lv_at hl 0 rfl) ?_
  refine lv_iload_n hx hb dL_charge_3 rfl (lv_at hl 1 rfl) ?_
  refine lv_iload_n hx hb dL_charge_4 rfl (lv_at hl 2 rfl) ?_
  have hFc := va_free (wc := [(xo, .inr (11, [.ref xg, .int 0, .ref xp, .int 0, .ref xq, .int 0, .ref r1, .ref r2, .ref r3, .ref r4, .ref se, .int ts, .int hq, .int 40, .int 0, .int 0])), (xp, .inl (cp, 4, .inr (.inr (.inr (.inr (fun _ => none))))))]) hD hS hA [0, 1] rfl
  refine vx_calli (vx_runV (As := [.int ii, .int jj]) (rest := [.int 0, .ref ou]) ⟨hx, hb, hml, hown, hts⟩ (zc_X6_charge l hnt D G xo xg xp xq r1 r2 r3 r4 se ts hq cp ii jj s.heap.size) (cwV 2 hts gzL_charge_X6_charge_27 rfl rfl rfl (by decide +kernel) ⟨(Nat.le_of_ble_eq_true rfl), (Nat.le_of_ble_eq_true rfl)⟩) ⟨p_RW_blind, va_recv hK hP (ci := 11) (q0 := 0) rfl rfl, (p_RW_at (tc := [(cp, .object "Gatherhouse$Pot")]) (wc := [(xo, .inr (11, [.ref xg, .int 0, .ref xp, .int 0, .ref xq, .int 0, .ref r1, .ref r2, .ref r3, .ref r4, .ref se, .int ts, .int hq, .int 40, .int 0, .int 0])), (xp, .inl (cp, 4, .inr (.inr (.inr (.inr (fun _ => none))))))]) hP hK hD hS hA hT hZ [0, 1] [0] rfl rfl (by decide) rfl [.ref xo, .int ii, .int jj])⟩ rfl rfl hl.1 rfl (lv_room (Nat.le_of_ble_eq_true rfl)) dL_charge_5 ⟨(Nat.le_of_ble_eq_true rfl), (Nat.le_of_ble_eq_true rfl)⟩) hS (fun q _ h => hFc q h) hFc (fun q _ h => hFc q h) (fun E ce q9 u t H locs ht hvm hpx hBX hz1 hk1 hS hce hcv hcl => ?_) (fun r_759 u t H locs ht hvm w_760 hB hz1 hk1 hS => ?_)
  · have hBX : (E = "java/lang/IndexOutOfBoundsException") := hBX
    rcases hBX with rfl
    refine vx_catch (own := RL) (name := "java/lang/IndexOutOfBoundsException") hown ([] : List ExceptionTableEntry) ⟨0, 10, 13, 21⟩ ([⟨0, 10, 17, 13⟩] : List ExceptionTableEntry) (by rw [hxe]; rfl) (fun _ h => absurd h List.not_mem_nil) (by decide) (by decide) (hts (.classLink RL 21 "java/lang/IndexOutOfBoundsException") (by decide +kernel)) (va_Nw.use rfl (hT.2.2.1 ("java/lang/IndexOutOfBoundsException", "java/lang/IndexOutOfBoundsException") (by decide +kernel))) hce hcv hcl ?_
    refine W.eq (g2 := F0 m 13 ls [.ref q9]) rfl ?_
    refine lv_astore (lv' := [(4, .ref q9), (0, .ref xo), (1, .int ii), (2, .int jj), (3, .ref ou)]) hx hb dL_charge_13 hl (by decide) rfl (fun ls hl => ?_)
    refine lv_iconst (v := 1) hx hb dL_charge_15 (by decide) ?_
    refine vx_ret ?_
    exact W.iret (v := 1) hx hb hr (fun t ht hW => ⟨⟨1, (), rfl, rfl, trivial⟩, hS.F ht⟩) hS.2.2 dL_charge_16
  · exact w_760.elim
theorem dL_change_0 : decode cL_change 0 = .ok (.aload_n 2, 1) := by decide +kernel
theorem dL_change_1 : decode cL_change 1 = .ok (.iconst 0, 1) := by decide +kernel
theorem dL_change_2 : decode cL_change 2 = .ok (.aload_n 0, 1) := by decide +kernel
theorem dL_change_3 : decode cL_change 3 = .ok (.iload_n 1, 1) := by decide +kernel
theorem dL_change_4 : decode cL_change 4 = .ok (.invokevirtual 31, 3) := by decide +kernel
theorem dL_change_12 : decode cL_change 12 = .ok (.astore_n 3, 1) := by decide +kernel
theorem dL_change_13 : decode cL_change 13 = .ok (.iconst 1, 1) := by decide +kernel
theorem dL_change_14 : decode cL_change 14 = .ok (.ireturn, 1) := by decide +kernel
def wzEL_change : List Cond := [.codeWith yL_change cL_change 4 (some .int) [(0, 9, 12, 21)], .methodLink RL 31 yX6_change, .instanceMethod yX6_change, .selects RX6 yX6_change yX6_change, .initialized RX6, .code yX6_change cX6_change 4 (some .int), .methodLink RX6 102 yX6_findPot, .instanceMethod yX6_findPot, .selects RX6 yX6_findPot yX6_findPot, .code yX6_findPot cX6_findPot 3 (some (.object "Gatherhouse$Pot")), .classLink RX6 365 "java/lang/IndexOutOfBoundsException", .initialized "java/lang/IndexOutOfBoundsException", .fieldLink RX6 21 "Gatherhouse" "pots" "[LGatherhouse$Pot;", .classLink RL 21 "java/lang/IndexOutOfBoundsException"]
def wzL_change : List Cond := wzEL_change ++ (u_ws RX6 TX6 16 ++ ((vx_atS RX6 369 "java/lang/IndexOutOfBoundsException" ["java/lang/RuntimeException", "java/lang/Exception"]).filter goodWord))
theorem zgEL_change : wzEL_change.all goodWord = true := by decide +kernel
theorem zuL_change_X6 : ∀ w ∈ u_ws RX6 TX6 16, w ∈ wzL_change := (fun _ h => (List.mem_append_right _ (List.mem_append_left _ h)))
theorem ztL_change_X6_369 : ∀ w ∈ (vx_atS RX6 369 "java/lang/IndexOutOfBoundsException" ["java/lang/RuntimeException", "java/lang/Exception"]).filter goodWord, w ∈ wzL_change := (fun _ h => (List.mem_append_right _ (List.mem_append_right _ h)))
theorem gzL_change_X6_change_31 : GoodIn wzL_change (wsV RL 31 RX6 yX6_change wzX6_change) := (goodIn_app (z_lift (goodIn_r _ [1, 2, 3, 4] rfl (by decide +kernel))) (goodIn_app (z_lift (goodIn_r wzEX6_change [5, 6, 7, 8, 4, 9, 10, 11, 12] rfl zgEX6_change)) (goodIn_app (goodIn_sub (fun _ h => (List.mem_append_right _ (List.mem_append_left _ h))) zgU_X6) (goodIn_sub (fun _ h => (List.mem_append_right _ (List.mem_append_right _ h))) zgV_X6_369))))
set_option maxHeartbeats 4000000 in
set_option maxRecDepth 100000 in
theorem zc_L_change (l : Launch) (hnt : l.stackTraces = false) (D : va_G) (G : Nat × Nat × Nat) (xo : Nat) (xg : Nat) (xp : Nat) (xq : Nat) (r1 : Nat) (r2 : Nat) (r3 : Nat) (r4 : Nat) (se : Nat) (ts : Int32) (hq : Int32) (cp : ClassId) (ou : Nat) (cJ : ClassId) (ii : Int32) (sz : Nat) : vx_Met l yL_change wzL_change ({ frames := 8, cells := 1, slots := 6, locals := 127 }) (va_Pc [.ref xo, .int ii, .ref ou] (p_RW D G [(cp, .object "Gatherhouse$Pot"), (cJ, .long)] [(xo, .inr (11, [.ref xg, .int 0, .ref xp, .int 0, .ref xq, .int 0, .ref r1, .ref r2, .ref r3, .ref r4, .ref se, .int ts, .int hq, .int 40, .int 0, .int 0])), (xp, .inl (cp, 4, .inr (.inr (.inr (.inr (fun _ => none)))))), (ou, .inl (cJ, 1, .inr (.inl (fun _ => 0))))] sz)) (va_Qi (fun (r : Int32) (u : Unit) => r = 1) (fun (u : Unit) (t : State) => True) (va_A [(xo, .inr (11, [.ref xg, .int 0, .ref xp, .int 0, .ref xq, .int 0, .ref r1, .ref r2, .ref r3, .ref r4, .ref se, .int ts, .int hq, .int 40, .int 0, .int 0])), (xp, .inl (cp, 4, .inr (.inr (.inr (.inr (fun _ => none)))))), (ou, .inl (cJ, 1, .inr (.inl (fun _ => 0))))] sz)) (vx_X (fun (_ : Unit) => True) (fun E (_ : Unit) (_ : State) => False) (va_A [(xo, .inr (11, [.ref xg, .int 0, .ref xp, .int 0, .ref xq, .int 0, .ref r1, .ref r2, .ref r3, .ref r4, .ref se, .int ts, .int hq, .int 40, .int 0, .int 0])), (xp, .inl (cp, 4, .inr (.inr (.inr (.inr (fun _ => none)))))), (ou, .inl (cJ, 1, .inr (.inl (fun _ => 0))))] sz)) 1 6 (va_A [(xo, .inr (11, [.ref xg, .int 0, .ref xp, .int 0, .ref xq, .int 0, .ref r1, .ref r2, .ref r3, .ref r4, .ref se, .int ts, .int hq, .int 40, .int 0, .int 0])), (xp, .inl (cp, 4, .inr (.inr (.inr (.inr (fun _ => none)))))), (ou, .inl (cJ, 1, .inr (.inl (fun _ => 0))))] sz) := by
  refine vx_ofWH (cc := cL_change) (maxL := 4) (ret := (some .int)) (by decide) rfl ?_
  intro p e s m args below meth c s₁ B hml hv
  obtain ⟨rfl, hsz, hP, hK, hD0, hT, hZ⟩ := hv
  have hx := B.exec
  have hb := B.bytes
  have hr := B.returns
  have hts := atoms_spec (ws := wzL_change) B.pre
  have hown : s.vm.findClass RL = some m.cls := findClass_of_methodNamed B.named
  have hlocks := B.notSynchronized
  have hxe := vx_table (x := yL_change) B (hts _ List.mem_cons_self)
  subst hsz
  have hD := hD0.self (sz := s.heap.size)
  generalize hAe : va_A [(xo, .inr (11, [.ref xg, .int 0, .ref xp, .int 0, .ref xq, .int 0, .ref r1, .ref r2, .ref r3, .ref r4, .ref se, .int ts, .int hq, .int 40, .int 0, .int 0])), (xp, .inl (cp, 4, .inr (.inr (.inr (.inr (fun _ => none)))))), (ou, .inl (cJ, 1, .inr (.inl (fun _ => 0))))] s.heap.size = A at hD hZ ⊢
  have hA : ∀ q : Nat, s.heap.size ≤ q → A q := fun q h => by rw [← hAe]; exact Or.inr h
  have hS : va_S A s.heap s.heap [] := va_S.rf
  have hl := lv_entry ([.ref xo, .int ii, .ref ou]) (n := 4) (Nat.le_of_ble_eq_true rfl)
  rw [lg_entry_eq]
  generalize (lg_sl ([.ref xo, .int ii, .ref ou]) ++ List.replicate (4 - (lg_sl ([.ref xo, .int ii, .ref ou])).length) Slot.unset).toArray = ls at hl ⊢
  have hl : lv_has ls 4 [(0, .ref xo), (1, .int ii), (2, .ref ou)] := hl
  refine lv_aload_n hx hb dL_change_0 rfl (lv_at hl 2 rfl) ?_
  refine lv_iconst (v := 0) hx hb dL_change_1 (by decide) ?_
  refine lv_aload_n hx hb dL_change_2 rfl (lv_at hl 0 rfl) ?_
  refine lv_iload_n hx hb dL_change_3 rfl (lv_at hl 1 rfl) ?_
  have hFc := va_free (wc := [(xo, .inr (11, [.ref xg, .int 0, .ref xp, .int 0, .ref xq, .int 0, .ref r1, .ref r2, .ref r3, .ref r4, .ref se, .int ts, .int hq, .int 40, .int 0, .int 0])), (xp, .inl (cp, 4, .inr (.inr (.inr (.inr (fun _ => none))))))]) hD hS hA [0, 1] rfl
  refine vx_calli (vx_runV (As := [.int ii]) (rest := [.int 0, .ref ou]) ⟨hx, hb, hml, hown, hts⟩ (zc_X6_change l hnt D G xo xg xp xq r1 r2 r3 r4 se ts hq cp ii s.heap.size) (cwV 1 hts gzL_change_X6_change_31 rfl rfl rfl (by decide +kernel) ⟨(Nat.le_of_ble_eq_true rfl), (Nat.le_of_ble_eq_true rfl)⟩) ⟨p_RW_blind, va_recv hK hP (ci := 11) (q0 := 0) rfl rfl, (p_RW_at (tc := [(cp, .object "Gatherhouse$Pot")]) (wc := [(xo, .inr (11, [.ref xg, .int 0, .ref xp, .int 0, .ref xq, .int 0, .ref r1, .ref r2, .ref r3, .ref r4, .ref se, .int ts, .int hq, .int 40, .int 0, .int 0])), (xp, .inl (cp, 4, .inr (.inr (.inr (.inr (fun _ => none))))))]) hP hK hD hS hA hT hZ [0, 1] [0] rfl rfl (by decide) rfl [.ref xo, .int ii])⟩ rfl rfl hl.1 rfl (lv_room (Nat.le_of_ble_eq_true rfl)) dL_change_4 ⟨(Nat.le_of_ble_eq_true rfl), (Nat.le_of_ble_eq_true rfl)⟩) hS (fun q _ h => hFc q h) hFc (fun q _ h => hFc q h) (fun E ce q9 u t H locs ht hvm hpx hBX hz1 hk1 hS hce hcv hcl => ?_) (fun r_761 u t H locs ht hvm w_762 hB hz1 hk1 hS => ?_)
  · have hBX : (E = "java/lang/IndexOutOfBoundsException") := hBX
    rcases hBX with rfl
    refine vx_catch (own := RL) (name := "java/lang/IndexOutOfBoundsException") hown ([] : List ExceptionTableEntry) ⟨0, 9, 12, 21⟩ ([] : List ExceptionTableEntry) (by rw [hxe]; rfl) (fun _ h => absurd h List.not_mem_nil) (by decide) (by decide) (hts (.classLink RL 21 "java/lang/IndexOutOfBoundsException") (by decide +kernel)) (va_Nw.use rfl (hT.2.2.1 ("java/lang/IndexOutOfBoundsException", "java/lang/IndexOutOfBoundsException") (by decide +kernel))) hce hcv hcl ?_
    refine W.eq (g2 := F0 m 12 ls [.ref q9]) rfl ?_
    refine lv_astore_n (lv' := [(3, .ref q9), (0, .ref xo), (1, .int ii), (2, .ref ou)]) hx hb dL_change_12 rfl hl (by decide) rfl (fun ls hl => ?_)
    refine lv_iconst (v := 1) hx hb dL_change_13 (by decide) ?_
    refine vx_ret ?_
    exact W.iret (v := 1) hx hb hr (fun t ht hW => ⟨⟨1, (), rfl, rfl, trivial⟩, hS.F ht⟩) hS.2.2 dL_change_14
  · exact w_762.elim
theorem dL_of_0 : decode cL_of 0 = .ok (.aload_n 3, 1) := by decide +kernel
theorem dL_of_1 : decode cL_of 1 = .ok (.iconst 0, 1) := by decide +kernel
theorem dL_of_2 : decode cL_of 2 = .ok (.aload_n 0, 1) := by decide +kernel
theorem dL_of_3 : decode cL_of 3 = .ok (.iload_n 1, 1) := by decide +kernel
theorem dL_of_4 : decode cL_of 4 = .ok (.iload_n 2, 1) := by decide +kernel
theorem dL_of_5 : decode cL_of 5 = .ok (.invokevirtual 34, 3) := by decide +kernel
theorem dL_of_13 : decode cL_of 13 = .ok (.astore 4, 2) := by decide +kernel
theorem dL_of_15 : decode cL_of 15 = .ok (.iconst 1, 1) := by decide +kernel
theorem dL_of_16 : decode cL_of 16 = .ok (.ireturn, 1) := by decide +kernel
def wzEL_of : List Cond := [.codeWith yL_of cL_of 5 (some .int) [(0, 10, 13, 21), (0, 10, 17, 13)], .methodLink RL 34 yX6_of, .instanceMethod yX6_of, .selects RX6 yX6_of yX6_of, .initialized RX6, .code yX6_of cX6_of 4 (some .int), .methodLink RX6 102 yX6_findPot, .instanceMethod yX6_findPot, .selects RX6 yX6_findPot yX6_findPot, .code yX6_findPot cX6_findPot 3 (some (.object "Gatherhouse$Pot")), .classLink RX6 365 "java/lang/IndexOutOfBoundsException", .initialized "java/lang/IndexOutOfBoundsException", .fieldLink RX6 21 "Gatherhouse" "pots" "[LGatherhouse$Pot;", .classLink RL 21 "java/lang/IndexOutOfBoundsException"]
def wzL_of : List Cond := wzEL_of ++ (u_ws RX6 TX6 16 ++ ((vx_atS RX6 369 "java/lang/IndexOutOfBoundsException" ["java/lang/RuntimeException", "java/lang/Exception"]).filter goodWord))
theorem zgEL_of : wzEL_of.all goodWord = true := by decide +kernel
theorem zuL_of_X6 : ∀ w ∈ u_ws RX6 TX6 16, w ∈ wzL_of := (fun _ h => (List.mem_append_right _ (List.mem_append_left _ h)))
theorem ztL_of_X6_369 : ∀ w ∈ (vx_atS RX6 369 "java/lang/IndexOutOfBoundsException" ["java/lang/RuntimeException", "java/lang/Exception"]).filter goodWord, w ∈ wzL_of := (fun _ h => (List.mem_append_right _ (List.mem_append_right _ h)))
theorem gzL_of_X6_of_34 : GoodIn wzL_of (wsV RL 34 RX6 yX6_of wzX6_of) := (goodIn_app (z_lift (goodIn_r _ [1, 2, 3, 4] rfl (by decide +kernel))) (goodIn_app (z_lift (goodIn_r wzEX6_of [5, 6, 7, 8, 4, 9, 10, 11, 12] rfl zgEX6_of)) (goodIn_app (goodIn_sub (fun _ h => (List.mem_append_right _ (List.mem_append_left _ h))) zgU_X6) (goodIn_sub (fun _ h => (List.mem_append_right _ (List.mem_append_right _ h))) zgV_X6_369))))
set_option maxHeartbeats 4000000 in
set_option maxRecDepth 100000 in
theorem zc_L_of (l : Launch) (hnt : l.stackTraces = false) (D : va_G) (G : Nat × Nat × Nat) (xo : Nat) (xg : Nat) (xp : Nat) (xq : Nat) (r1 : Nat) (r2 : Nat) (r3 : Nat) (r4 : Nat) (se : Nat) (ts : Int32) (hq : Int32) (cp : ClassId) (ou : Nat) (cJ : ClassId) (ii : Int32) (jj : Int32) (sz : Nat) : vx_Met l yL_of wzL_of ({ frames := 8, cells := 1, slots := 6, locals := 127 }) (va_Pc [.ref xo, .int ii, .int jj, .ref ou] (p_RW D G [(cp, .object "Gatherhouse$Pot"), (cJ, .long)] [(xo, .inr (11, [.ref xg, .int 0, .ref xp, .int 0, .ref xq, .int 0, .ref r1, .ref r2, .ref r3, .ref r4, .ref se, .int ts, .int hq, .int 40, .int 0, .int 0])), (xp, .inl (cp, 4, .inr (.inr (.inr (.inr (fun _ => none)))))), (ou, .inl (cJ, 1, .inr (.inl (fun _ => 0))))] sz)) (va_Qi (fun (r : Int32) (u : Unit) => r = 1) (fun (u : Unit) (t : State) => True) (va_A [(xo, .inr (11, [.ref xg, .int 0, .ref xp, .int 0, .ref xq, .int 0, .ref r1, .ref r2, .ref r3, .ref r4, .ref se, .int ts, .int hq, .int 40, .int 0, .int 0])), (xp, .inl (cp, 4, .inr (.inr (.inr (.inr (fun _ => none)))))), (ou, .inl (cJ, 1, .inr (.inl (fun _ => 0))))] sz)) (vx_X (fun (_ : Unit) => True) (fun E (_ : Unit) (_ : State) => False) (va_A [(xo, .inr (11, [.ref xg, .int 0, .ref xp, .int 0, .ref xq, .int 0, .ref r1, .ref r2, .ref r3, .ref r4, .ref se, .int ts, .int hq, .int 40, .int 0, .int 0])), (xp, .inl (cp, 4, .inr (.inr (.inr (.inr (fun _ => none)))))), (ou, .inl (cJ, 1, .inr (.inl (fun _ => 0))))] sz)) 1 6 (va_A [(xo, .inr (11, [.ref xg, .int 0, .ref xp, .int 0, .ref xq, .int 0, .ref r1, .ref r2, .ref r3, .ref r4, .ref se, .int ts, .int hq, .int 40, .int 0, .int 0])), (xp, .inl (cp, 4, .inr (.inr (.inr (.inr (fun _ => none)))))), (ou, .inl (cJ, 1, .inr (.inl (fun _ => 0))))] sz) := by
  refine vx_ofWH (cc := cL_of) (maxL := 5) (ret := (some .int)) (by decide) rfl ?_
  intro p e s m args below meth c s₁ B hml hv
  obtain ⟨rfl, hsz, hP, hK, hD0, hT, hZ⟩ := hv
  have hx := B.exec
  have hb := B.bytes
  have hr := B.returns
  have hts := atoms_spec (ws := wzL_of) B.pre
  have hown : s.vm.findClass RL = some m.cls := findClass_of_methodNamed B.named
  have hlocks := B.notSynchronized
  have hxe := vx_table (x := yL_of) B (hts _ List.mem_cons_self)
  subst hsz
  have hD := hD0.self (sz := s.heap.size)
  generalize hAe : va_A [(xo, .inr (11, [.ref xg, .int 0, .ref xp, .int 0, .ref xq, .int 0, .ref r1, .ref r2, .ref r3, .ref r4, .ref se, .int ts, .int hq, .int 40, .int 0, .int 0])), (xp, .inl (cp, 4, .inr (.inr (.inr (.inr (fun _ => none)))))), (ou, .inl (cJ, 1, .inr (.inl (fun _ => 0))))] s.heap.size = A at hD hZ ⊢
  have hA : ∀ q : Nat, s.heap.size ≤ q → A q := fun q h => by rw [← hAe]; exact Or.inr h
  have hS : va_S A s.heap s.heap [] := va_S.rf
  have hl := lv_entry ([.ref xo, .int ii, .int jj, .ref ou]) (n := 5) (Nat.le_of_ble_eq_true rfl)
  rw [lg_entry_eq]
  generalize (lg_sl ([.ref xo, .int ii, .int jj, .ref ou]) ++ List.replicate (5 - (lg_sl ([.ref xo, .int ii, .int jj, .ref ou])).length) Slot.unset).toArray = ls at hl ⊢
  have hl : lv_has ls 5 [(0, .ref xo), (1, .int ii), (2, .int jj), (3, .ref ou)] := hl
  refine lv_aload_n hx hb dL_of_0 rfl (lv_at hl 3 rfl) ?_
  refine lv_iconst (v := 0) hx hb dL_of_1 (by decide) ?_
  refine lv_aload_n hx hb dL_of_2 rfl (lv_at hl 0 rfl) ?_
  refine lv_iload_n hx hb dL_of_3 rfl (lv_at hl 1 rfl) ?_
  refine lv_iload_n hx hb dL_of_4 rfl (lv_at hl 2 rfl) ?_
  have hFc := va_free (wc := [(xo, .inr (11, [.ref xg, .int 0, .ref xp, .int 0, .ref xq, .int 0, .ref r1, .ref r2, .ref r3, .ref r4, .ref se, .int ts, .int hq, .int 40, .int 0, .int 0])), (xp, .inl (cp, 4, .inr (.inr (.inr (.inr (fun _ => none))))))]) hD hS hA [0, 1] rfl
  refine vx_calli (vx_runV (As := [.int ii, .int jj]) (rest := [.int 0, .ref ou]) ⟨hx, hb, hml, hown, hts⟩ (zc_X6_of l hnt D G xo xg xp xq r1 r2 r3 r4 se ts hq cp ii jj s.heap.size) (cwV 2 hts gzL_of_X6_of_34 rfl rfl rfl (by decide +kernel) ⟨(Nat.le_of_ble_eq_true rfl), (Nat.le_of_ble_eq_true rfl)⟩) ⟨p_RW_blind, va_recv hK hP (ci := 11) (q0 := 0) rfl rfl, (p_RW_at (tc := [(cp, .object "Gatherhouse$Pot")]) (wc := [(xo, .inr (11, [.ref xg, .int 0, .ref xp, .int 0, .ref xq, .int 0, .ref r1, .ref r2, .ref r3, .ref r4, .ref se, .int ts, .int hq, .int 40, .int 0, .int 0])), (xp, .inl (cp, 4, .inr (.inr (.inr (.inr (fun _ => none))))))]) hP hK hD hS hA hT hZ [0, 1] [0] rfl rfl (by decide) rfl [.ref xo, .int ii, .int jj])⟩ rfl rfl hl.1 rfl (lv_room (Nat.le_of_ble_eq_true rfl)) dL_of_5 ⟨(Nat.le_of_ble_eq_true rfl), (Nat.le_of_ble_eq_true rfl)⟩) hS (fun q _ h => hFc q h) hFc (fun q _ h => hFc q h) (fun E ce q9 u t H locs ht hvm hpx hBX hz1 hk1 hS hce hcv hcl => ?_) (fun r_763 u t H locs ht hvm w_764 hB hz1 hk1 hS => ?_)
  · have hBX : (E = "java/lang/IndexOutOfBoundsException") := hBX
    rcases hBX with rfl
    refine vx_catch (own := RL) (name := "java/lang/IndexOutOfBoundsException") hown ([] : List ExceptionTableEntry) ⟨0, 10, 13, 21⟩ ([⟨0, 10, 17, 13⟩] : List ExceptionTableEntry) (by rw [hxe]; rfl) (fun _ h => absurd h List.not_mem_nil) (by decide) (by decide) (hts (.classLink RL 21 "java/lang/IndexOutOfBoundsException") (by decide +kernel)) (va_Nw.use rfl (hT.2.2.1 ("java/lang/IndexOutOfBoundsException", "java/lang/IndexOutOfBoundsException") (by decide +kernel))) hce hcv hcl ?_
    refine W.eq (g2 := F0 m 13 ls [.ref q9]) rfl ?_
    refine lv_astore (lv' := [(4, .ref q9), (0, .ref xo), (1, .int ii), (2, .int jj), (3, .ref ou)]) hx hb dL_of_13 hl (by decide) rfl (fun ls hl => ?_)
    refine lv_iconst (v := 1) hx hb dL_of_15 (by decide) ?_
    refine vx_ret ?_
    exact W.iret (v := 1) hx hb hr (fun t ht hW => ⟨⟨1, (), rfl, rfl, trivial⟩, hS.F ht⟩) hS.2.2 dL_of_16
  · exact w_764.elim
theorem dL_gather_0 : decode cL_gather 0 = .ok (.aload_n 3, 1) := by decide +kernel
theorem dL_gather_1 : decode cL_gather 1 = .ok (.iconst 0, 1) := by decide +kernel
theorem dL_gather_2 : decode cL_gather 2 = .ok (.aload_n 0, 1) := by decide +kernel
theorem dL_gather_3 : decode cL_gather 3 = .ok (.iload_n 1, 1) := by decide +kernel
theorem dL_gather_4 : decode cL_gather 4 = .ok (.iload_n 2, 1) := by decide +kernel
theorem dL_gather_5 : decode cL_gather 5 = .ok (.invokevirtual 53, 3) := by decide +kernel
theorem dL_gather_13 : decode cL_gather 13 = .ok (.astore 4, 2) := by decide +kernel
theorem dL_gather_15 : decode cL_gather 15 = .ok (.iconst 1, 1) := by decide +kernel
theorem dL_gather_16 : decode cL_gather 16 = .ok (.ireturn, 1) := by decide +kernel
def wzEL_gather : List Cond := [.codeWith yL_gather cL_gather 5 (some .int) [(0, 10, 13, 21), (0, 10, 17, 13), (0, 10, 21, 41), (0, 10, 25, 15)], .methodLink RL 53 yX6_gather, .instanceMethod yX6_gather, .selects RX6 yX6_gather yX6_gather, .initialized RX6, .code yX6_gather cX6_gather 5 (some .int), .methodLink RX6 102 yX6_findPot, .instanceMethod yX6_findPot, .selects RX6 yX6_findPot yX6_findPot, .code yX6_findPot cX6_findPot 3 (some (.object "Gatherhouse$Pot")), .classLink RX6 365 "java/lang/IndexOutOfBoundsException", .initialized "java/lang/IndexOutOfBoundsException", .fieldLink RX6 21 "Gatherhouse" "pots" "[LGatherhouse$Pot;", .classLink RL 21 "java/lang/IndexOutOfBoundsException"]
def wzL_gather : List Cond := wzEL_gather ++ (u_ws RX6 TX6 16 ++ ((vx_atS RX6 369 "java/lang/IndexOutOfBoundsException" ["java/lang/RuntimeException", "java/lang/Exception"]).filter goodWord))
theorem zgEL_gather : wzEL_gather.all goodWord = true := by decide +kernel
theorem zuL_gather_X6 : ∀ w ∈ u_ws RX6 TX6 16, w ∈ wzL_gather := (fun _ h => (List.mem_append_right _ (List.mem_append_left _ h)))
theorem ztL_gather_X6_369 : ∀ w ∈ (vx_atS RX6 369 "java/lang/IndexOutOfBoundsException" ["java/lang/RuntimeException", "java/lang/Exception"]).filter goodWord, w ∈ wzL_gather := (fun _ h => (List.mem_append_right _ (List.mem_append_right _ h)))
theorem gzL_gather_X6_gather_53 : GoodIn wzL_gather (wsV RL 53 RX6 yX6_gather wzX6_gather) := (goodIn_app (z_lift (goodIn_r _ [1, 2, 3, 4] rfl (by decide +kernel))) (goodIn_app (z_lift (goodIn_r wzEX6_gather [5, 6, 7, 8, 4, 9, 10, 11, 12] rfl zgEX6_gather)) (goodIn_app (goodIn_sub (fun _ h => (List.mem_append_right _ (List.mem_append_left _ h))) zgU_X6) (goodIn_sub (fun _ h => (List.mem_append_right _ (List.mem_append_right _ h))) zgV_X6_369))))
set_option maxHeartbeats 4000000 in
set_option maxRecDepth 100000 in
theorem zc_L_gather (l : Launch) (hnt : l.stackTraces = false) (D : va_G) (G : Nat × Nat × Nat) (xo : Nat) (xg : Nat) (xp : Nat) (xq : Nat) (r1 : Nat) (r2 : Nat) (r3 : Nat) (r4 : Nat) (se : Nat) (ts : Int32) (hq : Int32) (cp : ClassId) (ou : Nat) (cJ : ClassId) (ii : Int32) (jj : Int32) (sz : Nat) : vx_Met l yL_gather wzL_gather ({ frames := 8, cells := 1, slots := 6, locals := 128 }) (va_Pc [.ref xo, .int ii, .int jj, .ref ou] (p_RW D G [(cp, .object "Gatherhouse$Pot"), (cJ, .long)] [(xo, .inr (11, [.ref xg, .int 0, .ref xp, .int 0, .ref xq, .int 0, .ref r1, .ref r2, .ref r3, .ref r4, .ref se, .int ts, .int hq, .int 40, .int 0, .int 0])), (xp, .inl (cp, 4, .inr (.inr (.inr (.inr (fun _ => none)))))), (ou, .inl (cJ, 1, .inr (.inl (fun _ => 0))))] sz)) (va_Qi (fun (r : Int32) (u : Unit) => r = 1) (fun (u : Unit) (t : State) => True) (va_A [(xo, .inr (11, [.ref xg, .int 0, .ref xp, .int 0, .ref xq, .int 0, .ref r1, .ref r2, .ref r3, .ref r4, .ref se, .int ts, .int hq, .int 40, .int 0, .int 0])), (xp, .inl (cp, 4, .inr (.inr (.inr (.inr (fun _ => none)))))), (ou, .inl (cJ, 1, .inr (.inl (fun _ => 0))))] sz)) (vx_X (fun (_ : Unit) => True) (fun E (_ : Unit) (_ : State) => False) (va_A [(xo, .inr (11, [.ref xg, .int 0, .ref xp, .int 0, .ref xq, .int 0, .ref r1, .ref r2, .ref r3, .ref r4, .ref se, .int ts, .int hq, .int 40, .int 0, .int 0])), (xp, .inl (cp, 4, .inr (.inr (.inr (.inr (fun _ => none)))))), (ou, .inl (cJ, 1, .inr (.inl (fun _ => 0))))] sz)) 1 6 (va_A [(xo, .inr (11, [.ref xg, .int 0, .ref xp, .int 0, .ref xq, .int 0, .ref r1, .ref r2, .ref r3, .ref r4, .ref se, .int ts, .int hq, .int 40, .int 0, .int 0])), (xp, .inl (cp, 4, .inr (.inr (.inr (.inr (fun _ => none)))))), (ou, .inl (cJ, 1, .inr (.inl (fun _ => 0))))] sz) := by
  refine vx_ofWH (cc := cL_gather) (maxL := 5) (ret := (some .int)) (by decide) rfl ?_
  intro p e s m args below meth c s₁ B hml hv
  obtain ⟨rfl, hsz, hP, hK, hD0, hT, hZ⟩ := hv
  have hx := B.exec
  have hb := B.bytes
  have hr := B.returns
  have hts := atoms_spec (ws := wzL_gather) B.pre
  have hown : s.vm.findClass RL = some m.cls := findClass_of_methodNamed B.named
  have hlocks := B.notSynchronized
  have hxe := vx_table (x := yL_gather) B (hts _ List.mem_cons_self)
  subst hsz
  have hD := hD0.self (sz := s.heap.size)
  generalize hAe : va_A [(xo, .inr (11, [.ref xg, .int 0, .ref xp, .int 0, .ref xq, .int 0, .ref r1, .ref r2, .ref r3, .ref r4, .ref se, .int ts, .int hq, .int 40, .int 0, .int 0])), (xp, .inl (cp, 4, .inr (.inr (.inr (.inr (fun _ => none)))))), (ou, .inl (cJ, 1, .inr (.inl (fun _ => 0))))] s.heap.size = A at hD hZ ⊢
  have hA : ∀ q : Nat, s.heap.size ≤ q → A q := fun q h => by rw [← hAe]; exact Or.inr h
  have hS : va_S A s.heap s.heap [] := va_S.rf
  have hl := lv_entry ([.ref xo, .int ii, .int jj, .ref ou]) (n := 5) (Nat.le_of_ble_eq_true rfl)
  rw [lg_entry_eq]
  generalize (lg_sl ([.ref xo, .int ii, .int jj, .ref ou]) ++ List.replicate (5 - (lg_sl ([.ref xo, .int ii, .int jj, .ref ou])).length) Slot.unset).toArray = ls at hl ⊢
  have hl : lv_has ls 5 [(0, .ref xo), (1, .int ii), (2, .int jj), (3, .ref ou)] := hl
  refine lv_aload_n hx hb dL_gather_0 rfl (lv_at hl 3 rfl) ?_
  refine lv_iconst (v := 0) hx hb dL_gather_1 (by decide) ?_
  refine lv_aload_n hx hb dL_gather_2 rfl (lv_at hl 0 rfl) ?_
  refine lv_iload_n hx hb dL_gather_3 rfl (lv_at hl 1 rfl) ?_
  refine lv_iload_n hx hb dL_gather_4 rfl (lv_at hl 2 rfl) ?_
  have hFc := va_free (wc := [(xo, .inr (11, [.ref xg, .int 0, .ref xp, .int 0, .ref xq, .int 0, .ref r1, .ref r2, .ref r3, .ref r4, .ref se, .int ts, .int hq, .int 40, .int 0, .int 0])), (xp, .inl (cp, 4, .inr (.inr (.inr (.inr (fun _ => none))))))]) hD hS hA [0, 1] rfl
  refine vx_calli (vx_runV (As := [.int ii, .int jj]) (rest := [.int 0, .ref ou]) ⟨hx, hb, hml, hown, hts⟩ (zc_X6_gather l hnt D G xo xg xp xq r1 r2 r3 r4 se ts hq cp ii jj s.heap.size) (cwV 2 hts gzL_gather_X6_gather_53 rfl rfl rfl (by decide +kernel) ⟨(Nat.le_of_ble_eq_true rfl), (Nat.le_of_ble_eq_true rfl)⟩) ⟨p_RW_blind, va_recv hK hP (ci := 11) (q0 := 0) rfl rfl, (p_RW_at (tc := [(cp, .object "Gatherhouse$Pot")]) (wc := [(xo, .inr (11, [.ref xg, .int 0, .ref xp, .int 0, .ref xq, .int 0, .ref r1, .ref r2, .ref r3, .ref r4, .ref se, .int ts, .int hq, .int 40, .int 0, .int 0])), (xp, .inl (cp, 4, .inr (.inr (.inr (.inr (fun _ => none))))))]) hP hK hD hS hA hT hZ [0, 1] [0] rfl rfl (by decide) rfl [.ref xo, .int ii, .int jj])⟩ rfl rfl hl.1 rfl (lv_room (Nat.le_of_ble_eq_true rfl)) dL_gather_5 ⟨(Nat.le_of_ble_eq_true rfl), (Nat.le_of_ble_eq_true rfl)⟩) hS (fun q _ h => hFc q h) hFc (fun q _ h => hFc q h) (fun E ce q9 u t H locs ht hvm hpx hBX hz1 hk1 hS hce hcv hcl => ?_) (fun r_765 u t H locs ht hvm w_766 hB hz1 hk1 hS => ?_)
  · have hBX : (E = "java/lang/IndexOutOfBoundsException") := hBX
    rcases hBX with rfl
    refine vx_catch (own := RL) (name := "java/lang/IndexOutOfBoundsException") hown ([] : List ExceptionTableEntry) ⟨0, 10, 13, 21⟩ ([⟨0, 10, 17, 13⟩, ⟨0, 10, 21, 41⟩, ⟨0, 10, 25, 15⟩] : List ExceptionTableEntry) (by rw [hxe]; rfl) (fun _ h => absurd h List.not_mem_nil) (by decide) (by decide) (hts (.classLink RL 21 "java/lang/IndexOutOfBoundsException") (by decide +kernel)) (va_Nw.use rfl (hT.2.2.1 ("java/lang/IndexOutOfBoundsException", "java/lang/IndexOutOfBoundsException") (by decide +kernel))) hce hcv hcl ?_
    refine W.eq (g2 := F0 m 13 ls [.ref q9]) rfl ?_
    refine lv_astore (lv' := [(4, .ref q9), (0, .ref xo), (1, .int ii), (2, .int jj), (3, .ref ou)]) hx hb dL_gather_13 hl (by decide) rfl (fun ls hl => ?_)
    refine lv_iconst (v := 1) hx hb dL_gather_15 (by decide) ?_
    refine vx_ret ?_
    exact W.iret (v := 1) hx hb hr (fun t ht hW => ⟨⟨1, (), rfl, rfl, trivial⟩, hS.F ht⟩) hS.2.2 dL_gather_16
  · exact w_766.elim
theorem dL_agree_0 : decode cL_agree 0 = .ok (.aload_n 3, 1) := by decide +kernel
theorem dL_agree_1 : decode cL_agree 1 = .ok (.iconst 0, 1) := by decide +kernel
theorem dL_agree_2 : decode cL_agree 2 = .ok (.aload_n 0, 1) := by decide +kernel
theorem dL_agree_3 : decode cL_agree 3 = .ok (.iload_n 1, 1) := by decide +kernel
theorem dL_agree_4 : decode cL_agree 4 = .ok (.iload_n 2, 1) := by decide +kernel
theorem dL_agree_5 : decode cL_agree 5 = .ok (.invokevirtual 17, 3) := by decide +kernel
theorem dL_agree_20 : decode cL_agree 20 = .ok (.astore 4, 2) := by decide +kernel
theorem dL_agree_22 : decode cL_agree 22 = .ok (.iconst 1, 1) := by decide +kernel
theorem dL_agree_23 : decode cL_agree 23 = .ok (.ireturn, 1) := by decide +kernel
def wzEL_agree : List Cond := [.codeWith yL_agree cL_agree 5 (some .int) [(0, 17, 20, 21)], .methodLink RL 17 yX6_agree, .instanceMethod yX6_agree, .selects RX6 yX6_agree yX6_agree, .initialized RX6, .code yX6_agree cX6_agree 5 (some .boolean), .methodLink RX6 89 yX6_findGlass, .instanceMethod yX6_findGlass, .selects RX6 yX6_findGlass yX6_findGlass, .code yX6_findGlass cX6_findGlass 3 (some (.object "Gatherhouse$Glass")), .classLink RX6 365 "java/lang/IndexOutOfBoundsException", .initialized "java/lang/IndexOutOfBoundsException", .fieldLink RX6 11 "Gatherhouse" "glasses" "[LGatherhouse$Glass;", .classLink RL 21 "java/lang/IndexOutOfBoundsException"]
def wzL_agree : List Cond := wzEL_agree ++ (u_ws RX6 TX6 16 ++ ((vx_atS RX6 369 "java/lang/IndexOutOfBoundsException" ["java/lang/RuntimeException", "java/lang/Exception"]).filter goodWord))
theorem zgEL_agree : wzEL_agree.all goodWord = true := by decide +kernel
theorem zuL_agree_X6 : ∀ w ∈ u_ws RX6 TX6 16, w ∈ wzL_agree := (fun _ h => (List.mem_append_right _ (List.mem_append_left _ h)))
theorem ztL_agree_X6_369 : ∀ w ∈ (vx_atS RX6 369 "java/lang/IndexOutOfBoundsException" ["java/lang/RuntimeException", "java/lang/Exception"]).filter goodWord, w ∈ wzL_agree := (fun _ h => (List.mem_append_right _ (List.mem_append_right _ h)))
theorem gzL_agree_X6_agree_17 : GoodIn wzL_agree (wsV RL 17 RX6 yX6_agree wzX6_agree) := (goodIn_app (z_lift (goodIn_r _ [1, 2, 3, 4] rfl (by decide +kernel))) (goodIn_app (z_lift (goodIn_r wzEX6_agree [5, 6, 7, 8, 4, 9, 10, 11, 12] rfl zgEX6_agree)) (goodIn_app (goodIn_sub (fun _ h => (List.mem_append_right _ (List.mem_append_left _ h))) zgU_X6) (goodIn_sub (fun _ h => (List.mem_append_right _ (List.mem_append_right _ h))) zgV_X6_369))))
set_option maxHeartbeats 4000000 in
set_option maxRecDepth 100000 in
theorem zc_L_agree (l : Launch) (hnt : l.stackTraces = false) (D : va_G) (G : Nat × Nat × Nat) (xo : Nat) (xg : Nat) (xp : Nat) (xq : Nat) (r1 : Nat) (r2 : Nat) (r3 : Nat) (r4 : Nat) (se : Nat) (ts : Int32) (hq : Int32) (cg : ClassId) (ou : Nat) (cJ : ClassId) (ii : Int32) (jj : Int32) (sz : Nat) : vx_Met l yL_agree wzL_agree ({ frames := 8, cells := 1, slots := 6, locals := 128 }) (va_Pc [.ref xo, .int ii, .int jj, .ref ou] (p_RW D G [(cg, .object "Gatherhouse$Glass"), (cJ, .long)] [(xo, .inr (11, [.ref xg, .int 0, .ref xp, .int 0, .ref xq, .int 0, .ref r1, .ref r2, .ref r3, .ref r4, .ref se, .int ts, .int hq, .int 40, .int 0, .int 0])), (xg, .inl (cg, 6, .inr (.inr (.inr (.inr (fun _ => none)))))), (ou, .inl (cJ, 1, .inr (.inl (fun _ => 0))))] sz)) (va_Qi (fun (r : Int32) (u : Unit) => r = 1) (fun (u : Unit) (t : State) => True) (va_A [(xo, .inr (11, [.ref xg, .int 0, .ref xp, .int 0, .ref xq, .int 0, .ref r1, .ref r2, .ref r3, .ref r4, .ref se, .int ts, .int hq, .int 40, .int 0, .int 0])), (xg, .inl (cg, 6, .inr (.inr (.inr (.inr (fun _ => none)))))), (ou, .inl (cJ, 1, .inr (.inl (fun _ => 0))))] sz)) (vx_X (fun (_ : Unit) => True) (fun E (_ : Unit) (_ : State) => False) (va_A [(xo, .inr (11, [.ref xg, .int 0, .ref xp, .int 0, .ref xq, .int 0, .ref r1, .ref r2, .ref r3, .ref r4, .ref se, .int ts, .int hq, .int 40, .int 0, .int 0])), (xg, .inl (cg, 6, .inr (.inr (.inr (.inr (fun _ => none)))))), (ou, .inl (cJ, 1, .inr (.inl (fun _ => 0))))] sz)) 1 6 (va_A [(xo, .inr (11, [.ref xg, .int 0, .ref xp, .int 0, .ref xq, .int 0, .ref r1, .ref r2, .ref r3, .ref r4, .ref se, .int ts, .int hq, .int 40, .int 0, .int 0])), (xg, .inl (cg, 6, .inr (.inr (.inr (.inr (fun _ => none)))))), (ou, .inl (cJ, 1, .inr (.inl (fun _ => 0))))] sz) := by
  refine vx_ofWH (cc := cL_agree) (maxL := 5) (ret := (some .int)) (by decide) rfl ?_
  intro p e s m args below meth c s₁ B hml hv
  obtain ⟨rfl, hsz, hP, hK, hD0, hT, hZ⟩ := hv
  have hx := B.exec
  have hb := B.bytes
  have hr := B.returns
  have hts := atoms_spec (ws := wzL_agree) B.pre
  have hown : s.vm.findClass RL = some m.cls := findClass_of_methodNamed B.named
  have hlocks := B.notSynchronized
  have hxe := vx_table (x := yL_agree) B (hts _ List.mem_cons_self)
  subst hsz
  have hD := hD0.self (sz := s.heap.size)
  generalize hAe : va_A [(xo, .inr (11, [.ref xg, .int 0, .ref xp, .int 0, .ref xq, .int 0, .ref r1, .ref r2, .ref r3, .ref r4, .ref se, .int ts, .int hq, .int 40, .int 0, .int 0])), (xg, .inl (cg, 6, .inr (.inr (.inr (.inr (fun _ => none)))))), (ou, .inl (cJ, 1, .inr (.inl (fun _ => 0))))] s.heap.size = A at hD hZ ⊢
  have hA : ∀ q : Nat, s.heap.size ≤ q → A q := fun q h => by rw [← hAe]; exact Or.inr h
  have hS : va_S A s.heap s.heap [] := va_S.rf
  have hl := lv_entry ([.ref xo, .int ii, .int jj, .ref ou]) (n := 5) (Nat.le_of_ble_eq_true rfl)
  rw [lg_entry_eq]
  generalize (lg_sl ([.ref xo, .int ii, .int jj, .ref ou]) ++ List.replicate (5 - (lg_sl ([.ref xo, .int ii, .int jj, .ref ou])).length) Slot.unset).toArray = ls at hl ⊢
  have hl : lv_has ls 5 [(0, .ref xo), (1, .int ii), (2, .int jj), (3, .ref ou)] := hl
  refine lv_aload_n hx hb dL_agree_0 rfl (lv_at hl 3 rfl) ?_
  refine lv_iconst (v := 0) hx hb dL_agree_1 (by decide) ?_
  refine lv_aload_n hx hb dL_agree_2 rfl (lv_at hl 0 rfl) ?_
  refine lv_iload_n hx hb dL_agree_3 rfl (lv_at hl 1 rfl) ?_
  refine lv_iload_n hx hb dL_agree_4 rfl (lv_at hl 2 rfl) ?_
  have hFc := va_free (wc := [(xo, .inr (11, [.ref xg, .int 0, .ref xp, .int 0, .ref xq, .int 0, .ref r1, .ref r2, .ref r3, .ref r4, .ref se, .int ts, .int hq, .int 40, .int 0, .int 0])), (xg, .inl (cg, 6, .inr (.inr (.inr (.inr (fun _ => none))))))]) hD hS hA [0, 1] rfl
  refine vx_calli (vx_runV (As := [.int ii, .int jj]) (rest := [.int 0, .ref ou]) ⟨hx, hb, hml, hown, hts⟩ (zc_X6_agree l hnt D G xo xg xp xq r1 r2 r3 r4 se ts hq cg ii jj s.heap.size) (cwV 2 hts gzL_agree_X6_agree_17 rfl rfl rfl (by decide +kernel) ⟨(Nat.le_of_ble_eq_true rfl), (Nat.le_of_ble_eq_true rfl)⟩) ⟨p_RW_blind, va_recv hK hP (ci := 11) (q0 := 0) rfl rfl, (p_RW_at (tc := [(cg, .object "Gatherhouse$Glass")]) (wc := [(xo, .inr (11, [.ref xg, .int 0, .ref xp, .int 0, .ref xq, .int 0, .ref r1, .ref r2, .ref r3, .ref r4, .ref se, .int ts, .int hq, .int 40, .int 0, .int 0])), (xg, .inl (cg, 6, .inr (.inr (.inr (.inr (fun _ => none))))))]) hP hK hD hS hA hT hZ [0, 1] [0] rfl rfl (by decide) rfl [.ref xo, .int ii, .int jj])⟩ rfl rfl hl.1 rfl (lv_room (Nat.le_of_ble_eq_true rfl)) dL_agree_5 ⟨(Nat.le_of_ble_eq_true rfl), (Nat.le_of_ble_eq_true rfl)⟩) hS (fun q _ h => hFc q h) hFc (fun q _ h => hFc q h) (fun E ce q9 u t H locs ht hvm hpx hBX hz1 hk1 hS hce hcv hcl => ?_) (fun r_767 u t H locs ht hvm w_768 hB hz1 hk1 hS => ?_)
  · have hBX : (E = "java/lang/IndexOutOfBoundsException") := hBX
    rcases hBX with rfl
    refine vx_catch (own := RL) (name := "java/lang/IndexOutOfBoundsException") hown ([] : List ExceptionTableEntry) ⟨0, 17, 20, 21⟩ ([] : List ExceptionTableEntry) (by rw [hxe]; rfl) (fun _ h => absurd h List.not_mem_nil) (by decide) (by decide) (hts (.classLink RL 21 "java/lang/IndexOutOfBoundsException") (by decide +kernel)) (va_Nw.use rfl (hT.2.2.1 ("java/lang/IndexOutOfBoundsException", "java/lang/IndexOutOfBoundsException") (by decide +kernel))) hce hcv hcl ?_
    refine W.eq (g2 := F0 m 20 ls [.ref q9]) rfl ?_
    refine lv_astore (lv' := [(4, .ref q9), (0, .ref xo), (1, .int ii), (2, .int jj), (3, .ref ou)]) hx hb dL_agree_20 hl (by decide) rfl (fun ls hl => ?_)
    refine lv_iconst (v := 1) hx hb dL_agree_22 (by decide) ?_
    refine vx_ret ?_
    exact W.iret (v := 1) hx hb hr (fun t ht hW => ⟨⟨1, (), rfl, rfl, trivial⟩, hS.F ht⟩) hS.2.2 dL_agree_23
  · exact w_768.elim
theorem dL_pot_0 : decode cL_pot 0 = .ok (.aload_n 2, 1) := by decide +kernel
theorem dL_pot_1 : decode cL_pot 1 = .ok (.iconst 0, 1) := by decide +kernel
theorem dL_pot_2 : decode cL_pot 2 = .ok (.aload_n 0, 1) := by decide +kernel
theorem dL_pot_3 : decode cL_pot 3 = .ok (.iload_n 1, 1) := by decide +kernel
theorem dL_pot_4 : decode cL_pot 4 = .ok (.invokevirtual 23, 3) := by decide +kernel
theorem dL_pot_12 : decode cL_pot 12 = .ok (.astore_n 3, 1) := by decide +kernel
theorem dL_pot_13 : decode cL_pot 13 = .ok (.iconst 1, 1) := by decide +kernel
theorem dL_pot_14 : decode cL_pot 14 = .ok (.ireturn, 1) := by decide +kernel
def wzEL_pot : List Cond := [.codeWith yL_pot cL_pot 4 (some .int) [(0, 9, 12, 21), (0, 9, 15, 15)], .methodLink RL 23 yX6_pot, .instanceMethod yX6_pot, .selects RX6 yX6_pot yX6_pot, .initialized RX6, .code yX6_pot cX6_pot 3 (some .int), .methodLink RX6 89 yX6_findGlass, .instanceMethod yX6_findGlass, .selects RX6 yX6_findGlass yX6_findGlass, .code yX6_findGlass cX6_findGlass 3 (some (.object "Gatherhouse$Glass")), .classLink RX6 365 "java/lang/IndexOutOfBoundsException", .initialized "java/lang/IndexOutOfBoundsException", .fieldLink RX6 11 "Gatherhouse" "glasses" "[LGatherhouse$Glass;", .classLink RL 21 "java/lang/IndexOutOfBoundsException"]
def wzL_pot : List Cond := wzEL_pot ++ (u_ws RX6 TX6 16 ++ ((vx_atS RX6 369 "java/lang/IndexOutOfBoundsException" ["java/lang/RuntimeException", "java/lang/Exception"]).filter goodWord))
theorem zgEL_pot : wzEL_pot.all goodWord = true := by decide +kernel
theorem zuL_pot_X6 : ∀ w ∈ u_ws RX6 TX6 16, w ∈ wzL_pot := (fun _ h => (List.mem_append_right _ (List.mem_append_left _ h)))
theorem ztL_pot_X6_369 : ∀ w ∈ (vx_atS RX6 369 "java/lang/IndexOutOfBoundsException" ["java/lang/RuntimeException", "java/lang/Exception"]).filter goodWord, w ∈ wzL_pot := (fun _ h => (List.mem_append_right _ (List.mem_append_right _ h)))
theorem gzL_pot_X6_pot_23 : GoodIn wzL_pot (wsV RL 23 RX6 yX6_pot wzX6_pot) := (goodIn_app (z_lift (goodIn_r _ [1, 2, 3, 4] rfl (by decide +kernel))) (goodIn_app (z_lift (goodIn_r wzEX6_pot [5, 6, 7, 8, 4, 9, 10, 11, 12] rfl zgEX6_pot)) (goodIn_app (goodIn_sub (fun _ h => (List.mem_append_right _ (List.mem_append_left _ h))) zgU_X6) (goodIn_sub (fun _ h => (List.mem_append_right _ (List.mem_append_right _ h))) zgV_X6_369))))
set_option maxHeartbeats 4000000 in
set_option maxRecDepth 100000 in
theorem zc_L_pot (l : Launch) (hnt : l.stackTraces = false) (D : va_G) (G : Nat × Nat × Nat) (xo : Nat) (xg : Nat) (xp : Nat) (xq : Nat) (r1 : Nat) (r2 : Nat) (r3 : Nat) (r4 : Nat) (se : Nat) (ts : Int32) (hq : Int32) (cg : ClassId) (ou : Nat) (cJ : ClassId) (ii : Int32) (sz : Nat) : vx_Met l yL_pot wzL_pot ({ frames := 8, cells := 1, slots := 6, locals := 126 }) (va_Pc [.ref xo, .int ii, .ref ou] (p_RW D G [(cg, .object "Gatherhouse$Glass"), (cJ, .long)] [(xo, .inr (11, [.ref xg, .int 0, .ref xp, .int 0, .ref xq, .int 0, .ref r1, .ref r2, .ref r3, .ref r4, .ref se, .int ts, .int hq, .int 40, .int 0, .int 0])), (xg, .inl (cg, 6, .inr (.inr (.inr (.inr (fun _ => none)))))), (ou, .inl (cJ, 1, .inr (.inl (fun _ => 0))))] sz)) (va_Qi (fun (r : Int32) (u : Unit) => r = 1) (fun (u : Unit) (t : State) => True) (va_A [(xo, .inr (11, [.ref xg, .int 0, .ref xp, .int 0, .ref xq, .int 0, .ref r1, .ref r2, .ref r3, .ref r4, .ref se, .int ts, .int hq, .int 40, .int 0, .int 0])), (xg, .inl (cg, 6, .inr (.inr (.inr (.inr (fun _ => none)))))), (ou, .inl (cJ, 1, .inr (.inl (fun _ => 0))))] sz)) (vx_X (fun (_ : Unit) => True) (fun E (_ : Unit) (_ : State) => False) (va_A [(xo, .inr (11, [.ref xg, .int 0, .ref xp, .int 0, .ref xq, .int 0, .ref r1, .ref r2, .ref r3, .ref r4, .ref se, .int ts, .int hq, .int 40, .int 0, .int 0])), (xg, .inl (cg, 6, .inr (.inr (.inr (.inr (fun _ => none)))))), (ou, .inl (cJ, 1, .inr (.inl (fun _ => 0))))] sz)) 1 6 (va_A [(xo, .inr (11, [.ref xg, .int 0, .ref xp, .int 0, .ref xq, .int 0, .ref r1, .ref r2, .ref r3, .ref r4, .ref se, .int ts, .int hq, .int 40, .int 0, .int 0])), (xg, .inl (cg, 6, .inr (.inr (.inr (.inr (fun _ => none)))))), (ou, .inl (cJ, 1, .inr (.inl (fun _ => 0))))] sz) := by
  refine vx_ofWH (cc := cL_pot) (maxL := 4) (ret := (some .int)) (by decide) rfl ?_
  intro p e s m args below meth c s₁ B hml hv
  obtain ⟨rfl, hsz, hP, hK, hD0, hT, hZ⟩ := hv
  have hx := B.exec
  have hb := B.bytes
  have hr := B.returns
  have hts := atoms_spec (ws := wzL_pot) B.pre
  have hown : s.vm.findClass RL = some m.cls := findClass_of_methodNamed B.named
  have hlocks := B.notSynchronized
  have hxe := vx_table (x := yL_pot) B (hts _ List.mem_cons_self)
  subst hsz
  have hD := hD0.self (sz := s.heap.size)
  generalize hAe : va_A [(xo, .inr (11, [.ref xg, .int 0, .ref xp, .int 0, .ref xq, .int 0, .ref r1, .ref r2, .ref r3, .ref r4, .ref se, .int ts, .int hq, .int 40, .int 0, .int 0])), (xg, .inl (cg, 6, .inr (.inr (.inr (.inr (fun _ => none)))))), (ou, .inl (cJ, 1, .inr (.inl (fun _ => 0))))] s.heap.size = A at hD hZ ⊢
  have hA : ∀ q : Nat, s.heap.size ≤ q → A q := fun q h => by rw [← hAe]; exact Or.inr h
  have hS : va_S A s.heap s.heap [] := va_S.rf
  have hl := lv_entry ([.ref xo, .int ii, .ref ou]) (n := 4) (Nat.le_of_ble_eq_true rfl)
  rw [lg_entry_eq]
  generalize (lg_sl ([.ref xo, .int ii, .ref ou]) ++ List.replicate (4 - (lg_sl ([.ref xo, .int ii, .ref ou])).length) Slot.unset).toArray = ls at hl ⊢
  have hl : lv_has ls 4 [(0, .ref xo), (1, .int ii), (2, .ref ou)] := hl
  refine lv_aload_n hx hb dL_pot_0 rfl (lv_at hl 2 rfl) ?_
  refine lv_iconst (v := 0) hx hb dL_pot_1 (by decide) ?_
  refine lv_aload_n hx hb dL_pot_2 rfl (lv_at hl 0 rfl) ?_
  refine lv_iload_n hx hb dL_pot_3 rfl (lv_at hl 1 rfl) ?_
  have hFc := va_free (wc := [(xo, .inr (11, [.ref xg, .int 0, .ref xp, .int 0, .ref xq, .int 0, .ref r1, .ref r2, .ref r3, .ref r4, .ref se, .int ts, .int hq, .int 40, .int 0, .int 0])), (xg, .inl (cg, 6, .inr (.inr (.inr (.inr (fun _ => none))))))]) hD hS hA [0, 1] rfl
  refine vx_calli (vx_runV (As := [.int ii]) (rest := [.int 0, .ref ou]) ⟨hx, hb, hml, hown, hts⟩ (zc_X6_pot l hnt D G xo xg xp xq r1 r2 r3 r4 se ts hq cg ii s.heap.size) (cwV 1 hts gzL_pot_X6_pot_23 rfl rfl rfl (by decide +kernel) ⟨(Nat.le_of_ble_eq_true rfl), (Nat.le_of_ble_eq_true rfl)⟩) ⟨p_RW_blind, va_recv hK hP (ci := 11) (q0 := 0) rfl rfl, (p_RW_at (tc := [(cg, .object "Gatherhouse$Glass")]) (wc := [(xo, .inr (11, [.ref xg, .int 0, .ref xp, .int 0, .ref xq, .int 0, .ref r1, .ref r2, .ref r3, .ref r4, .ref se, .int ts, .int hq, .int 40, .int 0, .int 0])), (xg, .inl (cg, 6, .inr (.inr (.inr (.inr (fun _ => none))))))]) hP hK hD hS hA hT hZ [0, 1] [0] rfl rfl (by decide) rfl [.ref xo, .int ii])⟩ rfl rfl hl.1 rfl (lv_room (Nat.le_of_ble_eq_true rfl)) dL_pot_4 ⟨(Nat.le_of_ble_eq_true rfl), (Nat.le_of_ble_eq_true rfl)⟩) hS (fun q _ h => hFc q h) hFc (fun q _ h => hFc q h) (fun E ce q9 u t H locs ht hvm hpx hBX hz1 hk1 hS hce hcv hcl => ?_) (fun r_769 u t H locs ht hvm w_770 hB hz1 hk1 hS => ?_)
  · have hBX : (E = "java/lang/IndexOutOfBoundsException") := hBX
    rcases hBX with rfl
    refine vx_catch (own := RL) (name := "java/lang/IndexOutOfBoundsException") hown ([] : List ExceptionTableEntry) ⟨0, 9, 12, 21⟩ ([⟨0, 9, 15, 15⟩] : List ExceptionTableEntry) (by rw [hxe]; rfl) (fun _ h => absurd h List.not_mem_nil) (by decide) (by decide) (hts (.classLink RL 21 "java/lang/IndexOutOfBoundsException") (by decide +kernel)) (va_Nw.use rfl (hT.2.2.1 ("java/lang/IndexOutOfBoundsException", "java/lang/IndexOutOfBoundsException") (by decide +kernel))) hce hcv hcl ?_
    refine W.eq (g2 := F0 m 12 ls [.ref q9]) rfl ?_
    refine lv_astore_n (lv' := [(3, .ref q9), (0, .ref xo), (1, .int ii), (2, .ref ou)]) hx hb dL_pot_12 rfl hl (by decide) rfl (fun ls hl => ?_)
    refine lv_iconst (v := 1) hx hb dL_pot_13 (by decide) ?_
    refine vx_ret ?_
    exact W.iret (v := 1) hx hb hr (fun t ht hW => ⟨⟨1, (), rfl, rfl, trivial⟩, hS.F ht⟩) hS.2.2 dL_pot_14
  · exact w_770.elim
theorem dL_glass_0 : decode cL_glass 0 = .ok (.aload 5, 2) := by decide +kernel
theorem dL_glass_2 : decode cL_glass 2 = .ok (.iconst 0, 1) := by decide +kernel
theorem dL_glass_3 : decode cL_glass 3 = .ok (.aload_n 0, 1) := by decide +kernel
theorem dL_glass_4 : decode cL_glass 4 = .ok (.iload_n 1, 1) := by decide +kernel
theorem dL_glass_5 : decode cL_glass 5 = .ok (.iload_n 2, 1) := by decide +kernel
theorem dL_glass_6 : decode cL_glass 6 = .ok (.iload_n 3, 1) := by decide +kernel
theorem dL_glass_7 : decode cL_glass 7 = .ok (.iload 4, 2) := by decide +kernel
theorem dL_glass_9 : decode cL_glass 9 = .ok (.invokevirtual 7, 3) := by decide +kernel
theorem dL_glass_17 : decode cL_glass 17 = .ok (.astore 6, 2) := by decide +kernel
theorem dL_glass_19 : decode cL_glass 19 = .ok (.iconst 1, 1) := by decide +kernel
theorem dL_glass_20 : decode cL_glass 20 = .ok (.ireturn, 1) := by decide +kernel
theorem dL_glass_12 : decode cL_glass 12 = .ok (.i2l, 1) := by decide +kernel
theorem dL_glass_13 : decode cL_glass 13 = .ok (.lastore, 1) := by decide +kernel
theorem dL_glass_14 : decode cL_glass 14 = .ok (.goto 11, 3) := by decide +kernel
theorem dL_glass_25 : decode cL_glass 25 = .ok (.iconst 0, 1) := by decide +kernel
theorem dL_glass_26 : decode cL_glass 26 = .ok (.ireturn, 1) := by decide +kernel
def wzEL_glass : List Cond := [.codeWith yL_glass cL_glass 7 (some .int) [(0, 14, 17, 13), (0, 14, 21, 15)], .methodLink RL 7 yX6_glass, .instanceMethod yX6_glass, .selects RX6 yX6_glass yX6_glass, .initialized RX6, .code yX6_glass cX6_glass 5 (some .int), .methodLink RX6 75 yX6_checkRange, .static yX6_checkRange, .code yX6_checkRange cX6_checkRange 3 none, .classLink RX6 118 "java/lang/IllegalArgumentException", .initialized "java/lang/IllegalArgumentException", .fieldLink RX6 15 "Gatherhouse" "glassCount" "I", .fieldLink RX6 11 "Gatherhouse" "glasses" "[LGatherhouse$Glass;", .classLink RX6 9 RX0, .instantiable RX0 4, .initialized RX0, .code yX0_init cX0_init 5 none, .methodLink RX0 3 objectInit, .instanceMethod objectInit, .code objectInit ⟨#[0xb1]⟩ 1 none, .fieldLink RX0 9 "Gatherhouse$Glass" "low" "I", .fieldLink RX0 15 "Gatherhouse$Glass" "high" "I", .fieldLink RX0 18 "Gatherhouse$Glass" "expansion" "I", .fieldLink RX0 21 "Gatherhouse$Glass" "colour" "I", .instanceMethod yX0_init, .classLink RL 13 "java/lang/IllegalArgumentException"]
def wzL_glass : List Cond := wzEL_glass ++ (u_ws RX6 TX6 16 ++ (u_ws RX0 TX0 4 ++ ((vx_atS RX6 122 "java/lang/IllegalArgumentException" ["java/lang/RuntimeException", "java/lang/Exception"]).filter goodWord)))
theorem zgEL_glass : wzEL_glass.all goodWord = true := by decide +kernel
theorem zuL_glass_X6 : ∀ w ∈ u_ws RX6 TX6 16, w ∈ wzL_glass := (fun _ h => (List.mem_append_right _ (List.mem_append_left _ h)))
theorem zuL_glass_X0 : ∀ w ∈ u_ws RX0 TX0 4, w ∈ wzL_glass := (fun _ h => (List.mem_append_right _ (List.mem_append_right _ (List.mem_append_left _ h))))
theorem ztL_glass_X6_122 : ∀ w ∈ (vx_atS RX6 122 "java/lang/IllegalArgumentException" ["java/lang/RuntimeException", "java/lang/Exception"]).filter goodWord, w ∈ wzL_glass := (fun _ h => (List.mem_append_right _ (List.mem_append_right _ (List.mem_append_right _ h))))
theorem gzL_glass_X6_glass_7 : GoodIn wzL_glass (wsV RL 7 RX6 yX6_glass wzX6_glass) := (goodIn_app (z_lift (goodIn_r _ [1, 2, 3, 4] rfl (by decide +kernel))) (goodIn_app (z_lift (goodIn_r wzEX6_glass [5, 6, 7, 4, 8, 9, 10, 11, 12, 13, 14, 15, 16, 17, 18, 19, 20, 21, 22, 23, 24] rfl zgEX6_glass)) (goodIn_app (goodIn_sub (fun _ h => (List.mem_append_right _ (List.mem_append_left _ h))) zgU_X6) (goodIn_app (goodIn_sub (fun _ h => (List.mem_append_right _ (List.mem_append_right _ (List.mem_append_left _ h)))) zgU_X0) (goodIn_sub (fun _ h => (List.mem_append_right _ (List.mem_append_right _ (List.mem_append_right _ h)))) zgV_X6_122)))))
set_option maxHeartbeats 4000000 in
set_option maxRecDepth 100000 in
theorem zc_L_glass (l : Launch) (hnt : l.stackTraces = false) (D : va_G) (G : Nat × Nat × Nat) (xo : Nat) (xg : Nat) (xp : Nat) (xq : Nat) (r1 : Nat) (r2 : Nat) (r3 : Nat) (r4 : Nat) (se : Nat) (ts : Int32) (hq : Int32) (cg : ClassId) (ou : Nat) (cJ : ClassId) (lo : Int32) (hi : Int32) (xe : Int32) (co : Int32) (sz : Nat) : vx_Met l yL_glass wzL_glass ({ frames := 8, cells := 5, slots := 28, locals := 128 }) (va_Pc [.ref xo, .int lo, .int hi, .int xe, .int co, .ref ou] (p_RW D G [(cg, .object "Gatherhouse$Glass"), (cJ, .long)] [(xo, .inr (11, [.ref xg, .int 0, .ref xp, .int 0, .ref xq, .int 0, .ref r1, .ref r2, .ref r3, .ref r4, .ref se, .int ts, .int hq, .int 40, .int 0, .int 0])), (xg, .inl (cg, 6, .inr (.inr (.inr (.inr (fun _ => none)))))), (ou, .inl (cJ, 1, .inr (.inl (fun _ => 0))))] sz)) (va_Qi (fun (r : Int32) (u : Nat → Int64) => match u with | fo => (gOK lo hi xe co ∧ fo 0 = 0 ∧ r = 0) ∨ (¬ gOK lo hi xe co ∧ r = 1)) (fun (u : Nat → Int64) (t : State) => match u with | fo => q_RW D [(cJ, .long)] [(ou, .inl (cJ, 1, .inr (.inl fo)))] (va_A [(xo, .inr (11, [.ref xg, .int 0, .ref xp, .int 0, .ref xq, .int 0, .ref r1, .ref r2, .ref r3, .ref r4, .ref se, .int ts, .int hq, .int 40, .int 0, .int 0])), (xg, .inl (cg, 6, .inr (.inr (.inr (.inr (fun _ => none)))))), (ou, .inl (cJ, 1, .inr (.inl (fun _ => 0))))] sz) t) (va_A [(xo, .inr (11, [.ref xg, .int 0, .ref xp, .int 0, .ref xq, .int 0, .ref r1, .ref r2, .ref r3, .ref r4, .ref se, .int ts, .int hq, .int 40, .int 0, .int 0])), (xg, .inl (cg, 6, .inr (.inr (.inr (.inr (fun _ => none)))))), (ou, .inl (cJ, 1, .inr (.inl (fun _ => 0))))] sz)) (vx_X (fun (_ : Unit) => True) (fun E (_ : Unit) (_ : State) => False) (va_A [(xo, .inr (11, [.ref xg, .int 0, .ref xp, .int 0, .ref xq, .int 0, .ref r1, .ref r2, .ref r3, .ref r4, .ref se, .int ts, .int hq, .int 40, .int 0, .int 0])), (xg, .inl (cg, 6, .inr (.inr (.inr (.inr (fun _ => none)))))), (ou, .inl (cJ, 1, .inr (.inl (fun _ => 0))))] sz)) 5 28 (va_A [(xo, .inr (11, [.ref xg, .int 0, .ref xp, .int 0, .ref xq, .int 0, .ref r1, .ref r2, .ref r3, .ref r4, .ref se, .int ts, .int hq, .int 40, .int 0, .int 0])), (xg, .inl (cg, 6, .inr (.inr (.inr (.inr (fun _ => none)))))), (ou, .inl (cJ, 1, .inr (.inl (fun _ => 0))))] sz) := by
  refine vx_ofWH (cc := cL_glass) (maxL := 7) (ret := (some .int)) (by decide) rfl ?_
  intro p e s m args below meth c s₁ B hml hv
  obtain ⟨rfl, hsz, hP, hK, hD0, hT, hZ⟩ := hv
  have hx := B.exec
  have hb := B.bytes
  have hr := B.returns
  have hts := atoms_spec (ws := wzL_glass) B.pre
  have hown : s.vm.findClass RL = some m.cls := findClass_of_methodNamed B.named
  have hlocks := B.notSynchronized
  have hxe := vx_table (x := yL_glass) B (hts _ List.mem_cons_self)
  subst hsz
  have hD := hD0.self (sz := s.heap.size)
  generalize hAe : va_A [(xo, .inr (11, [.ref xg, .int 0, .ref xp, .int 0, .ref xq, .int 0, .ref r1, .ref r2, .ref r3, .ref r4, .ref se, .int ts, .int hq, .int 40, .int 0, .int 0])), (xg, .inl (cg, 6, .inr (.inr (.inr (.inr (fun _ => none)))))), (ou, .inl (cJ, 1, .inr (.inl (fun _ => 0))))] s.heap.size = A at hD hZ ⊢
  have hA : ∀ q : Nat, s.heap.size ≤ q → A q := fun q h => by rw [← hAe]; exact Or.inr h
  have hS : va_S A s.heap s.heap [] := va_S.rf
  have hl := lv_entry ([.ref xo, .int lo, .int hi, .int xe, .int co, .ref ou]) (n := 7) (Nat.le_of_ble_eq_true rfl)
  rw [lg_entry_eq]
  generalize (lg_sl ([.ref xo, .int lo, .int hi, .int xe, .int co, .ref ou]) ++ List.replicate (7 - (lg_sl ([.ref xo, .int lo, .int hi, .int xe, .int co, .ref ou])).length) Slot.unset).toArray = ls at hl ⊢
  have hl : lv_has ls 7 [(0, .ref xo), (1, .int lo), (2, .int hi), (3, .int xe), (4, .int co), (5, .ref ou)] := hl
  refine lv_aload hx hb dL_glass_0 (lv_at hl 5 rfl) ?_
  refine lv_iconst (v := 0) hx hb dL_glass_2 (by decide) ?_
  refine lv_aload_n hx hb dL_glass_3 rfl (lv_at hl 0 rfl) ?_
  refine lv_iload_n hx hb dL_glass_4 rfl (lv_at hl 1 rfl) ?_
  refine lv_iload_n hx hb dL_glass_5 rfl (lv_at hl 2 rfl) ?_
  refine lv_iload_n hx hb dL_glass_6 rfl (lv_at hl 3 rfl) ?_
  refine lv_iload hx hb dL_glass_7 (lv_at hl 4 rfl) ?_
  have hFc := va_free (wc := [(xo, .inr (11, [.ref xg, .int 0, .ref xp, .int 0, .ref xq, .int 0, .ref r1, .ref r2, .ref r3, .ref r4, .ref se, .int ts, .int hq, .int 40, .int 0, .int 0])), (xg, .inl (cg, 6, .inr (.inr (.inr (.inr (fun _ => none))))))]) hD hS hA [0, 1] rfl
  refine vx_calli (vx_runV (As := [.int lo, .int hi, .int xe, .int co]) (rest := [.int 0, .ref ou]) ⟨hx, hb, hml, hown, hts⟩ (zc_X6_glass l hnt D G xo xg xp xq r1 r2 r3 r4 se ts hq cg lo hi xe co s.heap.size) (cwV 4 hts gzL_glass_X6_glass_7 rfl rfl rfl (by decide +kernel) ⟨(Nat.le_of_ble_eq_true rfl), (Nat.le_of_ble_eq_true rfl)⟩) ⟨p_RW_blind, va_recv hK hP (ci := 11) (q0 := 0) rfl rfl, (p_RW_at (tc := [(cg, .object "Gatherhouse$Glass")]) (wc := [(xo, .inr (11, [.ref xg, .int 0, .ref xp, .int 0, .ref xq, .int 0, .ref r1, .ref r2, .ref r3, .ref r4, .ref se, .int ts, .int hq, .int 40, .int 0, .int 0])), (xg, .inl (cg, 6, .inr (.inr (.inr (.inr (fun _ => none))))))]) hP hK hD hS hA hT hZ [0, 1] [0] rfl rfl (by decide) rfl [.ref xo, .int lo, .int hi, .int xe, .int co])⟩ rfl rfl hl.1 rfl (lv_room (Nat.le_of_ble_eq_true rfl)) dL_glass_9 ⟨(Nat.le_of_ble_eq_true rfl), (Nat.le_of_ble_eq_true rfl)⟩) hS (fun q _ h => hFc q h) hFc (fun q _ h => hFc q h) (fun E ce q9 u t H locs ht hvm hpx hBX hz1 hk1 hS hce hcv hcl => ?_) (fun r_771 u t H locs ht hvm w_772 hB hz1 hk1 hS => ?_)
  · have hBX : (E = "java/lang/IllegalArgumentException" ∧ (¬ gOK lo hi xe co)) := hBX
    rcases hBX with ⟨rfl, c_773⟩
    refine vx_catch (own := RL) (name := "java/lang/IllegalArgumentException") hown ([] : List ExceptionTableEntry) ⟨0, 14, 17, 13⟩ ([⟨0, 14, 21, 15⟩] : List ExceptionTableEntry) (by rw [hxe]; rfl) (fun _ h => absurd h List.not_mem_nil) (by decide) (by decide) (hts (.classLink RL 13 "java/lang/IllegalArgumentException") (by decide +kernel)) (va_Nw.use rfl (hT.2.2.1 ("java/lang/IllegalArgumentException", "java/lang/IllegalArgumentException") (by decide +kernel))) hce hcv hcl ?_
    obtain ⟨hP, hD, hK⟩ := q_join (D := D) (wc := [(xo, .inr (11, [.ref xg, .int 0, .ref xp, .int 0, .ref xq, .int 0, .ref r1, .ref r2, .ref r3, .ref r4, .ref se, .int ts, .int hq, .int 40, .int 0, .int 0])), (xg, .inl (cg, 6, .inr (.inr (.inr (.inr (fun _ => none))))))]) (wr := [(ou, .inl (cJ, 1, .inr (.inl (fun _ => 0))))]) (w1 := []) (tyr := [(cg, .object "Gatherhouse$Glass"), (cJ, .long)]) (ty1 := []) hP hD hK [0, 1] [2] [0, 1] rfl rfl (by decide) (by decide) rfl hFc hk1 ht hvm (q_none hK hvm)
    have hP : va_P D vwCl [(ou, .inl (cJ, 1, .inr (.inl (fun _ => 0))))] H := hP
    have hD : va_D A [(ou, .inl (cJ, 1, .inr (.inl (fun _ => 0))))] := hD
    have hK : va_K D vwCl [(cg, .object "Gatherhouse$Glass"), (cJ, .long)] s := hK
    refine W.eq (g2 := F0 m 17 ls [.ref q9]) rfl ?_
    refine lv_astore (lv' := [(6, .ref q9), (0, .ref xo), (1, .int lo), (2, .int hi), (3, .int xe), (4, .int co), (5, .ref ou)]) hx hb dL_glass_17 hl (by decide) rfl (fun ls hl => ?_)
    refine lv_iconst (v := 1) hx hb dL_glass_19 (by decide) ?_
    refine vx_ret ?_
    exact W.iret (v := 1) hx hb hr (fun t ht hW => ⟨⟨1, (fun _ => 0), rfl, (Or.inr (⟨(by first | assumption | exact inR_1 (by assumption) (by assumption) | exact inR_2 (by assumption) (by assumption) | exact inR_3 (by assumption) | exact inR_4 (by assumption) | exact inR_5 (by assumption) | exact ⟨by assumption, by assumption, by assumption, by assumption⟩ | exact ⟨by assumption, by assumption, by assumption⟩ | exact (fun q => absurd q.1 (by assumption)) | exact (fun q => absurd q.2.1 (by assumption)) | exact (fun q => absurd q.2.2 (by assumption)) | exact (fun q => absurd q.2.2.1 (by assumption)) | exact (fun q => absurd q.2.2.2 (by assumption)) | exact isRole_no (by assumption) (by assumption) (by assumption) (by assumption) | exact isRole_nb (by assumption) (by assumption) (by assumption) (by assumption) | exact isRole_out (by assumption) | exact enc_use (by assumption) (by assumption) (by assumption) | exact enc_103 (by assumption) | exact enc_103 (Eq.symm (by assumption)) | exact enc_115 (Eq.symm (by assumption)) | exact enc_102 (Eq.symm (by assumption)) | exact enc_98 (Eq.symm (by assumption)) | exact isRole_nc (by assumption) (by assumption) (by assumption) (by assumption) | exact enc_115 (by assumption) | exact enc_102 (by assumption) | exact enc_98 (by assumption) | exact Or.inr (by assumption) | rfl | exact Or.inl (by assumption) | exact Or.inr (Or.inl (by assumption)) | exact Or.inr (Or.inr (Or.inl (by assumption))) | exact Or.inr (Or.inr (Or.inr (by assumption))) | decide), rfl⟩)), q_RW_mk hP hK hD [0] [1] rfl rfl (by decide) rfl ht hW.alike⟩, hS.F ht⟩) hS.2.2 dL_glass_20
  · obtain ⟨hP, hD, hK⟩ := q_join (D := D) (wc := [(xo, .inr (11, [.ref xg, .int 0, .ref xp, .int 0, .ref xq, .int 0, .ref r1, .ref r2, .ref r3, .ref r4, .ref se, .int ts, .int hq, .int 40, .int 0, .int 0])), (xg, .inl (cg, 6, .inr (.inr (.inr (.inr (fun _ => none))))))]) (wr := [(ou, .inl (cJ, 1, .inr (.inl (fun _ => 0))))]) (w1 := []) (tyr := [(cg, .object "Gatherhouse$Glass"), (cJ, .long)]) (ty1 := []) hP hD hK [0, 1] [2] [0, 1] rfl rfl (by decide) (by decide) rfl hFc hk1 ht hvm (q_none hK hvm)
    have hP : va_P D vwCl [(ou, .inl (cJ, 1, .inr (.inl (fun _ => 0))))] H := hP
    have hD : va_D A [(ou, .inl (cJ, 1, .inr (.inl (fun _ => 0))))] := hD
    have hK : va_K D vwCl [(cg, .object "Gatherhouse$Glass"), (cJ, .long)] s := hK
    refine W.widen (k := 5) (n := 28) (Nat.le_of_ble_eq_true rfl) (Nat.le_of_ble_eq_true rfl) ?_
    obtain ⟨c_774, rfl⟩ := w_772
    refine lv_i2l (v := 0) hx hb dL_glass_12 (by decide) ?_
    refine va_last (D := D) (cl := vwCl) hx hb hK hP hD hS 0 1 rfl rfl (vp_in_nI (n := 0) (N := 1) (by decide) (by decide)) dL_glass_13 (fun H locs hP hD hS => ?_)
    have hP : va_P D vwCl [(ou, .inl (cJ, 1, .inr (.inl (vp_updL (fun _ => 0) (0 : Int32).toNatClampNeg 0))))] H := hP
    have hD : va_D A [(ou, .inl (cJ, 1, .inr (.inl (vp_updL (fun _ => 0) (0 : Int32).toNatClampNeg 0))))] := hD
    refine lv_goto (tgt := 25) hx hb dL_glass_14 (by decide) ?_
    refine lv_iconst (v := 0) hx hb dL_glass_25 (by decide) ?_
    refine vx_ret ?_
    exact W.iret (v := 0) hx hb hr (fun t ht hW => ⟨⟨0, (vp_updL (fun _ => 0) (0 : Int32).toNatClampNeg 0), rfl, (Or.inl (⟨(by first | assumption | exact inR_1 (by assumption) (by assumption) | exact inR_2 (by assumption) (by assumption) | exact inR_3 (by assumption) | exact inR_4 (by assumption) | exact inR_5 (by assumption) | exact ⟨by assumption, by assumption, by assumption, by assumption⟩ | exact ⟨by assumption, by assumption, by assumption⟩ | exact (fun q => absurd q.1 (by assumption)) | exact (fun q => absurd q.2.1 (by assumption)) | exact (fun q => absurd q.2.2 (by assumption)) | exact (fun q => absurd q.2.2.1 (by assumption)) | exact (fun q => absurd q.2.2.2 (by assumption)) | exact isRole_no (by assumption) (by assumption) (by assumption) (by assumption) | exact isRole_nb (by assumption) (by assumption) (by assumption) (by assumption) | exact isRole_out (by assumption) | exact enc_use (by assumption) (by assumption) (by assumption) | exact enc_103 (by assumption) | exact enc_103 (Eq.symm (by assumption)) | exact enc_115 (Eq.symm (by assumption)) | exact enc_102 (Eq.symm (by assumption)) | exact enc_98 (Eq.symm (by assumption)) | exact isRole_nc (by assumption) (by assumption) (by assumption) (by assumption) | exact enc_115 (by assumption) | exact enc_102 (by assumption) | exact enc_98 (by assumption) | exact Or.inr (by assumption) | rfl | exact Or.inl (by assumption) | exact Or.inr (Or.inl (by assumption)) | exact Or.inr (Or.inr (Or.inl (by assumption))) | exact Or.inr (Or.inr (Or.inr (by assumption))) | decide), (by first | assumption | exact inR_1 (by assumption) (by assumption) | exact inR_2 (by assumption) (by assumption) | exact inR_3 (by assumption) | exact inR_4 (by assumption) | exact inR_5 (by assumption) | exact ⟨by assumption, by assumption, by assumption, by assumption⟩ | exact ⟨by assumption, by assumption, by assumption⟩ | exact (fun q => absurd q.1 (by assumption)) | exact (fun q => absurd q.2.1 (by assumption)) | exact (fun q => absurd q.2.2 (by assumption)) | exact (fun q => absurd q.2.2.1 (by assumption)) | exact (fun q => absurd q.2.2.2 (by assumption)) | exact isRole_no (by assumption) (by assumption) (by assumption) (by assumption) | exact isRole_nb (by assumption) (by assumption) (by assumption) (by assumption) | exact isRole_out (by assumption) | exact enc_use (by assumption) (by assumption) (by assumption) | exact enc_103 (by assumption) | exact enc_103 (Eq.symm (by assumption)) | exact enc_115 (Eq.symm (by assumption)) | exact enc_102 (Eq.symm (by assumption)) | exact enc_98 (Eq.symm (by assumption)) | exact isRole_nc (by assumption) (by assumption) (by assumption) (by assumption) | exact enc_115 (by assumption) | exact enc_102 (by assumption) | exact enc_98 (by assumption) | exact Or.inr (by assumption) | rfl | exact Or.inl (by assumption) | exact Or.inr (Or.inl (by assumption)) | exact Or.inr (Or.inr (Or.inl (by assumption))) | exact Or.inr (Or.inr (Or.inr (by assumption))) | decide), rfl⟩)), q_RW_mk hP hK hD [0] [1] rfl rfl (by decide) rfl ht hW.alike⟩, hS.F ht⟩) hS.2.2 dL_glass_26
theorem dL_hours_0 : decode cL_hours 0 = .ok (.aload_n 2, 1) := by decide +kernel
theorem dL_hours_1 : decode cL_hours 1 = .ok (.iconst 0, 1) := by decide +kernel
theorem dL_hours_2 : decode cL_hours 2 = .ok (.aload_n 0, 1) := by decide +kernel
theorem dL_hours_3 : decode cL_hours 3 = .ok (.iload_n 1, 1) := by decide +kernel
theorem dL_hours_4 : decode cL_hours 4 = .ok (.invokevirtual 38, 3) := by decide +kernel
theorem dL_hours_12 : decode cL_hours 12 = .ok (.astore_n 3, 1) := by decide +kernel
theorem dL_hours_13 : decode cL_hours 13 = .ok (.iconst 1, 1) := by decide +kernel
theorem dL_hours_14 : decode cL_hours 14 = .ok (.ireturn, 1) := by decide +kernel
theorem dL_hours_7 : decode cL_hours 7 = .ok (.i2l, 1) := by decide +kernel
theorem dL_hours_8 : decode cL_hours 8 = .ok (.lastore, 1) := by decide +kernel
theorem dL_hours_9 : decode cL_hours 9 = .ok (.goto 12, 3) := by decide +kernel
theorem dL_hours_21 : decode cL_hours 21 = .ok (.iconst 0, 1) := by decide +kernel
theorem dL_hours_22 : decode cL_hours 22 = .ok (.ireturn, 1) := by decide +kernel
def wzEL_hours : List Cond := [.codeWith yL_hours cL_hours 4 (some .int) [(0, 9, 12, 13), (0, 9, 15, 41), (0, 9, 18, 15)], .methodLink RL 38 yX6_hours, .instanceMethod yX6_hours, .selects RX6 yX6_hours yX6_hours, .initialized RX6, .code yX6_hours cX6_hours 4 (some .int), .methodLink RX6 75 yX6_checkRange, .static yX6_checkRange, .code yX6_checkRange cX6_checkRange 3 none, .classLink RX6 118 "java/lang/IllegalArgumentException", .initialized "java/lang/IllegalArgumentException", .methodLink RX6 123 yX6_checkTeamRests, .instanceMethod yX6_checkTeamRests, .selects RX6 yX6_checkTeamRests yX6_checkTeamRests, .code yX6_checkTeamRests cX6_checkTeamRests 1 none, .methodLink RX6 274 yX6_countOf, .instanceMethod yX6_countOf, .selects RX6 yX6_countOf yX6_countOf, .code yX6_countOf cX6_countOf 7 (some .int), .fieldLink RX6 30 "Gatherhouse" "pieces" "[LGatherhouse$Piece;", .fieldLink RX6 40 "Gatherhouse" "gatherer" "LGatherhouse$Role;", .code yX4_isBusy cX4_isBusy 1 (some .boolean), .fieldLink RX4 7 "Gatherhouse$Role" "busy" "I", .initialized RX4, .instanceMethod yX4_isBusy, .selects RX4 yX4_isBusy yX4_isBusy, .fieldLink RX6 44 "Gatherhouse" "servitor" "LGatherhouse$Role;", .fieldLink RX6 47 "Gatherhouse" "gaffer" "LGatherhouse$Role;", .fieldLink RX6 50 "Gatherhouse" "boy" "LGatherhouse$Role;", .methodLink RX6 126 yX6_passHour, .instanceMethod yX6_passHour, .selects RX6 yX6_passHour yX6_passHour, .code yX6_passHour cX6_passHour 7 (some .int), .fieldLink RX6 63 "Gatherhouse" "hoursGone" "I", .fieldLink RX6 21 "Gatherhouse" "pots" "[LGatherhouse$Pot;", .methodLink RX6 405 yX6_endDay, .instanceMethod yX6_endDay, .selects RX6 yX6_endDay yX6_endDay, .code yX6_endDay cX6_endDay 6 none, .classLink RL 13 "java/lang/IllegalArgumentException"]
def wzL_hours : List Cond := wzEL_hours ++ (u_ws RX6 TX6 16 ++ (u_ws RX4 TX4 2 ++ ((vx_atS RX6 122 "java/lang/IllegalArgumentException" ["java/lang/RuntimeException", "java/lang/Exception"]).filter goodWord)))
theorem zgEL_hours : wzEL_hours.all goodWord = true := by decide +kernel
theorem zuL_hours_X6 : ∀ w ∈ u_ws RX6 TX6 16, w ∈ wzL_hours := (fun _ h => (List.mem_append_right _ (List.mem_append_left _ h)))
theorem zuL_hours_X4 : ∀ w ∈ u_ws RX4 TX4 2, w ∈ wzL_hours := (fun _ h => (List.mem_append_right _ (List.mem_append_right _ (List.mem_append_left _ h))))
theorem ztL_hours_X6_122 : ∀ w ∈ (vx_atS RX6 122 "java/lang/IllegalArgumentException" ["java/lang/RuntimeException", "java/lang/Exception"]).filter goodWord, w ∈ wzL_hours := (fun _ h => (List.mem_append_right _ (List.mem_append_right _ (List.mem_append_right _ h))))
theorem gzL_hours_X6_hours_38 : GoodIn wzL_hours (wsV RL 38 RX6 yX6_hours wzX6_hours) := (goodIn_app (z_lift (goodIn_r _ [1, 2, 3, 4] rfl (by decide +kernel))) (goodIn_app (z_lift (goodIn_r wzEX6_hours [5, 6, 7, 4, 8, 9, 10, 11, 12, 13, 14, 15, 16, 17, 18, 19, 20, 21, 22, 23, 24, 25, 26, 27, 28, 29, 30, 31, 32, 33, 34, 35, 36, 37, 38] rfl zgEX6_hours)) (goodIn_app (goodIn_sub (fun _ h => (List.mem_append_right _ (List.mem_append_left _ h))) zgU_X6) (goodIn_app (goodIn_sub (fun _ h => (List.mem_append_right _ (List.mem_append_right _ (List.mem_append_left _ h)))) zgU_X4) (goodIn_sub (fun _ h => (List.mem_append_right _ (List.mem_append_right _ (List.mem_append_right _ h)))) zgV_X6_122)))))
set_option maxHeartbeats 4000000 in
set_option maxRecDepth 100000 in
theorem zc_L_hours (l : Launch) (hnt : l.stackTraces = false) (D : va_G) (G : Nat × Nat × Nat) (xo : Nat) (xg : Nat) (xp : Nat) (xq : Nat) (r1 : Nat) (r2 : Nat) (r3 : Nat) (r4 : Nat) (se : Nat) (ts : Int32) (hq : Int32) (cp : ClassId) (cq : ClassId) (ou : Nat) (cJ : ClassId) (ii : Int32) (sz : Nat) : vx_Met l yL_hours wzL_hours ({ frames := 8, cells := 1, slots := 6, locals := 127 }) (va_Pc [.ref xo, .int ii, .ref ou] (p_RW D G [(cp, .object "Gatherhouse$Pot"), (cq, .object "Gatherhouse$Piece"), (cJ, .long)] [(xo, .inr (11, [.ref xg, .int 0, .ref xp, .int 0, .ref xq, .int 0, .ref r1, .ref r2, .ref r3, .ref r4, .ref se, .int ts, .int hq, .int 40, .int 0, .int 0])), (xp, .inl (cp, 4, .inr (.inr (.inr (.inr (fun _ => none)))))), (xq, .inl (cq, 16, .inr (.inr (.inr (.inr (fun _ => none)))))), (r1, .inr (9, [.int 0, .int 0])), (r2, .inr (9, [.int 0, .int 0])), (r3, .inr (9, [.int 0, .int 0])), (r4, .inr (9, [.int 0, .int 0])), (ou, .inl (cJ, 1, .inr (.inl (fun _ => 0))))] sz)) (va_Qi (fun (r : Int32) (u : Nat → Int64) => match u with | fo => (inR ii 1 240 ∧ fo 0 = 0 ∧ r = 0) ∨ (¬ inR ii 1 240 ∧ r = 1)) (fun (u : Nat → Int64) (t : State) => match u with | fo => q_RW D [(cJ, .long)] [(ou, .inl (cJ, 1, .inr (.inl fo)))] (va_A [(xo, .inr (11, [.ref xg, .int 0, .ref xp, .int 0, .ref xq, .int 0, .ref r1, .ref r2, .ref r3, .ref r4, .ref se, .int ts, .int hq, .int 40, .int 0, .int 0])), (xp, .inl (cp, 4, .inr (.inr (.inr (.inr (fun _ => none)))))), (xq, .inl (cq, 16, .inr (.inr (.inr (.inr (fun _ => none)))))), (r1, .inr (9, [.int 0, .int 0])), (r2, .inr (9, [.int 0, .int 0])), (r3, .inr (9, [.int 0, .int 0])), (r4, .inr (9, [.int 0, .int 0])), (ou, .inl (cJ, 1, .inr (.inl (fun _ => 0))))] sz) t) (va_A [(xo, .inr (11, [.ref xg, .int 0, .ref xp, .int 0, .ref xq, .int 0, .ref r1, .ref r2, .ref r3, .ref r4, .ref se, .int ts, .int hq, .int 40, .int 0, .int 0])), (xp, .inl (cp, 4, .inr (.inr (.inr (.inr (fun _ => none)))))), (xq, .inl (cq, 16, .inr (.inr (.inr (.inr (fun _ => none)))))), (r1, .inr (9, [.int 0, .int 0])), (r2, .inr (9, [.int 0, .int 0])), (r3, .inr (9, [.int 0, .int 0])), (r4, .inr (9, [.int 0, .int 0])), (ou, .inl (cJ, 1, .inr (.inl (fun _ => 0))))] sz)) (vx_X (fun (_ : Unit) => True) (fun E (_ : Unit) (_ : State) => False) (va_A [(xo, .inr (11, [.ref xg, .int 0, .ref xp, .int 0, .ref xq, .int 0, .ref r1, .ref r2, .ref r3, .ref r4, .ref se, .int ts, .int hq, .int 40, .int 0, .int 0])), (xp, .inl (cp, 4, .inr (.inr (.inr (.inr (fun _ => none)))))), (xq, .inl (cq, 16, .inr (.inr (.inr (.inr (fun _ => none)))))), (r1, .inr (9, [.int 0, .int 0])), (r2, .inr (9, [.int 0, .int 0])), (r3, .inr (9, [.int 0, .int 0])), (r4, .inr (9, [.int 0, .int 0])), (ou, .inl (cJ, 1, .inr (.inl (fun _ => 0))))] sz)) 1 6 (va_A [(xo, .inr (11, [.ref xg, .int 0, .ref xp, .int 0, .ref xq, .int 0, .ref r1, .ref r2, .ref r3, .ref r4, .ref se, .int ts, .int hq, .int 40, .int 0, .int 0])), (xp, .inl (cp, 4, .inr (.inr (.inr (.inr (fun _ => none)))))), (xq, .inl (cq, 16, .inr (.inr (.inr (.inr (fun _ => none)))))), (r1, .inr (9, [.int 0, .int 0])), (r2, .inr (9, [.int 0, .int 0])), (r3, .inr (9, [.int 0, .int 0])), (r4, .inr (9, [.int 0, .int 0])), (ou, .inl (cJ, 1, .inr (.inl (fun _ => 0))))] sz) := by
  refine vx_ofWH (cc := cL_hours) (maxL := 4) (ret := (some .int)) (by decide) rfl ?_
  intro p e s m args below meth c s₁ B hml hv
  obtain ⟨rfl, hsz, hP, hK, hD0, hT, hZ⟩ := hv
  have hx := B.exec
  have hb := B.bytes
  have hr := B.returns
  have hts := atoms_spec (ws := wzL_hours) B.pre
  have hown : s.vm.findClass RL = some m.cls := findClass_of_methodNamed B.named
  have hlocks := B.notSynchronized
  have hxe := vx_table (x := yL_hours) B (hts _ List.mem_cons_self)
  subst hsz
  have hD := hD0.self (sz := s.heap.size)
  generalize hAe : va_A [(xo, .inr (11, [.ref xg, .int 0, .ref xp, .int 0, .ref xq, .int 0, .ref r1, .ref r2, .ref r3, .ref r4, .ref se, .int ts, .int hq, .int 40, .int 0, .int 0])), (xp, .inl (cp, 4, .inr (.inr (.inr (.inr (fun _ => none)))))), (xq, .inl (cq, 16, .inr (.inr (.inr (.inr (fun _ => none)))))), (r1, .inr (9, [.int 0, .int 0])), (r2, .inr (9, [.int 0, .int 0])), (r3, .inr (9, [.int 0, .int 0])), (r4, .inr (9, [.int 0, .int 0])), (ou, .inl (cJ, 1, .inr (.inl (fun _ => 0))))] s.heap.size = A at hD hZ ⊢
  have hA : ∀ q : Nat, s.heap.size ≤ q → A q := fun q h => by rw [← hAe]; exact Or.inr h
  have hS : va_S A s.heap s.heap [] := va_S.rf
  have hl := lv_entry ([.ref xo, .int ii, .ref ou]) (n := 4) (Nat.le_of_ble_eq_true rfl)
  rw [lg_entry_eq]
  generalize (lg_sl ([.ref xo, .int ii, .ref ou]) ++ List.replicate (4 - (lg_sl ([.ref xo, .int ii, .ref ou])).length) Slot.unset).toArray = ls at hl ⊢
  have hl : lv_has ls 4 [(0, .ref xo), (1, .int ii), (2, .ref ou)] := hl
  refine lv_aload_n hx hb dL_hours_0 rfl (lv_at hl 2 rfl) ?_
  refine lv_iconst (v := 0) hx hb dL_hours_1 (by decide) ?_
  refine lv_aload_n hx hb dL_hours_2 rfl (lv_at hl 0 rfl) ?_
  refine lv_iload_n hx hb dL_hours_3 rfl (lv_at hl 1 rfl) ?_
  have hFc := va_free (wc := [(xo, .inr (11, [.ref xg, .int 0, .ref xp, .int 0, .ref xq, .int 0, .ref r1, .ref r2, .ref r3, .ref r4, .ref se, .int ts, .int hq, .int 40, .int 0, .int 0])), (xp, .inl (cp, 4, .inr (.inr (.inr (.inr (fun _ => none)))))), (xq, .inl (cq, 16, .inr (.inr (.inr (.inr (fun _ => none)))))), (r1, .inr (9, [.int 0, .int 0])), (r2, .inr (9, [.int 0, .int 0])), (r3, .inr (9, [.int 0, .int 0])), (r4, .inr (9, [.int 0, .int 0]))]) hD hS hA [0, 1, 2, 3, 4, 5, 6] rfl
  refine vx_calli (vx_runV (As := [.int ii]) (rest := [.int 0, .ref ou]) ⟨hx, hb, hml, hown, hts⟩ (zc_X6_hours l hnt D G xo xg xp xq r1 r2 r3 r4 se ts hq cp cq ii s.heap.size) (cwV 1 hts gzL_hours_X6_hours_38 rfl rfl rfl (by decide +kernel) ⟨(Nat.le_of_ble_eq_true rfl), (Nat.le_of_ble_eq_true rfl)⟩) ⟨p_RW_blind, va_recv hK hP (ci := 11) (q0 := 0) rfl rfl, (p_RW_at (tc := [(cp, .object "Gatherhouse$Pot"), (cq, .object "Gatherhouse$Piece")]) (wc := [(xo, .inr (11, [.ref xg, .int 0, .ref xp, .int 0, .ref xq, .int 0, .ref r1, .ref r2, .ref r3, .ref r4, .ref se, .int ts, .int hq, .int 40, .int 0, .int 0])), (xp, .inl (cp, 4, .inr (.inr (.inr (.inr (fun _ => none)))))), (xq, .inl (cq, 16, .inr (.inr (.inr (.inr (fun _ => none)))))), (r1, .inr (9, [.int 0, .int 0])), (r2, .inr (9, [.int 0, .int 0])), (r3, .inr (9, [.int 0, .int 0])), (r4, .inr (9, [.int 0, .int 0]))]) hP hK hD hS hA hT hZ [0, 1, 2, 3, 4, 5, 6] [0, 1] rfl rfl (by decide) rfl [.ref xo, .int ii])⟩ rfl rfl hl.1 rfl (lv_room (Nat.le_of_ble_eq_true rfl)) dL_hours_4 ⟨(Nat.le_of_ble_eq_true rfl), (Nat.le_of_ble_eq_true rfl)⟩) hS (fun q _ h => hFc q h) hFc (fun q _ h => hFc q h) (fun E ce q9 u t H locs ht hvm hpx hBX hz1 hk1 hS hce hcv hcl => ?_) (fun r_775 u t H locs ht hvm w_776 hB hz1 hk1 hS => ?_)
  · have hBX : (E = "java/lang/IllegalArgumentException" ∧ (¬ inR ii 1 240)) := hBX
    rcases hBX with ⟨rfl, c_777⟩
    refine vx_catch (own := RL) (name := "java/lang/IllegalArgumentException") hown ([] : List ExceptionTableEntry) ⟨0, 9, 12, 13⟩ ([⟨0, 9, 15, 41⟩, ⟨0, 9, 18, 15⟩] : List ExceptionTableEntry) (by rw [hxe]; rfl) (fun _ h => absurd h List.not_mem_nil) (by decide) (by decide) (hts (.classLink RL 13 "java/lang/IllegalArgumentException") (by decide +kernel)) (va_Nw.use rfl (hT.2.2.1 ("java/lang/IllegalArgumentException", "java/lang/IllegalArgumentException") (by decide +kernel))) hce hcv hcl ?_
    obtain ⟨hP, hD, hK⟩ := q_join (D := D) (wc := [(xo, .inr (11, [.ref xg, .int 0, .ref xp, .int 0, .ref xq, .int 0, .ref r1, .ref r2, .ref r3, .ref r4, .ref se, .int ts, .int hq, .int 40, .int 0, .int 0])), (xp, .inl (cp, 4, .inr (.inr (.inr (.inr (fun _ => none)))))), (xq, .inl (cq, 16, .inr (.inr (.inr (.inr (fun _ => none)))))), (r1, .inr (9, [.int 0, .int 0])), (r2, .inr (9, [.int 0, .int 0])), (r3, .inr (9, [.int 0, .int 0])), (r4, .inr (9, [.int 0, .int 0]))]) (wr := [(ou, .inl (cJ, 1, .inr (.inl (fun _ => 0))))]) (w1 := []) (tyr := [(cp, .object "Gatherhouse$Pot"), (cq, .object "Gatherhouse$Piece"), (cJ, .long)]) (ty1 := []) hP hD hK [0, 1, 2, 3, 4, 5, 6] [7] [0, 1, 2] rfl rfl (by decide) (by decide) rfl hFc hk1 ht hvm (q_none hK hvm)
    have hP : va_P D vwCl [(ou, .inl (cJ, 1, .inr (.inl (fun _ => 0))))] H := hP
    have hD : va_D A [(ou, .inl (cJ, 1, .inr (.inl (fun _ => 0))))] := hD
    have hK : va_K D vwCl [(cp, .object "Gatherhouse$Pot"), (cq, .object "Gatherhouse$Piece"), (cJ, .long)] s := hK
    refine W.eq (g2 := F0 m 12 ls [.ref q9]) rfl ?_
    refine lv_astore_n (lv' := [(3, .ref q9), (0, .ref xo), (1, .int ii), (2, .ref ou)]) hx hb dL_hours_12 rfl hl (by decide) rfl (fun ls hl => ?_)
    refine lv_iconst (v := 1) hx hb dL_hours_13 (by decide) ?_
    refine vx_ret ?_
    exact W.iret (v := 1) hx hb hr (fun t ht hW => ⟨⟨1, (fun _ => 0), rfl, (Or.inr (⟨(by first | assumption | exact inR_1 (by assumption) (by assumption) | exact inR_2 (by assumption) (by assumption) | exact inR_3 (by assumption) | exact inR_4 (by assumption) | exact inR_5 (by assumption) | exact ⟨by assumption, by assumption, by assumption, by assumption⟩ | exact ⟨by assumption, by assumption, by assumption⟩ | exact (fun q => absurd q.1 (by assumption)) | exact (fun q => absurd q.2.1 (by assumption)) | exact (fun q => absurd q.2.2 (by assumption)) | exact (fun q => absurd q.2.2.1 (by assumption)) | exact (fun q => absurd q.2.2.2 (by assumption)) | exact isRole_no (by assumption) (by assumption) (by assumption) (by assumption) | exact isRole_nb (by assumption) (by assumption) (by assumption) (by assumption) | exact isRole_out (by assumption) | exact enc_use (by assumption) (by assumption) (by assumption) | exact enc_103 (by assumption) | exact enc_103 (Eq.symm (by assumption)) | exact enc_115 (Eq.symm (by assumption)) | exact enc_102 (Eq.symm (by assumption)) | exact enc_98 (Eq.symm (by assumption)) | exact isRole_nc (by assumption) (by assumption) (by assumption) (by assumption) | exact enc_115 (by assumption) | exact enc_102 (by assumption) | exact enc_98 (by assumption) | exact Or.inr (by assumption) | rfl | exact Or.inl (by assumption) | exact Or.inr (Or.inl (by assumption)) | exact Or.inr (Or.inr (Or.inl (by assumption))) | exact Or.inr (Or.inr (Or.inr (by assumption))) | decide), rfl⟩)), q_RW_mk hP hK hD [0] [2] rfl rfl (by decide) rfl ht hW.alike⟩, hS.F ht⟩) hS.2.2 dL_hours_14
  · obtain ⟨hP, hD, hK⟩ := q_join (D := D) (wc := [(xo, .inr (11, [.ref xg, .int 0, .ref xp, .int 0, .ref xq, .int 0, .ref r1, .ref r2, .ref r3, .ref r4, .ref se, .int ts, .int hq, .int 40, .int 0, .int 0])), (xp, .inl (cp, 4, .inr (.inr (.inr (.inr (fun _ => none)))))), (xq, .inl (cq, 16, .inr (.inr (.inr (.inr (fun _ => none)))))), (r1, .inr (9, [.int 0, .int 0])), (r2, .inr (9, [.int 0, .int 0])), (r3, .inr (9, [.int 0, .int 0])), (r4, .inr (9, [.int 0, .int 0]))]) (wr := [(ou, .inl (cJ, 1, .inr (.inl (fun _ => 0))))]) (w1 := []) (tyr := [(cp, .object "Gatherhouse$Pot"), (cq, .object "Gatherhouse$Piece"), (cJ, .long)]) (ty1 := []) hP hD hK [0, 1, 2, 3, 4, 5, 6] [7] [0, 1, 2] rfl rfl (by decide) (by decide) rfl hFc hk1 ht hvm (q_none hK hvm)
    have hP : va_P D vwCl [(ou, .inl (cJ, 1, .inr (.inl (fun _ => 0))))] H := hP
    have hD : va_D A [(ou, .inl (cJ, 1, .inr (.inl (fun _ => 0))))] := hD
    have hK : va_K D vwCl [(cp, .object "Gatherhouse$Pot"), (cq, .object "Gatherhouse$Piece"), (cJ, .long)] s := hK
    refine W.widen (k := 1) (n := 6) (Nat.le_of_ble_eq_true rfl) (Nat.le_of_ble_eq_true rfl) ?_
    obtain ⟨c_778, rfl⟩ := w_776
    refine lv_i2l (v := 0) hx hb dL_hours_7 (by decide) ?_
    refine va_last (D := D) (cl := vwCl) hx hb hK hP hD hS 0 2 rfl rfl (vp_in_nI (n := 0) (N := 1) (by decide) (by decide)) dL_hours_8 (fun H locs hP hD hS => ?_)
    have hP : va_P D vwCl [(ou, .inl (cJ, 1, .inr (.inl (vp_updL (fun _ => 0) (0 : Int32).toNatClampNeg 0))))] H := hP
    have hD : va_D A [(ou, .inl (cJ, 1, .inr (.inl (vp_updL (fun _ => 0) (0 : Int32).toNatClampNeg 0))))] := hD
    refine lv_goto (tgt := 21) hx hb dL_hours_9 (by decide) ?_
    refine lv_iconst (v := 0) hx hb dL_hours_21 (by decide) ?_
    refine vx_ret ?_
    exact W.iret (v := 0) hx hb hr (fun t ht hW => ⟨⟨0, (vp_updL (fun _ => 0) (0 : Int32).toNatClampNeg 0), rfl, (Or.inl (⟨(by first | assumption | exact inR_1 (by assumption) (by assumption) | exact inR_2 (by assumption) (by assumption) | exact inR_3 (by assumption) | exact inR_4 (by assumption) | exact inR_5 (by assumption) | exact ⟨by assumption, by assumption, by assumption, by assumption⟩ | exact ⟨by assumption, by assumption, by assumption⟩ | exact (fun q => absurd q.1 (by assumption)) | exact (fun q => absurd q.2.1 (by assumption)) | exact (fun q => absurd q.2.2 (by assumption)) | exact (fun q => absurd q.2.2.1 (by assumption)) | exact (fun q => absurd q.2.2.2 (by assumption)) | exact isRole_no (by assumption) (by assumption) (by assumption) (by assumption) | exact isRole_nb (by assumption) (by assumption) (by assumption) (by assumption) | exact isRole_out (by assumption) | exact enc_use (by assumption) (by assumption) (by assumption) | exact enc_103 (by assumption) | exact enc_103 (Eq.symm (by assumption)) | exact enc_115 (Eq.symm (by assumption)) | exact enc_102 (Eq.symm (by assumption)) | exact enc_98 (Eq.symm (by assumption)) | exact isRole_nc (by assumption) (by assumption) (by assumption) (by assumption) | exact enc_115 (by assumption) | exact enc_102 (by assumption) | exact enc_98 (by assumption) | exact Or.inr (by assumption) | rfl | exact Or.inl (by assumption) | exact Or.inr (Or.inl (by assumption)) | exact Or.inr (Or.inr (Or.inl (by assumption))) | exact Or.inr (Or.inr (Or.inr (by assumption))) | decide), (by first | assumption | exact inR_1 (by assumption) (by assumption) | exact inR_2 (by assumption) (by assumption) | exact inR_3 (by assumption) | exact inR_4 (by assumption) | exact inR_5 (by assumption) | exact ⟨by assumption, by assumption, by assumption, by assumption⟩ | exact ⟨by assumption, by assumption, by assumption⟩ | exact (fun q => absurd q.1 (by assumption)) | exact (fun q => absurd q.2.1 (by assumption)) | exact (fun q => absurd q.2.2 (by assumption)) | exact (fun q => absurd q.2.2.1 (by assumption)) | exact (fun q => absurd q.2.2.2 (by assumption)) | exact isRole_no (by assumption) (by assumption) (by assumption) (by assumption) | exact isRole_nb (by assumption) (by assumption) (by assumption) (by assumption) | exact isRole_out (by assumption) | exact enc_use (by assumption) (by assumption) (by assumption) | exact enc_103 (by assumption) | exact enc_103 (Eq.symm (by assumption)) | exact enc_115 (Eq.symm (by assumption)) | exact enc_102 (Eq.symm (by assumption)) | exact enc_98 (Eq.symm (by assumption)) | exact isRole_nc (by assumption) (by assumption) (by assumption) (by assumption) | exact enc_115 (by assumption) | exact enc_102 (by assumption) | exact enc_98 (by assumption) | exact Or.inr (by assumption) | rfl | exact Or.inl (by assumption) | exact Or.inr (Or.inl (by assumption)) | exact Or.inr (Or.inr (Or.inl (by assumption))) | exact Or.inr (Or.inr (Or.inr (by assumption))) | decide), rfl⟩)), q_RW_mk hP hK hD [0] [2] rfl rfl (by decide) rfl ht hW.alike⟩, hS.F ht⟩) hS.2.2 dL_hours_22
theorem dL_days_0 : decode cL_days 0 = .ok (.aload_n 2, 1) := by decide +kernel
theorem dL_days_1 : decode cL_days 1 = .ok (.iconst 0, 1) := by decide +kernel
theorem dL_days_2 : decode cL_days 2 = .ok (.aload_n 0, 1) := by decide +kernel
theorem dL_days_3 : decode cL_days 3 = .ok (.iload_n 1, 1) := by decide +kernel
theorem dL_days_4 : decode cL_days 4 = .ok (.invokevirtual 126, 3) := by decide +kernel
theorem dL_days_12 : decode cL_days 12 = .ok (.astore_n 3, 1) := by decide +kernel
theorem dL_days_13 : decode cL_days 13 = .ok (.iconst 1, 1) := by decide +kernel
theorem dL_days_14 : decode cL_days 14 = .ok (.ireturn, 1) := by decide +kernel
theorem dL_days_7 : decode cL_days 7 = .ok (.i2l, 1) := by decide +kernel
theorem dL_days_8 : decode cL_days 8 = .ok (.lastore, 1) := by decide +kernel
theorem dL_days_9 : decode cL_days 9 = .ok (.goto 12, 3) := by decide +kernel
theorem dL_days_21 : decode cL_days 21 = .ok (.iconst 0, 1) := by decide +kernel
theorem dL_days_22 : decode cL_days 22 = .ok (.ireturn, 1) := by decide +kernel
def wzEL_days : List Cond := [.codeWith yL_days cL_days 4 (some .int) [(0, 9, 12, 13), (0, 9, 15, 41), (0, 9, 18, 15)], .methodLink RL 126 yX6_days, .instanceMethod yX6_days, .selects RX6 yX6_days yX6_days, .initialized RX6, .code yX6_days cX6_days 4 (some .int), .methodLink RX6 75 yX6_checkRange, .static yX6_checkRange, .code yX6_checkRange cX6_checkRange 3 none, .classLink RX6 118 "java/lang/IllegalArgumentException", .initialized "java/lang/IllegalArgumentException", .methodLink RX6 123 yX6_checkTeamRests, .instanceMethod yX6_checkTeamRests, .selects RX6 yX6_checkTeamRests yX6_checkTeamRests, .code yX6_checkTeamRests cX6_checkTeamRests 1 none, .methodLink RX6 274 yX6_countOf, .instanceMethod yX6_countOf, .selects RX6 yX6_countOf yX6_countOf, .code yX6_countOf cX6_countOf 7 (some .int), .fieldLink RX6 30 "Gatherhouse" "pieces" "[LGatherhouse$Piece;", .fieldLink RX6 40 "Gatherhouse" "gatherer" "LGatherhouse$Role;", .code yX4_isBusy cX4_isBusy 1 (some .boolean), .fieldLink RX4 7 "Gatherhouse$Role" "busy" "I", .initialized RX4, .instanceMethod yX4_isBusy, .selects RX4 yX4_isBusy yX4_isBusy, .fieldLink RX6 44 "Gatherhouse" "servitor" "LGatherhouse$Role;", .fieldLink RX6 47 "Gatherhouse" "gaffer" "LGatherhouse$Role;", .fieldLink RX6 50 "Gatherhouse" "boy" "LGatherhouse$Role;", .fieldLink RX6 72 "Gatherhouse" "brokenLater" "I", .methodLink RX6 126 yX6_passHour, .instanceMethod yX6_passHour, .selects RX6 yX6_passHour yX6_passHour, .code yX6_passHour cX6_passHour 7 (some .int), .fieldLink RX6 63 "Gatherhouse" "hoursGone" "I", .fieldLink RX6 21 "Gatherhouse" "pots" "[LGatherhouse$Pot;", .methodLink RX6 405 yX6_endDay, .instanceMethod yX6_endDay, .selects RX6 yX6_endDay yX6_endDay, .code yX6_endDay cX6_endDay 6 none, .classLink RL 13 "java/lang/IllegalArgumentException"]
def wzL_days : List Cond := wzEL_days ++ (u_ws RX6 TX6 16 ++ (u_ws RX4 TX4 2 ++ ((vx_atS RX6 122 "java/lang/IllegalArgumentException" ["java/lang/RuntimeException", "java/lang/Exception"]).filter goodWord)))
theorem zgEL_days : wzEL_days.all goodWord = true := by decide +kernel
theorem zuL_days_X6 : ∀ w ∈ u_ws RX6 TX6 16, w ∈ wzL_days := (fun _ h => (List.mem_append_right _ (List.mem_append_left _ h)))
theorem zuL_days_X4 : ∀ w ∈ u_ws RX4 TX4 2, w ∈ wzL_days := (fun _ h => (List.mem_append_right _ (List.mem_append_right _ (List.mem_append_left _ h))))
theorem ztL_days_X6_122 : ∀ w ∈ (vx_atS RX6 122 "java/lang/IllegalArgumentException" ["java/lang/RuntimeException", "java/lang/Exception"]).filter goodWord, w ∈ wzL_days := (fun _ h => (List.mem_append_right _ (List.mem_append_right _ (List.mem_append_right _ h))))
theorem gzL_days_X6_days_126 : GoodIn wzL_days (wsV RL 126 RX6 yX6_days wzX6_days) := (goodIn_app (z_lift (goodIn_r _ [1, 2, 3, 4] rfl (by decide +kernel))) (goodIn_app (z_lift (goodIn_r wzEX6_days [5, 6, 7, 4, 8, 9, 10, 11, 12, 13, 14, 15, 16, 17, 18, 19, 20, 21, 22, 23, 24, 25, 26, 27, 28, 29, 30, 31, 32, 33, 34, 35, 36, 37, 38, 39] rfl zgEX6_days)) (goodIn_app (goodIn_sub (fun _ h => (List.mem_append_right _ (List.mem_append_left _ h))) zgU_X6) (goodIn_app (goodIn_sub (fun _ h => (List.mem_append_right _ (List.mem_append_right _ (List.mem_append_left _ h)))) zgU_X4) (goodIn_sub (fun _ h => (List.mem_append_right _ (List.mem_append_right _ (List.mem_append_right _ h)))) zgV_X6_122)))))
set_option maxHeartbeats 4000000 in
set_option maxRecDepth 100000 in
theorem zc_L_days (l : Launch) (hnt : l.stackTraces = false) (D : va_G) (G : Nat × Nat × Nat) (xo : Nat) (xg : Nat) (xp : Nat) (xq : Nat) (r1 : Nat) (r2 : Nat) (r3 : Nat) (r4 : Nat) (se : Nat) (ts : Int32) (hq : Int32) (cp : ClassId) (cq : ClassId) (ou : Nat) (cJ : ClassId) (ii : Int32) (sz : Nat) : vx_Met l yL_days wzL_days ({ frames := 8, cells := 1, slots := 6, locals := 127 }) (va_Pc [.ref xo, .int ii, .ref ou] (p_RW D G [(cp, .object "Gatherhouse$Pot"), (cq, .object "Gatherhouse$Piece"), (cJ, .long)] [(xo, .inr (11, [.ref xg, .int 0, .ref xp, .int 0, .ref xq, .int 0, .ref r1, .ref r2, .ref r3, .ref r4, .ref se, .int ts, .int hq, .int 40, .int 0, .int 0])), (xp, .inl (cp, 4, .inr (.inr (.inr (.inr (fun _ => none)))))), (xq, .inl (cq, 16, .inr (.inr (.inr (.inr (fun _ => none)))))), (r1, .inr (9, [.int 0, .int 0])), (r2, .inr (9, [.int 0, .int 0])), (r3, .inr (9, [.int 0, .int 0])), (r4, .inr (9, [.int 0, .int 0])), (ou, .inl (cJ, 1, .inr (.inl (fun _ => 0))))] sz)) (va_Qi (fun (r : Int32) (u : Nat → Int64) => match u with | fo => (inR ii 1 60 ∧ fo 0 = 0 ∧ r = 0) ∨ (¬ inR ii 1 60 ∧ r = 1)) (fun (u : Nat → Int64) (t : State) => match u with | fo => q_RW D [(cJ, .long)] [(ou, .inl (cJ, 1, .inr (.inl fo)))] (va_A [(xo, .inr (11, [.ref xg, .int 0, .ref xp, .int 0, .ref xq, .int 0, .ref r1, .ref r2, .ref r3, .ref r4, .ref se, .int ts, .int hq, .int 40, .int 0, .int 0])), (xp, .inl (cp, 4, .inr (.inr (.inr (.inr (fun _ => none)))))), (xq, .inl (cq, 16, .inr (.inr (.inr (.inr (fun _ => none)))))), (r1, .inr (9, [.int 0, .int 0])), (r2, .inr (9, [.int 0, .int 0])), (r3, .inr (9, [.int 0, .int 0])), (r4, .inr (9, [.int 0, .int 0])), (ou, .inl (cJ, 1, .inr (.inl (fun _ => 0))))] sz) t) (va_A [(xo, .inr (11, [.ref xg, .int 0, .ref xp, .int 0, .ref xq, .int 0, .ref r1, .ref r2, .ref r3, .ref r4, .ref se, .int ts, .int hq, .int 40, .int 0, .int 0])), (xp, .inl (cp, 4, .inr (.inr (.inr (.inr (fun _ => none)))))), (xq, .inl (cq, 16, .inr (.inr (.inr (.inr (fun _ => none)))))), (r1, .inr (9, [.int 0, .int 0])), (r2, .inr (9, [.int 0, .int 0])), (r3, .inr (9, [.int 0, .int 0])), (r4, .inr (9, [.int 0, .int 0])), (ou, .inl (cJ, 1, .inr (.inl (fun _ => 0))))] sz)) (vx_X (fun (_ : Unit) => True) (fun E (_ : Unit) (_ : State) => False) (va_A [(xo, .inr (11, [.ref xg, .int 0, .ref xp, .int 0, .ref xq, .int 0, .ref r1, .ref r2, .ref r3, .ref r4, .ref se, .int ts, .int hq, .int 40, .int 0, .int 0])), (xp, .inl (cp, 4, .inr (.inr (.inr (.inr (fun _ => none)))))), (xq, .inl (cq, 16, .inr (.inr (.inr (.inr (fun _ => none)))))), (r1, .inr (9, [.int 0, .int 0])), (r2, .inr (9, [.int 0, .int 0])), (r3, .inr (9, [.int 0, .int 0])), (r4, .inr (9, [.int 0, .int 0])), (ou, .inl (cJ, 1, .inr (.inl (fun _ => 0))))] sz)) 1 6 (va_A [(xo, .inr (11, [.ref xg, .int 0, .ref xp, .int 0, .ref xq, .int 0, .ref r1, .ref r2, .ref r3, .ref r4, .ref se, .int ts, .int hq, .int 40, .int 0, .int 0])), (xp, .inl (cp, 4, .inr (.inr (.inr (.inr (fun _ => none)))))), (xq, .inl (cq, 16, .inr (.inr (.inr (.inr (fun _ => none)))))), (r1, .inr (9, [.int 0, .int 0])), (r2, .inr (9, [.int 0, .int 0])), (r3, .inr (9, [.int 0, .int 0])), (r4, .inr (9, [.int 0, .int 0])), (ou, .inl (cJ, 1, .inr (.inl (fun _ => 0))))] sz) := by
  refine vx_ofWH (cc := cL_days) (maxL := 4) (ret := (some .int)) (by decide) rfl ?_
  intro p e s m args below meth c s₁ B hml hv
  obtain ⟨rfl, hsz, hP, hK, hD0, hT, hZ⟩ := hv
  have hx := B.exec
  have hb := B.bytes
  have hr := B.returns
  have hts := atoms_spec (ws := wzL_days) B.pre
  have hown : s.vm.findClass RL = some m.cls := findClass_of_methodNamed B.named
  have hlocks := B.notSynchronized
  have hxe := vx_table (x := yL_days) B (hts _ List.mem_cons_self)
  subst hsz
  have hD := hD0.self (sz := s.heap.size)
  generalize hAe : va_A [(xo, .inr (11, [.ref xg, .int 0, .ref xp, .int 0, .ref xq, .int 0, .ref r1, .ref r2, .ref r3, .ref r4, .ref se, .int ts, .int hq, .int 40, .int 0, .int 0])), (xp, .inl (cp, 4, .inr (.inr (.inr (.inr (fun _ => none)))))), (xq, .inl (cq, 16, .inr (.inr (.inr (.inr (fun _ => none)))))), (r1, .inr (9, [.int 0, .int 0])), (r2, .inr (9, [.int 0, .int 0])), (r3, .inr (9, [.int 0, .int 0])), (r4, .inr (9, [.int 0, .int 0])), (ou, .inl (cJ, 1, .inr (.inl (fun _ => 0))))] s.heap.size = A at hD hZ ⊢
  have hA : ∀ q : Nat, s.heap.size ≤ q → A q := fun q h => by rw [← hAe]; exact Or.inr h
  have hS : va_S A s.heap s.heap [] := va_S.rf
  have hl := lv_entry ([.ref xo, .int ii, .ref ou]) (n := 4) (Nat.le_of_ble_eq_true rfl)
  rw [lg_entry_eq]
  generalize (lg_sl ([.ref xo, .int ii, .ref ou]) ++ List.replicate (4 - (lg_sl ([.ref xo, .int ii, .ref ou])).length) Slot.unset).toArray = ls at hl ⊢
  have hl : lv_has ls 4 [(0, .ref xo), (1, .int ii), (2, .ref ou)] := hl
  refine lv_aload_n hx hb dL_days_0 rfl (lv_at hl 2 rfl) ?_
  refine lv_iconst (v := 0) hx hb dL_days_1 (by decide) ?_
  refine lv_aload_n hx hb dL_days_2 rfl (lv_at hl 0 rfl) ?_
  refine lv_iload_n hx hb dL_days_3 rfl (lv_at hl 1 rfl) ?_
  have hFc := va_free (wc := [(xo, .inr (11, [.ref xg, .int 0, .ref xp, .int 0, .ref xq, .int 0, .ref r1, .ref r2, .ref r3, .ref r4, .ref se, .int ts, .int hq, .int 40, .int 0, .int 0])), (xp, .inl (cp, 4, .inr (.inr (.inr (.inr (fun _ => none)))))), (xq, .inl (cq, 16, .inr (.inr (.inr (.inr (fun _ => none)))))), (r1, .inr (9, [.int 0, .int 0])), (r2, .inr (9, [.int 0, .int 0])), (r3, .inr (9, [.int 0, .int 0])), (r4, .inr (9, [.int 0, .int 0]))]) hD hS hA [0, 1, 2, 3, 4, 5, 6] rfl
  refine vx_calli (vx_runV (As := [.int ii]) (rest := [.int 0, .ref ou]) ⟨hx, hb, hml, hown, hts⟩ (zc_X6_days l hnt D G xo xg xp xq r1 r2 r3 r4 se ts hq cp cq ii s.heap.size) (cwV 1 hts gzL_days_X6_days_126 rfl rfl rfl (by decide +kernel) ⟨(Nat.le_of_ble_eq_true rfl), (Nat.le_of_ble_eq_true rfl)⟩) ⟨p_RW_blind, va_recv hK hP (ci := 11) (q0 := 0) rfl rfl, (p_RW_at (tc := [(cp, .object "Gatherhouse$Pot"), (cq, .object "Gatherhouse$Piece")]) (wc := [(xo, .inr (11, [.ref xg, .int 0, .ref xp, .int 0, .ref xq, .int 0, .ref r1, .ref r2, .ref r3, .ref r4, .ref se, .int ts, .int hq, .int 40, .int 0, .int 0])), (xp, .inl (cp, 4, .inr (.inr (.inr (.inr (fun _ => none)))))), (xq, .inl (cq, 16, .inr (.inr (.inr (.inr (fun _ => none)))))), (r1, .inr (9, [.int 0, .int 0])), (r2, .inr (9, [.int 0, .int 0])), (r3, .inr (9, [.int 0, .int 0])), (r4, .inr (9, [.int 0, .int 0]))]) hP hK hD hS hA hT hZ [0, 1, 2, 3, 4, 5, 6] [0, 1] rfl rfl (by decide) rfl [.ref xo, .int ii])⟩ rfl rfl hl.1 rfl (lv_room (Nat.le_of_ble_eq_true rfl)) dL_days_4 ⟨(Nat.le_of_ble_eq_true rfl), (Nat.le_of_ble_eq_true rfl)⟩) hS (fun q _ h => hFc q h) hFc (fun q _ h => hFc q h) (fun E ce q9 u t H locs ht hvm hpx hBX hz1 hk1 hS hce hcv hcl => ?_) (fun r_779 u t H locs ht hvm w_780 hB hz1 hk1 hS => ?_)
  · have hBX : (E = "java/lang/IllegalArgumentException" ∧ (¬ inR ii 1 60)) := hBX
    rcases hBX with ⟨rfl, c_781⟩
    refine vx_catch (own := RL) (name := "java/lang/IllegalArgumentException") hown ([] : List ExceptionTableEntry) ⟨0, 9, 12, 13⟩ ([⟨0, 9, 15, 41⟩, ⟨0, 9, 18, 15⟩] : List ExceptionTableEntry) (by rw [hxe]; rfl) (fun _ h => absurd h List.not_mem_nil) (by decide) (by decide) (hts (.classLink RL 13 "java/lang/IllegalArgumentException") (by decide +kernel)) (va_Nw.use rfl (hT.2.2.1 ("java/lang/IllegalArgumentException", "java/lang/IllegalArgumentException") (by decide +kernel))) hce hcv hcl ?_
    obtain ⟨hP, hD, hK⟩ := q_join (D := D) (wc := [(xo, .inr (11, [.ref xg, .int 0, .ref xp, .int 0, .ref xq, .int 0, .ref r1, .ref r2, .ref r3, .ref r4, .ref se, .int ts, .int hq, .int 40, .int 0, .int 0])), (xp, .inl (cp, 4, .inr (.inr (.inr (.inr (fun _ => none)))))), (xq, .inl (cq, 16, .inr (.inr (.inr (.inr (fun _ => none)))))), (r1, .inr (9, [.int 0, .int 0])), (r2, .inr (9, [.int 0, .int 0])), (r3, .inr (9, [.int 0, .int 0])), (r4, .inr (9, [.int 0, .int 0]))]) (wr := [(ou, .inl (cJ, 1, .inr (.inl (fun _ => 0))))]) (w1 := []) (tyr := [(cp, .object "Gatherhouse$Pot"), (cq, .object "Gatherhouse$Piece"), (cJ, .long)]) (ty1 := []) hP hD hK [0, 1, 2, 3, 4, 5, 6] [7] [0, 1, 2] rfl rfl (by decide) (by decide) rfl hFc hk1 ht hvm (q_none hK hvm)
    have hP : va_P D vwCl [(ou, .inl (cJ, 1, .inr (.inl (fun _ => 0))))] H := hP
    have hD : va_D A [(ou, .inl (cJ, 1, .inr (.inl (fun _ => 0))))] := hD
    have hK : va_K D vwCl [(cp, .object "Gatherhouse$Pot"), (cq, .object "Gatherhouse$Piece"), (cJ, .long)] s := hK
    refine W.eq (g2 := F0 m 12 ls [.ref q9]) rfl ?_
    refine lv_astore_n (lv' := [(3, .ref q9), (0, .ref xo), (1, .int ii), (2, .ref ou)]) hx hb dL_days_12 rfl hl (by decide) rfl (fun ls hl => ?_)
    refine lv_iconst (v := 1) hx hb dL_days_13 (by decide) ?_
    refine vx_ret ?_
    exact W.iret (v := 1) hx hb hr (fun t ht hW => ⟨⟨1, (fun _ => 0), rfl, (Or.inr (⟨(by first | assumption | exact inR_1 (by assumption) (by assumption) | exact inR_2 (by assumption) (by assumption) | exact inR_3 (by assumption) | exact inR_4 (by assumption) | exact inR_5 (by assumption) | exact ⟨by assumption, by assumption, by assumption, by assumption⟩ | exact ⟨by assumption, by assumption, by assumption⟩ | exact (fun q => absurd q.1 (by assumption)) | exact (fun q => absurd q.2.1 (by assumption)) | exact (fun q => absurd q.2.2 (by assumption)) | exact (fun q => absurd q.2.2.1 (by assumption)) | exact (fun q => absurd q.2.2.2 (by assumption)) | exact isRole_no (by assumption) (by assumption) (by assumption) (by assumption) | exact isRole_nb (by assumption) (by assumption) (by assumption) (by assumption) | exact isRole_out (by assumption) | exact enc_use (by assumption) (by assumption) (by assumption) | exact enc_103 (by assumption) | exact enc_103 (Eq.symm (by assumption)) | exact enc_115 (Eq.symm (by assumption)) | exact enc_102 (Eq.symm (by assumption)) | exact enc_98 (Eq.symm (by assumption)) | exact isRole_nc (by assumption) (by assumption) (by assumption) (by assumption) | exact enc_115 (by assumption) | exact enc_102 (by assumption) | exact enc_98 (by assumption) | exact Or.inr (by assumption) | rfl | exact Or.inl (by assumption) | exact Or.inr (Or.inl (by assumption)) | exact Or.inr (Or.inr (Or.inl (by assumption))) | exact Or.inr (Or.inr (Or.inr (by assumption))) | decide), rfl⟩)), q_RW_mk hP hK hD [0] [2] rfl rfl (by decide) rfl ht hW.alike⟩, hS.F ht⟩) hS.2.2 dL_days_14
  · obtain ⟨hP, hD, hK⟩ := q_join (D := D) (wc := [(xo, .inr (11, [.ref xg, .int 0, .ref xp, .int 0, .ref xq, .int 0, .ref r1, .ref r2, .ref r3, .ref r4, .ref se, .int ts, .int hq, .int 40, .int 0, .int 0])), (xp, .inl (cp, 4, .inr (.inr (.inr (.inr (fun _ => none)))))), (xq, .inl (cq, 16, .inr (.inr (.inr (.inr (fun _ => none)))))), (r1, .inr (9, [.int 0, .int 0])), (r2, .inr (9, [.int 0, .int 0])), (r3, .inr (9, [.int 0, .int 0])), (r4, .inr (9, [.int 0, .int 0]))]) (wr := [(ou, .inl (cJ, 1, .inr (.inl (fun _ => 0))))]) (w1 := []) (tyr := [(cp, .object "Gatherhouse$Pot"), (cq, .object "Gatherhouse$Piece"), (cJ, .long)]) (ty1 := []) hP hD hK [0, 1, 2, 3, 4, 5, 6] [7] [0, 1, 2] rfl rfl (by decide) (by decide) rfl hFc hk1 ht hvm (q_none hK hvm)
    have hP : va_P D vwCl [(ou, .inl (cJ, 1, .inr (.inl (fun _ => 0))))] H := hP
    have hD : va_D A [(ou, .inl (cJ, 1, .inr (.inl (fun _ => 0))))] := hD
    have hK : va_K D vwCl [(cp, .object "Gatherhouse$Pot"), (cq, .object "Gatherhouse$Piece"), (cJ, .long)] s := hK
    refine W.widen (k := 1) (n := 6) (Nat.le_of_ble_eq_true rfl) (Nat.le_of_ble_eq_true rfl) ?_
    obtain ⟨c_782, rfl⟩ := w_780
    refine lv_i2l (v := 0) hx hb dL_days_7 (by decide) ?_
    refine va_last (D := D) (cl := vwCl) hx hb hK hP hD hS 0 2 rfl rfl (vp_in_nI (n := 0) (N := 1) (by decide) (by decide)) dL_days_8 (fun H locs hP hD hS => ?_)
    have hP : va_P D vwCl [(ou, .inl (cJ, 1, .inr (.inl (vp_updL (fun _ => 0) (0 : Int32).toNatClampNeg 0))))] H := hP
    have hD : va_D A [(ou, .inl (cJ, 1, .inr (.inl (vp_updL (fun _ => 0) (0 : Int32).toNatClampNeg 0))))] := hD
    refine lv_goto (tgt := 21) hx hb dL_days_9 (by decide) ?_
    refine lv_iconst (v := 0) hx hb dL_days_21 (by decide) ?_
    refine vx_ret ?_
    exact W.iret (v := 0) hx hb hr (fun t ht hW => ⟨⟨0, (vp_updL (fun _ => 0) (0 : Int32).toNatClampNeg 0), rfl, (Or.inl (⟨(by first | assumption | exact inR_1 (by assumption) (by assumption) | exact inR_2 (by assumption) (by assumption) | exact inR_3 (by assumption) | exact inR_4 (by assumption) | exact inR_5 (by assumption) | exact ⟨by assumption, by assumption, by assumption, by assumption⟩ | exact ⟨by assumption, by assumption, by assumption⟩ | exact (fun q => absurd q.1 (by assumption)) | exact (fun q => absurd q.2.1 (by assumption)) | exact (fun q => absurd q.2.2 (by assumption)) | exact (fun q => absurd q.2.2.1 (by assumption)) | exact (fun q => absurd q.2.2.2 (by assumption)) | exact isRole_no (by assumption) (by assumption) (by assumption) (by assumption) | exact isRole_nb (by assumption) (by assumption) (by assumption) (by assumption) | exact isRole_out (by assumption) | exact enc_use (by assumption) (by assumption) (by assumption) | exact enc_103 (by assumption) | exact enc_103 (Eq.symm (by assumption)) | exact enc_115 (Eq.symm (by assumption)) | exact enc_102 (Eq.symm (by assumption)) | exact enc_98 (Eq.symm (by assumption)) | exact isRole_nc (by assumption) (by assumption) (by assumption) (by assumption) | exact enc_115 (by assumption) | exact enc_102 (by assumption) | exact enc_98 (by assumption) | exact Or.inr (by assumption) | rfl | exact Or.inl (by assumption) | exact Or.inr (Or.inl (by assumption)) | exact Or.inr (Or.inr (Or.inl (by assumption))) | exact Or.inr (Or.inr (Or.inr (by assumption))) | decide), (by first | assumption | exact inR_1 (by assumption) (by assumption) | exact inR_2 (by assumption) (by assumption) | exact inR_3 (by assumption) | exact inR_4 (by assumption) | exact inR_5 (by assumption) | exact ⟨by assumption, by assumption, by assumption, by assumption⟩ | exact ⟨by assumption, by assumption, by assumption⟩ | exact (fun q => absurd q.1 (by assumption)) | exact (fun q => absurd q.2.1 (by assumption)) | exact (fun q => absurd q.2.2 (by assumption)) | exact (fun q => absurd q.2.2.1 (by assumption)) | exact (fun q => absurd q.2.2.2 (by assumption)) | exact isRole_no (by assumption) (by assumption) (by assumption) (by assumption) | exact isRole_nb (by assumption) (by assumption) (by assumption) (by assumption) | exact isRole_out (by assumption) | exact enc_use (by assumption) (by assumption) (by assumption) | exact enc_103 (by assumption) | exact enc_103 (Eq.symm (by assumption)) | exact enc_115 (Eq.symm (by assumption)) | exact enc_102 (Eq.symm (by assumption)) | exact enc_98 (Eq.symm (by assumption)) | exact isRole_nc (by assumption) (by assumption) (by assumption) (by assumption) | exact enc_115 (by assumption) | exact enc_102 (by assumption) | exact enc_98 (by assumption) | exact Or.inr (by assumption) | rfl | exact Or.inl (by assumption) | exact Or.inr (Or.inl (by assumption)) | exact Or.inr (Or.inr (Or.inl (by assumption))) | exact Or.inr (Or.inr (Or.inr (by assumption))) | decide), rfl⟩)), q_RW_mk hP hK hD [0] [2] rfl rfl (by decide) rfl ht hW.alike⟩, hS.F ht⟩) hS.2.2 dL_days_22
theorem dL_pass_0 : decode cL_pass 0 = .ok (.aload_n 2, 1) := by decide +kernel
theorem dL_pass_1 : decode cL_pass 1 = .ok (.iconst 0, 1) := by decide +kernel
theorem dL_pass_2 : decode cL_pass 2 = .ok (.aload_n 0, 1) := by decide +kernel
theorem dL_pass_3 : decode cL_pass 3 = .ok (.iload_n 1, 1) := by decide +kernel
theorem dL_pass_4 : decode cL_pass 4 = .ok (.invokevirtual 43, 3) := by decide +kernel
theorem dL_pass_12 : decode cL_pass 12 = .ok (.astore_n 3, 1) := by decide +kernel
theorem dL_pass_13 : decode cL_pass 13 = .ok (.iconst 1, 1) := by decide +kernel
theorem dL_pass_14 : decode cL_pass 14 = .ok (.ireturn, 1) := by decide +kernel
theorem dL_pass_7 : decode cL_pass 7 = .ok (.i2l, 1) := by decide +kernel
theorem dL_pass_8 : decode cL_pass 8 = .ok (.lastore, 1) := by decide +kernel
theorem dL_pass_9 : decode cL_pass 9 = .ok (.goto 6, 3) := by decide +kernel
theorem dL_pass_15 : decode cL_pass 15 = .ok (.iconst 0, 1) := by decide +kernel
theorem dL_pass_16 : decode cL_pass 16 = .ok (.ireturn, 1) := by decide +kernel
def wzEL_pass : List Cond := [.codeWith yL_pass cL_pass 4 (some .int) [(0, 9, 12, 13)], .methodLink RL 43 yX6_pass, .instanceMethod yX6_pass, .selects RX6 yX6_pass yX6_pass, .initialized RX6, .code yX6_pass cX6_pass 4 (some .int), .methodLink RX6 75 yX6_checkRange, .static yX6_checkRange, .code yX6_checkRange cX6_checkRange 3 none, .classLink RX6 118 "java/lang/IllegalArgumentException", .initialized "java/lang/IllegalArgumentException", .methodLink RX6 130 yX6_passSecond, .instanceMethod yX6_passSecond, .selects RX6 yX6_passSecond yX6_passSecond, .code yX6_passSecond cX6_passSecond 6 (some .int), .fieldLink RX6 60 "Gatherhouse" "secondsGone" "I", .fieldLink RX6 40 "Gatherhouse" "gatherer" "LGatherhouse$Role;", .code yX4_passSecond cX4_passSecond 1 none, .fieldLink RX4 7 "Gatherhouse$Role" "busy" "I", .methodLink RX4 16 Lib.Math.max.name, .static Lib.Math.max.name, .initialized "java/lang/Math", .code Lib.Math.max.name Lib.Math.max.code 2 (some .int), .initialized RX4, .instanceMethod yX4_passSecond, .selects RX4 yX4_passSecond yX4_passSecond, .fieldLink RX6 44 "Gatherhouse" "servitor" "LGatherhouse$Role;", .fieldLink RX6 47 "Gatherhouse" "gaffer" "LGatherhouse$Role;", .fieldLink RX6 50 "Gatherhouse" "boy" "LGatherhouse$Role;", .fieldLink RX6 30 "Gatherhouse" "pieces" "[LGatherhouse$Piece;", .classLink RL 13 "java/lang/IllegalArgumentException"]
def wzL_pass : List Cond := wzEL_pass ++ (u_ws RX6 TX6 16 ++ (u_ws RX4 TX4 2 ++ ((vx_atS RX6 122 "java/lang/IllegalArgumentException" ["java/lang/RuntimeException", "java/lang/Exception"]).filter goodWord)))
theorem zgEL_pass : wzEL_pass.all goodWord = true := by decide +kernel
theorem zuL_pass_X6 : ∀ w ∈ u_ws RX6 TX6 16, w ∈ wzL_pass := (fun _ h => (List.mem_append_right _ (List.mem_append_left _ h)))
theorem zuL_pass_X4 : ∀ w ∈ u_ws RX4 TX4 2, w ∈ wzL_pass := (fun _ h => (List.mem_append_right _ (List.mem_append_right _ (List.mem_append_left _ h))))
theorem ztL_pass_X6_122 : ∀ w ∈ (vx_atS RX6 122 "java/lang/IllegalArgumentException" ["java/lang/RuntimeException", "java/lang/Exception"]).filter goodWord, w ∈ wzL_pass := (fun _ h => (List.mem_append_right _ (List.mem_append_right _ (List.mem_append_right _ h))))
theorem gzL_pass_X6_pass_43 : GoodIn wzL_pass (wsV RL 43 RX6 yX6_pass wzX6_pass) := (goodIn_app (z_lift (goodIn_r _ [1, 2, 3, 4] rfl (by decide +kernel))) (goodIn_app (z_lift (goodIn_r wzEX6_pass [5, 6, 7, 4, 8, 9, 10, 11, 12, 13, 14, 15, 16, 17, 18, 19, 20, 21, 22, 23, 24, 25, 26, 27, 28, 29] rfl zgEX6_pass)) (goodIn_app (goodIn_sub (fun _ h => (List.mem_append_right _ (List.mem_append_left _ h))) zgU_X6) (goodIn_app (goodIn_sub (fun _ h => (List.mem_append_right _ (List.mem_append_right _ (List.mem_append_left _ h)))) zgU_X4) (goodIn_sub (fun _ h => (List.mem_append_right _ (List.mem_append_right _ (List.mem_append_right _ h)))) zgV_X6_122)))))
set_option maxHeartbeats 4000000 in
set_option maxRecDepth 100000 in
theorem zc_L_pass (l : Launch) (hnt : l.stackTraces = false) (D : va_G) (G : Nat × Nat × Nat) (xo : Nat) (xg : Nat) (xp : Nat) (xq : Nat) (r1 : Nat) (r2 : Nat) (r3 : Nat) (r4 : Nat) (se : Nat) (ts : Int32) (hq : Int32) (cq : ClassId) (ou : Nat) (cJ : ClassId) (ii : Int32) (sz : Nat) : vx_Met l yL_pass wzL_pass ({ frames := 8, cells := 1, slots := 6, locals := 127 }) (va_Pc [.ref xo, .int ii, .ref ou] (p_RW D G [(cq, .object "Gatherhouse$Piece"), (cJ, .long)] [(xo, .inr (11, [.ref xg, .int 0, .ref xp, .int 0, .ref xq, .int 0, .ref r1, .ref r2, .ref r3, .ref r4, .ref se, .int ts, .int hq, .int 40, .int 0, .int 0])), (xq, .inl (cq, 16, .inr (.inr (.inr (.inr (fun _ => none)))))), (r1, .inr (9, [.int 0, .int 0])), (r2, .inr (9, [.int 0, .int 0])), (r3, .inr (9, [.int 0, .int 0])), (r4, .inr (9, [.int 0, .int 0])), (ou, .inl (cJ, 1, .inr (.inl (fun _ => 0))))] sz)) (va_Qi (fun (r : Int32) (u : Nat → Int64) => match u with | fo => (inR ii 1 600 ∧ fo 0 = 0 ∧ r = 0) ∨ (¬ inR ii 1 600 ∧ r = 1)) (fun (u : Nat → Int64) (t : State) => match u with | fo => q_RW D [(cJ, .long)] [(ou, .inl (cJ, 1, .inr (.inl fo)))] (va_A [(xo, .inr (11, [.ref xg, .int 0, .ref xp, .int 0, .ref xq, .int 0, .ref r1, .ref r2, .ref r3, .ref r4, .ref se, .int ts, .int hq, .int 40, .int 0, .int 0])), (xq, .inl (cq, 16, .inr (.inr (.inr (.inr (fun _ => none)))))), (r1, .inr (9, [.int 0, .int 0])), (r2, .inr (9, [.int 0, .int 0])), (r3, .inr (9, [.int 0, .int 0])), (r4, .inr (9, [.int 0, .int 0])), (ou, .inl (cJ, 1, .inr (.inl (fun _ => 0))))] sz) t) (va_A [(xo, .inr (11, [.ref xg, .int 0, .ref xp, .int 0, .ref xq, .int 0, .ref r1, .ref r2, .ref r3, .ref r4, .ref se, .int ts, .int hq, .int 40, .int 0, .int 0])), (xq, .inl (cq, 16, .inr (.inr (.inr (.inr (fun _ => none)))))), (r1, .inr (9, [.int 0, .int 0])), (r2, .inr (9, [.int 0, .int 0])), (r3, .inr (9, [.int 0, .int 0])), (r4, .inr (9, [.int 0, .int 0])), (ou, .inl (cJ, 1, .inr (.inl (fun _ => 0))))] sz)) (vx_X (fun (_ : Unit) => True) (fun E (_ : Unit) (_ : State) => False) (va_A [(xo, .inr (11, [.ref xg, .int 0, .ref xp, .int 0, .ref xq, .int 0, .ref r1, .ref r2, .ref r3, .ref r4, .ref se, .int ts, .int hq, .int 40, .int 0, .int 0])), (xq, .inl (cq, 16, .inr (.inr (.inr (.inr (fun _ => none)))))), (r1, .inr (9, [.int 0, .int 0])), (r2, .inr (9, [.int 0, .int 0])), (r3, .inr (9, [.int 0, .int 0])), (r4, .inr (9, [.int 0, .int 0])), (ou, .inl (cJ, 1, .inr (.inl (fun _ => 0))))] sz)) 1 6 (va_A [(xo, .inr (11, [.ref xg, .int 0, .ref xp, .int 0, .ref xq, .int 0, .ref r1, .ref r2, .ref r3, .ref r4, .ref se, .int ts, .int hq, .int 40, .int 0, .int 0])), (xq, .inl (cq, 16, .inr (.inr (.inr (.inr (fun _ => none)))))), (r1, .inr (9, [.int 0, .int 0])), (r2, .inr (9, [.int 0, .int 0])), (r3, .inr (9, [.int 0, .int 0])), (r4, .inr (9, [.int 0, .int 0])), (ou, .inl (cJ, 1, .inr (.inl (fun _ => 0))))] sz) := by
  refine vx_ofWH (cc := cL_pass) (maxL := 4) (ret := (some .int)) (by decide) rfl ?_
  intro p e s m args below meth c s₁ B hml hv
  obtain ⟨rfl, hsz, hP, hK, hD0, hT, hZ⟩ := hv
  have hx := B.exec
  have hb := B.bytes
  have hr := B.returns
  have hts := atoms_spec (ws := wzL_pass) B.pre
  have hown : s.vm.findClass RL = some m.cls := findClass_of_methodNamed B.named
  have hlocks := B.notSynchronized
  have hxe := vx_table (x := yL_pass) B (hts _ List.mem_cons_self)
  subst hsz
  have hD := hD0.self (sz := s.heap.size)
  generalize hAe : va_A [(xo, .inr (11, [.ref xg, .int 0, .ref xp, .int 0, .ref xq, .int 0, .ref r1, .ref r2, .ref r3, .ref r4, .ref se, .int ts, .int hq, .int 40, .int 0, .int 0])), (xq, .inl (cq, 16, .inr (.inr (.inr (.inr (fun _ => none)))))), (r1, .inr (9, [.int 0, .int 0])), (r2, .inr (9, [.int 0, .int 0])), (r3, .inr (9, [.int 0, .int 0])), (r4, .inr (9, [.int 0, .int 0])), (ou, .inl (cJ, 1, .inr (.inl (fun _ => 0))))] s.heap.size = A at hD hZ ⊢
  have hA : ∀ q : Nat, s.heap.size ≤ q → A q := fun q h => by rw [← hAe]; exact Or.inr h
  have hS : va_S A s.heap s.heap [] := va_S.rf
  have hl := lv_entry ([.ref xo, .int ii, .ref ou]) (n := 4) (Nat.le_of_ble_eq_true rfl)
  rw [lg_entry_eq]
  generalize (lg_sl ([.ref xo, .int ii, .ref ou]) ++ List.replicate (4 - (lg_sl ([.ref xo, .int ii, .ref ou])).length) Slot.unset).toArray = ls at hl ⊢
  have hl : lv_has ls 4 [(0, .ref xo), (1, .int ii), (2, .ref ou)] := hl
  refine lv_aload_n hx hb dL_pass_0 rfl (lv_at hl 2 rfl) ?_
  refine lv_iconst (v := 0) hx hb dL_pass_1 (by decide) ?_
  refine lv_aload_n hx hb dL_pass_2 rfl (lv_at hl 0 rfl) ?_
  refine lv_iload_n hx hb dL_pass_3 rfl (lv_at hl 1 rfl) ?_
  have hFc := va_free (wc := [(xo, .inr (11, [.ref xg, .int 0, .ref xp, .int 0, .ref xq, .int 0, .ref r1, .ref r2, .ref r3, .ref r4, .ref se, .int ts, .int hq, .int 40, .int 0, .int 0])), (xq, .inl (cq, 16, .inr (.inr (.inr (.inr (fun _ => none)))))), (r1, .inr (9, [.int 0, .int 0])), (r2, .inr (9, [.int 0, .int 0])), (r3, .inr (9, [.int 0, .int 0])), (r4, .inr (9, [.int 0, .int 0]))]) hD hS hA [0, 1, 2, 3, 4, 5] rfl
  refine vx_calli (vx_runV (As := [.int ii]) (rest := [.int 0, .ref ou]) ⟨hx, hb, hml, hown, hts⟩ (zc_X6_pass l hnt D G xo xg xp xq r1 r2 r3 r4 se ts hq cq ii s.heap.size) (cwV 1 hts gzL_pass_X6_pass_43 rfl rfl rfl (by decide +kernel) ⟨(Nat.le_of_ble_eq_true rfl), (Nat.le_of_ble_eq_true rfl)⟩) ⟨p_RW_blind, va_recv hK hP (ci := 11) (q0 := 0) rfl rfl, (p_RW_at (tc := [(cq, .object "Gatherhouse$Piece")]) (wc := [(xo, .inr (11, [.ref xg, .int 0, .ref xp, .int 0, .ref xq, .int 0, .ref r1, .ref r2, .ref r3, .ref r4, .ref se, .int ts, .int hq, .int 40, .int 0, .int 0])), (xq, .inl (cq, 16, .inr (.inr (.inr (.inr (fun _ => none)))))), (r1, .inr (9, [.int 0, .int 0])), (r2, .inr (9, [.int 0, .int 0])), (r3, .inr (9, [.int 0, .int 0])), (r4, .inr (9, [.int 0, .int 0]))]) hP hK hD hS hA hT hZ [0, 1, 2, 3, 4, 5] [0] rfl rfl (by decide) rfl [.ref xo, .int ii])⟩ rfl rfl hl.1 rfl (lv_room (Nat.le_of_ble_eq_true rfl)) dL_pass_4 ⟨(Nat.le_of_ble_eq_true rfl), (Nat.le_of_ble_eq_true rfl)⟩) hS (fun q _ h => hFc q h) hFc (fun q _ h => hFc q h) (fun E ce q9 u t H locs ht hvm hpx hBX hz1 hk1 hS hce hcv hcl => ?_) (fun r_783 u t H locs ht hvm w_784 hB hz1 hk1 hS => ?_)
  · have hBX : (E = "java/lang/IllegalArgumentException" ∧ (¬ inR ii 1 600)) := hBX
    rcases hBX with ⟨rfl, c_785⟩
    refine vx_catch (own := RL) (name := "java/lang/IllegalArgumentException") hown ([] : List ExceptionTableEntry) ⟨0, 9, 12, 13⟩ ([] : List ExceptionTableEntry) (by rw [hxe]; rfl) (fun _ h => absurd h List.not_mem_nil) (by decide) (by decide) (hts (.classLink RL 13 "java/lang/IllegalArgumentException") (by decide +kernel)) (va_Nw.use rfl (hT.2.2.1 ("java/lang/IllegalArgumentException", "java/lang/IllegalArgumentException") (by decide +kernel))) hce hcv hcl ?_
    obtain ⟨hP, hD, hK⟩ := q_join (D := D) (wc := [(xo, .inr (11, [.ref xg, .int 0, .ref xp, .int 0, .ref xq, .int 0, .ref r1, .ref r2, .ref r3, .ref r4, .ref se, .int ts, .int hq, .int 40, .int 0, .int 0])), (xq, .inl (cq, 16, .inr (.inr (.inr (.inr (fun _ => none)))))), (r1, .inr (9, [.int 0, .int 0])), (r2, .inr (9, [.int 0, .int 0])), (r3, .inr (9, [.int 0, .int 0])), (r4, .inr (9, [.int 0, .int 0]))]) (wr := [(ou, .inl (cJ, 1, .inr (.inl (fun _ => 0))))]) (w1 := []) (tyr := [(cq, .object "Gatherhouse$Piece"), (cJ, .long)]) (ty1 := []) hP hD hK [0, 1, 2, 3, 4, 5] [6] [0, 1] rfl rfl (by decide) (by decide) rfl hFc hk1 ht hvm (q_none hK hvm)
    have hP : va_P D vwCl [(ou, .inl (cJ, 1, .inr (.inl (fun _ => 0))))] H := hP
    have hD : va_D A [(ou, .inl (cJ, 1, .inr (.inl (fun _ => 0))))] := hD
    have hK : va_K D vwCl [(cq, .object "Gatherhouse$Piece"), (cJ, .long)] s := hK
    refine W.eq (g2 := F0 m 12 ls [.ref q9]) rfl ?_
    refine lv_astore_n (lv' := [(3, .ref q9), (0, .ref xo), (1, .int ii), (2, .ref ou)]) hx hb dL_pass_12 rfl hl (by decide) rfl (fun ls hl => ?_)
    refine lv_iconst (v := 1) hx hb dL_pass_13 (by decide) ?_
    refine vx_ret ?_
    exact W.iret (v := 1) hx hb hr (fun t ht hW => ⟨⟨1, (fun _ => 0), rfl, (Or.inr (⟨(by first | assumption | exact inR_1 (by assumption) (by assumption) | exact inR_2 (by assumption) (by assumption) | exact inR_3 (by assumption) | exact inR_4 (by assumption) | exact inR_5 (by assumption) | exact ⟨by assumption, by assumption, by assumption, by assumption⟩ | exact ⟨by assumption, by assumption, by assumption⟩ | exact (fun q => absurd q.1 (by assumption)) | exact (fun q => absurd q.2.1 (by assumption)) | exact (fun q => absurd q.2.2 (by assumption)) | exact (fun q => absurd q.2.2.1 (by assumption)) | exact (fun q => absurd q.2.2.2 (by assumption)) | exact isRole_no (by assumption) (by assumption) (by assumption) (by assumption) | exact isRole_nb (by assumption) (by assumption) (by assumption) (by assumption) | exact isRole_out (by assumption) | exact enc_use (by assumption) (by assumption) (by assumption) | exact enc_103 (by assumption) | exact enc_103 (Eq.symm (by assumption)) | exact enc_115 (Eq.symm (by assumption)) | exact enc_102 (Eq.symm (by assumption)) | exact enc_98 (Eq.symm (by assumption)) | exact isRole_nc (by assumption) (by assumption) (by assumption) (by assumption) | exact enc_115 (by assumption) | exact enc_102 (by assumption) | exact enc_98 (by assumption) | exact Or.inr (by assumption) | rfl | exact Or.inl (by assumption) | exact Or.inr (Or.inl (by assumption)) | exact Or.inr (Or.inr (Or.inl (by assumption))) | exact Or.inr (Or.inr (Or.inr (by assumption))) | decide), rfl⟩)), q_RW_mk hP hK hD [0] [1] rfl rfl (by decide) rfl ht hW.alike⟩, hS.F ht⟩) hS.2.2 dL_pass_14
  · obtain ⟨hP, hD, hK⟩ := q_join (D := D) (wc := [(xo, .inr (11, [.ref xg, .int 0, .ref xp, .int 0, .ref xq, .int 0, .ref r1, .ref r2, .ref r3, .ref r4, .ref se, .int ts, .int hq, .int 40, .int 0, .int 0])), (xq, .inl (cq, 16, .inr (.inr (.inr (.inr (fun _ => none)))))), (r1, .inr (9, [.int 0, .int 0])), (r2, .inr (9, [.int 0, .int 0])), (r3, .inr (9, [.int 0, .int 0])), (r4, .inr (9, [.int 0, .int 0]))]) (wr := [(ou, .inl (cJ, 1, .inr (.inl (fun _ => 0))))]) (w1 := []) (tyr := [(cq, .object "Gatherhouse$Piece"), (cJ, .long)]) (ty1 := []) hP hD hK [0, 1, 2, 3, 4, 5] [6] [0, 1] rfl rfl (by decide) (by decide) rfl hFc hk1 ht hvm (q_none hK hvm)
    have hP : va_P D vwCl [(ou, .inl (cJ, 1, .inr (.inl (fun _ => 0))))] H := hP
    have hD : va_D A [(ou, .inl (cJ, 1, .inr (.inl (fun _ => 0))))] := hD
    have hK : va_K D vwCl [(cq, .object "Gatherhouse$Piece"), (cJ, .long)] s := hK
    refine W.widen (k := 1) (n := 6) (Nat.le_of_ble_eq_true rfl) (Nat.le_of_ble_eq_true rfl) ?_
    obtain ⟨c_786, rfl⟩ := w_784
    refine lv_i2l (v := 0) hx hb dL_pass_7 (by decide) ?_
    refine va_last (D := D) (cl := vwCl) hx hb hK hP hD hS 0 1 rfl rfl (vp_in_nI (n := 0) (N := 1) (by decide) (by decide)) dL_pass_8 (fun H locs hP hD hS => ?_)
    have hP : va_P D vwCl [(ou, .inl (cJ, 1, .inr (.inl (vp_updL (fun _ => 0) (0 : Int32).toNatClampNeg 0))))] H := hP
    have hD : va_D A [(ou, .inl (cJ, 1, .inr (.inl (vp_updL (fun _ => 0) (0 : Int32).toNatClampNeg 0))))] := hD
    refine lv_goto (tgt := 15) hx hb dL_pass_9 (by decide) ?_
    refine lv_iconst (v := 0) hx hb dL_pass_15 (by decide) ?_
    refine vx_ret ?_
    exact W.iret (v := 0) hx hb hr (fun t ht hW => ⟨⟨0, (vp_updL (fun _ => 0) (0 : Int32).toNatClampNeg 0), rfl, (Or.inl (⟨(by first | assumption | exact inR_1 (by assumption) (by assumption) | exact inR_2 (by assumption) (by assumption) | exact inR_3 (by assumption) | exact inR_4 (by assumption) | exact inR_5 (by assumption) | exact ⟨by assumption, by assumption, by assumption, by assumption⟩ | exact ⟨by assumption, by assumption, by assumption⟩ | exact (fun q => absurd q.1 (by assumption)) | exact (fun q => absurd q.2.1 (by assumption)) | exact (fun q => absurd q.2.2 (by assumption)) | exact (fun q => absurd q.2.2.1 (by assumption)) | exact (fun q => absurd q.2.2.2 (by assumption)) | exact isRole_no (by assumption) (by assumption) (by assumption) (by assumption) | exact isRole_nb (by assumption) (by assumption) (by assumption) (by assumption) | exact isRole_out (by assumption) | exact enc_use (by assumption) (by assumption) (by assumption) | exact enc_103 (by assumption) | exact enc_103 (Eq.symm (by assumption)) | exact enc_115 (Eq.symm (by assumption)) | exact enc_102 (Eq.symm (by assumption)) | exact enc_98 (Eq.symm (by assumption)) | exact isRole_nc (by assumption) (by assumption) (by assumption) (by assumption) | exact enc_115 (by assumption) | exact enc_102 (by assumption) | exact enc_98 (by assumption) | exact Or.inr (by assumption) | rfl | exact Or.inl (by assumption) | exact Or.inr (Or.inl (by assumption)) | exact Or.inr (Or.inr (Or.inl (by assumption))) | exact Or.inr (Or.inr (Or.inr (by assumption))) | decide), (by first | assumption | exact inR_1 (by assumption) (by assumption) | exact inR_2 (by assumption) (by assumption) | exact inR_3 (by assumption) | exact inR_4 (by assumption) | exact inR_5 (by assumption) | exact ⟨by assumption, by assumption, by assumption, by assumption⟩ | exact ⟨by assumption, by assumption, by assumption⟩ | exact (fun q => absurd q.1 (by assumption)) | exact (fun q => absurd q.2.1 (by assumption)) | exact (fun q => absurd q.2.2 (by assumption)) | exact (fun q => absurd q.2.2.1 (by assumption)) | exact (fun q => absurd q.2.2.2 (by assumption)) | exact isRole_no (by assumption) (by assumption) (by assumption) (by assumption) | exact isRole_nb (by assumption) (by assumption) (by assumption) (by assumption) | exact isRole_out (by assumption) | exact enc_use (by assumption) (by assumption) (by assumption) | exact enc_103 (by assumption) | exact enc_103 (Eq.symm (by assumption)) | exact enc_115 (Eq.symm (by assumption)) | exact enc_102 (Eq.symm (by assumption)) | exact enc_98 (Eq.symm (by assumption)) | exact isRole_nc (by assumption) (by assumption) (by assumption) (by assumption) | exact enc_115 (by assumption) | exact enc_102 (by assumption) | exact enc_98 (by assumption) | exact Or.inr (by assumption) | rfl | exact Or.inl (by assumption) | exact Or.inr (Or.inl (by assumption)) | exact Or.inr (Or.inr (Or.inl (by assumption))) | exact Or.inr (Or.inr (Or.inr (by assumption))) | decide), rfl⟩)), q_RW_mk hP hK hD [0] [1] rfl rfl (by decide) rfl ht hW.alike⟩, hS.F ht⟩) hS.2.2 dL_pass_16
theorem dL_drop_0 : decode cL_drop 0 = .ok (.aload_n 2, 1) := by decide +kernel
theorem dL_drop_1 : decode cL_drop 1 = .ok (.iconst 0, 1) := by decide +kernel
theorem dL_drop_2 : decode cL_drop 2 = .ok (.aload_n 0, 1) := by decide +kernel
theorem dL_drop_3 : decode cL_drop 3 = .ok (.iload_n 1, 1) := by decide +kernel
theorem dL_drop_4 : decode cL_drop 4 = .ok (.invokevirtual 123, 3) := by decide +kernel
theorem dL_drop_12 : decode cL_drop 12 = .ok (.astore_n 3, 1) := by decide +kernel
theorem dL_drop_13 : decode cL_drop 13 = .ok (.iconst 1, 1) := by decide +kernel
theorem dL_drop_14 : decode cL_drop 14 = .ok (.ireturn, 1) := by decide +kernel
theorem dL_drop_7 : decode cL_drop 7 = .ok (.i2l, 1) := by decide +kernel
theorem dL_drop_8 : decode cL_drop 8 = .ok (.lastore, 1) := by decide +kernel
theorem dL_drop_9 : decode cL_drop 9 = .ok (.goto 6, 3) := by decide +kernel
theorem dL_drop_15 : decode cL_drop 15 = .ok (.iconst 0, 1) := by decide +kernel
theorem dL_drop_16 : decode cL_drop 16 = .ok (.ireturn, 1) := by decide +kernel
def wzEL_drop : List Cond := [.codeWith yL_drop cL_drop 4 (some .int) [(0, 9, 12, 13)], .methodLink RL 123 yX6_drop, .instanceMethod yX6_drop, .selects RX6 yX6_drop yX6_drop, .initialized RX6, .code yX6_drop cX6_drop 3 (some .int), .methodLink RX6 75 yX6_checkRange, .static yX6_checkRange, .code yX6_checkRange cX6_checkRange 3 none, .classLink RX6 118 "java/lang/IllegalArgumentException", .initialized "java/lang/IllegalArgumentException", .fieldLink RX6 66 "Gatherhouse" "dropAnHour" "I", .classLink RL 13 "java/lang/IllegalArgumentException"]
def wzL_drop : List Cond := wzEL_drop ++ (u_ws RX6 TX6 16 ++ ((vx_atS RX6 122 "java/lang/IllegalArgumentException" ["java/lang/RuntimeException", "java/lang/Exception"]).filter goodWord))
theorem zgEL_drop : wzEL_drop.all goodWord = true := by decide +kernel
theorem zuL_drop_X6 : ∀ w ∈ u_ws RX6 TX6 16, w ∈ wzL_drop := (fun _ h => (List.mem_append_right _ (List.mem_append_left _ h)))
theorem ztL_drop_X6_122 : ∀ w ∈ (vx_atS RX6 122 "java/lang/IllegalArgumentException" ["java/lang/RuntimeException", "java/lang/Exception"]).filter goodWord, w ∈ wzL_drop := (fun _ h => (List.mem_append_right _ (List.mem_append_right _ h)))
theorem gzL_drop_X6_drop_123 : GoodIn wzL_drop (wsV RL 123 RX6 yX6_drop wzX6_drop) := (goodIn_app (z_lift (goodIn_r _ [1, 2, 3, 4] rfl (by decide +kernel))) (goodIn_app (z_lift (goodIn_r wzEX6_drop [5, 6, 7, 4, 8, 9, 10, 11] rfl zgEX6_drop)) (goodIn_app (goodIn_sub (fun _ h => (List.mem_append_right _ (List.mem_append_left _ h))) zgU_X6) (goodIn_sub (fun _ h => (List.mem_append_right _ (List.mem_append_right _ h))) zgV_X6_122))))
set_option maxHeartbeats 4000000 in
set_option maxRecDepth 100000 in
theorem zc_L_drop (l : Launch) (hnt : l.stackTraces = false) (D : va_G) (G : Nat × Nat × Nat) (xo : Nat) (xg : Nat) (xp : Nat) (xq : Nat) (r1 : Nat) (r2 : Nat) (r3 : Nat) (r4 : Nat) (se : Nat) (ts : Int32) (hq : Int32) (ou : Nat) (cJ : ClassId) (ii : Int32) (sz : Nat) : vx_Met l yL_drop wzL_drop ({ frames := 8, cells := 1, slots := 6, locals := 126 }) (va_Pc [.ref xo, .int ii, .ref ou] (p_RW D G [(cJ, .long)] [(xo, .inr (11, [.ref xg, .int 0, .ref xp, .int 0, .ref xq, .int 0, .ref r1, .ref r2, .ref r3, .ref r4, .ref se, .int ts, .int hq, .int 40, .int 0, .int 0])), (ou, .inl (cJ, 1, .inr (.inl (fun _ => 0))))] sz)) (va_Qi (fun (r : Int32) (u : Nat → Int64) => match u with | fo => (inR ii 10 200 ∧ fo 0 = 40 ∧ r = 0) ∨ (¬ inR ii 10 200 ∧ r = 1)) (fun (u : Nat → Int64) (t : State) => match u with | fo => q_RW D [(cJ, .long)] [(ou, .inl (cJ, 1, .inr (.inl fo)))] (va_A [(xo, .inr (11, [.ref xg, .int 0, .ref xp, .int 0, .ref xq, .int 0, .ref r1, .ref r2, .ref r3, .ref r4, .ref se, .int ts, .int hq, .int 40, .int 0, .int 0])), (ou, .inl (cJ, 1, .inr (.inl (fun _ => 0))))] sz) t) (va_A [(xo, .inr (11, [.ref xg, .int 0, .ref xp, .int 0, .ref xq, .int 0, .ref r1, .ref r2, .ref r3, .ref r4, .ref se, .int ts, .int hq, .int 40, .int 0, .int 0])), (ou, .inl (cJ, 1, .inr (.inl (fun _ => 0))))] sz)) (vx_X (fun (_ : Unit) => True) (fun E (_ : Unit) (_ : State) => False) (va_A [(xo, .inr (11, [.ref xg, .int 0, .ref xp, .int 0, .ref xq, .int 0, .ref r1, .ref r2, .ref r3, .ref r4, .ref se, .int ts, .int hq, .int 40, .int 0, .int 0])), (ou, .inl (cJ, 1, .inr (.inl (fun _ => 0))))] sz)) 1 6 (va_A [(xo, .inr (11, [.ref xg, .int 0, .ref xp, .int 0, .ref xq, .int 0, .ref r1, .ref r2, .ref r3, .ref r4, .ref se, .int ts, .int hq, .int 40, .int 0, .int 0])), (ou, .inl (cJ, 1, .inr (.inl (fun _ => 0))))] sz) := by
  refine vx_ofWH (cc := cL_drop) (maxL := 4) (ret := (some .int)) (by decide) rfl ?_
  intro p e s m args below meth c s₁ B hml hv
  obtain ⟨rfl, hsz, hP, hK, hD0, hT, hZ⟩ := hv
  have hx := B.exec
  have hb := B.bytes
  have hr := B.returns
  have hts := atoms_spec (ws := wzL_drop) B.pre
  have hown : s.vm.findClass RL = some m.cls := findClass_of_methodNamed B.named
  have hlocks := B.notSynchronized
  have hxe := vx_table (x := yL_drop) B (hts _ List.mem_cons_self)
  subst hsz
  have hD := hD0.self (sz := s.heap.size)
  generalize hAe : va_A [(xo, .inr (11, [.ref xg, .int 0, .ref xp, .int 0, .ref xq, .int 0, .ref r1, .ref r2, .ref r3, .ref r4, .ref se, .int ts, .int hq, .int 40, .int 0, .int 0])), (ou, .inl (cJ, 1, .inr (.inl (fun _ => 0))))] s.heap.size = A at hD hZ ⊢
  have hA : ∀ q : Nat, s.heap.size ≤ q → A q := fun q h => by rw [← hAe]; exact Or.inr h
  have hS : va_S A s.heap s.heap [] := va_S.rf
  have hl := lv_entry ([.ref xo, .int ii, .ref ou]) (n := 4) (Nat.le_of_ble_eq_true rfl)
  rw [lg_entry_eq]
  generalize (lg_sl ([.ref xo, .int ii, .ref ou]) ++ List.replicate (4 - (lg_sl ([.ref xo, .int ii, .ref ou])).length) Slot.unset).toArray = ls at hl ⊢
  have hl : lv_has ls 4 [(0, .ref xo), (1, .int ii), (2, .ref ou)] := hl
  refine lv_aload_n hx hb dL_drop_0 rfl (lv_at hl 2 rfl) ?_
  refine lv_iconst (v := 0) hx hb dL_drop_1 (by decide) ?_
  refine lv_aload_n hx hb dL_drop_2 rfl (lv_at hl 0 rfl) ?_
  refine lv_iload_n hx hb dL_drop_3 rfl (lv_at hl 1 rfl) ?_
  have hFc := va_free (wc := [(xo, .inr (11, [.ref xg, .int 0, .ref xp, .int 0, .ref xq, .int 0, .ref r1, .ref r2, .ref r3, .ref r4, .ref se, .int ts, .int hq, .int 40, .int 0, .int 0]))]) hD hS hA [0] rfl
  refine vx_calli (vx_runV (As := [.int ii]) (rest := [.int 0, .ref ou]) ⟨hx, hb, hml, hown, hts⟩ (zc_X6_drop l hnt D G xo xg xp xq r1 r2 r3 r4 se ts hq ii s.heap.size) (cwV 1 hts gzL_drop_X6_drop_123 rfl rfl rfl (by decide +kernel) ⟨(Nat.le_of_ble_eq_true rfl), (Nat.le_of_ble_eq_true rfl)⟩) ⟨p_RW_blind, va_recv hK hP (ci := 11) (q0 := 0) rfl rfl, (p_RW_at (tc := []) (wc := [(xo, .inr (11, [.ref xg, .int 0, .ref xp, .int 0, .ref xq, .int 0, .ref r1, .ref r2, .ref r3, .ref r4, .ref se, .int ts, .int hq, .int 40, .int 0, .int 0]))]) hP hK hD hS hA hT hZ [0] [] rfl rfl (by decide) rfl [.ref xo, .int ii])⟩ rfl rfl hl.1 rfl (lv_room (Nat.le_of_ble_eq_true rfl)) dL_drop_4 ⟨(Nat.le_of_ble_eq_true rfl), (Nat.le_of_ble_eq_true rfl)⟩) hS (fun q _ h => hFc q h) hFc (fun q _ h => hFc q h) (fun E ce q9 u t H locs ht hvm hpx hBX hz1 hk1 hS hce hcv hcl => ?_) (fun r_787 u t H locs ht hvm w_788 hB hz1 hk1 hS => ?_)
  · have hBX : (E = "java/lang/IllegalArgumentException" ∧ (¬ inR ii 10 200)) := hBX
    rcases hBX with ⟨rfl, c_789⟩
    refine vx_catch (own := RL) (name := "java/lang/IllegalArgumentException") hown ([] : List ExceptionTableEntry) ⟨0, 9, 12, 13⟩ ([] : List ExceptionTableEntry) (by rw [hxe]; rfl) (fun _ h => absurd h List.not_mem_nil) (by decide) (by decide) (hts (.classLink RL 13 "java/lang/IllegalArgumentException") (by decide +kernel)) (va_Nw.use rfl (hT.2.2.1 ("java/lang/IllegalArgumentException", "java/lang/IllegalArgumentException") (by decide +kernel))) hce hcv hcl ?_
    obtain ⟨hP, hD, hK⟩ := q_join (D := D) (wc := [(xo, .inr (11, [.ref xg, .int 0, .ref xp, .int 0, .ref xq, .int 0, .ref r1, .ref r2, .ref r3, .ref r4, .ref se, .int ts, .int hq, .int 40, .int 0, .int 0]))]) (wr := [(ou, .inl (cJ, 1, .inr (.inl (fun _ => 0))))]) (w1 := []) (tyr := [(cJ, .long)]) (ty1 := []) hP hD hK [0] [1] [0] rfl rfl (by decide) (by decide) rfl hFc hk1 ht hvm (q_none hK hvm)
    have hP : va_P D vwCl [(ou, .inl (cJ, 1, .inr (.inl (fun _ => 0))))] H := hP
    have hD : va_D A [(ou, .inl (cJ, 1, .inr (.inl (fun _ => 0))))] := hD
    have hK : va_K D vwCl [(cJ, .long)] s := hK
    refine W.eq (g2 := F0 m 12 ls [.ref q9]) rfl ?_
    refine lv_astore_n (lv' := [(3, .ref q9), (0, .ref xo), (1, .int ii), (2, .ref ou)]) hx hb dL_drop_12 rfl hl (by decide) rfl (fun ls hl => ?_)
    refine lv_iconst (v := 1) hx hb dL_drop_13 (by decide) ?_
    refine vx_ret ?_
    exact W.iret (v := 1) hx hb hr (fun t ht hW => ⟨⟨1, (fun _ => 0), rfl, (Or.inr (⟨(by first | assumption | exact inR_1 (by assumption) (by assumption) | exact inR_2 (by assumption) (by assumption) | exact inR_3 (by assumption) | exact inR_4 (by assumption) | exact inR_5 (by assumption) | exact ⟨by assumption, by assumption, by assumption, by assumption⟩ | exact ⟨by assumption, by assumption, by assumption⟩ | exact (fun q => absurd q.1 (by assumption)) | exact (fun q => absurd q.2.1 (by assumption)) | exact (fun q => absurd q.2.2 (by assumption)) | exact (fun q => absurd q.2.2.1 (by assumption)) | exact (fun q => absurd q.2.2.2 (by assumption)) | exact isRole_no (by assumption) (by assumption) (by assumption) (by assumption) | exact isRole_nb (by assumption) (by assumption) (by assumption) (by assumption) | exact isRole_out (by assumption) | exact enc_use (by assumption) (by assumption) (by assumption) | exact enc_103 (by assumption) | exact enc_103 (Eq.symm (by assumption)) | exact enc_115 (Eq.symm (by assumption)) | exact enc_102 (Eq.symm (by assumption)) | exact enc_98 (Eq.symm (by assumption)) | exact isRole_nc (by assumption) (by assumption) (by assumption) (by assumption) | exact enc_115 (by assumption) | exact enc_102 (by assumption) | exact enc_98 (by assumption) | exact Or.inr (by assumption) | rfl | exact Or.inl (by assumption) | exact Or.inr (Or.inl (by assumption)) | exact Or.inr (Or.inr (Or.inl (by assumption))) | exact Or.inr (Or.inr (Or.inr (by assumption))) | decide), rfl⟩)), q_RW_mk hP hK hD [0] [0] rfl rfl (by decide) rfl ht hW.alike⟩, hS.F ht⟩) hS.2.2 dL_drop_14
  · obtain ⟨hP, hD, hK⟩ := q_join (D := D) (wc := [(xo, .inr (11, [.ref xg, .int 0, .ref xp, .int 0, .ref xq, .int 0, .ref r1, .ref r2, .ref r3, .ref r4, .ref se, .int ts, .int hq, .int 40, .int 0, .int 0]))]) (wr := [(ou, .inl (cJ, 1, .inr (.inl (fun _ => 0))))]) (w1 := []) (tyr := [(cJ, .long)]) (ty1 := []) hP hD hK [0] [1] [0] rfl rfl (by decide) (by decide) rfl hFc hk1 ht hvm (q_none hK hvm)
    have hP : va_P D vwCl [(ou, .inl (cJ, 1, .inr (.inl (fun _ => 0))))] H := hP
    have hD : va_D A [(ou, .inl (cJ, 1, .inr (.inl (fun _ => 0))))] := hD
    have hK : va_K D vwCl [(cJ, .long)] s := hK
    refine W.widen (k := 1) (n := 6) (Nat.le_of_ble_eq_true rfl) (Nat.le_of_ble_eq_true rfl) ?_
    obtain ⟨c_790, rfl⟩ := w_788
    refine lv_i2l (v := 40) hx hb dL_drop_7 (by decide) ?_
    refine va_last (D := D) (cl := vwCl) hx hb hK hP hD hS 0 0 rfl rfl (vp_in_nI (n := 0) (N := 1) (by decide) (by decide)) dL_drop_8 (fun H locs hP hD hS => ?_)
    have hP : va_P D vwCl [(ou, .inl (cJ, 1, .inr (.inl (vp_updL (fun _ => 0) (0 : Int32).toNatClampNeg 40))))] H := hP
    have hD : va_D A [(ou, .inl (cJ, 1, .inr (.inl (vp_updL (fun _ => 0) (0 : Int32).toNatClampNeg 40))))] := hD
    refine lv_goto (tgt := 15) hx hb dL_drop_9 (by decide) ?_
    refine lv_iconst (v := 0) hx hb dL_drop_15 (by decide) ?_
    refine vx_ret ?_
    exact W.iret (v := 0) hx hb hr (fun t ht hW => ⟨⟨0, (vp_updL (fun _ => 0) (0 : Int32).toNatClampNeg 40), rfl, (Or.inl (⟨(by first | assumption | exact inR_1 (by assumption) (by assumption) | exact inR_2 (by assumption) (by assumption) | exact inR_3 (by assumption) | exact inR_4 (by assumption) | exact inR_5 (by assumption) | exact ⟨by assumption, by assumption, by assumption, by assumption⟩ | exact ⟨by assumption, by assumption, by assumption⟩ | exact (fun q => absurd q.1 (by assumption)) | exact (fun q => absurd q.2.1 (by assumption)) | exact (fun q => absurd q.2.2 (by assumption)) | exact (fun q => absurd q.2.2.1 (by assumption)) | exact (fun q => absurd q.2.2.2 (by assumption)) | exact isRole_no (by assumption) (by assumption) (by assumption) (by assumption) | exact isRole_nb (by assumption) (by assumption) (by assumption) (by assumption) | exact isRole_out (by assumption) | exact enc_use (by assumption) (by assumption) (by assumption) | exact enc_103 (by assumption) | exact enc_103 (Eq.symm (by assumption)) | exact enc_115 (Eq.symm (by assumption)) | exact enc_102 (Eq.symm (by assumption)) | exact enc_98 (Eq.symm (by assumption)) | exact isRole_nc (by assumption) (by assumption) (by assumption) (by assumption) | exact enc_115 (by assumption) | exact enc_102 (by assumption) | exact enc_98 (by assumption) | exact Or.inr (by assumption) | rfl | exact Or.inl (by assumption) | exact Or.inr (Or.inl (by assumption)) | exact Or.inr (Or.inr (Or.inl (by assumption))) | exact Or.inr (Or.inr (Or.inr (by assumption))) | decide), (by first | assumption | exact inR_1 (by assumption) (by assumption) | exact inR_2 (by assumption) (by assumption) | exact inR_3 (by assumption) | exact inR_4 (by assumption) | exact inR_5 (by assumption) | exact ⟨by assumption, by assumption, by assumption, by assumption⟩ | exact ⟨by assumption, by assumption, by assumption⟩ | exact (fun q => absurd q.1 (by assumption)) | exact (fun q => absurd q.2.1 (by assumption)) | exact (fun q => absurd q.2.2 (by assumption)) | exact (fun q => absurd q.2.2.1 (by assumption)) | exact (fun q => absurd q.2.2.2 (by assumption)) | exact isRole_no (by assumption) (by assumption) (by assumption) (by assumption) | exact isRole_nb (by assumption) (by assumption) (by assumption) (by assumption) | exact isRole_out (by assumption) | exact enc_use (by assumption) (by assumption) (by assumption) | exact enc_103 (by assumption) | exact enc_103 (Eq.symm (by assumption)) | exact enc_115 (Eq.symm (by assumption)) | exact enc_102 (Eq.symm (by assumption)) | exact enc_98 (Eq.symm (by assumption)) | exact isRole_nc (by assumption) (by assumption) (by assumption) (by assumption) | exact enc_115 (by assumption) | exact enc_102 (by assumption) | exact enc_98 (by assumption) | exact Or.inr (by assumption) | rfl | exact Or.inl (by assumption) | exact Or.inr (Or.inl (by assumption)) | exact Or.inr (Or.inr (Or.inl (by assumption))) | exact Or.inr (Or.inr (Or.inr (by assumption))) | decide), rfl⟩)), q_RW_mk hP hK hD [0] [0] rfl rfl (by decide) rfl ht hW.alike⟩, hS.F ht⟩) hS.2.2 dL_drop_16
theorem dL_busy_0 : decode cL_busy 0 = .ok (.aload_n 2, 1) := by decide +kernel
theorem dL_busy_1 : decode cL_busy 1 = .ok (.iconst 0, 1) := by decide +kernel
theorem dL_busy_2 : decode cL_busy 2 = .ok (.aload_n 0, 1) := by decide +kernel
theorem dL_busy_3 : decode cL_busy 3 = .ok (.iload_n 1, 1) := by decide +kernel
theorem dL_busy_4 : decode cL_busy 4 = .ok (.invokevirtual 46, 3) := by decide +kernel
theorem dL_busy_12 : decode cL_busy 12 = .ok (.astore_n 3, 1) := by decide +kernel
theorem dL_busy_13 : decode cL_busy 13 = .ok (.iconst 1, 1) := by decide +kernel
theorem dL_busy_14 : decode cL_busy 14 = .ok (.ireturn, 1) := by decide +kernel
theorem dL_busy_7 : decode cL_busy 7 = .ok (.i2l, 1) := by decide +kernel
theorem dL_busy_8 : decode cL_busy 8 = .ok (.lastore, 1) := by decide +kernel
theorem dL_busy_9 : decode cL_busy 9 = .ok (.goto 6, 3) := by decide +kernel
theorem dL_busy_15 : decode cL_busy 15 = .ok (.iconst 0, 1) := by decide +kernel
theorem dL_busy_16 : decode cL_busy 16 = .ok (.ireturn, 1) := by decide +kernel
def wzEL_busy : List Cond := [.codeWith yL_busy cL_busy 4 (some .int) [(0, 9, 12, 13)], .methodLink RL 46 yX6_busy, .instanceMethod yX6_busy, .selects RX6 yX6_busy yX6_busy, .initialized RX6, .code yX6_busy cX6_busy 2 (some .int), .methodLink RX6 133 yX6_findRole, .instanceMethod yX6_findRole, .selects RX6 yX6_findRole yX6_findRole, .code yX6_findRole cX6_findRole 2 (some (.object "Gatherhouse$Role")), .fieldLink RX6 50 "Gatherhouse" "boy" "LGatherhouse$Role;", .fieldLink RX6 47 "Gatherhouse" "gaffer" "LGatherhouse$Role;", .fieldLink RX6 40 "Gatherhouse" "gatherer" "LGatherhouse$Role;", .fieldLink RX6 44 "Gatherhouse" "servitor" "LGatherhouse$Role;", .classLink RX6 118 "java/lang/IllegalArgumentException", .initialized "java/lang/IllegalArgumentException", .classLink RL 13 "java/lang/IllegalArgumentException"]
def wzL_busy : List Cond := wzEL_busy ++ (u_ws RX6 TX6 16 ++ (u_ws RX4 TX4 2 ++ ((vx_atS RX6 122 "java/lang/IllegalArgumentException" ["java/lang/RuntimeException", "java/lang/Exception"]).filter goodWord)))
theorem zgEL_busy : wzEL_busy.all goodWord = true := by decide +kernel
theorem zuL_busy_X6 : ∀ w ∈ u_ws RX6 TX6 16, w ∈ wzL_busy := (fun _ h => (List.mem_append_right _ (List.mem_append_left _ h)))
theorem zuL_busy_X4 : ∀ w ∈ u_ws RX4 TX4 2, w ∈ wzL_busy := (fun _ h => (List.mem_append_right _ (List.mem_append_right _ (List.mem_append_left _ h))))
theorem ztL_busy_X6_122 : ∀ w ∈ (vx_atS RX6 122 "java/lang/IllegalArgumentException" ["java/lang/RuntimeException", "java/lang/Exception"]).filter goodWord, w ∈ wzL_busy := (fun _ h => (List.mem_append_right _ (List.mem_append_right _ (List.mem_append_right _ h))))
theorem gzL_busy_X6_busy_46 : GoodIn wzL_busy (wsV RL 46 RX6 yX6_busy wzX6_busy) := (goodIn_app (z_lift (goodIn_r _ [1, 2, 3, 4] rfl (by decide +kernel))) (goodIn_app (z_lift (goodIn_r wzEX6_busy [5, 6, 7, 8, 4, 9, 10, 11, 12, 13, 14, 15] rfl zgEX6_busy)) (goodIn_app (goodIn_sub (fun _ h => (List.mem_append_right _ (List.mem_append_left _ h))) zgU_X6) (goodIn_app (goodIn_sub (fun _ h => (List.mem_append_right _ (List.mem_append_right _ (List.mem_append_left _ h)))) zgU_X4) (goodIn_sub (fun _ h => (List.mem_append_right _ (List.mem_append_right _ (List.mem_append_right _ h)))) zgV_X6_122)))))
set_option maxHeartbeats 4000000 in
set_option maxRecDepth 100000 in
theorem zc_L_busy (l : Launch) (hnt : l.stackTraces = false) (D : va_G) (G : Nat × Nat × Nat) (xo : Nat) (xg : Nat) (xp : Nat) (xq : Nat) (r1 : Nat) (r2 : Nat) (r3 : Nat) (r4 : Nat) (se : Nat) (ts : Int32) (hq : Int32) (ou : Nat) (cJ : ClassId) (ch : Int32) (sz : Nat) : vx_Met l yL_busy wzL_busy ({ frames := 8, cells := 1, slots := 6, locals := 124 }) (va_Pc [.ref xo, .int ch, .ref ou] (p_RW D G [(cJ, .long)] [(xo, .inr (11, [.ref xg, .int 0, .ref xp, .int 0, .ref xq, .int 0, .ref r1, .ref r2, .ref r3, .ref r4, .ref se, .int ts, .int hq, .int 40, .int 0, .int 0])), (r1, .inr (9, [.int 0, .int 0])), (r2, .inr (9, [.int 0, .int 0])), (r3, .inr (9, [.int 0, .int 0])), (r4, .inr (9, [.int 0, .int 0])), (ou, .inl (cJ, 1, .inr (.inl (fun _ => 0))))] sz)) (va_Qi (fun (r : Int32) (u : Nat → Int64) => match u with | fo => (isRole ch ∧ fo 0 = 0 ∧ r = 0) ∨ (¬ isRole ch ∧ r = 1)) (fun (u : Nat → Int64) (t : State) => match u with | fo => q_RW D [(cJ, .long)] [(ou, .inl (cJ, 1, .inr (.inl fo)))] (va_A [(xo, .inr (11, [.ref xg, .int 0, .ref xp, .int 0, .ref xq, .int 0, .ref r1, .ref r2, .ref r3, .ref r4, .ref se, .int ts, .int hq, .int 40, .int 0, .int 0])), (r1, .inr (9, [.int 0, .int 0])), (r2, .inr (9, [.int 0, .int 0])), (r3, .inr (9, [.int 0, .int 0])), (r4, .inr (9, [.int 0, .int 0])), (ou, .inl (cJ, 1, .inr (.inl (fun _ => 0))))] sz) t) (va_A [(xo, .inr (11, [.ref xg, .int 0, .ref xp, .int 0, .ref xq, .int 0, .ref r1, .ref r2, .ref r3, .ref r4, .ref se, .int ts, .int hq, .int 40, .int 0, .int 0])), (r1, .inr (9, [.int 0, .int 0])), (r2, .inr (9, [.int 0, .int 0])), (r3, .inr (9, [.int 0, .int 0])), (r4, .inr (9, [.int 0, .int 0])), (ou, .inl (cJ, 1, .inr (.inl (fun _ => 0))))] sz)) (vx_X (fun (_ : Unit) => True) (fun E (_ : Unit) (_ : State) => False) (va_A [(xo, .inr (11, [.ref xg, .int 0, .ref xp, .int 0, .ref xq, .int 0, .ref r1, .ref r2, .ref r3, .ref r4, .ref se, .int ts, .int hq, .int 40, .int 0, .int 0])), (r1, .inr (9, [.int 0, .int 0])), (r2, .inr (9, [.int 0, .int 0])), (r3, .inr (9, [.int 0, .int 0])), (r4, .inr (9, [.int 0, .int 0])), (ou, .inl (cJ, 1, .inr (.inl (fun _ => 0))))] sz)) 1 6 (va_A [(xo, .inr (11, [.ref xg, .int 0, .ref xp, .int 0, .ref xq, .int 0, .ref r1, .ref r2, .ref r3, .ref r4, .ref se, .int ts, .int hq, .int 40, .int 0, .int 0])), (r1, .inr (9, [.int 0, .int 0])), (r2, .inr (9, [.int 0, .int 0])), (r3, .inr (9, [.int 0, .int 0])), (r4, .inr (9, [.int 0, .int 0])), (ou, .inl (cJ, 1, .inr (.inl (fun _ => 0))))] sz) := by
  refine vx_ofWH (cc := cL_busy) (maxL := 4) (ret := (some .int)) (by decide) rfl ?_
  intro p e s m args below meth c s₁ B hml hv
  obtain ⟨rfl, hsz, hP, hK, hD0, hT, hZ⟩ := hv
  have hx := B.exec
  have hb := B.bytes
  have hr := B.returns
  have hts := atoms_spec (ws := wzL_busy) B.pre
  have hown : s.vm.findClass RL = some m.cls := findClass_of_methodNamed B.named
  have hlocks := B.notSynchronized
  have hxe := vx_table (x := yL_busy) B (hts _ List.mem_cons_self)
  subst hsz
  have hD := hD0.self (sz := s.heap.size)
  generalize hAe : va_A [(xo, .inr (11, [.ref xg, .int 0, .ref xp, .int 0, .ref xq, .int 0, .ref r1, .ref r2, .ref r3, .ref r4, .ref se, .int ts, .int hq, .int 40, .int 0, .int 0])), (r1, .inr (9, [.int 0, .int 0])), (r2, .inr (9, [.int 0, .int 0])), (r3, .inr (9, [.int 0, .int 0])), (r4, .inr (9, [.int 0, .int 0])), (ou, .inl (cJ, 1, .inr (.inl (fun _ => 0))))] s.heap.size = A at hD hZ ⊢
  have hA : ∀ q : Nat, s.heap.size ≤ q → A q := fun q h => by rw [← hAe]; exact Or.inr h
  have hS : va_S A s.heap s.heap [] := va_S.rf
  have hl := lv_entry ([.ref xo, .int ch, .ref ou]) (n := 4) (Nat.le_of_ble_eq_true rfl)
  rw [lg_entry_eq]
  generalize (lg_sl ([.ref xo, .int ch, .ref ou]) ++ List.replicate (4 - (lg_sl ([.ref xo, .int ch, .ref ou])).length) Slot.unset).toArray = ls at hl ⊢
  have hl : lv_has ls 4 [(0, .ref xo), (1, .int ch), (2, .ref ou)] := hl
  refine lv_aload_n hx hb dL_busy_0 rfl (lv_at hl 2 rfl) ?_
  refine lv_iconst (v := 0) hx hb dL_busy_1 (by decide) ?_
  refine lv_aload_n hx hb dL_busy_2 rfl (lv_at hl 0 rfl) ?_
  refine lv_iload_n hx hb dL_busy_3 rfl (lv_at hl 1 rfl) ?_
  have hFc := va_free (wc := [(xo, .inr (11, [.ref xg, .int 0, .ref xp, .int 0, .ref xq, .int 0, .ref r1, .ref r2, .ref r3, .ref r4, .ref se, .int ts, .int hq, .int 40, .int 0, .int 0])), (r1, .inr (9, [.int 0, .int 0])), (r2, .inr (9, [.int 0, .int 0])), (r3, .inr (9, [.int 0, .int 0])), (r4, .inr (9, [.int 0, .int 0]))]) hD hS hA [0, 1, 2, 3, 4] rfl
  refine vx_calli (vx_runV (As := [.int ch]) (rest := [.int 0, .ref ou]) ⟨hx, hb, hml, hown, hts⟩ (zc_X6_busy l hnt D G xo xg xp xq r1 r2 r3 r4 se ts hq ch s.heap.size) (cwV 1 hts gzL_busy_X6_busy_46 rfl rfl rfl (by decide +kernel) ⟨(Nat.le_of_ble_eq_true rfl), (Nat.le_of_ble_eq_true rfl)⟩) ⟨p_RW_blind, va_recv hK hP (ci := 11) (q0 := 0) rfl rfl, (p_RW_at (tc := []) (wc := [(xo, .inr (11, [.ref xg, .int 0, .ref xp, .int 0, .ref xq, .int 0, .ref r1, .ref r2, .ref r3, .ref r4, .ref se, .int ts, .int hq, .int 40, .int 0, .int 0])), (r1, .inr (9, [.int 0, .int 0])), (r2, .inr (9, [.int 0, .int 0])), (r3, .inr (9, [.int 0, .int 0])), (r4, .inr (9, [.int 0, .int 0]))]) hP hK hD hS hA hT hZ [0, 1, 2, 3, 4] [] rfl rfl (by decide) rfl [.ref xo, .int ch])⟩ rfl rfl hl.1 rfl (lv_room (Nat.le_of_ble_eq_true rfl)) dL_busy_4 ⟨(Nat.le_of_ble_eq_true rfl), (Nat.le_of_ble_eq_true rfl)⟩) hS (fun q _ h => hFc q h) hFc (fun q _ h => hFc q h) (fun E ce q9 u t H locs ht hvm hpx hBX hz1 hk1 hS hce hcv hcl => ?_) (fun r_791 u t H locs ht hvm w_792 hB hz1 hk1 hS => ?_)
  · have hBX : (E = "java/lang/IllegalArgumentException" ∧ (¬ isRole ch)) := hBX
    rcases hBX with ⟨rfl, c_793⟩
    refine vx_catch (own := RL) (name := "java/lang/IllegalArgumentException") hown ([] : List ExceptionTableEntry) ⟨0, 9, 12, 13⟩ ([] : List ExceptionTableEntry) (by rw [hxe]; rfl) (fun _ h => absurd h List.not_mem_nil) (by decide) (by decide) (hts (.classLink RL 13 "java/lang/IllegalArgumentException") (by decide +kernel)) (va_Nw.use rfl (hT.2.2.1 ("java/lang/IllegalArgumentException", "java/lang/IllegalArgumentException") (by decide +kernel))) hce hcv hcl ?_
    obtain ⟨hP, hD, hK⟩ := q_join (D := D) (wc := [(xo, .inr (11, [.ref xg, .int 0, .ref xp, .int 0, .ref xq, .int 0, .ref r1, .ref r2, .ref r3, .ref r4, .ref se, .int ts, .int hq, .int 40, .int 0, .int 0])), (r1, .inr (9, [.int 0, .int 0])), (r2, .inr (9, [.int 0, .int 0])), (r3, .inr (9, [.int 0, .int 0])), (r4, .inr (9, [.int 0, .int 0]))]) (wr := [(ou, .inl (cJ, 1, .inr (.inl (fun _ => 0))))]) (w1 := []) (tyr := [(cJ, .long)]) (ty1 := []) hP hD hK [0, 1, 2, 3, 4] [5] [0] rfl rfl (by decide) (by decide) rfl hFc hk1 ht hvm (q_none hK hvm)
    have hP : va_P D vwCl [(ou, .inl (cJ, 1, .inr (.inl (fun _ => 0))))] H := hP
    have hD : va_D A [(ou, .inl (cJ, 1, .inr (.inl (fun _ => 0))))] := hD
    have hK : va_K D vwCl [(cJ, .long)] s := hK
    refine W.eq (g2 := F0 m 12 ls [.ref q9]) rfl ?_
    refine lv_astore_n (lv' := [(3, .ref q9), (0, .ref xo), (1, .int ch), (2, .ref ou)]) hx hb dL_busy_12 rfl hl (by decide) rfl (fun ls hl => ?_)
    refine lv_iconst (v := 1) hx hb dL_busy_13 (by decide) ?_
    refine vx_ret ?_
    exact W.iret (v := 1) hx hb hr (fun t ht hW => ⟨⟨1, (fun _ => 0), rfl, (Or.inr (⟨(by first | assumption | exact inR_1 (by assumption) (by assumption) | exact inR_2 (by assumption) (by assumption) | exact inR_3 (by assumption) | exact inR_4 (by assumption) | exact inR_5 (by assumption) | exact ⟨by assumption, by assumption, by assumption, by assumption⟩ | exact ⟨by assumption, by assumption, by assumption⟩ | exact (fun q => absurd q.1 (by assumption)) | exact (fun q => absurd q.2.1 (by assumption)) | exact (fun q => absurd q.2.2 (by assumption)) | exact (fun q => absurd q.2.2.1 (by assumption)) | exact (fun q => absurd q.2.2.2 (by assumption)) | exact isRole_no (by assumption) (by assumption) (by assumption) (by assumption) | exact isRole_nb (by assumption) (by assumption) (by assumption) (by assumption) | exact isRole_out (by assumption) | exact enc_use (by assumption) (by assumption) (by assumption) | exact enc_103 (by assumption) | exact enc_103 (Eq.symm (by assumption)) | exact enc_115 (Eq.symm (by assumption)) | exact enc_102 (Eq.symm (by assumption)) | exact enc_98 (Eq.symm (by assumption)) | exact isRole_nc (by assumption) (by assumption) (by assumption) (by assumption) | exact enc_115 (by assumption) | exact enc_102 (by assumption) | exact enc_98 (by assumption) | exact Or.inr (by assumption) | rfl | exact Or.inl (by assumption) | exact Or.inr (Or.inl (by assumption)) | exact Or.inr (Or.inr (Or.inl (by assumption))) | exact Or.inr (Or.inr (Or.inr (by assumption))) | decide), rfl⟩)), q_RW_mk hP hK hD [0] [0] rfl rfl (by decide) rfl ht hW.alike⟩, hS.F ht⟩) hS.2.2 dL_busy_14
  · obtain ⟨hP, hD, hK⟩ := q_join (D := D) (wc := [(xo, .inr (11, [.ref xg, .int 0, .ref xp, .int 0, .ref xq, .int 0, .ref r1, .ref r2, .ref r3, .ref r4, .ref se, .int ts, .int hq, .int 40, .int 0, .int 0])), (r1, .inr (9, [.int 0, .int 0])), (r2, .inr (9, [.int 0, .int 0])), (r3, .inr (9, [.int 0, .int 0])), (r4, .inr (9, [.int 0, .int 0]))]) (wr := [(ou, .inl (cJ, 1, .inr (.inl (fun _ => 0))))]) (w1 := []) (tyr := [(cJ, .long)]) (ty1 := []) hP hD hK [0, 1, 2, 3, 4] [5] [0] rfl rfl (by decide) (by decide) rfl hFc hk1 ht hvm (q_none hK hvm)
    have hP : va_P D vwCl [(ou, .inl (cJ, 1, .inr (.inl (fun _ => 0))))] H := hP
    have hD : va_D A [(ou, .inl (cJ, 1, .inr (.inl (fun _ => 0))))] := hD
    have hK : va_K D vwCl [(cJ, .long)] s := hK
    refine W.widen (k := 1) (n := 6) (Nat.le_of_ble_eq_true rfl) (Nat.le_of_ble_eq_true rfl) ?_
    obtain ⟨c_794, rfl⟩ := w_792
    refine lv_i2l (v := 0) hx hb dL_busy_7 (by decide) ?_
    refine va_last (D := D) (cl := vwCl) hx hb hK hP hD hS 0 0 rfl rfl (vp_in_nI (n := 0) (N := 1) (by decide) (by decide)) dL_busy_8 (fun H locs hP hD hS => ?_)
    have hP : va_P D vwCl [(ou, .inl (cJ, 1, .inr (.inl (vp_updL (fun _ => 0) (0 : Int32).toNatClampNeg 0))))] H := hP
    have hD : va_D A [(ou, .inl (cJ, 1, .inr (.inl (vp_updL (fun _ => 0) (0 : Int32).toNatClampNeg 0))))] := hD
    refine lv_goto (tgt := 15) hx hb dL_busy_9 (by decide) ?_
    refine lv_iconst (v := 0) hx hb dL_busy_15 (by decide) ?_
    refine vx_ret ?_
    exact W.iret (v := 0) hx hb hr (fun t ht hW => ⟨⟨0, (vp_updL (fun _ => 0) (0 : Int32).toNatClampNeg 0), rfl, (Or.inl (⟨(by first | assumption | exact inR_1 (by assumption) (by assumption) | exact inR_2 (by assumption) (by assumption) | exact inR_3 (by assumption) | exact inR_4 (by assumption) | exact inR_5 (by assumption) | exact ⟨by assumption, by assumption, by assumption, by assumption⟩ | exact ⟨by assumption, by assumption, by assumption⟩ | exact (fun q => absurd q.1 (by assumption)) | exact (fun q => absurd q.2.1 (by assumption)) | exact (fun q => absurd q.2.2 (by assumption)) | exact (fun q => absurd q.2.2.1 (by assumption)) | exact (fun q => absurd q.2.2.2 (by assumption)) | exact isRole_no (by assumption) (by assumption) (by assumption) (by assumption) | exact isRole_nb (by assumption) (by assumption) (by assumption) (by assumption) | exact isRole_out (by assumption) | exact enc_use (by assumption) (by assumption) (by assumption) | exact enc_103 (by assumption) | exact enc_103 (Eq.symm (by assumption)) | exact enc_115 (Eq.symm (by assumption)) | exact enc_102 (Eq.symm (by assumption)) | exact enc_98 (Eq.symm (by assumption)) | exact isRole_nc (by assumption) (by assumption) (by assumption) (by assumption) | exact enc_115 (by assumption) | exact enc_102 (by assumption) | exact enc_98 (by assumption) | exact Or.inr (by assumption) | rfl | exact Or.inl (by assumption) | exact Or.inr (Or.inl (by assumption)) | exact Or.inr (Or.inr (Or.inl (by assumption))) | exact Or.inr (Or.inr (Or.inr (by assumption))) | decide), (by first | assumption | exact inR_1 (by assumption) (by assumption) | exact inR_2 (by assumption) (by assumption) | exact inR_3 (by assumption) | exact inR_4 (by assumption) | exact inR_5 (by assumption) | exact ⟨by assumption, by assumption, by assumption, by assumption⟩ | exact ⟨by assumption, by assumption, by assumption⟩ | exact (fun q => absurd q.1 (by assumption)) | exact (fun q => absurd q.2.1 (by assumption)) | exact (fun q => absurd q.2.2 (by assumption)) | exact (fun q => absurd q.2.2.1 (by assumption)) | exact (fun q => absurd q.2.2.2 (by assumption)) | exact isRole_no (by assumption) (by assumption) (by assumption) (by assumption) | exact isRole_nb (by assumption) (by assumption) (by assumption) (by assumption) | exact isRole_out (by assumption) | exact enc_use (by assumption) (by assumption) (by assumption) | exact enc_103 (by assumption) | exact enc_103 (Eq.symm (by assumption)) | exact enc_115 (Eq.symm (by assumption)) | exact enc_102 (Eq.symm (by assumption)) | exact enc_98 (Eq.symm (by assumption)) | exact isRole_nc (by assumption) (by assumption) (by assumption) (by assumption) | exact enc_115 (by assumption) | exact enc_102 (by assumption) | exact enc_98 (by assumption) | exact Or.inr (by assumption) | rfl | exact Or.inl (by assumption) | exact Or.inr (Or.inl (by assumption)) | exact Or.inr (Or.inr (Or.inl (by assumption))) | exact Or.inr (Or.inr (Or.inr (by assumption))) | decide), rfl⟩)), q_RW_mk hP hK hD [0] [0] rfl rfl (by decide) rfl ht hW.alike⟩, hS.F ht⟩) hS.2.2 dL_busy_16
theorem dL_pay_0 : decode cL_pay 0 = .ok (.aload_n 2, 1) := by decide +kernel
theorem dL_pay_1 : decode cL_pay 1 = .ok (.iconst 0, 1) := by decide +kernel
theorem dL_pay_2 : decode cL_pay 2 = .ok (.aload_n 0, 1) := by decide +kernel
theorem dL_pay_3 : decode cL_pay 3 = .ok (.iload_n 1, 1) := by decide +kernel
theorem dL_pay_4 : decode cL_pay 4 = .ok (.invokevirtual 50, 3) := by decide +kernel
theorem dL_pay_12 : decode cL_pay 12 = .ok (.astore_n 3, 1) := by decide +kernel
theorem dL_pay_13 : decode cL_pay 13 = .ok (.iconst 1, 1) := by decide +kernel
theorem dL_pay_14 : decode cL_pay 14 = .ok (.ireturn, 1) := by decide +kernel
theorem dL_pay_7 : decode cL_pay 7 = .ok (.i2l, 1) := by decide +kernel
theorem dL_pay_8 : decode cL_pay 8 = .ok (.lastore, 1) := by decide +kernel
theorem dL_pay_9 : decode cL_pay 9 = .ok (.goto 6, 3) := by decide +kernel
theorem dL_pay_15 : decode cL_pay 15 = .ok (.iconst 0, 1) := by decide +kernel
theorem dL_pay_16 : decode cL_pay 16 = .ok (.ireturn, 1) := by decide +kernel
def wzEL_pay : List Cond := [.codeWith yL_pay cL_pay 4 (some .int) [(0, 9, 12, 13)], .methodLink RL 50 yX6_pay, .instanceMethod yX6_pay, .selects RX6 yX6_pay yX6_pay, .initialized RX6, .code yX6_pay cX6_pay 2 (some .int), .methodLink RX6 133 yX6_findRole, .instanceMethod yX6_findRole, .selects RX6 yX6_findRole yX6_findRole, .code yX6_findRole cX6_findRole 2 (some (.object "Gatherhouse$Role")), .fieldLink RX6 50 "Gatherhouse" "boy" "LGatherhouse$Role;", .fieldLink RX6 47 "Gatherhouse" "gaffer" "LGatherhouse$Role;", .fieldLink RX6 40 "Gatherhouse" "gatherer" "LGatherhouse$Role;", .fieldLink RX6 44 "Gatherhouse" "servitor" "LGatherhouse$Role;", .classLink RX6 118 "java/lang/IllegalArgumentException", .initialized "java/lang/IllegalArgumentException", .classLink RL 13 "java/lang/IllegalArgumentException"]
def wzL_pay : List Cond := wzEL_pay ++ (u_ws RX6 TX6 16 ++ (u_ws RX4 TX4 2 ++ ((vx_atS RX6 122 "java/lang/IllegalArgumentException" ["java/lang/RuntimeException", "java/lang/Exception"]).filter goodWord)))
theorem zgEL_pay : wzEL_pay.all goodWord = true := by decide +kernel
theorem zuL_pay_X6 : ∀ w ∈ u_ws RX6 TX6 16, w ∈ wzL_pay := (fun _ h => (List.mem_append_right _ (List.mem_append_left _ h)))
theorem zuL_pay_X4 : ∀ w ∈ u_ws RX4 TX4 2, w ∈ wzL_pay := (fun _ h => (List.mem_append_right _ (List.mem_append_right _ (List.mem_append_left _ h))))
theorem ztL_pay_X6_122 : ∀ w ∈ (vx_atS RX6 122 "java/lang/IllegalArgumentException" ["java/lang/RuntimeException", "java/lang/Exception"]).filter goodWord, w ∈ wzL_pay := (fun _ h => (List.mem_append_right _ (List.mem_append_right _ (List.mem_append_right _ h))))
theorem gzL_pay_X6_pay_50 : GoodIn wzL_pay (wsV RL 50 RX6 yX6_pay wzX6_pay) := (goodIn_app (z_lift (goodIn_r _ [1, 2, 3, 4] rfl (by decide +kernel))) (goodIn_app (z_lift (goodIn_r wzEX6_pay [5, 6, 7, 8, 4, 9, 10, 11, 12, 13, 14, 15] rfl zgEX6_pay)) (goodIn_app (goodIn_sub (fun _ h => (List.mem_append_right _ (List.mem_append_left _ h))) zgU_X6) (goodIn_app (goodIn_sub (fun _ h => (List.mem_append_right _ (List.mem_append_right _ (List.mem_append_left _ h)))) zgU_X4) (goodIn_sub (fun _ h => (List.mem_append_right _ (List.mem_append_right _ (List.mem_append_right _ h)))) zgV_X6_122)))))
set_option maxHeartbeats 4000000 in
set_option maxRecDepth 100000 in
theorem zc_L_pay (l : Launch) (hnt : l.stackTraces = false) (D : va_G) (G : Nat × Nat × Nat) (xo : Nat) (xg : Nat) (xp : Nat) (xq : Nat) (r1 : Nat) (r2 : Nat) (r3 : Nat) (r4 : Nat) (se : Nat) (ts : Int32) (hq : Int32) (ou : Nat) (cJ : ClassId) (ch : Int32) (sz : Nat) : vx_Met l yL_pay wzL_pay ({ frames := 8, cells := 1, slots := 6, locals := 124 }) (va_Pc [.ref xo, .int ch, .ref ou] (p_RW D G [(cJ, .long)] [(xo, .inr (11, [.ref xg, .int 0, .ref xp, .int 0, .ref xq, .int 0, .ref r1, .ref r2, .ref r3, .ref r4, .ref se, .int ts, .int hq, .int 40, .int 0, .int 0])), (r1, .inr (9, [.int 0, .int 0])), (r2, .inr (9, [.int 0, .int 0])), (r3, .inr (9, [.int 0, .int 0])), (r4, .inr (9, [.int 0, .int 0])), (ou, .inl (cJ, 1, .inr (.inl (fun _ => 0))))] sz)) (va_Qi (fun (r : Int32) (u : Nat → Int64) => match u with | fo => (isRole ch ∧ fo 0 = 0 ∧ r = 0) ∨ (¬ isRole ch ∧ r = 1)) (fun (u : Nat → Int64) (t : State) => match u with | fo => q_RW D [(cJ, .long)] [(ou, .inl (cJ, 1, .inr (.inl fo)))] (va_A [(xo, .inr (11, [.ref xg, .int 0, .ref xp, .int 0, .ref xq, .int 0, .ref r1, .ref r2, .ref r3, .ref r4, .ref se, .int ts, .int hq, .int 40, .int 0, .int 0])), (r1, .inr (9, [.int 0, .int 0])), (r2, .inr (9, [.int 0, .int 0])), (r3, .inr (9, [.int 0, .int 0])), (r4, .inr (9, [.int 0, .int 0])), (ou, .inl (cJ, 1, .inr (.inl (fun _ => 0))))] sz) t) (va_A [(xo, .inr (11, [.ref xg, .int 0, .ref xp, .int 0, .ref xq, .int 0, .ref r1, .ref r2, .ref r3, .ref r4, .ref se, .int ts, .int hq, .int 40, .int 0, .int 0])), (r1, .inr (9, [.int 0, .int 0])), (r2, .inr (9, [.int 0, .int 0])), (r3, .inr (9, [.int 0, .int 0])), (r4, .inr (9, [.int 0, .int 0])), (ou, .inl (cJ, 1, .inr (.inl (fun _ => 0))))] sz)) (vx_X (fun (_ : Unit) => True) (fun E (_ : Unit) (_ : State) => False) (va_A [(xo, .inr (11, [.ref xg, .int 0, .ref xp, .int 0, .ref xq, .int 0, .ref r1, .ref r2, .ref r3, .ref r4, .ref se, .int ts, .int hq, .int 40, .int 0, .int 0])), (r1, .inr (9, [.int 0, .int 0])), (r2, .inr (9, [.int 0, .int 0])), (r3, .inr (9, [.int 0, .int 0])), (r4, .inr (9, [.int 0, .int 0])), (ou, .inl (cJ, 1, .inr (.inl (fun _ => 0))))] sz)) 1 6 (va_A [(xo, .inr (11, [.ref xg, .int 0, .ref xp, .int 0, .ref xq, .int 0, .ref r1, .ref r2, .ref r3, .ref r4, .ref se, .int ts, .int hq, .int 40, .int 0, .int 0])), (r1, .inr (9, [.int 0, .int 0])), (r2, .inr (9, [.int 0, .int 0])), (r3, .inr (9, [.int 0, .int 0])), (r4, .inr (9, [.int 0, .int 0])), (ou, .inl (cJ, 1, .inr (.inl (fun _ => 0))))] sz) := by
  refine vx_ofWH (cc := cL_pay) (maxL := 4) (ret := (some .int)) (by decide) rfl ?_
  intro p e s m args below meth c s₁ B hml hv
  obtain ⟨rfl, hsz, hP, hK, hD0, hT, hZ⟩ := hv
  have hx := B.exec
  have hb := B.bytes
  have hr := B.returns
  have hts := atoms_spec (ws := wzL_pay) B.pre
  have hown : s.vm.findClass RL = some m.cls := findClass_of_methodNamed B.named
  have hlocks := B.notSynchronized
  have hxe := vx_table (x := yL_pay) B (hts _ List.mem_cons_self)
  subst hsz
  have hD := hD0.self (sz := s.heap.size)
  generalize hAe : va_A [(xo, .inr (11, [.ref xg, .int 0, .ref xp, .int 0, .ref xq, .int 0, .ref r1, .ref r2, .ref r3, .ref r4, .ref se, .int ts, .int hq, .int 40, .int 0, .int 0])), (r1, .inr (9, [.int 0, .int 0])), (r2, .inr (9, [.int 0, .int 0])), (r3, .inr (9, [.int 0, .int 0])), (r4, .inr (9, [.int 0, .int 0])), (ou, .inl (cJ, 1, .inr (.inl (fun _ => 0))))] s.heap.size = A at hD hZ ⊢
  have hA : ∀ q : Nat, s.heap.size ≤ q → A q := fun q h => by rw [← hAe]; exact Or.inr h
  have hS : va_S A s.heap s.heap [] := va_S.rf
  have hl := lv_entry ([.ref xo, .int ch, .ref ou]) (n := 4) (Nat.le_of_ble_eq_true rfl)
  rw [lg_entry_eq]
  generalize (lg_sl ([.ref xo, .int ch, .ref ou]) ++ List.replicate (4 - (lg_sl ([.ref xo, .int ch, .ref ou])).length) Slot.unset).toArray = ls at hl ⊢
  have hl : lv_has ls 4 [(0, .ref xo), (1, .int ch), (2, .ref ou)] := hl
  refine lv_aload_n hx hb dL_pay_0 rfl (lv_at hl 2 rfl) ?_
  refine lv_iconst (v := 0) hx hb dL_pay_1 (by decide) ?_
  refine lv_aload_n hx hb dL_pay_2 rfl (lv_at hl 0 rfl) ?_
  refine lv_iload_n hx hb dL_pay_3 rfl (lv_at hl 1 rfl) ?_
  have hFc := va_free (wc := [(xo, .inr (11, [.ref xg, .int 0, .ref xp, .int 0, .ref xq, .int 0, .ref r1, .ref r2, .ref r3, .ref r4, .ref se, .int ts, .int hq, .int 40, .int 0, .int 0])), (r1, .inr (9, [.int 0, .int 0])), (r2, .inr (9, [.int 0, .int 0])), (r3, .inr (9, [.int 0, .int 0])), (r4, .inr (9, [.int 0, .int 0]))]) hD hS hA [0, 1, 2, 3, 4] rfl
  refine vx_calli (vx_runV (As := [.int ch]) (rest := [.int 0, .ref ou]) ⟨hx, hb, hml, hown, hts⟩ (zc_X6_pay l hnt D G xo xg xp xq r1 r2 r3 r4 se ts hq ch s.heap.size) (cwV 1 hts gzL_pay_X6_pay_50 rfl rfl rfl (by decide +kernel) ⟨(Nat.le_of_ble_eq_true rfl), (Nat.le_of_ble_eq_true rfl)⟩) ⟨p_RW_blind, va_recv hK hP (ci := 11) (q0 := 0) rfl rfl, (p_RW_at (tc := []) (wc := [(xo, .inr (11, [.ref xg, .int 0, .ref xp, .int 0, .ref xq, .int 0, .ref r1, .ref r2, .ref r3, .ref r4, .ref se, .int ts, .int hq, .int 40, .int 0, .int 0])), (r1, .inr (9, [.int 0, .int 0])), (r2, .inr (9, [.int 0, .int 0])), (r3, .inr (9, [.int 0, .int 0])), (r4, .inr (9, [.int 0, .int 0]))]) hP hK hD hS hA hT hZ [0, 1, 2, 3, 4] [] rfl rfl (by decide) rfl [.ref xo, .int ch])⟩ rfl rfl hl.1 rfl (lv_room (Nat.le_of_ble_eq_true rfl)) dL_pay_4 ⟨(Nat.le_of_ble_eq_true rfl), (Nat.le_of_ble_eq_true rfl)⟩) hS (fun q _ h => hFc q h) hFc (fun q _ h => hFc q h) (fun E ce q9 u t H locs ht hvm hpx hBX hz1 hk1 hS hce hcv hcl => ?_) (fun r_795 u t H locs ht hvm w_796 hB hz1 hk1 hS => ?_)
  · have hBX : (E = "java/lang/IllegalArgumentException" ∧ (¬ isRole ch)) := hBX
    rcases hBX with ⟨rfl, c_797⟩
    refine vx_catch (own := RL) (name := "java/lang/IllegalArgumentException") hown ([] : List ExceptionTableEntry) ⟨0, 9, 12, 13⟩ ([] : List ExceptionTableEntry) (by rw [hxe]; rfl) (fun _ h => absurd h List.not_mem_nil) (by decide) (by decide) (hts (.classLink RL 13 "java/lang/IllegalArgumentException") (by decide +kernel)) (va_Nw.use rfl (hT.2.2.1 ("java/lang/IllegalArgumentException", "java/lang/IllegalArgumentException") (by decide +kernel))) hce hcv hcl ?_
    obtain ⟨hP, hD, hK⟩ := q_join (D := D) (wc := [(xo, .inr (11, [.ref xg, .int 0, .ref xp, .int 0, .ref xq, .int 0, .ref r1, .ref r2, .ref r3, .ref r4, .ref se, .int ts, .int hq, .int 40, .int 0, .int 0])), (r1, .inr (9, [.int 0, .int 0])), (r2, .inr (9, [.int 0, .int 0])), (r3, .inr (9, [.int 0, .int 0])), (r4, .inr (9, [.int 0, .int 0]))]) (wr := [(ou, .inl (cJ, 1, .inr (.inl (fun _ => 0))))]) (w1 := []) (tyr := [(cJ, .long)]) (ty1 := []) hP hD hK [0, 1, 2, 3, 4] [5] [0] rfl rfl (by decide) (by decide) rfl hFc hk1 ht hvm (q_none hK hvm)
    have hP : va_P D vwCl [(ou, .inl (cJ, 1, .inr (.inl (fun _ => 0))))] H := hP
    have hD : va_D A [(ou, .inl (cJ, 1, .inr (.inl (fun _ => 0))))] := hD
    have hK : va_K D vwCl [(cJ, .long)] s := hK
    refine W.eq (g2 := F0 m 12 ls [.ref q9]) rfl ?_
    refine lv_astore_n (lv' := [(3, .ref q9), (0, .ref xo), (1, .int ch), (2, .ref ou)]) hx hb dL_pay_12 rfl hl (by decide) rfl (fun ls hl => ?_)
    refine lv_iconst (v := 1) hx hb dL_pay_13 (by decide) ?_
    refine vx_ret ?_
    exact W.iret (v := 1) hx hb hr (fun t ht hW => ⟨⟨1, (fun _ => 0), rfl, (Or.inr (⟨(by first | assumption | exact inR_1 (by assumption) (by assumption) | exact inR_2 (by assumption) (by assumption) | exact inR_3 (by assumption) | exact inR_4 (by assumption) | exact inR_5 (by assumption) | exact ⟨by assumption, by assumption, by assumption, by assumption⟩ | exact ⟨by assumption, by assumption, by assumption⟩ | exact (fun q => absurd q.1 (by assumption)) | exact (fun q => absurd q.2.1 (by assumption)) | exact (fun q => absurd q.2.2 (by assumption)) | exact (fun q => absurd q.2.2.1 (by assumption)) | exact (fun q => absurd q.2.2.2 (by assumption)) | exact isRole_no (by assumption) (by assumption) (by assumption) (by assumption) | exact isRole_nb (by assumption) (by assumption) (by assumption) (by assumption) | exact isRole_out (by assumption) | exact enc_use (by assumption) (by assumption) (by assumption) | exact enc_103 (by assumption) | exact enc_103 (Eq.symm (by assumption)) | exact enc_115 (Eq.symm (by assumption)) | exact enc_102 (Eq.symm (by assumption)) | exact enc_98 (Eq.symm (by assumption)) | exact isRole_nc (by assumption) (by assumption) (by assumption) (by assumption) | exact enc_115 (by assumption) | exact enc_102 (by assumption) | exact enc_98 (by assumption) | exact Or.inr (by assumption) | rfl | exact Or.inl (by assumption) | exact Or.inr (Or.inl (by assumption)) | exact Or.inr (Or.inr (Or.inl (by assumption))) | exact Or.inr (Or.inr (Or.inr (by assumption))) | decide), rfl⟩)), q_RW_mk hP hK hD [0] [0] rfl rfl (by decide) rfl ht hW.alike⟩, hS.F ht⟩) hS.2.2 dL_pay_14
  · obtain ⟨hP, hD, hK⟩ := q_join (D := D) (wc := [(xo, .inr (11, [.ref xg, .int 0, .ref xp, .int 0, .ref xq, .int 0, .ref r1, .ref r2, .ref r3, .ref r4, .ref se, .int ts, .int hq, .int 40, .int 0, .int 0])), (r1, .inr (9, [.int 0, .int 0])), (r2, .inr (9, [.int 0, .int 0])), (r3, .inr (9, [.int 0, .int 0])), (r4, .inr (9, [.int 0, .int 0]))]) (wr := [(ou, .inl (cJ, 1, .inr (.inl (fun _ => 0))))]) (w1 := []) (tyr := [(cJ, .long)]) (ty1 := []) hP hD hK [0, 1, 2, 3, 4] [5] [0] rfl rfl (by decide) (by decide) rfl hFc hk1 ht hvm (q_none hK hvm)
    have hP : va_P D vwCl [(ou, .inl (cJ, 1, .inr (.inl (fun _ => 0))))] H := hP
    have hD : va_D A [(ou, .inl (cJ, 1, .inr (.inl (fun _ => 0))))] := hD
    have hK : va_K D vwCl [(cJ, .long)] s := hK
    refine W.widen (k := 1) (n := 6) (Nat.le_of_ble_eq_true rfl) (Nat.le_of_ble_eq_true rfl) ?_
    obtain ⟨c_798, rfl⟩ := w_796
    refine lv_i2l (v := 0) hx hb dL_pay_7 (by decide) ?_
    refine va_last (D := D) (cl := vwCl) hx hb hK hP hD hS 0 0 rfl rfl (vp_in_nI (n := 0) (N := 1) (by decide) (by decide)) dL_pay_8 (fun H locs hP hD hS => ?_)
    have hP : va_P D vwCl [(ou, .inl (cJ, 1, .inr (.inl (vp_updL (fun _ => 0) (0 : Int32).toNatClampNeg 0))))] H := hP
    have hD : va_D A [(ou, .inl (cJ, 1, .inr (.inl (vp_updL (fun _ => 0) (0 : Int32).toNatClampNeg 0))))] := hD
    refine lv_goto (tgt := 15) hx hb dL_pay_9 (by decide) ?_
    refine lv_iconst (v := 0) hx hb dL_pay_15 (by decide) ?_
    refine vx_ret ?_
    exact W.iret (v := 0) hx hb hr (fun t ht hW => ⟨⟨0, (vp_updL (fun _ => 0) (0 : Int32).toNatClampNeg 0), rfl, (Or.inl (⟨(by first | assumption | exact inR_1 (by assumption) (by assumption) | exact inR_2 (by assumption) (by assumption) | exact inR_3 (by assumption) | exact inR_4 (by assumption) | exact inR_5 (by assumption) | exact ⟨by assumption, by assumption, by assumption, by assumption⟩ | exact ⟨by assumption, by assumption, by assumption⟩ | exact (fun q => absurd q.1 (by assumption)) | exact (fun q => absurd q.2.1 (by assumption)) | exact (fun q => absurd q.2.2 (by assumption)) | exact (fun q => absurd q.2.2.1 (by assumption)) | exact (fun q => absurd q.2.2.2 (by assumption)) | exact isRole_no (by assumption) (by assumption) (by assumption) (by assumption) | exact isRole_nb (by assumption) (by assumption) (by assumption) (by assumption) | exact isRole_out (by assumption) | exact enc_use (by assumption) (by assumption) (by assumption) | exact enc_103 (by assumption) | exact enc_103 (Eq.symm (by assumption)) | exact enc_115 (Eq.symm (by assumption)) | exact enc_102 (Eq.symm (by assumption)) | exact enc_98 (Eq.symm (by assumption)) | exact isRole_nc (by assumption) (by assumption) (by assumption) (by assumption) | exact enc_115 (by assumption) | exact enc_102 (by assumption) | exact enc_98 (by assumption) | exact Or.inr (by assumption) | rfl | exact Or.inl (by assumption) | exact Or.inr (Or.inl (by assumption)) | exact Or.inr (Or.inr (Or.inl (by assumption))) | exact Or.inr (Or.inr (Or.inr (by assumption))) | decide), (by first | assumption | exact inR_1 (by assumption) (by assumption) | exact inR_2 (by assumption) (by assumption) | exact inR_3 (by assumption) | exact inR_4 (by assumption) | exact inR_5 (by assumption) | exact ⟨by assumption, by assumption, by assumption, by assumption⟩ | exact ⟨by assumption, by assumption, by assumption⟩ | exact (fun q => absurd q.1 (by assumption)) | exact (fun q => absurd q.2.1 (by assumption)) | exact (fun q => absurd q.2.2 (by assumption)) | exact (fun q => absurd q.2.2.1 (by assumption)) | exact (fun q => absurd q.2.2.2 (by assumption)) | exact isRole_no (by assumption) (by assumption) (by assumption) (by assumption) | exact isRole_nb (by assumption) (by assumption) (by assumption) (by assumption) | exact isRole_out (by assumption) | exact enc_use (by assumption) (by assumption) (by assumption) | exact enc_103 (by assumption) | exact enc_103 (Eq.symm (by assumption)) | exact enc_115 (Eq.symm (by assumption)) | exact enc_102 (Eq.symm (by assumption)) | exact enc_98 (Eq.symm (by assumption)) | exact isRole_nc (by assumption) (by assumption) (by assumption) (by assumption) | exact enc_115 (by assumption) | exact enc_102 (by assumption) | exact enc_98 (by assumption) | exact Or.inr (by assumption) | rfl | exact Or.inl (by assumption) | exact Or.inr (Or.inl (by assumption)) | exact Or.inr (Or.inr (Or.inl (by assumption))) | exact Or.inr (Or.inr (Or.inr (by assumption))) | decide), rfl⟩)), q_RW_mk hP hK hD [0] [0] rfl rfl (by decide) rfl ht hW.alike⟩, hS.F ht⟩) hS.2.2 dL_pay_16
theorem zgV_X6_284 : ((z_atN RX6 284 "java/util/NoSuchElementException" "java/lang/RuntimeException" ["java/lang/Exception"]).filter goodWord).all goodWord = true := by decide +kernel
theorem dL_set_0 : decode cL_set 0 = .ok (.aload 4, 2) := by decide +kernel
theorem dL_set_2 : decode cL_set 2 = .ok (.iconst 0, 1) := by decide +kernel
theorem dL_set_3 : decode cL_set 3 = .ok (.aload_n 0, 1) := by decide +kernel
theorem dL_set_4 : decode cL_set 4 = .ok (.iload_n 1, 1) := by decide +kernel
theorem dL_set_5 : decode cL_set 5 = .ok (.iload_n 2, 1) := by decide +kernel
theorem dL_set_6 : decode cL_set 6 = .ok (.iload_n 3, 1) := by decide +kernel
theorem dL_set_7 : decode cL_set 7 = .ok (.invokevirtual 135, 3) := by decide +kernel
theorem dL_set_15 : decode cL_set 15 = .ok (.astore 5, 2) := by decide +kernel
theorem dL_set_17 : decode cL_set 17 = .ok (.iconst 1, 1) := by decide +kernel
theorem dL_set_18 : decode cL_set 18 = .ok (.ireturn, 1) := by decide +kernel
theorem dL_set_19 : decode cL_set 19 = .ok (.astore 5, 2) := by decide +kernel
theorem dL_set_21 : decode cL_set 21 = .ok (.iconst 2, 1) := by decide +kernel
theorem dL_set_22 : decode cL_set 22 = .ok (.ireturn, 1) := by decide +kernel
def wzEL_set : List Cond := [.codeWith yL_set cL_set 6 (some .int) [(0, 12, 15, 13), (0, 12, 19, 91), (0, 12, 23, 41)], .methodLink RL 135 yX6_set, .instanceMethod yX6_set, .selects RX6 yX6_set yX6_set, .initialized RX6, .code yX6_set cX6_set 6 (some .int), .methodLink RX6 75 yX6_checkRange, .static yX6_checkRange, .code yX6_checkRange cX6_checkRange 3 none, .classLink RX6 118 "java/lang/IllegalArgumentException", .initialized "java/lang/IllegalArgumentException", .fieldLink RX6 56 "Gatherhouse" "search" "LGatherhouse$SetSearch;", .code yX5_begin cX5_begin 1 none, .fieldLink RX5 21 "Gatherhouse$SetSearch" "size" "I", .constant RX5 36 (2147483647), .fieldLink RX5 25 "Gatherhouse$SetSearch" "bestApart" "I", .fieldLink RX5 28 "Gatherhouse$SetSearch" "bestMass" "I", .fieldLink RX5 31 "Gatherhouse$SetSearch" "bestChoice" "I", .initialized RX5, .instanceMethod yX5_begin, .selects RX5 yX5_begin yX5_begin, .fieldLink RX6 30 "Gatherhouse" "pieces" "[LGatherhouse$Piece;", .classLink RX6 280 "java/util/NoSuchElementException", .initialized "java/util/NoSuchElementException", .classLink RL 13 "java/lang/IllegalArgumentException", .classLink RL 91 "java/util/NoSuchElementException"]
def wzL_set : List Cond := wzEL_set ++ (u_ws RX6 TX6 16 ++ (u_ws RX5 TX5 7 ++ ((vx_atS RX6 122 "java/lang/IllegalArgumentException" ["java/lang/RuntimeException", "java/lang/Exception"]).filter goodWord ++ ((z_atN RX6 284 "java/util/NoSuchElementException" "java/lang/RuntimeException" ["java/lang/Exception"]).filter goodWord))))
theorem zgEL_set : wzEL_set.all goodWord = true := by decide +kernel
theorem zuL_set_X6 : ∀ w ∈ u_ws RX6 TX6 16, w ∈ wzL_set := (fun _ h => (List.mem_append_right _ (List.mem_append_left _ h)))
theorem zuL_set_X5 : ∀ w ∈ u_ws RX5 TX5 7, w ∈ wzL_set := (fun _ h => (List.mem_append_right _ (List.mem_append_right _ (List.mem_append_left _ h))))
theorem ztL_set_X6_122 : ∀ w ∈ (vx_atS RX6 122 "java/lang/IllegalArgumentException" ["java/lang/RuntimeException", "java/lang/Exception"]).filter goodWord, w ∈ wzL_set := (fun _ h => (List.mem_append_right _ (List.mem_append_right _ (List.mem_append_right _ (List.mem_append_left _ h)))))
theorem ztL_set_X6_284 : ∀ w ∈ (z_atN RX6 284 "java/util/NoSuchElementException" "java/lang/RuntimeException" ["java/lang/Exception"]).filter goodWord, w ∈ wzL_set := (fun _ h => (List.mem_append_right _ (List.mem_append_right _ (List.mem_append_right _ (List.mem_append_right _ h)))))
theorem gzL_set_X6_set_135 : GoodIn wzL_set (wsV RL 135 RX6 yX6_set wzX6_set) := (goodIn_app (z_lift (goodIn_r _ [1, 2, 3, 4] rfl (by decide +kernel))) (goodIn_app (z_lift (goodIn_r wzEX6_set [5, 6, 7, 4, 8, 9, 10, 11, 12, 13, 14, 15, 16, 17, 18, 19, 20, 21, 22, 23] rfl zgEX6_set)) (goodIn_app (goodIn_sub (fun _ h => (List.mem_append_right _ (List.mem_append_left _ h))) zgU_X6) (goodIn_app (goodIn_sub (fun _ h => (List.mem_append_right _ (List.mem_append_right _ (List.mem_append_left _ h)))) zgU_X5) (goodIn_app (goodIn_sub (fun _ h => (List.mem_append_right _ (List.mem_append_right _ (List.mem_append_right _ (List.mem_append_left _ h))))) zgV_X6_122) (goodIn_sub (fun _ h => (List.mem_append_right _ (List.mem_append_right _ (List.mem_append_right _ (List.mem_append_right _ h))))) zgV_X6_284))))))
set_option maxHeartbeats 4000000 in
set_option maxRecDepth 100000 in
theorem zc_L_set (l : Launch) (hnt : l.stackTraces = false) (D : va_G) (G : Nat × Nat × Nat) (xo : Nat) (xg : Nat) (xp : Nat) (xq : Nat) (r1 : Nat) (r2 : Nat) (r3 : Nat) (r4 : Nat) (se : Nat) (ts : Int32) (hq : Int32) (cq : ClassId) (n1 : Nat) (n2 : Nat) (n3 : Nat) (ou : Nat) (cJ : ClassId) (ii : Int32) (jj : Int32) (kk : Int32) (sz : Nat) : vx_Met l yL_set wzL_set ({ frames := 8, cells := 4, slots := 24, locals := 129 }) (va_Pc [.ref xo, .int ii, .int jj, .int kk, .ref ou] (p_RW D G [(cq, .object "Gatherhouse$Piece"), (cJ, .long)] [(xo, .inr (11, [.ref xg, .int 0, .ref xp, .int 0, .ref xq, .int 0, .ref r1, .ref r2, .ref r3, .ref r4, .ref se, .int ts, .int hq, .int 40, .int 0, .int 0])), (xq, .inl (cq, 16, .inr (.inr (.inr (.inr (fun _ => none)))))), (se, .inr (10, [.ref n1, .ref n2, .ref n3, .int 0, .int 0, .int 0, .int 0])), (ou, .inl (cJ, 1, .inr (.inl (fun _ => 0))))] sz)) (va_Qi (fun (r : Int32) (u : Unit) => (sOK ii jj kk ∧ r = 2) ∨ (¬ sOK ii jj kk ∧ r = 1)) (fun (u : Unit) (t : State) => True) (va_A [(xo, .inr (11, [.ref xg, .int 0, .ref xp, .int 0, .ref xq, .int 0, .ref r1, .ref r2, .ref r3, .ref r4, .ref se, .int ts, .int hq, .int 40, .int 0, .int 0])), (xq, .inl (cq, 16, .inr (.inr (.inr (.inr (fun _ => none)))))), (se, .inr (10, [.ref n1, .ref n2, .ref n3, .int 0, .int 0, .int 0, .int 0])), (ou, .inl (cJ, 1, .inr (.inl (fun _ => 0))))] sz)) (vx_X (fun (_ : Unit) => True) (fun E (_ : Unit) (_ : State) => False) (va_A [(xo, .inr (11, [.ref xg, .int 0, .ref xp, .int 0, .ref xq, .int 0, .ref r1, .ref r2, .ref r3, .ref r4, .ref se, .int ts, .int hq, .int 40, .int 0, .int 0])), (xq, .inl (cq, 16, .inr (.inr (.inr (.inr (fun _ => none)))))), (se, .inr (10, [.ref n1, .ref n2, .ref n3, .int 0, .int 0, .int 0, .int 0])), (ou, .inl (cJ, 1, .inr (.inl (fun _ => 0))))] sz)) 4 24 (va_A [(xo, .inr (11, [.ref xg, .int 0, .ref xp, .int 0, .ref xq, .int 0, .ref r1, .ref r2, .ref r3, .ref r4, .ref se, .int ts, .int hq, .int 40, .int 0, .int 0])), (xq, .inl (cq, 16, .inr (.inr (.inr (.inr (fun _ => none)))))), (se, .inr (10, [.ref n1, .ref n2, .ref n3, .int 0, .int 0, .int 0, .int 0])), (ou, .inl (cJ, 1, .inr (.inl (fun _ => 0))))] sz) := by
  refine vx_ofWH (cc := cL_set) (maxL := 6) (ret := (some .int)) (by decide) rfl ?_
  intro p e s m args below meth c s₁ B hml hv
  obtain ⟨rfl, hsz, hP, hK, hD0, hT, hZ⟩ := hv
  have hx := B.exec
  have hb := B.bytes
  have hr := B.returns
  have hts := atoms_spec (ws := wzL_set) B.pre
  have hown : s.vm.findClass RL = some m.cls := findClass_of_methodNamed B.named
  have hlocks := B.notSynchronized
  have hxe := vx_table (x := yL_set) B (hts _ List.mem_cons_self)
  subst hsz
  have hD := hD0.self (sz := s.heap.size)
  generalize hAe : va_A [(xo, .inr (11, [.ref xg, .int 0, .ref xp, .int 0, .ref xq, .int 0, .ref r1, .ref r2, .ref r3, .ref r4, .ref se, .int ts, .int hq, .int 40, .int 0, .int 0])), (xq, .inl (cq, 16, .inr (.inr (.inr (.inr (fun _ => none)))))), (se, .inr (10, [.ref n1, .ref n2, .ref n3, .int 0, .int 0, .int 0, .int 0])), (ou, .inl (cJ, 1, .inr (.inl (fun _ => 0))))] s.heap.size = A at hD hZ ⊢
  have hA : ∀ q : Nat, s.heap.size ≤ q → A q := fun q h => by rw [← hAe]; exact Or.inr h
  have hS : va_S A s.heap s.heap [] := va_S.rf
  have hl := lv_entry ([.ref xo, .int ii, .int jj, .int kk, .ref ou]) (n := 6) (Nat.le_of_ble_eq_true rfl)
  rw [lg_entry_eq]
  generalize (lg_sl ([.ref xo, .int ii, .int jj, .int kk, .ref ou]) ++ List.replicate (6 - (lg_sl ([.ref xo, .int ii, .int jj, .int kk, .ref ou])).length) Slot.unset).toArray = ls at hl ⊢
  have hl : lv_has ls 6 [(0, .ref xo), (1, .int ii), (2, .int jj), (3, .int kk), (4, .ref ou)] := hl
  refine lv_aload hx hb dL_set_0 (lv_at hl 4 rfl) ?_
  refine lv_iconst (v := 0) hx hb dL_set_2 (by decide) ?_
  refine lv_aload_n hx hb dL_set_3 rfl (lv_at hl 0 rfl) ?_
  refine lv_iload_n hx hb dL_set_4 rfl (lv_at hl 1 rfl) ?_
  refine lv_iload_n hx hb dL_set_5 rfl (lv_at hl 2 rfl) ?_
  refine lv_iload_n hx hb dL_set_6 rfl (lv_at hl 3 rfl) ?_
  have hFc := va_free (wc := [(xo, .inr (11, [.ref xg, .int 0, .ref xp, .int 0, .ref xq, .int 0, .ref r1, .ref r2, .ref r3, .ref r4, .ref se, .int ts, .int hq, .int 40, .int 0, .int 0])), (xq, .inl (cq, 16, .inr (.inr (.inr (.inr (fun _ => none)))))), (se, .inr (10, [.ref n1, .ref n2, .ref n3, .int 0, .int 0, .int 0, .int 0]))]) hD hS hA [0, 1, 2] rfl
  refine vx_calli (vx_runV (As := [.int ii, .int jj, .int kk]) (rest := [.int 0, .ref ou]) ⟨hx, hb, hml, hown, hts⟩ (zc_X6_set l hnt D G xo xg xp xq r1 r2 r3 r4 se ts hq cq n1 n2 n3 ii jj kk s.heap.size) (cwV 3 hts gzL_set_X6_set_135 rfl rfl rfl (by decide +kernel) ⟨(Nat.le_of_ble_eq_true rfl), (Nat.le_of_ble_eq_true rfl)⟩) ⟨p_RW_blind, va_recv hK hP (ci := 11) (q0 := 0) rfl rfl, (p_RW_at (tc := [(cq, .object "Gatherhouse$Piece")]) (wc := [(xo, .inr (11, [.ref xg, .int 0, .ref xp, .int 0, .ref xq, .int 0, .ref r1, .ref r2, .ref r3, .ref r4, .ref se, .int ts, .int hq, .int 40, .int 0, .int 0])), (xq, .inl (cq, 16, .inr (.inr (.inr (.inr (fun _ => none)))))), (se, .inr (10, [.ref n1, .ref n2, .ref n3, .int 0, .int 0, .int 0, .int 0]))]) hP hK hD hS hA hT hZ [0, 1, 2] [0] rfl rfl (by decide) rfl [.ref xo, .int ii, .int jj, .int kk])⟩ rfl rfl hl.1 rfl (lv_room (Nat.le_of_ble_eq_true rfl)) dL_set_7 ⟨(Nat.le_of_ble_eq_true rfl), (Nat.le_of_ble_eq_true rfl)⟩) hS (fun q _ h => hFc q h) hFc (fun q _ h => hFc q h) (fun E ce q9 u t H locs ht hvm hpx hBX hz1 hk1 hS hce hcv hcl => ?_) (fun r_799 u t H locs ht hvm w_800 hB hz1 hk1 hS => ?_)
  · have hBX : (E = "java/lang/IllegalArgumentException" ∧ (¬ sOK ii jj kk)) ∨ (E = "java/util/NoSuchElementException" ∧ (sOK ii jj kk)) := hBX
    rcases hBX with ⟨rfl, c_801⟩ | ⟨rfl, c_802⟩
    · refine vx_catch (own := RL) (name := "java/lang/IllegalArgumentException") hown ([] : List ExceptionTableEntry) ⟨0, 12, 15, 13⟩ ([⟨0, 12, 19, 91⟩, ⟨0, 12, 23, 41⟩] : List ExceptionTableEntry) (by rw [hxe]; rfl) (fun _ h => absurd h List.not_mem_nil) (by decide) (by decide) (hts (.classLink RL 13 "java/lang/IllegalArgumentException") (by decide +kernel)) (va_Nw.use rfl (hT.2.2.1 ("java/lang/IllegalArgumentException", "java/lang/IllegalArgumentException") (by decide +kernel))) hce hcv hcl ?_
      refine W.eq (g2 := F0 m 15 ls [.ref q9]) rfl ?_
      refine lv_astore (lv' := [(5, .ref q9), (0, .ref xo), (1, .int ii), (2, .int jj), (3, .int kk), (4, .ref ou)]) hx hb dL_set_15 hl (by decide) rfl (fun ls hl => ?_)
      refine lv_iconst (v := 1) hx hb dL_set_17 (by decide) ?_
      refine vx_ret ?_
      exact W.iret (v := 1) hx hb hr (fun t ht hW => ⟨⟨1, (), rfl, (Or.inr (⟨(by first | assumption | exact inR_1 (by assumption) (by assumption) | exact inR_2 (by assumption) (by assumption) | exact inR_3 (by assumption) | exact inR_4 (by assumption) | exact inR_5 (by assumption) | exact ⟨by assumption, by assumption, by assumption, by assumption⟩ | exact ⟨by assumption, by assumption, by assumption⟩ | exact (fun q => absurd q.1 (by assumption)) | exact (fun q => absurd q.2.1 (by assumption)) | exact (fun q => absurd q.2.2 (by assumption)) | exact (fun q => absurd q.2.2.1 (by assumption)) | exact (fun q => absurd q.2.2.2 (by assumption)) | exact isRole_no (by assumption) (by assumption) (by assumption) (by assumption) | exact isRole_nb (by assumption) (by assumption) (by assumption) (by assumption) | exact isRole_out (by assumption) | exact enc_use (by assumption) (by assumption) (by assumption) | exact enc_103 (by assumption) | exact enc_103 (Eq.symm (by assumption)) | exact enc_115 (Eq.symm (by assumption)) | exact enc_102 (Eq.symm (by assumption)) | exact enc_98 (Eq.symm (by assumption)) | exact isRole_nc (by assumption) (by assumption) (by assumption) (by assumption) | exact enc_115 (by assumption) | exact enc_102 (by assumption) | exact enc_98 (by assumption) | exact Or.inr (by assumption) | rfl | exact Or.inl (by assumption) | exact Or.inr (Or.inl (by assumption)) | exact Or.inr (Or.inr (Or.inl (by assumption))) | exact Or.inr (Or.inr (Or.inr (by assumption))) | decide), rfl⟩)), trivial⟩, hS.F ht⟩) hS.2.2 dL_set_18
    · refine vx_catch (own := RL) (name := "java/util/NoSuchElementException") hown ([⟨0, 12, 15, 13⟩] : List ExceptionTableEntry) ⟨0, 12, 19, 91⟩ ([⟨0, 12, 23, 41⟩] : List ExceptionTableEntry) (by rw [hxe]; rfl) (List.forall_mem_cons.mpr ⟨Or.inr ⟨by decide, "java/lang/IllegalArgumentException", (hts (.classLink RL 13 "java/lang/IllegalArgumentException") (by decide +kernel)), hT.2.2.2.1 ("java/util/NoSuchElementException", "java/lang/IllegalArgumentException") (by decide +kernel)⟩, (fun _ h => absurd h List.not_mem_nil)⟩) (by decide) (by decide) (hts (.classLink RL 91 "java/util/NoSuchElementException") (by decide +kernel)) (va_Nw.use rfl (hT.2.2.1 ("java/util/NoSuchElementException", "java/util/NoSuchElementException") (by decide +kernel))) hce hcv hcl ?_
      refine W.eq (g2 := F0 m 19 ls [.ref q9]) rfl ?_
      refine lv_astore (lv' := [(5, .ref q9), (0, .ref xo), (1, .int ii), (2, .int jj), (3, .int kk), (4, .ref ou)]) hx hb dL_set_19 hl (by decide) rfl (fun ls hl => ?_)
      refine lv_iconst (v := 2) hx hb dL_set_21 (by decide) ?_
      refine vx_ret ?_
      exact W.iret (v := 2) hx hb hr (fun t ht hW => ⟨⟨2, (), rfl, (Or.inl (⟨(by first | assumption | exact inR_1 (by assumption) (by assumption) | exact inR_2 (by assumption) (by assumption) | exact inR_3 (by assumption) | exact inR_4 (by assumption) | exact inR_5 (by assumption) | exact ⟨by assumption, by assumption, by assumption, by assumption⟩ | exact ⟨by assumption, by assumption, by assumption⟩ | exact (fun q => absurd q.1 (by assumption)) | exact (fun q => absurd q.2.1 (by assumption)) | exact (fun q => absurd q.2.2 (by assumption)) | exact (fun q => absurd q.2.2.1 (by assumption)) | exact (fun q => absurd q.2.2.2 (by assumption)) | exact isRole_no (by assumption) (by assumption) (by assumption) (by assumption) | exact isRole_nb (by assumption) (by assumption) (by assumption) (by assumption) | exact isRole_out (by assumption) | exact enc_use (by assumption) (by assumption) (by assumption) | exact enc_103 (by assumption) | exact enc_103 (Eq.symm (by assumption)) | exact enc_115 (Eq.symm (by assumption)) | exact enc_102 (Eq.symm (by assumption)) | exact enc_98 (Eq.symm (by assumption)) | exact isRole_nc (by assumption) (by assumption) (by assumption) (by assumption) | exact enc_115 (by assumption) | exact enc_102 (by assumption) | exact enc_98 (by assumption) | exact Or.inr (by assumption) | rfl | exact Or.inl (by assumption) | exact Or.inr (Or.inl (by assumption)) | exact Or.inr (Or.inr (Or.inl (by assumption))) | exact Or.inr (Or.inr (Or.inr (by assumption))) | decide), rfl⟩)), trivial⟩, hS.F ht⟩) hS.2.2 dL_set_22
  · exact w_800.elim
theorem dL_wholeShare_0 : decode cL_wholeShare 0 = .ok (.aload_n 1, 1) := by decide +kernel
theorem dL_wholeShare_1 : decode cL_wholeShare 1 = .ok (.iconst 0, 1) := by decide +kernel
theorem dL_wholeShare_2 : decode cL_wholeShare 2 = .ok (.aload_n 0, 1) := by decide +kernel
theorem dL_wholeShare_3 : decode cL_wholeShare 3 = .ok (.invokevirtual 147, 3) := by decide +kernel
theorem dL_wholeShare_11 : decode cL_wholeShare 11 = .ok (.astore_n 2, 1) := by decide +kernel
theorem dL_wholeShare_12 : decode cL_wholeShare 12 = .ok (.iconst 1, 1) := by decide +kernel
theorem dL_wholeShare_13 : decode cL_wholeShare 13 = .ok (.ireturn, 1) := by decide +kernel
def wzEL_wholeShare : List Cond := [.codeWith yL_wholeShare cL_wholeShare 3 (some .int) [(0, 8, 11, 91)], .methodLink RL 147 yX6_wholeShare, .instanceMethod yX6_wholeShare, .selects RX6 yX6_wholeShare yX6_wholeShare, .initialized RX6, .code yX6_wholeShare cX6_wholeShare 2 (some .float), .fieldLink RX6 34 "Gatherhouse" "pieceCount" "I", .classLink RX6 280 "java/util/NoSuchElementException", .initialized "java/util/NoSuchElementException", .classLink RL 91 "java/util/NoSuchElementException"]
def wzL_wholeShare : List Cond := wzEL_wholeShare ++ (u_ws RX6 TX6 16 ++ ((z_atN RX6 284 "java/util/NoSuchElementException" "java/lang/RuntimeException" ["java/lang/Exception"]).filter goodWord))
theorem zgEL_wholeShare : wzEL_wholeShare.all goodWord = true := by decide +kernel
theorem zuL_wholeShare_X6 : ∀ w ∈ u_ws RX6 TX6 16, w ∈ wzL_wholeShare := (fun _ h => (List.mem_append_right _ (List.mem_append_left _ h)))
theorem ztL_wholeShare_X6_284 : ∀ w ∈ (z_atN RX6 284 "java/util/NoSuchElementException" "java/lang/RuntimeException" ["java/lang/Exception"]).filter goodWord, w ∈ wzL_wholeShare := (fun _ h => (List.mem_append_right _ (List.mem_append_right _ h)))
theorem gzL_wholeShare_X6_wholeShare_147 : GoodIn wzL_wholeShare (wsV RL 147 RX6 yX6_wholeShare wzX6_wholeShare) := (goodIn_app (z_lift (goodIn_r _ [1, 2, 3, 4] rfl (by decide +kernel))) (goodIn_app (z_lift (goodIn_r wzEX6_wholeShare [5, 6, 7, 8] rfl zgEX6_wholeShare)) (goodIn_app (goodIn_sub (fun _ h => (List.mem_append_right _ (List.mem_append_left _ h))) zgU_X6) (goodIn_sub (fun _ h => (List.mem_append_right _ (List.mem_append_right _ h))) zgV_X6_284))))
set_option maxHeartbeats 4000000 in
set_option maxRecDepth 100000 in
theorem zc_L_wholeShare (l : Launch) (hnt : l.stackTraces = false) (D : va_G) (G : Nat × Nat × Nat) (xo : Nat) (xg : Nat) (xp : Nat) (xq : Nat) (r1 : Nat) (r2 : Nat) (r3 : Nat) (r4 : Nat) (se : Nat) (ts : Int32) (hq : Int32) (od : Nat) (cD : ClassId) (sz : Nat) : vx_Met l yL_wholeShare wzL_wholeShare ({ frames := 7, cells := 1, slots := 6, locals := 103 }) (va_Pc [.ref xo, .ref od] (p_RW D G [(cD, .double)] [(xo, .inr (11, [.ref xg, .int 0, .ref xp, .int 0, .ref xq, .int 0, .ref r1, .ref r2, .ref r3, .ref r4, .ref se, .int ts, .int hq, .int 40, .int 0, .int 0])), (od, .inl (cD, 1, .inr (.inr (.inr (.inl (fun _ => 0))))))] sz)) (va_Qi (fun (r : Int32) (u : Unit) => r = 1) (fun (u : Unit) (t : State) => True) (va_A [(xo, .inr (11, [.ref xg, .int 0, .ref xp, .int 0, .ref xq, .int 0, .ref r1, .ref r2, .ref r3, .ref r4, .ref se, .int ts, .int hq, .int 40, .int 0, .int 0])), (od, .inl (cD, 1, .inr (.inr (.inr (.inl (fun _ => 0))))))] sz)) (vx_X (fun (_ : Unit) => True) (fun E (_ : Unit) (_ : State) => False) (va_A [(xo, .inr (11, [.ref xg, .int 0, .ref xp, .int 0, .ref xq, .int 0, .ref r1, .ref r2, .ref r3, .ref r4, .ref se, .int ts, .int hq, .int 40, .int 0, .int 0])), (od, .inl (cD, 1, .inr (.inr (.inr (.inl (fun _ => 0))))))] sz)) 1 6 (va_A [(xo, .inr (11, [.ref xg, .int 0, .ref xp, .int 0, .ref xq, .int 0, .ref r1, .ref r2, .ref r3, .ref r4, .ref se, .int ts, .int hq, .int 40, .int 0, .int 0])), (od, .inl (cD, 1, .inr (.inr (.inr (.inl (fun _ => 0))))))] sz) := by
  refine vx_ofWH (cc := cL_wholeShare) (maxL := 3) (ret := (some .int)) (by decide) rfl ?_
  intro p e s m args below meth c s₁ B hml hv
  obtain ⟨rfl, hsz, hP, hK, hD0, hT, hZ⟩ := hv
  have hx := B.exec
  have hb := B.bytes
  have hr := B.returns
  have hts := atoms_spec (ws := wzL_wholeShare) B.pre
  have hown : s.vm.findClass RL = some m.cls := findClass_of_methodNamed B.named
  have hlocks := B.notSynchronized
  have hxe := vx_table (x := yL_wholeShare) B (hts _ List.mem_cons_self)
  subst hsz
  have hD := hD0.self (sz := s.heap.size)
  generalize hAe : va_A [(xo, .inr (11, [.ref xg, .int 0, .ref xp, .int 0, .ref xq, .int 0, .ref r1, .ref r2, .ref r3, .ref r4, .ref se, .int ts, .int hq, .int 40, .int 0, .int 0])), (od, .inl (cD, 1, .inr (.inr (.inr (.inl (fun _ => 0))))))] s.heap.size = A at hD hZ ⊢
  have hA : ∀ q : Nat, s.heap.size ≤ q → A q := fun q h => by rw [← hAe]; exact Or.inr h
  have hS : va_S A s.heap s.heap [] := va_S.rf
  have hl := lv_entry ([.ref xo, .ref od]) (n := 3) (Nat.le_of_ble_eq_true rfl)
  rw [lg_entry_eq]
  generalize (lg_sl ([.ref xo, .ref od]) ++ List.replicate (3 - (lg_sl ([.ref xo, .ref od])).length) Slot.unset).toArray = ls at hl ⊢
  have hl : lv_has ls 3 [(0, .ref xo), (1, .ref od)] := hl
  refine lv_aload_n hx hb dL_wholeShare_0 rfl (lv_at hl 1 rfl) ?_
  refine lv_iconst (v := 0) hx hb dL_wholeShare_1 (by decide) ?_
  refine lv_aload_n hx hb dL_wholeShare_2 rfl (lv_at hl 0 rfl) ?_
  have hFc := va_free (wc := [(xo, .inr (11, [.ref xg, .int 0, .ref xp, .int 0, .ref xq, .int 0, .ref r1, .ref r2, .ref r3, .ref r4, .ref se, .int ts, .int hq, .int 40, .int 0, .int 0]))]) hD hS hA [0] rfl
  refine vx_callf (vx_runV (As := []) (rest := [.int 0, .ref od]) ⟨hx, hb, hml, hown, hts⟩ (zc_X6_wholeShare l hnt D G xo xg xp xq r1 r2 r3 r4 se ts hq s.heap.size) (cwV 0 hts gzL_wholeShare_X6_wholeShare_147 rfl rfl rfl (by decide +kernel) ⟨(Nat.le_of_ble_eq_true rfl), (Nat.le_of_ble_eq_true rfl)⟩) ⟨p_RW_blind, va_recv hK hP (ci := 11) (q0 := 0) rfl rfl, (p_RW_at (tc := []) (wc := [(xo, .inr (11, [.ref xg, .int 0, .ref xp, .int 0, .ref xq, .int 0, .ref r1, .ref r2, .ref r3, .ref r4, .ref se, .int ts, .int hq, .int 40, .int 0, .int 0]))]) hP hK hD hS hA hT hZ [0] [] rfl rfl (by decide) rfl [.ref xo])⟩ rfl rfl hl.1 rfl (lv_room (Nat.le_of_ble_eq_true rfl)) dL_wholeShare_3 ⟨(Nat.le_of_ble_eq_true rfl), (Nat.le_of_ble_eq_true rfl)⟩) hS (fun q _ h => hFc q h) hFc (fun q _ h => hFc q h) (fun E ce q9 u t H locs ht hvm hpx hBX hz1 hk1 hS hce hcv hcl => ?_) (fun r_803 u t H locs ht hvm w_804 hB hz1 hk1 hS => ?_)
  · have hBX : (E = "java/util/NoSuchElementException") := hBX
    rcases hBX with rfl
    refine vx_catch (own := RL) (name := "java/util/NoSuchElementException") hown ([] : List ExceptionTableEntry) ⟨0, 8, 11, 91⟩ ([] : List ExceptionTableEntry) (by rw [hxe]; rfl) (fun _ h => absurd h List.not_mem_nil) (by decide) (by decide) (hts (.classLink RL 91 "java/util/NoSuchElementException") (by decide +kernel)) (va_Nw.use rfl (hT.2.2.1 ("java/util/NoSuchElementException", "java/util/NoSuchElementException") (by decide +kernel))) hce hcv hcl ?_
    refine W.eq (g2 := F0 m 11 ls [.ref q9]) rfl ?_
    refine lv_astore_n (lv' := [(2, .ref q9), (0, .ref xo), (1, .ref od)]) hx hb dL_wholeShare_11 rfl hl (by decide) rfl (fun ls hl => ?_)
    refine lv_iconst (v := 1) hx hb dL_wholeShare_12 (by decide) ?_
    refine vx_ret ?_
    exact W.iret (v := 1) hx hb hr (fun t ht hW => ⟨⟨1, (), rfl, rfl, trivial⟩, hS.F ht⟩) hS.2.2 dL_wholeShare_13
  · exact w_804.elim
theorem dL_meanMass_0 : decode cL_meanMass 0 = .ok (.aload_n 1, 1) := by decide +kernel
theorem dL_meanMass_1 : decode cL_meanMass 1 = .ok (.iconst 0, 1) := by decide +kernel
theorem dL_meanMass_2 : decode cL_meanMass 2 = .ok (.aload_n 0, 1) := by decide +kernel
theorem dL_meanMass_3 : decode cL_meanMass 3 = .ok (.invokevirtual 151, 3) := by decide +kernel
theorem dL_meanMass_10 : decode cL_meanMass 10 = .ok (.astore_n 2, 1) := by decide +kernel
theorem dL_meanMass_11 : decode cL_meanMass 11 = .ok (.iconst 1, 1) := by decide +kernel
theorem dL_meanMass_12 : decode cL_meanMass 12 = .ok (.ireturn, 1) := by decide +kernel
def wzEL_meanMass : List Cond := [.codeWith yL_meanMass cL_meanMass 3 (some .int) [(0, 7, 10, 91)], .methodLink RL 151 yX6_meanMass, .instanceMethod yX6_meanMass, .selects RX6 yX6_meanMass yX6_meanMass, .initialized RX6, .code yX6_meanMass cX6_meanMass 6 (some .double), .fieldLink RX6 34 "Gatherhouse" "pieceCount" "I", .classLink RX6 280 "java/util/NoSuchElementException", .initialized "java/util/NoSuchElementException", .classLink RL 91 "java/util/NoSuchElementException"]
def wzL_meanMass : List Cond := wzEL_meanMass ++ (u_ws RX6 TX6 16 ++ ((z_atN RX6 284 "java/util/NoSuchElementException" "java/lang/RuntimeException" ["java/lang/Exception"]).filter goodWord))
theorem zgEL_meanMass : wzEL_meanMass.all goodWord = true := by decide +kernel
theorem zuL_meanMass_X6 : ∀ w ∈ u_ws RX6 TX6 16, w ∈ wzL_meanMass := (fun _ h => (List.mem_append_right _ (List.mem_append_left _ h)))
theorem ztL_meanMass_X6_284 : ∀ w ∈ (z_atN RX6 284 "java/util/NoSuchElementException" "java/lang/RuntimeException" ["java/lang/Exception"]).filter goodWord, w ∈ wzL_meanMass := (fun _ h => (List.mem_append_right _ (List.mem_append_right _ h)))
theorem gzL_meanMass_X6_meanMass_151 : GoodIn wzL_meanMass (wsV RL 151 RX6 yX6_meanMass wzX6_meanMass) := (goodIn_app (z_lift (goodIn_r _ [1, 2, 3, 4] rfl (by decide +kernel))) (goodIn_app (z_lift (goodIn_r wzEX6_meanMass [5, 6, 7, 8] rfl zgEX6_meanMass)) (goodIn_app (goodIn_sub (fun _ h => (List.mem_append_right _ (List.mem_append_left _ h))) zgU_X6) (goodIn_sub (fun _ h => (List.mem_append_right _ (List.mem_append_right _ h))) zgV_X6_284))))
set_option maxHeartbeats 4000000 in
set_option maxRecDepth 100000 in
theorem zc_L_meanMass (l : Launch) (hnt : l.stackTraces = false) (D : va_G) (G : Nat × Nat × Nat) (xo : Nat) (xg : Nat) (xp : Nat) (xq : Nat) (r1 : Nat) (r2 : Nat) (r3 : Nat) (r4 : Nat) (se : Nat) (ts : Int32) (hq : Int32) (od : Nat) (cD : ClassId) (sz : Nat) : vx_Met l yL_meanMass wzL_meanMass ({ frames := 7, cells := 1, slots := 6, locals := 107 }) (va_Pc [.ref xo, .ref od] (p_RW D G [(cD, .double)] [(xo, .inr (11, [.ref xg, .int 0, .ref xp, .int 0, .ref xq, .int 0, .ref r1, .ref r2, .ref r3, .ref r4, .ref se, .int ts, .int hq, .int 40, .int 0, .int 0])), (od, .inl (cD, 1, .inr (.inr (.inr (.inl (fun _ => 0))))))] sz)) (va_Qi (fun (r : Int32) (u : Unit) => r = 1) (fun (u : Unit) (t : State) => True) (va_A [(xo, .inr (11, [.ref xg, .int 0, .ref xp, .int 0, .ref xq, .int 0, .ref r1, .ref r2, .ref r3, .ref r4, .ref se, .int ts, .int hq, .int 40, .int 0, .int 0])), (od, .inl (cD, 1, .inr (.inr (.inr (.inl (fun _ => 0))))))] sz)) (vx_X (fun (_ : Unit) => True) (fun E (_ : Unit) (_ : State) => False) (va_A [(xo, .inr (11, [.ref xg, .int 0, .ref xp, .int 0, .ref xq, .int 0, .ref r1, .ref r2, .ref r3, .ref r4, .ref se, .int ts, .int hq, .int 40, .int 0, .int 0])), (od, .inl (cD, 1, .inr (.inr (.inr (.inl (fun _ => 0))))))] sz)) 1 6 (va_A [(xo, .inr (11, [.ref xg, .int 0, .ref xp, .int 0, .ref xq, .int 0, .ref r1, .ref r2, .ref r3, .ref r4, .ref se, .int ts, .int hq, .int 40, .int 0, .int 0])), (od, .inl (cD, 1, .inr (.inr (.inr (.inl (fun _ => 0))))))] sz) := by
  refine vx_ofWH (cc := cL_meanMass) (maxL := 3) (ret := (some .int)) (by decide) rfl ?_
  intro p e s m args below meth c s₁ B hml hv
  obtain ⟨rfl, hsz, hP, hK, hD0, hT, hZ⟩ := hv
  have hx := B.exec
  have hb := B.bytes
  have hr := B.returns
  have hts := atoms_spec (ws := wzL_meanMass) B.pre
  have hown : s.vm.findClass RL = some m.cls := findClass_of_methodNamed B.named
  have hlocks := B.notSynchronized
  have hxe := vx_table (x := yL_meanMass) B (hts _ List.mem_cons_self)
  subst hsz
  have hD := hD0.self (sz := s.heap.size)
  generalize hAe : va_A [(xo, .inr (11, [.ref xg, .int 0, .ref xp, .int 0, .ref xq, .int 0, .ref r1, .ref r2, .ref r3, .ref r4, .ref se, .int ts, .int hq, .int 40, .int 0, .int 0])), (od, .inl (cD, 1, .inr (.inr (.inr (.inl (fun _ => 0))))))] s.heap.size = A at hD hZ ⊢
  have hA : ∀ q : Nat, s.heap.size ≤ q → A q := fun q h => by rw [← hAe]; exact Or.inr h
  have hS : va_S A s.heap s.heap [] := va_S.rf
  have hl := lv_entry ([.ref xo, .ref od]) (n := 3) (Nat.le_of_ble_eq_true rfl)
  rw [lg_entry_eq]
  generalize (lg_sl ([.ref xo, .ref od]) ++ List.replicate (3 - (lg_sl ([.ref xo, .ref od])).length) Slot.unset).toArray = ls at hl ⊢
  have hl : lv_has ls 3 [(0, .ref xo), (1, .ref od)] := hl
  refine lv_aload_n hx hb dL_meanMass_0 rfl (lv_at hl 1 rfl) ?_
  refine lv_iconst (v := 0) hx hb dL_meanMass_1 (by decide) ?_
  refine lv_aload_n hx hb dL_meanMass_2 rfl (lv_at hl 0 rfl) ?_
  have hFc := va_free (wc := [(xo, .inr (11, [.ref xg, .int 0, .ref xp, .int 0, .ref xq, .int 0, .ref r1, .ref r2, .ref r3, .ref r4, .ref se, .int ts, .int hq, .int 40, .int 0, .int 0]))]) hD hS hA [0] rfl
  refine vx_calld (vx_runV (As := []) (rest := [.int 0, .ref od]) ⟨hx, hb, hml, hown, hts⟩ (zc_X6_meanMass l hnt D G xo xg xp xq r1 r2 r3 r4 se ts hq s.heap.size) (cwV 0 hts gzL_meanMass_X6_meanMass_151 rfl rfl rfl (by decide +kernel) ⟨(Nat.le_of_ble_eq_true rfl), (Nat.le_of_ble_eq_true rfl)⟩) ⟨p_RW_blind, va_recv hK hP (ci := 11) (q0 := 0) rfl rfl, (p_RW_at (tc := []) (wc := [(xo, .inr (11, [.ref xg, .int 0, .ref xp, .int 0, .ref xq, .int 0, .ref r1, .ref r2, .ref r3, .ref r4, .ref se, .int ts, .int hq, .int 40, .int 0, .int 0]))]) hP hK hD hS hA hT hZ [0] [] rfl rfl (by decide) rfl [.ref xo])⟩ rfl rfl hl.1 rfl (lv_room (Nat.le_of_ble_eq_true rfl)) dL_meanMass_3 ⟨(Nat.le_of_ble_eq_true rfl), (Nat.le_of_ble_eq_true rfl)⟩) hS (fun q _ h => hFc q h) hFc (fun q _ h => hFc q h) (fun E ce q9 u t H locs ht hvm hpx hBX hz1 hk1 hS hce hcv hcl => ?_) (fun r_805 u t H locs ht hvm w_806 hB hz1 hk1 hS => ?_)
  · have hBX : (E = "java/util/NoSuchElementException") := hBX
    rcases hBX with rfl
    refine vx_catch (own := RL) (name := "java/util/NoSuchElementException") hown ([] : List ExceptionTableEntry) ⟨0, 7, 10, 91⟩ ([] : List ExceptionTableEntry) (by rw [hxe]; rfl) (fun _ h => absurd h List.not_mem_nil) (by decide) (by decide) (hts (.classLink RL 91 "java/util/NoSuchElementException") (by decide +kernel)) (va_Nw.use rfl (hT.2.2.1 ("java/util/NoSuchElementException", "java/util/NoSuchElementException") (by decide +kernel))) hce hcv hcl ?_
    refine W.eq (g2 := F0 m 10 ls [.ref q9]) rfl ?_
    refine lv_astore_n (lv' := [(2, .ref q9), (0, .ref xo), (1, .ref od)]) hx hb dL_meanMass_10 rfl hl (by decide) rfl (fun ls hl => ?_)
    refine lv_iconst (v := 1) hx hb dL_meanMass_11 (by decide) ?_
    refine vx_ret ?_
    exact W.iret (v := 1) hx hb hr (fun t ht hW => ⟨⟨1, (), rfl, rfl, trivial⟩, hS.F ht⟩) hS.2.2 dL_meanMass_12
  · exact w_806.elim
